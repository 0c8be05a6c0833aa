def ws_X12_fresh_120 : List (Int × Int) := [(120, 3), (120, 4), (120, 5), (120, 6), (120, 7), (120, 8), (120, 9)]
def as_X12_fresh_120 : List Int := []
def q_X12_fresh_120 (M0 M' : Mem) (r : Option PV) : Prop := St Pm1 ws_X12_fresh_120 as_X12_fresh_120 M0 M' ∧ ∃ v : Int, r = some (1, v) ∧ (-9223372036854775808) ≤ v ∧ v ≤ 9223372036854775807 ∧ (rd M' 120 3 = 0 ∨ rd M' 120 4 + 1 ≤ rd M' 120 5) ∧ (rd M' 120 4 ≤ rd M' 120 5) ∧ (rd M' 120 3 ≠ 1 ∨ rd M' 120 4 + 2 ≤ rd M' 120 5 ∨ rd M' 120 7 < 256) ∧ (rd M0 120 4 ≤ rd M' 120 4 ∧ rd M0 120 5 ≤ rd M' 120 5 ∧ tav M0 ≤ tav M') ∧ (rd M0 120 8 = 0 ∨ rd M' 120 8 = rd M0 120 8) ∧ (1 ≤ rd M' 120 8 ∨ tav M0 < tav M')
set_option maxRecDepth 100000 in
set_option maxHeartbeats 4000000 in
theorem sp_X12_fresh_120 {l : Launch} {K : EC} {M0 : Mem} (hI : In Pm1 M0) (en_120_37 : rd M0 120 37 = 1)   (hq0 : rd M0 120 3 = 0 ∨ rd M0 120 4 + 1 ≤ rd M0 120 5) (hq1 : rd M0 120 4 ≤ rd M0 120 5) (hq2 : rd M0 120 3 ≠ 1 ∨ rd M0 120 4 + 2 ≤ rd M0 120 5 ∨ rd M0 120 7 < 256) : Tr l K 2 mX12_fresh 0 [(0, (2, 120))] [] M0 (q_X12_fresh_120 M0) := by
  have hS : St Pm1 ws_X12_fresh_120 as_X12_fresh_120 M0 M0 := St.rf hI
  obtain ⟨g120_8, eg120_8⟩ : ∃ v, rd M0 120 8 = v := ⟨_, rfl⟩
  have bg120_8 : 0 ≤ g120_8 ∧ g120_8 ≤ 5 := by rw [← eg120_8]; exact ir_120_8 hI.2.1
  obtain ⟨g120_3, eg120_3⟩ : ∃ v, rd M0 120 3 = v := ⟨_, rfl⟩
  have bg120_3 : 0 ≤ g120_3 ∧ g120_3 ≤ 3 := by rw [← eg120_3]; exact ir_120_3 hI.2.1
  obtain ⟨g120_4, eg120_4⟩ : ∃ v, rd M0 120 4 = v := ⟨_, rfl⟩
  have bg120_4 : 0 ≤ g120_4 ∧ g120_4 ≤ 900 := by rw [← eg120_4]; exact ir_120_4 hI.2.1
  obtain ⟨g120_5, eg120_5⟩ : ∃ v, rd M0 120 5 = v := ⟨_, rfl⟩
  have bg120_5 : 0 ≤ g120_5 ∧ g120_5 ≤ 900 := by rw [← eg120_5]; exact ir_120_5 hI.2.1
  obtain ⟨g120_7, eg120_7⟩ : ∃ v, rd M0 120 7 = v := ⟨_, rfl⟩
  have bg120_7 : (-9223372036854775808) ≤ g120_7 ∧ g120_7 ≤ 9223372036854775807 := by rw [← eg120_7]; exact ir_120_7 hI.2.1
  obtain ⟨g9010_0, eg9010_0⟩ : ∃ v, tav M0 = v := ⟨_, rfl⟩
  have bg9010_0 : (-1) ≤ g9010_0 ∧ g9010_0 ≤ 1800 := by rw [← eg9010_0]; exact (tav_b hI.2.1)
  replace hq0 := hd_i hq0
  replace hq2 := hd_i hq2
  refine Tr.aload_n (pc := 0) (i := 0) d_X12_fresh_0 rfl rfl ?_
  refine Tr.getf (pc := 1) d_X12_fresh_1 f_12_36 (by decide) (by decide) (ty_120 hS.1.1) ?_
  refine Tr.tp g120_8 eg120_8 ?_
  refine Tr.if_le (pc := 4) (tgt := 9) d_X12_fresh_4 rfl (fun c4 => ?_) (fun c4 => ?_)
  · refine Tr.aload_n (pc := 9) (i := 0) d_X12_fresh_9 rfl rfl ?_
    refine Tr.getf (pc := 10) d_X12_fresh_10 f_12_20 (by decide) (by decide) (ty_120 hS.1.1) ?_
    refine Tr.tp g120_3 eg120_3 ?_
    refine Tr.iconst (pc := 13) d_X12_fresh_13 (by decide) ?_
    have J37 : ∀ (M : Mem) (u37_120_8 : Int), St Pm1 ws_X12_fresh_120 as_X12_fresh_120 M0 M → (0 ≤ u37_120_8 ∧ u37_120_8 ≤ 5) → rd M 120 3 = g120_3 → rd M 120 4 = g120_4 → rd M 120 5 = g120_5 → rd M 120 7 = g120_7 → rd M 120 8 = u37_120_8 → tav M = g9010_0 → (u37_120_8 ≠ 0 ∨ g120_3 ≠ 0) → (g120_8 = 0) → Tr l K 2 mX12_fresh 37 [(0, (2, 120))] [] M (q_X12_fresh_120 M0) := by
      intro M u37_120_8 hS bu37_120_8 k37_120_3 k37_120_4 k37_120_5 k37_120_7 k37_120_8 k37_9010_0 t37_0 t37_1
      replace t37_0 := hd_i t37_0
      refine Tr.aload_n (pc := 37) (i := 0) d_X12_fresh_37 rfl rfl ?_
      refine Tr.getf (pc := 38) d_X12_fresh_38 f_12_36 (by decide) (by decide) (ty_120 hS.1.1) ?_
      refine Tr.tp u37_120_8 k37_120_8 ?_
      have J89 : ∀ (M : Mem) (u89_120_8 : Int), St Pm1 ws_X12_fresh_120 as_X12_fresh_120 M0 M → (0 ≤ u89_120_8 ∧ u89_120_8 ≤ 5) → rd M 120 3 = g120_3 → rd M 120 4 = g120_4 → rd M 120 5 = g120_5 → rd M 120 7 = g120_7 → rd M 120 8 = u89_120_8 → tav M = g9010_0 → (u89_120_8 ≠ 0 ∨ g120_3 ≠ 0) → (g120_8 = 0) → Tr l K 2 mX12_fresh 89 [(0, (2, 120))] [] M (q_X12_fresh_120 M0) := by
        intro M u89_120_8 hS bu89_120_8 k89_120_3 k89_120_4 k89_120_5 k89_120_7 k89_120_8 k89_9010_0 t89_0 t89_1
        clear k37_120_3 k37_120_4 k37_120_5 k37_120_7 k37_120_8 k37_9010_0
        replace t89_0 := hd_i t89_0
        refine Tr.aload_n (pc := 89) (i := 0) d_X12_fresh_89 rfl rfl ?_
        refine Tr.getf (pc := 90) d_X12_fresh_90 f_12_32 (by decide) (by decide) (ty_120 hS.1.1) ?_
        refine Tr.tp g120_7 k89_120_7 ?_
        refine Tr.lstore_n (pc := 93) (i := 1) (ls2 := [(1, (1, g120_7)), (0, (2, 120))]) d_X12_fresh_93 rfl (by decide) rfl ?_
        refine Tr.aload_n (pc := 94) (i := 0) d_X12_fresh_94 rfl rfl ?_
        refine Tr.getf (pc := 95) d_X12_fresh_95 f_12_36 (by decide) (by decide) (ty_120 hS.1.1) ?_
        refine Tr.tp u89_120_8 k89_120_8 ?_
        refine Tr.if_ne (pc := 98) (tgt := 105) d_X12_fresh_98 rfl (fun c98 => ?_) (fun c98 => ?_)
        · have c98b : 1 ≤ u89_120_8 ∧ u89_120_8 ≤ 5 := by omega
          replace c98 := hd_i c98
          refine Tr.lload_n (pc := 105) (i := 1) d_X12_fresh_105 rfl rfl ?_
          have kr_120_3 : rd M 120 3 = g120_3 := k89_120_3
          have kr_120_4 : rd M 120 4 = g120_4 := k89_120_4
          have kr_120_5 : rd M 120 5 = g120_5 := k89_120_5
          have kr_120_7 : rd M 120 7 = g120_7 := k89_120_7
          have kr_120_8 : rd M 120 8 = u89_120_8 := k89_120_8
          have kr_9010_0 : tav M = g9010_0 := k89_9010_0
          exact Tr.lret (pc := 106) d_X12_fresh_106 rfl ⟨hS, _, rfl, (by omega), (by omega), (by first | exact (hd_o hq0) | exact (hd_o hq0).elim (fun h1 => by omega) (fun h1 => by omega)), (by omega), (by first | exact (hd_o hq2) | exact (hd_o hq2).elim (fun h1 => by omega) (fun h1 => h1.elim (fun h1 => by omega) (fun h1 => by omega))), (by and_intros <;> omega), (by omega), (by omega)⟩
        · refine Tr.aload_n (pc := 101) (i := 0) d_X12_fresh_101 rfl rfl ?_
          refine Tr.callV (pc := 102) (as := []) d_X12_fresh_102 s_12_396 ok_X12_next rfl rfl (Nat.le_of_ble_eq_true rfl) (Nat.le_of_ble_eq_true rfl) (by decide) (ty_120 hS.1.1) ?_
          have kb102_120_3 : rd M 120 3 = g120_3 := k89_120_3
          have kb102_120_5 : rd M 120 5 = g120_5 := k89_120_5
          have kb102_120_8 : rd M 120 8 = u89_120_8 := k89_120_8
          have kb102_9010_0 : tav M = g9010_0 := k89_9010_0
          refine Tr.imp (Tr.deep (by decide) (sp_X12_next_120 hS.1 )) ?_
          rintro M102 _ ⟨h102, rfl, z102_0, z102_1, z102_2, z102_3, z102_4, z102_5, z102_6⟩
          have hS := St.tr hS h102 (by decide) (by decide)
          obtain ⟨s102_120_3, es102_120_3⟩ : ∃ v, rd M102 120 3 = v := ⟨_, rfl⟩
          have bs102_120_3 : 0 ≤ s102_120_3 ∧ s102_120_3 ≤ 3 := by rw [← es102_120_3]; exact ir_120_3 hS.1.2.1
          obtain ⟨s102_120_4, es102_120_4⟩ : ∃ v, rd M102 120 4 = v := ⟨_, rfl⟩
          have bs102_120_4 : 0 ≤ s102_120_4 ∧ s102_120_4 ≤ 900 := by rw [← es102_120_4]; exact ir_120_4 hS.1.2.1
          obtain ⟨s102_120_5, es102_120_5⟩ : ∃ v, rd M102 120 5 = v := ⟨_, rfl⟩
          have bs102_120_5 : 0 ≤ s102_120_5 ∧ s102_120_5 ≤ 900 := by rw [← es102_120_5]; exact ir_120_5 hS.1.2.1
          obtain ⟨s102_120_7, es102_120_7⟩ : ∃ v, rd M102 120 7 = v := ⟨_, rfl⟩
          have bs102_120_7 : (-9223372036854775808) ≤ s102_120_7 ∧ s102_120_7 ≤ 9223372036854775807 := by rw [← es102_120_7]; exact ir_120_7 hS.1.2.1
          obtain ⟨s102_120_8, es102_120_8⟩ : ∃ v, rd M102 120 8 = v := ⟨_, rfl⟩
          have bs102_120_8 : 0 ≤ s102_120_8 ∧ s102_120_8 ≤ 5 := by rw [← es102_120_8]; exact ir_120_8 hS.1.2.1
          obtain ⟨s102_9010_0, es102_9010_0⟩ : ∃ v, tav M102 = v := ⟨_, rfl⟩
          have bs102_9010_0 : (-1) ≤ s102_9010_0 ∧ s102_9010_0 ≤ 1800 := by rw [← es102_9010_0]; exact (tav_b hS.1.2.1)
          rewrite [es102_120_3, es102_120_4, es102_120_5] at z102_0
          replace z102_0 := hd_i z102_0
          rewrite [es102_120_4, es102_120_5] at z102_1
          rewrite [es102_120_3, es102_120_4, es102_120_5, es102_120_7] at z102_2
          replace z102_2 := hd_i z102_2
          rewrite [es102_120_4, kb102_120_5] at z102_3
          rewrite [es102_9010_0, kb102_9010_0] at z102_4
          rewrite [es102_9010_0, kb102_120_3, kb102_9010_0] at z102_5
          replace z102_5 := hd_i z102_5
          rewrite [es102_120_8, kb102_120_8] at z102_6
          replace z102_6 := hd_i z102_6
          refine Tr.sc [] rfl ?_
          refine Tr.lload_n (pc := 105) (i := 1) d_X12_fresh_105 rfl rfl ?_
          have kr_120_3 : rd M102 120 3 = s102_120_3 := es102_120_3
          have kr_120_4 : rd M102 120 4 = s102_120_4 := es102_120_4
          have kr_120_5 : rd M102 120 5 = s102_120_5 := es102_120_5
          have kr_120_7 : rd M102 120 7 = s102_120_7 := es102_120_7
          have kr_120_8 : rd M102 120 8 = s102_120_8 := es102_120_8
          have kr_9010_0 : tav M102 = s102_9010_0 := es102_9010_0
          exact Tr.lret (pc := 106) d_X12_fresh_106 rfl ⟨hS, _, rfl, (by omega), (by omega), (by first | exact (hd_o z102_0) | exact (hd_o z102_0).elim (fun h1 => by omega) (fun h1 => by omega)), (by omega), (by first | exact (hd_o z102_2) | exact (hd_o z102_2).elim (fun h1 => by omega) (fun h1 => h1.elim (fun h1 => by omega) (fun h1 => by omega))), (by and_intros <;> omega), (by omega), (by exact (hd_o t89_0).elim (fun h1 => (ne_o h1).elim (fun h2 => by omega) (fun h2 => by omega)) (fun h1 => (ne_o h1).elim (fun h2 => by omega) (fun h2 => (hd_o z102_5).elim (fun h3 => by omega) (fun h3 => by omega))))⟩
      refine Tr.if_ne (pc := 41) (tgt := 89) d_X12_fresh_41 rfl (fun c41 => ?_) (fun c41 => ?_)
      · have c41b : 1 ≤ u37_120_8 ∧ u37_120_8 ≤ 5 := by omega
        replace c41 := hd_i c41
        refine Tr.pick [0] (ls2 := [(0, (2, 120))]) rfl ?_
        exact J89 _ _ hS (by and_intros <;> omega) k37_120_3 k37_120_4 k37_120_5 k37_120_7 k37_120_8 k37_9010_0 (by first | exact (hd_o t37_0) | exact (hd_o t37_0).elim (fun h1 => by omega) (fun h1 => by omega)) (by omega)
      · refine Tr.aload_n (pc := 44) (i := 0) d_X12_fresh_44 rfl rfl ?_
        refine Tr.aload_n (pc := 45) (i := 0) d_X12_fresh_45 rfl rfl ?_
        refine Tr.getf (pc := 46) d_X12_fresh_46 f_12_32 (by decide) (by decide) (ty_120 hS.1.1) ?_
        refine Tr.tp g120_7 k37_120_7 ?_
        refine Tr.callV (pc := 49) (as := [_]) d_X12_fresh_49 s_12_457 ok_X12_partOf rfl rfl (Nat.le_of_ble_eq_true rfl) (Nat.le_of_ble_eq_true rfl) (by decide) (ty_120 hS.1.1) ?_
        refine Tr.imp (Tr.deep (by decide) (sp_X12_partOf_120 hS.1.wk ((St.kp hS (by decide) (by decide) (by decide)).trans en_120_37) g120_7 (by omega))) ?_
        rintro M49 _ ⟨h49, r49, rfl, lr49, ur49⟩
        have h49 := St.rn h49 (Pm1.of hS.1.2.2.2.2 (fun _ => St.ka h49 (by decide) (by decide) (by decide)) (fun _ => St.ka h49 (by decide) (by decide) (by decide)) (fun _ => St.ka h49 (by decide) (by decide) (by decide)) (fun _ => St.ka h49 (by decide) (by decide) (by decide)) (fun _ => St.ka h49 (by decide) (by decide) (by decide)) (fun _ => St.ka h49 (by decide) (by decide) (by decide)) (fun _ => St.ka h49 (by decide) (by decide) (by decide)) (fun _ => St.ka h49 (by decide) (by decide) (by decide)) (fun _ => St.ka h49 (by decide) (by decide) (by decide)) (fun _ => St.ka h49 (by decide) (by decide) (by decide)) (St.kp h49 (by decide) (by decide) (by decide)) (St.kp h49 (by decide) (by decide) (by decide)) (St.kp h49 (by decide) (by decide) (by decide)) (St.kp h49 (by decide) (by decide) (by decide)) (St.kp h49 (by decide) (by decide) (by decide)) (St.kp h49 (by decide) (by decide) (by decide)) (St.kp h49 (by decide) (by decide) (by decide)) (St.kp h49 (by decide) (by decide) (by decide)) (St.kp h49 (by decide) (by decide) (by decide)) (St.kp h49 (by decide) (by decide) (by decide)) (St.kp h49 (by decide) (by decide) (by decide)))
        have hS := St.tr hS h49 (by decide) (by decide)
        refine Tr.sc [(0, r49)] rfl ?_
        refine Tr.iconst (pc := 52) d_X12_fresh_52 (by decide) ?_
        have J80 : ∀ (M : Mem), St Pm1 ws_X12_fresh_120 as_X12_fresh_120 M0 M → rd M 120 3 = g120_3 → rd M 120 4 = g120_4 → rd M 120 5 = g120_5 → rd M 120 7 = g120_7 → rd M 120 8 = u37_120_8 → tav M = g9010_0 → (u37_120_8 ≠ 0 ∨ g120_3 ≠ 0) → (g120_8 = 0) → Tr l K 2 mX12_fresh 80 [(0, (2, 120))] [] M (q_X12_fresh_120 M0) := by
          intro M  hS  k80_120_3 k80_120_4 k80_120_5 k80_120_7 k80_120_8 k80_9010_0 t80_0 t80_1
          clear k37_120_3 k37_120_4 k37_120_5 k37_120_7 k37_120_8 k37_9010_0
          replace t80_0 := hd_i t80_0
          refine Tr.aload_n (pc := 80) (i := 0) d_X12_fresh_80 rfl rfl ?_
          refine Tr.iconst (pc := 81) d_X12_fresh_81 (by decide) ?_
          refine Tr.aload_n (pc := 82) (i := 0) d_X12_fresh_82 rfl rfl ?_
          refine Tr.getf (pc := 83) d_X12_fresh_83 f_12_23 (by decide) (by decide) (ty_120 hS.1.1) ?_
          refine Tr.tp g120_4 k80_120_4 ?_
          refine Tr.callV (pc := 86) (as := [_, _]) d_X12_fresh_86 s_12_389 ok_X12_blame rfl rfl (Nat.le_of_ble_eq_true rfl) (Nat.le_of_ble_eq_true rfl) (by decide) (ty_120 hS.1.1) ?_
          have kb86_120_8 : rd M 120 8 = u37_120_8 := k80_120_8
          refine Tr.imp (Tr.deep (by decide) (sp_X12_blame_120 hS.1 2 (by omega) g120_4 (by and_intros <;> omega))) ?_
          rintro M86 _ ⟨h86, rfl, z86_0⟩
          have hS := St.tr hS h86 (by decide) (by decide)
          obtain ⟨s86_120_8, es86_120_8⟩ : ∃ v, rd M86 120 8 = v := ⟨_, rfl⟩
          have bs86_120_8 : 0 ≤ s86_120_8 ∧ s86_120_8 ≤ 5 := by rw [← es86_120_8]; exact ir_120_8 hS.1.2.1
          rewrite [es86_120_8, kb86_120_8] at z86_0
          replace z86_0 := hd_i z86_0
          refine Tr.sc [] rfl ?_
          refine Tr.pick [0] (ls2 := [(0, (2, 120))]) rfl ?_
          exact J89 _ _ hS (by and_intros <;> omega) ((St.kp h86 (by decide) (by decide) (by decide)).trans k80_120_3) ((St.kp h86 (by decide) (by decide) (by decide)).trans k80_120_4) ((St.kp h86 (by decide) (by decide) (by decide)).trans k80_120_5) ((St.kp h86 (by decide) (by decide) (by decide)).trans k80_120_7) es86_120_8 ((tav_of ((St.kp h86 (by decide) (by decide) (by decide)).trans rfl) ((St.kp h86 (by decide) (by decide) (by decide)).trans rfl)).trans k80_9010_0) (by exact (hd_o z86_0).elim (fun h1 => by omega) (fun h1 => by omega)) (by omega)
        refine Tr.icmp_ne (pc := 53) (tgt := 80) d_X12_fresh_53 rfl (fun c53 => ?_) (fun c53 => ?_)
        · have c53b : 0 ≤ r49 ∧ r49 ≤ 5 := by omega
          replace c53 := hd_i c53
          refine Tr.pick [0] (ls2 := [(0, (2, 120))]) rfl ?_
          exact J80 _ hS ((St.kp h49 (by decide) (by decide) (by decide)).trans k37_120_3) ((St.kp h49 (by decide) (by decide) (by decide)).trans k37_120_4) ((St.kp h49 (by decide) (by decide) (by decide)).trans k37_120_5) ((St.kp h49 (by decide) (by decide) (by decide)).trans k37_120_7) ((St.kp h49 (by decide) (by decide) (by decide)).trans k37_120_8) ((tav_of ((St.kp h49 (by decide) (by decide) (by decide)).trans rfl) ((St.kp h49 (by decide) (by decide) (by decide)).trans rfl)).trans k37_9010_0) (by first | exact (hd_o t37_0) | exact (hd_o t37_0).elim (fun h1 => by omega) (fun h1 => by omega)) (by omega)
        · refine Tr.aload_n (pc := 56) (i := 0) d_X12_fresh_56 rfl rfl ?_
          refine Tr.aload_n (pc := 57) (i := 0) d_X12_fresh_57 rfl rfl ?_
          refine Tr.getf (pc := 58) d_X12_fresh_58 f_12_32 (by decide) (by decide) (ty_120 hS.1.1) ?_
          refine Tr.tp g120_7 ((St.kp h49 (by decide) (by decide) (by decide)).trans k37_120_7) ?_
          refine Tr.callV (pc := 61) (as := [_]) d_X12_fresh_61 s_12_461 ok_X12_inputOf rfl rfl (Nat.le_of_ble_eq_true rfl) (Nat.le_of_ble_eq_true rfl) (by decide) (ty_120 hS.1.1) ?_
          refine Tr.imp (Tr.deep (by decide) (sp_X12_inputOf_120 hS.1.wk ((St.kp hS (by decide) (by decide) (by decide)).trans en_120_37) g120_7 (by omega))) ?_
          rintro M61 _ ⟨h61, r61, rfl, lr61, ur61⟩
          have h61 := St.rn h61 (Pm1.of hS.1.2.2.2.2 (fun _ => St.ka h61 (by decide) (by decide) (by decide)) (fun _ => St.ka h61 (by decide) (by decide) (by decide)) (fun _ => St.ka h61 (by decide) (by decide) (by decide)) (fun _ => St.ka h61 (by decide) (by decide) (by decide)) (fun _ => St.ka h61 (by decide) (by decide) (by decide)) (fun _ => St.ka h61 (by decide) (by decide) (by decide)) (fun _ => St.ka h61 (by decide) (by decide) (by decide)) (fun _ => St.ka h61 (by decide) (by decide) (by decide)) (fun _ => St.ka h61 (by decide) (by decide) (by decide)) (fun _ => St.ka h61 (by decide) (by decide) (by decide)) (St.kp h61 (by decide) (by decide) (by decide)) (St.kp h61 (by decide) (by decide) (by decide)) (St.kp h61 (by decide) (by decide) (by decide)) (St.kp h61 (by decide) (by decide) (by decide)) (St.kp h61 (by decide) (by decide) (by decide)) (St.kp h61 (by decide) (by decide) (by decide)) (St.kp h61 (by decide) (by decide) (by decide)) (St.kp h61 (by decide) (by decide) (by decide)) (St.kp h61 (by decide) (by decide) (by decide)) (St.kp h61 (by decide) (by decide) (by decide)) (St.kp h61 (by decide) (by decide) (by decide)))
          have hS := St.tr hS h61 (by decide) (by decide)
          refine Tr.sc [(0, r61)] rfl ?_
          refine Tr.iconst (pc := 64) d_X12_fresh_64 (by decide) ?_
          refine Tr.icmp_ne (pc := 65) (tgt := 80) d_X12_fresh_65 rfl (fun c65 => ?_) (fun c65 => ?_)
          · have c65b : 0 ≤ r61 ∧ r61 ≤ 2 := by omega
            replace c65 := hd_i c65
            refine Tr.pick [0] (ls2 := [(0, (2, 120))]) rfl ?_
            exact J80 _ hS ((St.kp h61 (by decide) (by decide) (by decide)).trans ((St.kp h49 (by decide) (by decide) (by decide)).trans k37_120_3)) ((St.kp h61 (by decide) (by decide) (by decide)).trans ((St.kp h49 (by decide) (by decide) (by decide)).trans k37_120_4)) ((St.kp h61 (by decide) (by decide) (by decide)).trans ((St.kp h49 (by decide) (by decide) (by decide)).trans k37_120_5)) ((St.kp h61 (by decide) (by decide) (by decide)).trans ((St.kp h49 (by decide) (by decide) (by decide)).trans k37_120_7)) ((St.kp h61 (by decide) (by decide) (by decide)).trans ((St.kp h49 (by decide) (by decide) (by decide)).trans k37_120_8)) ((tav_of ((St.kp h61 (by decide) (by decide) (by decide)).trans ((St.kp h49 (by decide) (by decide) (by decide)).trans rfl)) ((St.kp h61 (by decide) (by decide) (by decide)).trans ((St.kp h49 (by decide) (by decide) (by decide)).trans rfl))).trans k37_9010_0) (by first | exact (hd_o t37_0) | exact (hd_o t37_0).elim (fun h1 => by omega) (fun h1 => by omega)) (by omega)
          · refine Tr.aload_n (pc := 68) (i := 0) d_X12_fresh_68 rfl rfl ?_
            refine Tr.aload_n (pc := 69) (i := 0) d_X12_fresh_69 rfl rfl ?_
            refine Tr.getf (pc := 70) d_X12_fresh_70 f_12_32 (by decide) (by decide) (ty_120 hS.1.1) ?_
            refine Tr.tp g120_7 ((St.kp h61 (by decide) (by decide) (by decide)).trans ((St.kp h49 (by decide) (by decide) (by decide)).trans k37_120_7)) ?_
            refine Tr.callV (pc := 73) (as := [_]) d_X12_fresh_73 s_12_464 ok_X12_varOf rfl rfl (Nat.le_of_ble_eq_true rfl) (Nat.le_of_ble_eq_true rfl) (by decide) (ty_120 hS.1.1) ?_
            refine Tr.imp (Tr.deep (by decide) (sp_X12_varOf_120 hS.1.wk ((St.kp hS (by decide) (by decide) (by decide)).trans en_120_37) g120_7 (by omega))) ?_
            rintro M73 _ ⟨h73, r73, rfl, lr73, ur73⟩
            have h73 := St.rn h73 (Pm1.of hS.1.2.2.2.2 (fun _ => St.ka h73 (by decide) (by decide) (by decide)) (fun _ => St.ka h73 (by decide) (by decide) (by decide)) (fun _ => St.ka h73 (by decide) (by decide) (by decide)) (fun _ => St.ka h73 (by decide) (by decide) (by decide)) (fun _ => St.ka h73 (by decide) (by decide) (by decide)) (fun _ => St.ka h73 (by decide) (by decide) (by decide)) (fun _ => St.ka h73 (by decide) (by decide) (by decide)) (fun _ => St.ka h73 (by decide) (by decide) (by decide)) (fun _ => St.ka h73 (by decide) (by decide) (by decide)) (fun _ => St.ka h73 (by decide) (by decide) (by decide)) (St.kp h73 (by decide) (by decide) (by decide)) (St.kp h73 (by decide) (by decide) (by decide)) (St.kp h73 (by decide) (by decide) (by decide)) (St.kp h73 (by decide) (by decide) (by decide)) (St.kp h73 (by decide) (by decide) (by decide)) (St.kp h73 (by decide) (by decide) (by decide)) (St.kp h73 (by decide) (by decide) (by decide)) (St.kp h73 (by decide) (by decide) (by decide)) (St.kp h73 (by decide) (by decide) (by decide)) (St.kp h73 (by decide) (by decide) (by decide)) (St.kp h73 (by decide) (by decide) (by decide)))
            have hS := St.tr hS h73 (by decide) (by decide)
            refine Tr.sc [(0, r73)] rfl ?_
            refine Tr.iconst (pc := 76) d_X12_fresh_76 (by decide) ?_
            refine Tr.icmp_eq (pc := 77) (tgt := 89) d_X12_fresh_77 rfl (fun c77 => ?_) (fun c77 => ?_)
            · refine Tr.pick [0] (ls2 := [(0, (2, 120))]) rfl ?_
              exact J89 _ _ hS (by and_intros <;> omega) ((St.kp h73 (by decide) (by decide) (by decide)).trans ((St.kp h61 (by decide) (by decide) (by decide)).trans ((St.kp h49 (by decide) (by decide) (by decide)).trans k37_120_3))) ((St.kp h73 (by decide) (by decide) (by decide)).trans ((St.kp h61 (by decide) (by decide) (by decide)).trans ((St.kp h49 (by decide) (by decide) (by decide)).trans k37_120_4))) ((St.kp h73 (by decide) (by decide) (by decide)).trans ((St.kp h61 (by decide) (by decide) (by decide)).trans ((St.kp h49 (by decide) (by decide) (by decide)).trans k37_120_5))) ((St.kp h73 (by decide) (by decide) (by decide)).trans ((St.kp h61 (by decide) (by decide) (by decide)).trans ((St.kp h49 (by decide) (by decide) (by decide)).trans k37_120_7))) ((St.kp h73 (by decide) (by decide) (by decide)).trans ((St.kp h61 (by decide) (by decide) (by decide)).trans ((St.kp h49 (by decide) (by decide) (by decide)).trans k37_120_8))) ((tav_of ((St.kp h73 (by decide) (by decide) (by decide)).trans ((St.kp h61 (by decide) (by decide) (by decide)).trans ((St.kp h49 (by decide) (by decide) (by decide)).trans rfl))) ((St.kp h73 (by decide) (by decide) (by decide)).trans ((St.kp h61 (by decide) (by decide) (by decide)).trans ((St.kp h49 (by decide) (by decide) (by decide)).trans rfl)))).trans k37_9010_0) (by first | exact (hd_o t37_0) | exact (hd_o t37_0).elim (fun h1 => by omega) (fun h1 => by omega)) (by omega)
            · have c77b : 0 ≤ r73 ∧ r73 ≤ 5 := by omega
              replace c77 := hd_i c77
              refine Tr.pick [0] (ls2 := [(0, (2, 120))]) rfl ?_
              exact J80 _ hS ((St.kp h73 (by decide) (by decide) (by decide)).trans ((St.kp h61 (by decide) (by decide) (by decide)).trans ((St.kp h49 (by decide) (by decide) (by decide)).trans k37_120_3))) ((St.kp h73 (by decide) (by decide) (by decide)).trans ((St.kp h61 (by decide) (by decide) (by decide)).trans ((St.kp h49 (by decide) (by decide) (by decide)).trans k37_120_4))) ((St.kp h73 (by decide) (by decide) (by decide)).trans ((St.kp h61 (by decide) (by decide) (by decide)).trans ((St.kp h49 (by decide) (by decide) (by decide)).trans k37_120_5))) ((St.kp h73 (by decide) (by decide) (by decide)).trans ((St.kp h61 (by decide) (by decide) (by decide)).trans ((St.kp h49 (by decide) (by decide) (by decide)).trans k37_120_7))) ((St.kp h73 (by decide) (by decide) (by decide)).trans ((St.kp h61 (by decide) (by decide) (by decide)).trans ((St.kp h49 (by decide) (by decide) (by decide)).trans k37_120_8))) ((tav_of ((St.kp h73 (by decide) (by decide) (by decide)).trans ((St.kp h61 (by decide) (by decide) (by decide)).trans ((St.kp h49 (by decide) (by decide) (by decide)).trans rfl))) ((St.kp h73 (by decide) (by decide) (by decide)).trans ((St.kp h61 (by decide) (by decide) (by decide)).trans ((St.kp h49 (by decide) (by decide) (by decide)).trans rfl)))).trans k37_9010_0) (by first | exact (hd_o t37_0) | exact (hd_o t37_0).elim (fun h1 => by omega) (fun h1 => by omega)) (by omega)
    have J28 : ∀ (M : Mem), St Pm1 ws_X12_fresh_120 as_X12_fresh_120 M0 M → rd M 120 3 = g120_3 → rd M 120 4 = g120_4 → rd M 120 5 = g120_5 → rd M 120 7 = g120_7 → rd M 120 8 = g120_8 → tav M = g9010_0 → (g120_8 = 0) → (g120_8 = 0) → Tr l K 2 mX12_fresh 28 [(0, (2, 120))] [] M (q_X12_fresh_120 M0) := by
      intro M  hS  k28_120_3 k28_120_4 k28_120_5 k28_120_7 k28_120_8 k28_9010_0 t28_0 t28_1
      refine Tr.aload_n (pc := 28) (i := 0) d_X12_fresh_28 rfl rfl ?_
      refine Tr.iconst (pc := 29) d_X12_fresh_29 (by decide) ?_
      refine Tr.aload_n (pc := 30) (i := 0) d_X12_fresh_30 rfl rfl ?_
      refine Tr.getf (pc := 31) d_X12_fresh_31 f_12_23 (by decide) (by decide) (ty_120 hS.1.1) ?_
      refine Tr.tp g120_4 k28_120_4 ?_
      refine Tr.callV (pc := 34) (as := [_, _]) d_X12_fresh_34 s_12_389 ok_X12_blame rfl rfl (Nat.le_of_ble_eq_true rfl) (Nat.le_of_ble_eq_true rfl) (by decide) (ty_120 hS.1.1) ?_
      have kb34_120_8 : rd M 120 8 = g120_8 := k28_120_8
      refine Tr.imp (Tr.deep (by decide) (sp_X12_blame_120 hS.1 1 (by omega) g120_4 (by and_intros <;> omega))) ?_
      rintro M34 _ ⟨h34, rfl, z34_0⟩
      have hS := St.tr hS h34 (by decide) (by decide)
      obtain ⟨s34_120_8, es34_120_8⟩ : ∃ v, rd M34 120 8 = v := ⟨_, rfl⟩
      have bs34_120_8 : 0 ≤ s34_120_8 ∧ s34_120_8 ≤ 5 := by rw [← es34_120_8]; exact ir_120_8 hS.1.2.1
      rewrite [es34_120_8, kb34_120_8] at z34_0
      replace z34_0 := hd_i z34_0
      refine Tr.sc [] rfl ?_
      refine Tr.pick [0] (ls2 := [(0, (2, 120))]) rfl ?_
      exact J37 _ _ hS (by and_intros <;> omega) ((St.kp h34 (by decide) (by decide) (by decide)).trans k28_120_3) ((St.kp h34 (by decide) (by decide) (by decide)).trans k28_120_4) ((St.kp h34 (by decide) (by decide) (by decide)).trans k28_120_5) ((St.kp h34 (by decide) (by decide) (by decide)).trans k28_120_7) es34_120_8 ((tav_of ((St.kp h34 (by decide) (by decide) (by decide)).trans rfl) ((St.kp h34 (by decide) (by decide) (by decide)).trans rfl)).trans k28_9010_0) (by exact (hd_o z34_0).elim (fun h1 => by omega) (fun h1 => by omega)) (by omega)
    refine Tr.icmp_ne (pc := 14) (tgt := 28) d_X12_fresh_14 rfl (fun c14 => ?_) (fun c14 => ?_)
    · replace c14 := hd_i c14
      refine Tr.pick [0] (ls2 := [(0, (2, 120))]) rfl ?_
      exact J28 _ hS eg120_3 eg120_4 eg120_5 eg120_7 eg120_8 eg9010_0 (by omega) (by omega)
    · refine Tr.aload_n (pc := 17) (i := 0) d_X12_fresh_17 rfl rfl ?_
      refine Tr.aload_n (pc := 18) (i := 0) d_X12_fresh_18 rfl rfl ?_
      refine Tr.getf (pc := 19) d_X12_fresh_19 f_12_32 (by decide) (by decide) (ty_120 hS.1.1) ?_
      refine Tr.tp g120_7 eg120_7 ?_
      refine Tr.callV (pc := 22) (as := [_]) d_X12_fresh_22 s_12_453 ok_X12_isOwn rfl rfl (Nat.le_of_ble_eq_true rfl) (Nat.le_of_ble_eq_true rfl) (by decide) (ty_120 hS.1.1) ?_
      refine Tr.imp (Tr.deep (by decide) (sp_X12_isOwn_120 hS.1.wk g120_7 (by omega))) ?_
      rintro M22 _ ⟨h22, r22, rfl, lr22, ur22⟩
      have h22 := St.rn h22 (Pm1.of hS.1.2.2.2.2 (fun _ => St.ka h22 (by decide) (by decide) (by decide)) (fun _ => St.ka h22 (by decide) (by decide) (by decide)) (fun _ => St.ka h22 (by decide) (by decide) (by decide)) (fun _ => St.ka h22 (by decide) (by decide) (by decide)) (fun _ => St.ka h22 (by decide) (by decide) (by decide)) (fun _ => St.ka h22 (by decide) (by decide) (by decide)) (fun _ => St.ka h22 (by decide) (by decide) (by decide)) (fun _ => St.ka h22 (by decide) (by decide) (by decide)) (fun _ => St.ka h22 (by decide) (by decide) (by decide)) (fun _ => St.ka h22 (by decide) (by decide) (by decide)) (St.kp h22 (by decide) (by decide) (by decide)) (St.kp h22 (by decide) (by decide) (by decide)) (St.kp h22 (by decide) (by decide) (by decide)) (St.kp h22 (by decide) (by decide) (by decide)) (St.kp h22 (by decide) (by decide) (by decide)) (St.kp h22 (by decide) (by decide) (by decide)) (St.kp h22 (by decide) (by decide) (by decide)) (St.kp h22 (by decide) (by decide) (by decide)) (St.kp h22 (by decide) (by decide) (by decide)) (St.kp h22 (by decide) (by decide) (by decide)) (St.kp h22 (by decide) (by decide) (by decide)))
      have hS := St.tr hS h22 (by decide) (by decide)
      refine Tr.sc [(0, r22)] rfl ?_
      refine Tr.if_eq (pc := 25) (tgt := 37) d_X12_fresh_25 rfl (fun c25 => ?_) (fun c25 => ?_)
      · refine Tr.pick [0] (ls2 := [(0, (2, 120))]) rfl ?_
        exact J37 _ _ hS (by and_intros <;> omega) ((St.kp h22 (by decide) (by decide) (by decide)).trans eg120_3) ((St.kp h22 (by decide) (by decide) (by decide)).trans eg120_4) ((St.kp h22 (by decide) (by decide) (by decide)).trans eg120_5) ((St.kp h22 (by decide) (by decide) (by decide)).trans eg120_7) ((St.kp h22 (by decide) (by decide) (by decide)).trans eg120_8) ((tav_of ((St.kp h22 (by decide) (by decide) (by decide)).trans rfl) ((St.kp h22 (by decide) (by decide) (by decide)).trans rfl)).trans eg9010_0) (by omega) (by omega)
      · have c25b : 1 ≤ r22 ∧ r22 ≤ 1 := by omega
        replace c25 := hd_i c25
        refine Tr.pick [0] (ls2 := [(0, (2, 120))]) rfl ?_
        exact J28 _ hS ((St.kp h22 (by decide) (by decide) (by decide)).trans eg120_3) ((St.kp h22 (by decide) (by decide) (by decide)).trans eg120_4) ((St.kp h22 (by decide) (by decide) (by decide)).trans eg120_5) ((St.kp h22 (by decide) (by decide) (by decide)).trans eg120_7) ((St.kp h22 (by decide) (by decide) (by decide)).trans eg120_8) ((tav_of ((St.kp h22 (by decide) (by decide) (by decide)).trans rfl) ((St.kp h22 (by decide) (by decide) (by decide)).trans rfl)).trans eg9010_0) (by omega) (by omega)
  · refine Tr.lconst (pc := 7) (v := 0) d_X12_fresh_7 rfl (by decide) ?_
    have kr_120_3 : rd M0 120 3 = g120_3 := eg120_3
    have kr_120_4 : rd M0 120 4 = g120_4 := eg120_4
    have kr_120_5 : rd M0 120 5 = g120_5 := eg120_5
    have kr_120_7 : rd M0 120 7 = g120_7 := eg120_7
    have kr_120_8 : rd M0 120 8 = g120_8 := eg120_8
    have kr_9010_0 : tav M0 = g9010_0 := eg9010_0
    exact Tr.lret (pc := 8) d_X12_fresh_8 rfl ⟨hS, _, rfl, by omega, by omega, (by first | exact (hd_o hq0) | exact (hd_o hq0).elim (fun h1 => by omega) (fun h1 => by omega)), (by omega), (by first | exact (hd_o hq2) | exact (hd_o hq2).elim (fun h1 => by omega) (fun h1 => h1.elim (fun h1 => by omega) (fun h1 => by omega))), (by and_intros <;> omega), (by omega), (by omega)⟩

def ws_X12_variable_120 : List (Int × Int) := [(120, 3), (120, 4), (120, 5), (120, 6), (120, 7), (120, 8), (120, 9), (128, 1)]
def as_X12_variable_120 : List Int := [135]
def q_X12_variable_120 (M0 M' : Mem) (r : Option PV) : Prop := St Pm1 ws_X12_variable_120 as_X12_variable_120 M0 M' ∧ r = none ∧ (rd M' 120 3 = 0 ∨ rd M' 120 4 + 1 ≤ rd M' 120 5) ∧ (rd M' 120 4 ≤ rd M' 120 5) ∧ (rd M' 120 3 ≠ 1 ∨ rd M' 120 4 + 2 ≤ rd M' 120 5 ∨ rd M' 120 7 < 256) ∧ (rd M0 120 4 ≤ rd M' 120 4 ∧ rd M0 120 5 ≤ rd M' 120 5 ∧ tav M0 ≤ tav M') ∧ (rd M0 120 8 = 0 ∨ rd M' 120 8 = rd M0 120 8) ∧ (1 ≤ rd M' 120 8 ∨ tav M0 < tav M')
set_option maxRecDepth 100000 in
set_option maxHeartbeats 4000000 in
theorem sp_X12_variable_120 {l : Launch} {K : EC} {M0 : Mem} (hI : In Pm1 M0) (en_120_37 : rd M0 120 37 = 1)   (hq0 : rd M0 120 3 = 0 ∨ rd M0 120 4 + 1 ≤ rd M0 120 5) (hq1 : rd M0 120 4 ≤ rd M0 120 5) (hq2 : rd M0 120 3 ≠ 1 ∨ rd M0 120 4 + 2 ≤ rd M0 120 5 ∨ rd M0 120 7 < 256) (hq3 : rd M0 120 3 ≠ 0) (hq4 : rd M0 120 8 = 0) : Tr l K 3 mX12_variable 0 [(0, (2, 120))] [] M0 (q_X12_variable_120 M0) := by
  have hS : St Pm1 ws_X12_variable_120 as_X12_variable_120 M0 M0 := St.rf hI
  obtain ⟨g120_8, eg120_8⟩ : ∃ v, rd M0 120 8 = v := ⟨_, rfl⟩
  have bg120_8 : 0 ≤ g120_8 ∧ g120_8 ≤ 5 := by rw [← eg120_8]; exact ir_120_8 hI.2.1
  obtain ⟨g120_3, eg120_3⟩ : ∃ v, rd M0 120 3 = v := ⟨_, rfl⟩
  have bg120_3 : 0 ≤ g120_3 ∧ g120_3 ≤ 3 := by rw [← eg120_3]; exact ir_120_3 hI.2.1
  obtain ⟨g120_4, eg120_4⟩ : ∃ v, rd M0 120 4 = v := ⟨_, rfl⟩
  have bg120_4 : 0 ≤ g120_4 ∧ g120_4 ≤ 900 := by rw [← eg120_4]; exact ir_120_4 hI.2.1
  obtain ⟨g120_5, eg120_5⟩ : ∃ v, rd M0 120 5 = v := ⟨_, rfl⟩
  have bg120_5 : 0 ≤ g120_5 ∧ g120_5 ≤ 900 := by rw [← eg120_5]; exact ir_120_5 hI.2.1
  obtain ⟨g120_7, eg120_7⟩ : ∃ v, rd M0 120 7 = v := ⟨_, rfl⟩
  have bg120_7 : (-9223372036854775808) ≤ g120_7 ∧ g120_7 ≤ 9223372036854775807 := by rw [← eg120_7]; exact ir_120_7 hI.2.1
  obtain ⟨g9010_0, eg9010_0⟩ : ∃ v, tav M0 = v := ⟨_, rfl⟩
  have bg9010_0 : (-1) ≤ g9010_0 ∧ g9010_0 ≤ 1800 := by rw [← eg9010_0]; exact (tav_b hI.2.1)
  obtain ⟨g128_1, eg128_1⟩ : ∃ v, rd M0 128 1 = v := ⟨_, rfl⟩
  have bg128_1 : 0 ≤ g128_1 ∧ g128_1 ≤ 6 := by rw [← eg128_1]; exact ir_128_1 hI.2.1
  replace hq0 := hd_i hq0
  replace hq2 := hd_i hq2
  replace hq3 := hd_i hq3
  refine Tr.aload_n (pc := 0) (i := 0) d_X12_variable_0 rfl rfl ?_
  refine Tr.aload_n (pc := 1) (i := 0) d_X12_variable_1 rfl rfl ?_
  refine Tr.getf (pc := 2) d_X12_variable_2 f_12_69 (by decide) (by decide) (ty_120 hS.1.1) ?_
  refine Tr.tp 128 (fx_120_19 hS.1.1) ?_
  refine Tr.aload_n (pc := 5) (i := 0) d_X12_variable_5 rfl rfl ?_
  refine Tr.getf (pc := 6) d_X12_variable_6 f_12_124 (by decide) (by decide) (ty_120 hS.1.1) ?_
  refine Tr.tp 1 ((St.kp hS (by decide) (by decide) (by decide)).trans en_120_37) ?_
  refine Tr.iald (pc := 9) d_X12_variable_9 (ty_128 hS.1.1) (by omega) (by omega) ?_
  refine Tr.tp g128_1 eg128_1 ?_
  refine Tr.bipush (pc := 10) d_X12_variable_10 rfl (by decide) ?_
  have J20 : ∀ (M : Mem) (q20_1 : Int), St Pm1 ws_X12_variable_120 as_X12_variable_120 M0 M → (0 ≤ q20_1 ∧ q20_1 ≤ 1) → rd M 120 3 = g120_3 → rd M 120 4 = g120_4 → rd M 120 5 = g120_5 → rd M 120 7 = g120_7 → rd M 120 8 = g120_8 → rd M 128 1 = g128_1 → tav M = g9010_0 → ((q20_1 = 1 ∧ g128_1 = 6) ∨ (q20_1 = 0 ∧ g128_1 ≠ 6)) → Tr l K 3 mX12_variable 20 [(0, (2, 120))] [(0, q20_1), (2, 120)] M (q_X12_variable_120 M0) := by
    intro M q20_1 hS bq20_1 k20_120_3 k20_120_4 k20_120_5 k20_120_7 k20_120_8 k20_128_1 k20_9010_0 t20_0
    replace t20_0 := hd_i t20_0
    refine Tr.callV (pc := 20) (as := [_]) d_X12_variable_20 s_12_505 ok_X12_counts rfl rfl (Nat.le_of_ble_eq_true rfl) (Nat.le_of_ble_eq_true rfl) (by decide) (ty_120 hS.1.1) ?_
    have kb20_120_3 : rd M 120 3 = g120_3 := k20_120_3
    have kb20_120_4 : rd M 120 4 = g120_4 := k20_120_4
    have kb20_120_5 : rd M 120 5 = g120_5 := k20_120_5
    have kb20_120_7 : rd M 120 7 = g120_7 := k20_120_7
    have kb20_120_8 : rd M 120 8 = g120_8 := k20_120_8
    have kb20_9010_0 : tav M = g9010_0 := k20_9010_0
    refine Tr.imp (Tr.deep (by decide) (sp_X12_counts_120 hS.1 q20_1 (by and_intros <;> omega) (by first | exact (hd_o hq0) | exact (hd_o hq0).elim (fun h1 => by omega) (fun h1 => by omega)) (by omega) (by first | exact (hd_o hq2) | exact (hd_o hq2).elim (fun h1 => by omega) (fun h1 => h1.elim (fun h1 => by omega) (fun h1 => by omega))) (by have h1 := (hd_o hq3); omega))) ?_
    rintro M20 _ ⟨h20, rfl, z20_0, z20_1, z20_2, z20_3, z20_4, z20_5, z20_6⟩
    have hS := St.tr hS h20 (by decide) (by decide)
    obtain ⟨s20_120_3, es20_120_3⟩ : ∃ v, rd M20 120 3 = v := ⟨_, rfl⟩
    have bs20_120_3 : 0 ≤ s20_120_3 ∧ s20_120_3 ≤ 3 := by rw [← es20_120_3]; exact ir_120_3 hS.1.2.1
    obtain ⟨s20_120_4, es20_120_4⟩ : ∃ v, rd M20 120 4 = v := ⟨_, rfl⟩
    have bs20_120_4 : 0 ≤ s20_120_4 ∧ s20_120_4 ≤ 900 := by rw [← es20_120_4]; exact ir_120_4 hS.1.2.1
    obtain ⟨s20_120_5, es20_120_5⟩ : ∃ v, rd M20 120 5 = v := ⟨_, rfl⟩
    have bs20_120_5 : 0 ≤ s20_120_5 ∧ s20_120_5 ≤ 900 := by rw [← es20_120_5]; exact ir_120_5 hS.1.2.1
    obtain ⟨s20_120_7, es20_120_7⟩ : ∃ v, rd M20 120 7 = v := ⟨_, rfl⟩
    have bs20_120_7 : (-9223372036854775808) ≤ s20_120_7 ∧ s20_120_7 ≤ 9223372036854775807 := by rw [← es20_120_7]; exact ir_120_7 hS.1.2.1
    obtain ⟨s20_120_8, es20_120_8⟩ : ∃ v, rd M20 120 8 = v := ⟨_, rfl⟩
    have bs20_120_8 : 0 ≤ s20_120_8 ∧ s20_120_8 ≤ 5 := by rw [← es20_120_8]; exact ir_120_8 hS.1.2.1
    obtain ⟨s20_9010_0, es20_9010_0⟩ : ∃ v, tav M20 = v := ⟨_, rfl⟩
    have bs20_9010_0 : (-1) ≤ s20_9010_0 ∧ s20_9010_0 ≤ 1800 := by rw [← es20_9010_0]; exact (tav_b hS.1.2.1)
    rewrite [es20_120_3, es20_120_4, es20_120_5] at z20_0
    replace z20_0 := hd_i z20_0
    rewrite [es20_120_4, es20_120_5] at z20_1
    rewrite [es20_120_3, es20_120_4, es20_120_5, es20_120_7] at z20_2
    replace z20_2 := hd_i z20_2
    rewrite [es20_120_4, es20_120_5, es20_9010_0, kb20_120_4, kb20_120_5, kb20_9010_0] at z20_3
    rewrite [es20_120_8, kb20_120_8] at z20_4
    replace z20_4 := hd_i z20_4
    rewrite [es20_120_8, es20_9010_0, kb20_9010_0] at z20_5
    replace z20_5 := hd_i z20_5
    rewrite [es20_120_8] at z20_6
    replace z20_6 := hd_i z20_6
    refine Tr.sc [] rfl ?_
    refine Tr.aload_n (pc := 23) (i := 0) d_X12_variable_23 rfl rfl ?_
    refine Tr.getf (pc := 24) d_X12_variable_24 f_12_36 (by decide) (by decide) (ty_120 hS.1.1) ?_
    refine Tr.tp s20_120_8 es20_120_8 ?_
    refine Tr.if_le (pc := 27) (tgt := 31) d_X12_variable_27 rfl (fun c27 => ?_) (fun c27 => ?_)
    · refine Tr.aload_n (pc := 31) (i := 0) d_X12_variable_31 rfl rfl ?_
      refine Tr.getf (pc := 32) d_X12_variable_32 f_12_91 (by decide) (by decide) (ty_120 hS.1.1) ?_
      refine Tr.tp 135 (fx_120_26 hS.1.1) ?_
      refine Tr.bipush (pc := 35) d_X12_variable_35 rfl (by decide) ?_
      refine Tr.aload_n (pc := 37) (i := 0) d_X12_variable_37 rfl rfl ?_
      refine Tr.getf (pc := 38) d_X12_variable_38 f_12_124 (by decide) (by decide) (ty_120 hS.1.1) ?_
      refine Tr.tp 1 ((St.kp hS (by decide) (by decide) (by decide)).trans en_120_37) ?_
      refine Tr.imul (pc := 41) d_X12_variable_41 ?_
      refine Tr.tp 6 (by decide) ?_
      refine Tr.aload_n (pc := 42) (i := 0) d_X12_variable_42 rfl rfl ?_
      refine Tr.getf (pc := 43) d_X12_variable_43 f_12_69 (by decide) (by decide) (ty_120 hS.1.1) ?_
      refine Tr.tp 128 (fx_120_19 hS.1.1) ?_
      refine Tr.aload_n (pc := 46) (i := 0) d_X12_variable_46 rfl rfl ?_
      refine Tr.getf (pc := 47) d_X12_variable_47 f_12_124 (by decide) (by decide) (ty_120 hS.1.1) ?_
      refine Tr.tp 1 ((St.kp hS (by decide) (by decide) (by decide)).trans en_120_37) ?_
      refine Tr.iald (pc := 50) d_X12_variable_50 (ty_128 hS.1.1) (by omega) (by omega) ?_
      refine Tr.tp g128_1 ((St.kp h20 (by decide) (by decide) (by decide)).trans k20_128_1) ?_
      refine Tr.iadd (pc := 51) d_X12_variable_51 ?_
      refine Tr.tp (g128_1 + 6) ((w32_id (by and_intros <;> omega)).trans (by omega)) ?_
      refine Tr.aload_n (pc := 52) (i := 0) d_X12_variable_52 rfl rfl ?_
      refine Tr.callV (pc := 53) (as := []) d_X12_variable_53 s_12_508 ok_X12_fresh rfl rfl (Nat.le_of_ble_eq_true rfl) (Nat.le_of_ble_eq_true rfl) (by decide) (ty_120 hS.1.1) ?_
      have kb53_120_3 : rd M20 120 3 = s20_120_3 := es20_120_3
      have kb53_120_4 : rd M20 120 4 = s20_120_4 := es20_120_4
      have kb53_120_5 : rd M20 120 5 = s20_120_5 := es20_120_5
      have kb53_120_7 : rd M20 120 7 = s20_120_7 := es20_120_7
      have kb53_120_8 : rd M20 120 8 = s20_120_8 := es20_120_8
      have kb53_9010_0 : tav M20 = s20_9010_0 := es20_9010_0
      refine Tr.imp (Tr.deep (by decide) (sp_X12_fresh_120 hS.1 ((St.kp hS (by decide) (by decide) (by decide)).trans en_120_37) (by first | exact (hd_o z20_0) | exact (hd_o z20_0).elim (fun h1 => by omega) (fun h1 => by omega)) (by omega) (by first | exact (hd_o z20_2) | exact (hd_o z20_2).elim (fun h1 => by omega) (fun h1 => h1.elim (fun h1 => by omega) (fun h1 => by omega))))) ?_
      rintro M53 _ ⟨h53, r53, rfl, lr53, ur53, z53_0, z53_1, z53_2, z53_3, z53_4, z53_5⟩
      have hS := St.tr hS h53 (by decide) (by decide)
      obtain ⟨s53_120_3, es53_120_3⟩ : ∃ v, rd M53 120 3 = v := ⟨_, rfl⟩
      have bs53_120_3 : 0 ≤ s53_120_3 ∧ s53_120_3 ≤ 3 := by rw [← es53_120_3]; exact ir_120_3 hS.1.2.1
      obtain ⟨s53_120_4, es53_120_4⟩ : ∃ v, rd M53 120 4 = v := ⟨_, rfl⟩
      have bs53_120_4 : 0 ≤ s53_120_4 ∧ s53_120_4 ≤ 900 := by rw [← es53_120_4]; exact ir_120_4 hS.1.2.1
      obtain ⟨s53_120_5, es53_120_5⟩ : ∃ v, rd M53 120 5 = v := ⟨_, rfl⟩
      have bs53_120_5 : 0 ≤ s53_120_5 ∧ s53_120_5 ≤ 900 := by rw [← es53_120_5]; exact ir_120_5 hS.1.2.1
      obtain ⟨s53_120_7, es53_120_7⟩ : ∃ v, rd M53 120 7 = v := ⟨_, rfl⟩
      have bs53_120_7 : (-9223372036854775808) ≤ s53_120_7 ∧ s53_120_7 ≤ 9223372036854775807 := by rw [← es53_120_7]; exact ir_120_7 hS.1.2.1
      obtain ⟨s53_120_8, es53_120_8⟩ : ∃ v, rd M53 120 8 = v := ⟨_, rfl⟩
      have bs53_120_8 : 0 ≤ s53_120_8 ∧ s53_120_8 ≤ 5 := by rw [← es53_120_8]; exact ir_120_8 hS.1.2.1
      obtain ⟨s53_9010_0, es53_9010_0⟩ : ∃ v, tav M53 = v := ⟨_, rfl⟩
      have bs53_9010_0 : (-1) ≤ s53_9010_0 ∧ s53_9010_0 ≤ 1800 := by rw [← es53_9010_0]; exact (tav_b hS.1.2.1)
      rewrite [es53_120_3, es53_120_4, es53_120_5] at z53_0
      replace z53_0 := hd_i z53_0
      rewrite [es53_120_4, es53_120_5] at z53_1
      rewrite [es53_120_3, es53_120_4, es53_120_5, es53_120_7] at z53_2
      replace z53_2 := hd_i z53_2
      rewrite [es53_120_4, es53_120_5, es53_9010_0, kb53_120_4, kb53_120_5, kb53_9010_0] at z53_3
      rewrite [es53_120_8, kb53_120_8] at z53_4
      replace z53_4 := hd_i z53_4
      rewrite [es53_120_8, es53_9010_0, kb53_9010_0] at z53_5
      replace z53_5 := hd_i z53_5
      refine Tr.sc [(1, r53), (0, (g128_1 + 6)), (2, 135)] rfl ?_
      refine Tr.lastS (pc := 56) (P := St Pm1 ws_X12_variable_120 as_X12_variable_120 M0) d_X12_variable_56 (ty_135 hS.1.1) (by omega) (by exact (hd_o t20_0).elim (fun h1 => (hd_o z20_6).elim (fun h2 => by omega) (fun h2 => by omega)) (fun h1 => (ne_o h1.2).elim (fun h2 => by omega) (fun h2 => by omega))) (sa_135 hS (by decide) (by omega) (Pm1.of hS.1.2.2.2.2 (fun _ => rd_wb _ rfl) (fun _ => rd_wb _ rfl) (fun _ => rd_wb _ rfl) (fun _ => rd_wb _ rfl) (fun _ => rd_wb _ rfl) (fun _ => rd_wb _ rfl) (fun _ => rd_wb _ rfl) (fun _ => rd_wb _ rfl) (fun _ => rd_wb _ rfl) (fun _ => rd_wb _ rfl) (rd_wb _ rfl) (rd_wb _ rfl) (rd_wb _ rfl) (rd_wb _ rfl) (rd_wb _ rfl) (rd_wb _ rfl) (rd_wb _ rfl) (rd_wb _ rfl) (rd_wb _ rfl) (rd_wb _ rfl) (rd_wb _ rfl))) (fun M56 hS w56 => ?_)
      refine Tr.aload_n (pc := 57) (i := 0) d_X12_variable_57 rfl rfl ?_
      refine Tr.getf (pc := 58) d_X12_variable_58 f_12_36 (by decide) (by decide) (ty_120 hS.1.1) ?_
      refine Tr.tp s53_120_8 ((Wr.b w56 rfl).trans es53_120_8) ?_
      refine Tr.if_ne (pc := 61) (tgt := 77) d_X12_variable_61 rfl (fun c61 => ?_) (fun c61 => ?_)
      · have c61b : 1 ≤ s53_120_8 ∧ s53_120_8 ≤ 5 := by omega
        replace c61 := hd_i c61
        have kr_120_3 : rd M56 120 3 = s53_120_3 := ((Wr.b w56 rfl).trans es53_120_3)
        have kr_120_4 : rd M56 120 4 = s53_120_4 := ((Wr.b w56 rfl).trans es53_120_4)
        have kr_120_5 : rd M56 120 5 = s53_120_5 := ((Wr.b w56 rfl).trans es53_120_5)
        have kr_120_7 : rd M56 120 7 = s53_120_7 := ((Wr.b w56 rfl).trans es53_120_7)
        have kr_120_8 : rd M56 120 8 = s53_120_8 := ((Wr.b w56 rfl).trans es53_120_8)
        have kr_9010_0 : tav M56 = s53_9010_0 := ((tav_of ((Wr.b w56 rfl).trans rfl) ((Wr.b w56 rfl).trans rfl)).trans es53_9010_0)
        exact Tr.vret (pc := 77) d_X12_variable_77 rfl ⟨hS, rfl, (by first | exact (hd_o z53_0) | exact (hd_o z53_0).elim (fun h1 => by omega) (fun h1 => by omega)), (by omega), (by first | exact (hd_o z53_2) | exact (hd_o z53_2).elim (fun h1 => by omega) (fun h1 => h1.elim (fun h1 => by omega) (fun h1 => by omega))), (by and_intros <;> omega), (by omega), (by omega)⟩
      · refine Tr.aload_n (pc := 64) (i := 0) d_X12_variable_64 rfl rfl ?_
        refine Tr.getf (pc := 65) d_X12_variable_65 f_12_69 (by decide) (by decide) (ty_120 hS.1.1) ?_
        refine Tr.tp 128 (fx_120_19 hS.1.1) ?_
        refine Tr.aload_n (pc := 68) (i := 0) d_X12_variable_68 rfl rfl ?_
        refine Tr.getf (pc := 69) d_X12_variable_69 f_12_124 (by decide) (by decide) (ty_120 hS.1.1) ?_
        refine Tr.tp 1 ((St.kp hS (by decide) (by decide) (by decide)).trans en_120_37) ?_
        refine Tr.dup2 (pc := 72) d_X12_variable_72 ne01 ne21 ?_
        refine Tr.iald (pc := 73) d_X12_variable_73 (ty_128 hS.1.1) (by omega) (by omega) ?_
        refine Tr.tp g128_1 ((Wr.b w56 rfl).trans ((St.kp h53 (by decide) (by decide) (by decide)).trans ((St.kp h20 (by decide) (by decide) (by decide)).trans k20_128_1))) ?_
        refine Tr.iconst (pc := 74) d_X12_variable_74 (by decide) ?_
        refine Tr.iadd (pc := 75) d_X12_variable_75 ?_
        refine Tr.tp (g128_1 + 1) ((w32_id (by and_intros <;> omega)).trans (by omega)) ?_
        refine Tr.iastS (pc := 76) (P := St Pm1 ws_X12_variable_120 as_X12_variable_120 M0) d_X12_variable_76 (ty_128 hS.1.1) (by omega) (by omega) (st_128_1 hS (by decide) (by exact (hd_o t20_0).elim (fun h1 => (hd_o z20_6).elim (fun h2 => by omega) (fun h2 => by omega)) (fun h1 => (ne_o h1.2).elim (fun h2 => by omega) (fun h2 => by omega))) (Pm1.of hS.1.2.2.2.2 (fun _ => rd_wb _ rfl) (fun _ => rd_wb _ rfl) (fun _ => rd_wb _ rfl) (fun _ => rd_wb _ rfl) (fun _ => rd_wb _ rfl) (fun _ => rd_wb _ rfl) (fun _ => rd_wb _ rfl) (fun _ => rd_wb _ rfl) (fun _ => rd_wb _ rfl) (fun _ => rd_wb _ rfl) (rd_wb _ rfl) (rd_wb _ rfl) (rd_wb _ rfl) (rd_wb _ rfl) (rd_wb _ rfl) (rd_wb _ rfl) (rd_wb _ rfl) (rd_wb _ rfl) (rd_wb _ rfl) (rd_wb _ rfl) (rd_wb _ rfl))) (fun M76 hS w76 => ?_)
        have kr_120_3 : rd M76 120 3 = s53_120_3 := ((Wr.b w76 rfl).trans ((Wr.b w56 rfl).trans es53_120_3))
        have kr_120_4 : rd M76 120 4 = s53_120_4 := ((Wr.b w76 rfl).trans ((Wr.b w56 rfl).trans es53_120_4))
        have kr_120_5 : rd M76 120 5 = s53_120_5 := ((Wr.b w76 rfl).trans ((Wr.b w56 rfl).trans es53_120_5))
        have kr_120_7 : rd M76 120 7 = s53_120_7 := ((Wr.b w76 rfl).trans ((Wr.b w56 rfl).trans es53_120_7))
        have kr_120_8 : rd M76 120 8 = s53_120_8 := ((Wr.b w76 rfl).trans ((Wr.b w56 rfl).trans es53_120_8))
        have kr_9010_0 : tav M76 = s53_9010_0 := ((tav_of ((Wr.b w76 rfl).trans ((Wr.b w56 rfl).trans rfl)) ((Wr.b w76 rfl).trans ((Wr.b w56 rfl).trans rfl))).trans es53_9010_0)
        exact Tr.vret (pc := 77) d_X12_variable_77 rfl ⟨hS, rfl, (by first | exact (hd_o z53_0) | exact (hd_o z53_0).elim (fun h1 => by omega) (fun h1 => by omega)), (by omega), (by first | exact (hd_o z53_2) | exact (hd_o z53_2).elim (fun h1 => by omega) (fun h1 => h1.elim (fun h1 => by omega) (fun h1 => by omega))), (by and_intros <;> omega), (by omega), (by exact (hd_o z53_5).elim (fun h1 => by omega) (fun h1 => by omega))⟩
    · have kr_120_3 : rd M20 120 3 = s20_120_3 := es20_120_3
      have kr_120_4 : rd M20 120 4 = s20_120_4 := es20_120_4
      have kr_120_5 : rd M20 120 5 = s20_120_5 := es20_120_5
      have kr_120_7 : rd M20 120 7 = s20_120_7 := es20_120_7
      have kr_120_8 : rd M20 120 8 = s20_120_8 := es20_120_8
      have kr_9010_0 : tav M20 = s20_9010_0 := es20_9010_0
      exact Tr.vret (pc := 30) d_X12_variable_30 rfl ⟨hS, rfl, (by first | exact (hd_o z20_0) | exact (hd_o z20_0).elim (fun h1 => by omega) (fun h1 => by omega)), (by omega), (by first | exact (hd_o z20_2) | exact (hd_o z20_2).elim (fun h1 => by omega) (fun h1 => h1.elim (fun h1 => by omega) (fun h1 => by omega))), (by and_intros <;> omega), (by first | exact (hd_o z20_4) | exact (hd_o z20_4).elim (fun h1 => by omega) (fun h1 => by omega)), (by first | exact (hd_o z20_5) | exact (hd_o z20_5).elim (fun h1 => by omega) (fun h1 => by omega))⟩
  refine Tr.icmp_ne (pc := 12) (tgt := 19) d_X12_variable_12 rfl (fun c12 => ?_) (fun c12 => ?_)
  · have c12b : 0 ≤ g128_1 ∧ g128_1 ≤ 5 := by omega
    replace c12 := hd_i c12
    refine Tr.iconst (pc := 19) d_X12_variable_19 (by decide) ?_
    refine Tr.pick [0] (ls2 := [(0, (2, 120))]) rfl ?_
    exact J20 _ _ hS (by omega) eg120_3 eg120_4 eg120_5 eg120_7 eg120_8 eg128_1 eg9010_0 (by omega)
  · refine Tr.iconst (pc := 15) d_X12_variable_15 (by decide) ?_
    refine Tr.goto (pc := 16) (tgt := 20) d_X12_variable_16 rfl ?_
    refine Tr.pick [0] (ls2 := [(0, (2, 120))]) rfl ?_
    exact J20 _ _ hS (by omega) eg120_3 eg120_4 eg120_5 eg120_7 eg120_8 eg128_1 eg9010_0 (by omega)

def ws_X12_number_120 : List (Int × Int) := [(120, 3), (120, 4), (120, 5), (120, 6), (120, 7), (120, 8), (120, 9)]
def as_X12_number_120 : List Int := []
def q_X12_number_120 (a1 : Int) (a2 : Int) (M0 M' : Mem) (r : Option PV) : Prop := St Pm1 ws_X12_number_120 as_X12_number_120 M0 M' ∧ ∃ v : Int, r = some (0, v) ∧ (-2147483648) ≤ v ∧ v ≤ 2147483647 ∧ (rd M' 120 3 = 0 ∨ rd M' 120 4 + 1 ≤ rd M' 120 5) ∧ (rd M' 120 4 ≤ rd M' 120 5) ∧ (rd M' 120 3 ≠ 1 ∨ rd M' 120 4 + 2 ≤ rd M' 120 5 ∨ rd M' 120 7 < 256) ∧ (rd M0 120 4 ≤ rd M' 120 4 ∧ rd M0 120 5 ≤ rd M' 120 5 ∧ tav M0 ≤ tav M') ∧ (rd M0 120 8 = 0 ∨ rd M' 120 8 = rd M0 120 8) ∧ (1 ≤ rd M' 120 8 ∨ tav M0 < tav M') ∧ (1 ≤ rd M' 120 8 ∨ (a1 ≤ v ∧ v ≤ a2))
set_option maxRecDepth 100000 in
set_option maxHeartbeats 4000000 in
theorem sp_X12_number_120 {l : Launch} {K : EC} {M0 : Mem} (hI : In Pm1 M0)  (a1 : Int) (ha1 : (-2147483648) ≤ a1 ∧ a1 ≤ 2147483647) (a2 : Int) (ha2 : 0 ≤ a2 ∧ a2 ≤ 999)  (hq0 : rd M0 120 3 = 0 ∨ rd M0 120 4 + 1 ≤ rd M0 120 5) (hq1 : rd M0 120 4 ≤ rd M0 120 5) (hq2 : rd M0 120 3 ≠ 1 ∨ rd M0 120 4 + 2 ≤ rd M0 120 5 ∨ rd M0 120 7 < 256) : Tr l K 2 mX12_number 0 [(0, (2, 120)), (1, (0, a1)), (2, (0, a2))] [] M0 (q_X12_number_120 a1 a2 M0) := by
  have hS : St Pm1 ws_X12_number_120 as_X12_number_120 M0 M0 := St.rf hI
  obtain ⟨g120_8, eg120_8⟩ : ∃ v, rd M0 120 8 = v := ⟨_, rfl⟩
  have bg120_8 : 0 ≤ g120_8 ∧ g120_8 ≤ 5 := by rw [← eg120_8]; exact ir_120_8 hI.2.1
  obtain ⟨g120_3, eg120_3⟩ : ∃ v, rd M0 120 3 = v := ⟨_, rfl⟩
  have bg120_3 : 0 ≤ g120_3 ∧ g120_3 ≤ 3 := by rw [← eg120_3]; exact ir_120_3 hI.2.1
  obtain ⟨g120_4, eg120_4⟩ : ∃ v, rd M0 120 4 = v := ⟨_, rfl⟩
  have bg120_4 : 0 ≤ g120_4 ∧ g120_4 ≤ 900 := by rw [← eg120_4]; exact ir_120_4 hI.2.1
  obtain ⟨g120_5, eg120_5⟩ : ∃ v, rd M0 120 5 = v := ⟨_, rfl⟩
  have bg120_5 : 0 ≤ g120_5 ∧ g120_5 ≤ 900 := by rw [← eg120_5]; exact ir_120_5 hI.2.1
  obtain ⟨g120_7, eg120_7⟩ : ∃ v, rd M0 120 7 = v := ⟨_, rfl⟩
  have bg120_7 : (-9223372036854775808) ≤ g120_7 ∧ g120_7 ≤ 9223372036854775807 := by rw [← eg120_7]; exact ir_120_7 hI.2.1
  obtain ⟨g9010_0, eg9010_0⟩ : ∃ v, tav M0 = v := ⟨_, rfl⟩
  have bg9010_0 : (-1) ≤ g9010_0 ∧ g9010_0 ≤ 1800 := by rw [← eg9010_0]; exact (tav_b hI.2.1)
  obtain ⟨g120_6, eg120_6⟩ : ∃ v, rd M0 120 6 = v := ⟨_, rfl⟩
  have bg120_6 : (-2147483648) ≤ g120_6 ∧ g120_6 ≤ 2147483647 := by rw [← eg120_6]; exact ir_120_6 hI.2.1
  replace hq0 := hd_i hq0
  replace hq2 := hd_i hq2
  refine Tr.aload_n (pc := 0) (i := 0) d_X12_number_0 rfl rfl ?_
  refine Tr.getf (pc := 1) d_X12_number_1 f_12_36 (by decide) (by decide) (ty_120 hS.1.1) ?_
  refine Tr.tp g120_8 eg120_8 ?_
  refine Tr.if_le (pc := 4) (tgt := 9) d_X12_number_4 rfl (fun c4 => ?_) (fun c4 => ?_)
  · refine Tr.aload_n (pc := 9) (i := 0) d_X12_number_9 rfl rfl ?_
    refine Tr.getf (pc := 10) d_X12_number_10 f_12_20 (by decide) (by decide) (ty_120 hS.1.1) ?_
    refine Tr.tp g120_3 eg120_3 ?_
    refine Tr.iconst (pc := 13) d_X12_number_13 (by decide) ?_
    have J26 : ∀ (M : Mem) (u26_120_8 : Int), St Pm1 ws_X12_number_120 as_X12_number_120 M0 M → (0 ≤ u26_120_8 ∧ u26_120_8 ≤ 5) → rd M 120 3 = g120_3 → rd M 120 4 = g120_4 → rd M 120 5 = g120_5 → rd M 120 6 = g120_6 → rd M 120 7 = g120_7 → rd M 120 8 = u26_120_8 → tav M = g9010_0 → (u26_120_8 ≠ 0 ∨ g120_3 ≠ 0) → (g120_8 = 0) → Tr l K 2 mX12_number 26 [(0, (2, 120)), (1, (0, a1)), (2, (0, a2))] [] M (q_X12_number_120 a1 a2 M0) := by
      intro M u26_120_8 hS bu26_120_8 k26_120_3 k26_120_4 k26_120_5 k26_120_6 k26_120_7 k26_120_8 k26_9010_0 t26_0 t26_1
      replace t26_0 := hd_i t26_0
      refine Tr.aload_n (pc := 26) (i := 0) d_X12_number_26 rfl rfl ?_
      refine Tr.getf (pc := 27) d_X12_number_27 f_12_36 (by decide) (by decide) (ty_120 hS.1.1) ?_
      refine Tr.tp u26_120_8 k26_120_8 ?_
      have J54 : ∀ (M : Mem) (u54_120_8 : Int), St Pm1 ws_X12_number_120 as_X12_number_120 M0 M → (0 ≤ u54_120_8 ∧ u54_120_8 ≤ 5) → rd M 120 3 = g120_3 → rd M 120 4 = g120_4 → rd M 120 5 = g120_5 → rd M 120 6 = g120_6 → rd M 120 7 = g120_7 → rd M 120 8 = u54_120_8 → tav M = g9010_0 → (u54_120_8 ≠ 0 ∨ g120_3 ≠ 0) → (g120_8 = 0) → (u54_120_8 ≠ 0 ∨ (a1 ≤ g120_6 ∧ g120_6 ≤ a2)) → Tr l K 2 mX12_number 54 [(0, (2, 120))] [] M (q_X12_number_120 a1 a2 M0) := by
        intro M u54_120_8 hS bu54_120_8 k54_120_3 k54_120_4 k54_120_5 k54_120_6 k54_120_7 k54_120_8 k54_9010_0 t54_0 t54_1 t54_2
        clear k26_120_3 k26_120_4 k26_120_5 k26_120_6 k26_120_7 k26_120_8 k26_9010_0
        replace t54_0 := hd_i t54_0
        replace t54_2 := hd_i t54_2
        refine Tr.aload_n (pc := 54) (i := 0) d_X12_number_54 rfl rfl ?_
        refine Tr.getf (pc := 55) d_X12_number_55 f_12_29 (by decide) (by decide) (ty_120 hS.1.1) ?_
        refine Tr.tp g120_6 k54_120_6 ?_
        refine Tr.istore_n (pc := 58) (i := 3) (ls2 := [(3, (0, g120_6)), (0, (2, 120))]) d_X12_number_58 rfl (by decide) rfl ?_
        refine Tr.aload_n (pc := 59) (i := 0) d_X12_number_59 rfl rfl ?_
        refine Tr.getf (pc := 60) d_X12_number_60 f_12_36 (by decide) (by decide) (ty_120 hS.1.1) ?_
        refine Tr.tp u54_120_8 k54_120_8 ?_
        refine Tr.if_ne (pc := 63) (tgt := 70) d_X12_number_63 rfl (fun c63 => ?_) (fun c63 => ?_)
        · have c63b : 1 ≤ u54_120_8 ∧ u54_120_8 ≤ 5 := by omega
          replace c63 := hd_i c63
          refine Tr.iload_n (pc := 70) (i := 3) d_X12_number_70 rfl rfl ?_
          have kr_120_3 : rd M 120 3 = g120_3 := k54_120_3
          have kr_120_4 : rd M 120 4 = g120_4 := k54_120_4
          have kr_120_5 : rd M 120 5 = g120_5 := k54_120_5
          have kr_120_7 : rd M 120 7 = g120_7 := k54_120_7
          have kr_120_8 : rd M 120 8 = u54_120_8 := k54_120_8
          have kr_9010_0 : tav M = g9010_0 := k54_9010_0
          exact Tr.iret (pc := 71) d_X12_number_71 rfl ⟨hS, _, rfl, (by omega), (by omega), (by first | exact (hd_o hq0) | exact (hd_o hq0).elim (fun h1 => by omega) (fun h1 => by omega)), (by omega), (by first | exact (hd_o hq2) | exact (hd_o hq2).elim (fun h1 => by omega) (fun h1 => h1.elim (fun h1 => by omega) (fun h1 => by omega))), (by and_intros <;> omega), (by omega), (by omega), (by omega)⟩
        · refine Tr.aload_n (pc := 66) (i := 0) d_X12_number_66 rfl rfl ?_
          refine Tr.callV (pc := 67) (as := []) d_X12_number_67 s_12_396 ok_X12_next rfl rfl (Nat.le_of_ble_eq_true rfl) (Nat.le_of_ble_eq_true rfl) (by decide) (ty_120 hS.1.1) ?_
          have kb67_120_3 : rd M 120 3 = g120_3 := k54_120_3
          have kb67_120_5 : rd M 120 5 = g120_5 := k54_120_5
          have kb67_120_8 : rd M 120 8 = u54_120_8 := k54_120_8
          have kb67_9010_0 : tav M = g9010_0 := k54_9010_0
          refine Tr.imp (Tr.deep (by decide) (sp_X12_next_120 hS.1 )) ?_
          rintro M67 _ ⟨h67, rfl, z67_0, z67_1, z67_2, z67_3, z67_4, z67_5, z67_6⟩
          have hS := St.tr hS h67 (by decide) (by decide)
          obtain ⟨s67_120_3, es67_120_3⟩ : ∃ v, rd M67 120 3 = v := ⟨_, rfl⟩
          have bs67_120_3 : 0 ≤ s67_120_3 ∧ s67_120_3 ≤ 3 := by rw [← es67_120_3]; exact ir_120_3 hS.1.2.1
          obtain ⟨s67_120_4, es67_120_4⟩ : ∃ v, rd M67 120 4 = v := ⟨_, rfl⟩
          have bs67_120_4 : 0 ≤ s67_120_4 ∧ s67_120_4 ≤ 900 := by rw [← es67_120_4]; exact ir_120_4 hS.1.2.1
          obtain ⟨s67_120_5, es67_120_5⟩ : ∃ v, rd M67 120 5 = v := ⟨_, rfl⟩
          have bs67_120_5 : 0 ≤ s67_120_5 ∧ s67_120_5 ≤ 900 := by rw [← es67_120_5]; exact ir_120_5 hS.1.2.1
          obtain ⟨s67_120_7, es67_120_7⟩ : ∃ v, rd M67 120 7 = v := ⟨_, rfl⟩
          have bs67_120_7 : (-9223372036854775808) ≤ s67_120_7 ∧ s67_120_7 ≤ 9223372036854775807 := by rw [← es67_120_7]; exact ir_120_7 hS.1.2.1
          obtain ⟨s67_120_8, es67_120_8⟩ : ∃ v, rd M67 120 8 = v := ⟨_, rfl⟩
          have bs67_120_8 : 0 ≤ s67_120_8 ∧ s67_120_8 ≤ 5 := by rw [← es67_120_8]; exact ir_120_8 hS.1.2.1
          obtain ⟨s67_9010_0, es67_9010_0⟩ : ∃ v, tav M67 = v := ⟨_, rfl⟩
          have bs67_9010_0 : (-1) ≤ s67_9010_0 ∧ s67_9010_0 ≤ 1800 := by rw [← es67_9010_0]; exact (tav_b hS.1.2.1)
          rewrite [es67_120_3, es67_120_4, es67_120_5] at z67_0
          replace z67_0 := hd_i z67_0
          rewrite [es67_120_4, es67_120_5] at z67_1
          rewrite [es67_120_3, es67_120_4, es67_120_5, es67_120_7] at z67_2
          replace z67_2 := hd_i z67_2
          rewrite [es67_120_4, kb67_120_5] at z67_3
          rewrite [es67_9010_0, kb67_9010_0] at z67_4
          rewrite [es67_9010_0, kb67_120_3, kb67_9010_0] at z67_5
          replace z67_5 := hd_i z67_5
          rewrite [es67_120_8, kb67_120_8] at z67_6
          replace z67_6 := hd_i z67_6
          refine Tr.sc [] rfl ?_
          refine Tr.iload_n (pc := 70) (i := 3) d_X12_number_70 rfl rfl ?_
          have kr_120_3 : rd M67 120 3 = s67_120_3 := es67_120_3
          have kr_120_4 : rd M67 120 4 = s67_120_4 := es67_120_4
          have kr_120_5 : rd M67 120 5 = s67_120_5 := es67_120_5
          have kr_120_7 : rd M67 120 7 = s67_120_7 := es67_120_7
          have kr_120_8 : rd M67 120 8 = s67_120_8 := es67_120_8
          have kr_9010_0 : tav M67 = s67_9010_0 := es67_9010_0
          exact Tr.iret (pc := 71) d_X12_number_71 rfl ⟨hS, _, rfl, (by omega), (by omega), (by first | exact (hd_o z67_0) | exact (hd_o z67_0).elim (fun h1 => by omega) (fun h1 => by omega)), (by omega), (by first | exact (hd_o z67_2) | exact (hd_o z67_2).elim (fun h1 => by omega) (fun h1 => h1.elim (fun h1 => by omega) (fun h1 => by omega))), (by and_intros <;> omega), (by omega), (by exact (hd_o t54_0).elim (fun h1 => (ne_o h1).elim (fun h2 => by omega) (fun h2 => by omega)) (fun h1 => (ne_o h1).elim (fun h2 => by omega) (fun h2 => (hd_o z67_5).elim (fun h3 => by omega) (fun h3 => by omega)))), (by exact (hd_o t54_2).elim (fun h1 => (ne_o h1).elim (fun h2 => by omega) (fun h2 => by omega)) (fun h1 => by omega))⟩
      refine Tr.if_ne (pc := 30) (tgt := 54) d_X12_number_30 rfl (fun c30 => ?_) (fun c30 => ?_)
      · have c30b : 1 ≤ u26_120_8 ∧ u26_120_8 ≤ 5 := by omega
        replace c30 := hd_i c30
        refine Tr.pick [0] (ls2 := [(0, (2, 120))]) rfl ?_
        exact J54 _ _ hS (by and_intros <;> omega) k26_120_3 k26_120_4 k26_120_5 k26_120_6 k26_120_7 k26_120_8 k26_9010_0 (by first | exact (hd_o t26_0) | exact (hd_o t26_0).elim (fun h1 => by omega) (fun h1 => by omega)) (by omega) (by omega)
      · refine Tr.aload_n (pc := 33) (i := 0) d_X12_number_33 rfl rfl ?_
        refine Tr.getf (pc := 34) d_X12_number_34 f_12_29 (by decide) (by decide) (ty_120 hS.1.1) ?_
        refine Tr.tp g120_6 k26_120_6 ?_
        refine Tr.iload_n (pc := 37) (i := 1) d_X12_number_37 rfl rfl ?_
        refine Tr.iload_n (pc := 38) (i := 2) d_X12_number_38 rfl rfl ?_
        refine Tr.callS (pc := 39) (as := [_, _, _]) d_X12_number_39 s_12_467 ok_X12_is rfl rfl (Nat.le_of_ble_eq_true rfl) (Nat.le_of_ble_eq_true rfl) ?_
        refine Tr.imp (Tr.deep (by decide) (sp_X12_is hS.1.wk g120_6 (by and_intros <;> omega) a1 (by and_intros <;> omega) a2 (by and_intros <;> omega))) ?_
        rintro M39 _ ⟨h39, r39, rfl, lr39, ur39, wr39⟩
        have h39 := St.rn h39 (Pm1.of hS.1.2.2.2.2 (fun _ => St.ka h39 (by decide) (by decide) (by decide)) (fun _ => St.ka h39 (by decide) (by decide) (by decide)) (fun _ => St.ka h39 (by decide) (by decide) (by decide)) (fun _ => St.ka h39 (by decide) (by decide) (by decide)) (fun _ => St.ka h39 (by decide) (by decide) (by decide)) (fun _ => St.ka h39 (by decide) (by decide) (by decide)) (fun _ => St.ka h39 (by decide) (by decide) (by decide)) (fun _ => St.ka h39 (by decide) (by decide) (by decide)) (fun _ => St.ka h39 (by decide) (by decide) (by decide)) (fun _ => St.ka h39 (by decide) (by decide) (by decide)) (St.kp h39 (by decide) (by decide) (by decide)) (St.kp h39 (by decide) (by decide) (by decide)) (St.kp h39 (by decide) (by decide) (by decide)) (St.kp h39 (by decide) (by decide) (by decide)) (St.kp h39 (by decide) (by decide) (by decide)) (St.kp h39 (by decide) (by decide) (by decide)) (St.kp h39 (by decide) (by decide) (by decide)) (St.kp h39 (by decide) (by decide) (by decide)) (St.kp h39 (by decide) (by decide) (by decide)) (St.kp h39 (by decide) (by decide) (by decide)) (St.kp h39 (by decide) (by decide) (by decide)))
        have hS := St.tr hS h39 (by decide) (by decide)
        replace wr39 := hd_i wr39
        refine Tr.sc [(0, r39)] rfl ?_
        refine Tr.if_ne (pc := 42) (tgt := 54) d_X12_number_42 rfl (fun c42 => ?_) (fun c42 => ?_)
        · have c42b : 1 ≤ r39 ∧ r39 ≤ 1 := by omega
          replace c42 := hd_i c42
          refine Tr.pick [0] (ls2 := [(0, (2, 120))]) rfl ?_
          exact J54 _ _ hS (by and_intros <;> omega) ((St.kp h39 (by decide) (by decide) (by decide)).trans k26_120_3) ((St.kp h39 (by decide) (by decide) (by decide)).trans k26_120_4) ((St.kp h39 (by decide) (by decide) (by decide)).trans k26_120_5) ((St.kp h39 (by decide) (by decide) (by decide)).trans k26_120_6) ((St.kp h39 (by decide) (by decide) (by decide)).trans k26_120_7) ((St.kp h39 (by decide) (by decide) (by decide)).trans k26_120_8) ((tav_of ((St.kp h39 (by decide) (by decide) (by decide)).trans rfl) ((St.kp h39 (by decide) (by decide) (by decide)).trans rfl)).trans k26_9010_0) (by first | exact (hd_o t26_0) | exact (hd_o t26_0).elim (fun h1 => by omega) (fun h1 => by omega)) (by omega) (by exact (hd_o wr39).elim (fun h1 => by omega) (fun h1 => by omega))
        · refine Tr.aload_n (pc := 45) (i := 0) d_X12_number_45 rfl rfl ?_
          refine Tr.iconst (pc := 46) d_X12_number_46 (by decide) ?_
          refine Tr.aload_n (pc := 47) (i := 0) d_X12_number_47 rfl rfl ?_
          refine Tr.getf (pc := 48) d_X12_number_48 f_12_23 (by decide) (by decide) (ty_120 hS.1.1) ?_
          refine Tr.tp g120_4 ((St.kp h39 (by decide) (by decide) (by decide)).trans k26_120_4) ?_
          refine Tr.callV (pc := 51) (as := [_, _]) d_X12_number_51 s_12_389 ok_X12_blame rfl rfl (Nat.le_of_ble_eq_true rfl) (Nat.le_of_ble_eq_true rfl) (by decide) (ty_120 hS.1.1) ?_
          have kb51_120_8 : rd M39 120 8 = u26_120_8 := ((St.kp h39 (by decide) (by decide) (by decide)).trans k26_120_8)
          refine Tr.imp (Tr.deep (by decide) (sp_X12_blame_120 hS.1 4 (by omega) g120_4 (by and_intros <;> omega))) ?_
          rintro M51 _ ⟨h51, rfl, z51_0⟩
          have hS := St.tr hS h51 (by decide) (by decide)
          obtain ⟨s51_120_8, es51_120_8⟩ : ∃ v, rd M51 120 8 = v := ⟨_, rfl⟩
          have bs51_120_8 : 0 ≤ s51_120_8 ∧ s51_120_8 ≤ 5 := by rw [← es51_120_8]; exact ir_120_8 hS.1.2.1
          rewrite [es51_120_8, kb51_120_8] at z51_0
          replace z51_0 := hd_i z51_0
          refine Tr.sc [] rfl ?_
          refine Tr.pick [0] (ls2 := [(0, (2, 120))]) rfl ?_
          exact J54 _ _ hS (by and_intros <;> omega) ((St.kp h51 (by decide) (by decide) (by decide)).trans ((St.kp h39 (by decide) (by decide) (by decide)).trans k26_120_3)) ((St.kp h51 (by decide) (by decide) (by decide)).trans ((St.kp h39 (by decide) (by decide) (by decide)).trans k26_120_4)) ((St.kp h51 (by decide) (by decide) (by decide)).trans ((St.kp h39 (by decide) (by decide) (by decide)).trans k26_120_5)) ((St.kp h51 (by decide) (by decide) (by decide)).trans ((St.kp h39 (by decide) (by decide) (by decide)).trans k26_120_6)) ((St.kp h51 (by decide) (by decide) (by decide)).trans ((St.kp h39 (by decide) (by decide) (by decide)).trans k26_120_7)) es51_120_8 ((tav_of ((St.kp h51 (by decide) (by decide) (by decide)).trans ((St.kp h39 (by decide) (by decide) (by decide)).trans rfl)) ((St.kp h51 (by decide) (by decide) (by decide)).trans ((St.kp h39 (by decide) (by decide) (by decide)).trans rfl))).trans k26_9010_0) (by exact (hd_o z51_0).elim (fun h1 => by omega) (fun h1 => by omega)) (by omega) (by exact (hd_o z51_0).elim (fun h1 => by omega) (fun h1 => by omega))
    refine Tr.icmp_eq (pc := 14) (tgt := 26) d_X12_number_14 rfl (fun c14 => ?_) (fun c14 => ?_)
    · refine Tr.pick [0, 1, 2] (ls2 := [(0, (2, 120)), (1, (0, a1)), (2, (0, a2))]) rfl ?_
      exact J26 _ _ hS (by and_intros <;> omega) eg120_3 eg120_4 eg120_5 eg120_6 eg120_7 eg120_8 eg9010_0 (by omega) (by omega)
    · replace c14 := hd_i c14
      refine Tr.aload_n (pc := 17) (i := 0) d_X12_number_17 rfl rfl ?_
      refine Tr.iconst (pc := 18) d_X12_number_18 (by decide) ?_
      refine Tr.aload_n (pc := 19) (i := 0) d_X12_number_19 rfl rfl ?_
      refine Tr.getf (pc := 20) d_X12_number_20 f_12_23 (by decide) (by decide) (ty_120 hS.1.1) ?_
      refine Tr.tp g120_4 eg120_4 ?_
      refine Tr.callV (pc := 23) (as := [_, _]) d_X12_number_23 s_12_389 ok_X12_blame rfl rfl (Nat.le_of_ble_eq_true rfl) (Nat.le_of_ble_eq_true rfl) (by decide) (ty_120 hS.1.1) ?_
      have kb23_120_8 : rd M0 120 8 = g120_8 := eg120_8
      refine Tr.imp (Tr.deep (by decide) (sp_X12_blame_120 hS.1 1 (by omega) g120_4 (by and_intros <;> omega))) ?_
      rintro M23 _ ⟨h23, rfl, z23_0⟩
      have hS := St.tr hS h23 (by decide) (by decide)
      obtain ⟨s23_120_8, es23_120_8⟩ : ∃ v, rd M23 120 8 = v := ⟨_, rfl⟩
      have bs23_120_8 : 0 ≤ s23_120_8 ∧ s23_120_8 ≤ 5 := by rw [← es23_120_8]; exact ir_120_8 hS.1.2.1
      rewrite [es23_120_8, kb23_120_8] at z23_0
      replace z23_0 := hd_i z23_0
      refine Tr.sc [] rfl ?_
      refine Tr.pick [0, 1, 2] (ls2 := [(0, (2, 120)), (1, (0, a1)), (2, (0, a2))]) rfl ?_
      exact J26 _ _ hS (by and_intros <;> omega) ((St.kp h23 (by decide) (by decide) (by decide)).trans eg120_3) ((St.kp h23 (by decide) (by decide) (by decide)).trans eg120_4) ((St.kp h23 (by decide) (by decide) (by decide)).trans eg120_5) ((St.kp h23 (by decide) (by decide) (by decide)).trans eg120_6) ((St.kp h23 (by decide) (by decide) (by decide)).trans eg120_7) es23_120_8 ((tav_of ((St.kp h23 (by decide) (by decide) (by decide)).trans rfl) ((St.kp h23 (by decide) (by decide) (by decide)).trans rfl)).trans eg9010_0) (by exact (hd_o z23_0).elim (fun h1 => by omega) (fun h1 => by omega)) (by omega)
  · refine Tr.iconst (pc := 7) d_X12_number_7 (by decide) ?_
    have kr_120_3 : rd M0 120 3 = g120_3 := eg120_3
    have kr_120_4 : rd M0 120 4 = g120_4 := eg120_4
    have kr_120_5 : rd M0 120 5 = g120_5 := eg120_5
    have kr_120_7 : rd M0 120 7 = g120_7 := eg120_7
    have kr_120_8 : rd M0 120 8 = g120_8 := eg120_8
    have kr_9010_0 : tav M0 = g9010_0 := eg9010_0
    exact Tr.iret (pc := 8) d_X12_number_8 rfl ⟨hS, _, rfl, by omega, by omega, (by first | exact (hd_o hq0) | exact (hd_o hq0).elim (fun h1 => by omega) (fun h1 => by omega)), (by omega), (by first | exact (hd_o hq2) | exact (hd_o hq2).elim (fun h1 => by omega) (fun h1 => h1.elim (fun h1 => by omega) (fun h1 => by omega))), (by and_intros <;> omega), (by omega), (by omega), (by omega)⟩

def ws_X12_input_120 : List (Int × Int) := [(120, 3), (120, 4), (120, 5), (120, 6), (120, 7), (120, 8), (120, 9), (127, 1)]
def as_X12_input_120 : List Int := [132, 133, 134]
def q_X12_input_120 (M0 M' : Mem) (r : Option PV) : Prop := St Pm1 ws_X12_input_120 as_X12_input_120 M0 M' ∧ r = none ∧ (rd M' 120 3 = 0 ∨ rd M' 120 4 + 1 ≤ rd M' 120 5) ∧ (rd M' 120 4 ≤ rd M' 120 5) ∧ (rd M' 120 3 ≠ 1 ∨ rd M' 120 4 + 2 ≤ rd M' 120 5 ∨ rd M' 120 7 < 256) ∧ (rd M0 120 4 ≤ rd M' 120 4 ∧ rd M0 120 5 ≤ rd M' 120 5 ∧ tav M0 ≤ tav M') ∧ (rd M0 120 8 = 0 ∨ rd M' 120 8 = rd M0 120 8) ∧ (1 ≤ rd M' 120 8 ∨ tav M0 < tav M')
set_option maxRecDepth 100000 in
set_option maxHeartbeats 4000000 in
theorem sp_X12_input_120 {l : Launch} {K : EC} {M0 : Mem} (hI : In Pm1 M0) (en_120_37 : rd M0 120 37 = 1)   (hq0 : rd M0 120 3 = 0 ∨ rd M0 120 4 + 1 ≤ rd M0 120 5) (hq1 : rd M0 120 4 ≤ rd M0 120 5) (hq2 : rd M0 120 3 ≠ 1 ∨ rd M0 120 4 + 2 ≤ rd M0 120 5 ∨ rd M0 120 7 < 256) (hq3 : rd M0 120 3 ≠ 0) (hq4 : rd M0 120 8 = 0) : Tr l K 3 mX12_input 0 [(0, (2, 120))] [] M0 (q_X12_input_120 M0) := by
  have hS : St Pm1 ws_X12_input_120 as_X12_input_120 M0 M0 := St.rf hI
  obtain ⟨g120_8, eg120_8⟩ : ∃ v, rd M0 120 8 = v := ⟨_, rfl⟩
  have bg120_8 : 0 ≤ g120_8 ∧ g120_8 ≤ 5 := by rw [← eg120_8]; exact ir_120_8 hI.2.1
  obtain ⟨g120_3, eg120_3⟩ : ∃ v, rd M0 120 3 = v := ⟨_, rfl⟩
  have bg120_3 : 0 ≤ g120_3 ∧ g120_3 ≤ 3 := by rw [← eg120_3]; exact ir_120_3 hI.2.1
  obtain ⟨g120_4, eg120_4⟩ : ∃ v, rd M0 120 4 = v := ⟨_, rfl⟩
  have bg120_4 : 0 ≤ g120_4 ∧ g120_4 ≤ 900 := by rw [← eg120_4]; exact ir_120_4 hI.2.1
  obtain ⟨g120_5, eg120_5⟩ : ∃ v, rd M0 120 5 = v := ⟨_, rfl⟩
  have bg120_5 : 0 ≤ g120_5 ∧ g120_5 ≤ 900 := by rw [← eg120_5]; exact ir_120_5 hI.2.1
  obtain ⟨g120_7, eg120_7⟩ : ∃ v, rd M0 120 7 = v := ⟨_, rfl⟩
  have bg120_7 : (-9223372036854775808) ≤ g120_7 ∧ g120_7 ≤ 9223372036854775807 := by rw [← eg120_7]; exact ir_120_7 hI.2.1
  obtain ⟨g9010_0, eg9010_0⟩ : ∃ v, tav M0 = v := ⟨_, rfl⟩
  have bg9010_0 : (-1) ≤ g9010_0 ∧ g9010_0 ≤ 1800 := by rw [← eg9010_0]; exact (tav_b hI.2.1)
  obtain ⟨g127_1, eg127_1⟩ : ∃ v, rd M0 127 1 = v := ⟨_, rfl⟩
  have bg127_1 : 0 ≤ g127_1 ∧ g127_1 ≤ 3 := by rw [← eg127_1]; exact ir_127_1 hI.2.1
  replace hq0 := hd_i hq0
  replace hq2 := hd_i hq2
  replace hq3 := hd_i hq3
  refine Tr.aload_n (pc := 0) (i := 0) d_X12_input_0 rfl rfl ?_
  refine Tr.aload_n (pc := 1) (i := 0) d_X12_input_1 rfl rfl ?_
  refine Tr.getf (pc := 2) d_X12_input_2 f_12_66 (by decide) (by decide) (ty_120 hS.1.1) ?_
  refine Tr.tp 127 (fx_120_18 hS.1.1) ?_
  refine Tr.aload_n (pc := 5) (i := 0) d_X12_input_5 rfl rfl ?_
  refine Tr.getf (pc := 6) d_X12_input_6 f_12_124 (by decide) (by decide) (ty_120 hS.1.1) ?_
  refine Tr.tp 1 ((St.kp hS (by decide) (by decide) (by decide)).trans en_120_37) ?_
  refine Tr.iald (pc := 9) d_X12_input_9 (ty_127 hS.1.1) (by omega) (by omega) ?_
  refine Tr.tp g127_1 eg127_1 ?_
  refine Tr.iconst (pc := 10) d_X12_input_10 (by decide) ?_
  have J19 : ∀ (M : Mem) (q19_1 : Int), St Pm1 ws_X12_input_120 as_X12_input_120 M0 M → (0 ≤ q19_1 ∧ q19_1 ≤ 1) → rd M 120 3 = g120_3 → rd M 120 4 = g120_4 → rd M 120 5 = g120_5 → rd M 120 7 = g120_7 → rd M 120 8 = g120_8 → rd M 127 1 = g127_1 → tav M = g9010_0 → ((q19_1 = 1 ∧ g127_1 = 3) ∨ (q19_1 = 0 ∧ g127_1 ≠ 3)) → Tr l K 3 mX12_input 19 [(0, (2, 120))] [(0, q19_1), (2, 120)] M (q_X12_input_120 M0) := by
    intro M q19_1 hS bq19_1 k19_120_3 k19_120_4 k19_120_5 k19_120_7 k19_120_8 k19_127_1 k19_9010_0 t19_0
    replace t19_0 := hd_i t19_0
    refine Tr.callV (pc := 19) (as := [_]) d_X12_input_19 s_12_505 ok_X12_counts rfl rfl (Nat.le_of_ble_eq_true rfl) (Nat.le_of_ble_eq_true rfl) (by decide) (ty_120 hS.1.1) ?_
    have kb19_120_3 : rd M 120 3 = g120_3 := k19_120_3
    have kb19_120_4 : rd M 120 4 = g120_4 := k19_120_4
    have kb19_120_5 : rd M 120 5 = g120_5 := k19_120_5
    have kb19_120_7 : rd M 120 7 = g120_7 := k19_120_7
    have kb19_120_8 : rd M 120 8 = g120_8 := k19_120_8
    have kb19_9010_0 : tav M = g9010_0 := k19_9010_0
    refine Tr.imp (Tr.deep (by decide) (sp_X12_counts_120 hS.1 q19_1 (by and_intros <;> omega) (by first | exact (hd_o hq0) | exact (hd_o hq0).elim (fun h1 => by omega) (fun h1 => by omega)) (by omega) (by first | exact (hd_o hq2) | exact (hd_o hq2).elim (fun h1 => by omega) (fun h1 => h1.elim (fun h1 => by omega) (fun h1 => by omega))) (by have h1 := (hd_o hq3); omega))) ?_
    rintro M19 _ ⟨h19, rfl, z19_0, z19_1, z19_2, z19_3, z19_4, z19_5, z19_6⟩
    have hS := St.tr hS h19 (by decide) (by decide)
    obtain ⟨s19_120_3, es19_120_3⟩ : ∃ v, rd M19 120 3 = v := ⟨_, rfl⟩
    have bs19_120_3 : 0 ≤ s19_120_3 ∧ s19_120_3 ≤ 3 := by rw [← es19_120_3]; exact ir_120_3 hS.1.2.1
    obtain ⟨s19_120_4, es19_120_4⟩ : ∃ v, rd M19 120 4 = v := ⟨_, rfl⟩
    have bs19_120_4 : 0 ≤ s19_120_4 ∧ s19_120_4 ≤ 900 := by rw [← es19_120_4]; exact ir_120_4 hS.1.2.1
    obtain ⟨s19_120_5, es19_120_5⟩ : ∃ v, rd M19 120 5 = v := ⟨_, rfl⟩
    have bs19_120_5 : 0 ≤ s19_120_5 ∧ s19_120_5 ≤ 900 := by rw [← es19_120_5]; exact ir_120_5 hS.1.2.1
    obtain ⟨s19_120_7, es19_120_7⟩ : ∃ v, rd M19 120 7 = v := ⟨_, rfl⟩
    have bs19_120_7 : (-9223372036854775808) ≤ s19_120_7 ∧ s19_120_7 ≤ 9223372036854775807 := by rw [← es19_120_7]; exact ir_120_7 hS.1.2.1
    obtain ⟨s19_120_8, es19_120_8⟩ : ∃ v, rd M19 120 8 = v := ⟨_, rfl⟩
    have bs19_120_8 : 0 ≤ s19_120_8 ∧ s19_120_8 ≤ 5 := by rw [← es19_120_8]; exact ir_120_8 hS.1.2.1
    obtain ⟨s19_9010_0, es19_9010_0⟩ : ∃ v, tav M19 = v := ⟨_, rfl⟩
    have bs19_9010_0 : (-1) ≤ s19_9010_0 ∧ s19_9010_0 ≤ 1800 := by rw [← es19_9010_0]; exact (tav_b hS.1.2.1)
    rewrite [es19_120_3, es19_120_4, es19_120_5] at z19_0
    replace z19_0 := hd_i z19_0
    rewrite [es19_120_4, es19_120_5] at z19_1
    rewrite [es19_120_3, es19_120_4, es19_120_5, es19_120_7] at z19_2
    replace z19_2 := hd_i z19_2
    rewrite [es19_120_4, es19_120_5, es19_9010_0, kb19_120_4, kb19_120_5, kb19_9010_0] at z19_3
    rewrite [es19_120_8, kb19_120_8] at z19_4
    replace z19_4 := hd_i z19_4
    rewrite [es19_120_8, es19_9010_0, kb19_9010_0] at z19_5
    replace z19_5 := hd_i z19_5
    rewrite [es19_120_8] at z19_6
    replace z19_6 := hd_i z19_6
    refine Tr.sc [] rfl ?_
    refine Tr.aload_n (pc := 22) (i := 0) d_X12_input_22 rfl rfl ?_
    refine Tr.getf (pc := 23) d_X12_input_23 f_12_36 (by decide) (by decide) (ty_120 hS.1.1) ?_
    refine Tr.tp s19_120_8 es19_120_8 ?_
    refine Tr.if_le (pc := 26) (tgt := 30) d_X12_input_26 rfl (fun c26 => ?_) (fun c26 => ?_)
    · refine Tr.iconst (pc := 30) d_X12_input_30 (by decide) ?_
      refine Tr.aload_n (pc := 31) (i := 0) d_X12_input_31 rfl rfl ?_
      refine Tr.getf (pc := 32) d_X12_input_32 f_12_124 (by decide) (by decide) (ty_120 hS.1.1) ?_
      refine Tr.tp 1 ((St.kp hS (by decide) (by decide) (by decide)).trans en_120_37) ?_
      refine Tr.imul (pc := 35) d_X12_input_35 ?_
      refine Tr.tp 3 (by decide) ?_
      refine Tr.aload_n (pc := 36) (i := 0) d_X12_input_36 rfl rfl ?_
      refine Tr.getf (pc := 37) d_X12_input_37 f_12_66 (by decide) (by decide) (ty_120 hS.1.1) ?_
      refine Tr.tp 127 (fx_120_18 hS.1.1) ?_
      refine Tr.aload_n (pc := 40) (i := 0) d_X12_input_40 rfl rfl ?_
      refine Tr.getf (pc := 41) d_X12_input_41 f_12_124 (by decide) (by decide) (ty_120 hS.1.1) ?_
      refine Tr.tp 1 ((St.kp hS (by decide) (by decide) (by decide)).trans en_120_37) ?_
      refine Tr.iald (pc := 44) d_X12_input_44 (ty_127 hS.1.1) (by omega) (by omega) ?_
      refine Tr.tp g127_1 ((St.kp h19 (by decide) (by decide) (by decide)).trans k19_127_1) ?_
      refine Tr.iadd (pc := 45) d_X12_input_45 ?_
      refine Tr.tp (g127_1 + 3) ((w32_id (by and_intros <;> omega)).trans (by omega)) ?_
      refine Tr.istore_n (pc := 46) (i := 1) (ls2 := [(1, (0, (g127_1 + 3))), (0, (2, 120))]) d_X12_input_46 rfl (by decide) rfl ?_
      refine Tr.aload_n (pc := 47) (i := 0) d_X12_input_47 rfl rfl ?_
      refine Tr.getf (pc := 48) d_X12_input_48 f_12_82 (by decide) (by decide) (ty_120 hS.1.1) ?_
      refine Tr.tp 132 (fx_120_23 hS.1.1) ?_
      refine Tr.iload_n (pc := 51) (i := 1) d_X12_input_51 rfl rfl ?_
      refine Tr.aload_n (pc := 52) (i := 0) d_X12_input_52 rfl rfl ?_
      refine Tr.callV (pc := 53) (as := []) d_X12_input_53 s_12_508 ok_X12_fresh rfl rfl (Nat.le_of_ble_eq_true rfl) (Nat.le_of_ble_eq_true rfl) (by decide) (ty_120 hS.1.1) ?_
      have kb53_120_3 : rd M19 120 3 = s19_120_3 := es19_120_3
      have kb53_120_4 : rd M19 120 4 = s19_120_4 := es19_120_4
      have kb53_120_5 : rd M19 120 5 = s19_120_5 := es19_120_5
      have kb53_120_7 : rd M19 120 7 = s19_120_7 := es19_120_7
      have kb53_120_8 : rd M19 120 8 = s19_120_8 := es19_120_8
      have kb53_9010_0 : tav M19 = s19_9010_0 := es19_9010_0
      refine Tr.imp (Tr.deep (by decide) (sp_X12_fresh_120 hS.1 ((St.kp hS (by decide) (by decide) (by decide)).trans en_120_37) (by first | exact (hd_o z19_0) | exact (hd_o z19_0).elim (fun h1 => by omega) (fun h1 => by omega)) (by omega) (by first | exact (hd_o z19_2) | exact (hd_o z19_2).elim (fun h1 => by omega) (fun h1 => h1.elim (fun h1 => by omega) (fun h1 => by omega))))) ?_
      rintro M53 _ ⟨h53, r53, rfl, lr53, ur53, z53_0, z53_1, z53_2, z53_3, z53_4, z53_5⟩
      have hS := St.tr hS h53 (by decide) (by decide)
      obtain ⟨s53_120_3, es53_120_3⟩ : ∃ v, rd M53 120 3 = v := ⟨_, rfl⟩
      have bs53_120_3 : 0 ≤ s53_120_3 ∧ s53_120_3 ≤ 3 := by rw [← es53_120_3]; exact ir_120_3 hS.1.2.1
      obtain ⟨s53_120_4, es53_120_4⟩ : ∃ v, rd M53 120 4 = v := ⟨_, rfl⟩
      have bs53_120_4 : 0 ≤ s53_120_4 ∧ s53_120_4 ≤ 900 := by rw [← es53_120_4]; exact ir_120_4 hS.1.2.1
      obtain ⟨s53_120_5, es53_120_5⟩ : ∃ v, rd M53 120 5 = v := ⟨_, rfl⟩
      have bs53_120_5 : 0 ≤ s53_120_5 ∧ s53_120_5 ≤ 900 := by rw [← es53_120_5]; exact ir_120_5 hS.1.2.1
      obtain ⟨s53_120_7, es53_120_7⟩ : ∃ v, rd M53 120 7 = v := ⟨_, rfl⟩
      have bs53_120_7 : (-9223372036854775808) ≤ s53_120_7 ∧ s53_120_7 ≤ 9223372036854775807 := by rw [← es53_120_7]; exact ir_120_7 hS.1.2.1
      obtain ⟨s53_120_8, es53_120_8⟩ : ∃ v, rd M53 120 8 = v := ⟨_, rfl⟩
      have bs53_120_8 : 0 ≤ s53_120_8 ∧ s53_120_8 ≤ 5 := by rw [← es53_120_8]; exact ir_120_8 hS.1.2.1
      obtain ⟨s53_9010_0, es53_9010_0⟩ : ∃ v, tav M53 = v := ⟨_, rfl⟩
      have bs53_9010_0 : (-1) ≤ s53_9010_0 ∧ s53_9010_0 ≤ 1800 := by rw [← es53_9010_0]; exact (tav_b hS.1.2.1)
      rewrite [es53_120_3, es53_120_4, es53_120_5] at z53_0
      replace z53_0 := hd_i z53_0
      rewrite [es53_120_4, es53_120_5] at z53_1
      rewrite [es53_120_3, es53_120_4, es53_120_5, es53_120_7] at z53_2
      replace z53_2 := hd_i z53_2
      rewrite [es53_120_4, es53_120_5, es53_9010_0, kb53_120_4, kb53_120_5, kb53_9010_0] at z53_3
      rewrite [es53_120_8, kb53_120_8] at z53_4
      replace z53_4 := hd_i z53_4
      rewrite [es53_120_8, es53_9010_0, kb53_9010_0] at z53_5
      replace z53_5 := hd_i z53_5
      refine Tr.sc [(1, r53), (0, (g127_1 + 3)), (2, 132)] rfl ?_
      refine Tr.lastS (pc := 56) (P := St Pm1 ws_X12_input_120 as_X12_input_120 M0) d_X12_input_56 (ty_132 hS.1.1) (by omega) (by exact (hd_o t19_0).elim (fun h1 => (hd_o z19_6).elim (fun h2 => by omega) (fun h2 => by omega)) (fun h1 => (ne_o h1.2).elim (fun h2 => by omega) (fun h2 => by omega))) (sa_132 hS (by decide) (by omega) (Pm1.of hS.1.2.2.2.2 (fun _ => rd_wb _ rfl) (fun _ => rd_wb _ rfl) (fun _ => rd_wb _ rfl) (fun _ => rd_wb _ rfl) (fun _ => rd_wb _ rfl) (fun _ => rd_wb _ rfl) (fun _ => rd_wb _ rfl) (fun _ => rd_wb _ rfl) (fun _ => rd_wb _ rfl) (fun _ => rd_wb _ rfl) (rd_wb _ rfl) (rd_wb _ rfl) (rd_wb _ rfl) (rd_wb _ rfl) (rd_wb _ rfl) (rd_wb _ rfl) (rd_wb _ rfl) (rd_wb _ rfl) (rd_wb _ rfl) (rd_wb _ rfl) (rd_wb _ rfl))) (fun M56 hS w56 => ?_)
      refine Tr.aload_n (pc := 57) (i := 0) d_X12_input_57 rfl rfl ?_
      refine Tr.getf (pc := 58) d_X12_input_58 f_12_85 (by decide) (by decide) (ty_120 hS.1.1) ?_
      refine Tr.tp 133 (fx_120_24 hS.1.1) ?_
      refine Tr.iload_n (pc := 61) (i := 1) d_X12_input_61 rfl rfl ?_
      refine Tr.aload_n (pc := 62) (i := 0) d_X12_input_62 rfl rfl ?_
      refine Tr.iconst (pc := 63) d_X12_input_63 (by decide) ?_
      refine Tr.bipush (pc := 64) d_X12_input_64 rfl (by decide) ?_
      refine Tr.callV (pc := 66) (as := [_, _]) d_X12_input_66 s_12_516 ok_X12_number rfl rfl (Nat.le_of_ble_eq_true rfl) (Nat.le_of_ble_eq_true rfl) (by decide) (ty_120 hS.1.1) ?_
      have kb66_120_3 : rd M56 120 3 = s53_120_3 := ((Wr.b w56 rfl).trans es53_120_3)
      have kb66_120_4 : rd M56 120 4 = s53_120_4 := ((Wr.b w56 rfl).trans es53_120_4)
      have kb66_120_5 : rd M56 120 5 = s53_120_5 := ((Wr.b w56 rfl).trans es53_120_5)
      have kb66_120_7 : rd M56 120 7 = s53_120_7 := ((Wr.b w56 rfl).trans es53_120_7)
      have kb66_120_8 : rd M56 120 8 = s53_120_8 := ((Wr.b w56 rfl).trans es53_120_8)
      have kb66_9010_0 : tav M56 = s53_9010_0 := ((tav_of ((Wr.b w56 rfl).trans rfl) ((Wr.b w56 rfl).trans rfl)).trans es53_9010_0)
      refine Tr.imp (Tr.deep (by decide) (sp_X12_number_120 hS.1 0 (by omega) 99 (by omega) (by first | exact (hd_o z53_0) | exact (hd_o z53_0).elim (fun h1 => by omega) (fun h1 => by omega)) (by omega) (by first | exact (hd_o z53_2) | exact (hd_o z53_2).elim (fun h1 => by omega) (fun h1 => h1.elim (fun h1 => by omega) (fun h1 => by omega))))) ?_
      rintro M66 _ ⟨h66, r66, rfl, lr66, ur66, z66_0, z66_1, z66_2, z66_3, z66_4, z66_5, z66_6⟩
      have hS := St.tr hS h66 (by decide) (by decide)
      obtain ⟨s66_120_3, es66_120_3⟩ : ∃ v, rd M66 120 3 = v := ⟨_, rfl⟩
      have bs66_120_3 : 0 ≤ s66_120_3 ∧ s66_120_3 ≤ 3 := by rw [← es66_120_3]; exact ir_120_3 hS.1.2.1
      obtain ⟨s66_120_4, es66_120_4⟩ : ∃ v, rd M66 120 4 = v := ⟨_, rfl⟩
      have bs66_120_4 : 0 ≤ s66_120_4 ∧ s66_120_4 ≤ 900 := by rw [← es66_120_4]; exact ir_120_4 hS.1.2.1
      obtain ⟨s66_120_5, es66_120_5⟩ : ∃ v, rd M66 120 5 = v := ⟨_, rfl⟩
      have bs66_120_5 : 0 ≤ s66_120_5 ∧ s66_120_5 ≤ 900 := by rw [← es66_120_5]; exact ir_120_5 hS.1.2.1
      obtain ⟨s66_120_7, es66_120_7⟩ : ∃ v, rd M66 120 7 = v := ⟨_, rfl⟩
      have bs66_120_7 : (-9223372036854775808) ≤ s66_120_7 ∧ s66_120_7 ≤ 9223372036854775807 := by rw [← es66_120_7]; exact ir_120_7 hS.1.2.1
      obtain ⟨s66_120_8, es66_120_8⟩ : ∃ v, rd M66 120 8 = v := ⟨_, rfl⟩
      have bs66_120_8 : 0 ≤ s66_120_8 ∧ s66_120_8 ≤ 5 := by rw [← es66_120_8]; exact ir_120_8 hS.1.2.1
      obtain ⟨s66_9010_0, es66_9010_0⟩ : ∃ v, tav M66 = v := ⟨_, rfl⟩
      have bs66_9010_0 : (-1) ≤ s66_9010_0 ∧ s66_9010_0 ≤ 1800 := by rw [← es66_9010_0]; exact (tav_b hS.1.2.1)
      rewrite [es66_120_3, es66_120_4, es66_120_5] at z66_0
      replace z66_0 := hd_i z66_0
      rewrite [es66_120_4, es66_120_5] at z66_1
      rewrite [es66_120_3, es66_120_4, es66_120_5, es66_120_7] at z66_2
      replace z66_2 := hd_i z66_2
      rewrite [es66_120_4, es66_120_5, es66_9010_0, kb66_120_4, kb66_120_5, kb66_9010_0] at z66_3
      rewrite [es66_120_8, kb66_120_8] at z66_4
      replace z66_4 := hd_i z66_4
      rewrite [es66_120_8, es66_9010_0, kb66_9010_0] at z66_5
      replace z66_5 := hd_i z66_5
      rewrite [es66_120_8] at z66_6
      replace z66_6 := hd_i z66_6
      refine Tr.sc [(0, r66), (0, (g127_1 + 3)), (2, 133)] rfl ?_
      refine Tr.iastS (pc := 69) (P := St Pm1 ws_X12_input_120 as_X12_input_120 M0) d_X12_input_69 (ty_133 hS.1.1) (by omega) (by exact (hd_o t19_0).elim (fun h1 => (hd_o z19_6).elim (fun h2 => by omega) (fun h2 => by omega)) (fun h1 => (ne_o h1.2).elim (fun h2 => by omega) (fun h2 => by omega))) (sa_133 hS (by decide) (by and_intros <;> omega) (Pm1.of hS.1.2.2.2.2 (fun _ => rd_wb _ rfl) (fun _ => rd_wb _ rfl) (fun _ => rd_wb _ rfl) (fun _ => rd_wb _ rfl) (fun _ => rd_wb _ rfl) (fun _ => rd_wb _ rfl) (fun _ => rd_wb _ rfl) (fun _ => rd_wb _ rfl) (fun _ => rd_wb _ rfl) (fun _ => rd_wb _ rfl) (rd_wb _ rfl) (rd_wb _ rfl) (rd_wb _ rfl) (rd_wb _ rfl) (rd_wb _ rfl) (rd_wb _ rfl) (rd_wb _ rfl) (rd_wb _ rfl) (rd_wb _ rfl) (rd_wb _ rfl) (rd_wb _ rfl))) (fun M69 hS w69 => ?_)
      refine Tr.aload_n (pc := 70) (i := 0) d_X12_input_70 rfl rfl ?_
      refine Tr.getf (pc := 71) d_X12_input_71 f_12_88 (by decide) (by decide) (ty_120 hS.1.1) ?_
      refine Tr.tp 134 (fx_120_25 hS.1.1) ?_
      refine Tr.iload_n (pc := 74) (i := 1) d_X12_input_74 rfl rfl ?_
      refine Tr.aload_n (pc := 75) (i := 0) d_X12_input_75 rfl rfl ?_
      refine Tr.aload_n (pc := 76) (i := 0) d_X12_input_76 rfl rfl ?_
      refine Tr.getf (pc := 77) d_X12_input_77 f_12_85 (by decide) (by decide) (ty_120 hS.1.1) ?_
      refine Tr.tp 133 (fx_120_24 hS.1.1) ?_
      refine Tr.iload_n (pc := 80) (i := 1) d_X12_input_80 rfl rfl ?_
      refine Tr.iald (pc := 81) d_X12_input_81 (ty_133 hS.1.1) (by omega) (by exact (hd_o t19_0).elim (fun h1 => (hd_o z19_6).elim (fun h2 => by omega) (fun h2 => by omega)) (fun h1 => (ne_o h1.2).elim (fun h2 => by omega) (fun h2 => by omega))) ?_
      refine Tr.tp r66 w69.1 ?_
      refine Tr.bipush (pc := 82) d_X12_input_82 rfl (by decide) ?_
      refine Tr.callV (pc := 84) (as := [_, _]) d_X12_input_84 s_12_516 ok_X12_number rfl rfl (Nat.le_of_ble_eq_true rfl) (Nat.le_of_ble_eq_true rfl) (by decide) (ty_120 hS.1.1) ?_
      have kb84_120_3 : rd M69 120 3 = s66_120_3 := ((Wr.b w69 rfl).trans es66_120_3)
      have kb84_120_4 : rd M69 120 4 = s66_120_4 := ((Wr.b w69 rfl).trans es66_120_4)
      have kb84_120_5 : rd M69 120 5 = s66_120_5 := ((Wr.b w69 rfl).trans es66_120_5)
      have kb84_120_7 : rd M69 120 7 = s66_120_7 := ((Wr.b w69 rfl).trans es66_120_7)
      have kb84_120_8 : rd M69 120 8 = s66_120_8 := ((Wr.b w69 rfl).trans es66_120_8)
      have kb84_9010_0 : tav M69 = s66_9010_0 := ((tav_of ((Wr.b w69 rfl).trans rfl) ((Wr.b w69 rfl).trans rfl)).trans es66_9010_0)
      refine Tr.imp (Tr.deep (by decide) (sp_X12_number_120 hS.1 r66 (by and_intros <;> omega) 99 (by omega) (by first | exact (hd_o z66_0) | exact (hd_o z66_0).elim (fun h1 => by omega) (fun h1 => by omega)) (by omega) (by first | exact (hd_o z66_2) | exact (hd_o z66_2).elim (fun h1 => by omega) (fun h1 => h1.elim (fun h1 => by omega) (fun h1 => by omega))))) ?_
      rintro M84 _ ⟨h84, r84, rfl, lr84, ur84, z84_0, z84_1, z84_2, z84_3, z84_4, z84_5, z84_6⟩
      have hS := St.tr hS h84 (by decide) (by decide)
      obtain ⟨s84_120_3, es84_120_3⟩ : ∃ v, rd M84 120 3 = v := ⟨_, rfl⟩
      have bs84_120_3 : 0 ≤ s84_120_3 ∧ s84_120_3 ≤ 3 := by rw [← es84_120_3]; exact ir_120_3 hS.1.2.1
      obtain ⟨s84_120_4, es84_120_4⟩ : ∃ v, rd M84 120 4 = v := ⟨_, rfl⟩
      have bs84_120_4 : 0 ≤ s84_120_4 ∧ s84_120_4 ≤ 900 := by rw [← es84_120_4]; exact ir_120_4 hS.1.2.1
      obtain ⟨s84_120_5, es84_120_5⟩ : ∃ v, rd M84 120 5 = v := ⟨_, rfl⟩
      have bs84_120_5 : 0 ≤ s84_120_5 ∧ s84_120_5 ≤ 900 := by rw [← es84_120_5]; exact ir_120_5 hS.1.2.1
      obtain ⟨s84_120_7, es84_120_7⟩ : ∃ v, rd M84 120 7 = v := ⟨_, rfl⟩
      have bs84_120_7 : (-9223372036854775808) ≤ s84_120_7 ∧ s84_120_7 ≤ 9223372036854775807 := by rw [← es84_120_7]; exact ir_120_7 hS.1.2.1
      obtain ⟨s84_120_8, es84_120_8⟩ : ∃ v, rd M84 120 8 = v := ⟨_, rfl⟩
      have bs84_120_8 : 0 ≤ s84_120_8 ∧ s84_120_8 ≤ 5 := by rw [← es84_120_8]; exact ir_120_8 hS.1.2.1
      obtain ⟨s84_9010_0, es84_9010_0⟩ : ∃ v, tav M84 = v := ⟨_, rfl⟩
      have bs84_9010_0 : (-1) ≤ s84_9010_0 ∧ s84_9010_0 ≤ 1800 := by rw [← es84_9010_0]; exact (tav_b hS.1.2.1)
      rewrite [es84_120_3, es84_120_4, es84_120_5] at z84_0
      replace z84_0 := hd_i z84_0
      rewrite [es84_120_4, es84_120_5] at z84_1
      rewrite [es84_120_3, es84_120_4, es84_120_5, es84_120_7] at z84_2
      replace z84_2 := hd_i z84_2
      rewrite [es84_120_4, es84_120_5, es84_9010_0, kb84_120_4, kb84_120_5, kb84_9010_0] at z84_3
      rewrite [es84_120_8, kb84_120_8] at z84_4
      replace z84_4 := hd_i z84_4
      rewrite [es84_120_8, es84_9010_0, kb84_9010_0] at z84_5
      replace z84_5 := hd_i z84_5
      rewrite [es84_120_8] at z84_6
      replace z84_6 := hd_i z84_6
      refine Tr.sc [(0, r84), (0, (g127_1 + 3)), (2, 134)] rfl ?_
      refine Tr.iastS (pc := 87) (P := St Pm1 ws_X12_input_120 as_X12_input_120 M0) d_X12_input_87 (ty_134 hS.1.1) (by omega) (by exact (hd_o t19_0).elim (fun h1 => (hd_o z19_6).elim (fun h2 => by omega) (fun h2 => by omega)) (fun h1 => (ne_o h1.2).elim (fun h2 => by omega) (fun h2 => by omega))) (sa_134 hS (by decide) (by and_intros <;> omega) (Pm1.of hS.1.2.2.2.2 (fun _ => rd_wb _ rfl) (fun _ => rd_wb _ rfl) (fun _ => rd_wb _ rfl) (fun _ => rd_wb _ rfl) (fun _ => rd_wb _ rfl) (fun _ => rd_wb _ rfl) (fun _ => rd_wb _ rfl) (fun _ => rd_wb _ rfl) (fun _ => rd_wb _ rfl) (fun _ => rd_wb _ rfl) (rd_wb _ rfl) (rd_wb _ rfl) (rd_wb _ rfl) (rd_wb _ rfl) (rd_wb _ rfl) (rd_wb _ rfl) (rd_wb _ rfl) (rd_wb _ rfl) (rd_wb _ rfl) (rd_wb _ rfl) (rd_wb _ rfl))) (fun M87 hS w87 => ?_)
      refine Tr.aload_n (pc := 88) (i := 0) d_X12_input_88 rfl rfl ?_
      refine Tr.getf (pc := 89) d_X12_input_89 f_12_36 (by decide) (by decide) (ty_120 hS.1.1) ?_
      refine Tr.tp s84_120_8 ((Wr.b w87 rfl).trans es84_120_8) ?_
      refine Tr.if_ne (pc := 92) (tgt := 108) d_X12_input_92 rfl (fun c92 => ?_) (fun c92 => ?_)
      · have c92b : 1 ≤ s84_120_8 ∧ s84_120_8 ≤ 5 := by omega
        replace c92 := hd_i c92
        have kr_120_3 : rd M87 120 3 = s84_120_3 := ((Wr.b w87 rfl).trans es84_120_3)
        have kr_120_4 : rd M87 120 4 = s84_120_4 := ((Wr.b w87 rfl).trans es84_120_4)
        have kr_120_5 : rd M87 120 5 = s84_120_5 := ((Wr.b w87 rfl).trans es84_120_5)
        have kr_120_7 : rd M87 120 7 = s84_120_7 := ((Wr.b w87 rfl).trans es84_120_7)
        have kr_120_8 : rd M87 120 8 = s84_120_8 := ((Wr.b w87 rfl).trans es84_120_8)
        have kr_9010_0 : tav M87 = s84_9010_0 := ((tav_of ((Wr.b w87 rfl).trans rfl) ((Wr.b w87 rfl).trans rfl)).trans es84_9010_0)
        exact Tr.vret (pc := 108) d_X12_input_108 rfl ⟨hS, rfl, (by first | exact (hd_o z84_0) | exact (hd_o z84_0).elim (fun h1 => by omega) (fun h1 => by omega)), (by omega), (by first | exact (hd_o z84_2) | exact (hd_o z84_2).elim (fun h1 => by omega) (fun h1 => h1.elim (fun h1 => by omega) (fun h1 => by omega))), (by and_intros <;> omega), (by omega), (by omega)⟩
      · refine Tr.aload_n (pc := 95) (i := 0) d_X12_input_95 rfl rfl ?_
        refine Tr.getf (pc := 96) d_X12_input_96 f_12_66 (by decide) (by decide) (ty_120 hS.1.1) ?_
        refine Tr.tp 127 (fx_120_18 hS.1.1) ?_
        refine Tr.aload_n (pc := 99) (i := 0) d_X12_input_99 rfl rfl ?_
        refine Tr.getf (pc := 100) d_X12_input_100 f_12_124 (by decide) (by decide) (ty_120 hS.1.1) ?_
        refine Tr.tp 1 ((St.kp hS (by decide) (by decide) (by decide)).trans en_120_37) ?_
        refine Tr.dup2 (pc := 103) d_X12_input_103 ne01 ne21 ?_
        refine Tr.iald (pc := 104) d_X12_input_104 (ty_127 hS.1.1) (by omega) (by omega) ?_
        refine Tr.tp g127_1 ((Wr.b w87 rfl).trans ((St.kp h84 (by decide) (by decide) (by decide)).trans ((Wr.b w69 rfl).trans ((St.kp h66 (by decide) (by decide) (by decide)).trans ((Wr.b w56 rfl).trans ((St.kp h53 (by decide) (by decide) (by decide)).trans ((St.kp h19 (by decide) (by decide) (by decide)).trans k19_127_1))))))) ?_
        refine Tr.iconst (pc := 105) d_X12_input_105 (by decide) ?_
        refine Tr.iadd (pc := 106) d_X12_input_106 ?_
        refine Tr.tp (g127_1 + 1) ((w32_id (by and_intros <;> omega)).trans (by omega)) ?_
        refine Tr.iastS (pc := 107) (P := St Pm1 ws_X12_input_120 as_X12_input_120 M0) d_X12_input_107 (ty_127 hS.1.1) (by omega) (by omega) (st_127_1 hS (by decide) (by exact (hd_o t19_0).elim (fun h1 => (hd_o z19_6).elim (fun h2 => by omega) (fun h2 => by omega)) (fun h1 => (ne_o h1.2).elim (fun h2 => by omega) (fun h2 => by omega))) (Pm1.of hS.1.2.2.2.2 (fun _ => rd_wb _ rfl) (fun _ => rd_wb _ rfl) (fun _ => rd_wb _ rfl) (fun _ => rd_wb _ rfl) (fun _ => rd_wb _ rfl) (fun _ => rd_wb _ rfl) (fun _ => rd_wb _ rfl) (fun _ => rd_wb _ rfl) (fun _ => rd_wb _ rfl) (fun _ => rd_wb _ rfl) (rd_wb _ rfl) (rd_wb _ rfl) (rd_wb _ rfl) (rd_wb _ rfl) (rd_wb _ rfl) (rd_wb _ rfl) (rd_wb _ rfl) (rd_wb _ rfl) (rd_wb _ rfl) (rd_wb _ rfl) (rd_wb _ rfl))) (fun M107 hS w107 => ?_)
        have kr_120_3 : rd M107 120 3 = s84_120_3 := ((Wr.b w107 rfl).trans ((Wr.b w87 rfl).trans es84_120_3))
        have kr_120_4 : rd M107 120 4 = s84_120_4 := ((Wr.b w107 rfl).trans ((Wr.b w87 rfl).trans es84_120_4))
        have kr_120_5 : rd M107 120 5 = s84_120_5 := ((Wr.b w107 rfl).trans ((Wr.b w87 rfl).trans es84_120_5))
        have kr_120_7 : rd M107 120 7 = s84_120_7 := ((Wr.b w107 rfl).trans ((Wr.b w87 rfl).trans es84_120_7))
        have kr_120_8 : rd M107 120 8 = s84_120_8 := ((Wr.b w107 rfl).trans ((Wr.b w87 rfl).trans es84_120_8))
        have kr_9010_0 : tav M107 = s84_9010_0 := ((tav_of ((Wr.b w107 rfl).trans ((Wr.b w87 rfl).trans rfl)) ((Wr.b w107 rfl).trans ((Wr.b w87 rfl).trans rfl))).trans es84_9010_0)
        exact Tr.vret (pc := 108) d_X12_input_108 rfl ⟨hS, rfl, (by first | exact (hd_o z84_0) | exact (hd_o z84_0).elim (fun h1 => by omega) (fun h1 => by omega)), (by omega), (by first | exact (hd_o z84_2) | exact (hd_o z84_2).elim (fun h1 => by omega) (fun h1 => h1.elim (fun h1 => by omega) (fun h1 => by omega))), (by and_intros <;> omega), (by omega), (by exact (hd_o z84_5).elim (fun h1 => by omega) (fun h1 => by omega))⟩
    · have kr_120_3 : rd M19 120 3 = s19_120_3 := es19_120_3
      have kr_120_4 : rd M19 120 4 = s19_120_4 := es19_120_4
      have kr_120_5 : rd M19 120 5 = s19_120_5 := es19_120_5
      have kr_120_7 : rd M19 120 7 = s19_120_7 := es19_120_7
      have kr_120_8 : rd M19 120 8 = s19_120_8 := es19_120_8
      have kr_9010_0 : tav M19 = s19_9010_0 := es19_9010_0
      exact Tr.vret (pc := 29) d_X12_input_29 rfl ⟨hS, rfl, (by first | exact (hd_o z19_0) | exact (hd_o z19_0).elim (fun h1 => by omega) (fun h1 => by omega)), (by omega), (by first | exact (hd_o z19_2) | exact (hd_o z19_2).elim (fun h1 => by omega) (fun h1 => h1.elim (fun h1 => by omega) (fun h1 => by omega))), (by and_intros <;> omega), (by first | exact (hd_o z19_4) | exact (hd_o z19_4).elim (fun h1 => by omega) (fun h1 => by omega)), (by first | exact (hd_o z19_5) | exact (hd_o z19_5).elim (fun h1 => by omega) (fun h1 => by omega))⟩
  refine Tr.icmp_ne (pc := 11) (tgt := 18) d_X12_input_11 rfl (fun c11 => ?_) (fun c11 => ?_)
  · have c11b : 0 ≤ g127_1 ∧ g127_1 ≤ 2 := by omega
    replace c11 := hd_i c11
    refine Tr.iconst (pc := 18) d_X12_input_18 (by decide) ?_
    refine Tr.pick [0] (ls2 := [(0, (2, 120))]) rfl ?_
    exact J19 _ _ hS (by omega) eg120_3 eg120_4 eg120_5 eg120_7 eg120_8 eg127_1 eg9010_0 (by omega)
  · refine Tr.iconst (pc := 14) d_X12_input_14 (by decide) ?_
    refine Tr.goto (pc := 15) (tgt := 19) d_X12_input_15 rfl ?_
    refine Tr.pick [0] (ls2 := [(0, (2, 120))]) rfl ?_
    exact J19 _ _ hS (by omega) eg120_3 eg120_4 eg120_5 eg120_7 eg120_8 eg127_1 eg9010_0 (by omega)
