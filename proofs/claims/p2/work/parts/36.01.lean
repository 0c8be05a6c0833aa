def ws_X12_isLine_120 : List (Int × Int) := []
def as_X12_isLine_120 : List Int := []
def q_X12_isLine_120 (a1 : Int) (M0 M' : Mem) (r : Option PV) : Prop := St Tru ws_X12_isLine_120 as_X12_isLine_120 M0 M' ∧ ∃ v : Int, r = some (0, v) ∧ 0 ≤ v ∧ v ≤ 1 ∧ (v = 0 ∨ (0 ≤ a1 ∧ a1 < rd M' 129 0))
set_option maxRecDepth 100000 in
set_option maxHeartbeats 4000000 in
theorem sp_X12_isLine_120 {l : Launch} {K : EC} {M0 : Mem} (hI : In Tru M0) (en_120_12 : rd M0 120 12 = 0) (a1 : Int) (ha1 : (-2147483648) ≤ a1 ∧ a1 ≤ 2147483647)  : Tr l K 1 mX12_isLine 0 [(0, (2, 120)), (1, (0, a1))] [] M0 (q_X12_isLine_120 a1 M0) := by
  have hS : St Tru ws_X12_isLine_120 as_X12_isLine_120 M0 M0 := St.rf hI
  obtain ⟨g129_0, eg129_0⟩ : ∃ v, rd M0 129 0 = v := ⟨_, rfl⟩
  have bg129_0 : 0 ≤ g129_0 ∧ g129_0 ≤ 60 := by rw [← eg129_0]; exact ir_129_0 hI.2.1
  refine Tr.iload_n (pc := 0) (i := 1) d_X12_isLine_0 rfl rfl ?_
  refine Tr.iconst (pc := 1) d_X12_isLine_1 (by decide) ?_
  refine Tr.aload_n (pc := 2) (i := 0) d_X12_isLine_2 rfl rfl ?_
  refine Tr.getf (pc := 3) d_X12_isLine_3 f_12_72 (by decide) (by decide) (ty_120 hS.1.1) ?_
  refine Tr.tp 129 (fx_120_20 hS.1.1) ?_
  refine Tr.aload_n (pc := 6) (i := 0) d_X12_isLine_6 rfl rfl ?_
  refine Tr.getf (pc := 7) d_X12_isLine_7 f_12_48 (by decide) (by decide) (ty_120 hS.1.1) ?_
  refine Tr.tp 0 ((St.kp hS (by decide) (by decide) (by decide)).trans en_120_12) ?_
  refine Tr.iald (pc := 10) d_X12_isLine_10 (ty_129 hS.1.1) (by omega) (by omega) ?_
  refine Tr.tp g129_0 eg129_0 ?_
  refine Tr.iconst (pc := 11) d_X12_isLine_11 (by decide) ?_
  refine Tr.isub (pc := 12) d_X12_isLine_12 ?_
  refine Tr.tp (g129_0 - 1) ((w32_id (by omega)).trans (by omega)) ?_
  refine Tr.callS (pc := 13) (as := [_, _, _]) d_X12_isLine_13 s_12_467 ok_X12_is rfl rfl (Nat.le_of_ble_eq_true rfl) (Nat.le_of_ble_eq_true rfl) ?_
  refine Tr.imp (Tr.deep (by decide) (sp_X12_is hS.1 a1 (by omega) 0 (by omega) (g129_0 - 1) (by omega))) ?_
  rintro M13 _ ⟨h13, r13, rfl, lr13, ur13, wr13⟩
  have hS := St.tr hS h13 (by decide) (by decide)
  refine Tr.sc [(0, r13)] rfl ?_
  have kr_129_0 : rd M13 129 0 = g129_0 := ((St.kp h13 (by decide) (by decide) (by decide)).trans eg129_0)
  exact Tr.zret (pc := 16) d_X12_isLine_16 rfl (by omega) ⟨hS, _, rfl, by omega, by omega, by omega⟩

def ws_X12_stateAt_120 : List (Int × Int) := []
def as_X12_stateAt_120 : List Int := []
def q_X12_stateAt_120 (a1 : Int) (a2 : Int) (M0 M' : Mem) (r : Option PV) : Prop := St Tru ws_X12_stateAt_120 as_X12_stateAt_120 M0 M' ∧ ∃ v : Int, r = some (0, v) ∧ 0 ≤ v ∧ v ≤ 3 ∧ (v = rd M0 163 (2100 * a1 + a2))
set_option maxRecDepth 100000 in
set_option maxHeartbeats 4000000 in
theorem sp_X12_stateAt_120 {l : Launch} {K : EC} {M0 : Mem} (hI : In Tru M0)  (a1 : Int) (ha1 : 0 ≤ a1 ∧ a1 ≤ 5) (a2 : Int) (ha2 : 0 ≤ a2 ∧ a2 ≤ 2099)  : Tr l K 0 mX12_stateAt 0 [(0, (2, 120)), (1, (0, a1)), (2, (0, a2))] [] M0 (q_X12_stateAt_120 a1 a2 M0) := by
  have hS : St Tru ws_X12_stateAt_120 as_X12_stateAt_120 M0 M0 := St.rf hI
  refine Tr.aload_n (pc := 0) (i := 0) d_X12_stateAt_0 rfl rfl ?_
  refine Tr.getf (pc := 1) d_X12_stateAt_1 f_12_231 (by decide) (by decide) (ty_120 hS.1.1) ?_
  refine Tr.tp 163 (fx_120_72 hS.1.1) ?_
  refine Tr.sipush (pc := 4) d_X12_stateAt_4 rfl (by decide) ?_
  refine Tr.iload_n (pc := 7) (i := 1) d_X12_stateAt_7 rfl rfl ?_
  refine Tr.imul (pc := 8) d_X12_stateAt_8 ?_
  refine Tr.tp (2100 * a1) ((w32_id (by omega)).trans (by omega)) ?_
  refine Tr.iload_n (pc := 9) (i := 2) d_X12_stateAt_9 rfl rfl ?_
  refine Tr.iadd (pc := 10) d_X12_stateAt_10 ?_
  refine Tr.tp (2100 * a1 + a2) ((w32_id (by omega)).trans (by omega)) ?_
  refine Tr.iald (pc := 11) d_X12_stateAt_11 (ty_163 hS.1.1) (by omega) (by omega) ?_
  refine Tr.gen (P := fun v => 0 ≤ v ∧ v ≤ 3) (ar_163 hS.1.2.1 _) (fun r11 er11 br11 => ?_)
  exact Tr.iret (pc := 12) d_X12_stateAt_12 rfl ⟨hS, _, rfl, by omega, by omega, by omega⟩

def ws_X12_finds_120 : List (Int × Int) := [(120, 97), (120, 98), (120, 99)]
def as_X12_finds_120 : List Int := []
def q_X12_finds_120 (a1 : Int) (a2 : Int) (M0 M' : Mem) (r : Option PV) : Prop := St Tru ws_X12_finds_120 as_X12_finds_120 M0 M' ∧ ∃ v : Int, r = some (0, v) ∧ 0 ≤ v ∧ v ≤ 1 ∧ (v = 0 ∨ a2 ≤ 2100)
set_option maxRecDepth 100000 in
set_option maxHeartbeats 4000000 in
theorem sp_X12_finds_120 {l : Launch} {K : EC} {M0 : Mem} (hI : In Tru M0)  (a1 : Int) (ha1 : 0 ≤ a1 ∧ a1 ≤ 5) (a2 : Int) (ha2 : (-2147483648) ≤ a2 ∧ a2 ≤ 2147483647)  : Tr l K 1 mX12_finds 0 [(0, (2, 120)), (1, (0, a1)), (2, (0, a2))] [] M0 (q_X12_finds_120 a1 a2 M0) := by
  have hS : St Tru ws_X12_finds_120 as_X12_finds_120 M0 M0 := St.rf hI
  obtain ⟨g120_97, eg120_97⟩ : ∃ v, rd M0 120 97 = v := ⟨_, rfl⟩
  have bg120_97 : 0 ≤ g120_97 ∧ g120_97 ≤ 2100 := by rw [← eg120_97]; exact ir_120_97 hI.2.1
  obtain ⟨g120_86, eg120_86⟩ : ∃ v, rd M0 120 86 = v := ⟨_, rfl⟩
  have bg120_86 : 0 ≤ g120_86 ∧ g120_86 ≤ 2060 := by rw [← eg120_86]; exact ir_120_86 hI.2.1
  refine Tr.iconst (pc := 0) d_X12_finds_0 (by decide) ?_
  refine Tr.istore_n (pc := 1) (i := 3) (ls2 := [(3, (0, 0)), (0, (2, 120)), (1, (0, a1)), (2, (0, a2))]) d_X12_finds_1 rfl (by decide) rfl ?_
  refine Tr.iconst (pc := 2) d_X12_finds_2 (by decide) ?_
  refine Tr.istore (pc := 3) (i := 4) (ls2 := [(4, (0, 0)), (3, (0, 0)), (0, (2, 120)), (1, (0, a1)), (2, (0, a2))]) d_X12_finds_3 (by decide) rfl ?_
  have J5 : ∀ (n5 : Nat) (M : Mem) (p5_3 p5_4 u5_120_97 : Int), St Tru ws_X12_finds_120 as_X12_finds_120 M0 M → (0 ≤ p5_3 ∧ p5_3 ≤ 2147483647) → (0 ≤ p5_4 ∧ p5_4 ≤ 2060) → (0 ≤ u5_120_97 ∧ u5_120_97 ≤ 2100) → rd M 120 86 = g120_86 → rd M 120 97 = u5_120_97 → (p5_3 ≤ p5_4 ∧ 0 ≤ p5_3) → (2200 - p5_4).toNat < n5 → Tr l K 1 mX12_finds 5 [(0, (2, 120)), (1, (0, a1)), (2, (0, a2)), (3, (0, p5_3)), (4, (0, p5_4))] [] M (q_X12_finds_120 a1 a2 M0) := by
    intro n5
    induction n5 with
    | zero => intro M p5_3 p5_4 u5_120_97 hS bp5_3 bp5_4 bu5_120_97 k5_120_86 k5_120_97 t5_0 hm5; exact absurd hm5 (Nat.not_lt_zero _)
    | succ n5 J5 =>
      intro M p5_3 p5_4 u5_120_97 hS bp5_3 bp5_4 bu5_120_97 k5_120_86 k5_120_97 t5_0 hm5
      refine Tr.iload (pc := 5) (i := 4) d_X12_finds_5 rfl ?_
      refine Tr.aload_n (pc := 7) (i := 0) d_X12_finds_7 rfl rfl ?_
      refine Tr.getf (pc := 8) d_X12_finds_8 f_12_273 (by decide) (by decide) (ty_120 hS.1.1) ?_
      refine Tr.tp g120_86 k5_120_86 ?_
      refine Tr.icmp_ge (pc := 11) (tgt := 80) d_X12_finds_11 rfl (fun c11 => ?_) (fun c11 => ?_)
      · refine Tr.aload_n (pc := 80) (i := 0) d_X12_finds_80 rfl rfl ?_
        refine Tr.iload_n (pc := 81) (i := 3) d_X12_finds_81 rfl rfl ?_
        refine Tr.putfS (pc := 82) (P := St Tru ws_X12_finds_120 as_X12_finds_120 M0) d_X12_finds_82 f_12_312 (by decide) (by decide) (ty_120 hS.1.1) (st_120_99 hS (by decide) (by omega) trivial) (fun M82 hS w82 => ?_)
        refine Tr.iconst (pc := 85) d_X12_finds_85 (by decide) ?_
        exact Tr.zret (pc := 86) d_X12_finds_86 rfl (by omega) ⟨hS, _, rfl, by omega, by omega, by omega⟩
      · refine Tr.aload_n (pc := 14) (i := 0) d_X12_finds_14 rfl rfl ?_
        refine Tr.iload_n (pc := 15) (i := 1) d_X12_finds_15 rfl rfl ?_
        refine Tr.iload (pc := 16) (i := 4) d_X12_finds_16 rfl ?_
        refine Tr.callV (pc := 18) (as := [_, _]) d_X12_finds_18 s_12_641 ok_X12_stateAt rfl rfl (Nat.le_of_ble_eq_true rfl) (Nat.le_of_ble_eq_true rfl) (by decide) (ty_120 hS.1.1) ?_
        refine Tr.imp (Tr.deep (by decide) (sp_X12_stateAt_120 hS.1 a1 (by omega) p5_4 (by omega))) ?_
        rintro M18 _ ⟨h18, r18, rfl, lr18, ur18, z18_0⟩
        have hS := St.tr hS h18 (by decide) (by decide)
        refine Tr.sc [(0, r18)] rfl ?_
        have qs18 : rd M 163 (2100 * a1 + p5_4) = r18 := (congrArg (rd M 163) (by omega)).trans z18_0.symm
        refine Tr.if_ne (pc := 21) (tgt := 30) d_X12_finds_21 rfl (fun c21 => ?_) (fun c21 => ?_)
        · refine Tr.aload_n (pc := 30) (i := 0) d_X12_finds_30 rfl rfl ?_
          refine Tr.iload (pc := 31) (i := 4) d_X12_finds_31 rfl ?_
          refine Tr.putfS (pc := 33) (P := St Tru ws_X12_finds_120 as_X12_finds_120 M0) d_X12_finds_33 f_12_306 (by decide) (by decide) (ty_120 hS.1.1) (st_120_97 hS (by decide) (by omega) trivial) (fun M33 hS w33 => ?_)
          have J36 : ∀ (n36 : Nat) (M : Mem) (p36_4 : Int), St Tru ws_X12_finds_120 as_X12_finds_120 M0 M → (0 ≤ p36_4 ∧ p36_4 ≤ 2060) → rd M 120 86 = g120_86 → rd M 120 97 = p5_4 → rd M 163 (2100 * a1 + p5_4) = r18 → (p5_3 ≤ p36_4 ∧ 0 ≤ p5_3) → (p5_4 < g120_86) → (p5_4 = p5_4) → (p5_4 ≤ p36_4 ∧ (p5_4 < p36_4 ∨ rd M 163 (2100 * a1 + p36_4) ≠ 0)) → (2200 - p36_4).toNat < n36 → Tr l K 1 mX12_finds 36 [(0, (2, 120)), (1, (0, a1)), (2, (0, a2)), (3, (0, p5_3)), (4, (0, p36_4))] [] M (q_X12_finds_120 a1 a2 M0) := by
            intro n36
            induction n36 with
            | zero => intro M p36_4 hS bp36_4 k36_120_86 k36_120_97 k36_163_a12100p5_410 t36_0 t36_1 t36_2 t36_3 hm36; exact absurd hm36 (Nat.not_lt_zero _)
            | succ n36 J36 =>
              intro M p36_4 hS bp36_4 k36_120_86 k36_120_97 k36_163_a12100p5_410 t36_0 t36_1 t36_2 t36_3 hm36
              refine Tr.iload (pc := 36) (i := 4) d_X12_finds_36 rfl ?_
              refine Tr.aload_n (pc := 38) (i := 0) d_X12_finds_38 rfl rfl ?_
              refine Tr.getf (pc := 39) d_X12_finds_39 f_12_273 (by decide) (by decide) (ty_120 hS.1.1) ?_
              refine Tr.tp g120_86 k36_120_86 ?_
              have J61 : ∀ (M : Mem), St Tru ws_X12_finds_120 as_X12_finds_120 M0 M → rd M 120 86 = g120_86 → rd M 120 97 = p5_4 → rd M 163 (2100 * a1 + p5_4) = r18 → (p5_3 ≤ p36_4 ∧ 0 ≤ p5_3) → (p5_4 < p36_4) → (p5_4 = p5_4) → Tr l K 1 mX12_finds 61 [(0, (2, 120)), (1, (0, a1)), (2, (0, a2)), (3, (0, p5_3)), (4, (0, p36_4))] [] M (q_X12_finds_120 a1 a2 M0) := by
                intro M  hS  k61_120_86 k61_120_97 k61_163_a12100p5_410 t61_0 t61_1 t61_2
                refine Tr.aload_n (pc := 61) (i := 0) d_X12_finds_61 rfl rfl ?_
                refine Tr.iload (pc := 62) (i := 4) d_X12_finds_62 rfl ?_
                refine Tr.putfS (pc := 64) (P := St Tru ws_X12_finds_120 as_X12_finds_120 M0) d_X12_finds_64 f_12_309 (by decide) (by decide) (ty_120 hS.1.1) (st_120_98 hS (by decide) (by omega) trivial) (fun M64 hS w64 => ?_)
                refine Tr.iload_n (pc := 67) (i := 3) d_X12_finds_67 rfl rfl ?_
                refine Tr.iload_n (pc := 68) (i := 2) d_X12_finds_68 rfl rfl ?_
                refine Tr.icmp_ne (pc := 69) (tgt := 74) d_X12_finds_69 rfl (fun c69 => ?_) (fun c69 => ?_)
                · refine Tr.iincV (pc := 74) (n2 := (p5_3 + 1)) (ls2 := [(3, (0, (p5_3 + 1))), (0, (2, 120)), (1, (0, a1)), (2, (0, a2)), (4, (0, p36_4))]) d_X12_finds_74 rfl (by decide) ((w32_id (by omega)).trans (by omega)) rfl ?_
                  refine Tr.goto (pc := 77) (tgt := 5) d_X12_finds_77 rfl ?_
                  refine Tr.pick [1, 2, 3, 0, 4] (ls2 := [(0, (2, 120)), (1, (0, a1)), (2, (0, a2)), (3, (0, (p5_3 + 1))), (4, (0, p36_4))]) rfl ?_
                  exact J5 _ _ _ _ hS (by omega) (by omega) (by omega) ((Wr.b w64 rfl).trans k61_120_86) ((Wr.b w64 rfl).trans k61_120_97) (by omega) (by omega)
                · refine Tr.iconst (pc := 72) d_X12_finds_72 (by decide) ?_
                  exact Tr.zret (pc := 73) d_X12_finds_73 rfl (by omega) ⟨hS, _, rfl, by omega, by omega, by omega⟩
              refine Tr.icmp_ge (pc := 42) (tgt := 61) d_X12_finds_42 rfl (fun c42 => ?_) (fun c42 => ?_)
              · refine Tr.pick [0, 1, 2, 3, 4] (ls2 := [(0, (2, 120)), (1, (0, a1)), (2, (0, a2)), (3, (0, p5_3)), (4, (0, p36_4))]) rfl ?_
                exact J61 _ hS k36_120_86 k36_120_97 k36_163_a12100p5_410 (by omega) (by omega) (by omega)
              · refine Tr.aload_n (pc := 45) (i := 0) d_X12_finds_45 rfl rfl ?_
                refine Tr.iload_n (pc := 46) (i := 1) d_X12_finds_46 rfl rfl ?_
                refine Tr.iload (pc := 47) (i := 4) d_X12_finds_47 rfl ?_
                refine Tr.callV (pc := 49) (as := [_, _]) d_X12_finds_49 s_12_641 ok_X12_stateAt rfl rfl (Nat.le_of_ble_eq_true rfl) (Nat.le_of_ble_eq_true rfl) (by decide) (ty_120 hS.1.1) ?_
                refine Tr.imp (Tr.deep (by decide) (sp_X12_stateAt_120 hS.1 a1 (by omega) p36_4 (by omega))) ?_
                rintro M49 _ ⟨h49, r49, rfl, lr49, ur49, z49_0⟩
                have hS := St.tr hS h49 (by decide) (by decide)
                refine Tr.sc [(0, r49)] rfl ?_
                have qs49 : rd M 163 (2100 * a1 + p36_4) = r49 := (congrArg (rd M 163) (by omega)).trans z49_0.symm
                refine Tr.if_eq (pc := 52) (tgt := 61) d_X12_finds_52 rfl (fun c52 => ?_) (fun c52 => ?_)
                · refine Tr.pick [0, 1, 2, 3, 4] (ls2 := [(0, (2, 120)), (1, (0, a1)), (2, (0, a2)), (3, (0, p5_3)), (4, (0, p36_4))]) rfl ?_
                  exact J61 _ hS ((St.kp h49 (by decide) (by decide) (by decide)).trans k36_120_86) ((St.kp h49 (by decide) (by decide) (by decide)).trans k36_120_97) ((St.ka h49 (by decide) (by decide) (by decide)).trans k36_163_a12100p5_410) (by omega) (by omega) (by omega)
                · refine Tr.iincV (pc := 55) (n2 := (p36_4 + 1)) (ls2 := [(4, (0, (p36_4 + 1))), (0, (2, 120)), (1, (0, a1)), (2, (0, a2)), (3, (0, p5_3))]) d_X12_finds_55 rfl (by decide) ((w32_id (by omega)).trans (by omega)) rfl ?_
                  refine Tr.goto (pc := 58) (tgt := 36) d_X12_finds_58 rfl ?_
                  refine Tr.pick [1, 2, 3, 4, 0] (ls2 := [(0, (2, 120)), (1, (0, a1)), (2, (0, a2)), (3, (0, p5_3)), (4, (0, (p36_4 + 1)))]) rfl ?_
                  exact J36 _ _ hS (by omega) ((St.kp h49 (by decide) (by decide) (by decide)).trans k36_120_86) ((St.kp h49 (by decide) (by decide) (by decide)).trans k36_120_97) ((St.ka h49 (by decide) (by decide) (by decide)).trans k36_163_a12100p5_410) (by omega) (by omega) (by omega) (by first | assumption | omega) (by omega)
          refine Tr.pick [0, 1, 2, 3, 4] (ls2 := [(0, (2, 120)), (1, (0, a1)), (2, (0, a2)), (3, (0, p5_3)), (4, (0, p5_4))]) rfl ?_
          have jr36_0 : rd M33 163 (2100 * a1 + p5_4) = r18 := ((Wr.b w33 rfl).trans ((St.ka h18 (by decide) (by decide) (by decide)).trans qs18))
          exact J36 _ _ _ hS (by omega) ((Wr.b w33 rfl).trans ((St.kp h18 (by decide) (by decide) (by decide)).trans k5_120_86)) w33.1 ((Wr.b w33 rfl).trans ((St.ka h18 (by decide) (by decide) (by decide)).trans qs18)) (by omega) (by omega) (by omega) (by first | assumption | omega) (Nat.lt_succ_self _)
        · refine Tr.iincV (pc := 24) (n2 := (p5_4 + 1)) (ls2 := [(4, (0, (p5_4 + 1))), (0, (2, 120)), (1, (0, a1)), (2, (0, a2)), (3, (0, p5_3))]) d_X12_finds_24 rfl (by decide) ((w32_id (by omega)).trans (by omega)) rfl ?_
          refine Tr.goto (pc := 27) (tgt := 5) d_X12_finds_27 rfl ?_
          refine Tr.pick [1, 2, 3, 4, 0] (ls2 := [(0, (2, 120)), (1, (0, a1)), (2, (0, a2)), (3, (0, p5_3)), (4, (0, (p5_4 + 1)))]) rfl ?_
          exact J5 _ _ _ _ hS (by omega) (by omega) (by omega) ((St.kp h18 (by decide) (by decide) (by decide)).trans k5_120_86) ((St.kp h18 (by decide) (by decide) (by decide)).trans k5_120_97) (by omega) (by omega)
  refine Tr.pick [2, 3, 4, 1, 0] (ls2 := [(0, (2, 120)), (1, (0, a1)), (2, (0, a2)), (3, (0, 0)), (4, (0, 0))]) rfl ?_
  exact J5 _ _ _ _ _ hS (by omega) (by omega) (by omega) eg120_86 eg120_97 (by omega) (Nat.lt_succ_self _)

def ws_X12_linesIn_120 : List (Int × Int) := []
def as_X12_linesIn_120 : List Int := []
def q_X12_linesIn_120 (M0 M' : Mem) (r : Option PV) : Prop := St Tru ws_X12_linesIn_120 as_X12_linesIn_120 M0 M' ∧ ∃ v : Int, r = some (1, v) ∧ (-9223372036854775808) ≤ v ∧ v ≤ 9223372036854775807
set_option maxRecDepth 100000 in
set_option maxHeartbeats 4000000 in
theorem sp_X12_linesIn_120 {l : Launch} {K : EC} {M0 : Mem} (hI : In Tru M0)  (a1 : Int) (ha1 : 0 ≤ a1 ∧ a1 ≤ 5)  : Tr l K 0 mX12_linesIn 0 [(0, (2, 120)), (1, (0, a1))] [] M0 (q_X12_linesIn_120 M0) := by
  have hS : St Tru ws_X12_linesIn_120 as_X12_linesIn_120 M0 M0 := St.rf hI
  refine Tr.lconst (pc := 0) (v := 0) d_X12_linesIn_0 rfl (by decide) ?_
  refine Tr.lstore_n (pc := 1) (i := 2) (ls2 := [(2, (1, 0)), (0, (2, 120)), (1, (0, a1))]) d_X12_linesIn_1 rfl (by decide) rfl ?_
  refine Tr.iconst (pc := 2) d_X12_linesIn_2 (by decide) ?_
  refine Tr.istore (pc := 3) (i := 4) (ls2 := [(4, (0, 0)), (2, (1, 0)), (0, (2, 120)), (1, (0, a1))]) d_X12_linesIn_3 (by decide) rfl ?_
  have J5 : ∀ (n5 : Nat) (M : Mem) (p5_2 p5_4 : Int), St Tru ws_X12_linesIn_120 as_X12_linesIn_120 M0 M → ((-9223372036854775808) ≤ p5_2 ∧ p5_2 ≤ 9223372036854775807) → (0 ≤ p5_4 ∧ p5_4 ≤ 2100) → (2100 - p5_4).toNat < n5 → Tr l K 0 mX12_linesIn 5 [(0, (2, 120)), (1, (0, a1)), (2, (1, p5_2)), (4, (0, p5_4))] [] M (q_X12_linesIn_120 M0) := by
    intro n5
    induction n5 with
    | zero => intro M p5_2 p5_4 hS bp5_2 bp5_4  hm5; exact absurd hm5 (Nat.not_lt_zero _)
    | succ n5 J5 =>
      intro M p5_2 p5_4 hS bp5_2 bp5_4  hm5
      refine Tr.iload (pc := 5) (i := 4) d_X12_linesIn_5 rfl ?_
      refine Tr.aload_n (pc := 7) (i := 0) d_X12_linesIn_7 rfl rfl ?_
      refine Tr.getf (pc := 8) d_X12_linesIn_8 f_12_300 (by decide) (by decide) (ty_120 hS.1.1) ?_
      refine Tr.gen (P := fun v => 0 ≤ v ∧ v ≤ 2100) (ir_120_95 hS.1.2.1) (fun r8 er8 br8 => ?_)
      refine Tr.icmp_ge (pc := 11) (tgt := 73) d_X12_linesIn_11 rfl (fun c11 => ?_) (fun c11 => ?_)
      · refine Tr.lload_n (pc := 73) (i := 2) d_X12_linesIn_73 rfl rfl ?_
        exact Tr.lret (pc := 74) d_X12_linesIn_74 rfl ⟨hS, _, rfl, by omega, by omega⟩
      · refine Tr.aload_n (pc := 14) (i := 0) d_X12_linesIn_14 rfl rfl ?_
        refine Tr.getf (pc := 15) d_X12_linesIn_15 f_12_243 (by decide) (by decide) (ty_120 hS.1.1) ?_
        refine Tr.tp 166 (fx_120_76 hS.1.1) ?_
        refine Tr.iload (pc := 18) (i := 4) d_X12_linesIn_18 rfl ?_
        refine Tr.iald (pc := 20) d_X12_linesIn_20 (ty_166 hS.1.1) (by omega) (by omega) ?_
        refine Tr.gen (P := fun v => 0 ≤ v ∧ v ≤ 5) (ar_166 hS.1.2.1 _) (fun r20 er20 br20 => ?_)
        refine Tr.iload_n (pc := 21) (i := 1) d_X12_linesIn_21 rfl rfl ?_
        have J67 : ∀ (M : Mem) (p67_2 : Int), St Tru ws_X12_linesIn_120 as_X12_linesIn_120 M0 M → ((-9223372036854775808) ≤ p67_2 ∧ p67_2 ≤ 9223372036854775807) → rd M 120 95 = r8 → rd M 166 p5_4 = r20 → Tr l K 0 mX12_linesIn 67 [(0, (2, 120)), (1, (0, a1)), (2, (1, p67_2)), (4, (0, p5_4))] [] M (q_X12_linesIn_120 M0) := by
          intro M p67_2 hS bp67_2 k67_120_95 k67_166_p5_410
          refine Tr.iincV (pc := 67) (n2 := (p5_4 + 1)) (ls2 := [(4, (0, (p5_4 + 1))), (0, (2, 120)), (1, (0, a1)), (2, (1, p67_2))]) d_X12_linesIn_67 rfl (by decide) ((w32_id (by omega)).trans (by omega)) rfl ?_
          refine Tr.goto (pc := 70) (tgt := 5) d_X12_linesIn_70 rfl ?_
          refine Tr.pick [1, 2, 3, 0] (ls2 := [(0, (2, 120)), (1, (0, a1)), (2, (1, p67_2)), (4, (0, (p5_4 + 1)))]) rfl ?_
          exact J5 _ _ _ hS (by omega) (by omega) (by omega)
        refine Tr.icmp_ne (pc := 22) (tgt := 67) d_X12_linesIn_22 rfl (fun c22 => ?_) (fun c22 => ?_)
        · refine Tr.pick [0, 1, 2, 3] (ls2 := [(0, (2, 120)), (1, (0, a1)), (2, (1, p5_2)), (4, (0, p5_4))]) rfl ?_
          exact J67 _ _ hS (by omega) er8 er20
        · refine Tr.aload_n (pc := 25) (i := 0) d_X12_linesIn_25 rfl rfl ?_
          refine Tr.getf (pc := 26) d_X12_linesIn_26 f_12_249 (by decide) (by decide) (ty_120 hS.1.1) ?_
          refine Tr.tp 168 (fx_120_78 hS.1.1) ?_
          refine Tr.iload (pc := 29) (i := 4) d_X12_linesIn_29 rfl ?_
          refine Tr.iald (pc := 31) d_X12_linesIn_31 (ty_168 hS.1.1) (by omega) (by omega) ?_
          refine Tr.gen (P := fun v => (-2147483648) ≤ v ∧ v ≤ 2147483647) (ar_168 hS.1.2.1 _) (fun r31 er31 br31 => ?_)
          refine Tr.aload_n (pc := 32) (i := 0) d_X12_linesIn_32 rfl rfl ?_
          refine Tr.getf (pc := 33) d_X12_linesIn_33 f_12_306 (by decide) (by decide) (ty_120 hS.1.1) ?_
          refine Tr.gen (P := fun v => 0 ≤ v ∧ v ≤ 2100) (ir_120_97 hS.1.2.1) (fun r33 er33 br33 => ?_)
          refine Tr.iconst (pc := 36) d_X12_linesIn_36 (by decide) ?_
          refine Tr.isub (pc := 37) d_X12_linesIn_37 ?_
          refine Tr.tp (r33 - 1) ((w32_id (by omega)).trans (by omega)) ?_
          refine Tr.icmp_lt (pc := 38) (tgt := 67) d_X12_linesIn_38 rfl (fun c38 => ?_) (fun c38 => ?_)
          · refine Tr.pick [0, 1, 2, 3] (ls2 := [(0, (2, 120)), (1, (0, a1)), (2, (1, p5_2)), (4, (0, p5_4))]) rfl ?_
            exact J67 _ _ hS (by omega) er8 er20
          · refine Tr.aload_n (pc := 41) (i := 0) d_X12_linesIn_41 rfl rfl ?_
            refine Tr.getf (pc := 42) d_X12_linesIn_42 f_12_249 (by decide) (by decide) (ty_120 hS.1.1) ?_
            refine Tr.tp 168 (fx_120_78 hS.1.1) ?_
            refine Tr.iload (pc := 45) (i := 4) d_X12_linesIn_45 rfl ?_
            refine Tr.iald (pc := 47) d_X12_linesIn_47 (ty_168 hS.1.1) (by omega) (by omega) ?_
            refine Tr.tp r31 er31 ?_
            refine Tr.aload_n (pc := 48) (i := 0) d_X12_linesIn_48 rfl rfl ?_
            refine Tr.getf (pc := 49) d_X12_linesIn_49 f_12_309 (by decide) (by decide) (ty_120 hS.1.1) ?_
            refine Tr.gen (P := fun v => 0 ≤ v ∧ v ≤ 2100) (ir_120_98 hS.1.2.1) (fun r49 er49 br49 => ?_)
            refine Tr.icmp_ge (pc := 52) (tgt := 67) d_X12_linesIn_52 rfl (fun c52 => ?_) (fun c52 => ?_)
            · refine Tr.pick [0, 1, 2, 3] (ls2 := [(0, (2, 120)), (1, (0, a1)), (2, (1, p5_2)), (4, (0, p5_4))]) rfl ?_
              exact J67 _ _ hS (by omega) er8 er20
            · refine Tr.lload_n (pc := 55) (i := 2) d_X12_linesIn_55 rfl rfl ?_
              refine Tr.lconst (pc := 56) (v := 1) d_X12_linesIn_56 rfl (by decide) ?_
              refine Tr.aload_n (pc := 57) (i := 0) d_X12_linesIn_57 rfl rfl ?_
              refine Tr.getf (pc := 58) d_X12_linesIn_58 f_12_246 (by decide) (by decide) (ty_120 hS.1.1) ?_
              refine Tr.tp 167 (fx_120_77 hS.1.1) ?_
              refine Tr.iload (pc := 61) (i := 4) d_X12_linesIn_61 rfl ?_
              refine Tr.iald (pc := 63) d_X12_linesIn_63 (ty_167 hS.1.1) (by omega) (by omega) ?_
              refine Tr.gen (P := fun v => (-1) ≤ v ∧ v ≤ 59) (ar_167 hS.1.2.1 _) (fun r63 er63 br63 => ?_)
              refine Tr.lshl (pc := 64) d_X12_linesIn_64 ?_
              refine Tr.gen (P := fun v => (-9223372036854775808) ≤ v ∧ v ≤ 9223372036854775807) (i64_b _) (fun r64 er64 br64 => ?_)
              refine Tr.lor (pc := 65) d_X12_linesIn_65 ?_
              refine Tr.gen (P := fun v => (-9223372036854775808) ≤ v ∧ v ≤ 9223372036854775807) (i64_b _) (fun r65 er65 br65 => ?_)
              refine Tr.lstore_n (pc := 66) (i := 2) (ls2 := [(2, (1, r65)), (0, (2, 120)), (1, (0, a1)), (4, (0, p5_4))]) d_X12_linesIn_66 rfl (by decide) rfl ?_
              refine Tr.pick [1, 2, 0, 3] (ls2 := [(0, (2, 120)), (1, (0, a1)), (2, (1, r65)), (4, (0, p5_4))]) rfl ?_
              exact J67 _ _ hS (by omega) er8 er20
  refine Tr.pick [2, 3, 1, 0] (ls2 := [(0, (2, 120)), (1, (0, a1)), (2, (1, 0)), (4, (0, 0))]) rfl ?_
  exact J5 _ _ _ _ hS (by omega) (by omega) (Nat.lt_succ_self _)

def ws_X12_bitsOf : List (Int × Int) := []
def as_X12_bitsOf : List Int := []
def q_X12_bitsOf (a0 : Int) (M0 M' : Mem) (r : Option PV) : Prop := St Tru ws_X12_bitsOf as_X12_bitsOf M0 M' ∧ ∃ v : Int, r = some (0, v) ∧ 0 ≤ v ∧ v ≤ 2147483648 ∧ ((v = pop a0 ∧ 0 ≤ v ∧ v ≤ 64) ∧ (a0 = 0 ∨ 1 ≤ v))
set_option maxRecDepth 100000 in
set_option maxHeartbeats 4000000 in
theorem sp_X12_bitsOf {l : Launch} {K : EC} {M0 : Mem} (hI : In Tru M0)  (a0 : Int) (ha0 : (-9223372036854775808) ≤ a0 ∧ a0 ≤ 9223372036854775807)  : Tr l K 0 mX12_bitsOf 0 [(0, (1, a0))] [] M0 (q_X12_bitsOf a0 M0) := by
  have hS : St Tru ws_X12_bitsOf as_X12_bitsOf M0 M0 := St.rf hI
  refine Tr.iconst (pc := 0) d_X12_bitsOf_0 (by decide) ?_
  refine Tr.istore_n (pc := 1) (i := 2) (ls2 := [(2, (0, 0)), (0, (1, a0))]) d_X12_bitsOf_1 rfl (by decide) rfl ?_
  refine Tr.lload_n (pc := 2) (i := 0) d_X12_bitsOf_2 rfl rfl ?_
  refine Tr.lstore_n (pc := 3) (i := 3) (ls2 := [(3, (1, a0)), (2, (0, 0)), (0, (1, a0))]) d_X12_bitsOf_3 rfl (by decide) rfl ?_
  have J4 : ∀ (n4 : Nat) (M : Mem) (p4_2 p4_3 : Int), St Tru ws_X12_bitsOf as_X12_bitsOf M0 M → (0 ≤ p4_2 ∧ p4_2 ≤ 2147483648) → ((-9223372036854775808) ≤ p4_3 ∧ p4_3 ≤ 9223372036854775807) → (p4_2 + pop p4_3 = pop a0) → (0 ≤ p4_2 ∧ p4_2 ≤ 64) → (p4_3 % 18446744073709551616).toNat < n4 → Tr l K 0 mX12_bitsOf 4 [(2, (0, p4_2)), (3, (1, p4_3))] [] M (q_X12_bitsOf a0 M0) := by
    intro n4
    induction n4 with
    | zero => intro M p4_2 p4_3 hS bp4_2 bp4_3  t4_0 t4_1 hm4; exact absurd hm4 (Nat.not_lt_zero _)
    | succ n4 J4 =>
      intro M p4_2 p4_3 hS bp4_2 bp4_3  t4_0 t4_1 hm4
      refine Tr.lload_n (pc := 4) (i := 3) d_X12_bitsOf_4 rfl rfl ?_
      refine Tr.lconst (pc := 5) (v := 0) d_X12_bitsOf_5 rfl (by decide) ?_
      refine Tr.lcmp (pc := 6) d_X12_bitsOf_6 ?_
      refine Tr.gen (P := fun v => (v = 1 ∧ 0 < p4_3) ∨ (v = 0 ∧ p4_3 = 0) ∨ (v = -1 ∧ p4_3 < 0)) (f_lcmp_c _ _) (fun r6 er6 br6 => ?_)
      refine Tr.if_eq (pc := 7) (tgt := 24) d_X12_bitsOf_7 rfl (fun c7 => ?_) (fun c7 => ?_)
      · refine Tr.iload_n (pc := 24) (i := 2) d_X12_bitsOf_24 rfl rfl ?_
        have jb := pop_b t4_0 (by omega) ha0
        exact Tr.iret (pc := 25) d_X12_bitsOf_25 rfl ⟨hS, _, rfl, by omega, by omega, by omega⟩
      · refine Tr.iload_n (pc := 10) (i := 2) d_X12_bitsOf_10 rfl rfl ?_
        refine Tr.lload_n (pc := 11) (i := 3) d_X12_bitsOf_11 rfl rfl ?_
        refine Tr.lconst (pc := 12) (v := 1) d_X12_bitsOf_12 rfl (by decide) ?_
        refine Tr.land (pc := 13) d_X12_bitsOf_13 ?_
        refine Tr.gen (P := fun v => v = p4_3 % 2 ∧ (0 ≤ v ∧ v ≤ 1)) ⟨(f_land_1 _).1, (f_land_1 _).2⟩ (fun r13 er13 br13 => ?_)
        refine Tr.l2i (pc := 14) d_X12_bitsOf_14 ?_
        refine Tr.tp r13 (w32_id (by omega)) ?_
        refine Tr.iadd (pc := 15) d_X12_bitsOf_15 ?_
        refine Tr.tp (p4_2 + r13) ((w32_id (by omega)).trans (by omega)) ?_
        refine Tr.istore_n (pc := 16) (i := 2) (ls2 := [(2, (0, (p4_2 + r13))), (3, (1, p4_3))]) d_X12_bitsOf_16 rfl (by decide) rfl ?_
        refine Tr.lload_n (pc := 17) (i := 3) d_X12_bitsOf_17 rfl rfl ?_
        refine Tr.iconst (pc := 18) d_X12_bitsOf_18 (by decide) ?_
        refine Tr.lushr (pc := 19) d_X12_bitsOf_19 ?_
        refine Tr.gen (P := fun v => v = (p4_3 % 18446744073709551616) / 2 ∧ (0 ≤ v ∧ v ≤ 9223372036854775807) ∧ (pop p4_3 : Int) = p4_3 % 2 + pop v) (lushr_pop _) (fun r19 er19 br19 => ?_)
        refine Tr.lstore_n (pc := 20) (i := 3) (ls2 := [(3, (1, r19)), (2, (0, (p4_2 + r13)))]) d_X12_bitsOf_20 rfl (by decide) rfl ?_
        refine Tr.goto (pc := 21) (tgt := 4) d_X12_bitsOf_21 rfl ?_
        refine Tr.pick [1, 0] (ls2 := [(2, (0, (p4_2 + r13))), (3, (1, r19))]) rfl ?_
        have jq := pop_le a0
        exact J4 _ _ _ hS (by omega) (by omega) (by omega) (by omega) (by omega)
  refine Tr.pick [1, 0] (ls2 := [(2, (0, 0)), (3, (1, a0))]) rfl ?_
  have jq := pop_le a0
  exact J4 _ _ _ _ hS (by omega) (by omega) (by omega) (by omega) (Nat.lt_succ_self _)

def ws_X12_onIn_120 : List (Int × Int) := []
def as_X12_onIn_120 : List Int := []
def q_X12_onIn_120 (M0 M' : Mem) (r : Option PV) : Prop := St Tru ws_X12_onIn_120 as_X12_onIn_120 M0 M' ∧ ∃ v : Int, r = some (0, v) ∧ (-2147483648) ≤ v ∧ v ≤ 2147483647
set_option maxRecDepth 100000 in
set_option maxHeartbeats 4000000 in
theorem sp_X12_onIn_120 {l : Launch} {K : EC} {M0 : Mem} (hI : In Tru M0)  (a1 : Int) (ha1 : 0 ≤ a1 ∧ a1 ≤ 5)  : Tr l K 1 mX12_onIn 0 [(0, (2, 120)), (1, (0, a1))] [] M0 (q_X12_onIn_120 M0) := by
  have hS : St Tru ws_X12_onIn_120 as_X12_onIn_120 M0 M0 := St.rf hI
  refine Tr.iconst (pc := 0) d_X12_onIn_0 (by decide) ?_
  refine Tr.istore_n (pc := 1) (i := 2) (ls2 := [(2, (0, 0)), (0, (2, 120)), (1, (0, a1))]) d_X12_onIn_1 rfl (by decide) rfl ?_
  refine Tr.aload_n (pc := 2) (i := 0) d_X12_onIn_2 rfl rfl ?_
  refine Tr.getf (pc := 3) d_X12_onIn_3 f_12_306 (by decide) (by decide) (ty_120 hS.1.1) ?_
  refine Tr.gen (P := fun v => 0 ≤ v ∧ v ≤ 2100) (ir_120_97 hS.1.2.1) (fun r3 er3 br3 => ?_)
  refine Tr.istore_n (pc := 6) (i := 3) (ls2 := [(3, (0, r3)), (2, (0, 0)), (0, (2, 120)), (1, (0, a1))]) d_X12_onIn_6 rfl (by decide) rfl ?_
  have J7 : ∀ (n7 : Nat) (M : Mem) (p7_2 p7_3 : Int), St Tru ws_X12_onIn_120 as_X12_onIn_120 M0 M → ((-2147483648) ≤ p7_2 ∧ p7_2 ≤ 2147483647) → (0 ≤ p7_3 ∧ p7_3 ≤ 2100) → rd M 120 97 = r3 → (2100 - p7_3).toNat < n7 → Tr l K 1 mX12_onIn 7 [(0, (2, 120)), (1, (0, a1)), (2, (0, p7_2)), (3, (0, p7_3))] [] M (q_X12_onIn_120 M0) := by
    intro n7
    induction n7 with
    | zero => intro M p7_2 p7_3 hS bp7_2 bp7_3 k7_120_97 hm7; exact absurd hm7 (Nat.not_lt_zero _)
    | succ n7 J7 =>
      intro M p7_2 p7_3 hS bp7_2 bp7_3 k7_120_97 hm7
      refine Tr.iload_n (pc := 7) (i := 3) d_X12_onIn_7 rfl rfl ?_
      refine Tr.aload_n (pc := 8) (i := 0) d_X12_onIn_8 rfl rfl ?_
      refine Tr.getf (pc := 9) d_X12_onIn_9 f_12_309 (by decide) (by decide) (ty_120 hS.1.1) ?_
      refine Tr.gen (P := fun v => 0 ≤ v ∧ v ≤ 2100) (ir_120_98 hS.1.2.1) (fun r9 er9 br9 => ?_)
      refine Tr.icmp_ge (pc := 12) (tgt := 39) d_X12_onIn_12 rfl (fun c12 => ?_) (fun c12 => ?_)
      · refine Tr.iload_n (pc := 39) (i := 2) d_X12_onIn_39 rfl rfl ?_
        exact Tr.iret (pc := 40) d_X12_onIn_40 rfl ⟨hS, _, rfl, by omega, by omega⟩
      · refine Tr.iload_n (pc := 15) (i := 2) d_X12_onIn_15 rfl rfl ?_
        refine Tr.aload_n (pc := 16) (i := 0) d_X12_onIn_16 rfl rfl ?_
        refine Tr.iload_n (pc := 17) (i := 1) d_X12_onIn_17 rfl rfl ?_
        refine Tr.iload_n (pc := 18) (i := 3) d_X12_onIn_18 rfl rfl ?_
        refine Tr.callV (pc := 19) (as := [_, _]) d_X12_onIn_19 s_12_641 ok_X12_stateAt rfl rfl (Nat.le_of_ble_eq_true rfl) (Nat.le_of_ble_eq_true rfl) (by decide) (ty_120 hS.1.1) ?_
        refine Tr.imp (Tr.deep (by decide) (sp_X12_stateAt_120 hS.1 a1 (by omega) p7_3 (by omega))) ?_
        rintro M19 _ ⟨h19, r19, rfl, lr19, ur19, z19_0⟩
        have hS := St.tr hS h19 (by decide) (by decide)
        refine Tr.sc [(0, r19), (0, p7_2)] rfl ?_
        have qs19 : rd M 163 (2100 * a1 + p7_3) = r19 := (congrArg (rd M 163) (by omega)).trans z19_0.symm
        refine Tr.iconst (pc := 22) d_X12_onIn_22 (by decide) ?_
        have J31 : ∀ (M : Mem) (q31_1 : Int), St Tru ws_X12_onIn_120 as_X12_onIn_120 M0 M → (0 ≤ q31_1 ∧ q31_1 ≤ 1) → rd M 120 97 = r3 → rd M 120 98 = r9 → rd M 163 (2100 * a1 + p7_3) = r19 → Tr l K 1 mX12_onIn 31 [(0, (2, 120)), (1, (0, a1)), (3, (0, p7_3))] [(0, q31_1), (0, p7_2)] M (q_X12_onIn_120 M0) := by
          intro M q31_1 hS bq31_1 k31_120_97 k31_120_98 k31_163_a12100p7_310
          refine Tr.iadd (pc := 31) d_X12_onIn_31 ?_
          refine Tr.gen (P := fun v => (-2147483648) ≤ v ∧ v ≤ 2147483647) (w32_b _) (fun r31 er31 br31 => ?_)
          refine Tr.istore_n (pc := 32) (i := 2) (ls2 := [(2, (0, r31)), (0, (2, 120)), (1, (0, a1)), (3, (0, p7_3))]) d_X12_onIn_32 rfl (by decide) rfl ?_
          refine Tr.iincV (pc := 33) (n2 := (p7_3 + 1)) (ls2 := [(3, (0, (p7_3 + 1))), (2, (0, r31)), (0, (2, 120)), (1, (0, a1))]) d_X12_onIn_33 rfl (by decide) ((w32_id (by omega)).trans (by omega)) rfl ?_
          refine Tr.goto (pc := 36) (tgt := 7) d_X12_onIn_36 rfl ?_
          refine Tr.pick [2, 3, 1, 0] (ls2 := [(0, (2, 120)), (1, (0, a1)), (2, (0, r31)), (3, (0, (p7_3 + 1)))]) rfl ?_
          exact J7 _ _ _ hS (by omega) (by omega) k31_120_97 (by omega)
        refine Tr.icmp_ne (pc := 23) (tgt := 30) d_X12_onIn_23 rfl (fun c23 => ?_) (fun c23 => ?_)
        · refine Tr.iconst (pc := 30) d_X12_onIn_30 (by decide) ?_
          refine Tr.pick [0, 1, 3] (ls2 := [(0, (2, 120)), (1, (0, a1)), (3, (0, p7_3))]) rfl ?_
          exact J31 _ _ hS (by omega) ((St.kp h19 (by decide) (by decide) (by decide)).trans k7_120_97) ((St.kp h19 (by decide) (by decide) (by decide)).trans er9) ((St.ka h19 (by decide) (by decide) (by decide)).trans qs19)
        · refine Tr.iconst (pc := 26) d_X12_onIn_26 (by decide) ?_
          refine Tr.goto (pc := 27) (tgt := 31) d_X12_onIn_27 rfl ?_
          refine Tr.pick [0, 1, 3] (ls2 := [(0, (2, 120)), (1, (0, a1)), (3, (0, p7_3))]) rfl ?_
          exact J31 _ _ hS (by omega) ((St.kp h19 (by decide) (by decide) (by decide)).trans k7_120_97) ((St.kp h19 (by decide) (by decide) (by decide)).trans er9) ((St.ka h19 (by decide) (by decide) (by decide)).trans qs19)
  refine Tr.pick [2, 3, 1, 0] (ls2 := [(0, (2, 120)), (1, (0, a1)), (2, (0, 0)), (3, (0, r3))]) rfl ?_
  exact J7 _ _ _ _ hS (by omega) (by omega) er3 (Nat.lt_succ_self _)

def ws_X12_rate_120 : List (Int × Int) := []
def as_X12_rate_120 : List Int := []
def q_X12_rate_120 (a1 : Int) (a2 : Int) (M0 M' : Mem) (r : Option PV) : Prop := St Tru ws_X12_rate_120 as_X12_rate_120 M0 M' ∧ ∃ v : Int, r = some (0, v) ∧ (-2147483648) ≤ v ∧ v ≤ 2147483647 ∧ (a2 ≠ 5 ∨ rd M' 126 0 ≤ a1 ∨ v ≤ 50)
set_option maxRecDepth 100000 in
set_option maxHeartbeats 4000000 in
theorem sp_X12_rate_120 {l : Launch} {K : EC} {M0 : Mem} (hI : In Tru M0) (en_120_12 : rd M0 120 12 = 0) (a1 : Int) (ha1 : 0 ≤ a1 ∧ a1 ≤ 5) (a2 : Int) (ha2 : 0 ≤ a2 ∧ a2 ≤ 5)  (hF_Bk0 : Bk0 M0) : Tr l K 0 mX12_rate 0 [(0, (2, 120)), (1, (0, a1)), (2, (0, a2))] [] M0 (q_X12_rate_120 a1 a2 M0) := by
  have hS : St Tru ws_X12_rate_120 as_X12_rate_120 M0 M0 := St.rf hI
  obtain ⟨g126_0, eg126_0⟩ : ∃ v, rd M0 126 0 = v := ⟨_, rfl⟩
  have bg126_0 : 0 ≤ g126_0 ∧ g126_0 ≤ 6 := by rw [← eg126_0]; exact ir_126_0 hI.2.1
  refine Tr.aload_n (pc := 0) (i := 0) d_X12_rate_0 rfl rfl ?_
  refine Tr.getf (pc := 1) d_X12_rate_1 f_12_79 (by decide) (by decide) (ty_120 hS.1.1) ?_
  refine Tr.tp 131 (fx_120_22 hS.1.1) ?_
  refine Tr.bipush (pc := 4) d_X12_rate_4 rfl (by decide) ?_
  refine Tr.bipush (pc := 6) d_X12_rate_6 rfl (by decide) ?_
  refine Tr.aload_n (pc := 8) (i := 0) d_X12_rate_8 rfl rfl ?_
  refine Tr.getf (pc := 9) d_X12_rate_9 f_12_48 (by decide) (by decide) (ty_120 hS.1.1) ?_
  refine Tr.tp 0 ((St.kp hS (by decide) (by decide) (by decide)).trans en_120_12) ?_
  refine Tr.imul (pc := 12) d_X12_rate_12 ?_
  refine Tr.tp 0 (by decide) ?_
  refine Tr.iload_n (pc := 13) (i := 1) d_X12_rate_13 rfl rfl ?_
  refine Tr.iadd (pc := 14) d_X12_rate_14 ?_
  refine Tr.tp a1 ((w32_id (by omega)).trans (by omega)) ?_
  refine Tr.imul (pc := 15) d_X12_rate_15 ?_
  refine Tr.tp (6 * a1) ((w32_id (by omega)).trans (by omega)) ?_
  refine Tr.iload_n (pc := 16) (i := 2) d_X12_rate_16 rfl rfl ?_
  refine Tr.iadd (pc := 17) d_X12_rate_17 ?_
  refine Tr.tp (6 * a1 + a2) ((w32_id (by omega)).trans (by omega)) ?_
  refine Tr.iald (pc := 18) d_X12_rate_18 (ty_131 hS.1.1) (by omega) (by omega) ?_
  refine Tr.gen (P := fun v => ((-2147483648) ≤ v ∧ v ≤ 2147483647) ∧ (a2 ≠ 5 ∨ g126_0 ≤ a1 ∨ v ≤ 50)) (by have h9 := (ar_131 hS.1.2.1 ((6 * a1 + a2))); have h8 := Bk0_rt (Bk0.of hF_Bk0 (fun j => (St.ka hS (by decide) (by decide) (by decide))) (fun j => (St.ka hS (by decide) (by decide) (by decide))) (fun j => (St.ka hS (by decide) (by decide) (by decide))) (fun j => (St.ka hS (by decide) (by decide) (by decide))) (fun j => (St.ka hS (by decide) (by decide) (by decide))) (fun j => (St.ka hS (by decide) (by decide) (by decide))) (fun j => (St.ka hS (by decide) (by decide) (by decide))) (fun j => (St.ka hS (by decide) (by decide) (by decide))) (St.kp hS (by decide) (by decide) (by decide)) (St.kp hS (by decide) (by decide) (by decide)) (St.kp hS (by decide) (by decide) (by decide)) (St.kp hS (by decide) (by decide) (by decide))) (p := a1) (k := a2) (i := (6 * a1 + a2)) (by omega) (by omega); have e8 := eg126_0; rw [e8] at h8; exact ⟨h9, h8⟩) (fun r18 er18 br18 => ?_)
  have kr_126_0 : rd M0 126 0 = g126_0 := eg126_0
  exact Tr.iret (pc := 19) d_X12_rate_19 rfl ⟨hS, _, rfl, by omega, by omega, by omega⟩

def ws_X12_sharesOf_120 : List (Int × Int) := [(120, 97), (120, 98), (120, 99)]
def as_X12_sharesOf_120 : List Int := []
def q_X12_sharesOf_120 (M0 M' : Mem) (r : Option PV) : Prop := St Tru ws_X12_sharesOf_120 as_X12_sharesOf_120 M0 M' ∧ ∃ v : Int, r = some (1, v) ∧ (-9223372036854775808) ≤ v ∧ v ≤ 9223372036854775807
set_option maxRecDepth 100000 in
set_option maxHeartbeats 4000000 in
theorem sp_X12_sharesOf_120 {l : Launch} {K : EC} {M0 : Mem} (hI : In Tru M0) (en_120_12 : rd M0 120 12 = 0) (a1 : Int) (ha1 : 0 ≤ a1 ∧ a1 ≤ 5) (a2 : Int) (ha2 : (-2147483648) ≤ a2 ∧ a2 ≤ 2147483647)  (hF_Bk0 : Bk0 M0) : Tr l K 2 mX12_sharesOf 0 [(0, (2, 120)), (1, (0, a1)), (2, (0, a2))] [] M0 (q_X12_sharesOf_120 M0) := by
  have hS : St Tru ws_X12_sharesOf_120 as_X12_sharesOf_120 M0 M0 := St.rf hI
  refine Tr.lconst (pc := 0) (v := 0) d_X12_sharesOf_0 rfl (by decide) ?_
  refine Tr.lstore_n (pc := 1) (i := 3) (ls2 := [(3, (1, 0)), (0, (2, 120)), (1, (0, a1)), (2, (0, a2))]) d_X12_sharesOf_1 rfl (by decide) rfl ?_
  refine Tr.iconst (pc := 2) d_X12_sharesOf_2 (by decide) ?_
  refine Tr.istore (pc := 3) (i := 5) (ls2 := [(5, (0, 1)), (3, (1, 0)), (0, (2, 120)), (1, (0, a1)), (2, (0, a2))]) d_X12_sharesOf_3 (by decide) rfl ?_
  refine Tr.iconst (pc := 5) d_X12_sharesOf_5 (by decide) ?_
  refine Tr.istore (pc := 6) (i := 6) (ls2 := [(6, (0, 0)), (5, (0, 1)), (3, (1, 0)), (0, (2, 120)), (1, (0, a1)), (2, (0, a2))]) d_X12_sharesOf_6 (by decide) rfl ?_
  have J8 : ∀ (n8 : Nat) (M : Mem) (p8_3 p8_5 p8_6 : Int), St Tru ws_X12_sharesOf_120 as_X12_sharesOf_120 M0 M → ((-9223372036854775808) ≤ p8_3 ∧ p8_3 ≤ 9223372036854775807) → (0 ≤ p8_5 ∧ p8_5 ≤ 1) → (0 ≤ p8_6 ∧ p8_6 ≤ 2147483647) → (p8_6 ≤ 2102 ∧ (p8_5 = 0 ∨ p8_6 ≤ 2101)) → (2300 - p8_6).toNat < n8 → Tr l K 2 mX12_sharesOf 8 [(0, (2, 120)), (1, (0, a1)), (2, (0, a2)), (3, (1, p8_3)), (5, (0, p8_5)), (6, (0, p8_6))] [] M (q_X12_sharesOf_120 M0) := by
    intro n8
    induction n8 with
    | zero => intro M p8_3 p8_5 p8_6 hS bp8_3 bp8_5 bp8_6  t8_0 hm8; exact absurd hm8 (Nat.not_lt_zero _)
    | succ n8 J8 =>
      intro M p8_3 p8_5 p8_6 hS bp8_3 bp8_5 bp8_6  t8_0 hm8
      refine Tr.iload (pc := 8) (i := 5) d_X12_sharesOf_8 rfl ?_
      refine Tr.if_eq (pc := 10) (tgt := 117) d_X12_sharesOf_10 rfl (fun c10 => ?_) (fun c10 => ?_)
      · refine Tr.lload_n (pc := 117) (i := 3) d_X12_sharesOf_117 rfl rfl ?_
        exact Tr.lret (pc := 118) d_X12_sharesOf_118 rfl ⟨hS, _, rfl, by omega, by omega⟩
      · refine Tr.aload_n (pc := 13) (i := 0) d_X12_sharesOf_13 rfl rfl ?_
        refine Tr.iload_n (pc := 14) (i := 1) d_X12_sharesOf_14 rfl rfl ?_
        refine Tr.iload (pc := 15) (i := 6) d_X12_sharesOf_15 rfl ?_
        refine Tr.callV (pc := 17) (as := [_, _]) d_X12_sharesOf_17 s_12_644 ok_X12_finds rfl rfl (Nat.le_of_ble_eq_true rfl) (Nat.le_of_ble_eq_true rfl) (by decide) (ty_120 hS.1.1) ?_
        refine Tr.imp (Tr.deep (by decide) (sp_X12_finds_120 hS.1 a1 (by omega) p8_6 (by omega))) ?_
        rintro M17 _ ⟨h17, r17, rfl, lr17, ur17, z17_0⟩
        have hS := St.tr hS h17 (by decide) (by decide)
        refine Tr.sc [(0, r17)] rfl ?_
        refine Tr.istore (pc := 20) (i := 5) (ls2 := [(5, (0, r17)), (0, (2, 120)), (1, (0, a1)), (2, (0, a2)), (3, (1, p8_3)), (6, (0, p8_6))]) d_X12_sharesOf_20 (by decide) rfl ?_
        refine Tr.iload (pc := 22) (i := 5) d_X12_sharesOf_22 rfl ?_
        have J111 : ∀ (M : Mem) (p111_3 : Int), St Tru ws_X12_sharesOf_120 as_X12_sharesOf_120 M0 M → ((-9223372036854775808) ≤ p111_3 ∧ p111_3 ≤ 9223372036854775807) → (p8_6 ≤ 2101 ∧ (r17 = 0 ∨ p8_6 ≤ 2100)) → Tr l K 2 mX12_sharesOf 111 [(0, (2, 120)), (1, (0, a1)), (2, (0, a2)), (3, (1, p111_3)), (5, (0, r17)), (6, (0, p8_6))] [] M (q_X12_sharesOf_120 M0) := by
          intro M p111_3 hS bp111_3  t111_0
          refine Tr.iincV (pc := 111) (n2 := (p8_6 + 1)) (ls2 := [(6, (0, (p8_6 + 1))), (0, (2, 120)), (1, (0, a1)), (2, (0, a2)), (3, (1, p111_3)), (5, (0, r17))]) d_X12_sharesOf_111 rfl (by decide) ((w32_id (by omega)).trans (by omega)) rfl ?_
          refine Tr.goto (pc := 114) (tgt := 8) d_X12_sharesOf_114 rfl ?_
          refine Tr.pick [1, 2, 3, 4, 5, 0] (ls2 := [(0, (2, 120)), (1, (0, a1)), (2, (0, a2)), (3, (1, p111_3)), (5, (0, r17)), (6, (0, (p8_6 + 1)))]) rfl ?_
          exact J8 _ _ _ _ hS (by omega) (by omega) (by omega) (by first | assumption | omega) (by omega)
        refine Tr.if_ne (pc := 24) (tgt := 30) d_X12_sharesOf_24 rfl (fun c24 => ?_) (fun c24 => ?_)
        · refine Tr.aload_n (pc := 30) (i := 0) d_X12_sharesOf_30 rfl rfl ?_
          refine Tr.iload_n (pc := 31) (i := 1) d_X12_sharesOf_31 rfl rfl ?_
          refine Tr.callV (pc := 32) (as := [_]) d_X12_sharesOf_32 s_12_650 ok_X12_linesIn rfl rfl (Nat.le_of_ble_eq_true rfl) (Nat.le_of_ble_eq_true rfl) (by decide) (ty_120 hS.1.1) ?_
          refine Tr.imp (Tr.deep (by decide) (sp_X12_linesIn_120 hS.1 a1 (by omega))) ?_
          rintro M32 _ ⟨h32, r32, rfl, lr32, ur32⟩
          have hS := St.tr hS h32 (by decide) (by decide)
          refine Tr.sc [(1, r32)] rfl ?_
          refine Tr.lstore (pc := 35) (i := 7) (ls2 := [(7, (1, r32)), (5, (0, r17)), (0, (2, 120)), (1, (0, a1)), (2, (0, a2)), (3, (1, p8_3)), (6, (0, p8_6))]) d_X12_sharesOf_35 (by decide) rfl ?_
          refine Tr.lload (pc := 37) (i := 7) d_X12_sharesOf_37 rfl ?_
          refine Tr.iload_n (pc := 39) (i := 2) d_X12_sharesOf_39 rfl rfl ?_
          refine Tr.lshr (pc := 40) d_X12_sharesOf_40 ?_
          refine Tr.gen (P := fun v => ((-9223372036854775808) ≤ v ∧ v ≤ 9223372036854775807) ∧ (r32 ≠ 0 ∨ v = 0)) (lshr_z _ _) (fun r40 er40 br40 => ?_)
          refine Tr.lconst (pc := 41) (v := 1) d_X12_sharesOf_41 rfl (by decide) ?_
          refine Tr.land (pc := 42) d_X12_sharesOf_42 ?_
          refine Tr.gen (P := fun v => v = r40 % 2 ∧ (0 ≤ v ∧ v ≤ 1)) ⟨(f_land_1 _).1, (f_land_1 _).2⟩ (fun r42 er42 br42 => ?_)
          refine Tr.lconst (pc := 43) (v := 0) d_X12_sharesOf_43 rfl (by decide) ?_
          refine Tr.lcmp (pc := 44) d_X12_sharesOf_44 ?_
          refine Tr.gen (P := fun v => (v = 1 ∧ 0 < r42) ∨ (v = 0 ∧ r42 = 0) ∨ (v = -1 ∧ r42 < 0)) (f_lcmp_c _ _) (fun r44 er44 br44 => ?_)
          refine Tr.if_ne (pc := 45) (tgt := 51) d_X12_sharesOf_45 rfl (fun c45 => ?_) (fun c45 => ?_)
          · refine Tr.lload (pc := 51) (i := 7) d_X12_sharesOf_51 rfl ?_
            refine Tr.callS (pc := 53) (as := [_]) d_X12_sharesOf_53 s_12_653 ok_X12_bitsOf rfl rfl (Nat.le_of_ble_eq_true rfl) (Nat.le_of_ble_eq_true rfl) ?_
            refine Tr.imp (Tr.deep (by decide) (sp_X12_bitsOf hS.1 r32 (by omega))) ?_
            rintro M53 _ ⟨h53, r53, rfl, lr53, ur53, wr53⟩
            have hS := St.tr hS h53 (by decide) (by decide)
            refine Tr.sc [(0, r53)] rfl ?_
            refine Tr.istore (pc := 56) (i := 9) (ls2 := [(9, (0, r53)), (7, (1, r32)), (5, (0, r17)), (0, (2, 120)), (1, (0, a1)), (2, (0, a2)), (3, (1, p8_3)), (6, (0, p8_6))]) d_X12_sharesOf_56 (by decide) rfl ?_
            refine Tr.aload_n (pc := 58) (i := 0) d_X12_sharesOf_58 rfl rfl ?_
            refine Tr.iload_n (pc := 59) (i := 1) d_X12_sharesOf_59 rfl rfl ?_
            refine Tr.callV (pc := 60) (as := [_]) d_X12_sharesOf_60 s_12_647 ok_X12_onIn rfl rfl (Nat.le_of_ble_eq_true rfl) (Nat.le_of_ble_eq_true rfl) (by decide) (ty_120 hS.1.1) ?_
            refine Tr.imp (Tr.deep (by decide) (sp_X12_onIn_120 hS.1 a1 (by omega))) ?_
            rintro M60 _ ⟨h60, r60, rfl, lr60, ur60⟩
            have hS := St.tr hS h60 (by decide) (by decide)
            refine Tr.sc [(0, r60)] rfl ?_
            refine Tr.i2l (pc := 63) d_X12_sharesOf_63 ?_
            refine Tr.aload_n (pc := 64) (i := 0) d_X12_sharesOf_64 rfl rfl ?_
            refine Tr.iload_n (pc := 65) (i := 1) d_X12_sharesOf_65 rfl rfl ?_
            refine Tr.iconst (pc := 66) d_X12_sharesOf_66 (by decide) ?_
            refine Tr.callV (pc := 67) (as := [_, _]) d_X12_sharesOf_67 s_12_565 ok_X12_rate rfl rfl (Nat.le_of_ble_eq_true rfl) (Nat.le_of_ble_eq_true rfl) (by decide) (ty_120 hS.1.1) ?_
            refine Tr.imp (Tr.deep (by decide) (sp_X12_rate_120 hS.1 ((St.kp hS (by decide) (by decide) (by decide)).trans en_120_12) a1 (by omega) 3 (by omega) (Bk0.of hF_Bk0 (fun j => (St.ka hS (by decide) (by decide) (by decide))) (fun j => (St.ka hS (by decide) (by decide) (by decide))) (fun j => (St.ka hS (by decide) (by decide) (by decide))) (fun j => (St.ka hS (by decide) (by decide) (by decide))) (fun j => (St.ka hS (by decide) (by decide) (by decide))) (fun j => (St.ka hS (by decide) (by decide) (by decide))) (fun j => (St.ka hS (by decide) (by decide) (by decide))) (fun j => (St.ka hS (by decide) (by decide) (by decide))) (St.kp hS (by decide) (by decide) (by decide)) (St.kp hS (by decide) (by decide) (by decide)) (St.kp hS (by decide) (by decide) (by decide)) (St.kp hS (by decide) (by decide) (by decide))))) ?_
            rintro M67 _ ⟨h67, r67, rfl, lr67, ur67, z67_0⟩
            have hS := St.tr hS h67 (by decide) (by decide)
            obtain ⟨w67_126_0, ew67_126_0⟩ : ∃ v, rd M67 126 0 = v := ⟨_, rfl⟩
            have bw67_126_0 : 0 ≤ w67_126_0 ∧ w67_126_0 ≤ 6 := by rw [← ew67_126_0]; exact ir_126_0 hS.1.2.1
            have ka67_126_0 : rd M67 126 0 = w67_126_0 := ew67_126_0
            refine Tr.sc [(0, r67), (1, r60)] rfl ?_
            refine Tr.i2l (pc := 70) d_X12_sharesOf_70 ?_
            refine Tr.lmul (pc := 71) d_X12_sharesOf_71 ?_
            refine Tr.gen (P := fun v => (-9223372036854775808) ≤ v ∧ v ≤ 9223372036854775807) (w64_b _) (fun r71 er71 br71 => ?_)
            refine Tr.lstore (pc := 72) (i := 10) (ls2 := [(10, (1, r71)), (9, (0, r53)), (7, (1, r32)), (5, (0, r17)), (0, (2, 120)), (1, (0, a1)), (2, (0, a2)), (3, (1, p8_3)), (6, (0, p8_6))]) d_X12_sharesOf_72 (by decide) rfl ?_
            refine Tr.lload_n (pc := 74) (i := 3) d_X12_sharesOf_74 rfl rfl ?_
            refine Tr.lload (pc := 75) (i := 10) d_X12_sharesOf_75 rfl ?_
            refine Tr.iload (pc := 77) (i := 9) d_X12_sharesOf_77 rfl ?_
            refine Tr.i2l (pc := 79) d_X12_sharesOf_79 ?_
            refine Tr.ldiv (pc := 80) d_X12_sharesOf_80 (by omega) ?_
            refine Tr.gen (P := fun v => (-9223372036854775808) ≤ v ∧ v ≤ 9223372036854775807) (w64_b _) (fun r80 er80 br80 => ?_)
            refine Tr.lload (pc := 81) (i := 7) d_X12_sharesOf_81 rfl ?_
            refine Tr.lconst (pc := 83) (v := 1) d_X12_sharesOf_83 rfl (by decide) ?_
            refine Tr.iload_n (pc := 84) (i := 2) d_X12_sharesOf_84 rfl rfl ?_
            refine Tr.lshl (pc := 85) d_X12_sharesOf_85 ?_
            refine Tr.gen (P := fun v => (-9223372036854775808) ≤ v ∧ v ≤ 9223372036854775807) (i64_b _) (fun r85 er85 br85 => ?_)
            refine Tr.lconst (pc := 86) (v := 1) d_X12_sharesOf_86 rfl (by decide) ?_
            refine Tr.lsub (pc := 87) d_X12_sharesOf_87 ?_
            refine Tr.gen (P := fun v => (-9223372036854775808) ≤ v ∧ v ≤ 9223372036854775807) (w64_b _) (fun r87 er87 br87 => ?_)
            refine Tr.land (pc := 88) d_X12_sharesOf_88 ?_
            refine Tr.gen (P := fun v => (-9223372036854775808) ≤ v ∧ v ≤ 9223372036854775807) (i64_b _) (fun r88 er88 br88 => ?_)
            refine Tr.callS (pc := 89) (as := [_]) d_X12_sharesOf_89 s_12_653 ok_X12_bitsOf rfl rfl (Nat.le_of_ble_eq_true rfl) (Nat.le_of_ble_eq_true rfl) ?_
            refine Tr.imp (Tr.deep (by decide) (sp_X12_bitsOf hS.1 r88 (by omega))) ?_
            rintro M89 _ ⟨h89, r89, rfl, lr89, ur89, wr89⟩
            have hS := St.tr hS h89 (by decide) (by decide)
            refine Tr.sc [(0, r89), (1, r80), (1, p8_3)] rfl ?_
            refine Tr.i2l (pc := 92) d_X12_sharesOf_92 ?_
            refine Tr.lload (pc := 93) (i := 10) d_X12_sharesOf_93 rfl ?_
            refine Tr.iload (pc := 95) (i := 9) d_X12_sharesOf_95 rfl ?_
            refine Tr.i2l (pc := 97) d_X12_sharesOf_97 ?_
            refine Tr.lrem (pc := 98) d_X12_sharesOf_98 (by omega) ?_
            refine Tr.gen (P := fun v => (-9223372036854775808) ≤ v ∧ v ≤ 9223372036854775807) (rem64_b _ _ (by omega)) (fun r98 er98 br98 => ?_)
            refine Tr.lcmp (pc := 99) d_X12_sharesOf_99 ?_
            refine Tr.gen (P := fun v => (v = 1 ∧ r98 < r89) ∨ (v = 0 ∧ r89 = r98) ∨ (v = -1 ∧ r89 < r98)) (f_lcmp_c _ _) (fun r99 er99 br99 => ?_)
            have J108 : ∀ (M : Mem) (q108_2 : Int), St Tru ws_X12_sharesOf_120 as_X12_sharesOf_120 M0 M → (0 ≤ q108_2 ∧ q108_2 ≤ 1) → rd M 126 0 = w67_126_0 → Tr l K 2 mX12_sharesOf 108 [(0, (2, 120)), (1, (0, a1)), (2, (0, a2)), (5, (0, r17)), (6, (0, p8_6))] [(1, q108_2), (1, r80), (1, p8_3)] M (q_X12_sharesOf_120 M0) := by
              intro M q108_2 hS bq108_2 k108_126_0
              refine Tr.ladd (pc := 108) d_X12_sharesOf_108 ?_
              refine Tr.gen (P := fun v => (-9223372036854775808) ≤ v ∧ v ≤ 9223372036854775807) (w64_b _) (fun r108 er108 br108 => ?_)
              refine Tr.ladd (pc := 109) d_X12_sharesOf_109 ?_
              refine Tr.gen (P := fun v => (-9223372036854775808) ≤ v ∧ v ≤ 9223372036854775807) (w64_b _) (fun r109 er109 br109 => ?_)
              refine Tr.lstore_n (pc := 110) (i := 3) (ls2 := [(3, (1, r109)), (0, (2, 120)), (1, (0, a1)), (2, (0, a2)), (5, (0, r17)), (6, (0, p8_6))]) d_X12_sharesOf_110 rfl (by decide) rfl ?_
              refine Tr.pick [1, 2, 3, 0, 4, 5] (ls2 := [(0, (2, 120)), (1, (0, a1)), (2, (0, a2)), (3, (1, r109)), (5, (0, r17)), (6, (0, p8_6))]) rfl ?_
              exact J111 _ _ hS (by omega) (by first | assumption | omega)
            refine Tr.if_ge (pc := 100) (tgt := 107) d_X12_sharesOf_100 rfl (fun c100 => ?_) (fun c100 => ?_)
            · refine Tr.lconst (pc := 107) (v := 0) d_X12_sharesOf_107 rfl (by decide) ?_
              refine Tr.pick [4, 5, 6, 3, 8] (ls2 := [(0, (2, 120)), (1, (0, a1)), (2, (0, a2)), (5, (0, r17)), (6, (0, p8_6))]) rfl ?_
              exact J108 _ _ hS (by omega) ((St.kp h89 (by decide) (by decide) (by decide)).trans ew67_126_0)
            · refine Tr.lconst (pc := 103) (v := 1) d_X12_sharesOf_103 rfl (by decide) ?_
              refine Tr.goto (pc := 104) (tgt := 108) d_X12_sharesOf_104 rfl ?_
              refine Tr.pick [4, 5, 6, 3, 8] (ls2 := [(0, (2, 120)), (1, (0, a1)), (2, (0, a2)), (5, (0, r17)), (6, (0, p8_6))]) rfl ?_
              exact J108 _ _ hS (by omega) ((St.kp h89 (by decide) (by decide) (by decide)).trans ew67_126_0)
          · refine Tr.goto (pc := 48) (tgt := 111) d_X12_sharesOf_48 rfl ?_
            refine Tr.pick [2, 3, 4, 5, 1, 6] (ls2 := [(0, (2, 120)), (1, (0, a1)), (2, (0, a2)), (3, (1, p8_3)), (5, (0, r17)), (6, (0, p8_6))]) rfl ?_
            exact J111 _ _ hS (by omega) (by first | assumption | omega)
        · refine Tr.goto (pc := 27) (tgt := 111) d_X12_sharesOf_27 rfl ?_
          refine Tr.pick [1, 2, 3, 4, 0, 5] (ls2 := [(0, (2, 120)), (1, (0, a1)), (2, (0, a2)), (3, (1, p8_3)), (5, (0, r17)), (6, (0, p8_6))]) rfl ?_
          exact J111 _ _ hS (by omega) (by first | assumption | omega)
  refine Tr.pick [3, 4, 5, 2, 1, 0] (ls2 := [(0, (2, 120)), (1, (0, a1)), (2, (0, a2)), (3, (1, 0)), (5, (0, 1)), (6, (0, 0))]) rfl ?_
  exact J8 _ _ _ _ _ hS (by omega) (by omega) (by omega) (by first | assumption | omega) (Nat.lt_succ_self _)

def ws_X12_sleeps_120 : List (Int × Int) := []
def as_X12_sleeps_120 : List Int := []
def q_X12_sleeps_120 (M0 M' : Mem) (r : Option PV) : Prop := St Tru ws_X12_sleeps_120 as_X12_sleeps_120 M0 M' ∧ ∃ v : Int, r = some (0, v) ∧ (-2147483648) ≤ v ∧ v ≤ 2147483647
set_option maxRecDepth 100000 in
set_option maxHeartbeats 4000000 in
theorem sp_X12_sleeps_120 {l : Launch} {K : EC} {M0 : Mem} (hI : In Tru M0) (en_120_12 : rd M0 120 12 = 0) (a1 : Int) (ha1 : 0 ≤ a1 ∧ a1 ≤ 5)  (hF_Bk0 : Bk0 M0) : Tr l K 1 mX12_sleeps 0 [(0, (2, 120)), (1, (0, a1))] [] M0 (q_X12_sleeps_120 M0) := by
  have hS : St Tru ws_X12_sleeps_120 as_X12_sleeps_120 M0 M0 := St.rf hI
  refine Tr.aload_n (pc := 0) (i := 0) d_X12_sleeps_0 rfl rfl ?_
  refine Tr.iload_n (pc := 1) (i := 1) d_X12_sleeps_1 rfl rfl ?_
  refine Tr.iconst (pc := 2) d_X12_sleeps_2 (by decide) ?_
  refine Tr.callV (pc := 3) (as := [_, _]) d_X12_sleeps_3 s_12_565 ok_X12_rate rfl rfl (Nat.le_of_ble_eq_true rfl) (Nat.le_of_ble_eq_true rfl) (by decide) (ty_120 hS.1.1) ?_
  refine Tr.imp (Tr.deep (by decide) (sp_X12_rate_120 hS.1 ((St.kp hS (by decide) (by decide) (by decide)).trans en_120_12) a1 (by omega) 0 (by omega) (Bk0.of hF_Bk0 (fun j => (St.ka hS (by decide) (by decide) (by decide))) (fun j => (St.ka hS (by decide) (by decide) (by decide))) (fun j => (St.ka hS (by decide) (by decide) (by decide))) (fun j => (St.ka hS (by decide) (by decide) (by decide))) (fun j => (St.ka hS (by decide) (by decide) (by decide))) (fun j => (St.ka hS (by decide) (by decide) (by decide))) (fun j => (St.ka hS (by decide) (by decide) (by decide))) (fun j => (St.ka hS (by decide) (by decide) (by decide))) (St.kp hS (by decide) (by decide) (by decide)) (St.kp hS (by decide) (by decide) (by decide)) (St.kp hS (by decide) (by decide) (by decide)) (St.kp hS (by decide) (by decide) (by decide))))) ?_
  rintro M3 _ ⟨h3, r3, rfl, lr3, ur3, z3_0⟩
  have hS := St.tr hS h3 (by decide) (by decide)
  obtain ⟨w3_126_0, ew3_126_0⟩ : ∃ v, rd M3 126 0 = v := ⟨_, rfl⟩
  have bw3_126_0 : 0 ≤ w3_126_0 ∧ w3_126_0 ≤ 6 := by rw [← ew3_126_0]; exact ir_126_0 hS.1.2.1
  have ka3_126_0 : rd M3 126 0 = w3_126_0 := ew3_126_0
  refine Tr.sc [(0, r3)] rfl ?_
  exact Tr.iret (pc := 6) d_X12_sleeps_6 rfl ⟨hS, _, rfl, by omega, by omega⟩

def ws_X12_sips_120 : List (Int × Int) := []
def as_X12_sips_120 : List Int := []
def q_X12_sips_120 (M0 M' : Mem) (r : Option PV) : Prop := St Tru ws_X12_sips_120 as_X12_sips_120 M0 M' ∧ ∃ v : Int, r = some (0, v) ∧ (-2147483648) ≤ v ∧ v ≤ 2147483647
set_option maxRecDepth 100000 in
set_option maxHeartbeats 4000000 in
theorem sp_X12_sips_120 {l : Launch} {K : EC} {M0 : Mem} (hI : In Tru M0) (en_120_12 : rd M0 120 12 = 0) (a1 : Int) (ha1 : 0 ≤ a1 ∧ a1 ≤ 5) (a2 : Int) (ha2 : 0 ≤ a2 ∧ a2 ≤ 3)  (hF_Bk0 : Bk0 M0) : Tr l K 2 mX12_sips 0 [(0, (2, 120)), (1, (0, a1)), (2, (0, a2))] [] M0 (q_X12_sips_120 M0) := by
  have hS : St Tru ws_X12_sips_120 as_X12_sips_120 M0 M0 := St.rf hI
  refine Tr.iload_n (pc := 0) (i := 2) d_X12_sips_0 rfl rfl ?_
  refine Tr.if_ne (pc := 1) (tgt := 12) d_X12_sips_1 rfl (fun c1 => ?_) (fun c1 => ?_)
  · refine Tr.iload_n (pc := 12) (i := 2) d_X12_sips_12 rfl rfl ?_
    refine Tr.iconst (pc := 13) d_X12_sips_13 (by decide) ?_
    refine Tr.icmp_ne (pc := 14) (tgt := 26) d_X12_sips_14 rfl (fun c14 => ?_) (fun c14 => ?_)
    · refine Tr.iload_n (pc := 26) (i := 2) d_X12_sips_26 rfl rfl ?_
      refine Tr.iconst (pc := 27) d_X12_sips_27 (by decide) ?_
      refine Tr.icmp_ne (pc := 28) (tgt := 40) d_X12_sips_28 rfl (fun c28 => ?_) (fun c28 => ?_)
      · refine Tr.aload_n (pc := 40) (i := 0) d_X12_sips_40 rfl rfl ?_
        refine Tr.iload_n (pc := 41) (i := 1) d_X12_sips_41 rfl rfl ?_
        refine Tr.iconst (pc := 42) d_X12_sips_42 (by decide) ?_
        refine Tr.callV (pc := 43) (as := [_, _]) d_X12_sips_43 s_12_565 ok_X12_rate rfl rfl (Nat.le_of_ble_eq_true rfl) (Nat.le_of_ble_eq_true rfl) (by decide) (ty_120 hS.1.1) ?_
        refine Tr.imp (Tr.deep (by decide) (sp_X12_rate_120 hS.1 ((St.kp hS (by decide) (by decide) (by decide)).trans en_120_12) a1 (by omega) 4 (by omega) (Bk0.of hF_Bk0 (fun j => (St.ka hS (by decide) (by decide) (by decide))) (fun j => (St.ka hS (by decide) (by decide) (by decide))) (fun j => (St.ka hS (by decide) (by decide) (by decide))) (fun j => (St.ka hS (by decide) (by decide) (by decide))) (fun j => (St.ka hS (by decide) (by decide) (by decide))) (fun j => (St.ka hS (by decide) (by decide) (by decide))) (fun j => (St.ka hS (by decide) (by decide) (by decide))) (fun j => (St.ka hS (by decide) (by decide) (by decide))) (St.kp hS (by decide) (by decide) (by decide)) (St.kp hS (by decide) (by decide) (by decide)) (St.kp hS (by decide) (by decide) (by decide)) (St.kp hS (by decide) (by decide) (by decide))))) ?_
        rintro M43 _ ⟨h43, r43, rfl, lr43, ur43, z43_0⟩
        have hS := St.tr hS h43 (by decide) (by decide)
        obtain ⟨w43_126_0, ew43_126_0⟩ : ∃ v, rd M43 126 0 = v := ⟨_, rfl⟩
        have bw43_126_0 : 0 ≤ w43_126_0 ∧ w43_126_0 ≤ 6 := by rw [← ew43_126_0]; exact ir_126_0 hS.1.2.1
        have ka43_126_0 : rd M43 126 0 = w43_126_0 := ew43_126_0
        refine Tr.sc [(0, r43)] rfl ?_
        exact Tr.iret (pc := 46) d_X12_sips_46 rfl ⟨hS, _, rfl, by omega, by omega⟩
      · refine Tr.aload_n (pc := 31) (i := 0) d_X12_sips_31 rfl rfl ?_
        refine Tr.iload_n (pc := 32) (i := 1) d_X12_sips_32 rfl rfl ?_
        refine Tr.iconst (pc := 33) d_X12_sips_33 (by decide) ?_
        refine Tr.callV (pc := 34) (as := [_, _]) d_X12_sips_34 s_12_565 ok_X12_rate rfl rfl (Nat.le_of_ble_eq_true rfl) (Nat.le_of_ble_eq_true rfl) (by decide) (ty_120 hS.1.1) ?_
        refine Tr.imp (Tr.deep (by decide) (sp_X12_rate_120 hS.1 ((St.kp hS (by decide) (by decide) (by decide)).trans en_120_12) a1 (by omega) 3 (by omega) (Bk0.of hF_Bk0 (fun j => (St.ka hS (by decide) (by decide) (by decide))) (fun j => (St.ka hS (by decide) (by decide) (by decide))) (fun j => (St.ka hS (by decide) (by decide) (by decide))) (fun j => (St.ka hS (by decide) (by decide) (by decide))) (fun j => (St.ka hS (by decide) (by decide) (by decide))) (fun j => (St.ka hS (by decide) (by decide) (by decide))) (fun j => (St.ka hS (by decide) (by decide) (by decide))) (fun j => (St.ka hS (by decide) (by decide) (by decide))) (St.kp hS (by decide) (by decide) (by decide)) (St.kp hS (by decide) (by decide) (by decide)) (St.kp hS (by decide) (by decide) (by decide)) (St.kp hS (by decide) (by decide) (by decide))))) ?_
        rintro M34 _ ⟨h34, r34, rfl, lr34, ur34, z34_0⟩
        have hS := St.tr hS h34 (by decide) (by decide)
        obtain ⟨w34_126_0, ew34_126_0⟩ : ∃ v, rd M34 126 0 = v := ⟨_, rfl⟩
        have bw34_126_0 : 0 ≤ w34_126_0 ∧ w34_126_0 ≤ 6 := by rw [← ew34_126_0]; exact ir_126_0 hS.1.2.1
        have ka34_126_0 : rd M34 126 0 = w34_126_0 := ew34_126_0
        refine Tr.sc [(0, r34)] rfl ?_
        refine Tr.goto (pc := 37) (tgt := 46) d_X12_sips_37 rfl ?_
        exact Tr.iret (pc := 46) d_X12_sips_46 rfl ⟨hS, _, rfl, by omega, by omega⟩
    · refine Tr.aload_n (pc := 17) (i := 0) d_X12_sips_17 rfl rfl ?_
      refine Tr.iload_n (pc := 18) (i := 1) d_X12_sips_18 rfl rfl ?_
      refine Tr.iconst (pc := 19) d_X12_sips_19 (by decide) ?_
      refine Tr.callV (pc := 20) (as := [_, _]) d_X12_sips_20 s_12_565 ok_X12_rate rfl rfl (Nat.le_of_ble_eq_true rfl) (Nat.le_of_ble_eq_true rfl) (by decide) (ty_120 hS.1.1) ?_
      refine Tr.imp (Tr.deep (by decide) (sp_X12_rate_120 hS.1 ((St.kp hS (by decide) (by decide) (by decide)).trans en_120_12) a1 (by omega) 2 (by omega) (Bk0.of hF_Bk0 (fun j => (St.ka hS (by decide) (by decide) (by decide))) (fun j => (St.ka hS (by decide) (by decide) (by decide))) (fun j => (St.ka hS (by decide) (by decide) (by decide))) (fun j => (St.ka hS (by decide) (by decide) (by decide))) (fun j => (St.ka hS (by decide) (by decide) (by decide))) (fun j => (St.ka hS (by decide) (by decide) (by decide))) (fun j => (St.ka hS (by decide) (by decide) (by decide))) (fun j => (St.ka hS (by decide) (by decide) (by decide))) (St.kp hS (by decide) (by decide) (by decide)) (St.kp hS (by decide) (by decide) (by decide)) (St.kp hS (by decide) (by decide) (by decide)) (St.kp hS (by decide) (by decide) (by decide))))) ?_
      rintro M20 _ ⟨h20, r20, rfl, lr20, ur20, z20_0⟩
      have hS := St.tr hS h20 (by decide) (by decide)
      obtain ⟨w20_126_0, ew20_126_0⟩ : ∃ v, rd M20 126 0 = v := ⟨_, rfl⟩
      have bw20_126_0 : 0 ≤ w20_126_0 ∧ w20_126_0 ≤ 6 := by rw [← ew20_126_0]; exact ir_126_0 hS.1.2.1
      have ka20_126_0 : rd M20 126 0 = w20_126_0 := ew20_126_0
      refine Tr.sc [(0, r20)] rfl ?_
      refine Tr.goto (pc := 23) (tgt := 46) d_X12_sips_23 rfl ?_
      exact Tr.iret (pc := 46) d_X12_sips_46 rfl ⟨hS, _, rfl, by omega, by omega⟩
  · refine Tr.aload_n (pc := 4) (i := 0) d_X12_sips_4 rfl rfl ?_
    refine Tr.iload_n (pc := 5) (i := 1) d_X12_sips_5 rfl rfl ?_
    refine Tr.callV (pc := 6) (as := [_]) d_X12_sips_6 s_12_568 ok_X12_sleeps rfl rfl (Nat.le_of_ble_eq_true rfl) (Nat.le_of_ble_eq_true rfl) (by decide) (ty_120 hS.1.1) ?_
    refine Tr.imp (Tr.deep (by decide) (sp_X12_sleeps_120 hS.1 ((St.kp hS (by decide) (by decide) (by decide)).trans en_120_12) a1 (by omega) (Bk0.of hF_Bk0 (fun j => (St.ka hS (by decide) (by decide) (by decide))) (fun j => (St.ka hS (by decide) (by decide) (by decide))) (fun j => (St.ka hS (by decide) (by decide) (by decide))) (fun j => (St.ka hS (by decide) (by decide) (by decide))) (fun j => (St.ka hS (by decide) (by decide) (by decide))) (fun j => (St.ka hS (by decide) (by decide) (by decide))) (fun j => (St.ka hS (by decide) (by decide) (by decide))) (fun j => (St.ka hS (by decide) (by decide) (by decide))) (St.kp hS (by decide) (by decide) (by decide)) (St.kp hS (by decide) (by decide) (by decide)) (St.kp hS (by decide) (by decide) (by decide)) (St.kp hS (by decide) (by decide) (by decide))))) ?_
    rintro M6 _ ⟨h6, r6, rfl, lr6, ur6⟩
    have hS := St.tr hS h6 (by decide) (by decide)
    refine Tr.sc [(0, r6)] rfl ?_
    refine Tr.goto (pc := 9) (tgt := 46) d_X12_sips_9 rfl ?_
    exact Tr.iret (pc := 46) d_X12_sips_46 rfl ⟨hS, _, rfl, by omega, by omega⟩

def ws_X12_pays_120 : List (Int × Int) := [(120, 97), (120, 98), (120, 99)]
def as_X12_pays_120 : List Int := []
def q_X12_pays_120 (M0 M' : Mem) (r : Option PV) : Prop := St Tru ws_X12_pays_120 as_X12_pays_120 M0 M' ∧ ∃ v : Int, r = some (0, v) ∧ (-2147483648) ≤ v ∧ v ≤ 2147483647
set_option maxRecDepth 100000 in
set_option maxHeartbeats 4000000 in
theorem sp_X12_pays_120 {l : Launch} {K : EC} {M0 : Mem} (hI : In Tru M0) (en_120_12 : rd M0 120 12 = 0) (a1 : Int) (ha1 : (-2147483648) ≤ a1 ∧ a1 ≤ 2147483647) (a2 : Int) (ha2 : (-2147483648) ≤ a2 ∧ a2 ≤ 2147483647)  (hF_Bk0 : Bk0 M0) : Tr l K 3 mX12_pays 0 [(0, (2, 120)), (1, (0, a1)), (2, (0, a2))] [] M0 (q_X12_pays_120 M0) := by
  have hS : St Tru ws_X12_pays_120 as_X12_pays_120 M0 M0 := St.rf hI
  refine Tr.aload_n (pc := 0) (i := 0) d_X12_pays_0 rfl rfl ?_
  refine Tr.getz (pc := 1) d_X12_pays_1 f_12_270 (by decide) (ty_120 hS.1.1) ?_
  refine Tr.gen (P := fun v => 0 ≤ v ∧ v ≤ 1) (ir_120_85 hS.1.2.1) (fun r1 er1 br1 => ?_)
  refine Tr.if_eq (pc := 4) (tgt := 29) d_X12_pays_4 rfl (fun c4 => ?_) (fun c4 => ?_)
  · refine Tr.iconst (pc := 29) d_X12_pays_29 (by decide) ?_
    exact Tr.iret (pc := 30) d_X12_pays_30 rfl ⟨hS, _, rfl, by omega, by omega⟩
  · refine Tr.iload_n (pc := 7) (i := 2) d_X12_pays_7 rfl rfl ?_
    refine Tr.iconst (pc := 8) d_X12_pays_8 (by decide) ?_
    refine Tr.iconst (pc := 9) d_X12_pays_9 (by decide) ?_
    refine Tr.callS (pc := 10) (as := [_, _, _]) d_X12_pays_10 s_12_467 ok_X12_is rfl rfl (Nat.le_of_ble_eq_true rfl) (Nat.le_of_ble_eq_true rfl) ?_
    refine Tr.imp (Tr.deep (by decide) (sp_X12_is hS.1 a2 (by omega) 0 (by omega) 1 (by omega))) ?_
    rintro M10 _ ⟨h10, r10, rfl, lr10, ur10, wr10⟩
    have hS := St.tr hS h10 (by decide) (by decide)
    refine Tr.sc [(0, r10)] rfl ?_
    refine Tr.if_eq (pc := 13) (tgt := 29) d_X12_pays_13 rfl (fun c13 => ?_) (fun c13 => ?_)
    · refine Tr.iconst (pc := 29) d_X12_pays_29 (by decide) ?_
      exact Tr.iret (pc := 30) d_X12_pays_30 rfl ⟨hS, _, rfl, by omega, by omega⟩
    · refine Tr.iload_n (pc := 16) (i := 1) d_X12_pays_16 rfl rfl ?_
      refine Tr.iconst (pc := 17) d_X12_pays_17 (by decide) ?_
      have J31 : ∀ (M : Mem), St Tru ws_X12_pays_120 as_X12_pays_120 M0 M → ((-1) ≤ a1 ∧ a1 ≤ 59) → rd M 120 85 = r1 → Tr l K 3 mX12_pays 31 [(0, (2, 120)), (1, (0, a1)), (2, (0, a2))] [] M (q_X12_pays_120 M0) := by
        intro M  hS z31a1 k31_120_85
        refine Tr.lconst (pc := 31) (v := 0) d_X12_pays_31 rfl (by decide) ?_
        refine Tr.lstore_n (pc := 32) (i := 3) (ls2 := [(3, (1, 0)), (0, (2, 120)), (1, (0, a1)), (2, (0, a2))]) d_X12_pays_32 rfl (by decide) rfl ?_
        refine Tr.iconst (pc := 33) d_X12_pays_33 (by decide) ?_
        refine Tr.istore (pc := 34) (i := 5) (ls2 := [(5, (0, 0)), (3, (1, 0)), (0, (2, 120)), (1, (0, a1)), (2, (0, a2))]) d_X12_pays_34 (by decide) rfl ?_
        have J36 : ∀ (n36 : Nat) (M : Mem) (p36_3 p36_5 : Int), St Tru ws_X12_pays_120 as_X12_pays_120 M0 M → ((-9223372036854775808) ≤ p36_3 ∧ p36_3 ≤ 9223372036854775807) → (0 ≤ p36_5 ∧ p36_5 ≤ 2060) → rd M 120 85 = r1 → (2060 - p36_5).toNat < n36 → Tr l K 3 mX12_pays 36 [(0, (2, 120)), (1, (0, a1)), (2, (0, a2)), (3, (1, p36_3)), (5, (0, p36_5))] [] M (q_X12_pays_120 M0) := by
          intro n36
          induction n36 with
          | zero => intro M p36_3 p36_5 hS bp36_3 bp36_5 k36_120_85 hm36; exact absurd hm36 (Nat.not_lt_zero _)
          | succ n36 J36 =>
            intro M p36_3 p36_5 hS bp36_3 bp36_5 k36_120_85 hm36
            refine Tr.iload (pc := 36) (i := 5) d_X12_pays_36 rfl ?_
            refine Tr.aload_n (pc := 38) (i := 0) d_X12_pays_38 rfl rfl ?_
            refine Tr.getf (pc := 39) d_X12_pays_39 f_12_273 (by decide) (by decide) (ty_120 hS.1.1) ?_
            refine Tr.gen (P := fun v => 0 ≤ v ∧ v ≤ 2060) (ir_120_86 hS.1.2.1) (fun r39 er39 br39 => ?_)
            refine Tr.icmp_ge (pc := 42) (tgt := 185) d_X12_pays_42 rfl (fun c42 => ?_) (fun c42 => ?_)
            · refine Tr.iconst (pc := 185) d_X12_pays_185 (by decide) ?_
              refine Tr.istore (pc := 186) (i := 5) (ls2 := [(5, (0, 0)), (0, (2, 120)), (1, (0, a1)), (2, (0, a2)), (3, (1, p36_3))]) d_X12_pays_186 (by decide) rfl ?_
              have J188 : ∀ (n188 : Nat) (M : Mem) (p188_3 p188_5 : Int), St Tru ws_X12_pays_120 as_X12_pays_120 M0 M → ((-9223372036854775808) ≤ p188_3 ∧ p188_3 ≤ 9223372036854775807) → (0 ≤ p188_5 ∧ p188_5 ≤ 6) → rd M 120 85 = r1 → rd M 120 86 = r39 → (6 - p188_5).toNat < n188 → Tr l K 3 mX12_pays 188 [(0, (2, 120)), (1, (0, a1)), (2, (0, a2)), (3, (1, p188_3)), (5, (0, p188_5))] [] M (q_X12_pays_120 M0) := by
                intro n188
                induction n188 with
                | zero => intro M p188_3 p188_5 hS bp188_3 bp188_5 k188_120_85 k188_120_86 hm188; exact absurd hm188 (Nat.not_lt_zero _)
                | succ n188 J188 =>
                  intro M p188_3 p188_5 hS bp188_3 bp188_5 k188_120_85 k188_120_86 hm188
                  refine Tr.iload (pc := 188) (i := 5) d_X12_pays_188 rfl ?_
                  refine Tr.aload_n (pc := 190) (i := 0) d_X12_pays_190 rfl rfl ?_
                  refine Tr.getf (pc := 191) d_X12_pays_191 f_12_63 (by decide) (by decide) (ty_120 hS.1.1) ?_
                  refine Tr.tp 126 (fx_120_17 hS.1.1) ?_
                  refine Tr.aload_n (pc := 194) (i := 0) d_X12_pays_194 rfl rfl ?_
                  refine Tr.getf (pc := 195) d_X12_pays_195 f_12_48 (by decide) (by decide) (ty_120 hS.1.1) ?_
                  refine Tr.tp 0 ((St.kp hS (by decide) (by decide) (by decide)).trans en_120_12) ?_
                  refine Tr.iald (pc := 198) d_X12_pays_198 (ty_126 hS.1.1) (by omega) (by omega) ?_
                  refine Tr.gen (P := fun v => 0 ≤ v ∧ v ≤ 6) (ir_126_0 hS.1.2.1) (fun r198 er198 br198 => ?_)
                  refine Tr.icmp_ge (pc := 199) (tgt := 228) d_X12_pays_199 rfl (fun c199 => ?_) (fun c199 => ?_)
                  · refine Tr.lload_n (pc := 228) (i := 3) d_X12_pays_228 rfl rfl ?_
                    refine Tr.l2i (pc := 229) d_X12_pays_229 ?_
                    refine Tr.gen (P := fun v => (-2147483648) ≤ v ∧ v ≤ 2147483647) (w32_b _) (fun r229 er229 br229 => ?_)
                    exact Tr.iret (pc := 230) d_X12_pays_230 rfl ⟨hS, _, rfl, by omega, by omega⟩
                  · refine Tr.iload_n (pc := 202) (i := 1) d_X12_pays_202 rfl rfl ?_
                    refine Tr.iconst (pc := 203) d_X12_pays_203 (by decide) ?_
                    refine Tr.icmp_eq (pc := 204) (tgt := 228) d_X12_pays_204 rfl (fun c204 => ?_) (fun c204 => ?_)
                    · refine Tr.lload_n (pc := 228) (i := 3) d_X12_pays_228 rfl rfl ?_
                      refine Tr.l2i (pc := 229) d_X12_pays_229 ?_
                      refine Tr.gen (P := fun v => (-2147483648) ≤ v ∧ v ≤ 2147483647) (w32_b _) (fun r229 er229 br229 => ?_)
                      exact Tr.iret (pc := 230) d_X12_pays_230 rfl ⟨hS, _, rfl, by omega, by omega⟩
                    · refine Tr.iload_n (pc := 207) (i := 2) d_X12_pays_207 rfl rfl ?_
                      refine Tr.iconst (pc := 208) d_X12_pays_208 (by decide) ?_
                      refine Tr.icmp_ne (pc := 209) (tgt := 228) d_X12_pays_209 rfl (fun c209 => ?_) (fun c209 => ?_)
                      · refine Tr.lload_n (pc := 228) (i := 3) d_X12_pays_228 rfl rfl ?_
                        refine Tr.l2i (pc := 229) d_X12_pays_229 ?_
                        refine Tr.gen (P := fun v => (-2147483648) ≤ v ∧ v ≤ 2147483647) (w32_b _) (fun r229 er229 br229 => ?_)
                        exact Tr.iret (pc := 230) d_X12_pays_230 rfl ⟨hS, _, rfl, by omega, by omega⟩
                      · refine Tr.lload_n (pc := 212) (i := 3) d_X12_pays_212 rfl rfl ?_
                        refine Tr.aload_n (pc := 213) (i := 0) d_X12_pays_213 rfl rfl ?_
                        refine Tr.iload (pc := 214) (i := 5) d_X12_pays_214 rfl ?_
                        refine Tr.iload_n (pc := 216) (i := 1) d_X12_pays_216 rfl rfl ?_
                        refine Tr.callV (pc := 217) (as := [_, _]) d_X12_pays_217 s_12_659 ok_X12_sharesOf rfl rfl (Nat.le_of_ble_eq_true rfl) (Nat.le_of_ble_eq_true rfl) (by decide) (ty_120 hS.1.1) ?_
                        refine Tr.imp (Tr.deep (by decide) (sp_X12_sharesOf_120 hS.1 ((St.kp hS (by decide) (by decide) (by decide)).trans en_120_12) p188_5 (by omega) a1 (by omega) (Bk0.of hF_Bk0 (fun j => (St.ka hS (by decide) (by decide) (by decide))) (fun j => (St.ka hS (by decide) (by decide) (by decide))) (fun j => (St.ka hS (by decide) (by decide) (by decide))) (fun j => (St.ka hS (by decide) (by decide) (by decide))) (fun j => (St.ka hS (by decide) (by decide) (by decide))) (fun j => (St.ka hS (by decide) (by decide) (by decide))) (fun j => (St.ka hS (by decide) (by decide) (by decide))) (fun j => (St.ka hS (by decide) (by decide) (by decide))) (St.kp hS (by decide) (by decide) (by decide)) (St.kp hS (by decide) (by decide) (by decide)) (St.kp hS (by decide) (by decide) (by decide)) (St.kp hS (by decide) (by decide) (by decide))))) ?_
                        rintro M217 _ ⟨h217, r217, rfl, lr217, ur217⟩
                        have hS := St.tr hS h217 (by decide) (by decide)
                        refine Tr.sc [(1, r217), (1, p188_3)] rfl ?_
                        refine Tr.ladd (pc := 220) d_X12_pays_220 ?_
                        refine Tr.gen (P := fun v => (-9223372036854775808) ≤ v ∧ v ≤ 9223372036854775807) (w64_b _) (fun r220 er220 br220 => ?_)
                        refine Tr.lstore_n (pc := 221) (i := 3) (ls2 := [(3, (1, r220)), (0, (2, 120)), (1, (0, a1)), (2, (0, a2)), (5, (0, p188_5))]) d_X12_pays_221 rfl (by decide) rfl ?_
                        refine Tr.iincV (pc := 222) (n2 := (p188_5 + 1)) (ls2 := [(5, (0, (p188_5 + 1))), (3, (1, r220)), (0, (2, 120)), (1, (0, a1)), (2, (0, a2))]) d_X12_pays_222 rfl (by decide) ((w32_id (by omega)).trans (by omega)) rfl ?_
                        refine Tr.goto (pc := 225) (tgt := 188) d_X12_pays_225 rfl ?_
                        refine Tr.pick [2, 3, 4, 1, 0] (ls2 := [(0, (2, 120)), (1, (0, a1)), (2, (0, a2)), (3, (1, r220)), (5, (0, (p188_5 + 1)))]) rfl ?_
                        exact J188 _ _ _ hS (by omega) (by omega) ((St.kp h217 (by decide) (by decide) (by decide)).trans k188_120_85) ((St.kp h217 (by decide) (by decide) (by decide)).trans k188_120_86) (by omega)
              refine Tr.pick [1, 2, 3, 4, 0] (ls2 := [(0, (2, 120)), (1, (0, a1)), (2, (0, a2)), (3, (1, p36_3)), (5, (0, 0))]) rfl ?_
              exact J188 _ _ _ _ hS (by omega) (by omega) k36_120_85 er39 (Nat.lt_succ_self _)
            · refine Tr.iload_n (pc := 45) (i := 1) d_X12_pays_45 rfl rfl ?_
              refine Tr.iconst (pc := 46) d_X12_pays_46 (by decide) ?_
              have J74 : ∀ (M : Mem) (p74_3 : Int), St Tru ws_X12_pays_120 as_X12_pays_120 M0 M → ((-9223372036854775808) ≤ p74_3 ∧ p74_3 ≤ 9223372036854775807) → rd M 120 85 = r1 → rd M 120 86 = r39 → Tr l K 3 mX12_pays 74 [(0, (2, 120)), (1, (0, a1)), (2, (0, a2)), (3, (1, p74_3)), (5, (0, p36_5))] [] M (q_X12_pays_120 M0) := by
                intro M p74_3 hS bp74_3 k74_120_85 k74_120_86
                refine Tr.iconst (pc := 74) d_X12_pays_74 (by decide) ?_
                refine Tr.istore (pc := 75) (i := 6) (ls2 := [(6, (0, 0)), (0, (2, 120)), (1, (0, a1)), (2, (0, a2)), (3, (1, p74_3)), (5, (0, p36_5))]) d_X12_pays_75 (by decide) rfl ?_
                have J77 : ∀ (n77 : Nat) (M : Mem) (p77_3 p77_6 : Int), St Tru ws_X12_pays_120 as_X12_pays_120 M0 M → ((-9223372036854775808) ≤ p77_3 ∧ p77_3 ≤ 9223372036854775807) → (0 ≤ p77_6 ∧ p77_6 ≤ 6) → rd M 120 85 = r1 → rd M 120 86 = r39 → (6 - p77_6).toNat < n77 → Tr l K 3 mX12_pays 77 [(0, (2, 120)), (1, (0, a1)), (2, (0, a2)), (3, (1, p77_3)), (5, (0, p36_5)), (6, (0, p77_6))] [] M (q_X12_pays_120 M0) := by
                  intro n77
                  induction n77 with
                  | zero => intro M p77_3 p77_6 hS bp77_3 bp77_6 k77_120_85 k77_120_86 hm77; exact absurd hm77 (Nat.not_lt_zero _)
                  | succ n77 J77 =>
                    intro M p77_3 p77_6 hS bp77_3 bp77_6 k77_120_85 k77_120_86 hm77
                    refine Tr.iload (pc := 77) (i := 6) d_X12_pays_77 rfl ?_
                    refine Tr.aload_n (pc := 79) (i := 0) d_X12_pays_79 rfl rfl ?_
                    refine Tr.getf (pc := 80) d_X12_pays_80 f_12_63 (by decide) (by decide) (ty_120 hS.1.1) ?_
                    refine Tr.tp 126 (fx_120_17 hS.1.1) ?_
                    refine Tr.aload_n (pc := 83) (i := 0) d_X12_pays_83 rfl rfl ?_
                    refine Tr.getf (pc := 84) d_X12_pays_84 f_12_48 (by decide) (by decide) (ty_120 hS.1.1) ?_
                    refine Tr.tp 0 ((St.kp hS (by decide) (by decide) (by decide)).trans en_120_12) ?_
                    refine Tr.iald (pc := 87) d_X12_pays_87 (ty_126 hS.1.1) (by omega) (by omega) ?_
                    refine Tr.gen (P := fun v => 0 ≤ v ∧ v ≤ 6) (ir_126_0 hS.1.2.1) (fun r87 er87 br87 => ?_)
                    refine Tr.icmp_ge (pc := 88) (tgt := 179) d_X12_pays_88 rfl (fun c88 => ?_) (fun c88 => ?_)
                    · refine Tr.iincV (pc := 179) (n2 := (p36_5 + 1)) (ls2 := [(5, (0, (p36_5 + 1))), (0, (2, 120)), (1, (0, a1)), (2, (0, a2)), (3, (1, p77_3)), (6, (0, p77_6))]) d_X12_pays_179 rfl (by decide) ((w32_id (by omega)).trans (by omega)) rfl ?_
                      refine Tr.goto (pc := 182) (tgt := 36) d_X12_pays_182 rfl ?_
                      refine Tr.pick [1, 2, 3, 4, 0] (ls2 := [(0, (2, 120)), (1, (0, a1)), (2, (0, a2)), (3, (1, p77_3)), (5, (0, (p36_5 + 1)))]) rfl ?_
                      exact J36 _ _ _ hS (by omega) (by omega) k77_120_85 (by omega)
                    · refine Tr.aload_n (pc := 91) (i := 0) d_X12_pays_91 rfl rfl ?_
                      refine Tr.iload (pc := 92) (i := 6) d_X12_pays_92 rfl ?_
                      refine Tr.iload (pc := 94) (i := 5) d_X12_pays_94 rfl ?_
                      refine Tr.callV (pc := 96) (as := [_, _]) d_X12_pays_96 s_12_641 ok_X12_stateAt rfl rfl (Nat.le_of_ble_eq_true rfl) (Nat.le_of_ble_eq_true rfl) (by decide) (ty_120 hS.1.1) ?_
                      refine Tr.imp (Tr.deep (by decide) (sp_X12_stateAt_120 hS.1 p77_6 (by omega) p36_5 (by omega))) ?_
                      rintro M96 _ ⟨h96, r96, rfl, lr96, ur96, z96_0⟩
                      have hS := St.tr hS h96 (by decide) (by decide)
                      refine Tr.sc [(0, r96)] rfl ?_
                      have qs96 : rd M 163 (p36_5 + 2100 * p77_6) = r96 := (congrArg (rd M 163) (by omega)).trans z96_0.symm
                      refine Tr.istore (pc := 99) (i := 7) (ls2 := [(7, (0, r96)), (0, (2, 120)), (1, (0, a1)), (2, (0, a2)), (3, (1, p77_3)), (5, (0, p36_5)), (6, (0, p77_6))]) d_X12_pays_99 (by decide) rfl ?_
                      refine Tr.iload_n (pc := 101) (i := 1) d_X12_pays_101 rfl rfl ?_
                      refine Tr.iconst (pc := 102) d_X12_pays_102 (by decide) ?_
                      have J173 : ∀ (M : Mem) (p173_3 : Int), St Tru ws_X12_pays_120 as_X12_pays_120 M0 M → ((-9223372036854775808) ≤ p173_3 ∧ p173_3 ≤ 9223372036854775807) → rd M 120 85 = r1 → rd M 120 86 = r39 → rd M 126 0 = r87 → rd M 163 (p36_5 + 2100 * p77_6) = r96 → Tr l K 3 mX12_pays 173 [(0, (2, 120)), (1, (0, a1)), (2, (0, a2)), (3, (1, p173_3)), (5, (0, p36_5)), (6, (0, p77_6))] [] M (q_X12_pays_120 M0) := by
                        intro M p173_3 hS bp173_3 k173_120_85 k173_120_86 k173_126_0 k173_163_p36_51p77_621000
                        refine Tr.iincV (pc := 173) (n2 := (p77_6 + 1)) (ls2 := [(6, (0, (p77_6 + 1))), (0, (2, 120)), (1, (0, a1)), (2, (0, a2)), (3, (1, p173_3)), (5, (0, p36_5))]) d_X12_pays_173 rfl (by decide) ((w32_id (by omega)).trans (by omega)) rfl ?_
                        refine Tr.goto (pc := 176) (tgt := 77) d_X12_pays_176 rfl ?_
                        refine Tr.pick [1, 2, 3, 4, 5, 0] (ls2 := [(0, (2, 120)), (1, (0, a1)), (2, (0, a2)), (3, (1, p173_3)), (5, (0, p36_5)), (6, (0, (p77_6 + 1)))]) rfl ?_
                        exact J77 _ _ _ hS (by omega) (by omega) k173_120_85 k173_120_86 (by omega)
                      refine Tr.icmp_ne (pc := 103) (tgt := 128) d_X12_pays_103 rfl (fun c103 => ?_) (fun c103 => ?_)
                      · refine Tr.iload (pc := 128) (i := 7) d_X12_pays_128 rfl ?_
                        refine Tr.if_eq (pc := 130) (tgt := 173) d_X12_pays_130 rfl (fun c130 => ?_) (fun c130 => ?_)
                        · refine Tr.pick [1, 2, 3, 4, 5, 6] (ls2 := [(0, (2, 120)), (1, (0, a1)), (2, (0, a2)), (3, (1, p77_3)), (5, (0, p36_5)), (6, (0, p77_6))]) rfl ?_
                          exact J173 _ _ hS (by omega) ((St.kp h96 (by decide) (by decide) (by decide)).trans k77_120_85) ((St.kp h96 (by decide) (by decide) (by decide)).trans k77_120_86) ((St.kp h96 (by decide) (by decide) (by decide)).trans er87) ((St.ka h96 (by decide) (by decide) (by decide)).trans qs96)
                        · refine Tr.iload (pc := 133) (i := 7) d_X12_pays_133 rfl ?_
                          refine Tr.iconst (pc := 135) d_X12_pays_135 (by decide) ?_
                          have J143 : ∀ (M : Mem), St Tru ws_X12_pays_120 as_X12_pays_120 M0 M → rd M 120 85 = r1 → rd M 120 86 = r39 → rd M 126 0 = r87 → rd M 163 (p36_5 + 2100 * p77_6) = r96 → Tr l K 3 mX12_pays 143 [(0, (2, 120)), (1, (0, a1)), (2, (0, a2)), (3, (1, p77_3)), (5, (0, p36_5)), (6, (0, p77_6)), (7, (0, r96))] [] M (q_X12_pays_120 M0) := by
                            intro M  hS  k143_120_85 k143_120_86 k143_126_0 k143_163_p36_51p77_621000
                            refine Tr.aload_n (pc := 143) (i := 0) d_X12_pays_143 rfl rfl ?_
                            refine Tr.getf (pc := 144) d_X12_pays_144 f_12_234 (by decide) (by decide) (ty_120 hS.1.1) ?_
                            refine Tr.tp 164 (fx_120_73 hS.1.1) ?_
                            refine Tr.sipush (pc := 147) d_X12_pays_147 rfl (by decide) ?_
                            refine Tr.iload (pc := 150) (i := 6) d_X12_pays_150 rfl ?_
                            refine Tr.imul (pc := 152) d_X12_pays_152 ?_
                            refine Tr.tp (2100 * p77_6) ((w32_id (by omega)).trans (by omega)) ?_
                            refine Tr.iload (pc := 153) (i := 5) d_X12_pays_153 rfl ?_
                            refine Tr.iadd (pc := 155) d_X12_pays_155 ?_
                            refine Tr.tp (p36_5 + 2100 * p77_6) ((w32_id (by omega)).trans (by omega)) ?_
                            refine Tr.iald (pc := 156) d_X12_pays_156 (ty_164 hS.1.1) (by omega) (by omega) ?_
                            refine Tr.gen (P := fun v => (-1) ≤ v ∧ v ≤ 59) (ar_164 hS.1.2.1 _) (fun r156 er156 br156 => ?_)
                            refine Tr.iload_n (pc := 157) (i := 1) d_X12_pays_157 rfl rfl ?_
                            refine Tr.icmp_ne (pc := 158) (tgt := 173) d_X12_pays_158 rfl (fun c158 => ?_) (fun c158 => ?_)
                            · refine Tr.pick [0, 1, 2, 3, 4, 5] (ls2 := [(0, (2, 120)), (1, (0, a1)), (2, (0, a2)), (3, (1, p77_3)), (5, (0, p36_5)), (6, (0, p77_6))]) rfl ?_
                              exact J173 _ _ hS (by omega) k143_120_85 k143_120_86 k143_126_0 k143_163_p36_51p77_621000
                            · refine Tr.lload_n (pc := 161) (i := 3) d_X12_pays_161 rfl rfl ?_
                              refine Tr.aload_n (pc := 162) (i := 0) d_X12_pays_162 rfl rfl ?_
                              refine Tr.iload (pc := 163) (i := 6) d_X12_pays_163 rfl ?_
                              refine Tr.iload (pc := 165) (i := 7) d_X12_pays_165 rfl ?_
                              refine Tr.callV (pc := 167) (as := [_, _]) d_X12_pays_167 s_12_574 ok_X12_sips rfl rfl (Nat.le_of_ble_eq_true rfl) (Nat.le_of_ble_eq_true rfl) (by decide) (ty_120 hS.1.1) ?_
                              refine Tr.imp (Tr.deep (by decide) (sp_X12_sips_120 hS.1 ((St.kp hS (by decide) (by decide) (by decide)).trans en_120_12) p77_6 (by omega) r96 (by omega) (Bk0.of hF_Bk0 (fun j => (St.ka hS (by decide) (by decide) (by decide))) (fun j => (St.ka hS (by decide) (by decide) (by decide))) (fun j => (St.ka hS (by decide) (by decide) (by decide))) (fun j => (St.ka hS (by decide) (by decide) (by decide))) (fun j => (St.ka hS (by decide) (by decide) (by decide))) (fun j => (St.ka hS (by decide) (by decide) (by decide))) (fun j => (St.ka hS (by decide) (by decide) (by decide))) (fun j => (St.ka hS (by decide) (by decide) (by decide))) (St.kp hS (by decide) (by decide) (by decide)) (St.kp hS (by decide) (by decide) (by decide)) (St.kp hS (by decide) (by decide) (by decide)) (St.kp hS (by decide) (by decide) (by decide))))) ?_
                              rintro M167 _ ⟨h167, r167, rfl, lr167, ur167⟩
                              have hS := St.tr hS h167 (by decide) (by decide)
                              refine Tr.sc [(0, r167), (1, p77_3)] rfl ?_
                              refine Tr.i2l (pc := 170) d_X12_pays_170 ?_
                              refine Tr.ladd (pc := 171) d_X12_pays_171 ?_
                              refine Tr.gen (P := fun v => (-9223372036854775808) ≤ v ∧ v ≤ 9223372036854775807) (w64_b _) (fun r171 er171 br171 => ?_)
                              refine Tr.lstore_n (pc := 172) (i := 3) (ls2 := [(3, (1, r171)), (0, (2, 120)), (1, (0, a1)), (2, (0, a2)), (5, (0, p36_5)), (6, (0, p77_6)), (7, (0, r96))]) d_X12_pays_172 rfl (by decide) rfl ?_
                              refine Tr.pick [1, 2, 3, 0, 4, 5] (ls2 := [(0, (2, 120)), (1, (0, a1)), (2, (0, a2)), (3, (1, r171)), (5, (0, p36_5)), (6, (0, p77_6))]) rfl ?_
                              exact J173 _ _ hS (by omega) ((St.kp h167 (by decide) (by decide) (by decide)).trans k143_120_85) ((St.kp h167 (by decide) (by decide) (by decide)).trans k143_120_86) ((St.kp h167 (by decide) (by decide) (by decide)).trans k143_126_0) ((St.ka h167 (by decide) (by decide) (by decide)).trans k143_163_p36_51p77_621000)
                          refine Tr.icmp_ne (pc := 136) (tgt := 143) d_X12_pays_136 rfl (fun c136 => ?_) (fun c136 => ?_)
                          · refine Tr.pick [1, 2, 3, 4, 5, 6, 0] (ls2 := [(0, (2, 120)), (1, (0, a1)), (2, (0, a2)), (3, (1, p77_3)), (5, (0, p36_5)), (6, (0, p77_6)), (7, (0, r96))]) rfl ?_
                            exact J143 _ hS ((St.kp h96 (by decide) (by decide) (by decide)).trans k77_120_85) ((St.kp h96 (by decide) (by decide) (by decide)).trans k77_120_86) ((St.kp h96 (by decide) (by decide) (by decide)).trans er87) ((St.ka h96 (by decide) (by decide) (by decide)).trans qs96)
                          · refine Tr.iload_n (pc := 139) (i := 2) d_X12_pays_139 rfl rfl ?_
                            refine Tr.if_ne (pc := 140) (tgt := 173) d_X12_pays_140 rfl (fun c140 => ?_) (fun c140 => ?_)
                            · refine Tr.pick [1, 2, 3, 4, 5, 6] (ls2 := [(0, (2, 120)), (1, (0, a1)), (2, (0, a2)), (3, (1, p77_3)), (5, (0, p36_5)), (6, (0, p77_6))]) rfl ?_
                              exact J173 _ _ hS (by omega) ((St.kp h96 (by decide) (by decide) (by decide)).trans k77_120_85) ((St.kp h96 (by decide) (by decide) (by decide)).trans k77_120_86) ((St.kp h96 (by decide) (by decide) (by decide)).trans er87) ((St.ka h96 (by decide) (by decide) (by decide)).trans qs96)
                            · refine Tr.pick [1, 2, 3, 4, 5, 6, 0] (ls2 := [(0, (2, 120)), (1, (0, a1)), (2, (0, a2)), (3, (1, p77_3)), (5, (0, p36_5)), (6, (0, p77_6)), (7, (0, r96))]) rfl ?_
                              exact J143 _ hS ((St.kp h96 (by decide) (by decide) (by decide)).trans k77_120_85) ((St.kp h96 (by decide) (by decide) (by decide)).trans k77_120_86) ((St.kp h96 (by decide) (by decide) (by decide)).trans er87) ((St.ka h96 (by decide) (by decide) (by decide)).trans qs96)
                      · refine Tr.lload_n (pc := 106) (i := 3) d_X12_pays_106 rfl rfl ?_
                        refine Tr.iload (pc := 107) (i := 7) d_X12_pays_107 rfl ?_
                        have J123 : ∀ (M : Mem) (q123_1 : Int), St Tru ws_X12_pays_120 as_X12_pays_120 M0 M → ((-2147483648) ≤ q123_1 ∧ q123_1 ≤ 2147483647) → rd M 120 85 = r1 → rd M 120 86 = r39 → rd M 126 0 = r87 → rd M 163 (p36_5 + 2100 * p77_6) = r96 → Tr l K 3 mX12_pays 123 [(0, (2, 120)), (1, (0, a1)), (2, (0, a2)), (5, (0, p36_5)), (6, (0, p77_6))] [(1, q123_1), (1, p77_3)] M (q_X12_pays_120 M0) := by
                          intro M q123_1 hS bq123_1 k123_120_85 k123_120_86 k123_126_0 k123_163_p36_51p77_621000
                          refine Tr.ladd (pc := 123) d_X12_pays_123 ?_
                          refine Tr.gen (P := fun v => (-9223372036854775808) ≤ v ∧ v ≤ 9223372036854775807) (w64_b _) (fun r123 er123 br123 => ?_)
                          refine Tr.lstore_n (pc := 124) (i := 3) (ls2 := [(3, (1, r123)), (0, (2, 120)), (1, (0, a1)), (2, (0, a2)), (5, (0, p36_5)), (6, (0, p77_6))]) d_X12_pays_124 rfl (by decide) rfl ?_
                          refine Tr.goto (pc := 125) (tgt := 173) d_X12_pays_125 rfl ?_
                          refine Tr.pick [1, 2, 3, 0, 4, 5] (ls2 := [(0, (2, 120)), (1, (0, a1)), (2, (0, a2)), (3, (1, r123)), (5, (0, p36_5)), (6, (0, p77_6))]) rfl ?_
                          exact J173 _ _ hS (by omega) k123_120_85 k123_120_86 k123_126_0 k123_163_p36_51p77_621000
                        refine Tr.if_ne (pc := 109) (tgt := 122) d_X12_pays_109 rfl (fun c109 => ?_) (fun c109 => ?_)
                        · refine Tr.lconst (pc := 122) (v := 0) d_X12_pays_122 rfl (by decide) ?_
                          refine Tr.pick [1, 2, 3, 5, 6] (ls2 := [(0, (2, 120)), (1, (0, a1)), (2, (0, a2)), (5, (0, p36_5)), (6, (0, p77_6))]) rfl ?_
                          exact J123 _ _ hS (by omega) ((St.kp h96 (by decide) (by decide) (by decide)).trans k77_120_85) ((St.kp h96 (by decide) (by decide) (by decide)).trans k77_120_86) ((St.kp h96 (by decide) (by decide) (by decide)).trans er87) ((St.ka h96 (by decide) (by decide) (by decide)).trans qs96)
                        · refine Tr.aload_n (pc := 112) (i := 0) d_X12_pays_112 rfl rfl ?_
                          refine Tr.iload (pc := 113) (i := 6) d_X12_pays_113 rfl ?_
                          refine Tr.callV (pc := 115) (as := [_]) d_X12_pays_115 s_12_568 ok_X12_sleeps rfl rfl (Nat.le_of_ble_eq_true rfl) (Nat.le_of_ble_eq_true rfl) (by decide) (ty_120 hS.1.1) ?_
                          refine Tr.imp (Tr.deep (by decide) (sp_X12_sleeps_120 hS.1 ((St.kp hS (by decide) (by decide) (by decide)).trans en_120_12) p77_6 (by omega) (Bk0.of hF_Bk0 (fun j => (St.ka hS (by decide) (by decide) (by decide))) (fun j => (St.ka hS (by decide) (by decide) (by decide))) (fun j => (St.ka hS (by decide) (by decide) (by decide))) (fun j => (St.ka hS (by decide) (by decide) (by decide))) (fun j => (St.ka hS (by decide) (by decide) (by decide))) (fun j => (St.ka hS (by decide) (by decide) (by decide))) (fun j => (St.ka hS (by decide) (by decide) (by decide))) (fun j => (St.ka hS (by decide) (by decide) (by decide))) (St.kp hS (by decide) (by decide) (by decide)) (St.kp hS (by decide) (by decide) (by decide)) (St.kp hS (by decide) (by decide) (by decide)) (St.kp hS (by decide) (by decide) (by decide))))) ?_
                          rintro M115 _ ⟨h115, r115, rfl, lr115, ur115⟩
                          have hS := St.tr hS h115 (by decide) (by decide)
                          refine Tr.sc [(0, r115), (1, p77_3)] rfl ?_
                          refine Tr.i2l (pc := 118) d_X12_pays_118 ?_
                          refine Tr.goto (pc := 119) (tgt := 123) d_X12_pays_119 rfl ?_
                          refine Tr.pick [1, 2, 3, 5, 6] (ls2 := [(0, (2, 120)), (1, (0, a1)), (2, (0, a2)), (5, (0, p36_5)), (6, (0, p77_6))]) rfl ?_
                          exact J123 _ _ hS (by omega) ((St.kp h115 (by decide) (by decide) (by decide)).trans ((St.kp h96 (by decide) (by decide) (by decide)).trans k77_120_85)) ((St.kp h115 (by decide) (by decide) (by decide)).trans ((St.kp h96 (by decide) (by decide) (by decide)).trans k77_120_86)) ((St.kp h115 (by decide) (by decide) (by decide)).trans ((St.kp h96 (by decide) (by decide) (by decide)).trans er87)) ((St.ka h115 (by decide) (by decide) (by decide)).trans ((St.ka h96 (by decide) (by decide) (by decide)).trans qs96))
                refine Tr.pick [1, 2, 3, 4, 5, 0] (ls2 := [(0, (2, 120)), (1, (0, a1)), (2, (0, a2)), (3, (1, p74_3)), (5, (0, p36_5)), (6, (0, 0))]) rfl ?_
                exact J77 _ _ _ _ hS (by omega) (by omega) k74_120_85 k74_120_86 (Nat.lt_succ_self _)
              refine Tr.icmp_eq (pc := 47) (tgt := 74) d_X12_pays_47 rfl (fun c47 => ?_) (fun c47 => ?_)
              · refine Tr.pick [0, 1, 2, 3, 4] (ls2 := [(0, (2, 120)), (1, (0, a1)), (2, (0, a2)), (3, (1, p36_3)), (5, (0, p36_5))]) rfl ?_
                exact J74 _ _ hS (by omega) k36_120_85 er39
              · refine Tr.aload_n (pc := 50) (i := 0) d_X12_pays_50 rfl rfl ?_
                refine Tr.getf (pc := 51) d_X12_pays_51 f_12_228 (by decide) (by decide) (ty_120 hS.1.1) ?_
                refine Tr.tp 162 (fx_120_71 hS.1.1) ?_
                refine Tr.iload (pc := 54) (i := 5) d_X12_pays_54 rfl ?_
                refine Tr.iald (pc := 56) d_X12_pays_56 (ty_162 hS.1.1) (by omega) (by omega) ?_
                refine Tr.gen (P := fun v => (-1) ≤ v ∧ v ≤ 59) (ar_162 hS.1.2.1 _) (fun r56 er56 br56 => ?_)
                refine Tr.iload_n (pc := 57) (i := 1) d_X12_pays_57 rfl rfl ?_
                refine Tr.icmp_ne (pc := 58) (tgt := 74) d_X12_pays_58 rfl (fun c58 => ?_) (fun c58 => ?_)
                · refine Tr.pick [0, 1, 2, 3, 4] (ls2 := [(0, (2, 120)), (1, (0, a1)), (2, (0, a2)), (3, (1, p36_3)), (5, (0, p36_5))]) rfl ?_
                  exact J74 _ _ hS (by omega) k36_120_85 er39
                · refine Tr.lload_n (pc := 61) (i := 3) d_X12_pays_61 rfl rfl ?_
                  refine Tr.aload_n (pc := 62) (i := 0) d_X12_pays_62 rfl rfl ?_
                  refine Tr.getf (pc := 63) d_X12_pays_63 f_12_51 (by decide) (by decide) (ty_120 hS.1.1) ?_
                  refine Tr.tp 122 (fx_120_13 hS.1.1) ?_
                  refine Tr.aload_n (pc := 66) (i := 0) d_X12_pays_66 rfl rfl ?_
                  refine Tr.getf (pc := 67) d_X12_pays_67 f_12_48 (by decide) (by decide) (ty_120 hS.1.1) ?_
                  refine Tr.tp 0 ((St.kp hS (by decide) (by decide) (by decide)).trans en_120_12) ?_
                  refine Tr.iald (pc := 70) d_X12_pays_70 (ty_122 hS.1.1) (by omega) (by omega) ?_
                  refine Tr.gen (P := fun v => (-2147483648) ≤ v ∧ v ≤ 2147483647) (ir_122_0 hS.1.2.1) (fun r70 er70 br70 => ?_)
                  refine Tr.i2l (pc := 71) d_X12_pays_71 ?_
                  refine Tr.ladd (pc := 72) d_X12_pays_72 ?_
                  refine Tr.gen (P := fun v => (-9223372036854775808) ≤ v ∧ v ≤ 9223372036854775807) (w64_b _) (fun r72 er72 br72 => ?_)
                  refine Tr.lstore_n (pc := 73) (i := 3) (ls2 := [(3, (1, r72)), (0, (2, 120)), (1, (0, a1)), (2, (0, a2)), (5, (0, p36_5))]) d_X12_pays_73 rfl (by decide) rfl ?_
                  refine Tr.pick [1, 2, 3, 0, 4] (ls2 := [(0, (2, 120)), (1, (0, a1)), (2, (0, a2)), (3, (1, r72)), (5, (0, p36_5))]) rfl ?_
                  exact J74 _ _ hS (by omega) k36_120_85 er39
        refine Tr.pick [2, 3, 4, 1, 0] (ls2 := [(0, (2, 120)), (1, (0, a1)), (2, (0, a2)), (3, (1, 0)), (5, (0, 0))]) rfl ?_
        exact J36 _ _ _ _ hS (by omega) (by omega) k31_120_85 (Nat.lt_succ_self _)
      refine Tr.icmp_eq (pc := 18) (tgt := 31) d_X12_pays_18 rfl (fun c18 => ?_) (fun c18 => ?_)
      · refine Tr.pick [0, 1, 2] (ls2 := [(0, (2, 120)), (1, (0, a1)), (2, (0, a2))]) rfl ?_
        exact J31 _ hS (by omega) ((St.kp h10 (by decide) (by decide) (by decide)).trans er1)
      · refine Tr.aload_n (pc := 21) (i := 0) d_X12_pays_21 rfl rfl ?_
        refine Tr.iload_n (pc := 22) (i := 1) d_X12_pays_22 rfl rfl ?_
        refine Tr.callV (pc := 23) (as := [_]) d_X12_pays_23 s_12_656 ok_X12_isLine rfl rfl (Nat.le_of_ble_eq_true rfl) (Nat.le_of_ble_eq_true rfl) (by decide) (ty_120 hS.1.1) ?_
        refine Tr.imp (Tr.deep (by decide) (sp_X12_isLine_120 hS.1 ((St.kp hS (by decide) (by decide) (by decide)).trans en_120_12) a1 (by omega))) ?_
        rintro M23 _ ⟨h23, r23, rfl, lr23, ur23, z23_0⟩
        have hS := St.tr hS h23 (by decide) (by decide)
        obtain ⟨w23_129_0, ew23_129_0⟩ : ∃ v, rd M23 129 0 = v := ⟨_, rfl⟩
        have bw23_129_0 : 0 ≤ w23_129_0 ∧ w23_129_0 ≤ 60 := by rw [← ew23_129_0]; exact ir_129_0 hS.1.2.1
        have ka23_129_0 : rd M23 129 0 = w23_129_0 := ew23_129_0
        refine Tr.sc [(0, r23)] rfl ?_
        refine Tr.if_ne (pc := 26) (tgt := 31) d_X12_pays_26 rfl (fun c26 => ?_) (fun c26 => ?_)
        · refine Tr.pick [0, 1, 2] (ls2 := [(0, (2, 120)), (1, (0, a1)), (2, (0, a2))]) rfl ?_
          exact J31 _ hS (by omega) ((St.kp h23 (by decide) (by decide) (by decide)).trans ((St.kp h10 (by decide) (by decide) (by decide)).trans er1))
        · refine Tr.iconst (pc := 29) d_X12_pays_29 (by decide) ?_
          exact Tr.iret (pc := 30) d_X12_pays_30 rfl ⟨hS, _, rfl, by omega, by omega⟩
