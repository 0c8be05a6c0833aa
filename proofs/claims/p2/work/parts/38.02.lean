def ws_X12_must__120 : List (Int × Int) := [(120, 3), (120, 4), (120, 5), (120, 6), (120, 7), (120, 8), (120, 9)]
def as_X12_must__120 : List Int := []
def q_X12_must__120 (a1 : Int) (M0 M' : Mem) (r : Option PV) : Prop := St Pm1 ws_X12_must__120 as_X12_must__120 M0 M' ∧ r = none ∧ (rd M' 120 3 = 0 ∨ rd M' 120 4 + 1 ≤ rd M' 120 5) ∧ (rd M' 120 4 ≤ rd M' 120 5) ∧ (rd M' 120 3 ≠ 1 ∨ rd M' 120 4 + 2 ≤ rd M' 120 5 ∨ rd M' 120 7 < 256) ∧ (rd M0 120 4 ≤ rd M' 120 4 ∧ rd M0 120 5 ≤ rd M' 120 5 ∧ tav M0 ≤ tav M') ∧ (rd M0 120 8 = 0 ∨ rd M' 120 8 = rd M0 120 8) ∧ (1 ≤ rd M' 120 8 ∨ tav M0 < tav M')
set_option maxRecDepth 100000 in
set_option maxHeartbeats 4000000 in
theorem sp_X12_must__120 {l : Launch} {K : EC} {M0 : Mem} (hI : In Pm1 M0)  (a1 : Int) (ha1 : 2147483647 ≤ a1 ∧ a1 ≤ 9223372036854775807)  (hq0 : rd M0 120 3 = 0 ∨ rd M0 120 4 + 1 ≤ rd M0 120 5) (hq1 : rd M0 120 4 ≤ rd M0 120 5) (hq2 : rd M0 120 3 ≠ 1 ∨ rd M0 120 4 + 2 ≤ rd M0 120 5 ∨ rd M0 120 7 < 256) : Tr l K 2 mX12_must_ 0 [(0, (2, 120)), (1, (1, a1))] [] M0 (q_X12_must__120 a1 M0) := by
  have hS : St Pm1 ws_X12_must__120 as_X12_must__120 M0 M0 := St.rf hI
  obtain ⟨g120_8, eg120_8⟩ : ∃ v, rd M0 120 8 = v := ⟨_, rfl⟩
  have bg120_8 : 0 ≤ g120_8 ∧ g120_8 ≤ 5 := by rw [← eg120_8]; exact ir_120_8 hI.2.1
  obtain ⟨g120_3, eg120_3⟩ : ∃ v, rd M0 120 3 = v := ⟨_, rfl⟩
  have bg120_3 : 0 ≤ g120_3 ∧ g120_3 ≤ 3 := by rw [← eg120_3]; exact ir_120_3 hI.2.1
  obtain ⟨g120_4, eg120_4⟩ : ∃ v, rd M0 120 4 = v := ⟨_, rfl⟩
  have bg120_4 : 0 ≤ g120_4 ∧ g120_4 ≤ 900 := by rw [← eg120_4]; exact ir_120_4 hI.2.1
  obtain ⟨g120_5, eg120_5⟩ : ∃ v, rd M0 120 5 = v := ⟨_, rfl⟩
  have bg120_5 : 0 ≤ g120_5 ∧ g120_5 ≤ 900 := by rw [← eg120_5]; exact ir_120_5 hI.2.1
  obtain ⟨g120_7, eg120_7⟩ : ∃ v, rd M0 120 7 = v := ⟨_, rfl⟩
  have bg120_7 : (-9223372036854775808) ≤ g120_7 ∧ g120_7 ≤ 9223372036854775807 := by rw [← eg120_7]; exact ir_120_7 hI.2.1
  obtain ⟨g9010_0, eg9010_0⟩ : ∃ v, tav M0 = v := ⟨_, rfl⟩
  have bg9010_0 : (-1) ≤ g9010_0 ∧ g9010_0 ≤ 1800 := by rw [← eg9010_0]; exact (tav_b hI.2.1)
  replace hq0 := hd_i hq0
  replace hq2 := hd_i hq2
  refine Tr.aload_n (pc := 0) (i := 0) d_X12_must__0 rfl rfl ?_
  refine Tr.getf (pc := 1) d_X12_must__1 f_12_36 (by decide) (by decide) (ty_120 hS.1.1) ?_
  refine Tr.tp g120_8 eg120_8 ?_
  refine Tr.if_le (pc := 4) (tgt := 8) d_X12_must__4 rfl (fun c4 => ?_) (fun c4 => ?_)
  · refine Tr.aload_n (pc := 8) (i := 0) d_X12_must__8 rfl rfl ?_
    refine Tr.lload_n (pc := 9) (i := 1) d_X12_must__9 rfl rfl ?_
    refine Tr.callV (pc := 10) (as := [_]) d_X12_must__10 s_12_484 ok_X12_isWord rfl rfl (Nat.le_of_ble_eq_true rfl) (Nat.le_of_ble_eq_true rfl) (by decide) (ty_120 hS.1.1) ?_
    refine Tr.imp (Tr.deep (by decide) (sp_X12_isWord_120 hS.1.wk a1 (by omega))) ?_
    rintro M10 _ ⟨h10, r10, rfl, lr10, ur10, z10_0⟩
    have h10 := St.rn h10 (Pm1.of hS.1.2.2.2.2 (fun _ => St.ka h10 (by decide) (by decide) (by decide)) (fun _ => St.ka h10 (by decide) (by decide) (by decide)) (fun _ => St.ka h10 (by decide) (by decide) (by decide)) (fun _ => St.ka h10 (by decide) (by decide) (by decide)) (fun _ => St.ka h10 (by decide) (by decide) (by decide)) (fun _ => St.ka h10 (by decide) (by decide) (by decide)) (fun _ => St.ka h10 (by decide) (by decide) (by decide)) (fun _ => St.ka h10 (by decide) (by decide) (by decide)) (fun _ => St.ka h10 (by decide) (by decide) (by decide)) (fun _ => St.ka h10 (by decide) (by decide) (by decide)) (St.kp h10 (by decide) (by decide) (by decide)) (St.kp h10 (by decide) (by decide) (by decide)) (St.kp h10 (by decide) (by decide) (by decide)) (St.kp h10 (by decide) (by decide) (by decide)) (St.kp h10 (by decide) (by decide) (by decide)) (St.kp h10 (by decide) (by decide) (by decide)) (St.kp h10 (by decide) (by decide) (by decide)) (St.kp h10 (by decide) (by decide) (by decide)) (St.kp h10 (by decide) (by decide) (by decide)) (St.kp h10 (by decide) (by decide) (by decide)) (St.kp h10 (by decide) (by decide) (by decide)))
    have hS := St.tr hS h10 (by decide) (by decide)
    have ka10_120_3 : rd M10 120 3 = g120_3 := ((St.kp h10 (by decide) (by decide) (by decide)).trans eg120_3)
    have ka10_120_7 : rd M10 120 7 = g120_7 := ((St.kp h10 (by decide) (by decide) (by decide)).trans eg120_7)
    rewrite [ka10_120_3, ka10_120_7] at z10_0
    replace z10_0 := hd_i z10_0
    refine Tr.sc [(0, r10)] rfl ?_
    have J25 : ∀ (M : Mem) (u25_120_8 : Int), St Pm1 ws_X12_must__120 as_X12_must__120 M0 M → (0 ≤ u25_120_8 ∧ u25_120_8 ≤ 5) → rd M 120 3 = g120_3 → rd M 120 4 = g120_4 → rd M 120 5 = g120_5 → rd M 120 7 = g120_7 → rd M 120 8 = u25_120_8 → tav M = g9010_0 → (u25_120_8 ≠ 0 ∨ g120_3 ≠ 0) → (g120_8 = 0 ∨ u25_120_8 = g120_8) → Tr l K 2 mX12_must_ 25 [(0, (2, 120))] [] M (q_X12_must__120 a1 M0) := by
      intro M u25_120_8 hS bu25_120_8 k25_120_3 k25_120_4 k25_120_5 k25_120_7 k25_120_8 k25_9010_0 t25_0 t25_1
      clear ka10_120_3 ka10_120_7
      replace t25_0 := hd_i t25_0
      replace t25_1 := hd_i t25_1
      refine Tr.aload_n (pc := 25) (i := 0) d_X12_must__25 rfl rfl ?_
      refine Tr.getf (pc := 26) d_X12_must__26 f_12_36 (by decide) (by decide) (ty_120 hS.1.1) ?_
      refine Tr.tp u25_120_8 k25_120_8 ?_
      refine Tr.if_ne (pc := 29) (tgt := 36) d_X12_must__29 rfl (fun c29 => ?_) (fun c29 => ?_)
      · have c29b : 1 ≤ u25_120_8 ∧ u25_120_8 ≤ 5 := by omega
        replace c29 := hd_i c29
        have kr_120_3 : rd M 120 3 = g120_3 := k25_120_3
        have kr_120_4 : rd M 120 4 = g120_4 := k25_120_4
        have kr_120_5 : rd M 120 5 = g120_5 := k25_120_5
        have kr_120_7 : rd M 120 7 = g120_7 := k25_120_7
        have kr_120_8 : rd M 120 8 = u25_120_8 := k25_120_8
        have kr_9010_0 : tav M = g9010_0 := k25_9010_0
        exact Tr.vret (pc := 36) d_X12_must__36 rfl ⟨hS, rfl, (by first | exact (hd_o hq0) | exact (hd_o hq0).elim (fun h1 => by omega) (fun h1 => by omega)), (by omega), (by first | exact (hd_o hq2) | exact (hd_o hq2).elim (fun h1 => by omega) (fun h1 => h1.elim (fun h1 => by omega) (fun h1 => by omega))), (by and_intros <;> omega), (by first | exact (hd_o t25_1) | exact (hd_o t25_1).elim (fun h1 => by omega) (fun h1 => by omega)), (by omega)⟩
      · refine Tr.aload_n (pc := 32) (i := 0) d_X12_must__32 rfl rfl ?_
        refine Tr.callV (pc := 33) (as := []) d_X12_must__33 s_12_396 ok_X12_next rfl rfl (Nat.le_of_ble_eq_true rfl) (Nat.le_of_ble_eq_true rfl) (by decide) (ty_120 hS.1.1) ?_
        have kb33_120_3 : rd M 120 3 = g120_3 := k25_120_3
        have kb33_120_5 : rd M 120 5 = g120_5 := k25_120_5
        have kb33_120_8 : rd M 120 8 = u25_120_8 := k25_120_8
        have kb33_9010_0 : tav M = g9010_0 := k25_9010_0
        refine Tr.imp (Tr.deep (by decide) (sp_X12_next_120 hS.1 )) ?_
        rintro M33 _ ⟨h33, rfl, z33_0, z33_1, z33_2, z33_3, z33_4, z33_5, z33_6⟩
        have hS := St.tr hS h33 (by decide) (by decide)
        obtain ⟨s33_120_3, es33_120_3⟩ : ∃ v, rd M33 120 3 = v := ⟨_, rfl⟩
        have bs33_120_3 : 0 ≤ s33_120_3 ∧ s33_120_3 ≤ 3 := by rw [← es33_120_3]; exact ir_120_3 hS.1.2.1
        obtain ⟨s33_120_4, es33_120_4⟩ : ∃ v, rd M33 120 4 = v := ⟨_, rfl⟩
        have bs33_120_4 : 0 ≤ s33_120_4 ∧ s33_120_4 ≤ 900 := by rw [← es33_120_4]; exact ir_120_4 hS.1.2.1
        obtain ⟨s33_120_5, es33_120_5⟩ : ∃ v, rd M33 120 5 = v := ⟨_, rfl⟩
        have bs33_120_5 : 0 ≤ s33_120_5 ∧ s33_120_5 ≤ 900 := by rw [← es33_120_5]; exact ir_120_5 hS.1.2.1
        obtain ⟨s33_120_7, es33_120_7⟩ : ∃ v, rd M33 120 7 = v := ⟨_, rfl⟩
        have bs33_120_7 : (-9223372036854775808) ≤ s33_120_7 ∧ s33_120_7 ≤ 9223372036854775807 := by rw [← es33_120_7]; exact ir_120_7 hS.1.2.1
        obtain ⟨s33_120_8, es33_120_8⟩ : ∃ v, rd M33 120 8 = v := ⟨_, rfl⟩
        have bs33_120_8 : 0 ≤ s33_120_8 ∧ s33_120_8 ≤ 5 := by rw [← es33_120_8]; exact ir_120_8 hS.1.2.1
        obtain ⟨s33_9010_0, es33_9010_0⟩ : ∃ v, tav M33 = v := ⟨_, rfl⟩
        have bs33_9010_0 : (-1) ≤ s33_9010_0 ∧ s33_9010_0 ≤ 1800 := by rw [← es33_9010_0]; exact (tav_b hS.1.2.1)
        rewrite [es33_120_3, es33_120_4, es33_120_5] at z33_0
        replace z33_0 := hd_i z33_0
        rewrite [es33_120_4, es33_120_5] at z33_1
        rewrite [es33_120_3, es33_120_4, es33_120_5, es33_120_7] at z33_2
        replace z33_2 := hd_i z33_2
        rewrite [es33_120_4, kb33_120_5] at z33_3
        rewrite [es33_9010_0, kb33_9010_0] at z33_4
        rewrite [es33_9010_0, kb33_120_3, kb33_9010_0] at z33_5
        replace z33_5 := hd_i z33_5
        rewrite [es33_120_8, kb33_120_8] at z33_6
        replace z33_6 := hd_i z33_6
        refine Tr.sc [] rfl ?_
        have kr_120_3 : rd M33 120 3 = s33_120_3 := es33_120_3
        have kr_120_4 : rd M33 120 4 = s33_120_4 := es33_120_4
        have kr_120_5 : rd M33 120 5 = s33_120_5 := es33_120_5
        have kr_120_7 : rd M33 120 7 = s33_120_7 := es33_120_7
        have kr_120_8 : rd M33 120 8 = s33_120_8 := es33_120_8
        have kr_9010_0 : tav M33 = s33_9010_0 := es33_9010_0
        exact Tr.vret (pc := 36) d_X12_must__36 rfl ⟨hS, rfl, (by first | exact (hd_o z33_0) | exact (hd_o z33_0).elim (fun h1 => by omega) (fun h1 => by omega)), (by omega), (by first | exact (hd_o z33_2) | exact (hd_o z33_2).elim (fun h1 => by omega) (fun h1 => h1.elim (fun h1 => by omega) (fun h1 => by omega))), (by and_intros <;> omega), (by omega), (by exact (hd_o t25_0).elim (fun h1 => (ne_o h1).elim (fun h2 => by omega) (fun h2 => by omega)) (fun h1 => (ne_o h1).elim (fun h2 => by omega) (fun h2 => (hd_o z33_5).elim (fun h3 => by omega) (fun h3 => by omega))))⟩
    refine Tr.if_ne (pc := 13) (tgt := 25) d_X12_must__13 rfl (fun c13 => ?_) (fun c13 => ?_)
    · have c13b : 1 ≤ r10 ∧ r10 ≤ 1 := by omega
      replace c13 := hd_i c13
      refine Tr.pick [0] (ls2 := [(0, (2, 120))]) rfl ?_
      exact J25 _ _ hS (by and_intros <;> omega) ((St.kp h10 (by decide) (by decide) (by decide)).trans eg120_3) ((St.kp h10 (by decide) (by decide) (by decide)).trans eg120_4) ((St.kp h10 (by decide) (by decide) (by decide)).trans eg120_5) ((St.kp h10 (by decide) (by decide) (by decide)).trans eg120_7) ((St.kp h10 (by decide) (by decide) (by decide)).trans eg120_8) ((tav_of ((St.kp h10 (by decide) (by decide) (by decide)).trans rfl) ((St.kp h10 (by decide) (by decide) (by decide)).trans rfl)).trans eg9010_0) (by exact (hd_o z10_0).elim (fun h1 => by omega) (fun h1 => by omega)) (by omega)
    · refine Tr.aload_n (pc := 16) (i := 0) d_X12_must__16 rfl rfl ?_
      refine Tr.iconst (pc := 17) d_X12_must__17 (by decide) ?_
      refine Tr.aload_n (pc := 18) (i := 0) d_X12_must__18 rfl rfl ?_
      refine Tr.getf (pc := 19) d_X12_must__19 f_12_23 (by decide) (by decide) (ty_120 hS.1.1) ?_
      refine Tr.tp g120_4 ((St.kp h10 (by decide) (by decide) (by decide)).trans eg120_4) ?_
      refine Tr.callV (pc := 22) (as := [_, _]) d_X12_must__22 s_12_389 ok_X12_blame rfl rfl (Nat.le_of_ble_eq_true rfl) (Nat.le_of_ble_eq_true rfl) (by decide) (ty_120 hS.1.1) ?_
      have kb22_120_8 : rd M10 120 8 = g120_8 := ((St.kp h10 (by decide) (by decide) (by decide)).trans eg120_8)
      refine Tr.imp (Tr.deep (by decide) (sp_X12_blame_120 hS.1 1 (by omega) g120_4 (by and_intros <;> omega))) ?_
      rintro M22 _ ⟨h22, rfl, z22_0⟩
      have hS := St.tr hS h22 (by decide) (by decide)
      obtain ⟨s22_120_8, es22_120_8⟩ : ∃ v, rd M22 120 8 = v := ⟨_, rfl⟩
      have bs22_120_8 : 0 ≤ s22_120_8 ∧ s22_120_8 ≤ 5 := by rw [← es22_120_8]; exact ir_120_8 hS.1.2.1
      rewrite [es22_120_8, kb22_120_8] at z22_0
      replace z22_0 := hd_i z22_0
      refine Tr.sc [] rfl ?_
      refine Tr.pick [0] (ls2 := [(0, (2, 120))]) rfl ?_
      exact J25 _ _ hS (by and_intros <;> omega) ((St.kp h22 (by decide) (by decide) (by decide)).trans ((St.kp h10 (by decide) (by decide) (by decide)).trans eg120_3)) ((St.kp h22 (by decide) (by decide) (by decide)).trans ((St.kp h10 (by decide) (by decide) (by decide)).trans eg120_4)) ((St.kp h22 (by decide) (by decide) (by decide)).trans ((St.kp h10 (by decide) (by decide) (by decide)).trans eg120_5)) ((St.kp h22 (by decide) (by decide) (by decide)).trans ((St.kp h10 (by decide) (by decide) (by decide)).trans eg120_7)) es22_120_8 ((tav_of ((St.kp h22 (by decide) (by decide) (by decide)).trans ((St.kp h10 (by decide) (by decide) (by decide)).trans rfl)) ((St.kp h22 (by decide) (by decide) (by decide)).trans ((St.kp h10 (by decide) (by decide) (by decide)).trans rfl))).trans eg9010_0) (by exact (hd_o z22_0).elim (fun h1 => by omega) (fun h1 => by omega)) (by omega)
  · have kr_120_3 : rd M0 120 3 = g120_3 := eg120_3
    have kr_120_4 : rd M0 120 4 = g120_4 := eg120_4
    have kr_120_5 : rd M0 120 5 = g120_5 := eg120_5
    have kr_120_7 : rd M0 120 7 = g120_7 := eg120_7
    have kr_120_8 : rd M0 120 8 = g120_8 := eg120_8
    have kr_9010_0 : tav M0 = g9010_0 := eg9010_0
    exact Tr.vret (pc := 7) d_X12_must__7 rfl ⟨hS, rfl, (by first | exact (hd_o hq0) | exact (hd_o hq0).elim (fun h1 => by omega) (fun h1 => by omega)), (by omega), (by first | exact (hd_o hq2) | exact (hd_o hq2).elim (fun h1 => by omega) (fun h1 => h1.elim (fun h1 => by omega) (fun h1 => by omega))), (by and_intros <;> omega), (by omega), (by omega)⟩

def ws_X12_must__120_w1 : List (Int × Int) := [(120, 3), (120, 4), (120, 5), (120, 6), (120, 7), (120, 8), (120, 9)]
def as_X12_must__120_w1 : List Int := []
def q_X12_must__120_w1 (a1 : Int) (M0 M' : Mem) (r : Option PV) : Prop := St Pm1 ws_X12_must__120_w1 as_X12_must__120_w1 M0 M' ∧ r = none ∧ (rd M' 120 3 = 0 ∨ rd M' 120 4 + 1 ≤ rd M' 120 5) ∧ (rd M' 120 4 ≤ rd M' 120 5) ∧ (rd M' 120 3 ≠ 1 ∨ rd M' 120 4 + 2 ≤ rd M' 120 5 ∨ rd M' 120 7 < 256) ∧ (rd M0 120 4 ≤ rd M' 120 4 ∧ rd M0 120 5 ≤ rd M' 120 5 ∧ tav M0 ≤ tav M') ∧ (rd M0 120 8 = 0 ∨ rd M' 120 8 = rd M0 120 8) ∧ (1 ≤ rd M' 120 8 ∨ tav M0 < tav M')
set_option maxRecDepth 100000 in
set_option maxHeartbeats 4000000 in
theorem sp_X12_must__120_w1 {l : Launch} {K : EC} {M0 : Mem} (hI : In Pm1 M0)  (a1 : Int) (ha1 : 1000000000 ≤ a1 ∧ a1 ≤ 2147483647)  (hq0 : rd M0 120 3 = 0 ∨ rd M0 120 4 + 1 ≤ rd M0 120 5) (hq1 : rd M0 120 4 ≤ rd M0 120 5) (hq2 : rd M0 120 3 ≠ 1 ∨ rd M0 120 4 + 2 ≤ rd M0 120 5 ∨ rd M0 120 7 < 256) : Tr l K 2 mX12_must_ 0 [(0, (2, 120)), (1, (1, a1))] [] M0 (q_X12_must__120_w1 a1 M0) := by
  have hS : St Pm1 ws_X12_must__120_w1 as_X12_must__120_w1 M0 M0 := St.rf hI
  obtain ⟨g120_8, eg120_8⟩ : ∃ v, rd M0 120 8 = v := ⟨_, rfl⟩
  have bg120_8 : 0 ≤ g120_8 ∧ g120_8 ≤ 5 := by rw [← eg120_8]; exact ir_120_8 hI.2.1
  obtain ⟨g120_3, eg120_3⟩ : ∃ v, rd M0 120 3 = v := ⟨_, rfl⟩
  have bg120_3 : 0 ≤ g120_3 ∧ g120_3 ≤ 3 := by rw [← eg120_3]; exact ir_120_3 hI.2.1
  obtain ⟨g120_4, eg120_4⟩ : ∃ v, rd M0 120 4 = v := ⟨_, rfl⟩
  have bg120_4 : 0 ≤ g120_4 ∧ g120_4 ≤ 900 := by rw [← eg120_4]; exact ir_120_4 hI.2.1
  obtain ⟨g120_5, eg120_5⟩ : ∃ v, rd M0 120 5 = v := ⟨_, rfl⟩
  have bg120_5 : 0 ≤ g120_5 ∧ g120_5 ≤ 900 := by rw [← eg120_5]; exact ir_120_5 hI.2.1
  obtain ⟨g120_7, eg120_7⟩ : ∃ v, rd M0 120 7 = v := ⟨_, rfl⟩
  have bg120_7 : (-9223372036854775808) ≤ g120_7 ∧ g120_7 ≤ 9223372036854775807 := by rw [← eg120_7]; exact ir_120_7 hI.2.1
  obtain ⟨g9010_0, eg9010_0⟩ : ∃ v, tav M0 = v := ⟨_, rfl⟩
  have bg9010_0 : (-1) ≤ g9010_0 ∧ g9010_0 ≤ 1800 := by rw [← eg9010_0]; exact (tav_b hI.2.1)
  replace hq0 := hd_i hq0
  replace hq2 := hd_i hq2
  refine Tr.aload_n (pc := 0) (i := 0) d_X12_must__0 rfl rfl ?_
  refine Tr.getf (pc := 1) d_X12_must__1 f_12_36 (by decide) (by decide) (ty_120 hS.1.1) ?_
  refine Tr.tp g120_8 eg120_8 ?_
  refine Tr.if_le (pc := 4) (tgt := 8) d_X12_must__4 rfl (fun c4 => ?_) (fun c4 => ?_)
  · refine Tr.aload_n (pc := 8) (i := 0) d_X12_must__8 rfl rfl ?_
    refine Tr.lload_n (pc := 9) (i := 1) d_X12_must__9 rfl rfl ?_
    refine Tr.callV (pc := 10) (as := [_]) d_X12_must__10 s_12_484 ok_X12_isWord rfl rfl (Nat.le_of_ble_eq_true rfl) (Nat.le_of_ble_eq_true rfl) (by decide) (ty_120 hS.1.1) ?_
    refine Tr.imp (Tr.deep (by decide) (sp_X12_isWord_120 hS.1.wk a1 (by omega))) ?_
    rintro M10 _ ⟨h10, r10, rfl, lr10, ur10, z10_0⟩
    have h10 := St.rn h10 (Pm1.of hS.1.2.2.2.2 (fun _ => St.ka h10 (by decide) (by decide) (by decide)) (fun _ => St.ka h10 (by decide) (by decide) (by decide)) (fun _ => St.ka h10 (by decide) (by decide) (by decide)) (fun _ => St.ka h10 (by decide) (by decide) (by decide)) (fun _ => St.ka h10 (by decide) (by decide) (by decide)) (fun _ => St.ka h10 (by decide) (by decide) (by decide)) (fun _ => St.ka h10 (by decide) (by decide) (by decide)) (fun _ => St.ka h10 (by decide) (by decide) (by decide)) (fun _ => St.ka h10 (by decide) (by decide) (by decide)) (fun _ => St.ka h10 (by decide) (by decide) (by decide)) (St.kp h10 (by decide) (by decide) (by decide)) (St.kp h10 (by decide) (by decide) (by decide)) (St.kp h10 (by decide) (by decide) (by decide)) (St.kp h10 (by decide) (by decide) (by decide)) (St.kp h10 (by decide) (by decide) (by decide)) (St.kp h10 (by decide) (by decide) (by decide)) (St.kp h10 (by decide) (by decide) (by decide)) (St.kp h10 (by decide) (by decide) (by decide)) (St.kp h10 (by decide) (by decide) (by decide)) (St.kp h10 (by decide) (by decide) (by decide)) (St.kp h10 (by decide) (by decide) (by decide)))
    have hS := St.tr hS h10 (by decide) (by decide)
    have ka10_120_3 : rd M10 120 3 = g120_3 := ((St.kp h10 (by decide) (by decide) (by decide)).trans eg120_3)
    have ka10_120_7 : rd M10 120 7 = g120_7 := ((St.kp h10 (by decide) (by decide) (by decide)).trans eg120_7)
    rewrite [ka10_120_3, ka10_120_7] at z10_0
    replace z10_0 := hd_i z10_0
    refine Tr.sc [(0, r10)] rfl ?_
    have J25 : ∀ (M : Mem) (u25_120_8 : Int), St Pm1 ws_X12_must__120_w1 as_X12_must__120_w1 M0 M → (0 ≤ u25_120_8 ∧ u25_120_8 ≤ 5) → rd M 120 3 = g120_3 → rd M 120 4 = g120_4 → rd M 120 5 = g120_5 → rd M 120 7 = g120_7 → rd M 120 8 = u25_120_8 → tav M = g9010_0 → (u25_120_8 ≠ 0 ∨ g120_3 ≠ 0) → (g120_8 = 0 ∨ u25_120_8 = g120_8) → Tr l K 2 mX12_must_ 25 [(0, (2, 120))] [] M (q_X12_must__120_w1 a1 M0) := by
      intro M u25_120_8 hS bu25_120_8 k25_120_3 k25_120_4 k25_120_5 k25_120_7 k25_120_8 k25_9010_0 t25_0 t25_1
      clear ka10_120_3 ka10_120_7
      replace t25_0 := hd_i t25_0
      replace t25_1 := hd_i t25_1
      refine Tr.aload_n (pc := 25) (i := 0) d_X12_must__25 rfl rfl ?_
      refine Tr.getf (pc := 26) d_X12_must__26 f_12_36 (by decide) (by decide) (ty_120 hS.1.1) ?_
      refine Tr.tp u25_120_8 k25_120_8 ?_
      refine Tr.if_ne (pc := 29) (tgt := 36) d_X12_must__29 rfl (fun c29 => ?_) (fun c29 => ?_)
      · have c29b : 1 ≤ u25_120_8 ∧ u25_120_8 ≤ 5 := by omega
        replace c29 := hd_i c29
        have kr_120_3 : rd M 120 3 = g120_3 := k25_120_3
        have kr_120_4 : rd M 120 4 = g120_4 := k25_120_4
        have kr_120_5 : rd M 120 5 = g120_5 := k25_120_5
        have kr_120_7 : rd M 120 7 = g120_7 := k25_120_7
        have kr_120_8 : rd M 120 8 = u25_120_8 := k25_120_8
        have kr_9010_0 : tav M = g9010_0 := k25_9010_0
        exact Tr.vret (pc := 36) d_X12_must__36 rfl ⟨hS, rfl, (by first | exact (hd_o hq0) | exact (hd_o hq0).elim (fun h1 => by omega) (fun h1 => by omega)), (by omega), (by first | exact (hd_o hq2) | exact (hd_o hq2).elim (fun h1 => by omega) (fun h1 => h1.elim (fun h1 => by omega) (fun h1 => by omega))), (by and_intros <;> omega), (by first | exact (hd_o t25_1) | exact (hd_o t25_1).elim (fun h1 => by omega) (fun h1 => by omega)), (by omega)⟩
      · refine Tr.aload_n (pc := 32) (i := 0) d_X12_must__32 rfl rfl ?_
        refine Tr.callV (pc := 33) (as := []) d_X12_must__33 s_12_396 ok_X12_next rfl rfl (Nat.le_of_ble_eq_true rfl) (Nat.le_of_ble_eq_true rfl) (by decide) (ty_120 hS.1.1) ?_
        have kb33_120_3 : rd M 120 3 = g120_3 := k25_120_3
        have kb33_120_5 : rd M 120 5 = g120_5 := k25_120_5
        have kb33_120_8 : rd M 120 8 = u25_120_8 := k25_120_8
        have kb33_9010_0 : tav M = g9010_0 := k25_9010_0
        refine Tr.imp (Tr.deep (by decide) (sp_X12_next_120 hS.1 )) ?_
        rintro M33 _ ⟨h33, rfl, z33_0, z33_1, z33_2, z33_3, z33_4, z33_5, z33_6⟩
        have hS := St.tr hS h33 (by decide) (by decide)
        obtain ⟨s33_120_3, es33_120_3⟩ : ∃ v, rd M33 120 3 = v := ⟨_, rfl⟩
        have bs33_120_3 : 0 ≤ s33_120_3 ∧ s33_120_3 ≤ 3 := by rw [← es33_120_3]; exact ir_120_3 hS.1.2.1
        obtain ⟨s33_120_4, es33_120_4⟩ : ∃ v, rd M33 120 4 = v := ⟨_, rfl⟩
        have bs33_120_4 : 0 ≤ s33_120_4 ∧ s33_120_4 ≤ 900 := by rw [← es33_120_4]; exact ir_120_4 hS.1.2.1
        obtain ⟨s33_120_5, es33_120_5⟩ : ∃ v, rd M33 120 5 = v := ⟨_, rfl⟩
        have bs33_120_5 : 0 ≤ s33_120_5 ∧ s33_120_5 ≤ 900 := by rw [← es33_120_5]; exact ir_120_5 hS.1.2.1
        obtain ⟨s33_120_7, es33_120_7⟩ : ∃ v, rd M33 120 7 = v := ⟨_, rfl⟩
        have bs33_120_7 : (-9223372036854775808) ≤ s33_120_7 ∧ s33_120_7 ≤ 9223372036854775807 := by rw [← es33_120_7]; exact ir_120_7 hS.1.2.1
        obtain ⟨s33_120_8, es33_120_8⟩ : ∃ v, rd M33 120 8 = v := ⟨_, rfl⟩
        have bs33_120_8 : 0 ≤ s33_120_8 ∧ s33_120_8 ≤ 5 := by rw [← es33_120_8]; exact ir_120_8 hS.1.2.1
        obtain ⟨s33_9010_0, es33_9010_0⟩ : ∃ v, tav M33 = v := ⟨_, rfl⟩
        have bs33_9010_0 : (-1) ≤ s33_9010_0 ∧ s33_9010_0 ≤ 1800 := by rw [← es33_9010_0]; exact (tav_b hS.1.2.1)
        rewrite [es33_120_3, es33_120_4, es33_120_5] at z33_0
        replace z33_0 := hd_i z33_0
        rewrite [es33_120_4, es33_120_5] at z33_1
        rewrite [es33_120_3, es33_120_4, es33_120_5, es33_120_7] at z33_2
        replace z33_2 := hd_i z33_2
        rewrite [es33_120_4, kb33_120_5] at z33_3
        rewrite [es33_9010_0, kb33_9010_0] at z33_4
        rewrite [es33_9010_0, kb33_120_3, kb33_9010_0] at z33_5
        replace z33_5 := hd_i z33_5
        rewrite [es33_120_8, kb33_120_8] at z33_6
        replace z33_6 := hd_i z33_6
        refine Tr.sc [] rfl ?_
        have kr_120_3 : rd M33 120 3 = s33_120_3 := es33_120_3
        have kr_120_4 : rd M33 120 4 = s33_120_4 := es33_120_4
        have kr_120_5 : rd M33 120 5 = s33_120_5 := es33_120_5
        have kr_120_7 : rd M33 120 7 = s33_120_7 := es33_120_7
        have kr_120_8 : rd M33 120 8 = s33_120_8 := es33_120_8
        have kr_9010_0 : tav M33 = s33_9010_0 := es33_9010_0
        exact Tr.vret (pc := 36) d_X12_must__36 rfl ⟨hS, rfl, (by first | exact (hd_o z33_0) | exact (hd_o z33_0).elim (fun h1 => by omega) (fun h1 => by omega)), (by omega), (by first | exact (hd_o z33_2) | exact (hd_o z33_2).elim (fun h1 => by omega) (fun h1 => h1.elim (fun h1 => by omega) (fun h1 => by omega))), (by and_intros <;> omega), (by omega), (by exact (hd_o t25_0).elim (fun h1 => (ne_o h1).elim (fun h2 => by omega) (fun h2 => by omega)) (fun h1 => (ne_o h1).elim (fun h2 => by omega) (fun h2 => (hd_o z33_5).elim (fun h3 => by omega) (fun h3 => by omega))))⟩
    refine Tr.if_ne (pc := 13) (tgt := 25) d_X12_must__13 rfl (fun c13 => ?_) (fun c13 => ?_)
    · have c13b : 1 ≤ r10 ∧ r10 ≤ 1 := by omega
      replace c13 := hd_i c13
      refine Tr.pick [0] (ls2 := [(0, (2, 120))]) rfl ?_
      exact J25 _ _ hS (by and_intros <;> omega) ((St.kp h10 (by decide) (by decide) (by decide)).trans eg120_3) ((St.kp h10 (by decide) (by decide) (by decide)).trans eg120_4) ((St.kp h10 (by decide) (by decide) (by decide)).trans eg120_5) ((St.kp h10 (by decide) (by decide) (by decide)).trans eg120_7) ((St.kp h10 (by decide) (by decide) (by decide)).trans eg120_8) ((tav_of ((St.kp h10 (by decide) (by decide) (by decide)).trans rfl) ((St.kp h10 (by decide) (by decide) (by decide)).trans rfl)).trans eg9010_0) (by exact (hd_o z10_0).elim (fun h1 => by omega) (fun h1 => by omega)) (by omega)
    · refine Tr.aload_n (pc := 16) (i := 0) d_X12_must__16 rfl rfl ?_
      refine Tr.iconst (pc := 17) d_X12_must__17 (by decide) ?_
      refine Tr.aload_n (pc := 18) (i := 0) d_X12_must__18 rfl rfl ?_
      refine Tr.getf (pc := 19) d_X12_must__19 f_12_23 (by decide) (by decide) (ty_120 hS.1.1) ?_
      refine Tr.tp g120_4 ((St.kp h10 (by decide) (by decide) (by decide)).trans eg120_4) ?_
      refine Tr.callV (pc := 22) (as := [_, _]) d_X12_must__22 s_12_389 ok_X12_blame rfl rfl (Nat.le_of_ble_eq_true rfl) (Nat.le_of_ble_eq_true rfl) (by decide) (ty_120 hS.1.1) ?_
      have kb22_120_8 : rd M10 120 8 = g120_8 := ((St.kp h10 (by decide) (by decide) (by decide)).trans eg120_8)
      refine Tr.imp (Tr.deep (by decide) (sp_X12_blame_120 hS.1 1 (by omega) g120_4 (by and_intros <;> omega))) ?_
      rintro M22 _ ⟨h22, rfl, z22_0⟩
      have hS := St.tr hS h22 (by decide) (by decide)
      obtain ⟨s22_120_8, es22_120_8⟩ : ∃ v, rd M22 120 8 = v := ⟨_, rfl⟩
      have bs22_120_8 : 0 ≤ s22_120_8 ∧ s22_120_8 ≤ 5 := by rw [← es22_120_8]; exact ir_120_8 hS.1.2.1
      rewrite [es22_120_8, kb22_120_8] at z22_0
      replace z22_0 := hd_i z22_0
      refine Tr.sc [] rfl ?_
      refine Tr.pick [0] (ls2 := [(0, (2, 120))]) rfl ?_
      exact J25 _ _ hS (by and_intros <;> omega) ((St.kp h22 (by decide) (by decide) (by decide)).trans ((St.kp h10 (by decide) (by decide) (by decide)).trans eg120_3)) ((St.kp h22 (by decide) (by decide) (by decide)).trans ((St.kp h10 (by decide) (by decide) (by decide)).trans eg120_4)) ((St.kp h22 (by decide) (by decide) (by decide)).trans ((St.kp h10 (by decide) (by decide) (by decide)).trans eg120_5)) ((St.kp h22 (by decide) (by decide) (by decide)).trans ((St.kp h10 (by decide) (by decide) (by decide)).trans eg120_7)) es22_120_8 ((tav_of ((St.kp h22 (by decide) (by decide) (by decide)).trans ((St.kp h10 (by decide) (by decide) (by decide)).trans rfl)) ((St.kp h22 (by decide) (by decide) (by decide)).trans ((St.kp h10 (by decide) (by decide) (by decide)).trans rfl))).trans eg9010_0) (by exact (hd_o z22_0).elim (fun h1 => by omega) (fun h1 => by omega)) (by omega)
  · have kr_120_3 : rd M0 120 3 = g120_3 := eg120_3
    have kr_120_4 : rd M0 120 4 = g120_4 := eg120_4
    have kr_120_5 : rd M0 120 5 = g120_5 := eg120_5
    have kr_120_7 : rd M0 120 7 = g120_7 := eg120_7
    have kr_120_8 : rd M0 120 8 = g120_8 := eg120_8
    have kr_9010_0 : tav M0 = g9010_0 := eg9010_0
    exact Tr.vret (pc := 7) d_X12_must__7 rfl ⟨hS, rfl, (by first | exact (hd_o hq0) | exact (hd_o hq0).elim (fun h1 => by omega) (fun h1 => by omega)), (by omega), (by first | exact (hd_o hq2) | exact (hd_o hq2).elim (fun h1 => by omega) (fun h1 => h1.elim (fun h1 => by omega) (fun h1 => by omega))), (by and_intros <;> omega), (by omega), (by omega)⟩

def ws_X12_must__120_w2 : List (Int × Int) := [(120, 3), (120, 4), (120, 5), (120, 6), (120, 7), (120, 8), (120, 9)]
def as_X12_must__120_w2 : List Int := []
def q_X12_must__120_w2 (a1 : Int) (M0 M' : Mem) (r : Option PV) : Prop := St Pm1 ws_X12_must__120_w2 as_X12_must__120_w2 M0 M' ∧ r = none ∧ (rd M' 120 3 = 0 ∨ rd M' 120 4 + 1 ≤ rd M' 120 5) ∧ (rd M' 120 4 ≤ rd M' 120 5) ∧ (rd M' 120 3 ≠ 1 ∨ rd M' 120 4 + 2 ≤ rd M' 120 5 ∨ rd M' 120 7 < 256) ∧ (rd M0 120 4 ≤ rd M' 120 4 ∧ rd M0 120 5 ≤ rd M' 120 5 ∧ tav M0 ≤ tav M') ∧ (rd M0 120 8 = 0 ∨ rd M' 120 8 = rd M0 120 8) ∧ (1 ≤ rd M' 120 8 ∨ tav M0 < tav M')
set_option maxRecDepth 100000 in
set_option maxHeartbeats 4000000 in
theorem sp_X12_must__120_w2 {l : Launch} {K : EC} {M0 : Mem} (hI : In Pm1 M0)  (a1 : Int) (ha1 : 2100 ≤ a1 ∧ a1 ≤ 46656)  (hq0 : rd M0 120 3 = 0 ∨ rd M0 120 4 + 1 ≤ rd M0 120 5) (hq1 : rd M0 120 4 ≤ rd M0 120 5) (hq2 : rd M0 120 3 ≠ 1 ∨ rd M0 120 4 + 2 ≤ rd M0 120 5 ∨ rd M0 120 7 < 256) : Tr l K 2 mX12_must_ 0 [(0, (2, 120)), (1, (1, a1))] [] M0 (q_X12_must__120_w2 a1 M0) := by
  have hS : St Pm1 ws_X12_must__120_w2 as_X12_must__120_w2 M0 M0 := St.rf hI
  obtain ⟨g120_8, eg120_8⟩ : ∃ v, rd M0 120 8 = v := ⟨_, rfl⟩
  have bg120_8 : 0 ≤ g120_8 ∧ g120_8 ≤ 5 := by rw [← eg120_8]; exact ir_120_8 hI.2.1
  obtain ⟨g120_3, eg120_3⟩ : ∃ v, rd M0 120 3 = v := ⟨_, rfl⟩
  have bg120_3 : 0 ≤ g120_3 ∧ g120_3 ≤ 3 := by rw [← eg120_3]; exact ir_120_3 hI.2.1
  obtain ⟨g120_4, eg120_4⟩ : ∃ v, rd M0 120 4 = v := ⟨_, rfl⟩
  have bg120_4 : 0 ≤ g120_4 ∧ g120_4 ≤ 900 := by rw [← eg120_4]; exact ir_120_4 hI.2.1
  obtain ⟨g120_5, eg120_5⟩ : ∃ v, rd M0 120 5 = v := ⟨_, rfl⟩
  have bg120_5 : 0 ≤ g120_5 ∧ g120_5 ≤ 900 := by rw [← eg120_5]; exact ir_120_5 hI.2.1
  obtain ⟨g120_7, eg120_7⟩ : ∃ v, rd M0 120 7 = v := ⟨_, rfl⟩
  have bg120_7 : (-9223372036854775808) ≤ g120_7 ∧ g120_7 ≤ 9223372036854775807 := by rw [← eg120_7]; exact ir_120_7 hI.2.1
  obtain ⟨g9010_0, eg9010_0⟩ : ∃ v, tav M0 = v := ⟨_, rfl⟩
  have bg9010_0 : (-1) ≤ g9010_0 ∧ g9010_0 ≤ 1800 := by rw [← eg9010_0]; exact (tav_b hI.2.1)
  replace hq0 := hd_i hq0
  replace hq2 := hd_i hq2
  refine Tr.aload_n (pc := 0) (i := 0) d_X12_must__0 rfl rfl ?_
  refine Tr.getf (pc := 1) d_X12_must__1 f_12_36 (by decide) (by decide) (ty_120 hS.1.1) ?_
  refine Tr.tp g120_8 eg120_8 ?_
  refine Tr.if_le (pc := 4) (tgt := 8) d_X12_must__4 rfl (fun c4 => ?_) (fun c4 => ?_)
  · refine Tr.aload_n (pc := 8) (i := 0) d_X12_must__8 rfl rfl ?_
    refine Tr.lload_n (pc := 9) (i := 1) d_X12_must__9 rfl rfl ?_
    refine Tr.callV (pc := 10) (as := [_]) d_X12_must__10 s_12_484 ok_X12_isWord rfl rfl (Nat.le_of_ble_eq_true rfl) (Nat.le_of_ble_eq_true rfl) (by decide) (ty_120 hS.1.1) ?_
    refine Tr.imp (Tr.deep (by decide) (sp_X12_isWord_120 hS.1.wk a1 (by omega))) ?_
    rintro M10 _ ⟨h10, r10, rfl, lr10, ur10, z10_0⟩
    have h10 := St.rn h10 (Pm1.of hS.1.2.2.2.2 (fun _ => St.ka h10 (by decide) (by decide) (by decide)) (fun _ => St.ka h10 (by decide) (by decide) (by decide)) (fun _ => St.ka h10 (by decide) (by decide) (by decide)) (fun _ => St.ka h10 (by decide) (by decide) (by decide)) (fun _ => St.ka h10 (by decide) (by decide) (by decide)) (fun _ => St.ka h10 (by decide) (by decide) (by decide)) (fun _ => St.ka h10 (by decide) (by decide) (by decide)) (fun _ => St.ka h10 (by decide) (by decide) (by decide)) (fun _ => St.ka h10 (by decide) (by decide) (by decide)) (fun _ => St.ka h10 (by decide) (by decide) (by decide)) (St.kp h10 (by decide) (by decide) (by decide)) (St.kp h10 (by decide) (by decide) (by decide)) (St.kp h10 (by decide) (by decide) (by decide)) (St.kp h10 (by decide) (by decide) (by decide)) (St.kp h10 (by decide) (by decide) (by decide)) (St.kp h10 (by decide) (by decide) (by decide)) (St.kp h10 (by decide) (by decide) (by decide)) (St.kp h10 (by decide) (by decide) (by decide)) (St.kp h10 (by decide) (by decide) (by decide)) (St.kp h10 (by decide) (by decide) (by decide)) (St.kp h10 (by decide) (by decide) (by decide)))
    have hS := St.tr hS h10 (by decide) (by decide)
    have ka10_120_3 : rd M10 120 3 = g120_3 := ((St.kp h10 (by decide) (by decide) (by decide)).trans eg120_3)
    have ka10_120_7 : rd M10 120 7 = g120_7 := ((St.kp h10 (by decide) (by decide) (by decide)).trans eg120_7)
    rewrite [ka10_120_3, ka10_120_7] at z10_0
    replace z10_0 := hd_i z10_0
    refine Tr.sc [(0, r10)] rfl ?_
    have J25 : ∀ (M : Mem) (u25_120_8 : Int), St Pm1 ws_X12_must__120_w2 as_X12_must__120_w2 M0 M → (0 ≤ u25_120_8 ∧ u25_120_8 ≤ 5) → rd M 120 3 = g120_3 → rd M 120 4 = g120_4 → rd M 120 5 = g120_5 → rd M 120 7 = g120_7 → rd M 120 8 = u25_120_8 → tav M = g9010_0 → (u25_120_8 ≠ 0 ∨ g120_3 ≠ 0) → (g120_8 = 0 ∨ u25_120_8 = g120_8) → Tr l K 2 mX12_must_ 25 [(0, (2, 120))] [] M (q_X12_must__120_w2 a1 M0) := by
      intro M u25_120_8 hS bu25_120_8 k25_120_3 k25_120_4 k25_120_5 k25_120_7 k25_120_8 k25_9010_0 t25_0 t25_1
      clear ka10_120_3 ka10_120_7
      replace t25_0 := hd_i t25_0
      replace t25_1 := hd_i t25_1
      refine Tr.aload_n (pc := 25) (i := 0) d_X12_must__25 rfl rfl ?_
      refine Tr.getf (pc := 26) d_X12_must__26 f_12_36 (by decide) (by decide) (ty_120 hS.1.1) ?_
      refine Tr.tp u25_120_8 k25_120_8 ?_
      refine Tr.if_ne (pc := 29) (tgt := 36) d_X12_must__29 rfl (fun c29 => ?_) (fun c29 => ?_)
      · have c29b : 1 ≤ u25_120_8 ∧ u25_120_8 ≤ 5 := by omega
        replace c29 := hd_i c29
        have kr_120_3 : rd M 120 3 = g120_3 := k25_120_3
        have kr_120_4 : rd M 120 4 = g120_4 := k25_120_4
        have kr_120_5 : rd M 120 5 = g120_5 := k25_120_5
        have kr_120_7 : rd M 120 7 = g120_7 := k25_120_7
        have kr_120_8 : rd M 120 8 = u25_120_8 := k25_120_8
        have kr_9010_0 : tav M = g9010_0 := k25_9010_0
        exact Tr.vret (pc := 36) d_X12_must__36 rfl ⟨hS, rfl, (by first | exact (hd_o hq0) | exact (hd_o hq0).elim (fun h1 => by omega) (fun h1 => by omega)), (by omega), (by first | exact (hd_o hq2) | exact (hd_o hq2).elim (fun h1 => by omega) (fun h1 => h1.elim (fun h1 => by omega) (fun h1 => by omega))), (by and_intros <;> omega), (by first | exact (hd_o t25_1) | exact (hd_o t25_1).elim (fun h1 => by omega) (fun h1 => by omega)), (by omega)⟩
      · refine Tr.aload_n (pc := 32) (i := 0) d_X12_must__32 rfl rfl ?_
        refine Tr.callV (pc := 33) (as := []) d_X12_must__33 s_12_396 ok_X12_next rfl rfl (Nat.le_of_ble_eq_true rfl) (Nat.le_of_ble_eq_true rfl) (by decide) (ty_120 hS.1.1) ?_
        have kb33_120_3 : rd M 120 3 = g120_3 := k25_120_3
        have kb33_120_5 : rd M 120 5 = g120_5 := k25_120_5
        have kb33_120_8 : rd M 120 8 = u25_120_8 := k25_120_8
        have kb33_9010_0 : tav M = g9010_0 := k25_9010_0
        refine Tr.imp (Tr.deep (by decide) (sp_X12_next_120 hS.1 )) ?_
        rintro M33 _ ⟨h33, rfl, z33_0, z33_1, z33_2, z33_3, z33_4, z33_5, z33_6⟩
        have hS := St.tr hS h33 (by decide) (by decide)
        obtain ⟨s33_120_3, es33_120_3⟩ : ∃ v, rd M33 120 3 = v := ⟨_, rfl⟩
        have bs33_120_3 : 0 ≤ s33_120_3 ∧ s33_120_3 ≤ 3 := by rw [← es33_120_3]; exact ir_120_3 hS.1.2.1
        obtain ⟨s33_120_4, es33_120_4⟩ : ∃ v, rd M33 120 4 = v := ⟨_, rfl⟩
        have bs33_120_4 : 0 ≤ s33_120_4 ∧ s33_120_4 ≤ 900 := by rw [← es33_120_4]; exact ir_120_4 hS.1.2.1
        obtain ⟨s33_120_5, es33_120_5⟩ : ∃ v, rd M33 120 5 = v := ⟨_, rfl⟩
        have bs33_120_5 : 0 ≤ s33_120_5 ∧ s33_120_5 ≤ 900 := by rw [← es33_120_5]; exact ir_120_5 hS.1.2.1
        obtain ⟨s33_120_7, es33_120_7⟩ : ∃ v, rd M33 120 7 = v := ⟨_, rfl⟩
        have bs33_120_7 : (-9223372036854775808) ≤ s33_120_7 ∧ s33_120_7 ≤ 9223372036854775807 := by rw [← es33_120_7]; exact ir_120_7 hS.1.2.1
        obtain ⟨s33_120_8, es33_120_8⟩ : ∃ v, rd M33 120 8 = v := ⟨_, rfl⟩
        have bs33_120_8 : 0 ≤ s33_120_8 ∧ s33_120_8 ≤ 5 := by rw [← es33_120_8]; exact ir_120_8 hS.1.2.1
        obtain ⟨s33_9010_0, es33_9010_0⟩ : ∃ v, tav M33 = v := ⟨_, rfl⟩
        have bs33_9010_0 : (-1) ≤ s33_9010_0 ∧ s33_9010_0 ≤ 1800 := by rw [← es33_9010_0]; exact (tav_b hS.1.2.1)
        rewrite [es33_120_3, es33_120_4, es33_120_5] at z33_0
        replace z33_0 := hd_i z33_0
        rewrite [es33_120_4, es33_120_5] at z33_1
        rewrite [es33_120_3, es33_120_4, es33_120_5, es33_120_7] at z33_2
        replace z33_2 := hd_i z33_2
        rewrite [es33_120_4, kb33_120_5] at z33_3
        rewrite [es33_9010_0, kb33_9010_0] at z33_4
        rewrite [es33_9010_0, kb33_120_3, kb33_9010_0] at z33_5
        replace z33_5 := hd_i z33_5
        rewrite [es33_120_8, kb33_120_8] at z33_6
        replace z33_6 := hd_i z33_6
        refine Tr.sc [] rfl ?_
        have kr_120_3 : rd M33 120 3 = s33_120_3 := es33_120_3
        have kr_120_4 : rd M33 120 4 = s33_120_4 := es33_120_4
        have kr_120_5 : rd M33 120 5 = s33_120_5 := es33_120_5
        have kr_120_7 : rd M33 120 7 = s33_120_7 := es33_120_7
        have kr_120_8 : rd M33 120 8 = s33_120_8 := es33_120_8
        have kr_9010_0 : tav M33 = s33_9010_0 := es33_9010_0
        exact Tr.vret (pc := 36) d_X12_must__36 rfl ⟨hS, rfl, (by first | exact (hd_o z33_0) | exact (hd_o z33_0).elim (fun h1 => by omega) (fun h1 => by omega)), (by omega), (by first | exact (hd_o z33_2) | exact (hd_o z33_2).elim (fun h1 => by omega) (fun h1 => h1.elim (fun h1 => by omega) (fun h1 => by omega))), (by and_intros <;> omega), (by omega), (by exact (hd_o t25_0).elim (fun h1 => (ne_o h1).elim (fun h2 => by omega) (fun h2 => by omega)) (fun h1 => (ne_o h1).elim (fun h2 => by omega) (fun h2 => (hd_o z33_5).elim (fun h3 => by omega) (fun h3 => by omega))))⟩
    refine Tr.if_ne (pc := 13) (tgt := 25) d_X12_must__13 rfl (fun c13 => ?_) (fun c13 => ?_)
    · have c13b : 1 ≤ r10 ∧ r10 ≤ 1 := by omega
      replace c13 := hd_i c13
      refine Tr.pick [0] (ls2 := [(0, (2, 120))]) rfl ?_
      exact J25 _ _ hS (by and_intros <;> omega) ((St.kp h10 (by decide) (by decide) (by decide)).trans eg120_3) ((St.kp h10 (by decide) (by decide) (by decide)).trans eg120_4) ((St.kp h10 (by decide) (by decide) (by decide)).trans eg120_5) ((St.kp h10 (by decide) (by decide) (by decide)).trans eg120_7) ((St.kp h10 (by decide) (by decide) (by decide)).trans eg120_8) ((tav_of ((St.kp h10 (by decide) (by decide) (by decide)).trans rfl) ((St.kp h10 (by decide) (by decide) (by decide)).trans rfl)).trans eg9010_0) (by exact (hd_o z10_0).elim (fun h1 => by omega) (fun h1 => by omega)) (by omega)
    · refine Tr.aload_n (pc := 16) (i := 0) d_X12_must__16 rfl rfl ?_
      refine Tr.iconst (pc := 17) d_X12_must__17 (by decide) ?_
      refine Tr.aload_n (pc := 18) (i := 0) d_X12_must__18 rfl rfl ?_
      refine Tr.getf (pc := 19) d_X12_must__19 f_12_23 (by decide) (by decide) (ty_120 hS.1.1) ?_
      refine Tr.tp g120_4 ((St.kp h10 (by decide) (by decide) (by decide)).trans eg120_4) ?_
      refine Tr.callV (pc := 22) (as := [_, _]) d_X12_must__22 s_12_389 ok_X12_blame rfl rfl (Nat.le_of_ble_eq_true rfl) (Nat.le_of_ble_eq_true rfl) (by decide) (ty_120 hS.1.1) ?_
      have kb22_120_8 : rd M10 120 8 = g120_8 := ((St.kp h10 (by decide) (by decide) (by decide)).trans eg120_8)
      refine Tr.imp (Tr.deep (by decide) (sp_X12_blame_120 hS.1 1 (by omega) g120_4 (by and_intros <;> omega))) ?_
      rintro M22 _ ⟨h22, rfl, z22_0⟩
      have hS := St.tr hS h22 (by decide) (by decide)
      obtain ⟨s22_120_8, es22_120_8⟩ : ∃ v, rd M22 120 8 = v := ⟨_, rfl⟩
      have bs22_120_8 : 0 ≤ s22_120_8 ∧ s22_120_8 ≤ 5 := by rw [← es22_120_8]; exact ir_120_8 hS.1.2.1
      rewrite [es22_120_8, kb22_120_8] at z22_0
      replace z22_0 := hd_i z22_0
      refine Tr.sc [] rfl ?_
      refine Tr.pick [0] (ls2 := [(0, (2, 120))]) rfl ?_
      exact J25 _ _ hS (by and_intros <;> omega) ((St.kp h22 (by decide) (by decide) (by decide)).trans ((St.kp h10 (by decide) (by decide) (by decide)).trans eg120_3)) ((St.kp h22 (by decide) (by decide) (by decide)).trans ((St.kp h10 (by decide) (by decide) (by decide)).trans eg120_4)) ((St.kp h22 (by decide) (by decide) (by decide)).trans ((St.kp h10 (by decide) (by decide) (by decide)).trans eg120_5)) ((St.kp h22 (by decide) (by decide) (by decide)).trans ((St.kp h10 (by decide) (by decide) (by decide)).trans eg120_7)) es22_120_8 ((tav_of ((St.kp h22 (by decide) (by decide) (by decide)).trans ((St.kp h10 (by decide) (by decide) (by decide)).trans rfl)) ((St.kp h22 (by decide) (by decide) (by decide)).trans ((St.kp h10 (by decide) (by decide) (by decide)).trans rfl))).trans eg9010_0) (by exact (hd_o z22_0).elim (fun h1 => by omega) (fun h1 => by omega)) (by omega)
  · have kr_120_3 : rd M0 120 3 = g120_3 := eg120_3
    have kr_120_4 : rd M0 120 4 = g120_4 := eg120_4
    have kr_120_5 : rd M0 120 5 = g120_5 := eg120_5
    have kr_120_7 : rd M0 120 7 = g120_7 := eg120_7
    have kr_120_8 : rd M0 120 8 = g120_8 := eg120_8
    have kr_9010_0 : tav M0 = g9010_0 := eg9010_0
    exact Tr.vret (pc := 7) d_X12_must__7 rfl ⟨hS, rfl, (by first | exact (hd_o hq0) | exact (hd_o hq0).elim (fun h1 => by omega) (fun h1 => by omega)), (by omega), (by first | exact (hd_o hq2) | exact (hd_o hq2).elim (fun h1 => by omega) (fun h1 => h1.elim (fun h1 => by omega) (fun h1 => by omega))), (by and_intros <;> omega), (by omega), (by omega)⟩

def ws_X12_part_120 : List (Int × Int) := [(120, 3), (120, 4), (120, 5), (120, 6), (120, 7), (120, 8), (120, 9), (126, 1)]
def as_X12_part_120 : List Int := [130, 131]
def q_X12_part_120 (M0 M' : Mem) (r : Option PV) : Prop := St Pm1 ws_X12_part_120 as_X12_part_120 M0 M' ∧ r = none ∧ (rd M' 120 3 = 0 ∨ rd M' 120 4 + 1 ≤ rd M' 120 5) ∧ (rd M' 120 4 ≤ rd M' 120 5) ∧ (rd M' 120 3 ≠ 1 ∨ rd M' 120 4 + 2 ≤ rd M' 120 5 ∨ rd M' 120 7 < 256) ∧ (rd M0 120 4 ≤ rd M' 120 4 ∧ rd M0 120 5 ≤ rd M' 120 5 ∧ tav M0 ≤ tav M') ∧ (rd M0 120 8 = 0 ∨ rd M' 120 8 = rd M0 120 8) ∧ (1 ≤ rd M' 120 8 ∨ tav M0 < tav M')
set_option maxRecDepth 100000 in
set_option maxHeartbeats 4000000 in
theorem sp_X12_part_120 {l : Launch} {K : EC} {M0 : Mem} (hI : In Pm1 M0) (en_120_37 : rd M0 120 37 = 1)   (hq0 : rd M0 120 3 = 0 ∨ rd M0 120 4 + 1 ≤ rd M0 120 5) (hq1 : rd M0 120 4 ≤ rd M0 120 5) (hq2 : rd M0 120 3 ≠ 1 ∨ rd M0 120 4 + 2 ≤ rd M0 120 5 ∨ rd M0 120 7 < 256) (hq3 : rd M0 120 3 ≠ 0) (hq4 : rd M0 120 8 = 0) : Tr l K 3 mX12_part 0 [(0, (2, 120))] [] M0 (q_X12_part_120 M0) := by
  have hS : St Pm1 ws_X12_part_120 as_X12_part_120 M0 M0 := St.rf hI
  obtain ⟨g120_8, eg120_8⟩ : ∃ v, rd M0 120 8 = v := ⟨_, rfl⟩
  have bg120_8 : 0 ≤ g120_8 ∧ g120_8 ≤ 5 := by rw [← eg120_8]; exact ir_120_8 hI.2.1
  obtain ⟨g120_3, eg120_3⟩ : ∃ v, rd M0 120 3 = v := ⟨_, rfl⟩
  have bg120_3 : 0 ≤ g120_3 ∧ g120_3 ≤ 3 := by rw [← eg120_3]; exact ir_120_3 hI.2.1
  obtain ⟨g120_4, eg120_4⟩ : ∃ v, rd M0 120 4 = v := ⟨_, rfl⟩
  have bg120_4 : 0 ≤ g120_4 ∧ g120_4 ≤ 900 := by rw [← eg120_4]; exact ir_120_4 hI.2.1
  obtain ⟨g120_5, eg120_5⟩ : ∃ v, rd M0 120 5 = v := ⟨_, rfl⟩
  have bg120_5 : 0 ≤ g120_5 ∧ g120_5 ≤ 900 := by rw [← eg120_5]; exact ir_120_5 hI.2.1
  obtain ⟨g120_7, eg120_7⟩ : ∃ v, rd M0 120 7 = v := ⟨_, rfl⟩
  have bg120_7 : (-9223372036854775808) ≤ g120_7 ∧ g120_7 ≤ 9223372036854775807 := by rw [← eg120_7]; exact ir_120_7 hI.2.1
  obtain ⟨g9010_0, eg9010_0⟩ : ∃ v, tav M0 = v := ⟨_, rfl⟩
  have bg9010_0 : (-1) ≤ g9010_0 ∧ g9010_0 ≤ 1800 := by rw [← eg9010_0]; exact (tav_b hI.2.1)
  obtain ⟨g126_1, eg126_1⟩ : ∃ v, rd M0 126 1 = v := ⟨_, rfl⟩
  have bg126_1 : 0 ≤ g126_1 ∧ g126_1 ≤ 6 := by rw [← eg126_1]; exact ir_126_1 hI.2.1
  replace hq0 := hd_i hq0
  replace hq2 := hd_i hq2
  replace hq3 := hd_i hq3
  refine Tr.aload_n (pc := 0) (i := 0) d_X12_part_0 rfl rfl ?_
  refine Tr.aload_n (pc := 1) (i := 0) d_X12_part_1 rfl rfl ?_
  refine Tr.getf (pc := 2) d_X12_part_2 f_12_63 (by decide) (by decide) (ty_120 hS.1.1) ?_
  refine Tr.tp 126 (fx_120_17 hS.1.1) ?_
  refine Tr.aload_n (pc := 5) (i := 0) d_X12_part_5 rfl rfl ?_
  refine Tr.getf (pc := 6) d_X12_part_6 f_12_124 (by decide) (by decide) (ty_120 hS.1.1) ?_
  refine Tr.tp 1 ((St.kp hS (by decide) (by decide) (by decide)).trans en_120_37) ?_
  refine Tr.iald (pc := 9) d_X12_part_9 (ty_126 hS.1.1) (by omega) (by omega) ?_
  refine Tr.tp g126_1 eg126_1 ?_
  refine Tr.bipush (pc := 10) d_X12_part_10 rfl (by decide) ?_
  have J20 : ∀ (M : Mem) (q20_1 : Int), St Pm1 ws_X12_part_120 as_X12_part_120 M0 M → (0 ≤ q20_1 ∧ q20_1 ≤ 1) → rd M 120 3 = g120_3 → rd M 120 4 = g120_4 → rd M 120 5 = g120_5 → rd M 120 7 = g120_7 → rd M 120 8 = g120_8 → rd M 126 1 = g126_1 → tav M = g9010_0 → ((q20_1 = 1 ∧ g126_1 = 6) ∨ (q20_1 = 0 ∧ g126_1 ≠ 6)) → Tr l K 3 mX12_part 20 [(0, (2, 120))] [(0, q20_1), (2, 120)] M (q_X12_part_120 M0) := by
    intro M q20_1 hS bq20_1 k20_120_3 k20_120_4 k20_120_5 k20_120_7 k20_120_8 k20_126_1 k20_9010_0 t20_0
    replace t20_0 := hd_i t20_0
    refine Tr.callV (pc := 20) (as := [_]) d_X12_part_20 s_12_505 ok_X12_counts rfl rfl (Nat.le_of_ble_eq_true rfl) (Nat.le_of_ble_eq_true rfl) (by decide) (ty_120 hS.1.1) ?_
    have kb20_120_3 : rd M 120 3 = g120_3 := k20_120_3
    have kb20_120_4 : rd M 120 4 = g120_4 := k20_120_4
    have kb20_120_5 : rd M 120 5 = g120_5 := k20_120_5
    have kb20_120_7 : rd M 120 7 = g120_7 := k20_120_7
    have kb20_120_8 : rd M 120 8 = g120_8 := k20_120_8
    have kb20_9010_0 : tav M = g9010_0 := k20_9010_0
    refine Tr.imp (Tr.deep (by decide) (sp_X12_counts_120 hS.1 q20_1 (by and_intros <;> omega) (by first | exact (hd_o hq0) | exact (hd_o hq0).elim (fun h1 => by omega) (fun h1 => by omega)) (by omega) (by first | exact (hd_o hq2) | exact (hd_o hq2).elim (fun h1 => by omega) (fun h1 => h1.elim (fun h1 => by omega) (fun h1 => by omega))) (by have h1 := (hd_o hq3); omega))) ?_
    rintro M20 _ ⟨h20, rfl, z20_0, z20_1, z20_2, z20_3, z20_4, z20_5, z20_6⟩
    have hS := St.tr hS h20 (by decide) (by decide)
    obtain ⟨s20_120_3, es20_120_3⟩ : ∃ v, rd M20 120 3 = v := ⟨_, rfl⟩
    have bs20_120_3 : 0 ≤ s20_120_3 ∧ s20_120_3 ≤ 3 := by rw [← es20_120_3]; exact ir_120_3 hS.1.2.1
    obtain ⟨s20_120_4, es20_120_4⟩ : ∃ v, rd M20 120 4 = v := ⟨_, rfl⟩
    have bs20_120_4 : 0 ≤ s20_120_4 ∧ s20_120_4 ≤ 900 := by rw [← es20_120_4]; exact ir_120_4 hS.1.2.1
    obtain ⟨s20_120_5, es20_120_5⟩ : ∃ v, rd M20 120 5 = v := ⟨_, rfl⟩
    have bs20_120_5 : 0 ≤ s20_120_5 ∧ s20_120_5 ≤ 900 := by rw [← es20_120_5]; exact ir_120_5 hS.1.2.1
    obtain ⟨s20_120_7, es20_120_7⟩ : ∃ v, rd M20 120 7 = v := ⟨_, rfl⟩
    have bs20_120_7 : (-9223372036854775808) ≤ s20_120_7 ∧ s20_120_7 ≤ 9223372036854775807 := by rw [← es20_120_7]; exact ir_120_7 hS.1.2.1
    obtain ⟨s20_120_8, es20_120_8⟩ : ∃ v, rd M20 120 8 = v := ⟨_, rfl⟩
    have bs20_120_8 : 0 ≤ s20_120_8 ∧ s20_120_8 ≤ 5 := by rw [← es20_120_8]; exact ir_120_8 hS.1.2.1
    obtain ⟨s20_9010_0, es20_9010_0⟩ : ∃ v, tav M20 = v := ⟨_, rfl⟩
    have bs20_9010_0 : (-1) ≤ s20_9010_0 ∧ s20_9010_0 ≤ 1800 := by rw [← es20_9010_0]; exact (tav_b hS.1.2.1)
    rewrite [es20_120_3, es20_120_4, es20_120_5] at z20_0
    replace z20_0 := hd_i z20_0
    rewrite [es20_120_4, es20_120_5] at z20_1
    rewrite [es20_120_3, es20_120_4, es20_120_5, es20_120_7] at z20_2
    replace z20_2 := hd_i z20_2
    rewrite [es20_120_4, es20_120_5, es20_9010_0, kb20_120_4, kb20_120_5, kb20_9010_0] at z20_3
    rewrite [es20_120_8, kb20_120_8] at z20_4
    replace z20_4 := hd_i z20_4
    rewrite [es20_120_8, es20_9010_0, kb20_9010_0] at z20_5
    replace z20_5 := hd_i z20_5
    rewrite [es20_120_8] at z20_6
    replace z20_6 := hd_i z20_6
    refine Tr.sc [] rfl ?_
    refine Tr.aload_n (pc := 23) (i := 0) d_X12_part_23 rfl rfl ?_
    refine Tr.getf (pc := 24) d_X12_part_24 f_12_36 (by decide) (by decide) (ty_120 hS.1.1) ?_
    refine Tr.tp s20_120_8 es20_120_8 ?_
    refine Tr.if_le (pc := 27) (tgt := 31) d_X12_part_27 rfl (fun c27 => ?_) (fun c27 => ?_)
    · refine Tr.bipush (pc := 31) d_X12_part_31 rfl (by decide) ?_
      refine Tr.aload_n (pc := 33) (i := 0) d_X12_part_33 rfl rfl ?_
      refine Tr.getf (pc := 34) d_X12_part_34 f_12_124 (by decide) (by decide) (ty_120 hS.1.1) ?_
      refine Tr.tp 1 ((St.kp hS (by decide) (by decide) (by decide)).trans en_120_37) ?_
      refine Tr.imul (pc := 37) d_X12_part_37 ?_
      refine Tr.tp 6 (by decide) ?_
      refine Tr.aload_n (pc := 38) (i := 0) d_X12_part_38 rfl rfl ?_
      refine Tr.getf (pc := 39) d_X12_part_39 f_12_63 (by decide) (by decide) (ty_120 hS.1.1) ?_
      refine Tr.tp 126 (fx_120_17 hS.1.1) ?_
      refine Tr.aload_n (pc := 42) (i := 0) d_X12_part_42 rfl rfl ?_
      refine Tr.getf (pc := 43) d_X12_part_43 f_12_124 (by decide) (by decide) (ty_120 hS.1.1) ?_
      refine Tr.tp 1 ((St.kp hS (by decide) (by decide) (by decide)).trans en_120_37) ?_
      refine Tr.iald (pc := 46) d_X12_part_46 (ty_126 hS.1.1) (by omega) (by omega) ?_
      refine Tr.tp g126_1 ((St.kp h20 (by decide) (by decide) (by decide)).trans k20_126_1) ?_
      refine Tr.iadd (pc := 47) d_X12_part_47 ?_
      refine Tr.tp (g126_1 + 6) ((w32_id (by and_intros <;> omega)).trans (by omega)) ?_
      refine Tr.istore_n (pc := 48) (i := 1) (ls2 := [(1, (0, (g126_1 + 6))), (0, (2, 120))]) d_X12_part_48 rfl (by decide) rfl ?_
      refine Tr.aload_n (pc := 49) (i := 0) d_X12_part_49 rfl rfl ?_
      refine Tr.getf (pc := 50) d_X12_part_50 f_12_75 (by decide) (by decide) (ty_120 hS.1.1) ?_
      refine Tr.tp 130 (fx_120_21 hS.1.1) ?_
      refine Tr.iload_n (pc := 53) (i := 1) d_X12_part_53 rfl rfl ?_
      refine Tr.aload_n (pc := 54) (i := 0) d_X12_part_54 rfl rfl ?_
      refine Tr.callV (pc := 55) (as := []) d_X12_part_55 s_12_508 ok_X12_fresh rfl rfl (Nat.le_of_ble_eq_true rfl) (Nat.le_of_ble_eq_true rfl) (by decide) (ty_120 hS.1.1) ?_
      have kb55_120_3 : rd M20 120 3 = s20_120_3 := es20_120_3
      have kb55_120_4 : rd M20 120 4 = s20_120_4 := es20_120_4
      have kb55_120_5 : rd M20 120 5 = s20_120_5 := es20_120_5
      have kb55_120_7 : rd M20 120 7 = s20_120_7 := es20_120_7
      have kb55_120_8 : rd M20 120 8 = s20_120_8 := es20_120_8
      have kb55_9010_0 : tav M20 = s20_9010_0 := es20_9010_0
      refine Tr.imp (Tr.deep (by decide) (sp_X12_fresh_120 hS.1 ((St.kp hS (by decide) (by decide) (by decide)).trans en_120_37) (by first | exact (hd_o z20_0) | exact (hd_o z20_0).elim (fun h1 => by omega) (fun h1 => by omega)) (by omega) (by first | exact (hd_o z20_2) | exact (hd_o z20_2).elim (fun h1 => by omega) (fun h1 => h1.elim (fun h1 => by omega) (fun h1 => by omega))))) ?_
      rintro M55 _ ⟨h55, r55, rfl, lr55, ur55, z55_0, z55_1, z55_2, z55_3, z55_4, z55_5⟩
      have hS := St.tr hS h55 (by decide) (by decide)
      obtain ⟨s55_120_3, es55_120_3⟩ : ∃ v, rd M55 120 3 = v := ⟨_, rfl⟩
      have bs55_120_3 : 0 ≤ s55_120_3 ∧ s55_120_3 ≤ 3 := by rw [← es55_120_3]; exact ir_120_3 hS.1.2.1
      obtain ⟨s55_120_4, es55_120_4⟩ : ∃ v, rd M55 120 4 = v := ⟨_, rfl⟩
      have bs55_120_4 : 0 ≤ s55_120_4 ∧ s55_120_4 ≤ 900 := by rw [← es55_120_4]; exact ir_120_4 hS.1.2.1
      obtain ⟨s55_120_5, es55_120_5⟩ : ∃ v, rd M55 120 5 = v := ⟨_, rfl⟩
      have bs55_120_5 : 0 ≤ s55_120_5 ∧ s55_120_5 ≤ 900 := by rw [← es55_120_5]; exact ir_120_5 hS.1.2.1
      obtain ⟨s55_120_7, es55_120_7⟩ : ∃ v, rd M55 120 7 = v := ⟨_, rfl⟩
      have bs55_120_7 : (-9223372036854775808) ≤ s55_120_7 ∧ s55_120_7 ≤ 9223372036854775807 := by rw [← es55_120_7]; exact ir_120_7 hS.1.2.1
      obtain ⟨s55_120_8, es55_120_8⟩ : ∃ v, rd M55 120 8 = v := ⟨_, rfl⟩
      have bs55_120_8 : 0 ≤ s55_120_8 ∧ s55_120_8 ≤ 5 := by rw [← es55_120_8]; exact ir_120_8 hS.1.2.1
      obtain ⟨s55_9010_0, es55_9010_0⟩ : ∃ v, tav M55 = v := ⟨_, rfl⟩
      have bs55_9010_0 : (-1) ≤ s55_9010_0 ∧ s55_9010_0 ≤ 1800 := by rw [← es55_9010_0]; exact (tav_b hS.1.2.1)
      rewrite [es55_120_3, es55_120_4, es55_120_5] at z55_0
      replace z55_0 := hd_i z55_0
      rewrite [es55_120_4, es55_120_5] at z55_1
      rewrite [es55_120_3, es55_120_4, es55_120_5, es55_120_7] at z55_2
      replace z55_2 := hd_i z55_2
      rewrite [es55_120_4, es55_120_5, es55_9010_0, kb55_120_4, kb55_120_5, kb55_9010_0] at z55_3
      rewrite [es55_120_8, kb55_120_8] at z55_4
      replace z55_4 := hd_i z55_4
      rewrite [es55_120_8, es55_9010_0, kb55_9010_0] at z55_5
      replace z55_5 := hd_i z55_5
      refine Tr.sc [(1, r55), (0, (g126_1 + 6)), (2, 130)] rfl ?_
      refine Tr.lastS (pc := 58) (P := St Pm1 ws_X12_part_120 as_X12_part_120 M0) d_X12_part_58 (ty_130 hS.1.1) (by omega) (by exact (hd_o t20_0).elim (fun h1 => (hd_o z20_6).elim (fun h2 => by omega) (fun h2 => by omega)) (fun h1 => (ne_o h1.2).elim (fun h2 => by omega) (fun h2 => by omega))) (sa_130 hS (by decide) (by omega) (Pm1.of hS.1.2.2.2.2 (fun _ => rd_wb _ rfl) (fun _ => rd_wb _ rfl) (fun _ => rd_wb _ rfl) (fun _ => rd_wb _ rfl) (fun _ => rd_wb _ rfl) (fun _ => rd_wb _ rfl) (fun _ => rd_wb _ rfl) (fun _ => rd_wb _ rfl) (fun _ => rd_wb _ rfl) (fun _ => rd_wb _ rfl) (rd_wb _ rfl) (rd_wb _ rfl) (rd_wb _ rfl) (rd_wb _ rfl) (rd_wb _ rfl) (rd_wb _ rfl) (rd_wb _ rfl) (rd_wb _ rfl) (rd_wb _ rfl) (rd_wb _ rfl) (rd_wb _ rfl))) (fun M58 hS w58 => ?_)
      refine Tr.aload_n (pc := 59) (i := 0) d_X12_part_59 rfl rfl ?_
      refine Tr.ldc2 (pc := 60) d_X12_part_60 kl_12_405 (by decide) ?_
      refine Tr.callV (pc := 63) (as := [_]) d_X12_part_63 s_12_512 ok_X12_must_ rfl rfl (Nat.le_of_ble_eq_true rfl) (Nat.le_of_ble_eq_true rfl) (by decide) (ty_120 hS.1.1) ?_
      have kb63_120_3 : rd M58 120 3 = s55_120_3 := ((Wr.b w58 rfl).trans es55_120_3)
      have kb63_120_4 : rd M58 120 4 = s55_120_4 := ((Wr.b w58 rfl).trans es55_120_4)
      have kb63_120_5 : rd M58 120 5 = s55_120_5 := ((Wr.b w58 rfl).trans es55_120_5)
      have kb63_120_7 : rd M58 120 7 = s55_120_7 := ((Wr.b w58 rfl).trans es55_120_7)
      have kb63_120_8 : rd M58 120 8 = s55_120_8 := ((Wr.b w58 rfl).trans es55_120_8)
      have kb63_9010_0 : tav M58 = s55_9010_0 := ((tav_of ((Wr.b w58 rfl).trans rfl) ((Wr.b w58 rfl).trans rfl)).trans es55_9010_0)
      refine Tr.imp (Tr.deep (by decide) (sp_X12_must__120 hS.1 495739823472 (by omega) (by first | exact (hd_o z55_0) | exact (hd_o z55_0).elim (fun h1 => by omega) (fun h1 => by omega)) (by omega) (by first | exact (hd_o z55_2) | exact (hd_o z55_2).elim (fun h1 => by omega) (fun h1 => h1.elim (fun h1 => by omega) (fun h1 => by omega))))) ?_
      rintro M63 _ ⟨h63, rfl, z63_0, z63_1, z63_2, z63_3, z63_4, z63_5⟩
      have hS := St.tr hS h63 (by decide) (by decide)
      obtain ⟨s63_120_3, es63_120_3⟩ : ∃ v, rd M63 120 3 = v := ⟨_, rfl⟩
      have bs63_120_3 : 0 ≤ s63_120_3 ∧ s63_120_3 ≤ 3 := by rw [← es63_120_3]; exact ir_120_3 hS.1.2.1
      obtain ⟨s63_120_4, es63_120_4⟩ : ∃ v, rd M63 120 4 = v := ⟨_, rfl⟩
      have bs63_120_4 : 0 ≤ s63_120_4 ∧ s63_120_4 ≤ 900 := by rw [← es63_120_4]; exact ir_120_4 hS.1.2.1
      obtain ⟨s63_120_5, es63_120_5⟩ : ∃ v, rd M63 120 5 = v := ⟨_, rfl⟩
      have bs63_120_5 : 0 ≤ s63_120_5 ∧ s63_120_5 ≤ 900 := by rw [← es63_120_5]; exact ir_120_5 hS.1.2.1
      obtain ⟨s63_120_7, es63_120_7⟩ : ∃ v, rd M63 120 7 = v := ⟨_, rfl⟩
      have bs63_120_7 : (-9223372036854775808) ≤ s63_120_7 ∧ s63_120_7 ≤ 9223372036854775807 := by rw [← es63_120_7]; exact ir_120_7 hS.1.2.1
      obtain ⟨s63_120_8, es63_120_8⟩ : ∃ v, rd M63 120 8 = v := ⟨_, rfl⟩
      have bs63_120_8 : 0 ≤ s63_120_8 ∧ s63_120_8 ≤ 5 := by rw [← es63_120_8]; exact ir_120_8 hS.1.2.1
      obtain ⟨s63_9010_0, es63_9010_0⟩ : ∃ v, tav M63 = v := ⟨_, rfl⟩
      have bs63_9010_0 : (-1) ≤ s63_9010_0 ∧ s63_9010_0 ≤ 1800 := by rw [← es63_9010_0]; exact (tav_b hS.1.2.1)
      rewrite [es63_120_3, es63_120_4, es63_120_5] at z63_0
      replace z63_0 := hd_i z63_0
      rewrite [es63_120_4, es63_120_5] at z63_1
      rewrite [es63_120_3, es63_120_4, es63_120_5, es63_120_7] at z63_2
      replace z63_2 := hd_i z63_2
      rewrite [es63_120_4, es63_120_5, es63_9010_0, kb63_120_4, kb63_120_5, kb63_9010_0] at z63_3
      rewrite [es63_120_8, kb63_120_8] at z63_4
      replace z63_4 := hd_i z63_4
      rewrite [es63_120_8, es63_9010_0, kb63_9010_0] at z63_5
      replace z63_5 := hd_i z63_5
      refine Tr.sc [] rfl ?_
      refine Tr.aload_n (pc := 66) (i := 0) d_X12_part_66 rfl rfl ?_
      refine Tr.getf (pc := 67) d_X12_part_67 f_12_79 (by decide) (by decide) (ty_120 hS.1.1) ?_
      refine Tr.tp 131 (fx_120_22 hS.1.1) ?_
      refine Tr.bipush (pc := 70) d_X12_part_70 rfl (by decide) ?_
      refine Tr.iload_n (pc := 72) (i := 1) d_X12_part_72 rfl rfl ?_
      refine Tr.imul (pc := 73) d_X12_part_73 ?_
      refine Tr.tp (6 * g126_1 + 36) ((w32_id (by and_intros <;> omega)).trans (by omega)) ?_
      refine Tr.aload_n (pc := 74) (i := 0) d_X12_part_74 rfl rfl ?_
      refine Tr.iconst (pc := 75) d_X12_part_75 (by decide) ?_
      refine Tr.sipush (pc := 76) d_X12_part_76 rfl (by decide) ?_
      refine Tr.callV (pc := 79) (as := [_, _]) d_X12_part_79 s_12_516 ok_X12_number rfl rfl (Nat.le_of_ble_eq_true rfl) (Nat.le_of_ble_eq_true rfl) (by decide) (ty_120 hS.1.1) ?_
      have kb79_120_3 : rd M63 120 3 = s63_120_3 := es63_120_3
      have kb79_120_4 : rd M63 120 4 = s63_120_4 := es63_120_4
      have kb79_120_5 : rd M63 120 5 = s63_120_5 := es63_120_5
      have kb79_120_7 : rd M63 120 7 = s63_120_7 := es63_120_7
      have kb79_120_8 : rd M63 120 8 = s63_120_8 := es63_120_8
      have kb79_9010_0 : tav M63 = s63_9010_0 := es63_9010_0
      refine Tr.imp (Tr.deep (by decide) (sp_X12_number_120 hS.1 0 (by omega) 999 (by omega) (by first | exact (hd_o z63_0) | exact (hd_o z63_0).elim (fun h1 => by omega) (fun h1 => by omega)) (by omega) (by first | exact (hd_o z63_2) | exact (hd_o z63_2).elim (fun h1 => by omega) (fun h1 => h1.elim (fun h1 => by omega) (fun h1 => by omega))))) ?_
      rintro M79 _ ⟨h79, r79, rfl, lr79, ur79, z79_0, z79_1, z79_2, z79_3, z79_4, z79_5, z79_6⟩
      have hS := St.tr hS h79 (by decide) (by decide)
      obtain ⟨s79_120_3, es79_120_3⟩ : ∃ v, rd M79 120 3 = v := ⟨_, rfl⟩
      have bs79_120_3 : 0 ≤ s79_120_3 ∧ s79_120_3 ≤ 3 := by rw [← es79_120_3]; exact ir_120_3 hS.1.2.1
      obtain ⟨s79_120_4, es79_120_4⟩ : ∃ v, rd M79 120 4 = v := ⟨_, rfl⟩
      have bs79_120_4 : 0 ≤ s79_120_4 ∧ s79_120_4 ≤ 900 := by rw [← es79_120_4]; exact ir_120_4 hS.1.2.1
      obtain ⟨s79_120_5, es79_120_5⟩ : ∃ v, rd M79 120 5 = v := ⟨_, rfl⟩
      have bs79_120_5 : 0 ≤ s79_120_5 ∧ s79_120_5 ≤ 900 := by rw [← es79_120_5]; exact ir_120_5 hS.1.2.1
      obtain ⟨s79_120_7, es79_120_7⟩ : ∃ v, rd M79 120 7 = v := ⟨_, rfl⟩
      have bs79_120_7 : (-9223372036854775808) ≤ s79_120_7 ∧ s79_120_7 ≤ 9223372036854775807 := by rw [← es79_120_7]; exact ir_120_7 hS.1.2.1
      obtain ⟨s79_120_8, es79_120_8⟩ : ∃ v, rd M79 120 8 = v := ⟨_, rfl⟩
      have bs79_120_8 : 0 ≤ s79_120_8 ∧ s79_120_8 ≤ 5 := by rw [← es79_120_8]; exact ir_120_8 hS.1.2.1
      obtain ⟨s79_9010_0, es79_9010_0⟩ : ∃ v, tav M79 = v := ⟨_, rfl⟩
      have bs79_9010_0 : (-1) ≤ s79_9010_0 ∧ s79_9010_0 ≤ 1800 := by rw [← es79_9010_0]; exact (tav_b hS.1.2.1)
      rewrite [es79_120_3, es79_120_4, es79_120_5] at z79_0
      replace z79_0 := hd_i z79_0
      rewrite [es79_120_4, es79_120_5] at z79_1
      rewrite [es79_120_3, es79_120_4, es79_120_5, es79_120_7] at z79_2
      replace z79_2 := hd_i z79_2
      rewrite [es79_120_4, es79_120_5, es79_9010_0, kb79_120_4, kb79_120_5, kb79_9010_0] at z79_3
      rewrite [es79_120_8, kb79_120_8] at z79_4
      replace z79_4 := hd_i z79_4
      rewrite [es79_120_8, es79_9010_0, kb79_9010_0] at z79_5
      replace z79_5 := hd_i z79_5
      rewrite [es79_120_8] at z79_6
      replace z79_6 := hd_i z79_6
      refine Tr.sc [(0, r79), (0, (6 * g126_1 + 36)), (2, 131)] rfl ?_
      have kx_126_1 : rd M79 126 1 = g126_1 := ((St.kp h79 (by decide) (by decide) (by decide)).trans ((St.kp h63 (by decide) (by decide) (by decide)).trans ((Wr.b w58 rfl).trans ((St.kp h55 (by decide) (by decide) (by decide)).trans ((St.kp h20 (by decide) (by decide) (by decide)).trans k20_126_1)))))
      refine Tr.iastS (pc := 82) (P := St Pm1 ws_X12_part_120 as_X12_part_120 M0) d_X12_part_82 (ty_131 hS.1.1) (by omega) (by exact (hd_o t20_0).elim (fun h1 => (hd_o z20_6).elim (fun h2 => by omega) (fun h2 => by omega)) (fun h1 => (ne_o h1.2).elim (fun h2 => by omega) (fun h2 => by omega))) (sa_131 hS (by decide) (by and_intros <;> omega) (Pm1_rate hS.1.2.2.2.2 hS.1.2.1 (by omega) (by exact (hd_o t20_0).elim (fun h1 => (hd_o z20_6).elim (fun h2 => by omega) (fun h2 => by omega)) (fun h1 => (ne_o h1.2).elim (fun h2 => by omega) (fun h2 => by omega))))) (fun M82 hS w82 => ?_)
      refine Tr.aload_n (pc := 83) (i := 0) d_X12_part_83 rfl rfl ?_
      refine Tr.ldc2 (pc := 84) d_X12_part_84 kl_12_407 (by decide) ?_
      refine Tr.callV (pc := 87) (as := [_]) d_X12_part_87 s_12_512 ok_X12_must_ rfl rfl (Nat.le_of_ble_eq_true rfl) (Nat.le_of_ble_eq_true rfl) (by decide) (ty_120 hS.1.1) ?_
      have kb87_120_3 : rd M82 120 3 = s79_120_3 := ((Wr.b w82 rfl).trans es79_120_3)
      have kb87_120_4 : rd M82 120 4 = s79_120_4 := ((Wr.b w82 rfl).trans es79_120_4)
      have kb87_120_5 : rd M82 120 5 = s79_120_5 := ((Wr.b w82 rfl).trans es79_120_5)
      have kb87_120_7 : rd M82 120 7 = s79_120_7 := ((Wr.b w82 rfl).trans es79_120_7)
      have kb87_120_8 : rd M82 120 8 = s79_120_8 := ((Wr.b w82 rfl).trans es79_120_8)
      have kb87_9010_0 : tav M82 = s79_9010_0 := ((tav_of ((Wr.b w82 rfl).trans rfl) ((Wr.b w82 rfl).trans rfl)).trans es79_9010_0)
      refine Tr.imp (Tr.deep (by decide) (sp_X12_must__120_w1 hS.1 2002873189 (by omega) (by first | exact (hd_o z79_0) | exact (hd_o z79_0).elim (fun h1 => by omega) (fun h1 => by omega)) (by omega) (by first | exact (hd_o z79_2) | exact (hd_o z79_2).elim (fun h1 => by omega) (fun h1 => h1.elim (fun h1 => by omega) (fun h1 => by omega))))) ?_
      rintro M87 _ ⟨h87, rfl, z87_0, z87_1, z87_2, z87_3, z87_4, z87_5⟩
      have hS := St.tr hS h87 (by decide) (by decide)
      obtain ⟨s87_120_3, es87_120_3⟩ : ∃ v, rd M87 120 3 = v := ⟨_, rfl⟩
      have bs87_120_3 : 0 ≤ s87_120_3 ∧ s87_120_3 ≤ 3 := by rw [← es87_120_3]; exact ir_120_3 hS.1.2.1
      obtain ⟨s87_120_4, es87_120_4⟩ : ∃ v, rd M87 120 4 = v := ⟨_, rfl⟩
      have bs87_120_4 : 0 ≤ s87_120_4 ∧ s87_120_4 ≤ 900 := by rw [← es87_120_4]; exact ir_120_4 hS.1.2.1
      obtain ⟨s87_120_5, es87_120_5⟩ : ∃ v, rd M87 120 5 = v := ⟨_, rfl⟩
      have bs87_120_5 : 0 ≤ s87_120_5 ∧ s87_120_5 ≤ 900 := by rw [← es87_120_5]; exact ir_120_5 hS.1.2.1
      obtain ⟨s87_120_7, es87_120_7⟩ : ∃ v, rd M87 120 7 = v := ⟨_, rfl⟩
      have bs87_120_7 : (-9223372036854775808) ≤ s87_120_7 ∧ s87_120_7 ≤ 9223372036854775807 := by rw [← es87_120_7]; exact ir_120_7 hS.1.2.1
      obtain ⟨s87_120_8, es87_120_8⟩ : ∃ v, rd M87 120 8 = v := ⟨_, rfl⟩
      have bs87_120_8 : 0 ≤ s87_120_8 ∧ s87_120_8 ≤ 5 := by rw [← es87_120_8]; exact ir_120_8 hS.1.2.1
      obtain ⟨s87_9010_0, es87_9010_0⟩ : ∃ v, tav M87 = v := ⟨_, rfl⟩
      have bs87_9010_0 : (-1) ≤ s87_9010_0 ∧ s87_9010_0 ≤ 1800 := by rw [← es87_9010_0]; exact (tav_b hS.1.2.1)
      rewrite [es87_120_3, es87_120_4, es87_120_5] at z87_0
      replace z87_0 := hd_i z87_0
      rewrite [es87_120_4, es87_120_5] at z87_1
      rewrite [es87_120_3, es87_120_4, es87_120_5, es87_120_7] at z87_2
      replace z87_2 := hd_i z87_2
      rewrite [es87_120_4, es87_120_5, es87_9010_0, kb87_120_4, kb87_120_5, kb87_9010_0] at z87_3
      rewrite [es87_120_8, kb87_120_8] at z87_4
      replace z87_4 := hd_i z87_4
      rewrite [es87_120_8, es87_9010_0, kb87_9010_0] at z87_5
      replace z87_5 := hd_i z87_5
      refine Tr.sc [] rfl ?_
      refine Tr.aload_n (pc := 90) (i := 0) d_X12_part_90 rfl rfl ?_
      refine Tr.getf (pc := 91) d_X12_part_91 f_12_79 (by decide) (by decide) (ty_120 hS.1.1) ?_
      refine Tr.tp 131 (fx_120_22 hS.1.1) ?_
      refine Tr.bipush (pc := 94) d_X12_part_94 rfl (by decide) ?_
      refine Tr.iload_n (pc := 96) (i := 1) d_X12_part_96 rfl rfl ?_
      refine Tr.imul (pc := 97) d_X12_part_97 ?_
      refine Tr.tp (6 * g126_1 + 36) ((w32_id (by and_intros <;> omega)).trans (by omega)) ?_
      refine Tr.iconst (pc := 98) d_X12_part_98 (by decide) ?_
      refine Tr.iadd (pc := 99) d_X12_part_99 ?_
      refine Tr.tp (6 * g126_1 + 37) ((w32_id (by and_intros <;> omega)).trans (by omega)) ?_
      refine Tr.aload_n (pc := 100) (i := 0) d_X12_part_100 rfl rfl ?_
      refine Tr.iconst (pc := 101) d_X12_part_101 (by decide) ?_
      refine Tr.bipush (pc := 102) d_X12_part_102 rfl (by decide) ?_
      refine Tr.callV (pc := 104) (as := [_, _]) d_X12_part_104 s_12_516 ok_X12_number rfl rfl (Nat.le_of_ble_eq_true rfl) (Nat.le_of_ble_eq_true rfl) (by decide) (ty_120 hS.1.1) ?_
      have kb104_120_3 : rd M87 120 3 = s87_120_3 := es87_120_3
      have kb104_120_4 : rd M87 120 4 = s87_120_4 := es87_120_4
      have kb104_120_5 : rd M87 120 5 = s87_120_5 := es87_120_5
      have kb104_120_7 : rd M87 120 7 = s87_120_7 := es87_120_7
      have kb104_120_8 : rd M87 120 8 = s87_120_8 := es87_120_8
      have kb104_9010_0 : tav M87 = s87_9010_0 := es87_9010_0
      refine Tr.imp (Tr.deep (by decide) (sp_X12_number_120 hS.1 0 (by omega) 20 (by omega) (by first | exact (hd_o z87_0) | exact (hd_o z87_0).elim (fun h1 => by omega) (fun h1 => by omega)) (by omega) (by first | exact (hd_o z87_2) | exact (hd_o z87_2).elim (fun h1 => by omega) (fun h1 => h1.elim (fun h1 => by omega) (fun h1 => by omega))))) ?_
      rintro M104 _ ⟨h104, r104, rfl, lr104, ur104, z104_0, z104_1, z104_2, z104_3, z104_4, z104_5, z104_6⟩
      have hS := St.tr hS h104 (by decide) (by decide)
      obtain ⟨s104_120_3, es104_120_3⟩ : ∃ v, rd M104 120 3 = v := ⟨_, rfl⟩
      have bs104_120_3 : 0 ≤ s104_120_3 ∧ s104_120_3 ≤ 3 := by rw [← es104_120_3]; exact ir_120_3 hS.1.2.1
      obtain ⟨s104_120_4, es104_120_4⟩ : ∃ v, rd M104 120 4 = v := ⟨_, rfl⟩
      have bs104_120_4 : 0 ≤ s104_120_4 ∧ s104_120_4 ≤ 900 := by rw [← es104_120_4]; exact ir_120_4 hS.1.2.1
      obtain ⟨s104_120_5, es104_120_5⟩ : ∃ v, rd M104 120 5 = v := ⟨_, rfl⟩
      have bs104_120_5 : 0 ≤ s104_120_5 ∧ s104_120_5 ≤ 900 := by rw [← es104_120_5]; exact ir_120_5 hS.1.2.1
      obtain ⟨s104_120_7, es104_120_7⟩ : ∃ v, rd M104 120 7 = v := ⟨_, rfl⟩
      have bs104_120_7 : (-9223372036854775808) ≤ s104_120_7 ∧ s104_120_7 ≤ 9223372036854775807 := by rw [← es104_120_7]; exact ir_120_7 hS.1.2.1
      obtain ⟨s104_120_8, es104_120_8⟩ : ∃ v, rd M104 120 8 = v := ⟨_, rfl⟩
      have bs104_120_8 : 0 ≤ s104_120_8 ∧ s104_120_8 ≤ 5 := by rw [← es104_120_8]; exact ir_120_8 hS.1.2.1
      obtain ⟨s104_9010_0, es104_9010_0⟩ : ∃ v, tav M104 = v := ⟨_, rfl⟩
      have bs104_9010_0 : (-1) ≤ s104_9010_0 ∧ s104_9010_0 ≤ 1800 := by rw [← es104_9010_0]; exact (tav_b hS.1.2.1)
      rewrite [es104_120_3, es104_120_4, es104_120_5] at z104_0
      replace z104_0 := hd_i z104_0
      rewrite [es104_120_4, es104_120_5] at z104_1
      rewrite [es104_120_3, es104_120_4, es104_120_5, es104_120_7] at z104_2
      replace z104_2 := hd_i z104_2
      rewrite [es104_120_4, es104_120_5, es104_9010_0, kb104_120_4, kb104_120_5, kb104_9010_0] at z104_3
      rewrite [es104_120_8, kb104_120_8] at z104_4
      replace z104_4 := hd_i z104_4
      rewrite [es104_120_8, es104_9010_0, kb104_9010_0] at z104_5
      replace z104_5 := hd_i z104_5
      rewrite [es104_120_8] at z104_6
      replace z104_6 := hd_i z104_6
      refine Tr.sc [(0, r104), (0, (6 * g126_1 + 37)), (2, 131)] rfl ?_
      have kx_126_1 : rd M104 126 1 = g126_1 := ((St.kp h104 (by decide) (by decide) (by decide)).trans ((St.kp h87 (by decide) (by decide) (by decide)).trans ((Wr.b w82 rfl).trans ((St.kp h79 (by decide) (by decide) (by decide)).trans ((St.kp h63 (by decide) (by decide) (by decide)).trans ((Wr.b w58 rfl).trans ((St.kp h55 (by decide) (by decide) (by decide)).trans ((St.kp h20 (by decide) (by decide) (by decide)).trans k20_126_1))))))))
      refine Tr.iastS (pc := 107) (P := St Pm1 ws_X12_part_120 as_X12_part_120 M0) d_X12_part_107 (ty_131 hS.1.1) (by omega) (by exact (hd_o t20_0).elim (fun h1 => (hd_o z20_6).elim (fun h2 => by omega) (fun h2 => by omega)) (fun h1 => (ne_o h1.2).elim (fun h2 => by omega) (fun h2 => by omega))) (sa_131 hS (by decide) (by and_intros <;> omega) (Pm1_rate hS.1.2.2.2.2 hS.1.2.1 (by omega) (by exact (hd_o t20_0).elim (fun h1 => (hd_o z20_6).elim (fun h2 => by omega) (fun h2 => by omega)) (fun h1 => (ne_o h1.2).elim (fun h2 => by omega) (fun h2 => by omega))))) (fun M107 hS w107 => ?_)
      refine Tr.aload_n (pc := 108) (i := 0) d_X12_part_108 rfl rfl ?_
      refine Tr.getf (pc := 109) d_X12_part_109 f_12_79 (by decide) (by decide) (ty_120 hS.1.1) ?_
      refine Tr.tp 131 (fx_120_22 hS.1.1) ?_
      refine Tr.bipush (pc := 112) d_X12_part_112 rfl (by decide) ?_
      refine Tr.iload_n (pc := 114) (i := 1) d_X12_part_114 rfl rfl ?_
      refine Tr.imul (pc := 115) d_X12_part_115 ?_
      refine Tr.tp (6 * g126_1 + 36) ((w32_id (by and_intros <;> omega)).trans (by omega)) ?_
      refine Tr.iconst (pc := 116) d_X12_part_116 (by decide) ?_
      refine Tr.iadd (pc := 117) d_X12_part_117 ?_
      refine Tr.tp (6 * g126_1 + 38) ((w32_id (by and_intros <;> omega)).trans (by omega)) ?_
      refine Tr.aload_n (pc := 118) (i := 0) d_X12_part_118 rfl rfl ?_
      refine Tr.iconst (pc := 119) d_X12_part_119 (by decide) ?_
      refine Tr.sipush (pc := 120) d_X12_part_120 rfl (by decide) ?_
      refine Tr.callV (pc := 123) (as := [_, _]) d_X12_part_123 s_12_516 ok_X12_number rfl rfl (Nat.le_of_ble_eq_true rfl) (Nat.le_of_ble_eq_true rfl) (by decide) (ty_120 hS.1.1) ?_
      have kb123_120_3 : rd M107 120 3 = s104_120_3 := ((Wr.b w107 rfl).trans es104_120_3)
      have kb123_120_4 : rd M107 120 4 = s104_120_4 := ((Wr.b w107 rfl).trans es104_120_4)
      have kb123_120_5 : rd M107 120 5 = s104_120_5 := ((Wr.b w107 rfl).trans es104_120_5)
      have kb123_120_7 : rd M107 120 7 = s104_120_7 := ((Wr.b w107 rfl).trans es104_120_7)
      have kb123_120_8 : rd M107 120 8 = s104_120_8 := ((Wr.b w107 rfl).trans es104_120_8)
      have kb123_9010_0 : tav M107 = s104_9010_0 := ((tav_of ((Wr.b w107 rfl).trans rfl) ((Wr.b w107 rfl).trans rfl)).trans es104_9010_0)
      refine Tr.imp (Tr.deep (by decide) (sp_X12_number_120 hS.1 0 (by omega) 999 (by omega) (by first | exact (hd_o z104_0) | exact (hd_o z104_0).elim (fun h1 => by omega) (fun h1 => by omega)) (by omega) (by first | exact (hd_o z104_2) | exact (hd_o z104_2).elim (fun h1 => by omega) (fun h1 => h1.elim (fun h1 => by omega) (fun h1 => by omega))))) ?_
      rintro M123 _ ⟨h123, r123, rfl, lr123, ur123, z123_0, z123_1, z123_2, z123_3, z123_4, z123_5, z123_6⟩
      have hS := St.tr hS h123 (by decide) (by decide)
      obtain ⟨s123_120_3, es123_120_3⟩ : ∃ v, rd M123 120 3 = v := ⟨_, rfl⟩
      have bs123_120_3 : 0 ≤ s123_120_3 ∧ s123_120_3 ≤ 3 := by rw [← es123_120_3]; exact ir_120_3 hS.1.2.1
      obtain ⟨s123_120_4, es123_120_4⟩ : ∃ v, rd M123 120 4 = v := ⟨_, rfl⟩
      have bs123_120_4 : 0 ≤ s123_120_4 ∧ s123_120_4 ≤ 900 := by rw [← es123_120_4]; exact ir_120_4 hS.1.2.1
      obtain ⟨s123_120_5, es123_120_5⟩ : ∃ v, rd M123 120 5 = v := ⟨_, rfl⟩
      have bs123_120_5 : 0 ≤ s123_120_5 ∧ s123_120_5 ≤ 900 := by rw [← es123_120_5]; exact ir_120_5 hS.1.2.1
      obtain ⟨s123_120_7, es123_120_7⟩ : ∃ v, rd M123 120 7 = v := ⟨_, rfl⟩
      have bs123_120_7 : (-9223372036854775808) ≤ s123_120_7 ∧ s123_120_7 ≤ 9223372036854775807 := by rw [← es123_120_7]; exact ir_120_7 hS.1.2.1
      obtain ⟨s123_120_8, es123_120_8⟩ : ∃ v, rd M123 120 8 = v := ⟨_, rfl⟩
      have bs123_120_8 : 0 ≤ s123_120_8 ∧ s123_120_8 ≤ 5 := by rw [← es123_120_8]; exact ir_120_8 hS.1.2.1
      obtain ⟨s123_9010_0, es123_9010_0⟩ : ∃ v, tav M123 = v := ⟨_, rfl⟩
      have bs123_9010_0 : (-1) ≤ s123_9010_0 ∧ s123_9010_0 ≤ 1800 := by rw [← es123_9010_0]; exact (tav_b hS.1.2.1)
      rewrite [es123_120_3, es123_120_4, es123_120_5] at z123_0
      replace z123_0 := hd_i z123_0
      rewrite [es123_120_4, es123_120_5] at z123_1
      rewrite [es123_120_3, es123_120_4, es123_120_5, es123_120_7] at z123_2
      replace z123_2 := hd_i z123_2
      rewrite [es123_120_4, es123_120_5, es123_9010_0, kb123_120_4, kb123_120_5, kb123_9010_0] at z123_3
      rewrite [es123_120_8, kb123_120_8] at z123_4
      replace z123_4 := hd_i z123_4
      rewrite [es123_120_8, es123_9010_0, kb123_9010_0] at z123_5
      replace z123_5 := hd_i z123_5
      rewrite [es123_120_8] at z123_6
      replace z123_6 := hd_i z123_6
      refine Tr.sc [(0, r123), (0, (6 * g126_1 + 38)), (2, 131)] rfl ?_
      have kx_126_1 : rd M123 126 1 = g126_1 := ((St.kp h123 (by decide) (by decide) (by decide)).trans ((Wr.b w107 rfl).trans ((St.kp h104 (by decide) (by decide) (by decide)).trans ((St.kp h87 (by decide) (by decide) (by decide)).trans ((Wr.b w82 rfl).trans ((St.kp h79 (by decide) (by decide) (by decide)).trans ((St.kp h63 (by decide) (by decide) (by decide)).trans ((Wr.b w58 rfl).trans ((St.kp h55 (by decide) (by decide) (by decide)).trans ((St.kp h20 (by decide) (by decide) (by decide)).trans k20_126_1))))))))))
      refine Tr.iastS (pc := 126) (P := St Pm1 ws_X12_part_120 as_X12_part_120 M0) d_X12_part_126 (ty_131 hS.1.1) (by omega) (by exact (hd_o t20_0).elim (fun h1 => (hd_o z20_6).elim (fun h2 => by omega) (fun h2 => by omega)) (fun h1 => (ne_o h1.2).elim (fun h2 => by omega) (fun h2 => by omega))) (sa_131 hS (by decide) (by and_intros <;> omega) (Pm1_rate hS.1.2.2.2.2 hS.1.2.1 (by omega) (by exact (hd_o t20_0).elim (fun h1 => (hd_o z20_6).elim (fun h2 => by omega) (fun h2 => by omega)) (fun h1 => (ne_o h1.2).elim (fun h2 => by omega) (fun h2 => by omega))))) (fun M126 hS w126 => ?_)
      refine Tr.aload_n (pc := 127) (i := 0) d_X12_part_127 rfl rfl ?_
      refine Tr.ldc2 (pc := 128) d_X12_part_128 kl_12_409 (by decide) ?_
      refine Tr.callV (pc := 131) (as := [_]) d_X12_part_131 s_12_512 ok_X12_must_ rfl rfl (Nat.le_of_ble_eq_true rfl) (Nat.le_of_ble_eq_true rfl) (by decide) (ty_120 hS.1.1) ?_
      have kb131_120_3 : rd M126 120 3 = s123_120_3 := ((Wr.b w126 rfl).trans es123_120_3)
      have kb131_120_4 : rd M126 120 4 = s123_120_4 := ((Wr.b w126 rfl).trans es123_120_4)
      have kb131_120_5 : rd M126 120 5 = s123_120_5 := ((Wr.b w126 rfl).trans es123_120_5)
      have kb131_120_7 : rd M126 120 7 = s123_120_7 := ((Wr.b w126 rfl).trans es123_120_7)
      have kb131_120_8 : rd M126 120 8 = s123_120_8 := ((Wr.b w126 rfl).trans es123_120_8)
      have kb131_9010_0 : tav M126 = s123_9010_0 := ((tav_of ((Wr.b w126 rfl).trans rfl) ((Wr.b w126 rfl).trans rfl)).trans es123_9010_0)
      refine Tr.imp (Tr.deep (by decide) (sp_X12_must__120_w2 hS.1 28526 (by omega) (by first | exact (hd_o z123_0) | exact (hd_o z123_0).elim (fun h1 => by omega) (fun h1 => by omega)) (by omega) (by first | exact (hd_o z123_2) | exact (hd_o z123_2).elim (fun h1 => by omega) (fun h1 => h1.elim (fun h1 => by omega) (fun h1 => by omega))))) ?_
      rintro M131 _ ⟨h131, rfl, z131_0, z131_1, z131_2, z131_3, z131_4, z131_5⟩
      have hS := St.tr hS h131 (by decide) (by decide)
      obtain ⟨s131_120_3, es131_120_3⟩ : ∃ v, rd M131 120 3 = v := ⟨_, rfl⟩
      have bs131_120_3 : 0 ≤ s131_120_3 ∧ s131_120_3 ≤ 3 := by rw [← es131_120_3]; exact ir_120_3 hS.1.2.1
      obtain ⟨s131_120_4, es131_120_4⟩ : ∃ v, rd M131 120 4 = v := ⟨_, rfl⟩
      have bs131_120_4 : 0 ≤ s131_120_4 ∧ s131_120_4 ≤ 900 := by rw [← es131_120_4]; exact ir_120_4 hS.1.2.1
      obtain ⟨s131_120_5, es131_120_5⟩ : ∃ v, rd M131 120 5 = v := ⟨_, rfl⟩
      have bs131_120_5 : 0 ≤ s131_120_5 ∧ s131_120_5 ≤ 900 := by rw [← es131_120_5]; exact ir_120_5 hS.1.2.1
      obtain ⟨s131_120_7, es131_120_7⟩ : ∃ v, rd M131 120 7 = v := ⟨_, rfl⟩
      have bs131_120_7 : (-9223372036854775808) ≤ s131_120_7 ∧ s131_120_7 ≤ 9223372036854775807 := by rw [← es131_120_7]; exact ir_120_7 hS.1.2.1
      obtain ⟨s131_120_8, es131_120_8⟩ : ∃ v, rd M131 120 8 = v := ⟨_, rfl⟩
      have bs131_120_8 : 0 ≤ s131_120_8 ∧ s131_120_8 ≤ 5 := by rw [← es131_120_8]; exact ir_120_8 hS.1.2.1
      obtain ⟨s131_9010_0, es131_9010_0⟩ : ∃ v, tav M131 = v := ⟨_, rfl⟩
      have bs131_9010_0 : (-1) ≤ s131_9010_0 ∧ s131_9010_0 ≤ 1800 := by rw [← es131_9010_0]; exact (tav_b hS.1.2.1)
      rewrite [es131_120_3, es131_120_4, es131_120_5] at z131_0
      replace z131_0 := hd_i z131_0
      rewrite [es131_120_4, es131_120_5] at z131_1
      rewrite [es131_120_3, es131_120_4, es131_120_5, es131_120_7] at z131_2
      replace z131_2 := hd_i z131_2
      rewrite [es131_120_4, es131_120_5, es131_9010_0, kb131_120_4, kb131_120_5, kb131_9010_0] at z131_3
      rewrite [es131_120_8, kb131_120_8] at z131_4
      replace z131_4 := hd_i z131_4
      rewrite [es131_120_8, es131_9010_0, kb131_9010_0] at z131_5
      replace z131_5 := hd_i z131_5
      refine Tr.sc [] rfl ?_
      refine Tr.aload_n (pc := 134) (i := 0) d_X12_part_134 rfl rfl ?_
      refine Tr.getf (pc := 135) d_X12_part_135 f_12_79 (by decide) (by decide) (ty_120 hS.1.1) ?_
      refine Tr.tp 131 (fx_120_22 hS.1.1) ?_
      refine Tr.bipush (pc := 138) d_X12_part_138 rfl (by decide) ?_
      refine Tr.iload_n (pc := 140) (i := 1) d_X12_part_140 rfl rfl ?_
      refine Tr.imul (pc := 141) d_X12_part_141 ?_
      refine Tr.tp (6 * g126_1 + 36) ((w32_id (by and_intros <;> omega)).trans (by omega)) ?_
      refine Tr.iconst (pc := 142) d_X12_part_142 (by decide) ?_
      refine Tr.iadd (pc := 143) d_X12_part_143 ?_
      refine Tr.tp (6 * g126_1 + 39) ((w32_id (by and_intros <;> omega)).trans (by omega)) ?_
      refine Tr.aload_n (pc := 144) (i := 0) d_X12_part_144 rfl rfl ?_
      refine Tr.iconst (pc := 145) d_X12_part_145 (by decide) ?_
      refine Tr.sipush (pc := 146) d_X12_part_146 rfl (by decide) ?_
      refine Tr.callV (pc := 149) (as := [_, _]) d_X12_part_149 s_12_516 ok_X12_number rfl rfl (Nat.le_of_ble_eq_true rfl) (Nat.le_of_ble_eq_true rfl) (by decide) (ty_120 hS.1.1) ?_
      have kb149_120_3 : rd M131 120 3 = s131_120_3 := es131_120_3
      have kb149_120_4 : rd M131 120 4 = s131_120_4 := es131_120_4
      have kb149_120_5 : rd M131 120 5 = s131_120_5 := es131_120_5
      have kb149_120_7 : rd M131 120 7 = s131_120_7 := es131_120_7
      have kb149_120_8 : rd M131 120 8 = s131_120_8 := es131_120_8
      have kb149_9010_0 : tav M131 = s131_9010_0 := es131_9010_0
      refine Tr.imp (Tr.deep (by decide) (sp_X12_number_120 hS.1 0 (by omega) 999 (by omega) (by first | exact (hd_o z131_0) | exact (hd_o z131_0).elim (fun h1 => by omega) (fun h1 => by omega)) (by omega) (by first | exact (hd_o z131_2) | exact (hd_o z131_2).elim (fun h1 => by omega) (fun h1 => h1.elim (fun h1 => by omega) (fun h1 => by omega))))) ?_
      rintro M149 _ ⟨h149, r149, rfl, lr149, ur149, z149_0, z149_1, z149_2, z149_3, z149_4, z149_5, z149_6⟩
      have hS := St.tr hS h149 (by decide) (by decide)
      obtain ⟨s149_120_3, es149_120_3⟩ : ∃ v, rd M149 120 3 = v := ⟨_, rfl⟩
      have bs149_120_3 : 0 ≤ s149_120_3 ∧ s149_120_3 ≤ 3 := by rw [← es149_120_3]; exact ir_120_3 hS.1.2.1
      obtain ⟨s149_120_4, es149_120_4⟩ : ∃ v, rd M149 120 4 = v := ⟨_, rfl⟩
      have bs149_120_4 : 0 ≤ s149_120_4 ∧ s149_120_4 ≤ 900 := by rw [← es149_120_4]; exact ir_120_4 hS.1.2.1
      obtain ⟨s149_120_5, es149_120_5⟩ : ∃ v, rd M149 120 5 = v := ⟨_, rfl⟩
      have bs149_120_5 : 0 ≤ s149_120_5 ∧ s149_120_5 ≤ 900 := by rw [← es149_120_5]; exact ir_120_5 hS.1.2.1
      obtain ⟨s149_120_7, es149_120_7⟩ : ∃ v, rd M149 120 7 = v := ⟨_, rfl⟩
      have bs149_120_7 : (-9223372036854775808) ≤ s149_120_7 ∧ s149_120_7 ≤ 9223372036854775807 := by rw [← es149_120_7]; exact ir_120_7 hS.1.2.1
      obtain ⟨s149_120_8, es149_120_8⟩ : ∃ v, rd M149 120 8 = v := ⟨_, rfl⟩
      have bs149_120_8 : 0 ≤ s149_120_8 ∧ s149_120_8 ≤ 5 := by rw [← es149_120_8]; exact ir_120_8 hS.1.2.1
      obtain ⟨s149_9010_0, es149_9010_0⟩ : ∃ v, tav M149 = v := ⟨_, rfl⟩
      have bs149_9010_0 : (-1) ≤ s149_9010_0 ∧ s149_9010_0 ≤ 1800 := by rw [← es149_9010_0]; exact (tav_b hS.1.2.1)
      rewrite [es149_120_3, es149_120_4, es149_120_5] at z149_0
      replace z149_0 := hd_i z149_0
      rewrite [es149_120_4, es149_120_5] at z149_1
      rewrite [es149_120_3, es149_120_4, es149_120_5, es149_120_7] at z149_2
      replace z149_2 := hd_i z149_2
      rewrite [es149_120_4, es149_120_5, es149_9010_0, kb149_120_4, kb149_120_5, kb149_9010_0] at z149_3
      rewrite [es149_120_8, kb149_120_8] at z149_4
      replace z149_4 := hd_i z149_4
      rewrite [es149_120_8, es149_9010_0, kb149_9010_0] at z149_5
      replace z149_5 := hd_i z149_5
      rewrite [es149_120_8] at z149_6
      replace z149_6 := hd_i z149_6
      refine Tr.sc [(0, r149), (0, (6 * g126_1 + 39)), (2, 131)] rfl ?_
      have kx_126_1 : rd M149 126 1 = g126_1 := ((St.kp h149 (by decide) (by decide) (by decide)).trans ((St.kp h131 (by decide) (by decide) (by decide)).trans ((Wr.b w126 rfl).trans ((St.kp h123 (by decide) (by decide) (by decide)).trans ((Wr.b w107 rfl).trans ((St.kp h104 (by decide) (by decide) (by decide)).trans ((St.kp h87 (by decide) (by decide) (by decide)).trans ((Wr.b w82 rfl).trans ((St.kp h79 (by decide) (by decide) (by decide)).trans ((St.kp h63 (by decide) (by decide) (by decide)).trans ((Wr.b w58 rfl).trans ((St.kp h55 (by decide) (by decide) (by decide)).trans ((St.kp h20 (by decide) (by decide) (by decide)).trans k20_126_1)))))))))))))
      refine Tr.iastS (pc := 152) (P := St Pm1 ws_X12_part_120 as_X12_part_120 M0) d_X12_part_152 (ty_131 hS.1.1) (by omega) (by exact (hd_o t20_0).elim (fun h1 => (hd_o z20_6).elim (fun h2 => by omega) (fun h2 => by omega)) (fun h1 => (ne_o h1.2).elim (fun h2 => by omega) (fun h2 => by omega))) (sa_131 hS (by decide) (by and_intros <;> omega) (Pm1_rate hS.1.2.2.2.2 hS.1.2.1 (by omega) (by exact (hd_o t20_0).elim (fun h1 => (hd_o z20_6).elim (fun h2 => by omega) (fun h2 => by omega)) (fun h1 => (ne_o h1.2).elim (fun h2 => by omega) (fun h2 => by omega))))) (fun M152 hS w152 => ?_)
      refine Tr.aload_n (pc := 153) (i := 0) d_X12_part_153 rfl rfl ?_
      refine Tr.ldc2 (pc := 154) d_X12_part_154 kl_12_411 (by decide) ?_
      refine Tr.callV (pc := 157) (as := [_]) d_X12_part_157 s_12_512 ok_X12_must_ rfl rfl (Nat.le_of_ble_eq_true rfl) (Nat.le_of_ble_eq_true rfl) (by decide) (ty_120 hS.1.1) ?_
      have kb157_120_3 : rd M152 120 3 = s149_120_3 := ((Wr.b w152 rfl).trans es149_120_3)
      have kb157_120_4 : rd M152 120 4 = s149_120_4 := ((Wr.b w152 rfl).trans es149_120_4)
      have kb157_120_5 : rd M152 120 5 = s149_120_5 := ((Wr.b w152 rfl).trans es149_120_5)
      have kb157_120_7 : rd M152 120 7 = s149_120_7 := ((Wr.b w152 rfl).trans es149_120_7)
      have kb157_120_8 : rd M152 120 8 = s149_120_8 := ((Wr.b w152 rfl).trans es149_120_8)
      have kb157_9010_0 : tav M152 = s149_9010_0 := ((tav_of ((Wr.b w152 rfl).trans rfl) ((Wr.b w152 rfl).trans rfl)).trans es149_9010_0)
      refine Tr.imp (Tr.deep (by decide) (sp_X12_must__120_w1 hS.1 2003792491 (by omega) (by first | exact (hd_o z149_0) | exact (hd_o z149_0).elim (fun h1 => by omega) (fun h1 => by omega)) (by omega) (by first | exact (hd_o z149_2) | exact (hd_o z149_2).elim (fun h1 => by omega) (fun h1 => h1.elim (fun h1 => by omega) (fun h1 => by omega))))) ?_
      rintro M157 _ ⟨h157, rfl, z157_0, z157_1, z157_2, z157_3, z157_4, z157_5⟩
      have hS := St.tr hS h157 (by decide) (by decide)
      obtain ⟨s157_120_3, es157_120_3⟩ : ∃ v, rd M157 120 3 = v := ⟨_, rfl⟩
      have bs157_120_3 : 0 ≤ s157_120_3 ∧ s157_120_3 ≤ 3 := by rw [← es157_120_3]; exact ir_120_3 hS.1.2.1
      obtain ⟨s157_120_4, es157_120_4⟩ : ∃ v, rd M157 120 4 = v := ⟨_, rfl⟩
      have bs157_120_4 : 0 ≤ s157_120_4 ∧ s157_120_4 ≤ 900 := by rw [← es157_120_4]; exact ir_120_4 hS.1.2.1
      obtain ⟨s157_120_5, es157_120_5⟩ : ∃ v, rd M157 120 5 = v := ⟨_, rfl⟩
      have bs157_120_5 : 0 ≤ s157_120_5 ∧ s157_120_5 ≤ 900 := by rw [← es157_120_5]; exact ir_120_5 hS.1.2.1
      obtain ⟨s157_120_7, es157_120_7⟩ : ∃ v, rd M157 120 7 = v := ⟨_, rfl⟩
      have bs157_120_7 : (-9223372036854775808) ≤ s157_120_7 ∧ s157_120_7 ≤ 9223372036854775807 := by rw [← es157_120_7]; exact ir_120_7 hS.1.2.1
      obtain ⟨s157_120_8, es157_120_8⟩ : ∃ v, rd M157 120 8 = v := ⟨_, rfl⟩
      have bs157_120_8 : 0 ≤ s157_120_8 ∧ s157_120_8 ≤ 5 := by rw [← es157_120_8]; exact ir_120_8 hS.1.2.1
      obtain ⟨s157_9010_0, es157_9010_0⟩ : ∃ v, tav M157 = v := ⟨_, rfl⟩
      have bs157_9010_0 : (-1) ≤ s157_9010_0 ∧ s157_9010_0 ≤ 1800 := by rw [← es157_9010_0]; exact (tav_b hS.1.2.1)
      rewrite [es157_120_3, es157_120_4, es157_120_5] at z157_0
      replace z157_0 := hd_i z157_0
      rewrite [es157_120_4, es157_120_5] at z157_1
      rewrite [es157_120_3, es157_120_4, es157_120_5, es157_120_7] at z157_2
      replace z157_2 := hd_i z157_2
      rewrite [es157_120_4, es157_120_5, es157_9010_0, kb157_120_4, kb157_120_5, kb157_9010_0] at z157_3
      rewrite [es157_120_8, kb157_120_8] at z157_4
      replace z157_4 := hd_i z157_4
      rewrite [es157_120_8, es157_9010_0, kb157_9010_0] at z157_5
      replace z157_5 := hd_i z157_5
      refine Tr.sc [] rfl ?_
      refine Tr.aload_n (pc := 160) (i := 0) d_X12_part_160 rfl rfl ?_
      refine Tr.getf (pc := 161) d_X12_part_161 f_12_79 (by decide) (by decide) (ty_120 hS.1.1) ?_
      refine Tr.tp 131 (fx_120_22 hS.1.1) ?_
      refine Tr.bipush (pc := 164) d_X12_part_164 rfl (by decide) ?_
      refine Tr.iload_n (pc := 166) (i := 1) d_X12_part_166 rfl rfl ?_
      refine Tr.imul (pc := 167) d_X12_part_167 ?_
      refine Tr.tp (6 * g126_1 + 36) ((w32_id (by and_intros <;> omega)).trans (by omega)) ?_
      refine Tr.iconst (pc := 168) d_X12_part_168 (by decide) ?_
      refine Tr.iadd (pc := 169) d_X12_part_169 ?_
      refine Tr.tp (6 * g126_1 + 40) ((w32_id (by and_intros <;> omega)).trans (by omega)) ?_
      refine Tr.aload_n (pc := 170) (i := 0) d_X12_part_170 rfl rfl ?_
      refine Tr.iconst (pc := 171) d_X12_part_171 (by decide) ?_
      refine Tr.sipush (pc := 172) d_X12_part_172 rfl (by decide) ?_
      refine Tr.callV (pc := 175) (as := [_, _]) d_X12_part_175 s_12_516 ok_X12_number rfl rfl (Nat.le_of_ble_eq_true rfl) (Nat.le_of_ble_eq_true rfl) (by decide) (ty_120 hS.1.1) ?_
      have kb175_120_3 : rd M157 120 3 = s157_120_3 := es157_120_3
      have kb175_120_4 : rd M157 120 4 = s157_120_4 := es157_120_4
      have kb175_120_5 : rd M157 120 5 = s157_120_5 := es157_120_5
      have kb175_120_7 : rd M157 120 7 = s157_120_7 := es157_120_7
      have kb175_120_8 : rd M157 120 8 = s157_120_8 := es157_120_8
      have kb175_9010_0 : tav M157 = s157_9010_0 := es157_9010_0
      refine Tr.imp (Tr.deep (by decide) (sp_X12_number_120 hS.1 0 (by omega) 999 (by omega) (by first | exact (hd_o z157_0) | exact (hd_o z157_0).elim (fun h1 => by omega) (fun h1 => by omega)) (by omega) (by first | exact (hd_o z157_2) | exact (hd_o z157_2).elim (fun h1 => by omega) (fun h1 => h1.elim (fun h1 => by omega) (fun h1 => by omega))))) ?_
      rintro M175 _ ⟨h175, r175, rfl, lr175, ur175, z175_0, z175_1, z175_2, z175_3, z175_4, z175_5, z175_6⟩
      have hS := St.tr hS h175 (by decide) (by decide)
      obtain ⟨s175_120_3, es175_120_3⟩ : ∃ v, rd M175 120 3 = v := ⟨_, rfl⟩
      have bs175_120_3 : 0 ≤ s175_120_3 ∧ s175_120_3 ≤ 3 := by rw [← es175_120_3]; exact ir_120_3 hS.1.2.1
      obtain ⟨s175_120_4, es175_120_4⟩ : ∃ v, rd M175 120 4 = v := ⟨_, rfl⟩
      have bs175_120_4 : 0 ≤ s175_120_4 ∧ s175_120_4 ≤ 900 := by rw [← es175_120_4]; exact ir_120_4 hS.1.2.1
      obtain ⟨s175_120_5, es175_120_5⟩ : ∃ v, rd M175 120 5 = v := ⟨_, rfl⟩
      have bs175_120_5 : 0 ≤ s175_120_5 ∧ s175_120_5 ≤ 900 := by rw [← es175_120_5]; exact ir_120_5 hS.1.2.1
      obtain ⟨s175_120_7, es175_120_7⟩ : ∃ v, rd M175 120 7 = v := ⟨_, rfl⟩
      have bs175_120_7 : (-9223372036854775808) ≤ s175_120_7 ∧ s175_120_7 ≤ 9223372036854775807 := by rw [← es175_120_7]; exact ir_120_7 hS.1.2.1
      obtain ⟨s175_120_8, es175_120_8⟩ : ∃ v, rd M175 120 8 = v := ⟨_, rfl⟩
      have bs175_120_8 : 0 ≤ s175_120_8 ∧ s175_120_8 ≤ 5 := by rw [← es175_120_8]; exact ir_120_8 hS.1.2.1
      obtain ⟨s175_9010_0, es175_9010_0⟩ : ∃ v, tav M175 = v := ⟨_, rfl⟩
      have bs175_9010_0 : (-1) ≤ s175_9010_0 ∧ s175_9010_0 ≤ 1800 := by rw [← es175_9010_0]; exact (tav_b hS.1.2.1)
      rewrite [es175_120_3, es175_120_4, es175_120_5] at z175_0
      replace z175_0 := hd_i z175_0
      rewrite [es175_120_4, es175_120_5] at z175_1
      rewrite [es175_120_3, es175_120_4, es175_120_5, es175_120_7] at z175_2
      replace z175_2 := hd_i z175_2
      rewrite [es175_120_4, es175_120_5, es175_9010_0, kb175_120_4, kb175_120_5, kb175_9010_0] at z175_3
      rewrite [es175_120_8, kb175_120_8] at z175_4
      replace z175_4 := hd_i z175_4
      rewrite [es175_120_8, es175_9010_0, kb175_9010_0] at z175_5
      replace z175_5 := hd_i z175_5
      rewrite [es175_120_8] at z175_6
      replace z175_6 := hd_i z175_6
      refine Tr.sc [(0, r175), (0, (6 * g126_1 + 40)), (2, 131)] rfl ?_
      have kx_126_1 : rd M175 126 1 = g126_1 := ((St.kp h175 (by decide) (by decide) (by decide)).trans ((St.kp h157 (by decide) (by decide) (by decide)).trans ((Wr.b w152 rfl).trans ((St.kp h149 (by decide) (by decide) (by decide)).trans ((St.kp h131 (by decide) (by decide) (by decide)).trans ((Wr.b w126 rfl).trans ((St.kp h123 (by decide) (by decide) (by decide)).trans ((Wr.b w107 rfl).trans ((St.kp h104 (by decide) (by decide) (by decide)).trans ((St.kp h87 (by decide) (by decide) (by decide)).trans ((Wr.b w82 rfl).trans ((St.kp h79 (by decide) (by decide) (by decide)).trans ((St.kp h63 (by decide) (by decide) (by decide)).trans ((Wr.b w58 rfl).trans ((St.kp h55 (by decide) (by decide) (by decide)).trans ((St.kp h20 (by decide) (by decide) (by decide)).trans k20_126_1))))))))))))))))
      refine Tr.iastS (pc := 178) (P := St Pm1 ws_X12_part_120 as_X12_part_120 M0) d_X12_part_178 (ty_131 hS.1.1) (by omega) (by exact (hd_o t20_0).elim (fun h1 => (hd_o z20_6).elim (fun h2 => by omega) (fun h2 => by omega)) (fun h1 => (ne_o h1.2).elim (fun h2 => by omega) (fun h2 => by omega))) (sa_131 hS (by decide) (by and_intros <;> omega) (Pm1_rate hS.1.2.2.2.2 hS.1.2.1 (by omega) (by exact (hd_o t20_0).elim (fun h1 => (hd_o z20_6).elim (fun h2 => by omega) (fun h2 => by omega)) (fun h1 => (ne_o h1.2).elim (fun h2 => by omega) (fun h2 => by omega))))) (fun M178 hS w178 => ?_)
      refine Tr.aload_n (pc := 179) (i := 0) d_X12_part_179 rfl rfl ?_
      refine Tr.ldc2 (pc := 180) d_X12_part_180 kl_12_413 (by decide) ?_
      refine Tr.callV (pc := 183) (as := [_]) d_X12_part_183 s_12_512 ok_X12_must_ rfl rfl (Nat.le_of_ble_eq_true rfl) (Nat.le_of_ble_eq_true rfl) (by decide) (ty_120 hS.1.1) ?_
      have kb183_120_3 : rd M178 120 3 = s175_120_3 := ((Wr.b w178 rfl).trans es175_120_3)
      have kb183_120_4 : rd M178 120 4 = s175_120_4 := ((Wr.b w178 rfl).trans es175_120_4)
      have kb183_120_5 : rd M178 120 5 = s175_120_5 := ((Wr.b w178 rfl).trans es175_120_5)
      have kb183_120_7 : rd M178 120 7 = s175_120_7 := ((Wr.b w178 rfl).trans es175_120_7)
      have kb183_120_8 : rd M178 120 8 = s175_120_8 := ((Wr.b w178 rfl).trans es175_120_8)
      have kb183_9010_0 : tav M178 = s175_9010_0 := ((tav_of ((Wr.b w178 rfl).trans rfl) ((Wr.b w178 rfl).trans rfl)).trans es175_9010_0)
      refine Tr.imp (Tr.deep (by decide) (sp_X12_must__120_w1 hS.1 1952541036 (by omega) (by first | exact (hd_o z175_0) | exact (hd_o z175_0).elim (fun h1 => by omega) (fun h1 => by omega)) (by omega) (by first | exact (hd_o z175_2) | exact (hd_o z175_2).elim (fun h1 => by omega) (fun h1 => h1.elim (fun h1 => by omega) (fun h1 => by omega))))) ?_
      rintro M183 _ ⟨h183, rfl, z183_0, z183_1, z183_2, z183_3, z183_4, z183_5⟩
      have hS := St.tr hS h183 (by decide) (by decide)
      obtain ⟨s183_120_3, es183_120_3⟩ : ∃ v, rd M183 120 3 = v := ⟨_, rfl⟩
      have bs183_120_3 : 0 ≤ s183_120_3 ∧ s183_120_3 ≤ 3 := by rw [← es183_120_3]; exact ir_120_3 hS.1.2.1
      obtain ⟨s183_120_4, es183_120_4⟩ : ∃ v, rd M183 120 4 = v := ⟨_, rfl⟩
      have bs183_120_4 : 0 ≤ s183_120_4 ∧ s183_120_4 ≤ 900 := by rw [← es183_120_4]; exact ir_120_4 hS.1.2.1
      obtain ⟨s183_120_5, es183_120_5⟩ : ∃ v, rd M183 120 5 = v := ⟨_, rfl⟩
      have bs183_120_5 : 0 ≤ s183_120_5 ∧ s183_120_5 ≤ 900 := by rw [← es183_120_5]; exact ir_120_5 hS.1.2.1
      obtain ⟨s183_120_7, es183_120_7⟩ : ∃ v, rd M183 120 7 = v := ⟨_, rfl⟩
      have bs183_120_7 : (-9223372036854775808) ≤ s183_120_7 ∧ s183_120_7 ≤ 9223372036854775807 := by rw [← es183_120_7]; exact ir_120_7 hS.1.2.1
      obtain ⟨s183_120_8, es183_120_8⟩ : ∃ v, rd M183 120 8 = v := ⟨_, rfl⟩
      have bs183_120_8 : 0 ≤ s183_120_8 ∧ s183_120_8 ≤ 5 := by rw [← es183_120_8]; exact ir_120_8 hS.1.2.1
      obtain ⟨s183_9010_0, es183_9010_0⟩ : ∃ v, tav M183 = v := ⟨_, rfl⟩
      have bs183_9010_0 : (-1) ≤ s183_9010_0 ∧ s183_9010_0 ≤ 1800 := by rw [← es183_9010_0]; exact (tav_b hS.1.2.1)
      rewrite [es183_120_3, es183_120_4, es183_120_5] at z183_0
      replace z183_0 := hd_i z183_0
      rewrite [es183_120_4, es183_120_5] at z183_1
      rewrite [es183_120_3, es183_120_4, es183_120_5, es183_120_7] at z183_2
      replace z183_2 := hd_i z183_2
      rewrite [es183_120_4, es183_120_5, es183_9010_0, kb183_120_4, kb183_120_5, kb183_9010_0] at z183_3
      rewrite [es183_120_8, kb183_120_8] at z183_4
      replace z183_4 := hd_i z183_4
      rewrite [es183_120_8, es183_9010_0, kb183_9010_0] at z183_5
      replace z183_5 := hd_i z183_5
      refine Tr.sc [] rfl ?_
      refine Tr.aload_n (pc := 186) (i := 0) d_X12_part_186 rfl rfl ?_
      refine Tr.getf (pc := 187) d_X12_part_187 f_12_79 (by decide) (by decide) (ty_120 hS.1.1) ?_
      refine Tr.tp 131 (fx_120_22 hS.1.1) ?_
      refine Tr.bipush (pc := 190) d_X12_part_190 rfl (by decide) ?_
      refine Tr.iload_n (pc := 192) (i := 1) d_X12_part_192 rfl rfl ?_
      refine Tr.imul (pc := 193) d_X12_part_193 ?_
      refine Tr.tp (6 * g126_1 + 36) ((w32_id (by and_intros <;> omega)).trans (by omega)) ?_
      refine Tr.iconst (pc := 194) d_X12_part_194 (by decide) ?_
      refine Tr.iadd (pc := 195) d_X12_part_195 ?_
      refine Tr.tp (6 * g126_1 + 41) ((w32_id (by and_intros <;> omega)).trans (by omega)) ?_
      refine Tr.aload_n (pc := 196) (i := 0) d_X12_part_196 rfl rfl ?_
      refine Tr.iconst (pc := 197) d_X12_part_197 (by decide) ?_
      refine Tr.bipush (pc := 198) d_X12_part_198 rfl (by decide) ?_
      refine Tr.callV (pc := 200) (as := [_, _]) d_X12_part_200 s_12_516 ok_X12_number rfl rfl (Nat.le_of_ble_eq_true rfl) (Nat.le_of_ble_eq_true rfl) (by decide) (ty_120 hS.1.1) ?_
      have kb200_120_3 : rd M183 120 3 = s183_120_3 := es183_120_3
      have kb200_120_4 : rd M183 120 4 = s183_120_4 := es183_120_4
      have kb200_120_5 : rd M183 120 5 = s183_120_5 := es183_120_5
      have kb200_120_7 : rd M183 120 7 = s183_120_7 := es183_120_7
      have kb200_120_8 : rd M183 120 8 = s183_120_8 := es183_120_8
      have kb200_9010_0 : tav M183 = s183_9010_0 := es183_9010_0
      refine Tr.imp (Tr.deep (by decide) (sp_X12_number_120 hS.1 0 (by omega) 50 (by omega) (by first | exact (hd_o z183_0) | exact (hd_o z183_0).elim (fun h1 => by omega) (fun h1 => by omega)) (by omega) (by first | exact (hd_o z183_2) | exact (hd_o z183_2).elim (fun h1 => by omega) (fun h1 => h1.elim (fun h1 => by omega) (fun h1 => by omega))))) ?_
      rintro M200 _ ⟨h200, r200, rfl, lr200, ur200, z200_0, z200_1, z200_2, z200_3, z200_4, z200_5, z200_6⟩
      have hS := St.tr hS h200 (by decide) (by decide)
      obtain ⟨s200_120_3, es200_120_3⟩ : ∃ v, rd M200 120 3 = v := ⟨_, rfl⟩
      have bs200_120_3 : 0 ≤ s200_120_3 ∧ s200_120_3 ≤ 3 := by rw [← es200_120_3]; exact ir_120_3 hS.1.2.1
      obtain ⟨s200_120_4, es200_120_4⟩ : ∃ v, rd M200 120 4 = v := ⟨_, rfl⟩
      have bs200_120_4 : 0 ≤ s200_120_4 ∧ s200_120_4 ≤ 900 := by rw [← es200_120_4]; exact ir_120_4 hS.1.2.1
      obtain ⟨s200_120_5, es200_120_5⟩ : ∃ v, rd M200 120 5 = v := ⟨_, rfl⟩
      have bs200_120_5 : 0 ≤ s200_120_5 ∧ s200_120_5 ≤ 900 := by rw [← es200_120_5]; exact ir_120_5 hS.1.2.1
      obtain ⟨s200_120_7, es200_120_7⟩ : ∃ v, rd M200 120 7 = v := ⟨_, rfl⟩
      have bs200_120_7 : (-9223372036854775808) ≤ s200_120_7 ∧ s200_120_7 ≤ 9223372036854775807 := by rw [← es200_120_7]; exact ir_120_7 hS.1.2.1
      obtain ⟨s200_120_8, es200_120_8⟩ : ∃ v, rd M200 120 8 = v := ⟨_, rfl⟩
      have bs200_120_8 : 0 ≤ s200_120_8 ∧ s200_120_8 ≤ 5 := by rw [← es200_120_8]; exact ir_120_8 hS.1.2.1
      obtain ⟨s200_9010_0, es200_9010_0⟩ : ∃ v, tav M200 = v := ⟨_, rfl⟩
      have bs200_9010_0 : (-1) ≤ s200_9010_0 ∧ s200_9010_0 ≤ 1800 := by rw [← es200_9010_0]; exact (tav_b hS.1.2.1)
      rewrite [es200_120_3, es200_120_4, es200_120_5] at z200_0
      replace z200_0 := hd_i z200_0
      rewrite [es200_120_4, es200_120_5] at z200_1
      rewrite [es200_120_3, es200_120_4, es200_120_5, es200_120_7] at z200_2
      replace z200_2 := hd_i z200_2
      rewrite [es200_120_4, es200_120_5, es200_9010_0, kb200_120_4, kb200_120_5, kb200_9010_0] at z200_3
      rewrite [es200_120_8, kb200_120_8] at z200_4
      replace z200_4 := hd_i z200_4
      rewrite [es200_120_8, es200_9010_0, kb200_9010_0] at z200_5
      replace z200_5 := hd_i z200_5
      rewrite [es200_120_8] at z200_6
      replace z200_6 := hd_i z200_6
      refine Tr.sc [(0, r200), (0, (6 * g126_1 + 41)), (2, 131)] rfl ?_
      have kx_126_1 : rd M200 126 1 = g126_1 := ((St.kp h200 (by decide) (by decide) (by decide)).trans ((St.kp h183 (by decide) (by decide) (by decide)).trans ((Wr.b w178 rfl).trans ((St.kp h175 (by decide) (by decide) (by decide)).trans ((St.kp h157 (by decide) (by decide) (by decide)).trans ((Wr.b w152 rfl).trans ((St.kp h149 (by decide) (by decide) (by decide)).trans ((St.kp h131 (by decide) (by decide) (by decide)).trans ((Wr.b w126 rfl).trans ((St.kp h123 (by decide) (by decide) (by decide)).trans ((Wr.b w107 rfl).trans ((St.kp h104 (by decide) (by decide) (by decide)).trans ((St.kp h87 (by decide) (by decide) (by decide)).trans ((Wr.b w82 rfl).trans ((St.kp h79 (by decide) (by decide) (by decide)).trans ((St.kp h63 (by decide) (by decide) (by decide)).trans ((Wr.b w58 rfl).trans ((St.kp h55 (by decide) (by decide) (by decide)).trans ((St.kp h20 (by decide) (by decide) (by decide)).trans k20_126_1)))))))))))))))))))
      refine Tr.iastS (pc := 203) (P := St Pm1 ws_X12_part_120 as_X12_part_120 M0) d_X12_part_203 (ty_131 hS.1.1) (by omega) (by exact (hd_o t20_0).elim (fun h1 => (hd_o z20_6).elim (fun h2 => by omega) (fun h2 => by omega)) (fun h1 => (ne_o h1.2).elim (fun h2 => by omega) (fun h2 => by omega))) (sa_131 hS (by decide) (by and_intros <;> omega) (Pm1_rate hS.1.2.2.2.2 hS.1.2.1 (by omega) (by exact (hd_o t20_0).elim (fun h1 => (hd_o z20_6).elim (fun h2 => by omega) (fun h2 => by omega)) (fun h1 => (ne_o h1.2).elim (fun h2 => by omega) (fun h2 => by omega))))) (fun M203 hS w203 => ?_)
      refine Tr.aload_n (pc := 204) (i := 0) d_X12_part_204 rfl rfl ?_
      refine Tr.getf (pc := 205) d_X12_part_205 f_12_36 (by decide) (by decide) (ty_120 hS.1.1) ?_
      refine Tr.tp s200_120_8 ((Wr.b w203 rfl).trans es200_120_8) ?_
      refine Tr.if_ne (pc := 208) (tgt := 224) d_X12_part_208 rfl (fun c208 => ?_) (fun c208 => ?_)
      · have c208b : 1 ≤ s200_120_8 ∧ s200_120_8 ≤ 5 := by omega
        replace c208 := hd_i c208
        have kr_120_3 : rd M203 120 3 = s200_120_3 := ((Wr.b w203 rfl).trans es200_120_3)
        have kr_120_4 : rd M203 120 4 = s200_120_4 := ((Wr.b w203 rfl).trans es200_120_4)
        have kr_120_5 : rd M203 120 5 = s200_120_5 := ((Wr.b w203 rfl).trans es200_120_5)
        have kr_120_7 : rd M203 120 7 = s200_120_7 := ((Wr.b w203 rfl).trans es200_120_7)
        have kr_120_8 : rd M203 120 8 = s200_120_8 := ((Wr.b w203 rfl).trans es200_120_8)
        have kr_9010_0 : tav M203 = s200_9010_0 := ((tav_of ((Wr.b w203 rfl).trans rfl) ((Wr.b w203 rfl).trans rfl)).trans es200_9010_0)
        exact Tr.vret (pc := 224) d_X12_part_224 rfl ⟨hS, rfl, (by first | exact (hd_o z200_0) | exact (hd_o z200_0).elim (fun h1 => by omega) (fun h1 => by omega)), (by omega), (by first | exact (hd_o z200_2) | exact (hd_o z200_2).elim (fun h1 => by omega) (fun h1 => h1.elim (fun h1 => by omega) (fun h1 => by omega))), (by and_intros <;> omega), (by omega), (by omega)⟩
      · refine Tr.aload_n (pc := 211) (i := 0) d_X12_part_211 rfl rfl ?_
        refine Tr.getf (pc := 212) d_X12_part_212 f_12_63 (by decide) (by decide) (ty_120 hS.1.1) ?_
        refine Tr.tp 126 (fx_120_17 hS.1.1) ?_
        refine Tr.aload_n (pc := 215) (i := 0) d_X12_part_215 rfl rfl ?_
        refine Tr.getf (pc := 216) d_X12_part_216 f_12_124 (by decide) (by decide) (ty_120 hS.1.1) ?_
        refine Tr.tp 1 ((St.kp hS (by decide) (by decide) (by decide)).trans en_120_37) ?_
        refine Tr.dup2 (pc := 219) d_X12_part_219 ne01 ne21 ?_
        refine Tr.iald (pc := 220) d_X12_part_220 (ty_126 hS.1.1) (by omega) (by omega) ?_
        refine Tr.tp g126_1 ((Wr.b w203 rfl).trans ((St.kp h200 (by decide) (by decide) (by decide)).trans ((St.kp h183 (by decide) (by decide) (by decide)).trans ((Wr.b w178 rfl).trans ((St.kp h175 (by decide) (by decide) (by decide)).trans ((St.kp h157 (by decide) (by decide) (by decide)).trans ((Wr.b w152 rfl).trans ((St.kp h149 (by decide) (by decide) (by decide)).trans ((St.kp h131 (by decide) (by decide) (by decide)).trans ((Wr.b w126 rfl).trans ((St.kp h123 (by decide) (by decide) (by decide)).trans ((Wr.b w107 rfl).trans ((St.kp h104 (by decide) (by decide) (by decide)).trans ((St.kp h87 (by decide) (by decide) (by decide)).trans ((Wr.b w82 rfl).trans ((St.kp h79 (by decide) (by decide) (by decide)).trans ((St.kp h63 (by decide) (by decide) (by decide)).trans ((Wr.b w58 rfl).trans ((St.kp h55 (by decide) (by decide) (by decide)).trans ((St.kp h20 (by decide) (by decide) (by decide)).trans k20_126_1)))))))))))))))))))) ?_
        refine Tr.iconst (pc := 221) d_X12_part_221 (by decide) ?_
        refine Tr.iadd (pc := 222) d_X12_part_222 ?_
        refine Tr.tp (g126_1 + 1) ((w32_id (by and_intros <;> omega)).trans (by omega)) ?_
        have hr5 : rd M203 131 (6 * g126_1 + 41) = r200 := w203.1
        have kx_126_1 : rd M203 126 1 = g126_1 := ((Wr.b w203 rfl).trans ((St.kp h200 (by decide) (by decide) (by decide)).trans ((St.kp h183 (by decide) (by decide) (by decide)).trans ((Wr.b w178 rfl).trans ((St.kp h175 (by decide) (by decide) (by decide)).trans ((St.kp h157 (by decide) (by decide) (by decide)).trans ((Wr.b w152 rfl).trans ((St.kp h149 (by decide) (by decide) (by decide)).trans ((St.kp h131 (by decide) (by decide) (by decide)).trans ((Wr.b w126 rfl).trans ((St.kp h123 (by decide) (by decide) (by decide)).trans ((Wr.b w107 rfl).trans ((St.kp h104 (by decide) (by decide) (by decide)).trans ((St.kp h87 (by decide) (by decide) (by decide)).trans ((Wr.b w82 rfl).trans ((St.kp h79 (by decide) (by decide) (by decide)).trans ((St.kp h63 (by decide) (by decide) (by decide)).trans ((Wr.b w58 rfl).trans ((St.kp h55 (by decide) (by decide) (by decide)).trans ((St.kp h20 (by decide) (by decide) (by decide)).trans k20_126_1))))))))))))))))))))
        refine Tr.iastS (pc := 223) (P := St Pm1 ws_X12_part_120 as_X12_part_120 M0) d_X12_part_223 (ty_126 hS.1.1) (by omega) (by omega) (st_126_1 hS (by decide) (by exact (hd_o t20_0).elim (fun h1 => (hd_o z20_6).elim (fun h2 => by omega) (fun h2 => by omega)) (fun h1 => (ne_o h1.2).elim (fun h2 => by omega) (fun h2 => by omega))) (Pm1_parts hS.1.2.2.2.2 (by omega) (by have e9 : rd M203 126 1 = g126_1 := ((Wr.b w203 rfl).trans ((St.kp h200 (by decide) (by decide) (by decide)).trans ((St.kp h183 (by decide) (by decide) (by decide)).trans ((Wr.b w178 rfl).trans ((St.kp h175 (by decide) (by decide) (by decide)).trans ((St.kp h157 (by decide) (by decide) (by decide)).trans ((Wr.b w152 rfl).trans ((St.kp h149 (by decide) (by decide) (by decide)).trans ((St.kp h131 (by decide) (by decide) (by decide)).trans ((Wr.b w126 rfl).trans ((St.kp h123 (by decide) (by decide) (by decide)).trans ((Wr.b w107 rfl).trans ((St.kp h104 (by decide) (by decide) (by decide)).trans ((St.kp h87 (by decide) (by decide) (by decide)).trans ((Wr.b w82 rfl).trans ((St.kp h79 (by decide) (by decide) (by decide)).trans ((St.kp h63 (by decide) (by decide) (by decide)).trans ((Wr.b w58 rfl).trans ((St.kp h55 (by decide) (by decide) (by decide)).trans ((St.kp h20 (by decide) (by decide) (by decide)).trans k20_126_1)))))))))))))))))))); rw [e9]; have e8 : rd M203 131 (36 + 6 * g126_1 + 5) = rd M203 131 (6 * g126_1 + 41) := congrArg _ (by omega); have e7 : r200 ≤ 50 := (by exact (hd_o z200_6).elim (fun h1 => by omega) (fun h1 => by omega)); omega))) (fun M223 hS w223 => ?_)
        have kr_120_3 : rd M223 120 3 = s200_120_3 := ((Wr.b w223 rfl).trans ((Wr.b w203 rfl).trans es200_120_3))
        have kr_120_4 : rd M223 120 4 = s200_120_4 := ((Wr.b w223 rfl).trans ((Wr.b w203 rfl).trans es200_120_4))
        have kr_120_5 : rd M223 120 5 = s200_120_5 := ((Wr.b w223 rfl).trans ((Wr.b w203 rfl).trans es200_120_5))
        have kr_120_7 : rd M223 120 7 = s200_120_7 := ((Wr.b w223 rfl).trans ((Wr.b w203 rfl).trans es200_120_7))
        have kr_120_8 : rd M223 120 8 = s200_120_8 := ((Wr.b w223 rfl).trans ((Wr.b w203 rfl).trans es200_120_8))
        have kr_9010_0 : tav M223 = s200_9010_0 := ((tav_of ((Wr.b w223 rfl).trans ((Wr.b w203 rfl).trans rfl)) ((Wr.b w223 rfl).trans ((Wr.b w203 rfl).trans rfl))).trans es200_9010_0)
        exact Tr.vret (pc := 224) d_X12_part_224 rfl ⟨hS, rfl, (by first | exact (hd_o z200_0) | exact (hd_o z200_0).elim (fun h1 => by omega) (fun h1 => by omega)), (by omega), (by first | exact (hd_o z200_2) | exact (hd_o z200_2).elim (fun h1 => by omega) (fun h1 => h1.elim (fun h1 => by omega) (fun h1 => by omega))), (by and_intros <;> omega), (by omega), (by exact (hd_o z200_5).elim (fun h1 => by omega) (fun h1 => by omega))⟩
    · have kr_120_3 : rd M20 120 3 = s20_120_3 := es20_120_3
      have kr_120_4 : rd M20 120 4 = s20_120_4 := es20_120_4
      have kr_120_5 : rd M20 120 5 = s20_120_5 := es20_120_5
      have kr_120_7 : rd M20 120 7 = s20_120_7 := es20_120_7
      have kr_120_8 : rd M20 120 8 = s20_120_8 := es20_120_8
      have kr_9010_0 : tav M20 = s20_9010_0 := es20_9010_0
      exact Tr.vret (pc := 30) d_X12_part_30 rfl ⟨hS, rfl, (by first | exact (hd_o z20_0) | exact (hd_o z20_0).elim (fun h1 => by omega) (fun h1 => by omega)), (by omega), (by first | exact (hd_o z20_2) | exact (hd_o z20_2).elim (fun h1 => by omega) (fun h1 => h1.elim (fun h1 => by omega) (fun h1 => by omega))), (by and_intros <;> omega), (by first | exact (hd_o z20_4) | exact (hd_o z20_4).elim (fun h1 => by omega) (fun h1 => by omega)), (by first | exact (hd_o z20_5) | exact (hd_o z20_5).elim (fun h1 => by omega) (fun h1 => by omega))⟩
  refine Tr.icmp_ne (pc := 12) (tgt := 19) d_X12_part_12 rfl (fun c12 => ?_) (fun c12 => ?_)
  · have c12b : 0 ≤ g126_1 ∧ g126_1 ≤ 5 := by omega
    replace c12 := hd_i c12
    refine Tr.iconst (pc := 19) d_X12_part_19 (by decide) ?_
    refine Tr.pick [0] (ls2 := [(0, (2, 120))]) rfl ?_
    exact J20 _ _ hS (by omega) eg120_3 eg120_4 eg120_5 eg120_7 eg120_8 eg126_1 eg9010_0 (by omega)
  · refine Tr.iconst (pc := 15) d_X12_part_15 (by decide) ?_
    refine Tr.goto (pc := 16) (tgt := 20) d_X12_part_16 rfl ?_
    refine Tr.pick [0] (ls2 := [(0, (2, 120))]) rfl ?_
    exact J20 _ _ hS (by omega) eg120_3 eg120_4 eg120_5 eg120_7 eg120_8 eg126_1 eg9010_0 (by omega)
