def ws_X12_must_120 : List (Int × Int) := [(120, 3), (120, 4), (120, 5), (120, 6), (120, 7), (120, 8), (120, 9)]
def as_X12_must_120 : List Int := []
def q_X12_must_120 (a1 : Int) (M0 M' : Mem) (r : Option PV) : Prop := St Pm1 ws_X12_must_120 as_X12_must_120 M0 M' ∧ r = none ∧ (rd M' 120 3 = 0 ∨ rd M' 120 4 + 1 ≤ rd M' 120 5) ∧ (rd M' 120 4 ≤ rd M' 120 5) ∧ (rd M' 120 3 ≠ 1 ∨ rd M' 120 4 + 2 ≤ rd M' 120 5 ∨ rd M' 120 7 < 256) ∧ (rd M0 120 4 ≤ rd M' 120 4 ∧ rd M0 120 5 ≤ rd M' 120 5 ∧ tav M0 ≤ tav M') ∧ (rd M0 120 8 = 0 ∨ rd M' 120 8 = rd M0 120 8) ∧ (1 ≤ rd M' 120 8 ∨ tav M0 < tav M')
set_option maxRecDepth 100000 in
set_option maxHeartbeats 4000000 in
theorem sp_X12_must_120 {l : Launch} {K : EC} {M0 : Mem} (hI : In Pm1 M0)  (a1 : Int) (ha1 : 0 ≤ a1 ∧ a1 ≤ 300)  (hq0 : rd M0 120 3 = 0 ∨ rd M0 120 4 + 1 ≤ rd M0 120 5) (hq1 : rd M0 120 4 ≤ rd M0 120 5) (hq2 : rd M0 120 3 ≠ 1 ∨ rd M0 120 4 + 2 ≤ rd M0 120 5 ∨ rd M0 120 7 < 256) : Tr l K 2 mX12_must 0 [(0, (2, 120)), (1, (0, a1))] [] M0 (q_X12_must_120 a1 M0) := by
  have hS : St Pm1 ws_X12_must_120 as_X12_must_120 M0 M0 := St.rf hI
  obtain ⟨g120_8, eg120_8⟩ : ∃ v, rd M0 120 8 = v := ⟨_, rfl⟩
  have bg120_8 : 0 ≤ g120_8 ∧ g120_8 ≤ 5 := by rw [← eg120_8]; exact ir_120_8 hI.2.1
  obtain ⟨g120_3, eg120_3⟩ : ∃ v, rd M0 120 3 = v := ⟨_, rfl⟩
  have bg120_3 : 0 ≤ g120_3 ∧ g120_3 ≤ 3 := by rw [← eg120_3]; exact ir_120_3 hI.2.1
  obtain ⟨g120_4, eg120_4⟩ : ∃ v, rd M0 120 4 = v := ⟨_, rfl⟩
  have bg120_4 : 0 ≤ g120_4 ∧ g120_4 ≤ 900 := by rw [← eg120_4]; exact ir_120_4 hI.2.1
  obtain ⟨g120_5, eg120_5⟩ : ∃ v, rd M0 120 5 = v := ⟨_, rfl⟩
  have bg120_5 : 0 ≤ g120_5 ∧ g120_5 ≤ 900 := by rw [← eg120_5]; exact ir_120_5 hI.2.1
  obtain ⟨g120_7, eg120_7⟩ : ∃ v, rd M0 120 7 = v := ⟨_, rfl⟩
  have bg120_7 : (-9223372036854775808) ≤ g120_7 ∧ g120_7 ≤ 9223372036854775807 := by rw [← eg120_7]; exact ir_120_7 hI.2.1
  obtain ⟨g9010_0, eg9010_0⟩ : ∃ v, tav M0 = v := ⟨_, rfl⟩
  have bg9010_0 : (-1) ≤ g9010_0 ∧ g9010_0 ≤ 1800 := by rw [← eg9010_0]; exact (tav_b hI.2.1)
  obtain ⟨g120_6, eg120_6⟩ : ∃ v, rd M0 120 6 = v := ⟨_, rfl⟩
  have bg120_6 : (-2147483648) ≤ g120_6 ∧ g120_6 ≤ 2147483647 := by rw [← eg120_6]; exact ir_120_6 hI.2.1
  replace hq0 := hd_i hq0
  replace hq2 := hd_i hq2
  refine Tr.aload_n (pc := 0) (i := 0) d_X12_must_0 rfl rfl ?_
  refine Tr.iload_n (pc := 1) (i := 1) d_X12_must_1 rfl rfl ?_
  refine Tr.callV (pc := 2) (as := [_]) d_X12_must_2 s_12_393 ok_X12_isSign rfl rfl (Nat.le_of_ble_eq_true rfl) (Nat.le_of_ble_eq_true rfl) (by decide) (ty_120 hS.1.1) ?_
  refine Tr.imp (Tr.deep (by decide) (sp_X12_isSign_120 hS.1.wk a1 (by and_intros <;> omega))) ?_
  rintro M2 _ ⟨h2, r2, rfl, lr2, ur2, z2_0⟩
  have h2 := St.rn h2 (Pm1.of hS.1.2.2.2.2 (fun _ => St.ka h2 (by decide) (by decide) (by decide)) (fun _ => St.ka h2 (by decide) (by decide) (by decide)) (fun _ => St.ka h2 (by decide) (by decide) (by decide)) (fun _ => St.ka h2 (by decide) (by decide) (by decide)) (fun _ => St.ka h2 (by decide) (by decide) (by decide)) (fun _ => St.ka h2 (by decide) (by decide) (by decide)) (fun _ => St.ka h2 (by decide) (by decide) (by decide)) (fun _ => St.ka h2 (by decide) (by decide) (by decide)) (fun _ => St.ka h2 (by decide) (by decide) (by decide)) (fun _ => St.ka h2 (by decide) (by decide) (by decide)) (St.kp h2 (by decide) (by decide) (by decide)) (St.kp h2 (by decide) (by decide) (by decide)) (St.kp h2 (by decide) (by decide) (by decide)) (St.kp h2 (by decide) (by decide) (by decide)) (St.kp h2 (by decide) (by decide) (by decide)) (St.kp h2 (by decide) (by decide) (by decide)) (St.kp h2 (by decide) (by decide) (by decide)) (St.kp h2 (by decide) (by decide) (by decide)) (St.kp h2 (by decide) (by decide) (by decide)) (St.kp h2 (by decide) (by decide) (by decide)) (St.kp h2 (by decide) (by decide) (by decide)))
  have hS := St.tr hS h2 (by decide) (by decide)
  have ka2_120_3 : rd M2 120 3 = g120_3 := ((St.kp h2 (by decide) (by decide) (by decide)).trans eg120_3)
  have ka2_120_6 : rd M2 120 6 = g120_6 := ((St.kp h2 (by decide) (by decide) (by decide)).trans eg120_6)
  rewrite [ka2_120_3, ka2_120_6] at z2_0
  replace z2_0 := hd_i z2_0
  refine Tr.sc [(0, r2)] rfl ?_
  have J17 : ∀ (M : Mem) (u17_120_8 : Int), St Pm1 ws_X12_must_120 as_X12_must_120 M0 M → (0 ≤ u17_120_8 ∧ u17_120_8 ≤ 5) → rd M 120 3 = g120_3 → rd M 120 4 = g120_4 → rd M 120 5 = g120_5 → rd M 120 6 = g120_6 → rd M 120 7 = g120_7 → rd M 120 8 = u17_120_8 → tav M = g9010_0 → (u17_120_8 ≠ 0 ∨ g120_3 ≠ 0) → (g120_8 = 0 ∨ u17_120_8 = g120_8) → Tr l K 2 mX12_must 17 [(0, (2, 120))] [] M (q_X12_must_120 a1 M0) := by
    intro M u17_120_8 hS bu17_120_8 k17_120_3 k17_120_4 k17_120_5 k17_120_6 k17_120_7 k17_120_8 k17_9010_0 t17_0 t17_1
    clear ka2_120_3 ka2_120_6
    replace t17_0 := hd_i t17_0
    replace t17_1 := hd_i t17_1
    refine Tr.aload_n (pc := 17) (i := 0) d_X12_must_17 rfl rfl ?_
    refine Tr.getf (pc := 18) d_X12_must_18 f_12_36 (by decide) (by decide) (ty_120 hS.1.1) ?_
    refine Tr.tp u17_120_8 k17_120_8 ?_
    refine Tr.if_ne (pc := 21) (tgt := 28) d_X12_must_21 rfl (fun c21 => ?_) (fun c21 => ?_)
    · have c21b : 1 ≤ u17_120_8 ∧ u17_120_8 ≤ 5 := by omega
      replace c21 := hd_i c21
      have kr_120_3 : rd M 120 3 = g120_3 := k17_120_3
      have kr_120_4 : rd M 120 4 = g120_4 := k17_120_4
      have kr_120_5 : rd M 120 5 = g120_5 := k17_120_5
      have kr_120_7 : rd M 120 7 = g120_7 := k17_120_7
      have kr_120_8 : rd M 120 8 = u17_120_8 := k17_120_8
      have kr_9010_0 : tav M = g9010_0 := k17_9010_0
      exact Tr.vret (pc := 28) d_X12_must_28 rfl ⟨hS, rfl, (by first | exact (hd_o hq0) | exact (hd_o hq0).elim (fun h1 => by omega) (fun h1 => by omega)), (by omega), (by first | exact (hd_o hq2) | exact (hd_o hq2).elim (fun h1 => by omega) (fun h1 => h1.elim (fun h1 => by omega) (fun h1 => by omega))), (by and_intros <;> omega), (by first | exact (hd_o t17_1) | exact (hd_o t17_1).elim (fun h1 => by omega) (fun h1 => by omega)), (by omega)⟩
    · refine Tr.aload_n (pc := 24) (i := 0) d_X12_must_24 rfl rfl ?_
      refine Tr.callV (pc := 25) (as := []) d_X12_must_25 s_12_396 ok_X12_next rfl rfl (Nat.le_of_ble_eq_true rfl) (Nat.le_of_ble_eq_true rfl) (by decide) (ty_120 hS.1.1) ?_
      have kb25_120_3 : rd M 120 3 = g120_3 := k17_120_3
      have kb25_120_5 : rd M 120 5 = g120_5 := k17_120_5
      have kb25_120_8 : rd M 120 8 = u17_120_8 := k17_120_8
      have kb25_9010_0 : tav M = g9010_0 := k17_9010_0
      refine Tr.imp (Tr.deep (by decide) (sp_X12_next_120 hS.1 )) ?_
      rintro M25 _ ⟨h25, rfl, z25_0, z25_1, z25_2, z25_3, z25_4, z25_5, z25_6⟩
      have hS := St.tr hS h25 (by decide) (by decide)
      obtain ⟨s25_120_3, es25_120_3⟩ : ∃ v, rd M25 120 3 = v := ⟨_, rfl⟩
      have bs25_120_3 : 0 ≤ s25_120_3 ∧ s25_120_3 ≤ 3 := by rw [← es25_120_3]; exact ir_120_3 hS.1.2.1
      obtain ⟨s25_120_4, es25_120_4⟩ : ∃ v, rd M25 120 4 = v := ⟨_, rfl⟩
      have bs25_120_4 : 0 ≤ s25_120_4 ∧ s25_120_4 ≤ 900 := by rw [← es25_120_4]; exact ir_120_4 hS.1.2.1
      obtain ⟨s25_120_5, es25_120_5⟩ : ∃ v, rd M25 120 5 = v := ⟨_, rfl⟩
      have bs25_120_5 : 0 ≤ s25_120_5 ∧ s25_120_5 ≤ 900 := by rw [← es25_120_5]; exact ir_120_5 hS.1.2.1
      obtain ⟨s25_120_7, es25_120_7⟩ : ∃ v, rd M25 120 7 = v := ⟨_, rfl⟩
      have bs25_120_7 : (-9223372036854775808) ≤ s25_120_7 ∧ s25_120_7 ≤ 9223372036854775807 := by rw [← es25_120_7]; exact ir_120_7 hS.1.2.1
      obtain ⟨s25_120_8, es25_120_8⟩ : ∃ v, rd M25 120 8 = v := ⟨_, rfl⟩
      have bs25_120_8 : 0 ≤ s25_120_8 ∧ s25_120_8 ≤ 5 := by rw [← es25_120_8]; exact ir_120_8 hS.1.2.1
      obtain ⟨s25_9010_0, es25_9010_0⟩ : ∃ v, tav M25 = v := ⟨_, rfl⟩
      have bs25_9010_0 : (-1) ≤ s25_9010_0 ∧ s25_9010_0 ≤ 1800 := by rw [← es25_9010_0]; exact (tav_b hS.1.2.1)
      rewrite [es25_120_3, es25_120_4, es25_120_5] at z25_0
      replace z25_0 := hd_i z25_0
      rewrite [es25_120_4, es25_120_5] at z25_1
      rewrite [es25_120_3, es25_120_4, es25_120_5, es25_120_7] at z25_2
      replace z25_2 := hd_i z25_2
      rewrite [es25_120_4, kb25_120_5] at z25_3
      rewrite [es25_9010_0, kb25_9010_0] at z25_4
      rewrite [es25_9010_0, kb25_120_3, kb25_9010_0] at z25_5
      replace z25_5 := hd_i z25_5
      rewrite [es25_120_8, kb25_120_8] at z25_6
      replace z25_6 := hd_i z25_6
      refine Tr.sc [] rfl ?_
      have kr_120_3 : rd M25 120 3 = s25_120_3 := es25_120_3
      have kr_120_4 : rd M25 120 4 = s25_120_4 := es25_120_4
      have kr_120_5 : rd M25 120 5 = s25_120_5 := es25_120_5
      have kr_120_7 : rd M25 120 7 = s25_120_7 := es25_120_7
      have kr_120_8 : rd M25 120 8 = s25_120_8 := es25_120_8
      have kr_9010_0 : tav M25 = s25_9010_0 := es25_9010_0
      exact Tr.vret (pc := 28) d_X12_must_28 rfl ⟨hS, rfl, (by first | exact (hd_o z25_0) | exact (hd_o z25_0).elim (fun h1 => by omega) (fun h1 => by omega)), (by omega), (by first | exact (hd_o z25_2) | exact (hd_o z25_2).elim (fun h1 => by omega) (fun h1 => h1.elim (fun h1 => by omega) (fun h1 => by omega))), (by and_intros <;> omega), (by exact (hd_o t17_1).elim (fun h1 => by omega) (fun h1 => by omega)), (by exact (hd_o t17_0).elim (fun h1 => (ne_o h1).elim (fun h2 => by omega) (fun h2 => by omega)) (fun h1 => (ne_o h1).elim (fun h2 => by omega) (fun h2 => (hd_o z25_5).elim (fun h3 => by omega) (fun h3 => by omega))))⟩
  refine Tr.if_ne (pc := 5) (tgt := 17) d_X12_must_5 rfl (fun c5 => ?_) (fun c5 => ?_)
  · have c5b : 1 ≤ r2 ∧ r2 ≤ 1 := by omega
    replace c5 := hd_i c5
    refine Tr.pick [0] (ls2 := [(0, (2, 120))]) rfl ?_
    exact J17 _ _ hS (by and_intros <;> omega) ((St.kp h2 (by decide) (by decide) (by decide)).trans eg120_3) ((St.kp h2 (by decide) (by decide) (by decide)).trans eg120_4) ((St.kp h2 (by decide) (by decide) (by decide)).trans eg120_5) ((St.kp h2 (by decide) (by decide) (by decide)).trans eg120_6) ((St.kp h2 (by decide) (by decide) (by decide)).trans eg120_7) ((St.kp h2 (by decide) (by decide) (by decide)).trans eg120_8) ((tav_of ((St.kp h2 (by decide) (by decide) (by decide)).trans rfl) ((St.kp h2 (by decide) (by decide) (by decide)).trans rfl)).trans eg9010_0) (by exact (hd_o z2_0).elim (fun h1 => by omega) (fun h1 => by omega)) (by omega)
  · refine Tr.aload_n (pc := 8) (i := 0) d_X12_must_8 rfl rfl ?_
    refine Tr.iconst (pc := 9) d_X12_must_9 (by decide) ?_
    refine Tr.aload_n (pc := 10) (i := 0) d_X12_must_10 rfl rfl ?_
    refine Tr.getf (pc := 11) d_X12_must_11 f_12_23 (by decide) (by decide) (ty_120 hS.1.1) ?_
    refine Tr.tp g120_4 ((St.kp h2 (by decide) (by decide) (by decide)).trans eg120_4) ?_
    refine Tr.callV (pc := 14) (as := [_, _]) d_X12_must_14 s_12_389 ok_X12_blame rfl rfl (Nat.le_of_ble_eq_true rfl) (Nat.le_of_ble_eq_true rfl) (by decide) (ty_120 hS.1.1) ?_
    have kb14_120_8 : rd M2 120 8 = g120_8 := ((St.kp h2 (by decide) (by decide) (by decide)).trans eg120_8)
    refine Tr.imp (Tr.deep (by decide) (sp_X12_blame_120 hS.1 1 (by omega) g120_4 (by and_intros <;> omega))) ?_
    rintro M14 _ ⟨h14, rfl, z14_0⟩
    have hS := St.tr hS h14 (by decide) (by decide)
    obtain ⟨s14_120_8, es14_120_8⟩ : ∃ v, rd M14 120 8 = v := ⟨_, rfl⟩
    have bs14_120_8 : 0 ≤ s14_120_8 ∧ s14_120_8 ≤ 5 := by rw [← es14_120_8]; exact ir_120_8 hS.1.2.1
    rewrite [es14_120_8, kb14_120_8] at z14_0
    replace z14_0 := hd_i z14_0
    refine Tr.sc [] rfl ?_
    refine Tr.pick [0] (ls2 := [(0, (2, 120))]) rfl ?_
    exact J17 _ _ hS (by and_intros <;> omega) ((St.kp h14 (by decide) (by decide) (by decide)).trans ((St.kp h2 (by decide) (by decide) (by decide)).trans eg120_3)) ((St.kp h14 (by decide) (by decide) (by decide)).trans ((St.kp h2 (by decide) (by decide) (by decide)).trans eg120_4)) ((St.kp h14 (by decide) (by decide) (by decide)).trans ((St.kp h2 (by decide) (by decide) (by decide)).trans eg120_5)) ((St.kp h14 (by decide) (by decide) (by decide)).trans ((St.kp h2 (by decide) (by decide) (by decide)).trans eg120_6)) ((St.kp h14 (by decide) (by decide) (by decide)).trans ((St.kp h2 (by decide) (by decide) (by decide)).trans eg120_7)) es14_120_8 ((tav_of ((St.kp h14 (by decide) (by decide) (by decide)).trans ((St.kp h2 (by decide) (by decide) (by decide)).trans rfl)) ((St.kp h14 (by decide) (by decide) (by decide)).trans ((St.kp h2 (by decide) (by decide) (by decide)).trans rfl))).trans eg9010_0) (by exact (hd_o z14_0).elim (fun h1 => by omega) (fun h1 => by omega)) (by exact (hd_o z14_0).elim (fun h1 => by omega) (fun h1 => by omega))

def ws_X12_declares_120 : List (Int × Int) := [(120, 3), (120, 4), (120, 5), (120, 6), (120, 7), (120, 8), (120, 9), (122, 1), (123, 1), (124, 1), (125, 1), (126, 1), (127, 1), (128, 1)]
def as_X12_declares_120 : List Int := [130, 131, 132, 133, 134, 135]
def q_X12_declares_120 (M0 M' : Mem) (r : Option PV) : Prop := St Pm1 ws_X12_declares_120 as_X12_declares_120 M0 M' ∧ ∃ v : Int, r = some (0, v) ∧ 0 ≤ v ∧ v ≤ 1 ∧ (rd M' 120 3 = 0 ∨ rd M' 120 4 + 1 ≤ rd M' 120 5) ∧ (rd M' 120 4 ≤ rd M' 120 5) ∧ (rd M' 120 3 ≠ 1 ∨ rd M' 120 4 + 2 ≤ rd M' 120 5 ∨ rd M' 120 7 < 256) ∧ (rd M0 120 4 ≤ rd M' 120 4 ∧ rd M0 120 5 ≤ rd M' 120 5 ∧ tav M0 ≤ tav M') ∧ (rd M0 120 8 = 0 ∨ rd M' 120 8 = rd M0 120 8) ∧ (v = 0 ∨ 1 ≤ rd M' 120 8 ∨ tav M0 < tav M')
set_option maxRecDepth 100000 in
set_option maxHeartbeats 4000000 in
theorem sp_X12_declares_120 {l : Launch} {K : EC} {M0 : Mem} (hI : In Pm1 M0) (en_120_37 : rd M0 120 37 = 1)   (hq0 : rd M0 120 3 = 0 ∨ rd M0 120 4 + 1 ≤ rd M0 120 5) (hq1 : rd M0 120 4 ≤ rd M0 120 5) (hq2 : rd M0 120 3 ≠ 1 ∨ rd M0 120 4 + 2 ≤ rd M0 120 5 ∨ rd M0 120 7 < 256) (hq3 : rd M0 120 3 ≠ 0) (hq4 : rd M0 120 8 = 0) : Tr l K 4 mX12_declares 0 [(0, (2, 120))] [] M0 (q_X12_declares_120 M0) := by
  have hS : St Pm1 ws_X12_declares_120 as_X12_declares_120 M0 M0 := St.rf hI
  obtain ⟨g120_8, eg120_8⟩ : ∃ v, rd M0 120 8 = v := ⟨_, rfl⟩
  have bg120_8 : 0 ≤ g120_8 ∧ g120_8 ≤ 5 := by rw [← eg120_8]; exact ir_120_8 hI.2.1
  obtain ⟨g120_3, eg120_3⟩ : ∃ v, rd M0 120 3 = v := ⟨_, rfl⟩
  have bg120_3 : 0 ≤ g120_3 ∧ g120_3 ≤ 3 := by rw [← eg120_3]; exact ir_120_3 hI.2.1
  obtain ⟨g120_4, eg120_4⟩ : ∃ v, rd M0 120 4 = v := ⟨_, rfl⟩
  have bg120_4 : 0 ≤ g120_4 ∧ g120_4 ≤ 900 := by rw [← eg120_4]; exact ir_120_4 hI.2.1
  obtain ⟨g120_5, eg120_5⟩ : ∃ v, rd M0 120 5 = v := ⟨_, rfl⟩
  have bg120_5 : 0 ≤ g120_5 ∧ g120_5 ≤ 900 := by rw [← eg120_5]; exact ir_120_5 hI.2.1
  obtain ⟨g120_7, eg120_7⟩ : ∃ v, rd M0 120 7 = v := ⟨_, rfl⟩
  have bg120_7 : (-9223372036854775808) ≤ g120_7 ∧ g120_7 ≤ 9223372036854775807 := by rw [← eg120_7]; exact ir_120_7 hI.2.1
  obtain ⟨g9010_0, eg9010_0⟩ : ∃ v, tav M0 = v := ⟨_, rfl⟩
  have bg9010_0 : (-1) ≤ g9010_0 ∧ g9010_0 ≤ 1800 := by rw [← eg9010_0]; exact (tav_b hI.2.1)
  obtain ⟨g120_6, eg120_6⟩ : ∃ v, rd M0 120 6 = v := ⟨_, rfl⟩
  have bg120_6 : (-2147483648) ≤ g120_6 ∧ g120_6 ≤ 2147483647 := by rw [← eg120_6]; exact ir_120_6 hI.2.1
  replace hq0 := hd_i hq0
  replace hq2 := hd_i hq2
  replace hq3 := hd_i hq3
  refine Tr.aload_n (pc := 0) (i := 0) d_X12_declares_0 rfl rfl ?_
  refine Tr.ldc2 (pc := 1) d_X12_declares_1 kl_12_399 (by decide) ?_
  refine Tr.callV (pc := 4) (as := [_]) d_X12_declares_4 s_12_484 ok_X12_isWord rfl rfl (Nat.le_of_ble_eq_true rfl) (Nat.le_of_ble_eq_true rfl) (by decide) (ty_120 hS.1.1) ?_
  refine Tr.imp (Tr.deep (by decide) (sp_X12_isWord_120 hS.1.wk 448377483892 (by omega))) ?_
  rintro M4 _ ⟨h4, r4, rfl, lr4, ur4, z4_0⟩
  have h4 := St.rn h4 (Pm1.of hS.1.2.2.2.2 (fun _ => St.ka h4 (by decide) (by decide) (by decide)) (fun _ => St.ka h4 (by decide) (by decide) (by decide)) (fun _ => St.ka h4 (by decide) (by decide) (by decide)) (fun _ => St.ka h4 (by decide) (by decide) (by decide)) (fun _ => St.ka h4 (by decide) (by decide) (by decide)) (fun _ => St.ka h4 (by decide) (by decide) (by decide)) (fun _ => St.ka h4 (by decide) (by decide) (by decide)) (fun _ => St.ka h4 (by decide) (by decide) (by decide)) (fun _ => St.ka h4 (by decide) (by decide) (by decide)) (fun _ => St.ka h4 (by decide) (by decide) (by decide)) (St.kp h4 (by decide) (by decide) (by decide)) (St.kp h4 (by decide) (by decide) (by decide)) (St.kp h4 (by decide) (by decide) (by decide)) (St.kp h4 (by decide) (by decide) (by decide)) (St.kp h4 (by decide) (by decide) (by decide)) (St.kp h4 (by decide) (by decide) (by decide)) (St.kp h4 (by decide) (by decide) (by decide)) (St.kp h4 (by decide) (by decide) (by decide)) (St.kp h4 (by decide) (by decide) (by decide)) (St.kp h4 (by decide) (by decide) (by decide)) (St.kp h4 (by decide) (by decide) (by decide)))
  have hS := St.tr hS h4 (by decide) (by decide)
  have ka4_120_3 : rd M4 120 3 = g120_3 := ((St.kp h4 (by decide) (by decide) (by decide)).trans eg120_3)
  have ka4_120_7 : rd M4 120 7 = g120_7 := ((St.kp h4 (by decide) (by decide) (by decide)).trans eg120_7)
  rewrite [ka4_120_3, ka4_120_7] at z4_0
  replace z4_0 := hd_i z4_0
  refine Tr.sc [(0, r4)] rfl ?_
  have J152 : ∀ (M : Mem) (u152_120_3 u152_120_4 u152_120_5 u152_120_6 u152_120_7 u152_120_8 u152_9010_0 : Int), St Pm1 ws_X12_declares_120 as_X12_declares_120 M0 M → (0 ≤ u152_120_3 ∧ u152_120_3 ≤ 3) → (0 ≤ u152_120_4 ∧ u152_120_4 ≤ 900) → (0 ≤ u152_120_5 ∧ u152_120_5 ≤ 900) → ((-2147483648) ≤ u152_120_6 ∧ u152_120_6 ≤ 2147483647) → ((-9223372036854775808) ≤ u152_120_7 ∧ u152_120_7 ≤ 9223372036854775807) → (0 ≤ u152_120_8 ∧ u152_120_8 ≤ 5) → ((-1) ≤ u152_9010_0 ∧ u152_9010_0 ≤ 1800) → rd M 120 3 = u152_120_3 → rd M 120 4 = u152_120_4 → rd M 120 5 = u152_120_5 → rd M 120 6 = u152_120_6 → rd M 120 7 = u152_120_7 → rd M 120 8 = u152_120_8 → tav M = u152_9010_0 → (u152_120_3 = 0 ∨ u152_120_4 + 1 ≤ u152_120_5) → (u152_120_4 ≤ u152_120_5) → (u152_120_3 ≠ 1 ∨ u152_120_4 + 2 ≤ u152_120_5 ∨ u152_120_7 < 256) → (g120_4 ≤ u152_120_4 ∧ g120_5 ≤ u152_120_5 ∧ g9010_0 ≤ u152_9010_0) → (g120_8 = 0 ∨ u152_120_8 = g120_8) → Tr l K 4 mX12_declares 152 [(0, (2, 120))] [] M (q_X12_declares_120 M0) := by
    intro M u152_120_3 u152_120_4 u152_120_5 u152_120_6 u152_120_7 u152_120_8 u152_9010_0 hS bu152_120_3 bu152_120_4 bu152_120_5 bu152_120_6 bu152_120_7 bu152_120_8 bu152_9010_0 k152_120_3 k152_120_4 k152_120_5 k152_120_6 k152_120_7 k152_120_8 k152_9010_0 t152_0 t152_1 t152_2 t152_3 t152_4
    clear ka4_120_3 ka4_120_7
    replace t152_0 := hd_i t152_0
    replace t152_2 := hd_i t152_2
    replace t152_4 := hd_i t152_4
    refine Tr.aload_n (pc := 152) (i := 0) d_X12_declares_152 rfl rfl ?_
    refine Tr.bipush (pc := 153) d_X12_declares_153 rfl (by decide) ?_
    refine Tr.callV (pc := 155) (as := [_]) d_X12_declares_155 s_12_529 ok_X12_must rfl rfl (Nat.le_of_ble_eq_true rfl) (Nat.le_of_ble_eq_true rfl) (by decide) (ty_120 hS.1.1) ?_
    have kb155_120_3 : rd M 120 3 = u152_120_3 := k152_120_3
    have kb155_120_4 : rd M 120 4 = u152_120_4 := k152_120_4
    have kb155_120_5 : rd M 120 5 = u152_120_5 := k152_120_5
    have kb155_120_7 : rd M 120 7 = u152_120_7 := k152_120_7
    have kb155_120_8 : rd M 120 8 = u152_120_8 := k152_120_8
    have kb155_9010_0 : tav M = u152_9010_0 := k152_9010_0
    refine Tr.imp (Tr.deep (by decide) (sp_X12_must_120 hS.1 59 (by omega) (by first | exact (hd_o t152_0) | exact (hd_o t152_0).elim (fun h1 => by omega) (fun h1 => by omega)) (by omega) (by first | exact (hd_o t152_2) | exact (hd_o t152_2).elim (fun h1 => by omega) (fun h1 => h1.elim (fun h1 => by omega) (fun h1 => by omega))))) ?_
    rintro M155 _ ⟨h155, rfl, z155_0, z155_1, z155_2, z155_3, z155_4, z155_5⟩
    have hS := St.tr hS h155 (by decide) (by decide)
    obtain ⟨s155_120_3, es155_120_3⟩ : ∃ v, rd M155 120 3 = v := ⟨_, rfl⟩
    have bs155_120_3 : 0 ≤ s155_120_3 ∧ s155_120_3 ≤ 3 := by rw [← es155_120_3]; exact ir_120_3 hS.1.2.1
    obtain ⟨s155_120_4, es155_120_4⟩ : ∃ v, rd M155 120 4 = v := ⟨_, rfl⟩
    have bs155_120_4 : 0 ≤ s155_120_4 ∧ s155_120_4 ≤ 900 := by rw [← es155_120_4]; exact ir_120_4 hS.1.2.1
    obtain ⟨s155_120_5, es155_120_5⟩ : ∃ v, rd M155 120 5 = v := ⟨_, rfl⟩
    have bs155_120_5 : 0 ≤ s155_120_5 ∧ s155_120_5 ≤ 900 := by rw [← es155_120_5]; exact ir_120_5 hS.1.2.1
    obtain ⟨s155_120_7, es155_120_7⟩ : ∃ v, rd M155 120 7 = v := ⟨_, rfl⟩
    have bs155_120_7 : (-9223372036854775808) ≤ s155_120_7 ∧ s155_120_7 ≤ 9223372036854775807 := by rw [← es155_120_7]; exact ir_120_7 hS.1.2.1
    obtain ⟨s155_120_8, es155_120_8⟩ : ∃ v, rd M155 120 8 = v := ⟨_, rfl⟩
    have bs155_120_8 : 0 ≤ s155_120_8 ∧ s155_120_8 ≤ 5 := by rw [← es155_120_8]; exact ir_120_8 hS.1.2.1
    obtain ⟨s155_9010_0, es155_9010_0⟩ : ∃ v, tav M155 = v := ⟨_, rfl⟩
    have bs155_9010_0 : (-1) ≤ s155_9010_0 ∧ s155_9010_0 ≤ 1800 := by rw [← es155_9010_0]; exact (tav_b hS.1.2.1)
    rewrite [es155_120_3, es155_120_4, es155_120_5] at z155_0
    replace z155_0 := hd_i z155_0
    rewrite [es155_120_4, es155_120_5] at z155_1
    rewrite [es155_120_3, es155_120_4, es155_120_5, es155_120_7] at z155_2
    replace z155_2 := hd_i z155_2
    rewrite [es155_120_4, es155_120_5, es155_9010_0, kb155_120_4, kb155_120_5, kb155_9010_0] at z155_3
    rewrite [es155_120_8, kb155_120_8] at z155_4
    replace z155_4 := hd_i z155_4
    rewrite [es155_120_8, es155_9010_0, kb155_9010_0] at z155_5
    replace z155_5 := hd_i z155_5
    refine Tr.sc [] rfl ?_
    refine Tr.iconst (pc := 158) d_X12_declares_158 (by decide) ?_
    have kr_120_3 : rd M155 120 3 = s155_120_3 := es155_120_3
    have kr_120_4 : rd M155 120 4 = s155_120_4 := es155_120_4
    have kr_120_5 : rd M155 120 5 = s155_120_5 := es155_120_5
    have kr_120_7 : rd M155 120 7 = s155_120_7 := es155_120_7
    have kr_120_8 : rd M155 120 8 = s155_120_8 := es155_120_8
    have kr_9010_0 : tav M155 = s155_9010_0 := es155_9010_0
    exact Tr.zret (pc := 159) d_X12_declares_159 rfl (by omega) ⟨hS, _, rfl, by omega, by omega, (by first | exact (hd_o z155_0) | exact (hd_o z155_0).elim (fun h1 => by omega) (fun h1 => by omega)), (by omega), (by first | exact (hd_o z155_2) | exact (hd_o z155_2).elim (fun h1 => by omega) (fun h1 => h1.elim (fun h1 => by omega) (fun h1 => by omega))), (by and_intros <;> omega), (by omega), (by exact (hd_o z155_5).elim (fun h1 => by omega) (fun h1 => by omega))⟩
  refine Tr.if_eq (pc := 7) (tgt := 34) d_X12_declares_7 rfl (fun c7 => ?_) (fun c7 => ?_)
  · refine Tr.aload_n (pc := 34) (i := 0) d_X12_declares_34 rfl rfl ?_
    refine Tr.ldc2 (pc := 35) d_X12_declares_35 kl_12_401 (by decide) ?_
    refine Tr.callV (pc := 38) (as := [_]) d_X12_declares_38 s_12_484 ok_X12_isWord rfl rfl (Nat.le_of_ble_eq_true rfl) (Nat.le_of_ble_eq_true rfl) (by decide) (ty_120 hS.1.1) ?_
    refine Tr.imp (Tr.deep (by decide) (sp_X12_isWord_120 hS.1.wk 426835667045 (by omega))) ?_
    rintro M38 _ ⟨h38, r38, rfl, lr38, ur38, z38_0⟩
    have h38 := St.rn h38 (Pm1.of hS.1.2.2.2.2 (fun _ => St.ka h38 (by decide) (by decide) (by decide)) (fun _ => St.ka h38 (by decide) (by decide) (by decide)) (fun _ => St.ka h38 (by decide) (by decide) (by decide)) (fun _ => St.ka h38 (by decide) (by decide) (by decide)) (fun _ => St.ka h38 (by decide) (by decide) (by decide)) (fun _ => St.ka h38 (by decide) (by decide) (by decide)) (fun _ => St.ka h38 (by decide) (by decide) (by decide)) (fun _ => St.ka h38 (by decide) (by decide) (by decide)) (fun _ => St.ka h38 (by decide) (by decide) (by decide)) (fun _ => St.ka h38 (by decide) (by decide) (by decide)) (St.kp h38 (by decide) (by decide) (by decide)) (St.kp h38 (by decide) (by decide) (by decide)) (St.kp h38 (by decide) (by decide) (by decide)) (St.kp h38 (by decide) (by decide) (by decide)) (St.kp h38 (by decide) (by decide) (by decide)) (St.kp h38 (by decide) (by decide) (by decide)) (St.kp h38 (by decide) (by decide) (by decide)) (St.kp h38 (by decide) (by decide) (by decide)) (St.kp h38 (by decide) (by decide) (by decide)) (St.kp h38 (by decide) (by decide) (by decide)) (St.kp h38 (by decide) (by decide) (by decide)))
    have hS := St.tr hS h38 (by decide) (by decide)
    have ka38_120_3 : rd M38 120 3 = g120_3 := ((St.kp h38 (by decide) (by decide) (by decide)).trans ((St.kp h4 (by decide) (by decide) (by decide)).trans eg120_3))
    have ka38_120_7 : rd M38 120 7 = g120_7 := ((St.kp h38 (by decide) (by decide) (by decide)).trans ((St.kp h4 (by decide) (by decide) (by decide)).trans eg120_7))
    rewrite [ka38_120_3, ka38_120_7] at z38_0
    replace z38_0 := hd_i z38_0
    refine Tr.sc [(0, r38)] rfl ?_
    refine Tr.if_eq (pc := 41) (tgt := 99) d_X12_declares_41 rfl (fun c41 => ?_) (fun c41 => ?_)
    · refine Tr.aload_n (pc := 99) (i := 0) d_X12_declares_99 rfl rfl ?_
      refine Tr.ldc2 (pc := 100) d_X12_declares_100 kl_12_403 (by decide) ?_
      refine Tr.callV (pc := 103) (as := [_]) d_X12_declares_103 s_12_484 ok_X12_isWord rfl rfl (Nat.le_of_ble_eq_true rfl) (Nat.le_of_ble_eq_true rfl) (by decide) (ty_120 hS.1.1) ?_
      refine Tr.imp (Tr.deep (by decide) (sp_X12_isWord_120 hS.1.wk 1885434484 (by omega))) ?_
      rintro M103 _ ⟨h103, r103, rfl, lr103, ur103, z103_0⟩
      have h103 := St.rn h103 (Pm1.of hS.1.2.2.2.2 (fun _ => St.ka h103 (by decide) (by decide) (by decide)) (fun _ => St.ka h103 (by decide) (by decide) (by decide)) (fun _ => St.ka h103 (by decide) (by decide) (by decide)) (fun _ => St.ka h103 (by decide) (by decide) (by decide)) (fun _ => St.ka h103 (by decide) (by decide) (by decide)) (fun _ => St.ka h103 (by decide) (by decide) (by decide)) (fun _ => St.ka h103 (by decide) (by decide) (by decide)) (fun _ => St.ka h103 (by decide) (by decide) (by decide)) (fun _ => St.ka h103 (by decide) (by decide) (by decide)) (fun _ => St.ka h103 (by decide) (by decide) (by decide)) (St.kp h103 (by decide) (by decide) (by decide)) (St.kp h103 (by decide) (by decide) (by decide)) (St.kp h103 (by decide) (by decide) (by decide)) (St.kp h103 (by decide) (by decide) (by decide)) (St.kp h103 (by decide) (by decide) (by decide)) (St.kp h103 (by decide) (by decide) (by decide)) (St.kp h103 (by decide) (by decide) (by decide)) (St.kp h103 (by decide) (by decide) (by decide)) (St.kp h103 (by decide) (by decide) (by decide)) (St.kp h103 (by decide) (by decide) (by decide)) (St.kp h103 (by decide) (by decide) (by decide)))
      have hS := St.tr hS h103 (by decide) (by decide)
      have ka103_120_3 : rd M103 120 3 = g120_3 := ((St.kp h103 (by decide) (by decide) (by decide)).trans ((St.kp h38 (by decide) (by decide) (by decide)).trans ((St.kp h4 (by decide) (by decide) (by decide)).trans eg120_3)))
      have ka103_120_7 : rd M103 120 7 = g120_7 := ((St.kp h103 (by decide) (by decide) (by decide)).trans ((St.kp h38 (by decide) (by decide) (by decide)).trans ((St.kp h4 (by decide) (by decide) (by decide)).trans eg120_7)))
      rewrite [ka103_120_3, ka103_120_7] at z103_0
      replace z103_0 := hd_i z103_0
      refine Tr.sc [(0, r103)] rfl ?_
      refine Tr.if_eq (pc := 106) (tgt := 116) d_X12_declares_106 rfl (fun c106 => ?_) (fun c106 => ?_)
      · refine Tr.aload_n (pc := 116) (i := 0) d_X12_declares_116 rfl rfl ?_
        refine Tr.ldc2 (pc := 117) d_X12_declares_117 kl_12_415 (by decide) ?_
        refine Tr.callV (pc := 120) (as := [_]) d_X12_declares_120 s_12_484 ok_X12_isWord rfl rfl (Nat.le_of_ble_eq_true rfl) (Nat.le_of_ble_eq_true rfl) (by decide) (ty_120 hS.1.1) ?_
        refine Tr.imp (Tr.deep (by decide) (sp_X12_isWord_120 hS.1.wk 452824429940 (by omega))) ?_
        rintro M120 _ ⟨h120, r120, rfl, lr120, ur120, z120_0⟩
        have h120 := St.rn h120 (Pm1.of hS.1.2.2.2.2 (fun _ => St.ka h120 (by decide) (by decide) (by decide)) (fun _ => St.ka h120 (by decide) (by decide) (by decide)) (fun _ => St.ka h120 (by decide) (by decide) (by decide)) (fun _ => St.ka h120 (by decide) (by decide) (by decide)) (fun _ => St.ka h120 (by decide) (by decide) (by decide)) (fun _ => St.ka h120 (by decide) (by decide) (by decide)) (fun _ => St.ka h120 (by decide) (by decide) (by decide)) (fun _ => St.ka h120 (by decide) (by decide) (by decide)) (fun _ => St.ka h120 (by decide) (by decide) (by decide)) (fun _ => St.ka h120 (by decide) (by decide) (by decide)) (St.kp h120 (by decide) (by decide) (by decide)) (St.kp h120 (by decide) (by decide) (by decide)) (St.kp h120 (by decide) (by decide) (by decide)) (St.kp h120 (by decide) (by decide) (by decide)) (St.kp h120 (by decide) (by decide) (by decide)) (St.kp h120 (by decide) (by decide) (by decide)) (St.kp h120 (by decide) (by decide) (by decide)) (St.kp h120 (by decide) (by decide) (by decide)) (St.kp h120 (by decide) (by decide) (by decide)) (St.kp h120 (by decide) (by decide) (by decide)) (St.kp h120 (by decide) (by decide) (by decide)))
        have hS := St.tr hS h120 (by decide) (by decide)
        have ka120_120_3 : rd M120 120 3 = g120_3 := ((St.kp h120 (by decide) (by decide) (by decide)).trans ((St.kp h103 (by decide) (by decide) (by decide)).trans ((St.kp h38 (by decide) (by decide) (by decide)).trans ((St.kp h4 (by decide) (by decide) (by decide)).trans eg120_3))))
        have ka120_120_7 : rd M120 120 7 = g120_7 := ((St.kp h120 (by decide) (by decide) (by decide)).trans ((St.kp h103 (by decide) (by decide) (by decide)).trans ((St.kp h38 (by decide) (by decide) (by decide)).trans ((St.kp h4 (by decide) (by decide) (by decide)).trans eg120_7))))
        rewrite [ka120_120_3, ka120_120_7] at z120_0
        replace z120_0 := hd_i z120_0
        refine Tr.sc [(0, r120)] rfl ?_
        refine Tr.if_eq (pc := 123) (tgt := 133) d_X12_declares_123 rfl (fun c123 => ?_) (fun c123 => ?_)
        · refine Tr.aload_n (pc := 133) (i := 0) d_X12_declares_133 rfl rfl ?_
          refine Tr.ldc2 (pc := 134) d_X12_declares_134 kl_12_417 (by decide) ?_
          refine Tr.callV (pc := 137) (as := [_]) d_X12_declares_137 s_12_484 ok_X12_isWord rfl rfl (Nat.le_of_ble_eq_true rfl) (Nat.le_of_ble_eq_true rfl) (by decide) (ty_120 hS.1.1) ?_
          refine Tr.imp (Tr.deep (by decide) (sp_X12_isWord_120 hS.1.wk 7758194 (by omega))) ?_
          rintro M137 _ ⟨h137, r137, rfl, lr137, ur137, z137_0⟩
          have h137 := St.rn h137 (Pm1.of hS.1.2.2.2.2 (fun _ => St.ka h137 (by decide) (by decide) (by decide)) (fun _ => St.ka h137 (by decide) (by decide) (by decide)) (fun _ => St.ka h137 (by decide) (by decide) (by decide)) (fun _ => St.ka h137 (by decide) (by decide) (by decide)) (fun _ => St.ka h137 (by decide) (by decide) (by decide)) (fun _ => St.ka h137 (by decide) (by decide) (by decide)) (fun _ => St.ka h137 (by decide) (by decide) (by decide)) (fun _ => St.ka h137 (by decide) (by decide) (by decide)) (fun _ => St.ka h137 (by decide) (by decide) (by decide)) (fun _ => St.ka h137 (by decide) (by decide) (by decide)) (St.kp h137 (by decide) (by decide) (by decide)) (St.kp h137 (by decide) (by decide) (by decide)) (St.kp h137 (by decide) (by decide) (by decide)) (St.kp h137 (by decide) (by decide) (by decide)) (St.kp h137 (by decide) (by decide) (by decide)) (St.kp h137 (by decide) (by decide) (by decide)) (St.kp h137 (by decide) (by decide) (by decide)) (St.kp h137 (by decide) (by decide) (by decide)) (St.kp h137 (by decide) (by decide) (by decide)) (St.kp h137 (by decide) (by decide) (by decide)) (St.kp h137 (by decide) (by decide) (by decide)))
          have hS := St.tr hS h137 (by decide) (by decide)
          have ka137_120_3 : rd M137 120 3 = g120_3 := ((St.kp h137 (by decide) (by decide) (by decide)).trans ((St.kp h120 (by decide) (by decide) (by decide)).trans ((St.kp h103 (by decide) (by decide) (by decide)).trans ((St.kp h38 (by decide) (by decide) (by decide)).trans ((St.kp h4 (by decide) (by decide) (by decide)).trans eg120_3)))))
          have ka137_120_7 : rd M137 120 7 = g120_7 := ((St.kp h137 (by decide) (by decide) (by decide)).trans ((St.kp h120 (by decide) (by decide) (by decide)).trans ((St.kp h103 (by decide) (by decide) (by decide)).trans ((St.kp h38 (by decide) (by decide) (by decide)).trans ((St.kp h4 (by decide) (by decide) (by decide)).trans eg120_7)))))
          rewrite [ka137_120_3, ka137_120_7] at z137_0
          replace z137_0 := hd_i z137_0
          refine Tr.sc [(0, r137)] rfl ?_
          refine Tr.if_eq (pc := 140) (tgt := 150) d_X12_declares_140 rfl (fun c140 => ?_) (fun c140 => ?_)
          · refine Tr.iconst (pc := 150) d_X12_declares_150 (by decide) ?_
            have kr_120_3 : rd M137 120 3 = g120_3 := ((St.kp h137 (by decide) (by decide) (by decide)).trans ((St.kp h120 (by decide) (by decide) (by decide)).trans ((St.kp h103 (by decide) (by decide) (by decide)).trans ((St.kp h38 (by decide) (by decide) (by decide)).trans ((St.kp h4 (by decide) (by decide) (by decide)).trans eg120_3)))))
            have kr_120_4 : rd M137 120 4 = g120_4 := ((St.kp h137 (by decide) (by decide) (by decide)).trans ((St.kp h120 (by decide) (by decide) (by decide)).trans ((St.kp h103 (by decide) (by decide) (by decide)).trans ((St.kp h38 (by decide) (by decide) (by decide)).trans ((St.kp h4 (by decide) (by decide) (by decide)).trans eg120_4)))))
            have kr_120_5 : rd M137 120 5 = g120_5 := ((St.kp h137 (by decide) (by decide) (by decide)).trans ((St.kp h120 (by decide) (by decide) (by decide)).trans ((St.kp h103 (by decide) (by decide) (by decide)).trans ((St.kp h38 (by decide) (by decide) (by decide)).trans ((St.kp h4 (by decide) (by decide) (by decide)).trans eg120_5)))))
            have kr_120_7 : rd M137 120 7 = g120_7 := ((St.kp h137 (by decide) (by decide) (by decide)).trans ((St.kp h120 (by decide) (by decide) (by decide)).trans ((St.kp h103 (by decide) (by decide) (by decide)).trans ((St.kp h38 (by decide) (by decide) (by decide)).trans ((St.kp h4 (by decide) (by decide) (by decide)).trans eg120_7)))))
            have kr_120_8 : rd M137 120 8 = g120_8 := ((St.kp h137 (by decide) (by decide) (by decide)).trans ((St.kp h120 (by decide) (by decide) (by decide)).trans ((St.kp h103 (by decide) (by decide) (by decide)).trans ((St.kp h38 (by decide) (by decide) (by decide)).trans ((St.kp h4 (by decide) (by decide) (by decide)).trans eg120_8)))))
            have kr_9010_0 : tav M137 = g9010_0 := ((tav_of ((St.kp h137 (by decide) (by decide) (by decide)).trans ((St.kp h120 (by decide) (by decide) (by decide)).trans ((St.kp h103 (by decide) (by decide) (by decide)).trans ((St.kp h38 (by decide) (by decide) (by decide)).trans ((St.kp h4 (by decide) (by decide) (by decide)).trans rfl))))) ((St.kp h137 (by decide) (by decide) (by decide)).trans ((St.kp h120 (by decide) (by decide) (by decide)).trans ((St.kp h103 (by decide) (by decide) (by decide)).trans ((St.kp h38 (by decide) (by decide) (by decide)).trans ((St.kp h4 (by decide) (by decide) (by decide)).trans rfl)))))).trans eg9010_0)
            exact Tr.zret (pc := 151) d_X12_declares_151 rfl (by omega) ⟨hS, _, rfl, by omega, by omega, (by first | exact (hd_o hq0) | exact (hd_o hq0).elim (fun h1 => by omega) (fun h1 => by omega)), (by omega), (by first | exact (hd_o hq2) | exact (hd_o hq2).elim (fun h1 => by omega) (fun h1 => h1.elim (fun h1 => by omega) (fun h1 => by omega))), (by and_intros <;> omega), (by omega), (by omega)⟩
          · have c140b : 1 ≤ r137 ∧ r137 ≤ 1 := by omega
            replace c140 := hd_i c140
            refine Tr.aload_n (pc := 143) (i := 0) d_X12_declares_143 rfl rfl ?_
            refine Tr.callV (pc := 144) (as := []) d_X12_declares_144 s_12_526 ok_X12_variable rfl rfl (Nat.le_of_ble_eq_true rfl) (Nat.le_of_ble_eq_true rfl) (by decide) (ty_120 hS.1.1) ?_
            have kb144_120_3 : rd M137 120 3 = g120_3 := ((St.kp h137 (by decide) (by decide) (by decide)).trans ((St.kp h120 (by decide) (by decide) (by decide)).trans ((St.kp h103 (by decide) (by decide) (by decide)).trans ((St.kp h38 (by decide) (by decide) (by decide)).trans ((St.kp h4 (by decide) (by decide) (by decide)).trans eg120_3)))))
            have kb144_120_4 : rd M137 120 4 = g120_4 := ((St.kp h137 (by decide) (by decide) (by decide)).trans ((St.kp h120 (by decide) (by decide) (by decide)).trans ((St.kp h103 (by decide) (by decide) (by decide)).trans ((St.kp h38 (by decide) (by decide) (by decide)).trans ((St.kp h4 (by decide) (by decide) (by decide)).trans eg120_4)))))
            have kb144_120_5 : rd M137 120 5 = g120_5 := ((St.kp h137 (by decide) (by decide) (by decide)).trans ((St.kp h120 (by decide) (by decide) (by decide)).trans ((St.kp h103 (by decide) (by decide) (by decide)).trans ((St.kp h38 (by decide) (by decide) (by decide)).trans ((St.kp h4 (by decide) (by decide) (by decide)).trans eg120_5)))))
            have kb144_120_7 : rd M137 120 7 = g120_7 := ((St.kp h137 (by decide) (by decide) (by decide)).trans ((St.kp h120 (by decide) (by decide) (by decide)).trans ((St.kp h103 (by decide) (by decide) (by decide)).trans ((St.kp h38 (by decide) (by decide) (by decide)).trans ((St.kp h4 (by decide) (by decide) (by decide)).trans eg120_7)))))
            have kb144_120_8 : rd M137 120 8 = g120_8 := ((St.kp h137 (by decide) (by decide) (by decide)).trans ((St.kp h120 (by decide) (by decide) (by decide)).trans ((St.kp h103 (by decide) (by decide) (by decide)).trans ((St.kp h38 (by decide) (by decide) (by decide)).trans ((St.kp h4 (by decide) (by decide) (by decide)).trans eg120_8)))))
            have kb144_9010_0 : tav M137 = g9010_0 := ((tav_of ((St.kp h137 (by decide) (by decide) (by decide)).trans ((St.kp h120 (by decide) (by decide) (by decide)).trans ((St.kp h103 (by decide) (by decide) (by decide)).trans ((St.kp h38 (by decide) (by decide) (by decide)).trans ((St.kp h4 (by decide) (by decide) (by decide)).trans rfl))))) ((St.kp h137 (by decide) (by decide) (by decide)).trans ((St.kp h120 (by decide) (by decide) (by decide)).trans ((St.kp h103 (by decide) (by decide) (by decide)).trans ((St.kp h38 (by decide) (by decide) (by decide)).trans ((St.kp h4 (by decide) (by decide) (by decide)).trans rfl)))))).trans eg9010_0)
            refine Tr.imp (Tr.deep (by decide) (sp_X12_variable_120 hS.1 ((St.kp hS (by decide) (by decide) (by decide)).trans en_120_37) (by first | exact (hd_o hq0) | exact (hd_o hq0).elim (fun h1 => by omega) (fun h1 => by omega)) (by omega) (by first | exact (hd_o hq2) | exact (hd_o hq2).elim (fun h1 => by omega) (fun h1 => h1.elim (fun h1 => by omega) (fun h1 => by omega))) (by have h1 := (hd_o hq3); omega) (by omega))) ?_
            rintro M144 _ ⟨h144, rfl, z144_0, z144_1, z144_2, z144_3, z144_4, z144_5⟩
            have hS := St.tr hS h144 (by decide) (by decide)
            obtain ⟨s144_120_3, es144_120_3⟩ : ∃ v, rd M144 120 3 = v := ⟨_, rfl⟩
            have bs144_120_3 : 0 ≤ s144_120_3 ∧ s144_120_3 ≤ 3 := by rw [← es144_120_3]; exact ir_120_3 hS.1.2.1
            obtain ⟨s144_120_4, es144_120_4⟩ : ∃ v, rd M144 120 4 = v := ⟨_, rfl⟩
            have bs144_120_4 : 0 ≤ s144_120_4 ∧ s144_120_4 ≤ 900 := by rw [← es144_120_4]; exact ir_120_4 hS.1.2.1
            obtain ⟨s144_120_5, es144_120_5⟩ : ∃ v, rd M144 120 5 = v := ⟨_, rfl⟩
            have bs144_120_5 : 0 ≤ s144_120_5 ∧ s144_120_5 ≤ 900 := by rw [← es144_120_5]; exact ir_120_5 hS.1.2.1
            obtain ⟨s144_120_7, es144_120_7⟩ : ∃ v, rd M144 120 7 = v := ⟨_, rfl⟩
            have bs144_120_7 : (-9223372036854775808) ≤ s144_120_7 ∧ s144_120_7 ≤ 9223372036854775807 := by rw [← es144_120_7]; exact ir_120_7 hS.1.2.1
            obtain ⟨s144_120_8, es144_120_8⟩ : ∃ v, rd M144 120 8 = v := ⟨_, rfl⟩
            have bs144_120_8 : 0 ≤ s144_120_8 ∧ s144_120_8 ≤ 5 := by rw [← es144_120_8]; exact ir_120_8 hS.1.2.1
            obtain ⟨s144_9010_0, es144_9010_0⟩ : ∃ v, tav M144 = v := ⟨_, rfl⟩
            have bs144_9010_0 : (-1) ≤ s144_9010_0 ∧ s144_9010_0 ≤ 1800 := by rw [← es144_9010_0]; exact (tav_b hS.1.2.1)
            rewrite [es144_120_3, es144_120_4, es144_120_5] at z144_0
            replace z144_0 := hd_i z144_0
            rewrite [es144_120_4, es144_120_5] at z144_1
            rewrite [es144_120_3, es144_120_4, es144_120_5, es144_120_7] at z144_2
            replace z144_2 := hd_i z144_2
            rewrite [es144_120_4, es144_120_5, es144_9010_0, kb144_120_4, kb144_120_5, kb144_9010_0] at z144_3
            rewrite [es144_120_8, kb144_120_8] at z144_4
            replace z144_4 := hd_i z144_4
            rewrite [es144_120_8, es144_9010_0, kb144_9010_0] at z144_5
            replace z144_5 := hd_i z144_5
            refine Tr.sc [] rfl ?_
            refine Tr.goto (pc := 147) (tgt := 152) d_X12_declares_147 rfl ?_
            refine Tr.pick [0] (ls2 := [(0, (2, 120))]) rfl ?_
            obtain ⟨w152p147_120_6, ew152p147_120_6⟩ : ∃ v, rd M144 120 6 = v := ⟨_, rfl⟩
            have bw152p147_120_6 : (-2147483648) ≤ w152p147_120_6 ∧ w152p147_120_6 ≤ 2147483647 := by rw [← ew152p147_120_6]; exact ir_120_6 hS.1.2.1
            exact J152 _ _ _ _ _ _ _ _ hS (by and_intros <;> omega) (by and_intros <;> omega) (by and_intros <;> omega) (by and_intros <;> omega) (by omega) (by and_intros <;> omega) (by and_intros <;> omega) es144_120_3 es144_120_4 es144_120_5 ew152p147_120_6 es144_120_7 es144_120_8 es144_9010_0 (by first | exact (hd_o z144_0) | exact (hd_o z144_0).elim (fun h1 => by omega) (fun h1 => by omega)) (by omega) (by first | exact (hd_o z144_2) | exact (hd_o z144_2).elim (fun h1 => by omega) (fun h1 => h1.elim (fun h1 => by omega) (fun h1 => by omega))) (by and_intros <;> omega) (by first | exact (hd_o z144_4) | exact (hd_o z144_4).elim (fun h1 => by omega) (fun h1 => by omega))
        · have c123b : 1 ≤ r120 ∧ r120 ≤ 1 := by omega
          replace c123 := hd_i c123
          refine Tr.aload_n (pc := 126) (i := 0) d_X12_declares_126 rfl rfl ?_
          refine Tr.callV (pc := 127) (as := []) d_X12_declares_127 s_12_523 ok_X12_input rfl rfl (Nat.le_of_ble_eq_true rfl) (Nat.le_of_ble_eq_true rfl) (by decide) (ty_120 hS.1.1) ?_
          have kb127_120_3 : rd M120 120 3 = g120_3 := ((St.kp h120 (by decide) (by decide) (by decide)).trans ((St.kp h103 (by decide) (by decide) (by decide)).trans ((St.kp h38 (by decide) (by decide) (by decide)).trans ((St.kp h4 (by decide) (by decide) (by decide)).trans eg120_3))))
          have kb127_120_4 : rd M120 120 4 = g120_4 := ((St.kp h120 (by decide) (by decide) (by decide)).trans ((St.kp h103 (by decide) (by decide) (by decide)).trans ((St.kp h38 (by decide) (by decide) (by decide)).trans ((St.kp h4 (by decide) (by decide) (by decide)).trans eg120_4))))
          have kb127_120_5 : rd M120 120 5 = g120_5 := ((St.kp h120 (by decide) (by decide) (by decide)).trans ((St.kp h103 (by decide) (by decide) (by decide)).trans ((St.kp h38 (by decide) (by decide) (by decide)).trans ((St.kp h4 (by decide) (by decide) (by decide)).trans eg120_5))))
          have kb127_120_7 : rd M120 120 7 = g120_7 := ((St.kp h120 (by decide) (by decide) (by decide)).trans ((St.kp h103 (by decide) (by decide) (by decide)).trans ((St.kp h38 (by decide) (by decide) (by decide)).trans ((St.kp h4 (by decide) (by decide) (by decide)).trans eg120_7))))
          have kb127_120_8 : rd M120 120 8 = g120_8 := ((St.kp h120 (by decide) (by decide) (by decide)).trans ((St.kp h103 (by decide) (by decide) (by decide)).trans ((St.kp h38 (by decide) (by decide) (by decide)).trans ((St.kp h4 (by decide) (by decide) (by decide)).trans eg120_8))))
          have kb127_9010_0 : tav M120 = g9010_0 := ((tav_of ((St.kp h120 (by decide) (by decide) (by decide)).trans ((St.kp h103 (by decide) (by decide) (by decide)).trans ((St.kp h38 (by decide) (by decide) (by decide)).trans ((St.kp h4 (by decide) (by decide) (by decide)).trans rfl)))) ((St.kp h120 (by decide) (by decide) (by decide)).trans ((St.kp h103 (by decide) (by decide) (by decide)).trans ((St.kp h38 (by decide) (by decide) (by decide)).trans ((St.kp h4 (by decide) (by decide) (by decide)).trans rfl))))).trans eg9010_0)
          refine Tr.imp (Tr.deep (by decide) (sp_X12_input_120 hS.1 ((St.kp hS (by decide) (by decide) (by decide)).trans en_120_37) (by first | exact (hd_o hq0) | exact (hd_o hq0).elim (fun h1 => by omega) (fun h1 => by omega)) (by omega) (by first | exact (hd_o hq2) | exact (hd_o hq2).elim (fun h1 => by omega) (fun h1 => h1.elim (fun h1 => by omega) (fun h1 => by omega))) (by have h1 := (hd_o hq3); omega) (by omega))) ?_
          rintro M127 _ ⟨h127, rfl, z127_0, z127_1, z127_2, z127_3, z127_4, z127_5⟩
          have hS := St.tr hS h127 (by decide) (by decide)
          obtain ⟨s127_120_3, es127_120_3⟩ : ∃ v, rd M127 120 3 = v := ⟨_, rfl⟩
          have bs127_120_3 : 0 ≤ s127_120_3 ∧ s127_120_3 ≤ 3 := by rw [← es127_120_3]; exact ir_120_3 hS.1.2.1
          obtain ⟨s127_120_4, es127_120_4⟩ : ∃ v, rd M127 120 4 = v := ⟨_, rfl⟩
          have bs127_120_4 : 0 ≤ s127_120_4 ∧ s127_120_4 ≤ 900 := by rw [← es127_120_4]; exact ir_120_4 hS.1.2.1
          obtain ⟨s127_120_5, es127_120_5⟩ : ∃ v, rd M127 120 5 = v := ⟨_, rfl⟩
          have bs127_120_5 : 0 ≤ s127_120_5 ∧ s127_120_5 ≤ 900 := by rw [← es127_120_5]; exact ir_120_5 hS.1.2.1
          obtain ⟨s127_120_7, es127_120_7⟩ : ∃ v, rd M127 120 7 = v := ⟨_, rfl⟩
          have bs127_120_7 : (-9223372036854775808) ≤ s127_120_7 ∧ s127_120_7 ≤ 9223372036854775807 := by rw [← es127_120_7]; exact ir_120_7 hS.1.2.1
          obtain ⟨s127_120_8, es127_120_8⟩ : ∃ v, rd M127 120 8 = v := ⟨_, rfl⟩
          have bs127_120_8 : 0 ≤ s127_120_8 ∧ s127_120_8 ≤ 5 := by rw [← es127_120_8]; exact ir_120_8 hS.1.2.1
          obtain ⟨s127_9010_0, es127_9010_0⟩ : ∃ v, tav M127 = v := ⟨_, rfl⟩
          have bs127_9010_0 : (-1) ≤ s127_9010_0 ∧ s127_9010_0 ≤ 1800 := by rw [← es127_9010_0]; exact (tav_b hS.1.2.1)
          rewrite [es127_120_3, es127_120_4, es127_120_5] at z127_0
          replace z127_0 := hd_i z127_0
          rewrite [es127_120_4, es127_120_5] at z127_1
          rewrite [es127_120_3, es127_120_4, es127_120_5, es127_120_7] at z127_2
          replace z127_2 := hd_i z127_2
          rewrite [es127_120_4, es127_120_5, es127_9010_0, kb127_120_4, kb127_120_5, kb127_9010_0] at z127_3
          rewrite [es127_120_8, kb127_120_8] at z127_4
          replace z127_4 := hd_i z127_4
          rewrite [es127_120_8, es127_9010_0, kb127_9010_0] at z127_5
          replace z127_5 := hd_i z127_5
          refine Tr.sc [] rfl ?_
          refine Tr.goto (pc := 130) (tgt := 152) d_X12_declares_130 rfl ?_
          refine Tr.pick [0] (ls2 := [(0, (2, 120))]) rfl ?_
          obtain ⟨w152p130_120_6, ew152p130_120_6⟩ : ∃ v, rd M127 120 6 = v := ⟨_, rfl⟩
          have bw152p130_120_6 : (-2147483648) ≤ w152p130_120_6 ∧ w152p130_120_6 ≤ 2147483647 := by rw [← ew152p130_120_6]; exact ir_120_6 hS.1.2.1
          exact J152 _ _ _ _ _ _ _ _ hS (by and_intros <;> omega) (by and_intros <;> omega) (by and_intros <;> omega) (by and_intros <;> omega) (by omega) (by and_intros <;> omega) (by and_intros <;> omega) es127_120_3 es127_120_4 es127_120_5 ew152p130_120_6 es127_120_7 es127_120_8 es127_9010_0 (by first | exact (hd_o z127_0) | exact (hd_o z127_0).elim (fun h1 => by omega) (fun h1 => by omega)) (by omega) (by first | exact (hd_o z127_2) | exact (hd_o z127_2).elim (fun h1 => by omega) (fun h1 => h1.elim (fun h1 => by omega) (fun h1 => by omega))) (by and_intros <;> omega) (by first | exact (hd_o z127_4) | exact (hd_o z127_4).elim (fun h1 => by omega) (fun h1 => by omega))
      · have c106b : 1 ≤ r103 ∧ r103 ≤ 1 := by omega
        replace c106 := hd_i c106
        refine Tr.aload_n (pc := 109) (i := 0) d_X12_declares_109 rfl rfl ?_
        refine Tr.callV (pc := 110) (as := []) d_X12_declares_110 s_12_520 ok_X12_part rfl rfl (Nat.le_of_ble_eq_true rfl) (Nat.le_of_ble_eq_true rfl) (by decide) (ty_120 hS.1.1) ?_
        have kb110_120_3 : rd M103 120 3 = g120_3 := ((St.kp h103 (by decide) (by decide) (by decide)).trans ((St.kp h38 (by decide) (by decide) (by decide)).trans ((St.kp h4 (by decide) (by decide) (by decide)).trans eg120_3)))
        have kb110_120_4 : rd M103 120 4 = g120_4 := ((St.kp h103 (by decide) (by decide) (by decide)).trans ((St.kp h38 (by decide) (by decide) (by decide)).trans ((St.kp h4 (by decide) (by decide) (by decide)).trans eg120_4)))
        have kb110_120_5 : rd M103 120 5 = g120_5 := ((St.kp h103 (by decide) (by decide) (by decide)).trans ((St.kp h38 (by decide) (by decide) (by decide)).trans ((St.kp h4 (by decide) (by decide) (by decide)).trans eg120_5)))
        have kb110_120_7 : rd M103 120 7 = g120_7 := ((St.kp h103 (by decide) (by decide) (by decide)).trans ((St.kp h38 (by decide) (by decide) (by decide)).trans ((St.kp h4 (by decide) (by decide) (by decide)).trans eg120_7)))
        have kb110_120_8 : rd M103 120 8 = g120_8 := ((St.kp h103 (by decide) (by decide) (by decide)).trans ((St.kp h38 (by decide) (by decide) (by decide)).trans ((St.kp h4 (by decide) (by decide) (by decide)).trans eg120_8)))
        have kb110_9010_0 : tav M103 = g9010_0 := ((tav_of ((St.kp h103 (by decide) (by decide) (by decide)).trans ((St.kp h38 (by decide) (by decide) (by decide)).trans ((St.kp h4 (by decide) (by decide) (by decide)).trans rfl))) ((St.kp h103 (by decide) (by decide) (by decide)).trans ((St.kp h38 (by decide) (by decide) (by decide)).trans ((St.kp h4 (by decide) (by decide) (by decide)).trans rfl)))).trans eg9010_0)
        refine Tr.imp (Tr.deep (by decide) (sp_X12_part_120 hS.1 ((St.kp hS (by decide) (by decide) (by decide)).trans en_120_37) (by first | exact (hd_o hq0) | exact (hd_o hq0).elim (fun h1 => by omega) (fun h1 => by omega)) (by omega) (by first | exact (hd_o hq2) | exact (hd_o hq2).elim (fun h1 => by omega) (fun h1 => h1.elim (fun h1 => by omega) (fun h1 => by omega))) (by have h1 := (hd_o hq3); omega) (by omega))) ?_
        rintro M110 _ ⟨h110, rfl, z110_0, z110_1, z110_2, z110_3, z110_4, z110_5⟩
        have hS := St.tr hS h110 (by decide) (by decide)
        obtain ⟨s110_120_3, es110_120_3⟩ : ∃ v, rd M110 120 3 = v := ⟨_, rfl⟩
        have bs110_120_3 : 0 ≤ s110_120_3 ∧ s110_120_3 ≤ 3 := by rw [← es110_120_3]; exact ir_120_3 hS.1.2.1
        obtain ⟨s110_120_4, es110_120_4⟩ : ∃ v, rd M110 120 4 = v := ⟨_, rfl⟩
        have bs110_120_4 : 0 ≤ s110_120_4 ∧ s110_120_4 ≤ 900 := by rw [← es110_120_4]; exact ir_120_4 hS.1.2.1
        obtain ⟨s110_120_5, es110_120_5⟩ : ∃ v, rd M110 120 5 = v := ⟨_, rfl⟩
        have bs110_120_5 : 0 ≤ s110_120_5 ∧ s110_120_5 ≤ 900 := by rw [← es110_120_5]; exact ir_120_5 hS.1.2.1
        obtain ⟨s110_120_7, es110_120_7⟩ : ∃ v, rd M110 120 7 = v := ⟨_, rfl⟩
        have bs110_120_7 : (-9223372036854775808) ≤ s110_120_7 ∧ s110_120_7 ≤ 9223372036854775807 := by rw [← es110_120_7]; exact ir_120_7 hS.1.2.1
        obtain ⟨s110_120_8, es110_120_8⟩ : ∃ v, rd M110 120 8 = v := ⟨_, rfl⟩
        have bs110_120_8 : 0 ≤ s110_120_8 ∧ s110_120_8 ≤ 5 := by rw [← es110_120_8]; exact ir_120_8 hS.1.2.1
        obtain ⟨s110_9010_0, es110_9010_0⟩ : ∃ v, tav M110 = v := ⟨_, rfl⟩
        have bs110_9010_0 : (-1) ≤ s110_9010_0 ∧ s110_9010_0 ≤ 1800 := by rw [← es110_9010_0]; exact (tav_b hS.1.2.1)
        rewrite [es110_120_3, es110_120_4, es110_120_5] at z110_0
        replace z110_0 := hd_i z110_0
        rewrite [es110_120_4, es110_120_5] at z110_1
        rewrite [es110_120_3, es110_120_4, es110_120_5, es110_120_7] at z110_2
        replace z110_2 := hd_i z110_2
        rewrite [es110_120_4, es110_120_5, es110_9010_0, kb110_120_4, kb110_120_5, kb110_9010_0] at z110_3
        rewrite [es110_120_8, kb110_120_8] at z110_4
        replace z110_4 := hd_i z110_4
        rewrite [es110_120_8, es110_9010_0, kb110_9010_0] at z110_5
        replace z110_5 := hd_i z110_5
        refine Tr.sc [] rfl ?_
        refine Tr.goto (pc := 113) (tgt := 152) d_X12_declares_113 rfl ?_
        refine Tr.pick [0] (ls2 := [(0, (2, 120))]) rfl ?_
        obtain ⟨w152p113_120_6, ew152p113_120_6⟩ : ∃ v, rd M110 120 6 = v := ⟨_, rfl⟩
        have bw152p113_120_6 : (-2147483648) ≤ w152p113_120_6 ∧ w152p113_120_6 ≤ 2147483647 := by rw [← ew152p113_120_6]; exact ir_120_6 hS.1.2.1
        exact J152 _ _ _ _ _ _ _ _ hS (by and_intros <;> omega) (by and_intros <;> omega) (by and_intros <;> omega) (by and_intros <;> omega) (by omega) (by and_intros <;> omega) (by and_intros <;> omega) es110_120_3 es110_120_4 es110_120_5 ew152p113_120_6 es110_120_7 es110_120_8 es110_9010_0 (by first | exact (hd_o z110_0) | exact (hd_o z110_0).elim (fun h1 => by omega) (fun h1 => by omega)) (by omega) (by first | exact (hd_o z110_2) | exact (hd_o z110_2).elim (fun h1 => by omega) (fun h1 => h1.elim (fun h1 => by omega) (fun h1 => by omega))) (by and_intros <;> omega) (by first | exact (hd_o z110_4) | exact (hd_o z110_4).elim (fun h1 => by omega) (fun h1 => by omega))
    · have c41b : 1 ≤ r38 ∧ r38 ≤ 1 := by omega
      replace c41 := hd_i c41
      refine Tr.aload_n (pc := 44) (i := 0) d_X12_declares_44 rfl rfl ?_
      refine Tr.callV (pc := 45) (as := []) d_X12_declares_45 s_12_396 ok_X12_next rfl rfl (Nat.le_of_ble_eq_true rfl) (Nat.le_of_ble_eq_true rfl) (by decide) (ty_120 hS.1.1) ?_
      have kb45_120_3 : rd M38 120 3 = g120_3 := ((St.kp h38 (by decide) (by decide) (by decide)).trans ((St.kp h4 (by decide) (by decide) (by decide)).trans eg120_3))
      have kb45_120_5 : rd M38 120 5 = g120_5 := ((St.kp h38 (by decide) (by decide) (by decide)).trans ((St.kp h4 (by decide) (by decide) (by decide)).trans eg120_5))
      have kb45_120_8 : rd M38 120 8 = g120_8 := ((St.kp h38 (by decide) (by decide) (by decide)).trans ((St.kp h4 (by decide) (by decide) (by decide)).trans eg120_8))
      have kb45_9010_0 : tav M38 = g9010_0 := ((tav_of ((St.kp h38 (by decide) (by decide) (by decide)).trans ((St.kp h4 (by decide) (by decide) (by decide)).trans rfl)) ((St.kp h38 (by decide) (by decide) (by decide)).trans ((St.kp h4 (by decide) (by decide) (by decide)).trans rfl))).trans eg9010_0)
      refine Tr.imp (Tr.deep (by decide) (sp_X12_next_120 hS.1 )) ?_
      rintro M45 _ ⟨h45, rfl, z45_0, z45_1, z45_2, z45_3, z45_4, z45_5, z45_6⟩
      have hS := St.tr hS h45 (by decide) (by decide)
      obtain ⟨s45_120_3, es45_120_3⟩ : ∃ v, rd M45 120 3 = v := ⟨_, rfl⟩
      have bs45_120_3 : 0 ≤ s45_120_3 ∧ s45_120_3 ≤ 3 := by rw [← es45_120_3]; exact ir_120_3 hS.1.2.1
      obtain ⟨s45_120_4, es45_120_4⟩ : ∃ v, rd M45 120 4 = v := ⟨_, rfl⟩
      have bs45_120_4 : 0 ≤ s45_120_4 ∧ s45_120_4 ≤ 900 := by rw [← es45_120_4]; exact ir_120_4 hS.1.2.1
      obtain ⟨s45_120_5, es45_120_5⟩ : ∃ v, rd M45 120 5 = v := ⟨_, rfl⟩
      have bs45_120_5 : 0 ≤ s45_120_5 ∧ s45_120_5 ≤ 900 := by rw [← es45_120_5]; exact ir_120_5 hS.1.2.1
      obtain ⟨s45_120_7, es45_120_7⟩ : ∃ v, rd M45 120 7 = v := ⟨_, rfl⟩
      have bs45_120_7 : (-9223372036854775808) ≤ s45_120_7 ∧ s45_120_7 ≤ 9223372036854775807 := by rw [← es45_120_7]; exact ir_120_7 hS.1.2.1
      obtain ⟨s45_120_8, es45_120_8⟩ : ∃ v, rd M45 120 8 = v := ⟨_, rfl⟩
      have bs45_120_8 : 0 ≤ s45_120_8 ∧ s45_120_8 ≤ 5 := by rw [← es45_120_8]; exact ir_120_8 hS.1.2.1
      obtain ⟨s45_9010_0, es45_9010_0⟩ : ∃ v, tav M45 = v := ⟨_, rfl⟩
      have bs45_9010_0 : (-1) ≤ s45_9010_0 ∧ s45_9010_0 ≤ 1800 := by rw [← es45_9010_0]; exact (tav_b hS.1.2.1)
      rewrite [es45_120_3, es45_120_4, es45_120_5] at z45_0
      replace z45_0 := hd_i z45_0
      rewrite [es45_120_4, es45_120_5] at z45_1
      rewrite [es45_120_3, es45_120_4, es45_120_5, es45_120_7] at z45_2
      replace z45_2 := hd_i z45_2
      rewrite [es45_120_4, kb45_120_5] at z45_3
      rewrite [es45_9010_0, kb45_9010_0] at z45_4
      rewrite [es45_9010_0, kb45_120_3, kb45_9010_0] at z45_5
      replace z45_5 := hd_i z45_5
      rewrite [es45_120_8, kb45_120_8] at z45_6
      replace z45_6 := hd_i z45_6
      refine Tr.sc [] rfl ?_
      refine Tr.aload_n (pc := 48) (i := 0) d_X12_declares_48 rfl rfl ?_
      refine Tr.getf (pc := 49) d_X12_declares_49 f_12_54 (by decide) (by decide) (ty_120 hS.1.1) ?_
      refine Tr.tp 123 (fx_120_14 hS.1.1) ?_
      refine Tr.aload_n (pc := 52) (i := 0) d_X12_declares_52 rfl rfl ?_
      refine Tr.getf (pc := 53) d_X12_declares_53 f_12_124 (by decide) (by decide) (ty_120 hS.1.1) ?_
      refine Tr.tp 1 ((St.kp hS (by decide) (by decide) (by decide)).trans en_120_37) ?_
      refine Tr.aload_n (pc := 56) (i := 0) d_X12_declares_56 rfl rfl ?_
      refine Tr.iconst (pc := 57) d_X12_declares_57 (by decide) ?_
      refine Tr.bipush (pc := 58) d_X12_declares_58 rfl (by decide) ?_
      refine Tr.callV (pc := 60) (as := [_, _]) d_X12_declares_60 s_12_516 ok_X12_number rfl rfl (Nat.le_of_ble_eq_true rfl) (Nat.le_of_ble_eq_true rfl) (by decide) (ty_120 hS.1.1) ?_
      have kb60_120_3 : rd M45 120 3 = s45_120_3 := es45_120_3
      have kb60_120_4 : rd M45 120 4 = s45_120_4 := es45_120_4
      have kb60_120_5 : rd M45 120 5 = s45_120_5 := es45_120_5
      have kb60_120_7 : rd M45 120 7 = s45_120_7 := es45_120_7
      have kb60_120_8 : rd M45 120 8 = s45_120_8 := es45_120_8
      have kb60_9010_0 : tav M45 = s45_9010_0 := es45_9010_0
      refine Tr.imp (Tr.deep (by decide) (sp_X12_number_120 hS.1 1 (by omega) 8 (by omega) (by first | exact (hd_o z45_0) | exact (hd_o z45_0).elim (fun h1 => by omega) (fun h1 => by omega)) (by omega) (by first | exact (hd_o z45_2) | exact (hd_o z45_2).elim (fun h1 => by omega) (fun h1 => h1.elim (fun h1 => by omega) (fun h1 => by omega))))) ?_
      rintro M60 _ ⟨h60, r60, rfl, lr60, ur60, z60_0, z60_1, z60_2, z60_3, z60_4, z60_5, z60_6⟩
      have hS := St.tr hS h60 (by decide) (by decide)
      obtain ⟨s60_120_3, es60_120_3⟩ : ∃ v, rd M60 120 3 = v := ⟨_, rfl⟩
      have bs60_120_3 : 0 ≤ s60_120_3 ∧ s60_120_3 ≤ 3 := by rw [← es60_120_3]; exact ir_120_3 hS.1.2.1
      obtain ⟨s60_120_4, es60_120_4⟩ : ∃ v, rd M60 120 4 = v := ⟨_, rfl⟩
      have bs60_120_4 : 0 ≤ s60_120_4 ∧ s60_120_4 ≤ 900 := by rw [← es60_120_4]; exact ir_120_4 hS.1.2.1
      obtain ⟨s60_120_5, es60_120_5⟩ : ∃ v, rd M60 120 5 = v := ⟨_, rfl⟩
      have bs60_120_5 : 0 ≤ s60_120_5 ∧ s60_120_5 ≤ 900 := by rw [← es60_120_5]; exact ir_120_5 hS.1.2.1
      obtain ⟨s60_120_7, es60_120_7⟩ : ∃ v, rd M60 120 7 = v := ⟨_, rfl⟩
      have bs60_120_7 : (-9223372036854775808) ≤ s60_120_7 ∧ s60_120_7 ≤ 9223372036854775807 := by rw [← es60_120_7]; exact ir_120_7 hS.1.2.1
      obtain ⟨s60_120_8, es60_120_8⟩ : ∃ v, rd M60 120 8 = v := ⟨_, rfl⟩
      have bs60_120_8 : 0 ≤ s60_120_8 ∧ s60_120_8 ≤ 5 := by rw [← es60_120_8]; exact ir_120_8 hS.1.2.1
      obtain ⟨s60_9010_0, es60_9010_0⟩ : ∃ v, tav M60 = v := ⟨_, rfl⟩
      have bs60_9010_0 : (-1) ≤ s60_9010_0 ∧ s60_9010_0 ≤ 1800 := by rw [← es60_9010_0]; exact (tav_b hS.1.2.1)
      rewrite [es60_120_3, es60_120_4, es60_120_5] at z60_0
      replace z60_0 := hd_i z60_0
      rewrite [es60_120_4, es60_120_5] at z60_1
      rewrite [es60_120_3, es60_120_4, es60_120_5, es60_120_7] at z60_2
      replace z60_2 := hd_i z60_2
      rewrite [es60_120_4, es60_120_5, es60_9010_0, kb60_120_4, kb60_120_5, kb60_9010_0] at z60_3
      rewrite [es60_120_8, kb60_120_8] at z60_4
      replace z60_4 := hd_i z60_4
      rewrite [es60_120_8, es60_9010_0, kb60_9010_0] at z60_5
      replace z60_5 := hd_i z60_5
      rewrite [es60_120_8] at z60_6
      replace z60_6 := hd_i z60_6
      refine Tr.sc [(0, r60), (0, 1), (2, 123)] rfl ?_
      have kx_120_8 : rd M60 120 8 = s60_120_8 := es60_120_8
      refine Tr.iastS (pc := 63) (P := St Pm1 ws_X12_declares_120 as_X12_declares_120 M0) d_X12_declares_63 (ty_123 hS.1.1) (by omega) (by omega) (st_123_1 hS (by decide) (by and_intros <;> omega) (Pm1_cache hS.1.2.2.2.2 (by omega) (fun hf => by have hz : 1 ≤ s60_120_8 ∨ (1 ≤ r60 ∧ r60 ≤ 8) := (by first | exact (hd_o z60_6) | exact (hd_o z60_6).elim (fun h1 => by omega) (fun h1 => by omega)); omega))) (fun M63 hS w63 => ?_)
      refine Tr.aload_n (pc := 64) (i := 0) d_X12_declares_64 rfl rfl ?_
      refine Tr.getf (pc := 65) d_X12_declares_65 f_12_57 (by decide) (by decide) (ty_120 hS.1.1) ?_
      refine Tr.tp 124 (fx_120_15 hS.1.1) ?_
      refine Tr.aload_n (pc := 68) (i := 0) d_X12_declares_68 rfl rfl ?_
      refine Tr.getf (pc := 69) d_X12_declares_69 f_12_124 (by decide) (by decide) (ty_120 hS.1.1) ?_
      refine Tr.tp 1 ((St.kp hS (by decide) (by decide) (by decide)).trans en_120_37) ?_
      refine Tr.aload_n (pc := 72) (i := 0) d_X12_declares_72 rfl rfl ?_
      refine Tr.iconst (pc := 73) d_X12_declares_73 (by decide) ?_
      refine Tr.bipush (pc := 74) d_X12_declares_74 rfl (by decide) ?_
      refine Tr.callV (pc := 76) (as := [_, _]) d_X12_declares_76 s_12_516 ok_X12_number rfl rfl (Nat.le_of_ble_eq_true rfl) (Nat.le_of_ble_eq_true rfl) (by decide) (ty_120 hS.1.1) ?_
      have kb76_120_3 : rd M63 120 3 = s60_120_3 := ((Wr.b w63 rfl).trans es60_120_3)
      have kb76_120_4 : rd M63 120 4 = s60_120_4 := ((Wr.b w63 rfl).trans es60_120_4)
      have kb76_120_5 : rd M63 120 5 = s60_120_5 := ((Wr.b w63 rfl).trans es60_120_5)
      have kb76_120_7 : rd M63 120 7 = s60_120_7 := ((Wr.b w63 rfl).trans es60_120_7)
      have kb76_120_8 : rd M63 120 8 = s60_120_8 := ((Wr.b w63 rfl).trans es60_120_8)
      have kb76_9010_0 : tav M63 = s60_9010_0 := ((tav_of ((Wr.b w63 rfl).trans rfl) ((Wr.b w63 rfl).trans rfl)).trans es60_9010_0)
      refine Tr.imp (Tr.deep (by decide) (sp_X12_number_120 hS.1 1 (by omega) 8 (by omega) (by first | exact (hd_o z60_0) | exact (hd_o z60_0).elim (fun h1 => by omega) (fun h1 => by omega)) (by omega) (by first | exact (hd_o z60_2) | exact (hd_o z60_2).elim (fun h1 => by omega) (fun h1 => h1.elim (fun h1 => by omega) (fun h1 => by omega))))) ?_
      rintro M76 _ ⟨h76, r76, rfl, lr76, ur76, z76_0, z76_1, z76_2, z76_3, z76_4, z76_5, z76_6⟩
      have hS := St.tr hS h76 (by decide) (by decide)
      obtain ⟨s76_120_3, es76_120_3⟩ : ∃ v, rd M76 120 3 = v := ⟨_, rfl⟩
      have bs76_120_3 : 0 ≤ s76_120_3 ∧ s76_120_3 ≤ 3 := by rw [← es76_120_3]; exact ir_120_3 hS.1.2.1
      obtain ⟨s76_120_4, es76_120_4⟩ : ∃ v, rd M76 120 4 = v := ⟨_, rfl⟩
      have bs76_120_4 : 0 ≤ s76_120_4 ∧ s76_120_4 ≤ 900 := by rw [← es76_120_4]; exact ir_120_4 hS.1.2.1
      obtain ⟨s76_120_5, es76_120_5⟩ : ∃ v, rd M76 120 5 = v := ⟨_, rfl⟩
      have bs76_120_5 : 0 ≤ s76_120_5 ∧ s76_120_5 ≤ 900 := by rw [← es76_120_5]; exact ir_120_5 hS.1.2.1
      obtain ⟨s76_120_7, es76_120_7⟩ : ∃ v, rd M76 120 7 = v := ⟨_, rfl⟩
      have bs76_120_7 : (-9223372036854775808) ≤ s76_120_7 ∧ s76_120_7 ≤ 9223372036854775807 := by rw [← es76_120_7]; exact ir_120_7 hS.1.2.1
      obtain ⟨s76_120_8, es76_120_8⟩ : ∃ v, rd M76 120 8 = v := ⟨_, rfl⟩
      have bs76_120_8 : 0 ≤ s76_120_8 ∧ s76_120_8 ≤ 5 := by rw [← es76_120_8]; exact ir_120_8 hS.1.2.1
      obtain ⟨s76_9010_0, es76_9010_0⟩ : ∃ v, tav M76 = v := ⟨_, rfl⟩
      have bs76_9010_0 : (-1) ≤ s76_9010_0 ∧ s76_9010_0 ≤ 1800 := by rw [← es76_9010_0]; exact (tav_b hS.1.2.1)
      rewrite [es76_120_3, es76_120_4, es76_120_5] at z76_0
      replace z76_0 := hd_i z76_0
      rewrite [es76_120_4, es76_120_5] at z76_1
      rewrite [es76_120_3, es76_120_4, es76_120_5, es76_120_7] at z76_2
      replace z76_2 := hd_i z76_2
      rewrite [es76_120_4, es76_120_5, es76_9010_0, kb76_120_4, kb76_120_5, kb76_9010_0] at z76_3
      rewrite [es76_120_8, kb76_120_8] at z76_4
      replace z76_4 := hd_i z76_4
      rewrite [es76_120_8, es76_9010_0, kb76_9010_0] at z76_5
      replace z76_5 := hd_i z76_5
      rewrite [es76_120_8] at z76_6
      replace z76_6 := hd_i z76_6
      refine Tr.sc [(0, r76), (0, 1), (2, 124)] rfl ?_
      have kx_120_8 : rd M76 120 8 = s76_120_8 := es76_120_8
      refine Tr.iastS (pc := 79) (P := St Pm1 ws_X12_declares_120 as_X12_declares_120 M0) d_X12_declares_79 (ty_124 hS.1.1) (by omega) (by omega) (st_124_1 hS (by decide) (by and_intros <;> omega) (Pm1_cache hS.1.2.2.2.2 (by omega) (fun hf => by have hz : 1 ≤ s76_120_8 ∨ (1 ≤ r76 ∧ r76 ≤ 8) := (by first | exact (hd_o z76_6) | exact (hd_o z76_6).elim (fun h1 => by omega) (fun h1 => by omega)); omega))) (fun M79 hS w79 => ?_)
      refine Tr.aload_n (pc := 80) (i := 0) d_X12_declares_80 rfl rfl ?_
      refine Tr.getf (pc := 81) d_X12_declares_81 f_12_60 (by decide) (by decide) (ty_120 hS.1.1) ?_
      refine Tr.tp 125 (fx_120_16 hS.1.1) ?_
      refine Tr.aload_n (pc := 84) (i := 0) d_X12_declares_84 rfl rfl ?_
      refine Tr.getf (pc := 85) d_X12_declares_85 f_12_124 (by decide) (by decide) (ty_120 hS.1.1) ?_
      refine Tr.tp 1 ((St.kp hS (by decide) (by decide) (by decide)).trans en_120_37) ?_
      refine Tr.aload_n (pc := 88) (i := 0) d_X12_declares_88 rfl rfl ?_
      refine Tr.iconst (pc := 89) d_X12_declares_89 (by decide) ?_
      refine Tr.bipush (pc := 90) d_X12_declares_90 rfl (by decide) ?_
      refine Tr.callV (pc := 92) (as := [_, _]) d_X12_declares_92 s_12_516 ok_X12_number rfl rfl (Nat.le_of_ble_eq_true rfl) (Nat.le_of_ble_eq_true rfl) (by decide) (ty_120 hS.1.1) ?_
      have kb92_120_3 : rd M79 120 3 = s76_120_3 := ((Wr.b w79 rfl).trans es76_120_3)
      have kb92_120_4 : rd M79 120 4 = s76_120_4 := ((Wr.b w79 rfl).trans es76_120_4)
      have kb92_120_5 : rd M79 120 5 = s76_120_5 := ((Wr.b w79 rfl).trans es76_120_5)
      have kb92_120_7 : rd M79 120 7 = s76_120_7 := ((Wr.b w79 rfl).trans es76_120_7)
      have kb92_120_8 : rd M79 120 8 = s76_120_8 := ((Wr.b w79 rfl).trans es76_120_8)
      have kb92_9010_0 : tav M79 = s76_9010_0 := ((tav_of ((Wr.b w79 rfl).trans rfl) ((Wr.b w79 rfl).trans rfl)).trans es76_9010_0)
      refine Tr.imp (Tr.deep (by decide) (sp_X12_number_120 hS.1 0 (by omega) 20 (by omega) (by first | exact (hd_o z76_0) | exact (hd_o z76_0).elim (fun h1 => by omega) (fun h1 => by omega)) (by omega) (by first | exact (hd_o z76_2) | exact (hd_o z76_2).elim (fun h1 => by omega) (fun h1 => h1.elim (fun h1 => by omega) (fun h1 => by omega))))) ?_
      rintro M92 _ ⟨h92, r92, rfl, lr92, ur92, z92_0, z92_1, z92_2, z92_3, z92_4, z92_5, z92_6⟩
      have hS := St.tr hS h92 (by decide) (by decide)
      obtain ⟨s92_120_3, es92_120_3⟩ : ∃ v, rd M92 120 3 = v := ⟨_, rfl⟩
      have bs92_120_3 : 0 ≤ s92_120_3 ∧ s92_120_3 ≤ 3 := by rw [← es92_120_3]; exact ir_120_3 hS.1.2.1
      obtain ⟨s92_120_4, es92_120_4⟩ : ∃ v, rd M92 120 4 = v := ⟨_, rfl⟩
      have bs92_120_4 : 0 ≤ s92_120_4 ∧ s92_120_4 ≤ 900 := by rw [← es92_120_4]; exact ir_120_4 hS.1.2.1
      obtain ⟨s92_120_5, es92_120_5⟩ : ∃ v, rd M92 120 5 = v := ⟨_, rfl⟩
      have bs92_120_5 : 0 ≤ s92_120_5 ∧ s92_120_5 ≤ 900 := by rw [← es92_120_5]; exact ir_120_5 hS.1.2.1
      obtain ⟨s92_120_7, es92_120_7⟩ : ∃ v, rd M92 120 7 = v := ⟨_, rfl⟩
      have bs92_120_7 : (-9223372036854775808) ≤ s92_120_7 ∧ s92_120_7 ≤ 9223372036854775807 := by rw [← es92_120_7]; exact ir_120_7 hS.1.2.1
      obtain ⟨s92_120_8, es92_120_8⟩ : ∃ v, rd M92 120 8 = v := ⟨_, rfl⟩
      have bs92_120_8 : 0 ≤ s92_120_8 ∧ s92_120_8 ≤ 5 := by rw [← es92_120_8]; exact ir_120_8 hS.1.2.1
      obtain ⟨s92_9010_0, es92_9010_0⟩ : ∃ v, tav M92 = v := ⟨_, rfl⟩
      have bs92_9010_0 : (-1) ≤ s92_9010_0 ∧ s92_9010_0 ≤ 1800 := by rw [← es92_9010_0]; exact (tav_b hS.1.2.1)
      rewrite [es92_120_3, es92_120_4, es92_120_5] at z92_0
      replace z92_0 := hd_i z92_0
      rewrite [es92_120_4, es92_120_5] at z92_1
      rewrite [es92_120_3, es92_120_4, es92_120_5, es92_120_7] at z92_2
      replace z92_2 := hd_i z92_2
      rewrite [es92_120_4, es92_120_5, es92_9010_0, kb92_120_4, kb92_120_5, kb92_9010_0] at z92_3
      rewrite [es92_120_8, kb92_120_8] at z92_4
      replace z92_4 := hd_i z92_4
      rewrite [es92_120_8, es92_9010_0, kb92_9010_0] at z92_5
      replace z92_5 := hd_i z92_5
      rewrite [es92_120_8] at z92_6
      replace z92_6 := hd_i z92_6
      refine Tr.sc [(0, r92), (0, 1), (2, 125)] rfl ?_
      refine Tr.iastS (pc := 95) (P := St Pm1 ws_X12_declares_120 as_X12_declares_120 M0) d_X12_declares_95 (ty_125 hS.1.1) (by omega) (by omega) (st_125_1 hS (by decide) (by and_intros <;> omega) (Pm1.of hS.1.2.2.2.2 (fun _ => rd_wb _ rfl) (fun _ => rd_wb _ rfl) (fun _ => rd_wb _ rfl) (fun _ => rd_wb _ rfl) (fun _ => rd_wb _ rfl) (fun _ => rd_wb _ rfl) (fun _ => rd_wb _ rfl) (fun _ => rd_wb _ rfl) (fun _ => rd_wb _ rfl) (fun _ => rd_wb _ rfl) (rd_wb _ rfl) (rd_wb _ rfl) (rd_wb _ rfl) (rd_wb _ rfl) (rd_wb _ rfl) (rd_wb _ rfl) (rd_wb _ rfl) (rd_wb _ rfl) (rd_wb _ rfl) (rd_wb _ rfl) (rd_wb _ rfl))) (fun M95 hS w95 => ?_)
      refine Tr.goto (pc := 96) (tgt := 152) d_X12_declares_96 rfl ?_
      refine Tr.pick [0] (ls2 := [(0, (2, 120))]) rfl ?_
      obtain ⟨w152p96_120_6, ew152p96_120_6⟩ : ∃ v, rd M95 120 6 = v := ⟨_, rfl⟩
      have bw152p96_120_6 : (-2147483648) ≤ w152p96_120_6 ∧ w152p96_120_6 ≤ 2147483647 := by rw [← ew152p96_120_6]; exact ir_120_6 hS.1.2.1
      exact J152 _ _ _ _ _ _ _ _ hS (by and_intros <;> omega) (by and_intros <;> omega) (by and_intros <;> omega) (by and_intros <;> omega) (by omega) (by and_intros <;> omega) (by and_intros <;> omega) ((Wr.b w95 rfl).trans es92_120_3) ((Wr.b w95 rfl).trans es92_120_4) ((Wr.b w95 rfl).trans es92_120_5) ew152p96_120_6 ((Wr.b w95 rfl).trans es92_120_7) ((Wr.b w95 rfl).trans es92_120_8) ((tav_of ((Wr.b w95 rfl).trans rfl) ((Wr.b w95 rfl).trans rfl)).trans es92_9010_0) (by first | exact (hd_o z92_0) | exact (hd_o z92_0).elim (fun h1 => by omega) (fun h1 => by omega)) (by omega) (by first | exact (hd_o z92_2) | exact (hd_o z92_2).elim (fun h1 => by omega) (fun h1 => h1.elim (fun h1 => by omega) (fun h1 => by omega))) (by and_intros <;> omega) (by omega)
  · have c7b : 1 ≤ r4 ∧ r4 ≤ 1 := by omega
    replace c7 := hd_i c7
    refine Tr.aload_n (pc := 10) (i := 0) d_X12_declares_10 rfl rfl ?_
    refine Tr.callV (pc := 11) (as := []) d_X12_declares_11 s_12_396 ok_X12_next rfl rfl (Nat.le_of_ble_eq_true rfl) (Nat.le_of_ble_eq_true rfl) (by decide) (ty_120 hS.1.1) ?_
    have kb11_120_3 : rd M4 120 3 = g120_3 := ((St.kp h4 (by decide) (by decide) (by decide)).trans eg120_3)
    have kb11_120_5 : rd M4 120 5 = g120_5 := ((St.kp h4 (by decide) (by decide) (by decide)).trans eg120_5)
    have kb11_120_8 : rd M4 120 8 = g120_8 := ((St.kp h4 (by decide) (by decide) (by decide)).trans eg120_8)
    have kb11_9010_0 : tav M4 = g9010_0 := ((tav_of ((St.kp h4 (by decide) (by decide) (by decide)).trans rfl) ((St.kp h4 (by decide) (by decide) (by decide)).trans rfl)).trans eg9010_0)
    refine Tr.imp (Tr.deep (by decide) (sp_X12_next_120 hS.1 )) ?_
    rintro M11 _ ⟨h11, rfl, z11_0, z11_1, z11_2, z11_3, z11_4, z11_5, z11_6⟩
    have hS := St.tr hS h11 (by decide) (by decide)
    obtain ⟨s11_120_3, es11_120_3⟩ : ∃ v, rd M11 120 3 = v := ⟨_, rfl⟩
    have bs11_120_3 : 0 ≤ s11_120_3 ∧ s11_120_3 ≤ 3 := by rw [← es11_120_3]; exact ir_120_3 hS.1.2.1
    obtain ⟨s11_120_4, es11_120_4⟩ : ∃ v, rd M11 120 4 = v := ⟨_, rfl⟩
    have bs11_120_4 : 0 ≤ s11_120_4 ∧ s11_120_4 ≤ 900 := by rw [← es11_120_4]; exact ir_120_4 hS.1.2.1
    obtain ⟨s11_120_5, es11_120_5⟩ : ∃ v, rd M11 120 5 = v := ⟨_, rfl⟩
    have bs11_120_5 : 0 ≤ s11_120_5 ∧ s11_120_5 ≤ 900 := by rw [← es11_120_5]; exact ir_120_5 hS.1.2.1
    obtain ⟨s11_120_7, es11_120_7⟩ : ∃ v, rd M11 120 7 = v := ⟨_, rfl⟩
    have bs11_120_7 : (-9223372036854775808) ≤ s11_120_7 ∧ s11_120_7 ≤ 9223372036854775807 := by rw [← es11_120_7]; exact ir_120_7 hS.1.2.1
    obtain ⟨s11_120_8, es11_120_8⟩ : ∃ v, rd M11 120 8 = v := ⟨_, rfl⟩
    have bs11_120_8 : 0 ≤ s11_120_8 ∧ s11_120_8 ≤ 5 := by rw [← es11_120_8]; exact ir_120_8 hS.1.2.1
    obtain ⟨s11_9010_0, es11_9010_0⟩ : ∃ v, tav M11 = v := ⟨_, rfl⟩
    have bs11_9010_0 : (-1) ≤ s11_9010_0 ∧ s11_9010_0 ≤ 1800 := by rw [← es11_9010_0]; exact (tav_b hS.1.2.1)
    rewrite [es11_120_3, es11_120_4, es11_120_5] at z11_0
    replace z11_0 := hd_i z11_0
    rewrite [es11_120_4, es11_120_5] at z11_1
    rewrite [es11_120_3, es11_120_4, es11_120_5, es11_120_7] at z11_2
    replace z11_2 := hd_i z11_2
    rewrite [es11_120_4, kb11_120_5] at z11_3
    rewrite [es11_9010_0, kb11_9010_0] at z11_4
    rewrite [es11_9010_0, kb11_120_3, kb11_9010_0] at z11_5
    replace z11_5 := hd_i z11_5
    rewrite [es11_120_8, kb11_120_8] at z11_6
    replace z11_6 := hd_i z11_6
    refine Tr.sc [] rfl ?_
    refine Tr.aload_n (pc := 14) (i := 0) d_X12_declares_14 rfl rfl ?_
    refine Tr.getf (pc := 15) d_X12_declares_15 f_12_51 (by decide) (by decide) (ty_120 hS.1.1) ?_
    refine Tr.tp 122 (fx_120_13 hS.1.1) ?_
    refine Tr.aload_n (pc := 18) (i := 0) d_X12_declares_18 rfl rfl ?_
    refine Tr.getf (pc := 19) d_X12_declares_19 f_12_124 (by decide) (by decide) (ty_120 hS.1.1) ?_
    refine Tr.tp 1 ((St.kp hS (by decide) (by decide) (by decide)).trans en_120_37) ?_
    refine Tr.aload_n (pc := 22) (i := 0) d_X12_declares_22 rfl rfl ?_
    refine Tr.iconst (pc := 23) d_X12_declares_23 (by decide) ?_
    refine Tr.sipush (pc := 24) d_X12_declares_24 rfl (by decide) ?_
    refine Tr.callV (pc := 27) (as := [_, _]) d_X12_declares_27 s_12_516 ok_X12_number rfl rfl (Nat.le_of_ble_eq_true rfl) (Nat.le_of_ble_eq_true rfl) (by decide) (ty_120 hS.1.1) ?_
    have kb27_120_3 : rd M11 120 3 = s11_120_3 := es11_120_3
    have kb27_120_4 : rd M11 120 4 = s11_120_4 := es11_120_4
    have kb27_120_5 : rd M11 120 5 = s11_120_5 := es11_120_5
    have kb27_120_7 : rd M11 120 7 = s11_120_7 := es11_120_7
    have kb27_120_8 : rd M11 120 8 = s11_120_8 := es11_120_8
    have kb27_9010_0 : tav M11 = s11_9010_0 := es11_9010_0
    refine Tr.imp (Tr.deep (by decide) (sp_X12_number_120 hS.1 0 (by omega) 999 (by omega) (by first | exact (hd_o z11_0) | exact (hd_o z11_0).elim (fun h1 => by omega) (fun h1 => by omega)) (by omega) (by first | exact (hd_o z11_2) | exact (hd_o z11_2).elim (fun h1 => by omega) (fun h1 => h1.elim (fun h1 => by omega) (fun h1 => by omega))))) ?_
    rintro M27 _ ⟨h27, r27, rfl, lr27, ur27, z27_0, z27_1, z27_2, z27_3, z27_4, z27_5, z27_6⟩
    have hS := St.tr hS h27 (by decide) (by decide)
    obtain ⟨s27_120_3, es27_120_3⟩ : ∃ v, rd M27 120 3 = v := ⟨_, rfl⟩
    have bs27_120_3 : 0 ≤ s27_120_3 ∧ s27_120_3 ≤ 3 := by rw [← es27_120_3]; exact ir_120_3 hS.1.2.1
    obtain ⟨s27_120_4, es27_120_4⟩ : ∃ v, rd M27 120 4 = v := ⟨_, rfl⟩
    have bs27_120_4 : 0 ≤ s27_120_4 ∧ s27_120_4 ≤ 900 := by rw [← es27_120_4]; exact ir_120_4 hS.1.2.1
    obtain ⟨s27_120_5, es27_120_5⟩ : ∃ v, rd M27 120 5 = v := ⟨_, rfl⟩
    have bs27_120_5 : 0 ≤ s27_120_5 ∧ s27_120_5 ≤ 900 := by rw [← es27_120_5]; exact ir_120_5 hS.1.2.1
    obtain ⟨s27_120_7, es27_120_7⟩ : ∃ v, rd M27 120 7 = v := ⟨_, rfl⟩
    have bs27_120_7 : (-9223372036854775808) ≤ s27_120_7 ∧ s27_120_7 ≤ 9223372036854775807 := by rw [← es27_120_7]; exact ir_120_7 hS.1.2.1
    obtain ⟨s27_120_8, es27_120_8⟩ : ∃ v, rd M27 120 8 = v := ⟨_, rfl⟩
    have bs27_120_8 : 0 ≤ s27_120_8 ∧ s27_120_8 ≤ 5 := by rw [← es27_120_8]; exact ir_120_8 hS.1.2.1
    obtain ⟨s27_9010_0, es27_9010_0⟩ : ∃ v, tav M27 = v := ⟨_, rfl⟩
    have bs27_9010_0 : (-1) ≤ s27_9010_0 ∧ s27_9010_0 ≤ 1800 := by rw [← es27_9010_0]; exact (tav_b hS.1.2.1)
    rewrite [es27_120_3, es27_120_4, es27_120_5] at z27_0
    replace z27_0 := hd_i z27_0
    rewrite [es27_120_4, es27_120_5] at z27_1
    rewrite [es27_120_3, es27_120_4, es27_120_5, es27_120_7] at z27_2
    replace z27_2 := hd_i z27_2
    rewrite [es27_120_4, es27_120_5, es27_9010_0, kb27_120_4, kb27_120_5, kb27_9010_0] at z27_3
    rewrite [es27_120_8, kb27_120_8] at z27_4
    replace z27_4 := hd_i z27_4
    rewrite [es27_120_8, es27_9010_0, kb27_9010_0] at z27_5
    replace z27_5 := hd_i z27_5
    rewrite [es27_120_8] at z27_6
    replace z27_6 := hd_i z27_6
    refine Tr.sc [(0, r27), (0, 1), (2, 122)] rfl ?_
    refine Tr.iastS (pc := 30) (P := St Pm1 ws_X12_declares_120 as_X12_declares_120 M0) d_X12_declares_30 (ty_122 hS.1.1) (by omega) (by omega) (st_122_1 hS (by decide) (by and_intros <;> omega) (Pm1.of hS.1.2.2.2.2 (fun _ => rd_wb _ rfl) (fun _ => rd_wb _ rfl) (fun _ => rd_wb _ rfl) (fun _ => rd_wb _ rfl) (fun _ => rd_wb _ rfl) (fun _ => rd_wb _ rfl) (fun _ => rd_wb _ rfl) (fun _ => rd_wb _ rfl) (fun _ => rd_wb _ rfl) (fun _ => rd_wb _ rfl) (rd_wb _ rfl) (rd_wb _ rfl) (rd_wb _ rfl) (rd_wb _ rfl) (rd_wb _ rfl) (rd_wb _ rfl) (rd_wb _ rfl) (rd_wb _ rfl) (rd_wb _ rfl) (rd_wb _ rfl) (rd_wb _ rfl))) (fun M30 hS w30 => ?_)
    refine Tr.goto (pc := 31) (tgt := 152) d_X12_declares_31 rfl ?_
    refine Tr.pick [0] (ls2 := [(0, (2, 120))]) rfl ?_
    obtain ⟨w152p31_120_6, ew152p31_120_6⟩ : ∃ v, rd M30 120 6 = v := ⟨_, rfl⟩
    have bw152p31_120_6 : (-2147483648) ≤ w152p31_120_6 ∧ w152p31_120_6 ≤ 2147483647 := by rw [← ew152p31_120_6]; exact ir_120_6 hS.1.2.1
    exact J152 _ _ _ _ _ _ _ _ hS (by and_intros <;> omega) (by and_intros <;> omega) (by and_intros <;> omega) (by and_intros <;> omega) (by omega) (by and_intros <;> omega) (by and_intros <;> omega) ((Wr.b w30 rfl).trans es27_120_3) ((Wr.b w30 rfl).trans es27_120_4) ((Wr.b w30 rfl).trans es27_120_5) ew152p31_120_6 ((Wr.b w30 rfl).trans es27_120_7) ((Wr.b w30 rfl).trans es27_120_8) ((tav_of ((Wr.b w30 rfl).trans rfl) ((Wr.b w30 rfl).trans rfl)).trans es27_9010_0) (by first | exact (hd_o z27_0) | exact (hd_o z27_0).elim (fun h1 => by omega) (fun h1 => by omega)) (by omega) (by first | exact (hd_o z27_2) | exact (hd_o z27_2).elim (fun h1 => by omega) (fun h1 => h1.elim (fun h1 => by omega) (fun h1 => by omega))) (by and_intros <;> omega) (by omega)

def ws_X12_order_120 : List (Int × Int) := []
def as_X12_order_120 : List Int := []
def q_X12_order_120 (M0 M' : Mem) (r : Option PV) : Prop := St Tru ws_X12_order_120 as_X12_order_120 M0 M' ∧ ∃ v : Int, r = some (0, v) ∧ (-1) ≤ v ∧ v ≤ 8 ∧ (v = -1 ∨ (rd M' 120 3 = 1 ∧ 1 ≤ v ∧ v ≤ 8))
set_option maxRecDepth 100000 in
set_option maxHeartbeats 4000000 in
theorem sp_X12_order_120 {l : Launch} {K : EC} {M0 : Mem} (hI : In Tru M0)    : Tr l K 1 mX12_order 0 [(0, (2, 120))] [] M0 (q_X12_order_120 M0) := by
  have hS : St Tru ws_X12_order_120 as_X12_order_120 M0 M0 := St.rf hI
  obtain ⟨g120_3, eg120_3⟩ : ∃ v, rd M0 120 3 = v := ⟨_, rfl⟩
  have bg120_3 : 0 ≤ g120_3 ∧ g120_3 ≤ 3 := by rw [← eg120_3]; exact ir_120_3 hI.2.1
  obtain ⟨g120_7, eg120_7⟩ : ∃ v, rd M0 120 7 = v := ⟨_, rfl⟩
  have bg120_7 : (-9223372036854775808) ≤ g120_7 ∧ g120_7 ≤ 9223372036854775807 := by rw [← eg120_7]; exact ir_120_7 hI.2.1
  refine Tr.aload_n (pc := 0) (i := 0) d_X12_order_0 rfl rfl ?_
  refine Tr.ldc2 (pc := 1) d_X12_order_1 kl_12_419 (by decide) ?_
  refine Tr.callV (pc := 4) (as := [_]) d_X12_order_4 s_12_484 ok_X12_isWord rfl rfl (Nat.le_of_ble_eq_true rfl) (Nat.le_of_ble_eq_true rfl) (by decide) (ty_120 hS.1.1) ?_
  refine Tr.imp (Tr.deep (by decide) (sp_X12_isWord_120 hS.1 7562612 (by omega))) ?_
  rintro M4 _ ⟨h4, r4, rfl, lr4, ur4, z4_0⟩
  have hS := St.tr hS h4 (by decide) (by decide)
  have ka4_120_3 : rd M4 120 3 = g120_3 := ((St.kp h4 (by decide) (by decide) (by decide)).trans eg120_3)
  have ka4_120_7 : rd M4 120 7 = g120_7 := ((St.kp h4 (by decide) (by decide) (by decide)).trans eg120_7)
  rewrite [ka4_120_3, ka4_120_7] at z4_0
  replace z4_0 := hd_i z4_0
  refine Tr.sc [(0, r4)] rfl ?_
  refine Tr.if_eq (pc := 7) (tgt := 14) d_X12_order_7 rfl (fun c7 => ?_) (fun c7 => ?_)
  · refine Tr.aload_n (pc := 14) (i := 0) d_X12_order_14 rfl rfl ?_
    refine Tr.ldc2 (pc := 15) d_X12_order_15 kl_12_421 (by decide) ?_
    refine Tr.callV (pc := 18) (as := [_]) d_X12_order_18 s_12_484 ok_X12_isWord rfl rfl (Nat.le_of_ble_eq_true rfl) (Nat.le_of_ble_eq_true rfl) (by decide) (ty_120 hS.1.1) ?_
    refine Tr.imp (Tr.deep (by decide) (sp_X12_isWord_120 hS.1 7697253 (by omega))) ?_
    rintro M18 _ ⟨h18, r18, rfl, lr18, ur18, z18_0⟩
    have hS := St.tr hS h18 (by decide) (by decide)
    have ka18_120_3 : rd M18 120 3 = g120_3 := ((St.kp h18 (by decide) (by decide) (by decide)).trans ((St.kp h4 (by decide) (by decide) (by decide)).trans eg120_3))
    have ka18_120_7 : rd M18 120 7 = g120_7 := ((St.kp h18 (by decide) (by decide) (by decide)).trans ((St.kp h4 (by decide) (by decide) (by decide)).trans eg120_7))
    rewrite [ka18_120_3, ka18_120_7] at z18_0
    replace z18_0 := hd_i z18_0
    refine Tr.sc [(0, r18)] rfl ?_
    refine Tr.if_eq (pc := 21) (tgt := 28) d_X12_order_21 rfl (fun c21 => ?_) (fun c21 => ?_)
    · refine Tr.aload_n (pc := 28) (i := 0) d_X12_order_28 rfl rfl ?_
      refine Tr.ldc2 (pc := 29) d_X12_order_29 kl_12_423 (by decide) ?_
      refine Tr.callV (pc := 32) (as := [_]) d_X12_order_32 s_12_484 ok_X12_isWord rfl rfl (Nat.le_of_ble_eq_true rfl) (Nat.le_of_ble_eq_true rfl) (by decide) (ty_120 hS.1.1) ?_
      refine Tr.imp (Tr.deep (by decide) (sp_X12_isWord_120 hS.1 1752132708 (by omega))) ?_
      rintro M32 _ ⟨h32, r32, rfl, lr32, ur32, z32_0⟩
      have hS := St.tr hS h32 (by decide) (by decide)
      have ka32_120_3 : rd M32 120 3 = g120_3 := ((St.kp h32 (by decide) (by decide) (by decide)).trans ((St.kp h18 (by decide) (by decide) (by decide)).trans ((St.kp h4 (by decide) (by decide) (by decide)).trans eg120_3)))
      have ka32_120_7 : rd M32 120 7 = g120_7 := ((St.kp h32 (by decide) (by decide) (by decide)).trans ((St.kp h18 (by decide) (by decide) (by decide)).trans ((St.kp h4 (by decide) (by decide) (by decide)).trans eg120_7)))
      rewrite [ka32_120_3, ka32_120_7] at z32_0
      replace z32_0 := hd_i z32_0
      refine Tr.sc [(0, r32)] rfl ?_
      refine Tr.if_eq (pc := 35) (tgt := 42) d_X12_order_35 rfl (fun c35 => ?_) (fun c35 => ?_)
      · refine Tr.aload_n (pc := 42) (i := 0) d_X12_order_42 rfl rfl ?_
        refine Tr.ldc2 (pc := 43) d_X12_order_43 kl_12_425 (by decide) ?_
        refine Tr.callV (pc := 46) (as := [_]) d_X12_order_46 s_12_484 ok_X12_isWord rfl rfl (Nat.le_of_ble_eq_true rfl) (Nat.le_of_ble_eq_true rfl) (by decide) (ty_120 hS.1.1) ?_
        refine Tr.imp (Tr.deep (by decide) (sp_X12_isWord_120 hS.1 1718773093 (by omega))) ?_
        rintro M46 _ ⟨h46, r46, rfl, lr46, ur46, z46_0⟩
        have hS := St.tr hS h46 (by decide) (by decide)
        have ka46_120_3 : rd M46 120 3 = g120_3 := ((St.kp h46 (by decide) (by decide) (by decide)).trans ((St.kp h32 (by decide) (by decide) (by decide)).trans ((St.kp h18 (by decide) (by decide) (by decide)).trans ((St.kp h4 (by decide) (by decide) (by decide)).trans eg120_3))))
        have ka46_120_7 : rd M46 120 7 = g120_7 := ((St.kp h46 (by decide) (by decide) (by decide)).trans ((St.kp h32 (by decide) (by decide) (by decide)).trans ((St.kp h18 (by decide) (by decide) (by decide)).trans ((St.kp h4 (by decide) (by decide) (by decide)).trans eg120_7))))
        rewrite [ka46_120_3, ka46_120_7] at z46_0
        replace z46_0 := hd_i z46_0
        refine Tr.sc [(0, r46)] rfl ?_
        refine Tr.if_eq (pc := 49) (tgt := 56) d_X12_order_49 rfl (fun c49 => ?_) (fun c49 => ?_)
        · refine Tr.aload_n (pc := 56) (i := 0) d_X12_order_56 rfl rfl ?_
          refine Tr.ldc2 (pc := 57) d_X12_order_57 kl_12_427 (by decide) ?_
          refine Tr.callV (pc := 60) (as := [_]) d_X12_order_60 s_12_484 ok_X12_isWord rfl rfl (Nat.le_of_ble_eq_true rfl) (Nat.le_of_ble_eq_true rfl) (by decide) (ty_120 hS.1.1) ?_
          refine Tr.imp (Tr.deep (by decide) (sp_X12_isWord_120 hS.1 2002872692 (by omega))) ?_
          rintro M60 _ ⟨h60, r60, rfl, lr60, ur60, z60_0⟩
          have hS := St.tr hS h60 (by decide) (by decide)
          have ka60_120_3 : rd M60 120 3 = g120_3 := ((St.kp h60 (by decide) (by decide) (by decide)).trans ((St.kp h46 (by decide) (by decide) (by decide)).trans ((St.kp h32 (by decide) (by decide) (by decide)).trans ((St.kp h18 (by decide) (by decide) (by decide)).trans ((St.kp h4 (by decide) (by decide) (by decide)).trans eg120_3)))))
          have ka60_120_7 : rd M60 120 7 = g120_7 := ((St.kp h60 (by decide) (by decide) (by decide)).trans ((St.kp h46 (by decide) (by decide) (by decide)).trans ((St.kp h32 (by decide) (by decide) (by decide)).trans ((St.kp h18 (by decide) (by decide) (by decide)).trans ((St.kp h4 (by decide) (by decide) (by decide)).trans eg120_7)))))
          rewrite [ka60_120_3, ka60_120_7] at z60_0
          replace z60_0 := hd_i z60_0
          refine Tr.sc [(0, r60)] rfl ?_
          refine Tr.if_eq (pc := 63) (tgt := 70) d_X12_order_63 rfl (fun c63 => ?_) (fun c63 => ?_)
          · refine Tr.aload_n (pc := 70) (i := 0) d_X12_order_70 rfl rfl ?_
            refine Tr.ldc2 (pc := 71) d_X12_order_71 kl_12_429 (by decide) ?_
            refine Tr.callV (pc := 74) (as := [_]) d_X12_order_74 s_12_484 ok_X12_isWord rfl rfl (Nat.le_of_ble_eq_true rfl) (Nat.le_of_ble_eq_true rfl) (by decide) (ty_120 hS.1.1) ?_
            refine Tr.imp (Tr.deep (by decide) (sp_X12_isWord_120 hS.1 500086170472 (by omega))) ?_
            rintro M74 _ ⟨h74, r74, rfl, lr74, ur74, z74_0⟩
            have hS := St.tr hS h74 (by decide) (by decide)
            have ka74_120_3 : rd M74 120 3 = g120_3 := ((St.kp h74 (by decide) (by decide) (by decide)).trans ((St.kp h60 (by decide) (by decide) (by decide)).trans ((St.kp h46 (by decide) (by decide) (by decide)).trans ((St.kp h32 (by decide) (by decide) (by decide)).trans ((St.kp h18 (by decide) (by decide) (by decide)).trans ((St.kp h4 (by decide) (by decide) (by decide)).trans eg120_3))))))
            have ka74_120_7 : rd M74 120 7 = g120_7 := ((St.kp h74 (by decide) (by decide) (by decide)).trans ((St.kp h60 (by decide) (by decide) (by decide)).trans ((St.kp h46 (by decide) (by decide) (by decide)).trans ((St.kp h32 (by decide) (by decide) (by decide)).trans ((St.kp h18 (by decide) (by decide) (by decide)).trans ((St.kp h4 (by decide) (by decide) (by decide)).trans eg120_7))))))
            rewrite [ka74_120_3, ka74_120_7] at z74_0
            replace z74_0 := hd_i z74_0
            refine Tr.sc [(0, r74)] rfl ?_
            refine Tr.if_eq (pc := 77) (tgt := 85) d_X12_order_77 rfl (fun c77 => ?_) (fun c77 => ?_)
            · refine Tr.aload_n (pc := 85) (i := 0) d_X12_order_85 rfl rfl ?_
              refine Tr.ldc2 (pc := 86) d_X12_order_86 kl_12_431 (by decide) ?_
              refine Tr.callV (pc := 89) (as := [_]) d_X12_order_89 s_12_484 ok_X12_isWord rfl rfl (Nat.le_of_ble_eq_true rfl) (Nat.le_of_ble_eq_true rfl) (by decide) (ty_120 hS.1.1) ?_
              refine Tr.imp (Tr.deep (by decide) (sp_X12_isWord_120 hS.1 26982 (by omega))) ?_
              rintro M89 _ ⟨h89, r89, rfl, lr89, ur89, z89_0⟩
              have hS := St.tr hS h89 (by decide) (by decide)
              have ka89_120_3 : rd M89 120 3 = g120_3 := ((St.kp h89 (by decide) (by decide) (by decide)).trans ((St.kp h74 (by decide) (by decide) (by decide)).trans ((St.kp h60 (by decide) (by decide) (by decide)).trans ((St.kp h46 (by decide) (by decide) (by decide)).trans ((St.kp h32 (by decide) (by decide) (by decide)).trans ((St.kp h18 (by decide) (by decide) (by decide)).trans ((St.kp h4 (by decide) (by decide) (by decide)).trans eg120_3)))))))
              have ka89_120_7 : rd M89 120 7 = g120_7 := ((St.kp h89 (by decide) (by decide) (by decide)).trans ((St.kp h74 (by decide) (by decide) (by decide)).trans ((St.kp h60 (by decide) (by decide) (by decide)).trans ((St.kp h46 (by decide) (by decide) (by decide)).trans ((St.kp h32 (by decide) (by decide) (by decide)).trans ((St.kp h18 (by decide) (by decide) (by decide)).trans ((St.kp h4 (by decide) (by decide) (by decide)).trans eg120_7)))))))
              rewrite [ka89_120_3, ka89_120_7] at z89_0
              replace z89_0 := hd_i z89_0
              refine Tr.sc [(0, r89)] rfl ?_
              refine Tr.if_eq (pc := 92) (tgt := 100) d_X12_order_92 rfl (fun c92 => ?_) (fun c92 => ?_)
              · refine Tr.aload_n (pc := 100) (i := 0) d_X12_order_100 rfl rfl ?_
                refine Tr.ldc2 (pc := 101) d_X12_order_101 kl_12_435 (by decide) ?_
                refine Tr.callV (pc := 104) (as := [_]) d_X12_order_104 s_12_484 ok_X12_isWord rfl rfl (Nat.le_of_ble_eq_true rfl) (Nat.le_of_ble_eq_true rfl) (by decide) (ty_120 hS.1.1) ?_
                refine Tr.imp (Tr.deep (by decide) (sp_X12_isWord_120 hS.1 512852847717 (by omega))) ?_
                rintro M104 _ ⟨h104, r104, rfl, lr104, ur104, z104_0⟩
                have hS := St.tr hS h104 (by decide) (by decide)
                have ka104_120_3 : rd M104 120 3 = g120_3 := ((St.kp h104 (by decide) (by decide) (by decide)).trans ((St.kp h89 (by decide) (by decide) (by decide)).trans ((St.kp h74 (by decide) (by decide) (by decide)).trans ((St.kp h60 (by decide) (by decide) (by decide)).trans ((St.kp h46 (by decide) (by decide) (by decide)).trans ((St.kp h32 (by decide) (by decide) (by decide)).trans ((St.kp h18 (by decide) (by decide) (by decide)).trans ((St.kp h4 (by decide) (by decide) (by decide)).trans eg120_3))))))))
                have ka104_120_7 : rd M104 120 7 = g120_7 := ((St.kp h104 (by decide) (by decide) (by decide)).trans ((St.kp h89 (by decide) (by decide) (by decide)).trans ((St.kp h74 (by decide) (by decide) (by decide)).trans ((St.kp h60 (by decide) (by decide) (by decide)).trans ((St.kp h46 (by decide) (by decide) (by decide)).trans ((St.kp h32 (by decide) (by decide) (by decide)).trans ((St.kp h18 (by decide) (by decide) (by decide)).trans ((St.kp h4 (by decide) (by decide) (by decide)).trans eg120_7))))))))
                rewrite [ka104_120_3, ka104_120_7] at z104_0
                replace z104_0 := hd_i z104_0
                refine Tr.sc [(0, r104)] rfl ?_
                refine Tr.if_eq (pc := 107) (tgt := 115) d_X12_order_107 rfl (fun c107 => ?_) (fun c107 => ?_)
                · refine Tr.iconst (pc := 115) d_X12_order_115 (by decide) ?_
                  have kr_120_3 : rd M104 120 3 = g120_3 := ((St.kp h104 (by decide) (by decide) (by decide)).trans ((St.kp h89 (by decide) (by decide) (by decide)).trans ((St.kp h74 (by decide) (by decide) (by decide)).trans ((St.kp h60 (by decide) (by decide) (by decide)).trans ((St.kp h46 (by decide) (by decide) (by decide)).trans ((St.kp h32 (by decide) (by decide) (by decide)).trans ((St.kp h18 (by decide) (by decide) (by decide)).trans ((St.kp h4 (by decide) (by decide) (by decide)).trans eg120_3))))))))
                  exact Tr.iret (pc := 116) d_X12_order_116 rfl ⟨hS, _, rfl, by omega, by omega, (by omega)⟩
                · have c107b : 1 ≤ r104 ∧ r104 ≤ 1 := by omega
                  replace c107 := hd_i c107
                  refine Tr.bipush (pc := 110) d_X12_order_110 rfl (by decide) ?_
                  refine Tr.goto (pc := 112) (tgt := 116) d_X12_order_112 rfl ?_
                  have kr_120_3 : rd M104 120 3 = g120_3 := ((St.kp h104 (by decide) (by decide) (by decide)).trans ((St.kp h89 (by decide) (by decide) (by decide)).trans ((St.kp h74 (by decide) (by decide) (by decide)).trans ((St.kp h60 (by decide) (by decide) (by decide)).trans ((St.kp h46 (by decide) (by decide) (by decide)).trans ((St.kp h32 (by decide) (by decide) (by decide)).trans ((St.kp h18 (by decide) (by decide) (by decide)).trans ((St.kp h4 (by decide) (by decide) (by decide)).trans eg120_3))))))))
                  exact Tr.iret (pc := 116) d_X12_order_116 rfl ⟨hS, _, rfl, by omega, by omega, (by exact (hd_o z104_0).elim (fun h1 => by omega) (fun h1 => by omega))⟩
              · have c92b : 1 ≤ r89 ∧ r89 ≤ 1 := by omega
                replace c92 := hd_i c92
                refine Tr.bipush (pc := 95) d_X12_order_95 rfl (by decide) ?_
                refine Tr.goto (pc := 97) (tgt := 116) d_X12_order_97 rfl ?_
                have kr_120_3 : rd M89 120 3 = g120_3 := ((St.kp h89 (by decide) (by decide) (by decide)).trans ((St.kp h74 (by decide) (by decide) (by decide)).trans ((St.kp h60 (by decide) (by decide) (by decide)).trans ((St.kp h46 (by decide) (by decide) (by decide)).trans ((St.kp h32 (by decide) (by decide) (by decide)).trans ((St.kp h18 (by decide) (by decide) (by decide)).trans ((St.kp h4 (by decide) (by decide) (by decide)).trans eg120_3)))))))
                exact Tr.iret (pc := 116) d_X12_order_116 rfl ⟨hS, _, rfl, by omega, by omega, (by exact (hd_o z89_0).elim (fun h1 => by omega) (fun h1 => by omega))⟩
            · have c77b : 1 ≤ r74 ∧ r74 ≤ 1 := by omega
              replace c77 := hd_i c77
              refine Tr.bipush (pc := 80) d_X12_order_80 rfl (by decide) ?_
              refine Tr.goto (pc := 82) (tgt := 116) d_X12_order_82 rfl ?_
              have kr_120_3 : rd M74 120 3 = g120_3 := ((St.kp h74 (by decide) (by decide) (by decide)).trans ((St.kp h60 (by decide) (by decide) (by decide)).trans ((St.kp h46 (by decide) (by decide) (by decide)).trans ((St.kp h32 (by decide) (by decide) (by decide)).trans ((St.kp h18 (by decide) (by decide) (by decide)).trans ((St.kp h4 (by decide) (by decide) (by decide)).trans eg120_3))))))
              exact Tr.iret (pc := 116) d_X12_order_116 rfl ⟨hS, _, rfl, by omega, by omega, (by exact (hd_o z74_0).elim (fun h1 => by omega) (fun h1 => by omega))⟩
          · have c63b : 1 ≤ r60 ∧ r60 ≤ 1 := by omega
            replace c63 := hd_i c63
            refine Tr.iconst (pc := 66) d_X12_order_66 (by decide) ?_
            refine Tr.goto (pc := 67) (tgt := 116) d_X12_order_67 rfl ?_
            have kr_120_3 : rd M60 120 3 = g120_3 := ((St.kp h60 (by decide) (by decide) (by decide)).trans ((St.kp h46 (by decide) (by decide) (by decide)).trans ((St.kp h32 (by decide) (by decide) (by decide)).trans ((St.kp h18 (by decide) (by decide) (by decide)).trans ((St.kp h4 (by decide) (by decide) (by decide)).trans eg120_3)))))
            exact Tr.iret (pc := 116) d_X12_order_116 rfl ⟨hS, _, rfl, by omega, by omega, (by exact (hd_o z60_0).elim (fun h1 => by omega) (fun h1 => by omega))⟩
        · have c49b : 1 ≤ r46 ∧ r46 ≤ 1 := by omega
          replace c49 := hd_i c49
          refine Tr.iconst (pc := 52) d_X12_order_52 (by decide) ?_
          refine Tr.goto (pc := 53) (tgt := 116) d_X12_order_53 rfl ?_
          have kr_120_3 : rd M46 120 3 = g120_3 := ((St.kp h46 (by decide) (by decide) (by decide)).trans ((St.kp h32 (by decide) (by decide) (by decide)).trans ((St.kp h18 (by decide) (by decide) (by decide)).trans ((St.kp h4 (by decide) (by decide) (by decide)).trans eg120_3))))
          exact Tr.iret (pc := 116) d_X12_order_116 rfl ⟨hS, _, rfl, by omega, by omega, (by exact (hd_o z46_0).elim (fun h1 => by omega) (fun h1 => by omega))⟩
      · have c35b : 1 ≤ r32 ∧ r32 ≤ 1 := by omega
        replace c35 := hd_i c35
        refine Tr.iconst (pc := 38) d_X12_order_38 (by decide) ?_
        refine Tr.goto (pc := 39) (tgt := 116) d_X12_order_39 rfl ?_
        have kr_120_3 : rd M32 120 3 = g120_3 := ((St.kp h32 (by decide) (by decide) (by decide)).trans ((St.kp h18 (by decide) (by decide) (by decide)).trans ((St.kp h4 (by decide) (by decide) (by decide)).trans eg120_3)))
        exact Tr.iret (pc := 116) d_X12_order_116 rfl ⟨hS, _, rfl, by omega, by omega, (by exact (hd_o z32_0).elim (fun h1 => by omega) (fun h1 => by omega))⟩
    · have c21b : 1 ≤ r18 ∧ r18 ≤ 1 := by omega
      replace c21 := hd_i c21
      refine Tr.iconst (pc := 24) d_X12_order_24 (by decide) ?_
      refine Tr.goto (pc := 25) (tgt := 116) d_X12_order_25 rfl ?_
      have kr_120_3 : rd M18 120 3 = g120_3 := ((St.kp h18 (by decide) (by decide) (by decide)).trans ((St.kp h4 (by decide) (by decide) (by decide)).trans eg120_3))
      exact Tr.iret (pc := 116) d_X12_order_116 rfl ⟨hS, _, rfl, by omega, by omega, (by exact (hd_o z18_0).elim (fun h1 => by omega) (fun h1 => by omega))⟩
  · have c7b : 1 ≤ r4 ∧ r4 ≤ 1 := by omega
    replace c7 := hd_i c7
    refine Tr.iconst (pc := 10) d_X12_order_10 (by decide) ?_
    refine Tr.goto (pc := 11) (tgt := 116) d_X12_order_11 rfl ?_
    have kr_120_3 : rd M4 120 3 = g120_3 := ((St.kp h4 (by decide) (by decide) (by decide)).trans eg120_3)
    exact Tr.iret (pc := 116) d_X12_order_116 rfl ⟨hS, _, rfl, by omega, by omega, (by exact (hd_o z4_0).elim (fun h1 => by omega) (fun h1 => by omega))⟩
