def ws_X12_isWord_120 : List (Int × Int) := []
def as_X12_isWord_120 : List Int := []
def q_X12_isWord_120 (a1 : Int) (M0 M' : Mem) (r : Option PV) : Prop := St Tru ws_X12_isWord_120 as_X12_isWord_120 M0 M' ∧ ∃ v : Int, r = some (0, v) ∧ 0 ≤ v ∧ v ≤ 1 ∧ ((v = 1 ∧ rd M' 120 3 = 1 ∧ rd M' 120 7 = a1) ∨ (v = 0 ∧ (rd M' 120 3 ≠ 1 ∨ rd M' 120 7 ≠ a1)))
set_option maxRecDepth 100000 in
set_option maxHeartbeats 4000000 in
theorem sp_X12_isWord_120 {l : Launch} {K : EC} {M0 : Mem} (hI : In Tru M0)  (a1 : Int) (ha1 : (-9223372036854775808) ≤ a1 ∧ a1 ≤ 9223372036854775807)  : Tr l K 0 mX12_isWord 0 [(0, (2, 120)), (1, (1, a1))] [] M0 (q_X12_isWord_120 a1 M0) := by
  have hS : St Tru ws_X12_isWord_120 as_X12_isWord_120 M0 M0 := St.rf hI
  obtain ⟨g120_3, eg120_3⟩ : ∃ v, rd M0 120 3 = v := ⟨_, rfl⟩
  have bg120_3 : 0 ≤ g120_3 ∧ g120_3 ≤ 3 := by rw [← eg120_3]; exact ir_120_3 hI.2.1
  obtain ⟨g120_7, eg120_7⟩ : ∃ v, rd M0 120 7 = v := ⟨_, rfl⟩
  have bg120_7 : (-9223372036854775808) ≤ g120_7 ∧ g120_7 ≤ 9223372036854775807 := by rw [← eg120_7]; exact ir_120_7 hI.2.1
  refine Tr.aload_n (pc := 0) (i := 0) d_X12_isWord_0 rfl rfl ?_
  refine Tr.getf (pc := 1) d_X12_isWord_1 f_12_20 (by decide) (by decide) (ty_120 hS.1.1) ?_
  refine Tr.tp g120_3 eg120_3 ?_
  refine Tr.iconst (pc := 4) d_X12_isWord_4 (by decide) ?_
  refine Tr.icmp_ne (pc := 5) (tgt := 21) d_X12_isWord_5 rfl (fun c5 => ?_) (fun c5 => ?_)
  · refine Tr.iconst (pc := 21) d_X12_isWord_21 (by decide) ?_
    have kr_120_3 : rd M0 120 3 = g120_3 := eg120_3
    have kr_120_7 : rd M0 120 7 = g120_7 := eg120_7
    exact Tr.zret (pc := 22) d_X12_isWord_22 rfl (by omega) ⟨hS, _, rfl, by omega, by omega, by omega⟩
  · refine Tr.aload_n (pc := 8) (i := 0) d_X12_isWord_8 rfl rfl ?_
    refine Tr.getf (pc := 9) d_X12_isWord_9 f_12_32 (by decide) (by decide) (ty_120 hS.1.1) ?_
    refine Tr.tp g120_7 eg120_7 ?_
    refine Tr.lload_n (pc := 12) (i := 1) d_X12_isWord_12 rfl rfl ?_
    refine Tr.lcmp (pc := 13) d_X12_isWord_13 ?_
    refine Tr.gen (P := fun v => (v = 1 ∧ a1 < g120_7) ∨ (v = 0 ∧ g120_7 = a1) ∨ (v = -1 ∧ g120_7 < a1)) (f_lcmp_c _ _) (fun r13 er13 br13 => ?_)
    refine Tr.if_ne (pc := 14) (tgt := 21) d_X12_isWord_14 rfl (fun c14 => ?_) (fun c14 => ?_)
    · refine Tr.iconst (pc := 21) d_X12_isWord_21 (by decide) ?_
      have kr_120_3 : rd M0 120 3 = g120_3 := eg120_3
      have kr_120_7 : rd M0 120 7 = g120_7 := eg120_7
      exact Tr.zret (pc := 22) d_X12_isWord_22 rfl (by omega) ⟨hS, _, rfl, by omega, by omega, by omega⟩
    · refine Tr.iconst (pc := 17) d_X12_isWord_17 (by decide) ?_
      refine Tr.goto (pc := 18) (tgt := 22) d_X12_isWord_18 rfl ?_
      have kr_120_3 : rd M0 120 3 = g120_3 := eg120_3
      have kr_120_7 : rd M0 120 7 = g120_7 := eg120_7
      exact Tr.zret (pc := 22) d_X12_isWord_22 rfl (by omega) ⟨hS, _, rfl, by omega, by omega, by omega⟩

def ws_X12_counts_120 : List (Int × Int) := [(120, 3), (120, 4), (120, 5), (120, 6), (120, 7), (120, 8), (120, 9)]
def as_X12_counts_120 : List Int := []
def q_X12_counts_120 (a1 : Int) (M0 M' : Mem) (r : Option PV) : Prop := St Pm1 ws_X12_counts_120 as_X12_counts_120 M0 M' ∧ r = none ∧ (rd M' 120 3 = 0 ∨ rd M' 120 4 + 1 ≤ rd M' 120 5) ∧ (rd M' 120 4 ≤ rd M' 120 5) ∧ (rd M' 120 3 ≠ 1 ∨ rd M' 120 4 + 2 ≤ rd M' 120 5 ∨ rd M' 120 7 < 256) ∧ (rd M0 120 4 ≤ rd M' 120 4 ∧ rd M0 120 5 ≤ rd M' 120 5 ∧ 2 * rd M0 120 5 - min (rd M0 120 3) 1 ≤ 2 * rd M' 120 5 - min (rd M' 120 3) 1) ∧ (rd M0 120 8 = 0 ∨ rd M' 120 8 = rd M0 120 8) ∧ (1 ≤ rd M' 120 8 ∨ 2 * rd M0 120 5 - min (rd M0 120 3) 1 < 2 * rd M' 120 5 - min (rd M' 120 3) 1) ∧ (a1 = 0 ∨ 1 ≤ rd M' 120 8)
set_option maxRecDepth 100000 in
set_option maxHeartbeats 4000000 in
theorem sp_X12_counts_120 {l : Launch} {K : EC} {M0 : Mem} (hI : In Pm1 M0)  (a1 : Int) (ha1 : 0 ≤ a1 ∧ a1 ≤ 1)  (hq0 : rd M0 120 3 = 0 ∨ rd M0 120 4 + 1 ≤ rd M0 120 5) (hq1 : rd M0 120 4 ≤ rd M0 120 5) (hq2 : rd M0 120 3 ≠ 1 ∨ rd M0 120 4 + 2 ≤ rd M0 120 5 ∨ rd M0 120 7 < 256) (hq3 : rd M0 120 3 ≠ 0) : Tr l K 2 mX12_counts 0 [(0, (2, 120)), (1, (0, a1))] [] M0 (q_X12_counts_120 a1 M0) := by
  have hS : St Pm1 ws_X12_counts_120 as_X12_counts_120 M0 M0 := St.rf hI
  obtain ⟨g120_8, eg120_8⟩ : ∃ v, rd M0 120 8 = v := ⟨_, rfl⟩
  have bg120_8 : 0 ≤ g120_8 ∧ g120_8 ≤ 5 := by rw [← eg120_8]; exact ir_120_8 hI.2.1
  obtain ⟨g120_3, eg120_3⟩ : ∃ v, rd M0 120 3 = v := ⟨_, rfl⟩
  have bg120_3 : 0 ≤ g120_3 ∧ g120_3 ≤ 3 := by rw [← eg120_3]; exact ir_120_3 hI.2.1
  obtain ⟨g120_4, eg120_4⟩ : ∃ v, rd M0 120 4 = v := ⟨_, rfl⟩
  have bg120_4 : 0 ≤ g120_4 ∧ g120_4 ≤ 900 := by rw [← eg120_4]; exact ir_120_4 hI.2.1
  obtain ⟨g120_5, eg120_5⟩ : ∃ v, rd M0 120 5 = v := ⟨_, rfl⟩
  have bg120_5 : 0 ≤ g120_5 ∧ g120_5 ≤ 900 := by rw [← eg120_5]; exact ir_120_5 hI.2.1
  obtain ⟨g120_7, eg120_7⟩ : ∃ v, rd M0 120 7 = v := ⟨_, rfl⟩
  have bg120_7 : (-9223372036854775808) ≤ g120_7 ∧ g120_7 ≤ 9223372036854775807 := by rw [← eg120_7]; exact ir_120_7 hI.2.1
  refine Tr.iload_n (pc := 0) (i := 1) d_X12_counts_0 rfl rfl ?_
  have J13 : ∀ (M : Mem) (u13_120_8 : Int), St Pm1 ws_X12_counts_120 as_X12_counts_120 M0 M → (0 ≤ u13_120_8 ∧ u13_120_8 ≤ 5) → rd M 120 3 = g120_3 → rd M 120 4 = g120_4 → rd M 120 5 = g120_5 → rd M 120 7 = g120_7 → rd M 120 8 = u13_120_8 → (g120_8 = 0 ∨ u13_120_8 = g120_8) → (a1 = 0 ∨ 1 ≤ u13_120_8) → Tr l K 2 mX12_counts 13 [(0, (2, 120))] [] M (q_X12_counts_120 a1 M0) := by
    intro M u13_120_8 hS bu13_120_8 k13_120_3 k13_120_4 k13_120_5 k13_120_7 k13_120_8 t13_0 t13_1
    refine Tr.aload_n (pc := 13) (i := 0) d_X12_counts_13 rfl rfl ?_
    refine Tr.getf (pc := 14) d_X12_counts_14 f_12_36 (by decide) (by decide) (ty_120 hS.1.1) ?_
    refine Tr.tp u13_120_8 k13_120_8 ?_
    refine Tr.if_ne (pc := 17) (tgt := 24) d_X12_counts_17 rfl (fun c17 => ?_) (fun c17 => ?_)
    · have kr_120_3 : rd M 120 3 = g120_3 := k13_120_3
      have kr_120_4 : rd M 120 4 = g120_4 := k13_120_4
      have kr_120_5 : rd M 120 5 = g120_5 := k13_120_5
      have kr_120_7 : rd M 120 7 = g120_7 := k13_120_7
      have kr_120_8 : rd M 120 8 = u13_120_8 := k13_120_8
      have mnr : min (rd M 120 3) 1 = min (g120_3 : Int) 1 := by rw [kr_120_3]
      have mn0 : min (rd M0 120 3) 1 = min (g120_3) 1 := by rw [eg120_3]
      have mnb : 0 ≤ min (g120_3 : Int) 1 ∧ min (g120_3 : Int) 1 ≤ 1 := by have h9 : (0 : Int) ≤ g120_3 := (by and_intros <;> omega); exact ⟨Int.le_min.2 ⟨h9, by decide⟩, Int.min_le_right _ _⟩
      exact Tr.vret (pc := 24) d_X12_counts_24 rfl ⟨hS, rfl, by omega, by omega, by omega, by omega, by omega, by omega, by omega⟩
    · refine Tr.aload_n (pc := 20) (i := 0) d_X12_counts_20 rfl rfl ?_
      refine Tr.callV (pc := 21) (as := []) d_X12_counts_21 s_12_396 ok_X12_next rfl rfl (Nat.le_of_ble_eq_true rfl) (Nat.le_of_ble_eq_true rfl) (by decide) (ty_120 hS.1.1) ?_
      have kb21_120_3 : rd M 120 3 = g120_3 := k13_120_3
      have kb21_120_5 : rd M 120 5 = g120_5 := k13_120_5
      have kb21_120_8 : rd M 120 8 = u13_120_8 := k13_120_8
      refine Tr.imp (Tr.deep (by decide) (sp_X12_next_120 hS.1 )) ?_
      rintro M21 _ ⟨h21, rfl, z21_0, z21_1, z21_2, z21_3, z21_4, z21_5⟩
      have hS := St.tr hS h21 (by decide) (by decide)
      obtain ⟨s21_120_3, es21_120_3⟩ : ∃ v, rd M21 120 3 = v := ⟨_, rfl⟩
      have bs21_120_3 : 0 ≤ s21_120_3 ∧ s21_120_3 ≤ 3 := by rw [← es21_120_3]; exact ir_120_3 hS.1.2.1
      obtain ⟨s21_120_4, es21_120_4⟩ : ∃ v, rd M21 120 4 = v := ⟨_, rfl⟩
      have bs21_120_4 : 0 ≤ s21_120_4 ∧ s21_120_4 ≤ 900 := by rw [← es21_120_4]; exact ir_120_4 hS.1.2.1
      obtain ⟨s21_120_5, es21_120_5⟩ : ∃ v, rd M21 120 5 = v := ⟨_, rfl⟩
      have bs21_120_5 : 0 ≤ s21_120_5 ∧ s21_120_5 ≤ 900 := by rw [← es21_120_5]; exact ir_120_5 hS.1.2.1
      obtain ⟨s21_120_7, es21_120_7⟩ : ∃ v, rd M21 120 7 = v := ⟨_, rfl⟩
      have bs21_120_7 : (-9223372036854775808) ≤ s21_120_7 ∧ s21_120_7 ≤ 9223372036854775807 := by rw [← es21_120_7]; exact ir_120_7 hS.1.2.1
      obtain ⟨s21_120_8, es21_120_8⟩ : ∃ v, rd M21 120 8 = v := ⟨_, rfl⟩
      have bs21_120_8 : 0 ≤ s21_120_8 ∧ s21_120_8 ≤ 5 := by rw [← es21_120_8]; exact ir_120_8 hS.1.2.1
      refine Tr.sc [] rfl ?_
      have kr_120_3 : rd M21 120 3 = s21_120_3 := es21_120_3
      have kr_120_4 : rd M21 120 4 = s21_120_4 := es21_120_4
      have kr_120_5 : rd M21 120 5 = s21_120_5 := es21_120_5
      have kr_120_7 : rd M21 120 7 = s21_120_7 := es21_120_7
      have kr_120_8 : rd M21 120 8 = s21_120_8 := es21_120_8
      have mnr : min (rd M21 120 3) 1 = min (s21_120_3 : Int) 1 := by rw [kr_120_3]
      have mn0 : min (rd M0 120 3) 1 = min (g120_3) 1 := by rw [eg120_3]
      have mnb : 0 ≤ min (s21_120_3 : Int) 1 ∧ min (s21_120_3 : Int) 1 ≤ 1 := by have h9 : (0 : Int) ≤ s21_120_3 := (by and_intros <;> omega); exact ⟨Int.le_min.2 ⟨h9, by decide⟩, Int.min_le_right _ _⟩
      have mnd : 0 ≤ min (g120_3 : Int) 1 ∧ min (g120_3 : Int) 1 ≤ 1 := by have h9 : (0 : Int) ≤ g120_3 := (by and_intros <;> omega); exact ⟨Int.le_min.2 ⟨h9, by decide⟩, Int.min_le_right _ _⟩
      exact Tr.vret (pc := 24) d_X12_counts_24 rfl ⟨hS, rfl, by omega, by omega, by omega, by omega, by omega, by omega, by omega⟩
  refine Tr.if_eq (pc := 1) (tgt := 13) d_X12_counts_1 rfl (fun c1 => ?_) (fun c1 => ?_)
  · refine Tr.pick [0] (ls2 := [(0, (2, 120))]) rfl ?_
    exact J13 _ _ hS (by and_intros <;> omega) eg120_3 eg120_4 eg120_5 eg120_7 eg120_8 (by first | assumption | omega) (by first | assumption | omega)
  · refine Tr.aload_n (pc := 4) (i := 0) d_X12_counts_4 rfl rfl ?_
    refine Tr.iconst (pc := 5) d_X12_counts_5 (by decide) ?_
    refine Tr.aload_n (pc := 6) (i := 0) d_X12_counts_6 rfl rfl ?_
    refine Tr.getf (pc := 7) d_X12_counts_7 f_12_23 (by decide) (by decide) (ty_120 hS.1.1) ?_
    refine Tr.tp g120_4 eg120_4 ?_
    refine Tr.callV (pc := 10) (as := [_, _]) d_X12_counts_10 s_12_389 ok_X12_blame rfl rfl (Nat.le_of_ble_eq_true rfl) (Nat.le_of_ble_eq_true rfl) (by decide) (ty_120 hS.1.1) ?_
    have kb10_120_8 : rd M0 120 8 = g120_8 := eg120_8
    refine Tr.imp (Tr.deep (by decide) (sp_X12_blame_120 hS.1 5 (by and_intros <;> omega) g120_4 (by and_intros <;> omega))) ?_
    rintro M10 _ ⟨h10, rfl, z10_0⟩
    have hS := St.tr hS h10 (by decide) (by decide)
    obtain ⟨s10_120_8, es10_120_8⟩ : ∃ v, rd M10 120 8 = v := ⟨_, rfl⟩
    have bs10_120_8 : 0 ≤ s10_120_8 ∧ s10_120_8 ≤ 5 := by rw [← es10_120_8]; exact ir_120_8 hS.1.2.1
    refine Tr.sc [] rfl ?_
    refine Tr.pick [0] (ls2 := [(0, (2, 120))]) rfl ?_
    exact J13 _ _ hS (by and_intros <;> omega) ((St.kp h10 (by decide) (by decide) (by decide)).trans eg120_3) ((St.kp h10 (by decide) (by decide) (by decide)).trans eg120_4) ((St.kp h10 (by decide) (by decide) (by decide)).trans eg120_5) ((St.kp h10 (by decide) (by decide) (by decide)).trans eg120_7) es10_120_8 (by first | assumption | omega) (by first | assumption | omega)

def ws_X12_isOwn_120 : List (Int × Int) := []
def as_X12_isOwn_120 : List Int := []
def q_X12_isOwn_120 (M0 M' : Mem) (r : Option PV) : Prop := St Tru ws_X12_isOwn_120 as_X12_isOwn_120 M0 M' ∧ ∃ v : Int, r = some (0, v) ∧ 0 ≤ v ∧ v ≤ 1
set_option maxRecDepth 100000 in
set_option maxHeartbeats 4000000 in
theorem sp_X12_isOwn_120 {l : Launch} {K : EC} {M0 : Mem} (hI : In Tru M0)  (a1 : Int) (ha1 : (-9223372036854775808) ≤ a1 ∧ a1 ≤ 9223372036854775807)  : Tr l K 0 mX12_isOwn 0 [(0, (2, 120)), (1, (1, a1))] [] M0 (q_X12_isOwn_120 M0) := by
  have hS : St Tru ws_X12_isOwn_120 as_X12_isOwn_120 M0 M0 := St.rf hI
  refine Tr.lload_n (pc := 0) (i := 1) d_X12_isOwn_0 rfl rfl ?_
  refine Tr.ldc2 (pc := 1) d_X12_isOwn_1 kl_12_399 (by decide) ?_
  refine Tr.lcmp (pc := 4) d_X12_isOwn_4 ?_
  refine Tr.gen (P := fun v => (v = 1 ∧ 448377483892 < a1) ∨ (v = 0 ∧ a1 = 448377483892) ∨ (v = -1 ∧ a1 < 448377483892)) (f_lcmp_c _ _) (fun r4 er4 br4 => ?_)
  refine Tr.if_eq (pc := 5) (tgt := 40) d_X12_isOwn_5 rfl (fun c5 => ?_) (fun c5 => ?_)
  · refine Tr.iconst (pc := 40) d_X12_isOwn_40 (by decide) ?_
    exact Tr.zret (pc := 41) d_X12_isOwn_41 rfl (by omega) ⟨hS, _, rfl, by omega, by omega⟩
  · refine Tr.lload_n (pc := 8) (i := 1) d_X12_isOwn_8 rfl rfl ?_
    refine Tr.ldc2 (pc := 9) d_X12_isOwn_9 kl_12_401 (by decide) ?_
    refine Tr.lcmp (pc := 12) d_X12_isOwn_12 ?_
    refine Tr.gen (P := fun v => (v = 1 ∧ 426835667045 < a1) ∨ (v = 0 ∧ a1 = 426835667045) ∨ (v = -1 ∧ a1 < 426835667045)) (f_lcmp_c _ _) (fun r12 er12 br12 => ?_)
    refine Tr.if_eq (pc := 13) (tgt := 40) d_X12_isOwn_13 rfl (fun c13 => ?_) (fun c13 => ?_)
    · refine Tr.iconst (pc := 40) d_X12_isOwn_40 (by decide) ?_
      exact Tr.zret (pc := 41) d_X12_isOwn_41 rfl (by omega) ⟨hS, _, rfl, by omega, by omega⟩
    · refine Tr.lload_n (pc := 16) (i := 1) d_X12_isOwn_16 rfl rfl ?_
      refine Tr.ldc2 (pc := 17) d_X12_isOwn_17 kl_12_403 (by decide) ?_
      refine Tr.lcmp (pc := 20) d_X12_isOwn_20 ?_
      refine Tr.gen (P := fun v => (v = 1 ∧ 1885434484 < a1) ∨ (v = 0 ∧ a1 = 1885434484) ∨ (v = -1 ∧ a1 < 1885434484)) (f_lcmp_c _ _) (fun r20 er20 br20 => ?_)
      refine Tr.if_eq (pc := 21) (tgt := 40) d_X12_isOwn_21 rfl (fun c21 => ?_) (fun c21 => ?_)
      · refine Tr.iconst (pc := 40) d_X12_isOwn_40 (by decide) ?_
        exact Tr.zret (pc := 41) d_X12_isOwn_41 rfl (by omega) ⟨hS, _, rfl, by omega, by omega⟩
      · refine Tr.lload_n (pc := 24) (i := 1) d_X12_isOwn_24 rfl rfl ?_
        refine Tr.ldc2 (pc := 25) d_X12_isOwn_25 kl_12_405 (by decide) ?_
        refine Tr.lcmp (pc := 28) d_X12_isOwn_28 ?_
        refine Tr.gen (P := fun v => (v = 1 ∧ 495739823472 < a1) ∨ (v = 0 ∧ a1 = 495739823472) ∨ (v = -1 ∧ a1 < 495739823472)) (f_lcmp_c _ _) (fun r28 er28 br28 => ?_)
        refine Tr.if_eq (pc := 29) (tgt := 40) d_X12_isOwn_29 rfl (fun c29 => ?_) (fun c29 => ?_)
        · refine Tr.iconst (pc := 40) d_X12_isOwn_40 (by decide) ?_
          exact Tr.zret (pc := 41) d_X12_isOwn_41 rfl (by omega) ⟨hS, _, rfl, by omega, by omega⟩
        · refine Tr.lload_n (pc := 32) (i := 1) d_X12_isOwn_32 rfl rfl ?_
          refine Tr.ldc2 (pc := 33) d_X12_isOwn_33 kl_12_407 (by decide) ?_
          refine Tr.lcmp (pc := 36) d_X12_isOwn_36 ?_
          refine Tr.gen (P := fun v => (v = 1 ∧ 2002873189 < a1) ∨ (v = 0 ∧ a1 = 2002873189) ∨ (v = -1 ∧ a1 < 2002873189)) (f_lcmp_c _ _) (fun r36 er36 br36 => ?_)
          refine Tr.if_ne (pc := 37) (tgt := 42) d_X12_isOwn_37 rfl (fun c37 => ?_) (fun c37 => ?_)
          · refine Tr.lload_n (pc := 42) (i := 1) d_X12_isOwn_42 rfl rfl ?_
            refine Tr.ldc2 (pc := 43) d_X12_isOwn_43 kl_12_409 (by decide) ?_
            refine Tr.lcmp (pc := 46) d_X12_isOwn_46 ?_
            refine Tr.gen (P := fun v => (v = 1 ∧ 28526 < a1) ∨ (v = 0 ∧ a1 = 28526) ∨ (v = -1 ∧ a1 < 28526)) (f_lcmp_c _ _) (fun r46 er46 br46 => ?_)
            refine Tr.if_eq (pc := 47) (tgt := 82) d_X12_isOwn_47 rfl (fun c47 => ?_) (fun c47 => ?_)
            · refine Tr.iconst (pc := 82) d_X12_isOwn_82 (by decide) ?_
              exact Tr.zret (pc := 83) d_X12_isOwn_83 rfl (by omega) ⟨hS, _, rfl, by omega, by omega⟩
            · refine Tr.lload_n (pc := 50) (i := 1) d_X12_isOwn_50 rfl rfl ?_
              refine Tr.ldc2 (pc := 51) d_X12_isOwn_51 kl_12_411 (by decide) ?_
              refine Tr.lcmp (pc := 54) d_X12_isOwn_54 ?_
              refine Tr.gen (P := fun v => (v = 1 ∧ 2003792491 < a1) ∨ (v = 0 ∧ a1 = 2003792491) ∨ (v = -1 ∧ a1 < 2003792491)) (f_lcmp_c _ _) (fun r54 er54 br54 => ?_)
              refine Tr.if_eq (pc := 55) (tgt := 82) d_X12_isOwn_55 rfl (fun c55 => ?_) (fun c55 => ?_)
              · refine Tr.iconst (pc := 82) d_X12_isOwn_82 (by decide) ?_
                exact Tr.zret (pc := 83) d_X12_isOwn_83 rfl (by omega) ⟨hS, _, rfl, by omega, by omega⟩
              · refine Tr.lload_n (pc := 58) (i := 1) d_X12_isOwn_58 rfl rfl ?_
                refine Tr.ldc2 (pc := 59) d_X12_isOwn_59 kl_12_413 (by decide) ?_
                refine Tr.lcmp (pc := 62) d_X12_isOwn_62 ?_
                refine Tr.gen (P := fun v => (v = 1 ∧ 1952541036 < a1) ∨ (v = 0 ∧ a1 = 1952541036) ∨ (v = -1 ∧ a1 < 1952541036)) (f_lcmp_c _ _) (fun r62 er62 br62 => ?_)
                refine Tr.if_eq (pc := 63) (tgt := 82) d_X12_isOwn_63 rfl (fun c63 => ?_) (fun c63 => ?_)
                · refine Tr.iconst (pc := 82) d_X12_isOwn_82 (by decide) ?_
                  exact Tr.zret (pc := 83) d_X12_isOwn_83 rfl (by omega) ⟨hS, _, rfl, by omega, by omega⟩
                · refine Tr.lload_n (pc := 66) (i := 1) d_X12_isOwn_66 rfl rfl ?_
                  refine Tr.ldc2 (pc := 67) d_X12_isOwn_67 kl_12_415 (by decide) ?_
                  refine Tr.lcmp (pc := 70) d_X12_isOwn_70 ?_
                  refine Tr.gen (P := fun v => (v = 1 ∧ 452824429940 < a1) ∨ (v = 0 ∧ a1 = 452824429940) ∨ (v = -1 ∧ a1 < 452824429940)) (f_lcmp_c _ _) (fun r70 er70 br70 => ?_)
                  refine Tr.if_eq (pc := 71) (tgt := 82) d_X12_isOwn_71 rfl (fun c71 => ?_) (fun c71 => ?_)
                  · refine Tr.iconst (pc := 82) d_X12_isOwn_82 (by decide) ?_
                    exact Tr.zret (pc := 83) d_X12_isOwn_83 rfl (by omega) ⟨hS, _, rfl, by omega, by omega⟩
                  · refine Tr.lload_n (pc := 74) (i := 1) d_X12_isOwn_74 rfl rfl ?_
                    refine Tr.ldc2 (pc := 75) d_X12_isOwn_75 kl_12_417 (by decide) ?_
                    refine Tr.lcmp (pc := 78) d_X12_isOwn_78 ?_
                    refine Tr.gen (P := fun v => (v = 1 ∧ 7758194 < a1) ∨ (v = 0 ∧ a1 = 7758194) ∨ (v = -1 ∧ a1 < 7758194)) (f_lcmp_c _ _) (fun r78 er78 br78 => ?_)
                    refine Tr.if_ne (pc := 79) (tgt := 84) d_X12_isOwn_79 rfl (fun c79 => ?_) (fun c79 => ?_)
                    · refine Tr.lload_n (pc := 84) (i := 1) d_X12_isOwn_84 rfl rfl ?_
                      refine Tr.ldc2 (pc := 85) d_X12_isOwn_85 kl_12_419 (by decide) ?_
                      refine Tr.lcmp (pc := 88) d_X12_isOwn_88 ?_
                      refine Tr.gen (P := fun v => (v = 1 ∧ 7562612 < a1) ∨ (v = 0 ∧ a1 = 7562612) ∨ (v = -1 ∧ a1 < 7562612)) (f_lcmp_c _ _) (fun r88 er88 br88 => ?_)
                      refine Tr.if_eq (pc := 89) (tgt := 124) d_X12_isOwn_89 rfl (fun c89 => ?_) (fun c89 => ?_)
                      · refine Tr.iconst (pc := 124) d_X12_isOwn_124 (by decide) ?_
                        exact Tr.zret (pc := 125) d_X12_isOwn_125 rfl (by omega) ⟨hS, _, rfl, by omega, by omega⟩
                      · refine Tr.lload_n (pc := 92) (i := 1) d_X12_isOwn_92 rfl rfl ?_
                        refine Tr.ldc2 (pc := 93) d_X12_isOwn_93 kl_12_421 (by decide) ?_
                        refine Tr.lcmp (pc := 96) d_X12_isOwn_96 ?_
                        refine Tr.gen (P := fun v => (v = 1 ∧ 7697253 < a1) ∨ (v = 0 ∧ a1 = 7697253) ∨ (v = -1 ∧ a1 < 7697253)) (f_lcmp_c _ _) (fun r96 er96 br96 => ?_)
                        refine Tr.if_eq (pc := 97) (tgt := 124) d_X12_isOwn_97 rfl (fun c97 => ?_) (fun c97 => ?_)
                        · refine Tr.iconst (pc := 124) d_X12_isOwn_124 (by decide) ?_
                          exact Tr.zret (pc := 125) d_X12_isOwn_125 rfl (by omega) ⟨hS, _, rfl, by omega, by omega⟩
                        · refine Tr.lload_n (pc := 100) (i := 1) d_X12_isOwn_100 rfl rfl ?_
                          refine Tr.ldc2 (pc := 101) d_X12_isOwn_101 kl_12_423 (by decide) ?_
                          refine Tr.lcmp (pc := 104) d_X12_isOwn_104 ?_
                          refine Tr.gen (P := fun v => (v = 1 ∧ 1752132708 < a1) ∨ (v = 0 ∧ a1 = 1752132708) ∨ (v = -1 ∧ a1 < 1752132708)) (f_lcmp_c _ _) (fun r104 er104 br104 => ?_)
                          refine Tr.if_eq (pc := 105) (tgt := 124) d_X12_isOwn_105 rfl (fun c105 => ?_) (fun c105 => ?_)
                          · refine Tr.iconst (pc := 124) d_X12_isOwn_124 (by decide) ?_
                            exact Tr.zret (pc := 125) d_X12_isOwn_125 rfl (by omega) ⟨hS, _, rfl, by omega, by omega⟩
                          · refine Tr.lload_n (pc := 108) (i := 1) d_X12_isOwn_108 rfl rfl ?_
                            refine Tr.ldc2 (pc := 109) d_X12_isOwn_109 kl_12_425 (by decide) ?_
                            refine Tr.lcmp (pc := 112) d_X12_isOwn_112 ?_
                            refine Tr.gen (P := fun v => (v = 1 ∧ 1718773093 < a1) ∨ (v = 0 ∧ a1 = 1718773093) ∨ (v = -1 ∧ a1 < 1718773093)) (f_lcmp_c _ _) (fun r112 er112 br112 => ?_)
                            refine Tr.if_eq (pc := 113) (tgt := 124) d_X12_isOwn_113 rfl (fun c113 => ?_) (fun c113 => ?_)
                            · refine Tr.iconst (pc := 124) d_X12_isOwn_124 (by decide) ?_
                              exact Tr.zret (pc := 125) d_X12_isOwn_125 rfl (by omega) ⟨hS, _, rfl, by omega, by omega⟩
                            · refine Tr.lload_n (pc := 116) (i := 1) d_X12_isOwn_116 rfl rfl ?_
                              refine Tr.ldc2 (pc := 117) d_X12_isOwn_117 kl_12_427 (by decide) ?_
                              refine Tr.lcmp (pc := 120) d_X12_isOwn_120 ?_
                              refine Tr.gen (P := fun v => (v = 1 ∧ 2002872692 < a1) ∨ (v = 0 ∧ a1 = 2002872692) ∨ (v = -1 ∧ a1 < 2002872692)) (f_lcmp_c _ _) (fun r120 er120 br120 => ?_)
                              refine Tr.if_ne (pc := 121) (tgt := 126) d_X12_isOwn_121 rfl (fun c121 => ?_) (fun c121 => ?_)
                              · refine Tr.lload_n (pc := 126) (i := 1) d_X12_isOwn_126 rfl rfl ?_
                                refine Tr.ldc2 (pc := 127) d_X12_isOwn_127 kl_12_429 (by decide) ?_
                                refine Tr.lcmp (pc := 130) d_X12_isOwn_130 ?_
                                refine Tr.gen (P := fun v => (v = 1 ∧ 500086170472 < a1) ∨ (v = 0 ∧ a1 = 500086170472) ∨ (v = -1 ∧ a1 < 500086170472)) (f_lcmp_c _ _) (fun r130 er130 br130 => ?_)
                                refine Tr.if_eq (pc := 131) (tgt := 166) d_X12_isOwn_131 rfl (fun c131 => ?_) (fun c131 => ?_)
                                · refine Tr.iconst (pc := 166) d_X12_isOwn_166 (by decide) ?_
                                  exact Tr.zret (pc := 167) d_X12_isOwn_167 rfl (by omega) ⟨hS, _, rfl, by omega, by omega⟩
                                · refine Tr.lload_n (pc := 134) (i := 1) d_X12_isOwn_134 rfl rfl ?_
                                  refine Tr.ldc2 (pc := 135) d_X12_isOwn_135 kl_12_431 (by decide) ?_
                                  refine Tr.lcmp (pc := 138) d_X12_isOwn_138 ?_
                                  refine Tr.gen (P := fun v => (v = 1 ∧ 26982 < a1) ∨ (v = 0 ∧ a1 = 26982) ∨ (v = -1 ∧ a1 < 26982)) (f_lcmp_c _ _) (fun r138 er138 br138 => ?_)
                                  refine Tr.if_eq (pc := 139) (tgt := 166) d_X12_isOwn_139 rfl (fun c139 => ?_) (fun c139 => ?_)
                                  · refine Tr.iconst (pc := 166) d_X12_isOwn_166 (by decide) ?_
                                    exact Tr.zret (pc := 167) d_X12_isOwn_167 rfl (by omega) ⟨hS, _, rfl, by omega, by omega⟩
                                  · refine Tr.lload_n (pc := 142) (i := 1) d_X12_isOwn_142 rfl rfl ?_
                                    refine Tr.ldc2 (pc := 143) d_X12_isOwn_143 kl_12_433 (by decide) ?_
                                    refine Tr.lcmp (pc := 146) d_X12_isOwn_146 ?_
                                    refine Tr.gen (P := fun v => (v = 1 ∧ 1701606245 < a1) ∨ (v = 0 ∧ a1 = 1701606245) ∨ (v = -1 ∧ a1 < 1701606245)) (f_lcmp_c _ _) (fun r146 er146 br146 => ?_)
                                    refine Tr.if_eq (pc := 147) (tgt := 166) d_X12_isOwn_147 rfl (fun c147 => ?_) (fun c147 => ?_)
                                    · refine Tr.iconst (pc := 166) d_X12_isOwn_166 (by decide) ?_
                                      exact Tr.zret (pc := 167) d_X12_isOwn_167 rfl (by omega) ⟨hS, _, rfl, by omega, by omega⟩
                                    · refine Tr.lload_n (pc := 150) (i := 1) d_X12_isOwn_150 rfl rfl ?_
                                      refine Tr.ldc2 (pc := 151) d_X12_isOwn_151 kl_12_435 (by decide) ?_
                                      refine Tr.lcmp (pc := 154) d_X12_isOwn_154 ?_
                                      refine Tr.gen (P := fun v => (v = 1 ∧ 512852847717 < a1) ∨ (v = 0 ∧ a1 = 512852847717) ∨ (v = -1 ∧ a1 < 512852847717)) (f_lcmp_c _ _) (fun r154 er154 br154 => ?_)
                                      refine Tr.if_eq (pc := 155) (tgt := 166) d_X12_isOwn_155 rfl (fun c155 => ?_) (fun c155 => ?_)
                                      · refine Tr.iconst (pc := 166) d_X12_isOwn_166 (by decide) ?_
                                        exact Tr.zret (pc := 167) d_X12_isOwn_167 rfl (by omega) ⟨hS, _, rfl, by omega, by omega⟩
                                      · refine Tr.lload_n (pc := 158) (i := 1) d_X12_isOwn_158 rfl rfl ?_
                                        refine Tr.ldc2 (pc := 159) d_X12_isOwn_159 kl_12_437 (by decide) ?_
                                        refine Tr.lcmp (pc := 162) d_X12_isOwn_162 ?_
                                        refine Tr.gen (P := fun v => (v = 1 ∧ 28530 < a1) ∨ (v = 0 ∧ a1 = 28530) ∨ (v = -1 ∧ a1 < 28530)) (f_lcmp_c _ _) (fun r162 er162 br162 => ?_)
                                        refine Tr.if_ne (pc := 163) (tgt := 168) d_X12_isOwn_163 rfl (fun c163 => ?_) (fun c163 => ?_)
                                        · refine Tr.lload_n (pc := 168) (i := 1) d_X12_isOwn_168 rfl rfl ?_
                                          refine Tr.ldc2 (pc := 169) d_X12_isOwn_169 kl_12_439 (by decide) ?_
                                          refine Tr.lcmp (pc := 172) d_X12_isOwn_172 ?_
                                          refine Tr.gen (P := fun v => (v = 1 ∧ 6385252 < a1) ∨ (v = 0 ∧ a1 = 6385252) ∨ (v = -1 ∧ a1 < 6385252)) (f_lcmp_c _ _) (fun r172 er172 br172 => ?_)
                                          refine Tr.if_eq (pc := 173) (tgt := 208) d_X12_isOwn_173 rfl (fun c173 => ?_) (fun c173 => ?_)
                                          · refine Tr.iconst (pc := 208) d_X12_isOwn_208 (by decide) ?_
                                            exact Tr.zret (pc := 209) d_X12_isOwn_209 rfl (by omega) ⟨hS, _, rfl, by omega, by omega⟩
                                          · refine Tr.lload_n (pc := 176) (i := 1) d_X12_isOwn_176 rfl rfl ?_
                                            refine Tr.ldc2 (pc := 177) d_X12_isOwn_177 kl_12_441 (by decide) ?_
                                            refine Tr.lcmp (pc := 180) d_X12_isOwn_180 ?_
                                            refine Tr.gen (P := fun v => (v = 1 ∧ 7237492 < a1) ∨ (v = 0 ∧ a1 = 7237492) ∨ (v = -1 ∧ a1 < 7237492)) (f_lcmp_c _ _) (fun r180 er180 br180 => ?_)
                                            refine Tr.if_eq (pc := 181) (tgt := 208) d_X12_isOwn_181 rfl (fun c181 => ?_) (fun c181 => ?_)
                                            · refine Tr.iconst (pc := 208) d_X12_isOwn_208 (by decide) ?_
                                              exact Tr.zret (pc := 209) d_X12_isOwn_209 rfl (by omega) ⟨hS, _, rfl, by omega, by omega⟩
                                            · refine Tr.lload_n (pc := 184) (i := 1) d_X12_isOwn_184 rfl rfl ?_
                                              refine Tr.ldc2 (pc := 185) d_X12_isOwn_185 kl_12_443 (by decide) ?_
                                              refine Tr.lcmp (pc := 188) d_X12_isOwn_188 ?_
                                              refine Tr.gen (P := fun v => (v = 1 ∧ 6384748 < a1) ∨ (v = 0 ∧ a1 = 6384748) ∨ (v = -1 ∧ a1 < 6384748)) (f_lcmp_c _ _) (fun r188 er188 br188 => ?_)
                                              refine Tr.if_eq (pc := 189) (tgt := 208) d_X12_isOwn_189 rfl (fun c189 => ?_) (fun c189 => ?_)
                                              · refine Tr.iconst (pc := 208) d_X12_isOwn_208 (by decide) ?_
                                                exact Tr.zret (pc := 209) d_X12_isOwn_209 rfl (by omega) ⟨hS, _, rfl, by omega, by omega⟩
                                              · refine Tr.lload_n (pc := 192) (i := 1) d_X12_isOwn_192 rfl rfl ?_
                                                refine Tr.ldc2 (pc := 193) d_X12_isOwn_193 kl_12_445 (by decide) ?_
                                                refine Tr.lcmp (pc := 196) d_X12_isOwn_196 ?_
                                                refine Tr.gen (P := fun v => (v = 1 ∧ 1751477348 < a1) ∨ (v = 0 ∧ a1 = 1751477348) ∨ (v = -1 ∧ a1 < 1751477348)) (f_lcmp_c _ _) (fun r196 er196 br196 => ?_)
                                                refine Tr.if_eq (pc := 197) (tgt := 208) d_X12_isOwn_197 rfl (fun c197 => ?_) (fun c197 => ?_)
                                                · refine Tr.iconst (pc := 208) d_X12_isOwn_208 (by decide) ?_
                                                  exact Tr.zret (pc := 209) d_X12_isOwn_209 rfl (by omega) ⟨hS, _, rfl, by omega, by omega⟩
                                                · refine Tr.lload_n (pc := 200) (i := 1) d_X12_isOwn_200 rfl rfl ?_
                                                  refine Tr.ldc2 (pc := 201) d_X12_isOwn_201 kl_12_447 (by decide) ?_
                                                  refine Tr.lcmp (pc := 204) d_X12_isOwn_204 ?_
                                                  refine Tr.gen (P := fun v => (v = 1 ∧ 1953063787 < a1) ∨ (v = 0 ∧ a1 = 1953063787) ∨ (v = -1 ∧ a1 < 1953063787)) (f_lcmp_c _ _) (fun r204 er204 br204 => ?_)
                                                  refine Tr.if_ne (pc := 205) (tgt := 210) d_X12_isOwn_205 rfl (fun c205 => ?_) (fun c205 => ?_)
                                                  · refine Tr.lload_n (pc := 210) (i := 1) d_X12_isOwn_210 rfl rfl ?_
                                                    refine Tr.ldc2 (pc := 211) d_X12_isOwn_211 kl_12_449 (by decide) ?_
                                                    refine Tr.lcmp (pc := 214) d_X12_isOwn_214 ?_
                                                    refine Tr.gen (P := fun v => (v = 1 ∧ 7170414 < a1) ∨ (v = 0 ∧ a1 = 7170414) ∨ (v = -1 ∧ a1 < 7170414)) (f_lcmp_c _ _) (fun r214 er214 br214 => ?_)
                                                    refine Tr.if_eq (pc := 215) (tgt := 226) d_X12_isOwn_215 rfl (fun c215 => ?_) (fun c215 => ?_)
                                                    · refine Tr.iconst (pc := 226) d_X12_isOwn_226 (by decide) ?_
                                                      exact Tr.zret (pc := 227) d_X12_isOwn_227 rfl (by omega) ⟨hS, _, rfl, by omega, by omega⟩
                                                    · refine Tr.lload_n (pc := 218) (i := 1) d_X12_isOwn_218 rfl rfl ?_
                                                      refine Tr.ldc2 (pc := 219) d_X12_isOwn_219 kl_12_451 (by decide) ?_
                                                      refine Tr.lcmp (pc := 222) d_X12_isOwn_222 ?_
                                                      refine Tr.gen (P := fun v => (v = 1 ∧ 7168376 < a1) ∨ (v = 0 ∧ a1 = 7168376) ∨ (v = -1 ∧ a1 < 7168376)) (f_lcmp_c _ _) (fun r222 er222 br222 => ?_)
                                                      refine Tr.if_ne (pc := 223) (tgt := 228) d_X12_isOwn_223 rfl (fun c223 => ?_) (fun c223 => ?_)
                                                      · refine Tr.iconst (pc := 228) d_X12_isOwn_228 (by decide) ?_
                                                        exact Tr.zret (pc := 229) d_X12_isOwn_229 rfl (by omega) ⟨hS, _, rfl, by omega, by omega⟩
                                                      · refine Tr.iconst (pc := 226) d_X12_isOwn_226 (by decide) ?_
                                                        exact Tr.zret (pc := 227) d_X12_isOwn_227 rfl (by omega) ⟨hS, _, rfl, by omega, by omega⟩
                                                  · refine Tr.iconst (pc := 208) d_X12_isOwn_208 (by decide) ?_
                                                    exact Tr.zret (pc := 209) d_X12_isOwn_209 rfl (by omega) ⟨hS, _, rfl, by omega, by omega⟩
                                        · refine Tr.iconst (pc := 166) d_X12_isOwn_166 (by decide) ?_
                                          exact Tr.zret (pc := 167) d_X12_isOwn_167 rfl (by omega) ⟨hS, _, rfl, by omega, by omega⟩
                              · refine Tr.iconst (pc := 124) d_X12_isOwn_124 (by decide) ?_
                                exact Tr.zret (pc := 125) d_X12_isOwn_125 rfl (by omega) ⟨hS, _, rfl, by omega, by omega⟩
                    · refine Tr.iconst (pc := 82) d_X12_isOwn_82 (by decide) ?_
                      exact Tr.zret (pc := 83) d_X12_isOwn_83 rfl (by omega) ⟨hS, _, rfl, by omega, by omega⟩
          · refine Tr.iconst (pc := 40) d_X12_isOwn_40 (by decide) ?_
            exact Tr.zret (pc := 41) d_X12_isOwn_41 rfl (by omega) ⟨hS, _, rfl, by omega, by omega⟩

def ws_X12_partOf_120 : List (Int × Int) := []
def as_X12_partOf_120 : List Int := []
def q_X12_partOf_120 (M0 M' : Mem) (r : Option PV) : Prop := St Tru ws_X12_partOf_120 as_X12_partOf_120 M0 M' ∧ ∃ v : Int, r = some (0, v) ∧ (-1) ≤ v ∧ v ≤ 5
set_option maxRecDepth 100000 in
set_option maxHeartbeats 4000000 in
theorem sp_X12_partOf_120 {l : Launch} {K : EC} {M0 : Mem} (hI : In Tru M0) (en_120_37 : rd M0 120 37 = 1) (a1 : Int) (ha1 : (-9223372036854775808) ≤ a1 ∧ a1 ≤ 9223372036854775807)  : Tr l K 0 mX12_partOf 0 [(0, (2, 120)), (1, (1, a1))] [] M0 (q_X12_partOf_120 M0) := by
  have hS : St Tru ws_X12_partOf_120 as_X12_partOf_120 M0 M0 := St.rf hI
  refine Tr.iconst (pc := 0) d_X12_partOf_0 (by decide) ?_
  refine Tr.istore_n (pc := 1) (i := 3) (ls2 := [(3, (0, 0)), (0, (2, 120)), (1, (1, a1))]) d_X12_partOf_1 rfl (by decide) rfl ?_
  have J2 : ∀ (n2 : Nat) (M : Mem) (p2_3 : Int), St Tru ws_X12_partOf_120 as_X12_partOf_120 M0 M → (0 ≤ p2_3 ∧ p2_3 ≤ 6) → (6 - p2_3).toNat < n2 → Tr l K 0 mX12_partOf 2 [(0, (2, 120)), (1, (1, a1)), (3, (0, p2_3))] [] M (q_X12_partOf_120 M0) := by
    intro n2
    induction n2 with
    | zero => intro M p2_3 hS bp2_3  hm2; exact absurd hm2 (Nat.not_lt_zero _)
    | succ n2 J2 =>
      intro M p2_3 hS bp2_3  hm2
      refine Tr.iload_n (pc := 2) (i := 3) d_X12_partOf_2 rfl rfl ?_
      refine Tr.aload_n (pc := 3) (i := 0) d_X12_partOf_3 rfl rfl ?_
      refine Tr.getf (pc := 4) d_X12_partOf_4 f_12_63 (by decide) (by decide) (ty_120 hS.1.1) ?_
      refine Tr.tp 126 (fx_120_17 hS.1.1) ?_
      refine Tr.aload_n (pc := 7) (i := 0) d_X12_partOf_7 rfl rfl ?_
      refine Tr.getf (pc := 8) d_X12_partOf_8 f_12_124 (by decide) (by decide) (ty_120 hS.1.1) ?_
      refine Tr.tp 1 ((St.kp hS (by decide) (by decide) (by decide)).trans en_120_37) ?_
      refine Tr.iald (pc := 11) d_X12_partOf_11 (ty_126 hS.1.1) (by omega) (by omega) ?_
      refine Tr.gen (P := fun v => 0 ≤ v ∧ v ≤ 6) (ir_126_1 hS.1.2.1) (fun r11 er11 br11 => ?_)
      refine Tr.icmp_ge (pc := 12) (tgt := 42) d_X12_partOf_12 rfl (fun c12 => ?_) (fun c12 => ?_)
      · refine Tr.iconst (pc := 42) d_X12_partOf_42 (by decide) ?_
        exact Tr.iret (pc := 43) d_X12_partOf_43 rfl ⟨hS, _, rfl, by omega, by omega⟩
      · refine Tr.aload_n (pc := 15) (i := 0) d_X12_partOf_15 rfl rfl ?_
        refine Tr.getf (pc := 16) d_X12_partOf_16 f_12_75 (by decide) (by decide) (ty_120 hS.1.1) ?_
        refine Tr.tp 130 (fx_120_21 hS.1.1) ?_
        refine Tr.bipush (pc := 19) d_X12_partOf_19 rfl (by decide) ?_
        refine Tr.aload_n (pc := 21) (i := 0) d_X12_partOf_21 rfl rfl ?_
        refine Tr.getf (pc := 22) d_X12_partOf_22 f_12_124 (by decide) (by decide) (ty_120 hS.1.1) ?_
        refine Tr.tp 1 ((St.kp hS (by decide) (by decide) (by decide)).trans en_120_37) ?_
        refine Tr.imul (pc := 25) d_X12_partOf_25 ?_
        refine Tr.tp 6 (by decide) ?_
        refine Tr.iload_n (pc := 26) (i := 3) d_X12_partOf_26 rfl rfl ?_
        refine Tr.iadd (pc := 27) d_X12_partOf_27 ?_
        refine Tr.tp (p2_3 + 6) ((w32_id (by omega)).trans (by omega)) ?_
        refine Tr.lald (pc := 28) d_X12_partOf_28 (ty_130 hS.1.1) (by omega) (by omega) ?_
        refine Tr.gen (P := fun v => (-9223372036854775808) ≤ v ∧ v ≤ 9223372036854775807) (ar_130 hS.1.2.1 _) (fun r28 er28 br28 => ?_)
        refine Tr.lload_n (pc := 29) (i := 1) d_X12_partOf_29 rfl rfl ?_
        refine Tr.lcmp (pc := 30) d_X12_partOf_30 ?_
        refine Tr.gen (P := fun v => (v = 1 ∧ a1 < r28) ∨ (v = 0 ∧ r28 = a1) ∨ (v = -1 ∧ r28 < a1)) (f_lcmp_c _ _) (fun r30 er30 br30 => ?_)
        refine Tr.if_ne (pc := 31) (tgt := 36) d_X12_partOf_31 rfl (fun c31 => ?_) (fun c31 => ?_)
        · refine Tr.iincV (pc := 36) (n2 := (p2_3 + 1)) (ls2 := [(3, (0, (p2_3 + 1))), (0, (2, 120)), (1, (1, a1))]) d_X12_partOf_36 rfl (by decide) ((w32_id (by omega)).trans (by omega)) rfl ?_
          refine Tr.goto (pc := 39) (tgt := 2) d_X12_partOf_39 rfl ?_
          refine Tr.pick [1, 2, 0] (ls2 := [(0, (2, 120)), (1, (1, a1)), (3, (0, (p2_3 + 1)))]) rfl ?_
          exact J2 _ _ hS (by omega) (by omega)
        · refine Tr.iload_n (pc := 34) (i := 3) d_X12_partOf_34 rfl rfl ?_
          exact Tr.iret (pc := 35) d_X12_partOf_35 rfl ⟨hS, _, rfl, by omega, by omega⟩
  refine Tr.pick [1, 2, 0] (ls2 := [(0, (2, 120)), (1, (1, a1)), (3, (0, 0))]) rfl ?_
  exact J2 _ _ _ hS (by omega) (Nat.lt_succ_self _)

def ws_X12_inputOf_120 : List (Int × Int) := []
def as_X12_inputOf_120 : List Int := []
def q_X12_inputOf_120 (M0 M' : Mem) (r : Option PV) : Prop := St Tru ws_X12_inputOf_120 as_X12_inputOf_120 M0 M' ∧ ∃ v : Int, r = some (0, v) ∧ (-1) ≤ v ∧ v ≤ 2
set_option maxRecDepth 100000 in
set_option maxHeartbeats 4000000 in
theorem sp_X12_inputOf_120 {l : Launch} {K : EC} {M0 : Mem} (hI : In Tru M0) (en_120_37 : rd M0 120 37 = 1) (a1 : Int) (ha1 : (-9223372036854775808) ≤ a1 ∧ a1 ≤ 9223372036854775807)  : Tr l K 0 mX12_inputOf 0 [(0, (2, 120)), (1, (1, a1))] [] M0 (q_X12_inputOf_120 M0) := by
  have hS : St Tru ws_X12_inputOf_120 as_X12_inputOf_120 M0 M0 := St.rf hI
  refine Tr.iconst (pc := 0) d_X12_inputOf_0 (by decide) ?_
  refine Tr.istore_n (pc := 1) (i := 3) (ls2 := [(3, (0, 0)), (0, (2, 120)), (1, (1, a1))]) d_X12_inputOf_1 rfl (by decide) rfl ?_
  have J2 : ∀ (n2 : Nat) (M : Mem) (p2_3 : Int), St Tru ws_X12_inputOf_120 as_X12_inputOf_120 M0 M → (0 ≤ p2_3 ∧ p2_3 ≤ 3) → (3 - p2_3).toNat < n2 → Tr l K 0 mX12_inputOf 2 [(0, (2, 120)), (1, (1, a1)), (3, (0, p2_3))] [] M (q_X12_inputOf_120 M0) := by
    intro n2
    induction n2 with
    | zero => intro M p2_3 hS bp2_3  hm2; exact absurd hm2 (Nat.not_lt_zero _)
    | succ n2 J2 =>
      intro M p2_3 hS bp2_3  hm2
      refine Tr.iload_n (pc := 2) (i := 3) d_X12_inputOf_2 rfl rfl ?_
      refine Tr.aload_n (pc := 3) (i := 0) d_X12_inputOf_3 rfl rfl ?_
      refine Tr.getf (pc := 4) d_X12_inputOf_4 f_12_66 (by decide) (by decide) (ty_120 hS.1.1) ?_
      refine Tr.tp 127 (fx_120_18 hS.1.1) ?_
      refine Tr.aload_n (pc := 7) (i := 0) d_X12_inputOf_7 rfl rfl ?_
      refine Tr.getf (pc := 8) d_X12_inputOf_8 f_12_124 (by decide) (by decide) (ty_120 hS.1.1) ?_
      refine Tr.tp 1 ((St.kp hS (by decide) (by decide) (by decide)).trans en_120_37) ?_
      refine Tr.iald (pc := 11) d_X12_inputOf_11 (ty_127 hS.1.1) (by omega) (by omega) ?_
      refine Tr.gen (P := fun v => 0 ≤ v ∧ v ≤ 3) (ir_127_1 hS.1.2.1) (fun r11 er11 br11 => ?_)
      refine Tr.icmp_ge (pc := 12) (tgt := 41) d_X12_inputOf_12 rfl (fun c12 => ?_) (fun c12 => ?_)
      · refine Tr.iconst (pc := 41) d_X12_inputOf_41 (by decide) ?_
        exact Tr.iret (pc := 42) d_X12_inputOf_42 rfl ⟨hS, _, rfl, by omega, by omega⟩
      · refine Tr.aload_n (pc := 15) (i := 0) d_X12_inputOf_15 rfl rfl ?_
        refine Tr.getf (pc := 16) d_X12_inputOf_16 f_12_82 (by decide) (by decide) (ty_120 hS.1.1) ?_
        refine Tr.tp 132 (fx_120_23 hS.1.1) ?_
        refine Tr.iconst (pc := 19) d_X12_inputOf_19 (by decide) ?_
        refine Tr.aload_n (pc := 20) (i := 0) d_X12_inputOf_20 rfl rfl ?_
        refine Tr.getf (pc := 21) d_X12_inputOf_21 f_12_124 (by decide) (by decide) (ty_120 hS.1.1) ?_
        refine Tr.tp 1 ((St.kp hS (by decide) (by decide) (by decide)).trans en_120_37) ?_
        refine Tr.imul (pc := 24) d_X12_inputOf_24 ?_
        refine Tr.tp 3 (by decide) ?_
        refine Tr.iload_n (pc := 25) (i := 3) d_X12_inputOf_25 rfl rfl ?_
        refine Tr.iadd (pc := 26) d_X12_inputOf_26 ?_
        refine Tr.tp (p2_3 + 3) ((w32_id (by omega)).trans (by omega)) ?_
        refine Tr.lald (pc := 27) d_X12_inputOf_27 (ty_132 hS.1.1) (by omega) (by omega) ?_
        refine Tr.gen (P := fun v => (-9223372036854775808) ≤ v ∧ v ≤ 9223372036854775807) (ar_132 hS.1.2.1 _) (fun r27 er27 br27 => ?_)
        refine Tr.lload_n (pc := 28) (i := 1) d_X12_inputOf_28 rfl rfl ?_
        refine Tr.lcmp (pc := 29) d_X12_inputOf_29 ?_
        refine Tr.gen (P := fun v => (v = 1 ∧ a1 < r27) ∨ (v = 0 ∧ r27 = a1) ∨ (v = -1 ∧ r27 < a1)) (f_lcmp_c _ _) (fun r29 er29 br29 => ?_)
        refine Tr.if_ne (pc := 30) (tgt := 35) d_X12_inputOf_30 rfl (fun c30 => ?_) (fun c30 => ?_)
        · refine Tr.iincV (pc := 35) (n2 := (p2_3 + 1)) (ls2 := [(3, (0, (p2_3 + 1))), (0, (2, 120)), (1, (1, a1))]) d_X12_inputOf_35 rfl (by decide) ((w32_id (by omega)).trans (by omega)) rfl ?_
          refine Tr.goto (pc := 38) (tgt := 2) d_X12_inputOf_38 rfl ?_
          refine Tr.pick [1, 2, 0] (ls2 := [(0, (2, 120)), (1, (1, a1)), (3, (0, (p2_3 + 1)))]) rfl ?_
          exact J2 _ _ hS (by omega) (by omega)
        · refine Tr.iload_n (pc := 33) (i := 3) d_X12_inputOf_33 rfl rfl ?_
          exact Tr.iret (pc := 34) d_X12_inputOf_34 rfl ⟨hS, _, rfl, by omega, by omega⟩
  refine Tr.pick [1, 2, 0] (ls2 := [(0, (2, 120)), (1, (1, a1)), (3, (0, 0))]) rfl ?_
  exact J2 _ _ _ hS (by omega) (Nat.lt_succ_self _)

def ws_X12_varOf_120 : List (Int × Int) := []
def as_X12_varOf_120 : List Int := []
def q_X12_varOf_120 (M0 M' : Mem) (r : Option PV) : Prop := St Tru ws_X12_varOf_120 as_X12_varOf_120 M0 M' ∧ ∃ v : Int, r = some (0, v) ∧ (-1) ≤ v ∧ v ≤ 5
set_option maxRecDepth 100000 in
set_option maxHeartbeats 4000000 in
theorem sp_X12_varOf_120 {l : Launch} {K : EC} {M0 : Mem} (hI : In Tru M0) (en_120_37 : rd M0 120 37 = 1) (a1 : Int) (ha1 : (-9223372036854775808) ≤ a1 ∧ a1 ≤ 9223372036854775807)  : Tr l K 0 mX12_varOf 0 [(0, (2, 120)), (1, (1, a1))] [] M0 (q_X12_varOf_120 M0) := by
  have hS : St Tru ws_X12_varOf_120 as_X12_varOf_120 M0 M0 := St.rf hI
  refine Tr.iconst (pc := 0) d_X12_varOf_0 (by decide) ?_
  refine Tr.istore_n (pc := 1) (i := 3) (ls2 := [(3, (0, 0)), (0, (2, 120)), (1, (1, a1))]) d_X12_varOf_1 rfl (by decide) rfl ?_
  have J2 : ∀ (n2 : Nat) (M : Mem) (p2_3 : Int), St Tru ws_X12_varOf_120 as_X12_varOf_120 M0 M → (0 ≤ p2_3 ∧ p2_3 ≤ 6) → (6 - p2_3).toNat < n2 → Tr l K 0 mX12_varOf 2 [(0, (2, 120)), (1, (1, a1)), (3, (0, p2_3))] [] M (q_X12_varOf_120 M0) := by
    intro n2
    induction n2 with
    | zero => intro M p2_3 hS bp2_3  hm2; exact absurd hm2 (Nat.not_lt_zero _)
    | succ n2 J2 =>
      intro M p2_3 hS bp2_3  hm2
      refine Tr.iload_n (pc := 2) (i := 3) d_X12_varOf_2 rfl rfl ?_
      refine Tr.aload_n (pc := 3) (i := 0) d_X12_varOf_3 rfl rfl ?_
      refine Tr.getf (pc := 4) d_X12_varOf_4 f_12_69 (by decide) (by decide) (ty_120 hS.1.1) ?_
      refine Tr.tp 128 (fx_120_19 hS.1.1) ?_
      refine Tr.aload_n (pc := 7) (i := 0) d_X12_varOf_7 rfl rfl ?_
      refine Tr.getf (pc := 8) d_X12_varOf_8 f_12_124 (by decide) (by decide) (ty_120 hS.1.1) ?_
      refine Tr.tp 1 ((St.kp hS (by decide) (by decide) (by decide)).trans en_120_37) ?_
      refine Tr.iald (pc := 11) d_X12_varOf_11 (ty_128 hS.1.1) (by omega) (by omega) ?_
      refine Tr.gen (P := fun v => 0 ≤ v ∧ v ≤ 6) (ir_128_1 hS.1.2.1) (fun r11 er11 br11 => ?_)
      refine Tr.icmp_ge (pc := 12) (tgt := 42) d_X12_varOf_12 rfl (fun c12 => ?_) (fun c12 => ?_)
      · refine Tr.iconst (pc := 42) d_X12_varOf_42 (by decide) ?_
        exact Tr.iret (pc := 43) d_X12_varOf_43 rfl ⟨hS, _, rfl, by omega, by omega⟩
      · refine Tr.aload_n (pc := 15) (i := 0) d_X12_varOf_15 rfl rfl ?_
        refine Tr.getf (pc := 16) d_X12_varOf_16 f_12_91 (by decide) (by decide) (ty_120 hS.1.1) ?_
        refine Tr.tp 135 (fx_120_26 hS.1.1) ?_
        refine Tr.bipush (pc := 19) d_X12_varOf_19 rfl (by decide) ?_
        refine Tr.aload_n (pc := 21) (i := 0) d_X12_varOf_21 rfl rfl ?_
        refine Tr.getf (pc := 22) d_X12_varOf_22 f_12_124 (by decide) (by decide) (ty_120 hS.1.1) ?_
        refine Tr.tp 1 ((St.kp hS (by decide) (by decide) (by decide)).trans en_120_37) ?_
        refine Tr.imul (pc := 25) d_X12_varOf_25 ?_
        refine Tr.tp 6 (by decide) ?_
        refine Tr.iload_n (pc := 26) (i := 3) d_X12_varOf_26 rfl rfl ?_
        refine Tr.iadd (pc := 27) d_X12_varOf_27 ?_
        refine Tr.tp (p2_3 + 6) ((w32_id (by omega)).trans (by omega)) ?_
        refine Tr.lald (pc := 28) d_X12_varOf_28 (ty_135 hS.1.1) (by omega) (by omega) ?_
        refine Tr.gen (P := fun v => (-9223372036854775808) ≤ v ∧ v ≤ 9223372036854775807) (ar_135 hS.1.2.1 _) (fun r28 er28 br28 => ?_)
        refine Tr.lload_n (pc := 29) (i := 1) d_X12_varOf_29 rfl rfl ?_
        refine Tr.lcmp (pc := 30) d_X12_varOf_30 ?_
        refine Tr.gen (P := fun v => (v = 1 ∧ a1 < r28) ∨ (v = 0 ∧ r28 = a1) ∨ (v = -1 ∧ r28 < a1)) (f_lcmp_c _ _) (fun r30 er30 br30 => ?_)
        refine Tr.if_ne (pc := 31) (tgt := 36) d_X12_varOf_31 rfl (fun c31 => ?_) (fun c31 => ?_)
        · refine Tr.iincV (pc := 36) (n2 := (p2_3 + 1)) (ls2 := [(3, (0, (p2_3 + 1))), (0, (2, 120)), (1, (1, a1))]) d_X12_varOf_36 rfl (by decide) ((w32_id (by omega)).trans (by omega)) rfl ?_
          refine Tr.goto (pc := 39) (tgt := 2) d_X12_varOf_39 rfl ?_
          refine Tr.pick [1, 2, 0] (ls2 := [(0, (2, 120)), (1, (1, a1)), (3, (0, (p2_3 + 1)))]) rfl ?_
          exact J2 _ _ hS (by omega) (by omega)
        · refine Tr.iload_n (pc := 34) (i := 3) d_X12_varOf_34 rfl rfl ?_
          exact Tr.iret (pc := 35) d_X12_varOf_35 rfl ⟨hS, _, rfl, by omega, by omega⟩
  refine Tr.pick [1, 2, 0] (ls2 := [(0, (2, 120)), (1, (1, a1)), (3, (0, 0))]) rfl ?_
  exact J2 _ _ _ hS (by omega) (Nat.lt_succ_self _)

def ws_X12_fresh_120 : List (Int × Int) := [(120, 3), (120, 4), (120, 5), (120, 6), (120, 7), (120, 8), (120, 9)]
def as_X12_fresh_120 : List Int := []
def q_X12_fresh_120 (M0 M' : Mem) (r : Option PV) : Prop := St Pm1 ws_X12_fresh_120 as_X12_fresh_120 M0 M' ∧ ∃ v : Int, r = some (1, v) ∧ (-9223372036854775808) ≤ v ∧ v ≤ 9223372036854775807 ∧ (rd M' 120 3 = 0 ∨ rd M' 120 4 + 1 ≤ rd M' 120 5) ∧ (rd M' 120 4 ≤ rd M' 120 5) ∧ (rd M' 120 3 ≠ 1 ∨ rd M' 120 4 + 2 ≤ rd M' 120 5 ∨ rd M' 120 7 < 256) ∧ (rd M0 120 4 ≤ rd M' 120 4 ∧ rd M0 120 5 ≤ rd M' 120 5 ∧ 2 * rd M0 120 5 - min (rd M0 120 3) 1 ≤ 2 * rd M' 120 5 - min (rd M' 120 3) 1) ∧ (rd M0 120 8 = 0 ∨ rd M' 120 8 = rd M0 120 8) ∧ (1 ≤ rd M' 120 8 ∨ 2 * rd M0 120 5 - min (rd M0 120 3) 1 < 2 * rd M' 120 5 - min (rd M' 120 3) 1)
set_option maxRecDepth 100000 in
set_option maxHeartbeats 4000000 in
theorem sp_X12_fresh_120 {l : Launch} {K : EC} {M0 : Mem} (hI : In Pm1 M0) (en_120_37 : rd M0 120 37 = 1)   (hq0 : rd M0 120 3 = 0 ∨ rd M0 120 4 + 1 ≤ rd M0 120 5) (hq1 : rd M0 120 4 ≤ rd M0 120 5) (hq2 : rd M0 120 3 ≠ 1 ∨ rd M0 120 4 + 2 ≤ rd M0 120 5 ∨ rd M0 120 7 < 256) : Tr l K 2 mX12_fresh 0 [(0, (2, 120))] [] M0 (q_X12_fresh_120 M0) := by
  have hS : St Pm1 ws_X12_fresh_120 as_X12_fresh_120 M0 M0 := St.rf hI
  obtain ⟨g120_8, eg120_8⟩ : ∃ v, rd M0 120 8 = v := ⟨_, rfl⟩
  have bg120_8 : 0 ≤ g120_8 ∧ g120_8 ≤ 5 := by rw [← eg120_8]; exact ir_120_8 hI.2.1
  obtain ⟨g120_3, eg120_3⟩ : ∃ v, rd M0 120 3 = v := ⟨_, rfl⟩
  have bg120_3 : 0 ≤ g120_3 ∧ g120_3 ≤ 3 := by rw [← eg120_3]; exact ir_120_3 hI.2.1
  obtain ⟨g120_4, eg120_4⟩ : ∃ v, rd M0 120 4 = v := ⟨_, rfl⟩
  have bg120_4 : 0 ≤ g120_4 ∧ g120_4 ≤ 900 := by rw [← eg120_4]; exact ir_120_4 hI.2.1
  obtain ⟨g120_5, eg120_5⟩ : ∃ v, rd M0 120 5 = v := ⟨_, rfl⟩
  have bg120_5 : 0 ≤ g120_5 ∧ g120_5 ≤ 900 := by rw [← eg120_5]; exact ir_120_5 hI.2.1
  obtain ⟨g120_7, eg120_7⟩ : ∃ v, rd M0 120 7 = v := ⟨_, rfl⟩
  have bg120_7 : (-9223372036854775808) ≤ g120_7 ∧ g120_7 ≤ 9223372036854775807 := by rw [← eg120_7]; exact ir_120_7 hI.2.1
  refine Tr.aload_n (pc := 0) (i := 0) d_X12_fresh_0 rfl rfl ?_
  refine Tr.getf (pc := 1) d_X12_fresh_1 f_12_36 (by decide) (by decide) (ty_120 hS.1.1) ?_
  refine Tr.tp g120_8 eg120_8 ?_
  refine Tr.if_le (pc := 4) (tgt := 9) d_X12_fresh_4 rfl (fun c4 => ?_) (fun c4 => ?_)
  · refine Tr.aload_n (pc := 9) (i := 0) d_X12_fresh_9 rfl rfl ?_
    refine Tr.getf (pc := 10) d_X12_fresh_10 f_12_20 (by decide) (by decide) (ty_120 hS.1.1) ?_
    refine Tr.tp g120_3 eg120_3 ?_
    refine Tr.iconst (pc := 13) d_X12_fresh_13 (by decide) ?_
    have J37 : ∀ (M : Mem) (u37_120_8 : Int), St Pm1 ws_X12_fresh_120 as_X12_fresh_120 M0 M → (0 ≤ u37_120_8 ∧ u37_120_8 ≤ 5) → rd M 120 3 = g120_3 → rd M 120 4 = g120_4 → rd M 120 5 = g120_5 → rd M 120 7 = g120_7 → rd M 120 8 = u37_120_8 → (u37_120_8 ≠ 0 ∨ g120_3 ≠ 0) → (g120_8 = 0) → Tr l K 2 mX12_fresh 37 [(0, (2, 120))] [] M (q_X12_fresh_120 M0) := by
      intro M u37_120_8 hS bu37_120_8 k37_120_3 k37_120_4 k37_120_5 k37_120_7 k37_120_8 t37_0 t37_1
      refine Tr.aload_n (pc := 37) (i := 0) d_X12_fresh_37 rfl rfl ?_
      refine Tr.getf (pc := 38) d_X12_fresh_38 f_12_36 (by decide) (by decide) (ty_120 hS.1.1) ?_
      refine Tr.tp u37_120_8 k37_120_8 ?_
      have J89 : ∀ (M : Mem) (u89_120_8 : Int), St Pm1 ws_X12_fresh_120 as_X12_fresh_120 M0 M → (0 ≤ u89_120_8 ∧ u89_120_8 ≤ 5) → rd M 120 3 = g120_3 → rd M 120 4 = g120_4 → rd M 120 5 = g120_5 → rd M 120 7 = g120_7 → rd M 120 8 = u89_120_8 → (u89_120_8 ≠ 0 ∨ g120_3 ≠ 0) → (g120_8 = 0) → Tr l K 2 mX12_fresh 89 [(0, (2, 120))] [] M (q_X12_fresh_120 M0) := by
        intro M u89_120_8 hS bu89_120_8 k89_120_3 k89_120_4 k89_120_5 k89_120_7 k89_120_8 t89_0 t89_1
        refine Tr.aload_n (pc := 89) (i := 0) d_X12_fresh_89 rfl rfl ?_
        refine Tr.getf (pc := 90) d_X12_fresh_90 f_12_32 (by decide) (by decide) (ty_120 hS.1.1) ?_
        refine Tr.tp g120_7 k89_120_7 ?_
        refine Tr.lstore_n (pc := 93) (i := 1) (ls2 := [(1, (1, g120_7)), (0, (2, 120))]) d_X12_fresh_93 rfl (by decide) rfl ?_
        refine Tr.aload_n (pc := 94) (i := 0) d_X12_fresh_94 rfl rfl ?_
        refine Tr.getf (pc := 95) d_X12_fresh_95 f_12_36 (by decide) (by decide) (ty_120 hS.1.1) ?_
        refine Tr.tp u89_120_8 k89_120_8 ?_
        refine Tr.if_ne (pc := 98) (tgt := 105) d_X12_fresh_98 rfl (fun c98 => ?_) (fun c98 => ?_)
        · refine Tr.lload_n (pc := 105) (i := 1) d_X12_fresh_105 rfl rfl ?_
          have kr_120_3 : rd M 120 3 = g120_3 := k89_120_3
          have kr_120_4 : rd M 120 4 = g120_4 := k89_120_4
          have kr_120_5 : rd M 120 5 = g120_5 := k89_120_5
          have kr_120_7 : rd M 120 7 = g120_7 := k89_120_7
          have kr_120_8 : rd M 120 8 = u89_120_8 := k89_120_8
          have mnr : min (rd M 120 3) 1 = min (g120_3 : Int) 1 := by rw [kr_120_3]
          have mn0 : min (rd M0 120 3) 1 = min (g120_3) 1 := by rw [eg120_3]
          have mnb : 0 ≤ min (g120_3 : Int) 1 ∧ min (g120_3 : Int) 1 ≤ 1 := by have h9 : (0 : Int) ≤ g120_3 := (by and_intros <;> omega); exact ⟨Int.le_min.2 ⟨h9, by decide⟩, Int.min_le_right _ _⟩
          exact Tr.lret (pc := 106) d_X12_fresh_106 rfl ⟨hS, _, rfl, by omega, by omega, by omega, by omega, by omega, by omega, by omega, by omega⟩
        · refine Tr.aload_n (pc := 101) (i := 0) d_X12_fresh_101 rfl rfl ?_
          refine Tr.callV (pc := 102) (as := []) d_X12_fresh_102 s_12_396 ok_X12_next rfl rfl (Nat.le_of_ble_eq_true rfl) (Nat.le_of_ble_eq_true rfl) (by decide) (ty_120 hS.1.1) ?_
          have kb102_120_3 : rd M 120 3 = g120_3 := k89_120_3
          have kb102_120_5 : rd M 120 5 = g120_5 := k89_120_5
          have kb102_120_8 : rd M 120 8 = u89_120_8 := k89_120_8
          refine Tr.imp (Tr.deep (by decide) (sp_X12_next_120 hS.1 )) ?_
          rintro M102 _ ⟨h102, rfl, z102_0, z102_1, z102_2, z102_3, z102_4, z102_5⟩
          have hS := St.tr hS h102 (by decide) (by decide)
          obtain ⟨s102_120_3, es102_120_3⟩ : ∃ v, rd M102 120 3 = v := ⟨_, rfl⟩
          have bs102_120_3 : 0 ≤ s102_120_3 ∧ s102_120_3 ≤ 3 := by rw [← es102_120_3]; exact ir_120_3 hS.1.2.1
          obtain ⟨s102_120_4, es102_120_4⟩ : ∃ v, rd M102 120 4 = v := ⟨_, rfl⟩
          have bs102_120_4 : 0 ≤ s102_120_4 ∧ s102_120_4 ≤ 900 := by rw [← es102_120_4]; exact ir_120_4 hS.1.2.1
          obtain ⟨s102_120_5, es102_120_5⟩ : ∃ v, rd M102 120 5 = v := ⟨_, rfl⟩
          have bs102_120_5 : 0 ≤ s102_120_5 ∧ s102_120_5 ≤ 900 := by rw [← es102_120_5]; exact ir_120_5 hS.1.2.1
          obtain ⟨s102_120_7, es102_120_7⟩ : ∃ v, rd M102 120 7 = v := ⟨_, rfl⟩
          have bs102_120_7 : (-9223372036854775808) ≤ s102_120_7 ∧ s102_120_7 ≤ 9223372036854775807 := by rw [← es102_120_7]; exact ir_120_7 hS.1.2.1
          obtain ⟨s102_120_8, es102_120_8⟩ : ∃ v, rd M102 120 8 = v := ⟨_, rfl⟩
          have bs102_120_8 : 0 ≤ s102_120_8 ∧ s102_120_8 ≤ 5 := by rw [← es102_120_8]; exact ir_120_8 hS.1.2.1
          refine Tr.sc [] rfl ?_
          refine Tr.lload_n (pc := 105) (i := 1) d_X12_fresh_105 rfl rfl ?_
          have kr_120_3 : rd M102 120 3 = s102_120_3 := es102_120_3
          have kr_120_4 : rd M102 120 4 = s102_120_4 := es102_120_4
          have kr_120_5 : rd M102 120 5 = s102_120_5 := es102_120_5
          have kr_120_7 : rd M102 120 7 = s102_120_7 := es102_120_7
          have kr_120_8 : rd M102 120 8 = s102_120_8 := es102_120_8
          have mnr : min (rd M102 120 3) 1 = min (s102_120_3 : Int) 1 := by rw [kr_120_3]
          have mn0 : min (rd M0 120 3) 1 = min (g120_3) 1 := by rw [eg120_3]
          have mnb : 0 ≤ min (s102_120_3 : Int) 1 ∧ min (s102_120_3 : Int) 1 ≤ 1 := by have h9 : (0 : Int) ≤ s102_120_3 := (by and_intros <;> omega); exact ⟨Int.le_min.2 ⟨h9, by decide⟩, Int.min_le_right _ _⟩
          have mnd : 0 ≤ min (g120_3 : Int) 1 ∧ min (g120_3 : Int) 1 ≤ 1 := by have h9 : (0 : Int) ≤ g120_3 := (by and_intros <;> omega); exact ⟨Int.le_min.2 ⟨h9, by decide⟩, Int.min_le_right _ _⟩
          exact Tr.lret (pc := 106) d_X12_fresh_106 rfl ⟨hS, _, rfl, by omega, by omega, by omega, by omega, by omega, by omega, by omega, by omega⟩
      refine Tr.if_ne (pc := 41) (tgt := 89) d_X12_fresh_41 rfl (fun c41 => ?_) (fun c41 => ?_)
      · refine Tr.pick [0] (ls2 := [(0, (2, 120))]) rfl ?_
        exact J89 _ _ hS (by and_intros <;> omega) k37_120_3 k37_120_4 k37_120_5 k37_120_7 k37_120_8 (by first | assumption | omega) (by and_intros <;> omega)
      · refine Tr.aload_n (pc := 44) (i := 0) d_X12_fresh_44 rfl rfl ?_
        refine Tr.aload_n (pc := 45) (i := 0) d_X12_fresh_45 rfl rfl ?_
        refine Tr.getf (pc := 46) d_X12_fresh_46 f_12_32 (by decide) (by decide) (ty_120 hS.1.1) ?_
        refine Tr.tp g120_7 k37_120_7 ?_
        refine Tr.callV (pc := 49) (as := [_]) d_X12_fresh_49 s_12_457 ok_X12_partOf rfl rfl (Nat.le_of_ble_eq_true rfl) (Nat.le_of_ble_eq_true rfl) (by decide) (ty_120 hS.1.1) ?_
        refine Tr.imp (Tr.deep (by decide) (sp_X12_partOf_120 hS.1.wk ((St.kp hS (by decide) (by decide) (by decide)).trans en_120_37) g120_7 (by and_intros <;> omega))) ?_
        rintro M49 _ ⟨h49, r49, rfl, lr49, ur49⟩
        have h49 := St.rn h49 (Pm1.of hS.1.2.2.2.2 (fun _ => St.ka h49 (by decide) (by decide) (by decide)) (fun _ => St.ka h49 (by decide) (by decide) (by decide)) (fun _ => St.ka h49 (by decide) (by decide) (by decide)) (fun _ => St.ka h49 (by decide) (by decide) (by decide)) (fun _ => St.ka h49 (by decide) (by decide) (by decide)) (fun _ => St.ka h49 (by decide) (by decide) (by decide)) (fun _ => St.ka h49 (by decide) (by decide) (by decide)) (fun _ => St.ka h49 (by decide) (by decide) (by decide)) (fun _ => St.ka h49 (by decide) (by decide) (by decide)) (fun _ => St.ka h49 (by decide) (by decide) (by decide)) (St.kp h49 (by decide) (by decide) (by decide)) (St.kp h49 (by decide) (by decide) (by decide)) (St.kp h49 (by decide) (by decide) (by decide)) (St.kp h49 (by decide) (by decide) (by decide)) (St.kp h49 (by decide) (by decide) (by decide)) (St.kp h49 (by decide) (by decide) (by decide)) (St.kp h49 (by decide) (by decide) (by decide)) (St.kp h49 (by decide) (by decide) (by decide)) (St.kp h49 (by decide) (by decide) (by decide)) (St.kp h49 (by decide) (by decide) (by decide)) (St.kp h49 (by decide) (by decide) (by decide)))
        have hS := St.tr hS h49 (by decide) (by decide)
        refine Tr.sc [(0, r49)] rfl ?_
        refine Tr.iconst (pc := 52) d_X12_fresh_52 (by decide) ?_
        have J80 : ∀ (M : Mem), St Pm1 ws_X12_fresh_120 as_X12_fresh_120 M0 M → rd M 120 3 = g120_3 → rd M 120 4 = g120_4 → rd M 120 5 = g120_5 → rd M 120 7 = g120_7 → rd M 120 8 = u37_120_8 → (u37_120_8 ≠ 0 ∨ g120_3 ≠ 0) → (g120_8 = 0) → Tr l K 2 mX12_fresh 80 [(0, (2, 120))] [] M (q_X12_fresh_120 M0) := by
          intro M  hS  k80_120_3 k80_120_4 k80_120_5 k80_120_7 k80_120_8 t80_0 t80_1
          refine Tr.aload_n (pc := 80) (i := 0) d_X12_fresh_80 rfl rfl ?_
          refine Tr.iconst (pc := 81) d_X12_fresh_81 (by decide) ?_
          refine Tr.aload_n (pc := 82) (i := 0) d_X12_fresh_82 rfl rfl ?_
          refine Tr.getf (pc := 83) d_X12_fresh_83 f_12_23 (by decide) (by decide) (ty_120 hS.1.1) ?_
          refine Tr.tp g120_4 k80_120_4 ?_
          refine Tr.callV (pc := 86) (as := [_, _]) d_X12_fresh_86 s_12_389 ok_X12_blame rfl rfl (Nat.le_of_ble_eq_true rfl) (Nat.le_of_ble_eq_true rfl) (by decide) (ty_120 hS.1.1) ?_
          have kb86_120_8 : rd M 120 8 = u37_120_8 := k80_120_8
          refine Tr.imp (Tr.deep (by decide) (sp_X12_blame_120 hS.1 2 (by and_intros <;> omega) g120_4 (by and_intros <;> omega))) ?_
          rintro M86 _ ⟨h86, rfl, z86_0⟩
          have hS := St.tr hS h86 (by decide) (by decide)
          obtain ⟨s86_120_8, es86_120_8⟩ : ∃ v, rd M86 120 8 = v := ⟨_, rfl⟩
          have bs86_120_8 : 0 ≤ s86_120_8 ∧ s86_120_8 ≤ 5 := by rw [← es86_120_8]; exact ir_120_8 hS.1.2.1
          refine Tr.sc [] rfl ?_
          refine Tr.pick [0] (ls2 := [(0, (2, 120))]) rfl ?_
          exact J89 _ _ hS (by and_intros <;> omega) ((St.kp h86 (by decide) (by decide) (by decide)).trans k80_120_3) ((St.kp h86 (by decide) (by decide) (by decide)).trans k80_120_4) ((St.kp h86 (by decide) (by decide) (by decide)).trans k80_120_5) ((St.kp h86 (by decide) (by decide) (by decide)).trans k80_120_7) es86_120_8 (by first | assumption | omega) (by and_intros <;> omega)
        refine Tr.icmp_ne (pc := 53) (tgt := 80) d_X12_fresh_53 rfl (fun c53 => ?_) (fun c53 => ?_)
        · refine Tr.pick [0] (ls2 := [(0, (2, 120))]) rfl ?_
          exact J80 _ hS ((St.kp h49 (by decide) (by decide) (by decide)).trans k37_120_3) ((St.kp h49 (by decide) (by decide) (by decide)).trans k37_120_4) ((St.kp h49 (by decide) (by decide) (by decide)).trans k37_120_5) ((St.kp h49 (by decide) (by decide) (by decide)).trans k37_120_7) ((St.kp h49 (by decide) (by decide) (by decide)).trans k37_120_8) (by first | assumption | omega) (by and_intros <;> omega)
        · refine Tr.aload_n (pc := 56) (i := 0) d_X12_fresh_56 rfl rfl ?_
          refine Tr.aload_n (pc := 57) (i := 0) d_X12_fresh_57 rfl rfl ?_
          refine Tr.getf (pc := 58) d_X12_fresh_58 f_12_32 (by decide) (by decide) (ty_120 hS.1.1) ?_
          refine Tr.tp g120_7 ((St.kp h49 (by decide) (by decide) (by decide)).trans k37_120_7) ?_
          refine Tr.callV (pc := 61) (as := [_]) d_X12_fresh_61 s_12_461 ok_X12_inputOf rfl rfl (Nat.le_of_ble_eq_true rfl) (Nat.le_of_ble_eq_true rfl) (by decide) (ty_120 hS.1.1) ?_
          refine Tr.imp (Tr.deep (by decide) (sp_X12_inputOf_120 hS.1.wk ((St.kp hS (by decide) (by decide) (by decide)).trans en_120_37) g120_7 (by and_intros <;> omega))) ?_
          rintro M61 _ ⟨h61, r61, rfl, lr61, ur61⟩
          have h61 := St.rn h61 (Pm1.of hS.1.2.2.2.2 (fun _ => St.ka h61 (by decide) (by decide) (by decide)) (fun _ => St.ka h61 (by decide) (by decide) (by decide)) (fun _ => St.ka h61 (by decide) (by decide) (by decide)) (fun _ => St.ka h61 (by decide) (by decide) (by decide)) (fun _ => St.ka h61 (by decide) (by decide) (by decide)) (fun _ => St.ka h61 (by decide) (by decide) (by decide)) (fun _ => St.ka h61 (by decide) (by decide) (by decide)) (fun _ => St.ka h61 (by decide) (by decide) (by decide)) (fun _ => St.ka h61 (by decide) (by decide) (by decide)) (fun _ => St.ka h61 (by decide) (by decide) (by decide)) (St.kp h61 (by decide) (by decide) (by decide)) (St.kp h61 (by decide) (by decide) (by decide)) (St.kp h61 (by decide) (by decide) (by decide)) (St.kp h61 (by decide) (by decide) (by decide)) (St.kp h61 (by decide) (by decide) (by decide)) (St.kp h61 (by decide) (by decide) (by decide)) (St.kp h61 (by decide) (by decide) (by decide)) (St.kp h61 (by decide) (by decide) (by decide)) (St.kp h61 (by decide) (by decide) (by decide)) (St.kp h61 (by decide) (by decide) (by decide)) (St.kp h61 (by decide) (by decide) (by decide)))
          have hS := St.tr hS h61 (by decide) (by decide)
          refine Tr.sc [(0, r61)] rfl ?_
          refine Tr.iconst (pc := 64) d_X12_fresh_64 (by decide) ?_
          refine Tr.icmp_ne (pc := 65) (tgt := 80) d_X12_fresh_65 rfl (fun c65 => ?_) (fun c65 => ?_)
          · refine Tr.pick [0] (ls2 := [(0, (2, 120))]) rfl ?_
            exact J80 _ hS ((St.kp h61 (by decide) (by decide) (by decide)).trans ((St.kp h49 (by decide) (by decide) (by decide)).trans k37_120_3)) ((St.kp h61 (by decide) (by decide) (by decide)).trans ((St.kp h49 (by decide) (by decide) (by decide)).trans k37_120_4)) ((St.kp h61 (by decide) (by decide) (by decide)).trans ((St.kp h49 (by decide) (by decide) (by decide)).trans k37_120_5)) ((St.kp h61 (by decide) (by decide) (by decide)).trans ((St.kp h49 (by decide) (by decide) (by decide)).trans k37_120_7)) ((St.kp h61 (by decide) (by decide) (by decide)).trans ((St.kp h49 (by decide) (by decide) (by decide)).trans k37_120_8)) (by first | assumption | omega) (by and_intros <;> omega)
          · refine Tr.aload_n (pc := 68) (i := 0) d_X12_fresh_68 rfl rfl ?_
            refine Tr.aload_n (pc := 69) (i := 0) d_X12_fresh_69 rfl rfl ?_
            refine Tr.getf (pc := 70) d_X12_fresh_70 f_12_32 (by decide) (by decide) (ty_120 hS.1.1) ?_
            refine Tr.tp g120_7 ((St.kp h61 (by decide) (by decide) (by decide)).trans ((St.kp h49 (by decide) (by decide) (by decide)).trans k37_120_7)) ?_
            refine Tr.callV (pc := 73) (as := [_]) d_X12_fresh_73 s_12_464 ok_X12_varOf rfl rfl (Nat.le_of_ble_eq_true rfl) (Nat.le_of_ble_eq_true rfl) (by decide) (ty_120 hS.1.1) ?_
            refine Tr.imp (Tr.deep (by decide) (sp_X12_varOf_120 hS.1.wk ((St.kp hS (by decide) (by decide) (by decide)).trans en_120_37) g120_7 (by and_intros <;> omega))) ?_
            rintro M73 _ ⟨h73, r73, rfl, lr73, ur73⟩
            have h73 := St.rn h73 (Pm1.of hS.1.2.2.2.2 (fun _ => St.ka h73 (by decide) (by decide) (by decide)) (fun _ => St.ka h73 (by decide) (by decide) (by decide)) (fun _ => St.ka h73 (by decide) (by decide) (by decide)) (fun _ => St.ka h73 (by decide) (by decide) (by decide)) (fun _ => St.ka h73 (by decide) (by decide) (by decide)) (fun _ => St.ka h73 (by decide) (by decide) (by decide)) (fun _ => St.ka h73 (by decide) (by decide) (by decide)) (fun _ => St.ka h73 (by decide) (by decide) (by decide)) (fun _ => St.ka h73 (by decide) (by decide) (by decide)) (fun _ => St.ka h73 (by decide) (by decide) (by decide)) (St.kp h73 (by decide) (by decide) (by decide)) (St.kp h73 (by decide) (by decide) (by decide)) (St.kp h73 (by decide) (by decide) (by decide)) (St.kp h73 (by decide) (by decide) (by decide)) (St.kp h73 (by decide) (by decide) (by decide)) (St.kp h73 (by decide) (by decide) (by decide)) (St.kp h73 (by decide) (by decide) (by decide)) (St.kp h73 (by decide) (by decide) (by decide)) (St.kp h73 (by decide) (by decide) (by decide)) (St.kp h73 (by decide) (by decide) (by decide)) (St.kp h73 (by decide) (by decide) (by decide)))
            have hS := St.tr hS h73 (by decide) (by decide)
            refine Tr.sc [(0, r73)] rfl ?_
            refine Tr.iconst (pc := 76) d_X12_fresh_76 (by decide) ?_
            refine Tr.icmp_eq (pc := 77) (tgt := 89) d_X12_fresh_77 rfl (fun c77 => ?_) (fun c77 => ?_)
            · refine Tr.pick [0] (ls2 := [(0, (2, 120))]) rfl ?_
              exact J89 _ _ hS (by and_intros <;> omega) ((St.kp h73 (by decide) (by decide) (by decide)).trans ((St.kp h61 (by decide) (by decide) (by decide)).trans ((St.kp h49 (by decide) (by decide) (by decide)).trans k37_120_3))) ((St.kp h73 (by decide) (by decide) (by decide)).trans ((St.kp h61 (by decide) (by decide) (by decide)).trans ((St.kp h49 (by decide) (by decide) (by decide)).trans k37_120_4))) ((St.kp h73 (by decide) (by decide) (by decide)).trans ((St.kp h61 (by decide) (by decide) (by decide)).trans ((St.kp h49 (by decide) (by decide) (by decide)).trans k37_120_5))) ((St.kp h73 (by decide) (by decide) (by decide)).trans ((St.kp h61 (by decide) (by decide) (by decide)).trans ((St.kp h49 (by decide) (by decide) (by decide)).trans k37_120_7))) ((St.kp h73 (by decide) (by decide) (by decide)).trans ((St.kp h61 (by decide) (by decide) (by decide)).trans ((St.kp h49 (by decide) (by decide) (by decide)).trans k37_120_8))) (by first | assumption | omega) (by and_intros <;> omega)
            · refine Tr.pick [0] (ls2 := [(0, (2, 120))]) rfl ?_
              exact J80 _ hS ((St.kp h73 (by decide) (by decide) (by decide)).trans ((St.kp h61 (by decide) (by decide) (by decide)).trans ((St.kp h49 (by decide) (by decide) (by decide)).trans k37_120_3))) ((St.kp h73 (by decide) (by decide) (by decide)).trans ((St.kp h61 (by decide) (by decide) (by decide)).trans ((St.kp h49 (by decide) (by decide) (by decide)).trans k37_120_4))) ((St.kp h73 (by decide) (by decide) (by decide)).trans ((St.kp h61 (by decide) (by decide) (by decide)).trans ((St.kp h49 (by decide) (by decide) (by decide)).trans k37_120_5))) ((St.kp h73 (by decide) (by decide) (by decide)).trans ((St.kp h61 (by decide) (by decide) (by decide)).trans ((St.kp h49 (by decide) (by decide) (by decide)).trans k37_120_7))) ((St.kp h73 (by decide) (by decide) (by decide)).trans ((St.kp h61 (by decide) (by decide) (by decide)).trans ((St.kp h49 (by decide) (by decide) (by decide)).trans k37_120_8))) (by first | assumption | omega) (by and_intros <;> omega)
    have J28 : ∀ (M : Mem), St Pm1 ws_X12_fresh_120 as_X12_fresh_120 M0 M → rd M 120 3 = g120_3 → rd M 120 4 = g120_4 → rd M 120 5 = g120_5 → rd M 120 7 = g120_7 → rd M 120 8 = g120_8 → (g120_8 = 0) → (g120_8 = 0) → Tr l K 2 mX12_fresh 28 [(0, (2, 120))] [] M (q_X12_fresh_120 M0) := by
      intro M  hS  k28_120_3 k28_120_4 k28_120_5 k28_120_7 k28_120_8 t28_0 t28_1
      refine Tr.aload_n (pc := 28) (i := 0) d_X12_fresh_28 rfl rfl ?_
      refine Tr.iconst (pc := 29) d_X12_fresh_29 (by decide) ?_
      refine Tr.aload_n (pc := 30) (i := 0) d_X12_fresh_30 rfl rfl ?_
      refine Tr.getf (pc := 31) d_X12_fresh_31 f_12_23 (by decide) (by decide) (ty_120 hS.1.1) ?_
      refine Tr.tp g120_4 k28_120_4 ?_
      refine Tr.callV (pc := 34) (as := [_, _]) d_X12_fresh_34 s_12_389 ok_X12_blame rfl rfl (Nat.le_of_ble_eq_true rfl) (Nat.le_of_ble_eq_true rfl) (by decide) (ty_120 hS.1.1) ?_
      have kb34_120_8 : rd M 120 8 = g120_8 := k28_120_8
      refine Tr.imp (Tr.deep (by decide) (sp_X12_blame_120 hS.1 1 (by and_intros <;> omega) g120_4 (by and_intros <;> omega))) ?_
      rintro M34 _ ⟨h34, rfl, z34_0⟩
      have hS := St.tr hS h34 (by decide) (by decide)
      obtain ⟨s34_120_8, es34_120_8⟩ : ∃ v, rd M34 120 8 = v := ⟨_, rfl⟩
      have bs34_120_8 : 0 ≤ s34_120_8 ∧ s34_120_8 ≤ 5 := by rw [← es34_120_8]; exact ir_120_8 hS.1.2.1
      refine Tr.sc [] rfl ?_
      refine Tr.pick [0] (ls2 := [(0, (2, 120))]) rfl ?_
      exact J37 _ _ hS (by and_intros <;> omega) ((St.kp h34 (by decide) (by decide) (by decide)).trans k28_120_3) ((St.kp h34 (by decide) (by decide) (by decide)).trans k28_120_4) ((St.kp h34 (by decide) (by decide) (by decide)).trans k28_120_5) ((St.kp h34 (by decide) (by decide) (by decide)).trans k28_120_7) es34_120_8 (by first | assumption | omega) (by and_intros <;> omega)
    refine Tr.icmp_ne (pc := 14) (tgt := 28) d_X12_fresh_14 rfl (fun c14 => ?_) (fun c14 => ?_)
    · refine Tr.pick [0] (ls2 := [(0, (2, 120))]) rfl ?_
      exact J28 _ hS eg120_3 eg120_4 eg120_5 eg120_7 eg120_8 (by and_intros <;> omega) (by and_intros <;> omega)
    · refine Tr.aload_n (pc := 17) (i := 0) d_X12_fresh_17 rfl rfl ?_
      refine Tr.aload_n (pc := 18) (i := 0) d_X12_fresh_18 rfl rfl ?_
      refine Tr.getf (pc := 19) d_X12_fresh_19 f_12_32 (by decide) (by decide) (ty_120 hS.1.1) ?_
      refine Tr.tp g120_7 eg120_7 ?_
      refine Tr.callV (pc := 22) (as := [_]) d_X12_fresh_22 s_12_453 ok_X12_isOwn rfl rfl (Nat.le_of_ble_eq_true rfl) (Nat.le_of_ble_eq_true rfl) (by decide) (ty_120 hS.1.1) ?_
      refine Tr.imp (Tr.deep (by decide) (sp_X12_isOwn_120 hS.1.wk g120_7 (by and_intros <;> omega))) ?_
      rintro M22 _ ⟨h22, r22, rfl, lr22, ur22⟩
      have h22 := St.rn h22 (Pm1.of hS.1.2.2.2.2 (fun _ => St.ka h22 (by decide) (by decide) (by decide)) (fun _ => St.ka h22 (by decide) (by decide) (by decide)) (fun _ => St.ka h22 (by decide) (by decide) (by decide)) (fun _ => St.ka h22 (by decide) (by decide) (by decide)) (fun _ => St.ka h22 (by decide) (by decide) (by decide)) (fun _ => St.ka h22 (by decide) (by decide) (by decide)) (fun _ => St.ka h22 (by decide) (by decide) (by decide)) (fun _ => St.ka h22 (by decide) (by decide) (by decide)) (fun _ => St.ka h22 (by decide) (by decide) (by decide)) (fun _ => St.ka h22 (by decide) (by decide) (by decide)) (St.kp h22 (by decide) (by decide) (by decide)) (St.kp h22 (by decide) (by decide) (by decide)) (St.kp h22 (by decide) (by decide) (by decide)) (St.kp h22 (by decide) (by decide) (by decide)) (St.kp h22 (by decide) (by decide) (by decide)) (St.kp h22 (by decide) (by decide) (by decide)) (St.kp h22 (by decide) (by decide) (by decide)) (St.kp h22 (by decide) (by decide) (by decide)) (St.kp h22 (by decide) (by decide) (by decide)) (St.kp h22 (by decide) (by decide) (by decide)) (St.kp h22 (by decide) (by decide) (by decide)))
      have hS := St.tr hS h22 (by decide) (by decide)
      refine Tr.sc [(0, r22)] rfl ?_
      refine Tr.if_eq (pc := 25) (tgt := 37) d_X12_fresh_25 rfl (fun c25 => ?_) (fun c25 => ?_)
      · refine Tr.pick [0] (ls2 := [(0, (2, 120))]) rfl ?_
        exact J37 _ _ hS (by and_intros <;> omega) ((St.kp h22 (by decide) (by decide) (by decide)).trans eg120_3) ((St.kp h22 (by decide) (by decide) (by decide)).trans eg120_4) ((St.kp h22 (by decide) (by decide) (by decide)).trans eg120_5) ((St.kp h22 (by decide) (by decide) (by decide)).trans eg120_7) ((St.kp h22 (by decide) (by decide) (by decide)).trans eg120_8) (by first | assumption | omega) (by and_intros <;> omega)
      · refine Tr.pick [0] (ls2 := [(0, (2, 120))]) rfl ?_
        exact J28 _ hS ((St.kp h22 (by decide) (by decide) (by decide)).trans eg120_3) ((St.kp h22 (by decide) (by decide) (by decide)).trans eg120_4) ((St.kp h22 (by decide) (by decide) (by decide)).trans eg120_5) ((St.kp h22 (by decide) (by decide) (by decide)).trans eg120_7) ((St.kp h22 (by decide) (by decide) (by decide)).trans eg120_8) (by and_intros <;> omega) (by and_intros <;> omega)
  · refine Tr.lconst (pc := 7) (v := 0) d_X12_fresh_7 rfl (by decide) ?_
    have kr_120_3 : rd M0 120 3 = g120_3 := eg120_3
    have kr_120_4 : rd M0 120 4 = g120_4 := eg120_4
    have kr_120_5 : rd M0 120 5 = g120_5 := eg120_5
    have kr_120_7 : rd M0 120 7 = g120_7 := eg120_7
    have kr_120_8 : rd M0 120 8 = g120_8 := eg120_8
    have mnr : min (rd M0 120 3) 1 = min (g120_3 : Int) 1 := by rw [kr_120_3]
    have mn0 : min (rd M0 120 3) 1 = min (g120_3) 1 := by rw [eg120_3]
    have mnb : 0 ≤ min (g120_3 : Int) 1 ∧ min (g120_3 : Int) 1 ≤ 1 := by have h9 : (0 : Int) ≤ g120_3 := (by and_intros <;> omega); exact ⟨Int.le_min.2 ⟨h9, by decide⟩, Int.min_le_right _ _⟩
    exact Tr.lret (pc := 8) d_X12_fresh_8 rfl ⟨hS, _, rfl, by omega, by omega, by omega, by omega, by omega, by omega, by omega, by omega⟩

def ws_X12_variable_120 : List (Int × Int) := [(120, 3), (120, 4), (120, 5), (120, 6), (120, 7), (120, 8), (120, 9), (128, 1)]
def as_X12_variable_120 : List Int := [135]
def q_X12_variable_120 (M0 M' : Mem) (r : Option PV) : Prop := St Pm1 ws_X12_variable_120 as_X12_variable_120 M0 M' ∧ r = none ∧ (rd M' 120 3 = 0 ∨ rd M' 120 4 + 1 ≤ rd M' 120 5) ∧ (rd M' 120 4 ≤ rd M' 120 5) ∧ (rd M' 120 3 ≠ 1 ∨ rd M' 120 4 + 2 ≤ rd M' 120 5 ∨ rd M' 120 7 < 256) ∧ (rd M0 120 4 ≤ rd M' 120 4 ∧ rd M0 120 5 ≤ rd M' 120 5 ∧ 2 * rd M0 120 5 - min (rd M0 120 3) 1 ≤ 2 * rd M' 120 5 - min (rd M' 120 3) 1) ∧ (rd M0 120 8 = 0 ∨ rd M' 120 8 = rd M0 120 8) ∧ (1 ≤ rd M' 120 8 ∨ 2 * rd M0 120 5 - min (rd M0 120 3) 1 < 2 * rd M' 120 5 - min (rd M' 120 3) 1)
set_option maxRecDepth 100000 in
set_option maxHeartbeats 4000000 in
theorem sp_X12_variable_120 {l : Launch} {K : EC} {M0 : Mem} (hI : In Pm1 M0) (en_120_37 : rd M0 120 37 = 1)   (hq0 : rd M0 120 3 = 0 ∨ rd M0 120 4 + 1 ≤ rd M0 120 5) (hq1 : rd M0 120 4 ≤ rd M0 120 5) (hq2 : rd M0 120 3 ≠ 1 ∨ rd M0 120 4 + 2 ≤ rd M0 120 5 ∨ rd M0 120 7 < 256) (hq3 : rd M0 120 3 ≠ 0) (hq4 : rd M0 120 8 = 0) : Tr l K 3 mX12_variable 0 [(0, (2, 120))] [] M0 (q_X12_variable_120 M0) := by
  have hS : St Pm1 ws_X12_variable_120 as_X12_variable_120 M0 M0 := St.rf hI
  obtain ⟨g120_8, eg120_8⟩ : ∃ v, rd M0 120 8 = v := ⟨_, rfl⟩
  have bg120_8 : 0 ≤ g120_8 ∧ g120_8 ≤ 5 := by rw [← eg120_8]; exact ir_120_8 hI.2.1
  obtain ⟨g120_3, eg120_3⟩ : ∃ v, rd M0 120 3 = v := ⟨_, rfl⟩
  have bg120_3 : 0 ≤ g120_3 ∧ g120_3 ≤ 3 := by rw [← eg120_3]; exact ir_120_3 hI.2.1
  obtain ⟨g120_4, eg120_4⟩ : ∃ v, rd M0 120 4 = v := ⟨_, rfl⟩
  have bg120_4 : 0 ≤ g120_4 ∧ g120_4 ≤ 900 := by rw [← eg120_4]; exact ir_120_4 hI.2.1
  obtain ⟨g120_5, eg120_5⟩ : ∃ v, rd M0 120 5 = v := ⟨_, rfl⟩
  have bg120_5 : 0 ≤ g120_5 ∧ g120_5 ≤ 900 := by rw [← eg120_5]; exact ir_120_5 hI.2.1
  obtain ⟨g120_7, eg120_7⟩ : ∃ v, rd M0 120 7 = v := ⟨_, rfl⟩
  have bg120_7 : (-9223372036854775808) ≤ g120_7 ∧ g120_7 ≤ 9223372036854775807 := by rw [← eg120_7]; exact ir_120_7 hI.2.1
  obtain ⟨g128_1, eg128_1⟩ : ∃ v, rd M0 128 1 = v := ⟨_, rfl⟩
  have bg128_1 : 0 ≤ g128_1 ∧ g128_1 ≤ 6 := by rw [← eg128_1]; exact ir_128_1 hI.2.1
  refine Tr.aload_n (pc := 0) (i := 0) d_X12_variable_0 rfl rfl ?_
  refine Tr.aload_n (pc := 1) (i := 0) d_X12_variable_1 rfl rfl ?_
  refine Tr.getf (pc := 2) d_X12_variable_2 f_12_69 (by decide) (by decide) (ty_120 hS.1.1) ?_
  refine Tr.tp 128 (fx_120_19 hS.1.1) ?_
  refine Tr.aload_n (pc := 5) (i := 0) d_X12_variable_5 rfl rfl ?_
  refine Tr.getf (pc := 6) d_X12_variable_6 f_12_124 (by decide) (by decide) (ty_120 hS.1.1) ?_
  refine Tr.tp 1 ((St.kp hS (by decide) (by decide) (by decide)).trans en_120_37) ?_
  refine Tr.iald (pc := 9) d_X12_variable_9 (ty_128 hS.1.1) (by and_intros <;> omega) (by and_intros <;> omega) ?_
  refine Tr.tp g128_1 eg128_1 ?_
  refine Tr.bipush (pc := 10) d_X12_variable_10 rfl (by decide) ?_
  have J20 : ∀ (M : Mem) (q20_1 : Int), St Pm1 ws_X12_variable_120 as_X12_variable_120 M0 M → (0 ≤ q20_1 ∧ q20_1 ≤ 1) → rd M 120 3 = g120_3 → rd M 120 4 = g120_4 → rd M 120 5 = g120_5 → rd M 120 7 = g120_7 → rd M 120 8 = g120_8 → rd M 128 1 = g128_1 → ((q20_1 = 1 ∧ g128_1 = 6) ∨ (q20_1 = 0 ∧ g128_1 ≠ 6)) → Tr l K 3 mX12_variable 20 [(0, (2, 120))] [(0, q20_1), (2, 120)] M (q_X12_variable_120 M0) := by
    intro M q20_1 hS bq20_1 k20_120_3 k20_120_4 k20_120_5 k20_120_7 k20_120_8 k20_128_1 t20_0
    refine Tr.callV (pc := 20) (as := [_]) d_X12_variable_20 s_12_505 ok_X12_counts rfl rfl (Nat.le_of_ble_eq_true rfl) (Nat.le_of_ble_eq_true rfl) (by decide) (ty_120 hS.1.1) ?_
    have kb20_120_3 : rd M 120 3 = g120_3 := k20_120_3
    have kb20_120_4 : rd M 120 4 = g120_4 := k20_120_4
    have kb20_120_5 : rd M 120 5 = g120_5 := k20_120_5
    have kb20_120_7 : rd M 120 7 = g120_7 := k20_120_7
    have kb20_120_8 : rd M 120 8 = g120_8 := k20_120_8
    refine Tr.imp (Tr.deep (by decide) (sp_X12_counts_120 hS.1 q20_1 (by and_intros <;> omega) (by and_intros <;> omega) (by and_intros <;> omega) (by and_intros <;> omega) (by and_intros <;> omega))) ?_
    rintro M20 _ ⟨h20, rfl, z20_0, z20_1, z20_2, z20_3, z20_4, z20_5, z20_6⟩
    have hS := St.tr hS h20 (by decide) (by decide)
    obtain ⟨s20_120_3, es20_120_3⟩ : ∃ v, rd M20 120 3 = v := ⟨_, rfl⟩
    have bs20_120_3 : 0 ≤ s20_120_3 ∧ s20_120_3 ≤ 3 := by rw [← es20_120_3]; exact ir_120_3 hS.1.2.1
    obtain ⟨s20_120_4, es20_120_4⟩ : ∃ v, rd M20 120 4 = v := ⟨_, rfl⟩
    have bs20_120_4 : 0 ≤ s20_120_4 ∧ s20_120_4 ≤ 900 := by rw [← es20_120_4]; exact ir_120_4 hS.1.2.1
    obtain ⟨s20_120_5, es20_120_5⟩ : ∃ v, rd M20 120 5 = v := ⟨_, rfl⟩
    have bs20_120_5 : 0 ≤ s20_120_5 ∧ s20_120_5 ≤ 900 := by rw [← es20_120_5]; exact ir_120_5 hS.1.2.1
    obtain ⟨s20_120_7, es20_120_7⟩ : ∃ v, rd M20 120 7 = v := ⟨_, rfl⟩
    have bs20_120_7 : (-9223372036854775808) ≤ s20_120_7 ∧ s20_120_7 ≤ 9223372036854775807 := by rw [← es20_120_7]; exact ir_120_7 hS.1.2.1
    obtain ⟨s20_120_8, es20_120_8⟩ : ∃ v, rd M20 120 8 = v := ⟨_, rfl⟩
    have bs20_120_8 : 0 ≤ s20_120_8 ∧ s20_120_8 ≤ 5 := by rw [← es20_120_8]; exact ir_120_8 hS.1.2.1
    refine Tr.sc [] rfl ?_
    refine Tr.aload_n (pc := 23) (i := 0) d_X12_variable_23 rfl rfl ?_
    refine Tr.getf (pc := 24) d_X12_variable_24 f_12_36 (by decide) (by decide) (ty_120 hS.1.1) ?_
    refine Tr.tp s20_120_8 es20_120_8 ?_
    refine Tr.if_le (pc := 27) (tgt := 31) d_X12_variable_27 rfl (fun c27 => ?_) (fun c27 => ?_)
    · refine Tr.aload_n (pc := 31) (i := 0) d_X12_variable_31 rfl rfl ?_
      refine Tr.getf (pc := 32) d_X12_variable_32 f_12_91 (by decide) (by decide) (ty_120 hS.1.1) ?_
      refine Tr.tp 135 (fx_120_26 hS.1.1) ?_
      refine Tr.bipush (pc := 35) d_X12_variable_35 rfl (by decide) ?_
      refine Tr.aload_n (pc := 37) (i := 0) d_X12_variable_37 rfl rfl ?_
      refine Tr.getf (pc := 38) d_X12_variable_38 f_12_124 (by decide) (by decide) (ty_120 hS.1.1) ?_
      refine Tr.tp 1 ((St.kp hS (by decide) (by decide) (by decide)).trans en_120_37) ?_
      refine Tr.imul (pc := 41) d_X12_variable_41 ?_
      refine Tr.tp 6 (by decide) ?_
      refine Tr.aload_n (pc := 42) (i := 0) d_X12_variable_42 rfl rfl ?_
      refine Tr.getf (pc := 43) d_X12_variable_43 f_12_69 (by decide) (by decide) (ty_120 hS.1.1) ?_
      refine Tr.tp 128 (fx_120_19 hS.1.1) ?_
      refine Tr.aload_n (pc := 46) (i := 0) d_X12_variable_46 rfl rfl ?_
      refine Tr.getf (pc := 47) d_X12_variable_47 f_12_124 (by decide) (by decide) (ty_120 hS.1.1) ?_
      refine Tr.tp 1 ((St.kp hS (by decide) (by decide) (by decide)).trans en_120_37) ?_
      refine Tr.iald (pc := 50) d_X12_variable_50 (ty_128 hS.1.1) (by and_intros <;> omega) (by and_intros <;> omega) ?_
      refine Tr.tp g128_1 ((St.kp h20 (by decide) (by decide) (by decide)).trans k20_128_1) ?_
      refine Tr.iadd (pc := 51) d_X12_variable_51 ?_
      refine Tr.tp (g128_1 + 6) ((w32_id (by and_intros <;> omega)).trans (by first | rfl | (apply Int.le_antisymm <;> omega))) ?_
      refine Tr.aload_n (pc := 52) (i := 0) d_X12_variable_52 rfl rfl ?_
      refine Tr.callV (pc := 53) (as := []) d_X12_variable_53 s_12_508 ok_X12_fresh rfl rfl (Nat.le_of_ble_eq_true rfl) (Nat.le_of_ble_eq_true rfl) (by decide) (ty_120 hS.1.1) ?_
      have kb53_120_3 : rd M20 120 3 = s20_120_3 := es20_120_3
      have kb53_120_4 : rd M20 120 4 = s20_120_4 := es20_120_4
      have kb53_120_5 : rd M20 120 5 = s20_120_5 := es20_120_5
      have kb53_120_7 : rd M20 120 7 = s20_120_7 := es20_120_7
      have kb53_120_8 : rd M20 120 8 = s20_120_8 := es20_120_8
      refine Tr.imp (Tr.deep (by decide) (sp_X12_fresh_120 hS.1 ((St.kp hS (by decide) (by decide) (by decide)).trans en_120_37) (by and_intros <;> omega) (by and_intros <;> omega) (by and_intros <;> omega))) ?_
      rintro M53 _ ⟨h53, r53, rfl, lr53, ur53, z53_0, z53_1, z53_2, z53_3, z53_4, z53_5⟩
      have hS := St.tr hS h53 (by decide) (by decide)
      obtain ⟨s53_120_3, es53_120_3⟩ : ∃ v, rd M53 120 3 = v := ⟨_, rfl⟩
      have bs53_120_3 : 0 ≤ s53_120_3 ∧ s53_120_3 ≤ 3 := by rw [← es53_120_3]; exact ir_120_3 hS.1.2.1
      obtain ⟨s53_120_4, es53_120_4⟩ : ∃ v, rd M53 120 4 = v := ⟨_, rfl⟩
      have bs53_120_4 : 0 ≤ s53_120_4 ∧ s53_120_4 ≤ 900 := by rw [← es53_120_4]; exact ir_120_4 hS.1.2.1
      obtain ⟨s53_120_5, es53_120_5⟩ : ∃ v, rd M53 120 5 = v := ⟨_, rfl⟩
      have bs53_120_5 : 0 ≤ s53_120_5 ∧ s53_120_5 ≤ 900 := by rw [← es53_120_5]; exact ir_120_5 hS.1.2.1
      obtain ⟨s53_120_7, es53_120_7⟩ : ∃ v, rd M53 120 7 = v := ⟨_, rfl⟩
      have bs53_120_7 : (-9223372036854775808) ≤ s53_120_7 ∧ s53_120_7 ≤ 9223372036854775807 := by rw [← es53_120_7]; exact ir_120_7 hS.1.2.1
      obtain ⟨s53_120_8, es53_120_8⟩ : ∃ v, rd M53 120 8 = v := ⟨_, rfl⟩
      have bs53_120_8 : 0 ≤ s53_120_8 ∧ s53_120_8 ≤ 5 := by rw [← es53_120_8]; exact ir_120_8 hS.1.2.1
      refine Tr.sc [(1, r53), (0, (g128_1 + 6)), (2, 135)] rfl ?_
      refine Tr.lastS (pc := 56) (P := St Pm1 ws_X12_variable_120 as_X12_variable_120 M0) d_X12_variable_56 (ty_135 hS.1.1) (by and_intros <;> omega) (by and_intros <;> omega) (sa_135 hS (by decide) (by and_intros <;> omega) (Pm1.of hS.1.2.2.2.2 (fun _ => rd_wb _ rfl) (fun _ => rd_wb _ rfl) (fun _ => rd_wb _ rfl) (fun _ => rd_wb _ rfl) (fun _ => rd_wb _ rfl) (fun _ => rd_wb _ rfl) (fun _ => rd_wb _ rfl) (fun _ => rd_wb _ rfl) (fun _ => rd_wb _ rfl) (fun _ => rd_wb _ rfl) (rd_wb _ rfl) (rd_wb _ rfl) (rd_wb _ rfl) (rd_wb _ rfl) (rd_wb _ rfl) (rd_wb _ rfl) (rd_wb _ rfl) (rd_wb _ rfl) (rd_wb _ rfl) (rd_wb _ rfl) (rd_wb _ rfl))) (fun M56 hS w56 => ?_)
      refine Tr.aload_n (pc := 57) (i := 0) d_X12_variable_57 rfl rfl ?_
      refine Tr.getf (pc := 58) d_X12_variable_58 f_12_36 (by decide) (by decide) (ty_120 hS.1.1) ?_
      refine Tr.tp s53_120_8 ((Wr.b w56 rfl).trans es53_120_8) ?_
      refine Tr.if_ne (pc := 61) (tgt := 77) d_X12_variable_61 rfl (fun c61 => ?_) (fun c61 => ?_)
      · have kr_120_3 : rd M56 120 3 = s53_120_3 := ((Wr.b w56 rfl).trans es53_120_3)
        have kr_120_4 : rd M56 120 4 = s53_120_4 := ((Wr.b w56 rfl).trans es53_120_4)
        have kr_120_5 : rd M56 120 5 = s53_120_5 := ((Wr.b w56 rfl).trans es53_120_5)
        have kr_120_7 : rd M56 120 7 = s53_120_7 := ((Wr.b w56 rfl).trans es53_120_7)
        have kr_120_8 : rd M56 120 8 = s53_120_8 := ((Wr.b w56 rfl).trans es53_120_8)
        have mnr : min (rd M56 120 3) 1 = min (s53_120_3 : Int) 1 := by rw [kr_120_3]
        have mn0 : min (rd M0 120 3) 1 = min (g120_3) 1 := by rw [eg120_3]
        have mnb : 0 ≤ min (s53_120_3 : Int) 1 ∧ min (s53_120_3 : Int) 1 ≤ 1 := by have h9 : (0 : Int) ≤ s53_120_3 := (by and_intros <;> omega); exact ⟨Int.le_min.2 ⟨h9, by decide⟩, Int.min_le_right _ _⟩
        have mnd : 0 ≤ min (g120_3 : Int) 1 ∧ min (g120_3 : Int) 1 ≤ 1 := by have h9 : (0 : Int) ≤ g120_3 := (by and_intros <;> omega); exact ⟨Int.le_min.2 ⟨h9, by decide⟩, Int.min_le_right _ _⟩
        exact Tr.vret (pc := 77) d_X12_variable_77 rfl ⟨hS, rfl, by omega, by omega, by omega, by omega, by omega, by omega⟩
      · refine Tr.aload_n (pc := 64) (i := 0) d_X12_variable_64 rfl rfl ?_
        refine Tr.getf (pc := 65) d_X12_variable_65 f_12_69 (by decide) (by decide) (ty_120 hS.1.1) ?_
        refine Tr.tp 128 (fx_120_19 hS.1.1) ?_
        refine Tr.aload_n (pc := 68) (i := 0) d_X12_variable_68 rfl rfl ?_
        refine Tr.getf (pc := 69) d_X12_variable_69 f_12_124 (by decide) (by decide) (ty_120 hS.1.1) ?_
        refine Tr.tp 1 ((St.kp hS (by decide) (by decide) (by decide)).trans en_120_37) ?_
        refine Tr.dup2 (pc := 72) d_X12_variable_72 ne01 ne21 ?_
        refine Tr.iald (pc := 73) d_X12_variable_73 (ty_128 hS.1.1) (by and_intros <;> omega) (by and_intros <;> omega) ?_
        refine Tr.tp g128_1 ((Wr.b w56 rfl).trans ((St.kp h53 (by decide) (by decide) (by decide)).trans ((St.kp h20 (by decide) (by decide) (by decide)).trans k20_128_1))) ?_
        refine Tr.iconst (pc := 74) d_X12_variable_74 (by decide) ?_
        refine Tr.iadd (pc := 75) d_X12_variable_75 ?_
        refine Tr.tp (g128_1 + 1) ((w32_id (by and_intros <;> omega)).trans (by first | rfl | (apply Int.le_antisymm <;> omega))) ?_
        refine Tr.iastS (pc := 76) (P := St Pm1 ws_X12_variable_120 as_X12_variable_120 M0) d_X12_variable_76 (ty_128 hS.1.1) (by and_intros <;> omega) (by and_intros <;> omega) (st_128_1 hS (by decide) (by and_intros <;> omega) (Pm1.of hS.1.2.2.2.2 (fun _ => rd_wb _ rfl) (fun _ => rd_wb _ rfl) (fun _ => rd_wb _ rfl) (fun _ => rd_wb _ rfl) (fun _ => rd_wb _ rfl) (fun _ => rd_wb _ rfl) (fun _ => rd_wb _ rfl) (fun _ => rd_wb _ rfl) (fun _ => rd_wb _ rfl) (fun _ => rd_wb _ rfl) (rd_wb _ rfl) (rd_wb _ rfl) (rd_wb _ rfl) (rd_wb _ rfl) (rd_wb _ rfl) (rd_wb _ rfl) (rd_wb _ rfl) (rd_wb _ rfl) (rd_wb _ rfl) (rd_wb _ rfl) (rd_wb _ rfl))) (fun M76 hS w76 => ?_)
        have kr_120_3 : rd M76 120 3 = s53_120_3 := ((Wr.b w76 rfl).trans ((Wr.b w56 rfl).trans es53_120_3))
        have kr_120_4 : rd M76 120 4 = s53_120_4 := ((Wr.b w76 rfl).trans ((Wr.b w56 rfl).trans es53_120_4))
        have kr_120_5 : rd M76 120 5 = s53_120_5 := ((Wr.b w76 rfl).trans ((Wr.b w56 rfl).trans es53_120_5))
        have kr_120_7 : rd M76 120 7 = s53_120_7 := ((Wr.b w76 rfl).trans ((Wr.b w56 rfl).trans es53_120_7))
        have kr_120_8 : rd M76 120 8 = s53_120_8 := ((Wr.b w76 rfl).trans ((Wr.b w56 rfl).trans es53_120_8))
        have mnr : min (rd M76 120 3) 1 = min (s53_120_3 : Int) 1 := by rw [kr_120_3]
        have mn0 : min (rd M0 120 3) 1 = min (g120_3) 1 := by rw [eg120_3]
        have mnb : 0 ≤ min (s53_120_3 : Int) 1 ∧ min (s53_120_3 : Int) 1 ≤ 1 := by have h9 : (0 : Int) ≤ s53_120_3 := (by and_intros <;> omega); exact ⟨Int.le_min.2 ⟨h9, by decide⟩, Int.min_le_right _ _⟩
        have mnd : 0 ≤ min (g120_3 : Int) 1 ∧ min (g120_3 : Int) 1 ≤ 1 := by have h9 : (0 : Int) ≤ g120_3 := (by and_intros <;> omega); exact ⟨Int.le_min.2 ⟨h9, by decide⟩, Int.min_le_right _ _⟩
        exact Tr.vret (pc := 77) d_X12_variable_77 rfl ⟨hS, rfl, by omega, by omega, by omega, by omega, by omega, by omega⟩
    · have kr_120_3 : rd M20 120 3 = s20_120_3 := es20_120_3
      have kr_120_4 : rd M20 120 4 = s20_120_4 := es20_120_4
      have kr_120_5 : rd M20 120 5 = s20_120_5 := es20_120_5
      have kr_120_7 : rd M20 120 7 = s20_120_7 := es20_120_7
      have kr_120_8 : rd M20 120 8 = s20_120_8 := es20_120_8
      have mnr : min (rd M20 120 3) 1 = min (s20_120_3 : Int) 1 := by rw [kr_120_3]
      have mn0 : min (rd M0 120 3) 1 = min (g120_3) 1 := by rw [eg120_3]
      have mnb : 0 ≤ min (s20_120_3 : Int) 1 ∧ min (s20_120_3 : Int) 1 ≤ 1 := by have h9 : (0 : Int) ≤ s20_120_3 := (by and_intros <;> omega); exact ⟨Int.le_min.2 ⟨h9, by decide⟩, Int.min_le_right _ _⟩
      have mnd : 0 ≤ min (g120_3 : Int) 1 ∧ min (g120_3 : Int) 1 ≤ 1 := by have h9 : (0 : Int) ≤ g120_3 := (by and_intros <;> omega); exact ⟨Int.le_min.2 ⟨h9, by decide⟩, Int.min_le_right _ _⟩
      exact Tr.vret (pc := 30) d_X12_variable_30 rfl ⟨hS, rfl, by omega, by omega, by omega, by omega, by omega, by omega⟩
  refine Tr.icmp_ne (pc := 12) (tgt := 19) d_X12_variable_12 rfl (fun c12 => ?_) (fun c12 => ?_)
  · refine Tr.iconst (pc := 19) d_X12_variable_19 (by decide) ?_
    refine Tr.pick [0] (ls2 := [(0, (2, 120))]) rfl ?_
    exact J20 _ _ hS (by and_intros <;> omega) eg120_3 eg120_4 eg120_5 eg120_7 eg120_8 eg128_1 (by first | assumption | omega)
  · refine Tr.iconst (pc := 15) d_X12_variable_15 (by decide) ?_
    refine Tr.goto (pc := 16) (tgt := 20) d_X12_variable_16 rfl ?_
    refine Tr.pick [0] (ls2 := [(0, (2, 120))]) rfl ?_
    exact J20 _ _ hS (by and_intros <;> omega) eg120_3 eg120_4 eg120_5 eg120_7 eg120_8 eg128_1 (by first | assumption | omega)
