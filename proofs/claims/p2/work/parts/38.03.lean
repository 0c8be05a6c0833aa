set_option maxRecDepth 100000 in
set_option maxHeartbeats 4000000 in
theorem ns_X12_must_120 {l : Launch} {K : EC} {M0 : Mem} {G120_3 G120_4 G120_5 G120_7 G120_8 G9010_0 : Int} (hI : In Pm1 M0) (k120_3 : rd M0 120 3 = G120_3) (k120_4 : rd M0 120 4 = G120_4) (k120_5 : rd M0 120 5 = G120_5) (k120_7 : rd M0 120 7 = G120_7) (k120_8 : rd M0 120 8 = G120_8) (k9010_0 : tav M0 = G9010_0)  (a1 : Int) (ha1 : 0 ≤ a1 ∧ a1 ≤ 300)  (hq0 : G120_3 = 0 ∨ G120_4 + 1 ≤ G120_5) (hq1 : G120_4 ≤ G120_5) (hq2 : G120_3 ≠ 1 ∨ G120_4 + 2 ≤ G120_5 ∨ G120_7 < 256) : Tr l K 2 mX12_must 0 [(0, (2, 120)), (1, (0, a1))] [] M0 (fun M' r => St Pm1 ws_X12_must_120 as_X12_must_120 M0 M' ∧ ∃ S120_3 S120_4 S120_5 S120_7 S120_8 S9010_0 : Int, rd M' 120 3 = S120_3 ∧ (0 ≤ S120_3 ∧ S120_3 ≤ 3) ∧ rd M' 120 4 = S120_4 ∧ (0 ≤ S120_4 ∧ S120_4 ≤ 900) ∧ rd M' 120 5 = S120_5 ∧ (0 ≤ S120_5 ∧ S120_5 ≤ 900) ∧ rd M' 120 7 = S120_7 ∧ ((-9223372036854775808) ≤ S120_7 ∧ S120_7 ≤ 9223372036854775807) ∧ rd M' 120 8 = S120_8 ∧ (0 ≤ S120_8 ∧ S120_8 ≤ 5) ∧ tav M' = S9010_0 ∧ ((-1) ≤ S9010_0 ∧ S9010_0 ≤ 1800) ∧ r = none ∧ Hd (S120_3 = 0 ∨ S120_4 + 1 ≤ S120_5) ∧ (S120_4 ≤ S120_5) ∧ Hd (S120_3 ≠ 1 ∨ S120_4 + 2 ≤ S120_5 ∨ S120_7 < 256) ∧ (G120_4 ≤ S120_4 ∧ G120_5 ≤ S120_5 ∧ G9010_0 ≤ S9010_0) ∧ Hd (G120_8 = 0 ∨ S120_8 = G120_8) ∧ Hd (1 ≤ S120_8 ∨ G9010_0 < S9010_0)) := by
  subst k120_3
  subst k120_4
  subst k120_5
  subst k120_7
  subst k120_8
  subst k9010_0
  refine Tr.imp (sp_X12_must_120 hI a1 ha1 hq0 hq1 hq2) ?_
  rintro M' _ ⟨hS, rfl, z0, z1, z2, z3, z4, z5⟩
  exact ⟨hS, _, _, _, _, _, _, rfl, ir_120_3 hS.1.2.1, rfl, ir_120_4 hS.1.2.1, rfl, ir_120_5 hS.1.2.1, rfl, ir_120_7 hS.1.2.1, rfl, ir_120_8 hS.1.2.1, rfl, (tav_b hS.1.2.1), rfl, hd_i z0, z1, hd_i z2, z3, hd_i z4, hd_i z5⟩

def ws_X12_declares_120 : List (Int × Int) := [(120, 3), (120, 4), (120, 5), (120, 6), (120, 7), (120, 8), (120, 9), (122, 1), (123, 1), (124, 1), (125, 1), (126, 1), (127, 1), (128, 1)]
def as_X12_declares_120 : List Int := [130, 131, 132, 133, 134, 135]
def q_X12_declares_120 (M0 M' : Mem) (r : Option PV) : Prop := St Pm1 ws_X12_declares_120 as_X12_declares_120 M0 M' ∧ ∃ v : Int, r = some (0, v) ∧ 0 ≤ v ∧ v ≤ 1 ∧ (rd M' 120 3 = 0 ∨ rd M' 120 4 + 1 ≤ rd M' 120 5) ∧ (rd M' 120 4 ≤ rd M' 120 5) ∧ (rd M' 120 3 ≠ 1 ∨ rd M' 120 4 + 2 ≤ rd M' 120 5 ∨ rd M' 120 7 < 256) ∧ (rd M0 120 4 ≤ rd M' 120 4 ∧ rd M0 120 5 ≤ rd M' 120 5 ∧ tav M0 ≤ tav M') ∧ (rd M0 120 8 = 0 ∨ rd M' 120 8 = rd M0 120 8) ∧ (v = 0 ∨ 1 ≤ rd M' 120 8 ∨ tav M0 < tav M')
theorem kp_X12_declares_120_120_37 {q : Mem → Prop} {M0 M : Mem} (h : St q ws_X12_declares_120 as_X12_declares_120 M0 M) : rd M 120 37 = rd M0 120 37 := St.kp h (by decide) (by decide) (by decide)
set_option maxRecDepth 100000 in
set_option maxHeartbeats 4000000 in
theorem sp_X12_declares_120 {l : Launch} {K : EC} {M0 : Mem} (hI : In Pm1 M0) (en_120_37 : rd M0 120 37 = 1)   (hq0 : rd M0 120 3 = 0 ∨ rd M0 120 4 + 1 ≤ rd M0 120 5) (hq1 : rd M0 120 4 ≤ rd M0 120 5) (hq2 : rd M0 120 3 ≠ 1 ∨ rd M0 120 4 + 2 ≤ rd M0 120 5 ∨ rd M0 120 7 < 256) (hq3 : rd M0 120 3 ≠ 0) (hq4 : rd M0 120 8 = 0) : Tr l K 4 mX12_declares 0 [(0, (2, 120))] [] M0 (q_X12_declares_120 M0) := by
  have hS : St Pm1 ws_X12_declares_120 as_X12_declares_120 M0 M0 := St.rf hI
  obtain ⟨g120_8, eg120_8⟩ : ∃ v, rd M0 120 8 = v := ⟨_, rfl⟩
  have bg120_8 : 0 ≤ g120_8 ∧ g120_8 ≤ 5 := by rw [← eg120_8]; exact ir_120_8 hI.2.1
  obtain ⟨g120_3, eg120_3⟩ : ∃ v, rd M0 120 3 = v := ⟨_, rfl⟩
  have bg120_3 : 0 ≤ g120_3 ∧ g120_3 ≤ 3 := by rw [← eg120_3]; exact ir_120_3 hI.2.1
  obtain ⟨g120_4, eg120_4⟩ : ∃ v, rd M0 120 4 = v := ⟨_, rfl⟩
  have bg120_4 : 0 ≤ g120_4 ∧ g120_4 ≤ 900 := by rw [← eg120_4]; exact ir_120_4 hI.2.1
  obtain ⟨g120_5, eg120_5⟩ : ∃ v, rd M0 120 5 = v := ⟨_, rfl⟩
  have bg120_5 : 0 ≤ g120_5 ∧ g120_5 ≤ 900 := by rw [← eg120_5]; exact ir_120_5 hI.2.1
  obtain ⟨g120_7, eg120_7⟩ : ∃ v, rd M0 120 7 = v := ⟨_, rfl⟩
  have bg120_7 : (-9223372036854775808) ≤ g120_7 ∧ g120_7 ≤ 9223372036854775807 := by rw [← eg120_7]; exact ir_120_7 hI.2.1
  obtain ⟨g9010_0, eg9010_0⟩ : ∃ v, tav M0 = v := ⟨_, rfl⟩
  have bg9010_0 : (-1) ≤ g9010_0 ∧ g9010_0 ≤ 1800 := by rw [← eg9010_0]; exact (tav_b hI.2.1)
  obtain ⟨g120_6, eg120_6⟩ : ∃ v, rd M0 120 6 = v := ⟨_, rfl⟩
  have bg120_6 : (-2147483648) ≤ g120_6 ∧ g120_6 ≤ 2147483647 := by rw [← eg120_6]; exact ir_120_6 hI.2.1
  replace hq0 := hd_i hq0
  replace hq2 := hd_i hq2
  replace hq3 := hd_i hq3
  refine Tr.aload_n (pc := 0) (i := 0) d_X12_declares_0 rfl rfl ?_
  refine Tr.ldc2 (pc := 1) d_X12_declares_1 kl_12_399 (by decide) ?_
  refine Tr.callV (pc := 4) (as := [_]) d_X12_declares_4 s_12_484 ok_X12_isWord rfl rfl (Nat.le_of_ble_eq_true rfl) (Nat.le_of_ble_eq_true rfl) (by decide) (ty_120 hS.1.1) ?_
  refine Tr.imp (Tr.deep (by decide) (ns_X12_isWord_120 (G120_3 := g120_3) (G120_7 := g120_7) hS.1.wk (eg120_3) (eg120_7) 448377483892 (by omega))) ?_
  rintro M4 _ ⟨h4, r4, rfl, lr4, ur4, z4_0⟩
  have h4 := St.rn h4 (Pm1.of hS.1.2.2.2.2 (fun _ => (ka_X12_isWord_120_131 h4 _)) (fun _ => (ka_X12_isWord_120_137 h4 _)) (fun _ => (ka_X12_isWord_120_138 h4 _)) (fun _ => (ka_X12_isWord_120_139 h4 _)) (fun _ => (ka_X12_isWord_120_140 h4 _)) (fun _ => (ka_X12_isWord_120_141 h4 _)) (fun _ => (ka_X12_isWord_120_142 h4 _)) (fun _ => (ka_X12_isWord_120_143 h4 _)) (fun _ => (ka_X12_isWord_120_151 h4 _)) (fun _ => (ka_X12_isWord_120_152 h4 _)) (kp_X12_isWord_120_126_0 h4) (kp_X12_isWord_120_126_1 h4) (kp_X12_isWord_120_136_0 h4) (kp_X12_isWord_120_136_1 h4) (kp_X12_isWord_120_123_0 h4) (kp_X12_isWord_120_123_1 h4) (kp_X12_isWord_120_124_0 h4) (kp_X12_isWord_120_124_1 h4) (kp_X12_isWord_120_120_8 h4) (kp_X12_isWord_120_120_36 h4) (kp_X12_isWord_120_120_50 h4))
  have hS := St.tr hS h4 (by decide) (by decide)
  refine Tr.sc [(0, r4)] rfl ?_
  have J152 : ∀ (M : Mem) (u152_120_3 u152_120_4 u152_120_5 u152_120_6 u152_120_7 u152_120_8 u152_9010_0 : Int), St Pm1 ws_X12_declares_120 as_X12_declares_120 M0 M → (0 ≤ u152_120_3 ∧ u152_120_3 ≤ 3) → (0 ≤ u152_120_4 ∧ u152_120_4 ≤ 900) → (0 ≤ u152_120_5 ∧ u152_120_5 ≤ 900) → ((-2147483648) ≤ u152_120_6 ∧ u152_120_6 ≤ 2147483647) → ((-9223372036854775808) ≤ u152_120_7 ∧ u152_120_7 ≤ 9223372036854775807) → (0 ≤ u152_120_8 ∧ u152_120_8 ≤ 5) → ((-1) ≤ u152_9010_0 ∧ u152_9010_0 ≤ 1800) → rd M 120 3 = u152_120_3 → rd M 120 4 = u152_120_4 → rd M 120 5 = u152_120_5 → rd M 120 6 = u152_120_6 → rd M 120 7 = u152_120_7 → rd M 120 8 = u152_120_8 → tav M = u152_9010_0 → (u152_120_3 = 0 ∨ u152_120_4 + 1 ≤ u152_120_5) → (u152_120_4 ≤ u152_120_5) → (u152_120_3 ≠ 1 ∨ u152_120_4 + 2 ≤ u152_120_5 ∨ u152_120_7 < 256) → (g120_4 ≤ u152_120_4 ∧ g120_5 ≤ u152_120_5 ∧ g9010_0 ≤ u152_9010_0) → (g120_8 = 0 ∨ u152_120_8 = g120_8) → Tr l K 4 mX12_declares 152 [(0, (2, 120))] [] M (q_X12_declares_120 M0) := by
    intro M u152_120_3 u152_120_4 u152_120_5 u152_120_6 u152_120_7 u152_120_8 u152_9010_0 hS bu152_120_3 bu152_120_4 bu152_120_5 bu152_120_6 bu152_120_7 bu152_120_8 bu152_9010_0 k152_120_3 k152_120_4 k152_120_5 k152_120_6 k152_120_7 k152_120_8 k152_9010_0 t152_0 t152_1 t152_2 t152_3 t152_4
    replace t152_0 := hd_i t152_0
    replace t152_2 := hd_i t152_2
    replace t152_4 := hd_i t152_4
    refine Tr.aload_n (pc := 152) (i := 0) d_X12_declares_152 rfl rfl ?_
    refine Tr.bipush (pc := 153) d_X12_declares_153 rfl (by decide) ?_
    refine Tr.callV (pc := 155) (as := [_]) d_X12_declares_155 s_12_529 ok_X12_must rfl rfl (Nat.le_of_ble_eq_true rfl) (Nat.le_of_ble_eq_true rfl) (by decide) (ty_120 hS.1.1) ?_
    refine Tr.imp (Tr.deep (by decide) (ns_X12_must_120 (G120_3 := u152_120_3) (G120_4 := u152_120_4) (G120_5 := u152_120_5) (G120_7 := u152_120_7) (G120_8 := u152_120_8) (G9010_0 := u152_9010_0) hS.1 (k152_120_3) (k152_120_4) (k152_120_5) (k152_120_7) (k152_120_8) (k152_9010_0) 59 (by omega) (by first | exact (hd_o t152_0) | exact (hd_o t152_0).elim (fun h1 => by omega) (fun h1 => by omega)) (by omega) (by first | exact (hd_o t152_2) | exact (hd_o t152_2).elim (fun h1 => by omega) (fun h1 => h1.elim (fun h1 => by omega) (fun h1 => by omega))))) ?_
    rintro M155 _ ⟨h155, s155_120_3, s155_120_4, s155_120_5, s155_120_7, s155_120_8, s155_9010_0, es155_120_3, bs155_120_3, es155_120_4, bs155_120_4, es155_120_5, bs155_120_5, es155_120_7, bs155_120_7, es155_120_8, bs155_120_8, es155_9010_0, bs155_9010_0, rfl, z155_0, z155_1, z155_2, z155_3, z155_4, z155_5⟩
    have hS := St.tr hS h155 (by decide) (by decide)
    refine Tr.sc [] rfl ?_
    refine Tr.iconst (pc := 158) d_X12_declares_158 (by decide) ?_
    have kr_120_3 : rd M155 120 3 = s155_120_3 := es155_120_3
    have kr_120_4 : rd M155 120 4 = s155_120_4 := es155_120_4
    have kr_120_5 : rd M155 120 5 = s155_120_5 := es155_120_5
    have kr_120_7 : rd M155 120 7 = s155_120_7 := es155_120_7
    have kr_120_8 : rd M155 120 8 = s155_120_8 := es155_120_8
    have kr_9010_0 : tav M155 = s155_9010_0 := es155_9010_0
    exact Tr.zret (pc := 159) d_X12_declares_159 rfl (by omega) ⟨hS, _, rfl, by omega, by omega, (by first | exact (hd_o z155_0) | exact (hd_o z155_0).elim (fun h1 => by omega) (fun h1 => by omega)), (by omega), (by first | exact (hd_o z155_2) | exact (hd_o z155_2).elim (fun h1 => by omega) (fun h1 => h1.elim (fun h1 => by omega) (fun h1 => by omega))), (by and_intros <;> omega), (by omega), (by exact (hd_o z155_5).elim (fun h1 => by omega) (fun h1 => by omega))⟩
  refine Tr.if_eq (pc := 7) (tgt := 34) d_X12_declares_7 rfl (fun c7 => ?_) (fun c7 => ?_)
  · refine Tr.aload_n (pc := 34) (i := 0) d_X12_declares_34 rfl rfl ?_
    refine Tr.ldc2 (pc := 35) d_X12_declares_35 kl_12_401 (by decide) ?_
    refine Tr.callV (pc := 38) (as := [_]) d_X12_declares_38 s_12_484 ok_X12_isWord rfl rfl (Nat.le_of_ble_eq_true rfl) (Nat.le_of_ble_eq_true rfl) (by decide) (ty_120 hS.1.1) ?_
    refine Tr.imp (Tr.deep (by decide) (ns_X12_isWord_120 (G120_3 := g120_3) (G120_7 := g120_7) hS.1.wk (((kp_X12_isWord_120_120_3 h4).trans eg120_3)) (((kp_X12_isWord_120_120_7 h4).trans eg120_7)) 426835667045 (by omega))) ?_
    rintro M38 _ ⟨h38, r38, rfl, lr38, ur38, z38_0⟩
    have h38 := St.rn h38 (Pm1.of hS.1.2.2.2.2 (fun _ => (ka_X12_isWord_120_131 h38 _)) (fun _ => (ka_X12_isWord_120_137 h38 _)) (fun _ => (ka_X12_isWord_120_138 h38 _)) (fun _ => (ka_X12_isWord_120_139 h38 _)) (fun _ => (ka_X12_isWord_120_140 h38 _)) (fun _ => (ka_X12_isWord_120_141 h38 _)) (fun _ => (ka_X12_isWord_120_142 h38 _)) (fun _ => (ka_X12_isWord_120_143 h38 _)) (fun _ => (ka_X12_isWord_120_151 h38 _)) (fun _ => (ka_X12_isWord_120_152 h38 _)) (kp_X12_isWord_120_126_0 h38) (kp_X12_isWord_120_126_1 h38) (kp_X12_isWord_120_136_0 h38) (kp_X12_isWord_120_136_1 h38) (kp_X12_isWord_120_123_0 h38) (kp_X12_isWord_120_123_1 h38) (kp_X12_isWord_120_124_0 h38) (kp_X12_isWord_120_124_1 h38) (kp_X12_isWord_120_120_8 h38) (kp_X12_isWord_120_120_36 h38) (kp_X12_isWord_120_120_50 h38))
    have hS := St.tr hS h38 (by decide) (by decide)
    refine Tr.sc [(0, r38)] rfl ?_
    refine Tr.if_eq (pc := 41) (tgt := 99) d_X12_declares_41 rfl (fun c41 => ?_) (fun c41 => ?_)
    · refine Tr.aload_n (pc := 99) (i := 0) d_X12_declares_99 rfl rfl ?_
      refine Tr.ldc2 (pc := 100) d_X12_declares_100 kl_12_403 (by decide) ?_
      refine Tr.callV (pc := 103) (as := [_]) d_X12_declares_103 s_12_484 ok_X12_isWord rfl rfl (Nat.le_of_ble_eq_true rfl) (Nat.le_of_ble_eq_true rfl) (by decide) (ty_120 hS.1.1) ?_
      refine Tr.imp (Tr.deep (by decide) (ns_X12_isWord_120 (G120_3 := g120_3) (G120_7 := g120_7) hS.1.wk (((kp_X12_isWord_120_120_3 h38).trans ((kp_X12_isWord_120_120_3 h4).trans eg120_3))) (((kp_X12_isWord_120_120_7 h38).trans ((kp_X12_isWord_120_120_7 h4).trans eg120_7))) 1885434484 (by omega))) ?_
      rintro M103 _ ⟨h103, r103, rfl, lr103, ur103, z103_0⟩
      have h103 := St.rn h103 (Pm1.of hS.1.2.2.2.2 (fun _ => (ka_X12_isWord_120_131 h103 _)) (fun _ => (ka_X12_isWord_120_137 h103 _)) (fun _ => (ka_X12_isWord_120_138 h103 _)) (fun _ => (ka_X12_isWord_120_139 h103 _)) (fun _ => (ka_X12_isWord_120_140 h103 _)) (fun _ => (ka_X12_isWord_120_141 h103 _)) (fun _ => (ka_X12_isWord_120_142 h103 _)) (fun _ => (ka_X12_isWord_120_143 h103 _)) (fun _ => (ka_X12_isWord_120_151 h103 _)) (fun _ => (ka_X12_isWord_120_152 h103 _)) (kp_X12_isWord_120_126_0 h103) (kp_X12_isWord_120_126_1 h103) (kp_X12_isWord_120_136_0 h103) (kp_X12_isWord_120_136_1 h103) (kp_X12_isWord_120_123_0 h103) (kp_X12_isWord_120_123_1 h103) (kp_X12_isWord_120_124_0 h103) (kp_X12_isWord_120_124_1 h103) (kp_X12_isWord_120_120_8 h103) (kp_X12_isWord_120_120_36 h103) (kp_X12_isWord_120_120_50 h103))
      have hS := St.tr hS h103 (by decide) (by decide)
      refine Tr.sc [(0, r103)] rfl ?_
      refine Tr.if_eq (pc := 106) (tgt := 116) d_X12_declares_106 rfl (fun c106 => ?_) (fun c106 => ?_)
      · refine Tr.aload_n (pc := 116) (i := 0) d_X12_declares_116 rfl rfl ?_
        refine Tr.ldc2 (pc := 117) d_X12_declares_117 kl_12_415 (by decide) ?_
        refine Tr.callV (pc := 120) (as := [_]) d_X12_declares_120 s_12_484 ok_X12_isWord rfl rfl (Nat.le_of_ble_eq_true rfl) (Nat.le_of_ble_eq_true rfl) (by decide) (ty_120 hS.1.1) ?_
        refine Tr.imp (Tr.deep (by decide) (ns_X12_isWord_120 (G120_3 := g120_3) (G120_7 := g120_7) hS.1.wk (((kp_X12_isWord_120_120_3 h103).trans ((kp_X12_isWord_120_120_3 h38).trans ((kp_X12_isWord_120_120_3 h4).trans eg120_3)))) (((kp_X12_isWord_120_120_7 h103).trans ((kp_X12_isWord_120_120_7 h38).trans ((kp_X12_isWord_120_120_7 h4).trans eg120_7)))) 452824429940 (by omega))) ?_
        rintro M120 _ ⟨h120, r120, rfl, lr120, ur120, z120_0⟩
        have h120 := St.rn h120 (Pm1.of hS.1.2.2.2.2 (fun _ => (ka_X12_isWord_120_131 h120 _)) (fun _ => (ka_X12_isWord_120_137 h120 _)) (fun _ => (ka_X12_isWord_120_138 h120 _)) (fun _ => (ka_X12_isWord_120_139 h120 _)) (fun _ => (ka_X12_isWord_120_140 h120 _)) (fun _ => (ka_X12_isWord_120_141 h120 _)) (fun _ => (ka_X12_isWord_120_142 h120 _)) (fun _ => (ka_X12_isWord_120_143 h120 _)) (fun _ => (ka_X12_isWord_120_151 h120 _)) (fun _ => (ka_X12_isWord_120_152 h120 _)) (kp_X12_isWord_120_126_0 h120) (kp_X12_isWord_120_126_1 h120) (kp_X12_isWord_120_136_0 h120) (kp_X12_isWord_120_136_1 h120) (kp_X12_isWord_120_123_0 h120) (kp_X12_isWord_120_123_1 h120) (kp_X12_isWord_120_124_0 h120) (kp_X12_isWord_120_124_1 h120) (kp_X12_isWord_120_120_8 h120) (kp_X12_isWord_120_120_36 h120) (kp_X12_isWord_120_120_50 h120))
        have hS := St.tr hS h120 (by decide) (by decide)
        refine Tr.sc [(0, r120)] rfl ?_
        refine Tr.if_eq (pc := 123) (tgt := 133) d_X12_declares_123 rfl (fun c123 => ?_) (fun c123 => ?_)
        · refine Tr.aload_n (pc := 133) (i := 0) d_X12_declares_133 rfl rfl ?_
          refine Tr.ldc2 (pc := 134) d_X12_declares_134 kl_12_417 (by decide) ?_
          refine Tr.callV (pc := 137) (as := [_]) d_X12_declares_137 s_12_484 ok_X12_isWord rfl rfl (Nat.le_of_ble_eq_true rfl) (Nat.le_of_ble_eq_true rfl) (by decide) (ty_120 hS.1.1) ?_
          refine Tr.imp (Tr.deep (by decide) (ns_X12_isWord_120 (G120_3 := g120_3) (G120_7 := g120_7) hS.1.wk (((kp_X12_isWord_120_120_3 h120).trans ((kp_X12_isWord_120_120_3 h103).trans ((kp_X12_isWord_120_120_3 h38).trans ((kp_X12_isWord_120_120_3 h4).trans eg120_3))))) (((kp_X12_isWord_120_120_7 h120).trans ((kp_X12_isWord_120_120_7 h103).trans ((kp_X12_isWord_120_120_7 h38).trans ((kp_X12_isWord_120_120_7 h4).trans eg120_7))))) 7758194 (by omega))) ?_
          rintro M137 _ ⟨h137, r137, rfl, lr137, ur137, z137_0⟩
          have h137 := St.rn h137 (Pm1.of hS.1.2.2.2.2 (fun _ => (ka_X12_isWord_120_131 h137 _)) (fun _ => (ka_X12_isWord_120_137 h137 _)) (fun _ => (ka_X12_isWord_120_138 h137 _)) (fun _ => (ka_X12_isWord_120_139 h137 _)) (fun _ => (ka_X12_isWord_120_140 h137 _)) (fun _ => (ka_X12_isWord_120_141 h137 _)) (fun _ => (ka_X12_isWord_120_142 h137 _)) (fun _ => (ka_X12_isWord_120_143 h137 _)) (fun _ => (ka_X12_isWord_120_151 h137 _)) (fun _ => (ka_X12_isWord_120_152 h137 _)) (kp_X12_isWord_120_126_0 h137) (kp_X12_isWord_120_126_1 h137) (kp_X12_isWord_120_136_0 h137) (kp_X12_isWord_120_136_1 h137) (kp_X12_isWord_120_123_0 h137) (kp_X12_isWord_120_123_1 h137) (kp_X12_isWord_120_124_0 h137) (kp_X12_isWord_120_124_1 h137) (kp_X12_isWord_120_120_8 h137) (kp_X12_isWord_120_120_36 h137) (kp_X12_isWord_120_120_50 h137))
          have hS := St.tr hS h137 (by decide) (by decide)
          refine Tr.sc [(0, r137)] rfl ?_
          refine Tr.if_eq (pc := 140) (tgt := 150) d_X12_declares_140 rfl (fun c140 => ?_) (fun c140 => ?_)
          · refine Tr.iconst (pc := 150) d_X12_declares_150 (by decide) ?_
            have kr_120_3 : rd M137 120 3 = g120_3 := ((kp_X12_isWord_120_120_3 h137).trans ((kp_X12_isWord_120_120_3 h120).trans ((kp_X12_isWord_120_120_3 h103).trans ((kp_X12_isWord_120_120_3 h38).trans ((kp_X12_isWord_120_120_3 h4).trans eg120_3)))))
            have kr_120_4 : rd M137 120 4 = g120_4 := ((kp_X12_isWord_120_120_4 h137).trans ((kp_X12_isWord_120_120_4 h120).trans ((kp_X12_isWord_120_120_4 h103).trans ((kp_X12_isWord_120_120_4 h38).trans ((kp_X12_isWord_120_120_4 h4).trans eg120_4)))))
            have kr_120_5 : rd M137 120 5 = g120_5 := ((kp_X12_isWord_120_120_5 h137).trans ((kp_X12_isWord_120_120_5 h120).trans ((kp_X12_isWord_120_120_5 h103).trans ((kp_X12_isWord_120_120_5 h38).trans ((kp_X12_isWord_120_120_5 h4).trans eg120_5)))))
            have kr_120_7 : rd M137 120 7 = g120_7 := ((kp_X12_isWord_120_120_7 h137).trans ((kp_X12_isWord_120_120_7 h120).trans ((kp_X12_isWord_120_120_7 h103).trans ((kp_X12_isWord_120_120_7 h38).trans ((kp_X12_isWord_120_120_7 h4).trans eg120_7)))))
            have kr_120_8 : rd M137 120 8 = g120_8 := ((kp_X12_isWord_120_120_8 h137).trans ((kp_X12_isWord_120_120_8 h120).trans ((kp_X12_isWord_120_120_8 h103).trans ((kp_X12_isWord_120_120_8 h38).trans ((kp_X12_isWord_120_120_8 h4).trans eg120_8)))))
            have kr_9010_0 : tav M137 = g9010_0 := ((tav_of ((kp_X12_isWord_120_120_5 h137).trans ((kp_X12_isWord_120_120_5 h120).trans ((kp_X12_isWord_120_120_5 h103).trans ((kp_X12_isWord_120_120_5 h38).trans ((kp_X12_isWord_120_120_5 h4).trans rfl))))) ((kp_X12_isWord_120_120_3 h137).trans ((kp_X12_isWord_120_120_3 h120).trans ((kp_X12_isWord_120_120_3 h103).trans ((kp_X12_isWord_120_120_3 h38).trans ((kp_X12_isWord_120_120_3 h4).trans rfl)))))).trans eg9010_0)
            exact Tr.zret (pc := 151) d_X12_declares_151 rfl (by omega) ⟨hS, _, rfl, by omega, by omega, (by first | exact (hd_o hq0) | exact (hd_o hq0).elim (fun h1 => by omega) (fun h1 => by omega)), (by omega), (by first | exact (hd_o hq2) | exact (hd_o hq2).elim (fun h1 => by omega) (fun h1 => h1.elim (fun h1 => by omega) (fun h1 => by omega))), (by and_intros <;> omega), (by omega), (by omega)⟩
          · have c140b : 1 ≤ r137 ∧ r137 ≤ 1 := by omega
            replace c140 := hd_i c140
            refine Tr.aload_n (pc := 143) (i := 0) d_X12_declares_143 rfl rfl ?_
            refine Tr.callV (pc := 144) (as := []) d_X12_declares_144 s_12_526 ok_X12_variable rfl rfl (Nat.le_of_ble_eq_true rfl) (Nat.le_of_ble_eq_true rfl) (by decide) (ty_120 hS.1.1) ?_
            refine Tr.imp (Tr.deep (by decide) (ns_X12_variable_120 (G120_3 := g120_3) (G120_4 := g120_4) (G120_5 := g120_5) (G120_7 := g120_7) (G120_8 := g120_8) (G9010_0 := g9010_0) hS.1 (((kp_X12_isWord_120_120_3 h137).trans ((kp_X12_isWord_120_120_3 h120).trans ((kp_X12_isWord_120_120_3 h103).trans ((kp_X12_isWord_120_120_3 h38).trans ((kp_X12_isWord_120_120_3 h4).trans eg120_3)))))) (((kp_X12_isWord_120_120_4 h137).trans ((kp_X12_isWord_120_120_4 h120).trans ((kp_X12_isWord_120_120_4 h103).trans ((kp_X12_isWord_120_120_4 h38).trans ((kp_X12_isWord_120_120_4 h4).trans eg120_4)))))) (((kp_X12_isWord_120_120_5 h137).trans ((kp_X12_isWord_120_120_5 h120).trans ((kp_X12_isWord_120_120_5 h103).trans ((kp_X12_isWord_120_120_5 h38).trans ((kp_X12_isWord_120_120_5 h4).trans eg120_5)))))) (((kp_X12_isWord_120_120_7 h137).trans ((kp_X12_isWord_120_120_7 h120).trans ((kp_X12_isWord_120_120_7 h103).trans ((kp_X12_isWord_120_120_7 h38).trans ((kp_X12_isWord_120_120_7 h4).trans eg120_7)))))) (((kp_X12_isWord_120_120_8 h137).trans ((kp_X12_isWord_120_120_8 h120).trans ((kp_X12_isWord_120_120_8 h103).trans ((kp_X12_isWord_120_120_8 h38).trans ((kp_X12_isWord_120_120_8 h4).trans eg120_8)))))) (((tav_of ((kp_X12_isWord_120_120_5 h137).trans ((kp_X12_isWord_120_120_5 h120).trans ((kp_X12_isWord_120_120_5 h103).trans ((kp_X12_isWord_120_120_5 h38).trans ((kp_X12_isWord_120_120_5 h4).trans rfl))))) ((kp_X12_isWord_120_120_3 h137).trans ((kp_X12_isWord_120_120_3 h120).trans ((kp_X12_isWord_120_120_3 h103).trans ((kp_X12_isWord_120_120_3 h38).trans ((kp_X12_isWord_120_120_3 h4).trans rfl)))))).trans eg9010_0)) ((kp_X12_declares_120_120_37 hS).trans en_120_37) (by first | exact (hd_o hq0) | exact (hd_o hq0).elim (fun h1 => by omega) (fun h1 => by omega)) (by omega) (by first | exact (hd_o hq2) | exact (hd_o hq2).elim (fun h1 => by omega) (fun h1 => h1.elim (fun h1 => by omega) (fun h1 => by omega))) (by have h1 := (hd_o hq3); omega) (by omega))) ?_
            rintro M144 _ ⟨h144, s144_120_3, s144_120_4, s144_120_5, s144_120_7, s144_120_8, s144_9010_0, es144_120_3, bs144_120_3, es144_120_4, bs144_120_4, es144_120_5, bs144_120_5, es144_120_7, bs144_120_7, es144_120_8, bs144_120_8, es144_9010_0, bs144_9010_0, rfl, z144_0, z144_1, z144_2, z144_3, z144_4, z144_5⟩
            have hS := St.tr hS h144 (by decide) (by decide)
            refine Tr.sc [] rfl ?_
            refine Tr.goto (pc := 147) (tgt := 152) d_X12_declares_147 rfl ?_
            refine Tr.pick [0] (ls2 := [(0, (2, 120))]) rfl ?_
            obtain ⟨w152p147_120_6, ew152p147_120_6⟩ : ∃ v, rd M144 120 6 = v := ⟨_, rfl⟩
            have bw152p147_120_6 : (-2147483648) ≤ w152p147_120_6 ∧ w152p147_120_6 ≤ 2147483647 := by rw [← ew152p147_120_6]; exact ir_120_6 hS.1.2.1
            exact J152 _ _ _ _ _ _ _ _ hS (by and_intros <;> omega) (by and_intros <;> omega) (by and_intros <;> omega) (by and_intros <;> omega) (by omega) (by and_intros <;> omega) (by and_intros <;> omega) es144_120_3 es144_120_4 es144_120_5 ew152p147_120_6 es144_120_7 es144_120_8 es144_9010_0 (by first | exact (hd_o z144_0) | exact (hd_o z144_0).elim (fun h1 => by omega) (fun h1 => by omega)) (by omega) (by first | exact (hd_o z144_2) | exact (hd_o z144_2).elim (fun h1 => by omega) (fun h1 => h1.elim (fun h1 => by omega) (fun h1 => by omega))) (by and_intros <;> omega) (by first | exact (hd_o z144_4) | exact (hd_o z144_4).elim (fun h1 => by omega) (fun h1 => by omega))
        · have c123b : 1 ≤ r120 ∧ r120 ≤ 1 := by omega
          replace c123 := hd_i c123
          refine Tr.aload_n (pc := 126) (i := 0) d_X12_declares_126 rfl rfl ?_
          refine Tr.callV (pc := 127) (as := []) d_X12_declares_127 s_12_523 ok_X12_input rfl rfl (Nat.le_of_ble_eq_true rfl) (Nat.le_of_ble_eq_true rfl) (by decide) (ty_120 hS.1.1) ?_
          refine Tr.imp (Tr.deep (by decide) (ns_X12_input_120 (G120_3 := g120_3) (G120_4 := g120_4) (G120_5 := g120_5) (G120_7 := g120_7) (G120_8 := g120_8) (G9010_0 := g9010_0) hS.1 (((kp_X12_isWord_120_120_3 h120).trans ((kp_X12_isWord_120_120_3 h103).trans ((kp_X12_isWord_120_120_3 h38).trans ((kp_X12_isWord_120_120_3 h4).trans eg120_3))))) (((kp_X12_isWord_120_120_4 h120).trans ((kp_X12_isWord_120_120_4 h103).trans ((kp_X12_isWord_120_120_4 h38).trans ((kp_X12_isWord_120_120_4 h4).trans eg120_4))))) (((kp_X12_isWord_120_120_5 h120).trans ((kp_X12_isWord_120_120_5 h103).trans ((kp_X12_isWord_120_120_5 h38).trans ((kp_X12_isWord_120_120_5 h4).trans eg120_5))))) (((kp_X12_isWord_120_120_7 h120).trans ((kp_X12_isWord_120_120_7 h103).trans ((kp_X12_isWord_120_120_7 h38).trans ((kp_X12_isWord_120_120_7 h4).trans eg120_7))))) (((kp_X12_isWord_120_120_8 h120).trans ((kp_X12_isWord_120_120_8 h103).trans ((kp_X12_isWord_120_120_8 h38).trans ((kp_X12_isWord_120_120_8 h4).trans eg120_8))))) (((tav_of ((kp_X12_isWord_120_120_5 h120).trans ((kp_X12_isWord_120_120_5 h103).trans ((kp_X12_isWord_120_120_5 h38).trans ((kp_X12_isWord_120_120_5 h4).trans rfl)))) ((kp_X12_isWord_120_120_3 h120).trans ((kp_X12_isWord_120_120_3 h103).trans ((kp_X12_isWord_120_120_3 h38).trans ((kp_X12_isWord_120_120_3 h4).trans rfl))))).trans eg9010_0)) ((kp_X12_declares_120_120_37 hS).trans en_120_37) (by first | exact (hd_o hq0) | exact (hd_o hq0).elim (fun h1 => by omega) (fun h1 => by omega)) (by omega) (by first | exact (hd_o hq2) | exact (hd_o hq2).elim (fun h1 => by omega) (fun h1 => h1.elim (fun h1 => by omega) (fun h1 => by omega))) (by have h1 := (hd_o hq3); omega) (by omega))) ?_
          rintro M127 _ ⟨h127, s127_120_3, s127_120_4, s127_120_5, s127_120_7, s127_120_8, s127_9010_0, es127_120_3, bs127_120_3, es127_120_4, bs127_120_4, es127_120_5, bs127_120_5, es127_120_7, bs127_120_7, es127_120_8, bs127_120_8, es127_9010_0, bs127_9010_0, rfl, z127_0, z127_1, z127_2, z127_3, z127_4, z127_5⟩
          have hS := St.tr hS h127 (by decide) (by decide)
          refine Tr.sc [] rfl ?_
          refine Tr.goto (pc := 130) (tgt := 152) d_X12_declares_130 rfl ?_
          refine Tr.pick [0] (ls2 := [(0, (2, 120))]) rfl ?_
          obtain ⟨w152p130_120_6, ew152p130_120_6⟩ : ∃ v, rd M127 120 6 = v := ⟨_, rfl⟩
          have bw152p130_120_6 : (-2147483648) ≤ w152p130_120_6 ∧ w152p130_120_6 ≤ 2147483647 := by rw [← ew152p130_120_6]; exact ir_120_6 hS.1.2.1
          exact J152 _ _ _ _ _ _ _ _ hS (by and_intros <;> omega) (by and_intros <;> omega) (by and_intros <;> omega) (by and_intros <;> omega) (by omega) (by and_intros <;> omega) (by and_intros <;> omega) es127_120_3 es127_120_4 es127_120_5 ew152p130_120_6 es127_120_7 es127_120_8 es127_9010_0 (by first | exact (hd_o z127_0) | exact (hd_o z127_0).elim (fun h1 => by omega) (fun h1 => by omega)) (by omega) (by first | exact (hd_o z127_2) | exact (hd_o z127_2).elim (fun h1 => by omega) (fun h1 => h1.elim (fun h1 => by omega) (fun h1 => by omega))) (by and_intros <;> omega) (by first | exact (hd_o z127_4) | exact (hd_o z127_4).elim (fun h1 => by omega) (fun h1 => by omega))
      · have c106b : 1 ≤ r103 ∧ r103 ≤ 1 := by omega
        replace c106 := hd_i c106
        refine Tr.aload_n (pc := 109) (i := 0) d_X12_declares_109 rfl rfl ?_
        refine Tr.callV (pc := 110) (as := []) d_X12_declares_110 s_12_520 ok_X12_part rfl rfl (Nat.le_of_ble_eq_true rfl) (Nat.le_of_ble_eq_true rfl) (by decide) (ty_120 hS.1.1) ?_
        refine Tr.imp (Tr.deep (by decide) (ns_X12_part_120 (G120_3 := g120_3) (G120_4 := g120_4) (G120_5 := g120_5) (G120_7 := g120_7) (G120_8 := g120_8) (G9010_0 := g9010_0) hS.1 (((kp_X12_isWord_120_120_3 h103).trans ((kp_X12_isWord_120_120_3 h38).trans ((kp_X12_isWord_120_120_3 h4).trans eg120_3)))) (((kp_X12_isWord_120_120_4 h103).trans ((kp_X12_isWord_120_120_4 h38).trans ((kp_X12_isWord_120_120_4 h4).trans eg120_4)))) (((kp_X12_isWord_120_120_5 h103).trans ((kp_X12_isWord_120_120_5 h38).trans ((kp_X12_isWord_120_120_5 h4).trans eg120_5)))) (((kp_X12_isWord_120_120_7 h103).trans ((kp_X12_isWord_120_120_7 h38).trans ((kp_X12_isWord_120_120_7 h4).trans eg120_7)))) (((kp_X12_isWord_120_120_8 h103).trans ((kp_X12_isWord_120_120_8 h38).trans ((kp_X12_isWord_120_120_8 h4).trans eg120_8)))) (((tav_of ((kp_X12_isWord_120_120_5 h103).trans ((kp_X12_isWord_120_120_5 h38).trans ((kp_X12_isWord_120_120_5 h4).trans rfl))) ((kp_X12_isWord_120_120_3 h103).trans ((kp_X12_isWord_120_120_3 h38).trans ((kp_X12_isWord_120_120_3 h4).trans rfl)))).trans eg9010_0)) ((kp_X12_declares_120_120_37 hS).trans en_120_37) (by first | exact (hd_o hq0) | exact (hd_o hq0).elim (fun h1 => by omega) (fun h1 => by omega)) (by omega) (by first | exact (hd_o hq2) | exact (hd_o hq2).elim (fun h1 => by omega) (fun h1 => h1.elim (fun h1 => by omega) (fun h1 => by omega))) (by have h1 := (hd_o hq3); omega) (by omega))) ?_
        rintro M110 _ ⟨h110, s110_120_3, s110_120_4, s110_120_5, s110_120_7, s110_120_8, s110_9010_0, es110_120_3, bs110_120_3, es110_120_4, bs110_120_4, es110_120_5, bs110_120_5, es110_120_7, bs110_120_7, es110_120_8, bs110_120_8, es110_9010_0, bs110_9010_0, rfl, z110_0, z110_1, z110_2, z110_3, z110_4, z110_5⟩
        have hS := St.tr hS h110 (by decide) (by decide)
        refine Tr.sc [] rfl ?_
        refine Tr.goto (pc := 113) (tgt := 152) d_X12_declares_113 rfl ?_
        refine Tr.pick [0] (ls2 := [(0, (2, 120))]) rfl ?_
        obtain ⟨w152p113_120_6, ew152p113_120_6⟩ : ∃ v, rd M110 120 6 = v := ⟨_, rfl⟩
        have bw152p113_120_6 : (-2147483648) ≤ w152p113_120_6 ∧ w152p113_120_6 ≤ 2147483647 := by rw [← ew152p113_120_6]; exact ir_120_6 hS.1.2.1
        exact J152 _ _ _ _ _ _ _ _ hS (by and_intros <;> omega) (by and_intros <;> omega) (by and_intros <;> omega) (by and_intros <;> omega) (by omega) (by and_intros <;> omega) (by and_intros <;> omega) es110_120_3 es110_120_4 es110_120_5 ew152p113_120_6 es110_120_7 es110_120_8 es110_9010_0 (by first | exact (hd_o z110_0) | exact (hd_o z110_0).elim (fun h1 => by omega) (fun h1 => by omega)) (by omega) (by first | exact (hd_o z110_2) | exact (hd_o z110_2).elim (fun h1 => by omega) (fun h1 => h1.elim (fun h1 => by omega) (fun h1 => by omega))) (by and_intros <;> omega) (by first | exact (hd_o z110_4) | exact (hd_o z110_4).elim (fun h1 => by omega) (fun h1 => by omega))
    · have c41b : 1 ≤ r38 ∧ r38 ≤ 1 := by omega
      replace c41 := hd_i c41
      refine Tr.aload_n (pc := 44) (i := 0) d_X12_declares_44 rfl rfl ?_
      refine Tr.callV (pc := 45) (as := []) d_X12_declares_45 s_12_396 ok_X12_next rfl rfl (Nat.le_of_ble_eq_true rfl) (Nat.le_of_ble_eq_true rfl) (by decide) (ty_120 hS.1.1) ?_
      refine Tr.imp (Tr.deep (by decide) (ns_X12_next_120 (G120_3 := g120_3) (G120_5 := g120_5) (G120_8 := g120_8) (G9010_0 := g9010_0) hS.1 (((kp_X12_isWord_120_120_3 h38).trans ((kp_X12_isWord_120_120_3 h4).trans eg120_3))) (((kp_X12_isWord_120_120_5 h38).trans ((kp_X12_isWord_120_120_5 h4).trans eg120_5))) (((kp_X12_isWord_120_120_8 h38).trans ((kp_X12_isWord_120_120_8 h4).trans eg120_8))) (((tav_of ((kp_X12_isWord_120_120_5 h38).trans ((kp_X12_isWord_120_120_5 h4).trans rfl)) ((kp_X12_isWord_120_120_3 h38).trans ((kp_X12_isWord_120_120_3 h4).trans rfl))).trans eg9010_0)))) ?_
      rintro M45 _ ⟨h45, s45_120_3, s45_120_4, s45_120_5, s45_120_7, s45_120_8, s45_9010_0, es45_120_3, bs45_120_3, es45_120_4, bs45_120_4, es45_120_5, bs45_120_5, es45_120_7, bs45_120_7, es45_120_8, bs45_120_8, es45_9010_0, bs45_9010_0, rfl, z45_0, z45_1, z45_2, z45_3, z45_4, z45_5, z45_6⟩
      have hS := St.tr hS h45 (by decide) (by decide)
      refine Tr.sc [] rfl ?_
      refine Tr.aload_n (pc := 48) (i := 0) d_X12_declares_48 rfl rfl ?_
      refine Tr.getf (pc := 49) d_X12_declares_49 f_12_54 (by decide) (by decide) (ty_120 hS.1.1) ?_
      refine Tr.tp 123 (fx_120_14 hS.1.1) ?_
      refine Tr.aload_n (pc := 52) (i := 0) d_X12_declares_52 rfl rfl ?_
      refine Tr.getf (pc := 53) d_X12_declares_53 f_12_124 (by decide) (by decide) (ty_120 hS.1.1) ?_
      refine Tr.tp 1 ((kp_X12_declares_120_120_37 hS).trans en_120_37) ?_
      refine Tr.aload_n (pc := 56) (i := 0) d_X12_declares_56 rfl rfl ?_
      refine Tr.iconst (pc := 57) d_X12_declares_57 (by decide) ?_
      refine Tr.bipush (pc := 58) d_X12_declares_58 rfl (by decide) ?_
      refine Tr.callV (pc := 60) (as := [_, _]) d_X12_declares_60 s_12_516 ok_X12_number rfl rfl (Nat.le_of_ble_eq_true rfl) (Nat.le_of_ble_eq_true rfl) (by decide) (ty_120 hS.1.1) ?_
      refine Tr.imp (Tr.deep (by decide) (ns_X12_number_120 (G120_3 := s45_120_3) (G120_4 := s45_120_4) (G120_5 := s45_120_5) (G120_7 := s45_120_7) (G120_8 := s45_120_8) (G9010_0 := s45_9010_0) hS.1 (es45_120_3) (es45_120_4) (es45_120_5) (es45_120_7) (es45_120_8) (es45_9010_0) 1 (by omega) 8 (by omega) (by first | exact (hd_o z45_0) | exact (hd_o z45_0).elim (fun h1 => by omega) (fun h1 => by omega)) (by omega) (by first | exact (hd_o z45_2) | exact (hd_o z45_2).elim (fun h1 => by omega) (fun h1 => h1.elim (fun h1 => by omega) (fun h1 => by omega))))) ?_
      rintro M60 _ ⟨h60, s60_120_3, s60_120_4, s60_120_5, s60_120_7, s60_120_8, s60_9010_0, es60_120_3, bs60_120_3, es60_120_4, bs60_120_4, es60_120_5, bs60_120_5, es60_120_7, bs60_120_7, es60_120_8, bs60_120_8, es60_9010_0, bs60_9010_0, r60, rfl, lr60, ur60, z60_0, z60_1, z60_2, z60_3, z60_4, z60_5, z60_6⟩
      have hS := St.tr hS h60 (by decide) (by decide)
      refine Tr.sc [(0, r60), (0, 1), (2, 123)] rfl ?_
      have kx_120_8 : rd M60 120 8 = s60_120_8 := es60_120_8
      refine Tr.iastS (pc := 63) (P := St Pm1 ws_X12_declares_120 as_X12_declares_120 M0) d_X12_declares_63 (ty_123 hS.1.1) (by omega) (by omega) (st_123_1 hS (by decide) (by and_intros <;> omega) (Pm1_cache hS.1.2.2.2.2 (by omega) (fun hf => by have hz : 1 ≤ s60_120_8 ∨ (1 ≤ r60 ∧ r60 ≤ 8) := (by first | exact (hd_o z60_6) | exact (hd_o z60_6).elim (fun h1 => by omega) (fun h1 => by omega)); omega))) (fun M63 hS w63 => ?_)
      refine Tr.aload_n (pc := 64) (i := 0) d_X12_declares_64 rfl rfl ?_
      refine Tr.getf (pc := 65) d_X12_declares_65 f_12_57 (by decide) (by decide) (ty_120 hS.1.1) ?_
      refine Tr.tp 124 (fx_120_15 hS.1.1) ?_
      refine Tr.aload_n (pc := 68) (i := 0) d_X12_declares_68 rfl rfl ?_
      refine Tr.getf (pc := 69) d_X12_declares_69 f_12_124 (by decide) (by decide) (ty_120 hS.1.1) ?_
      refine Tr.tp 1 ((kp_X12_declares_120_120_37 hS).trans en_120_37) ?_
      refine Tr.aload_n (pc := 72) (i := 0) d_X12_declares_72 rfl rfl ?_
      refine Tr.iconst (pc := 73) d_X12_declares_73 (by decide) ?_
      refine Tr.bipush (pc := 74) d_X12_declares_74 rfl (by decide) ?_
      refine Tr.callV (pc := 76) (as := [_, _]) d_X12_declares_76 s_12_516 ok_X12_number rfl rfl (Nat.le_of_ble_eq_true rfl) (Nat.le_of_ble_eq_true rfl) (by decide) (ty_120 hS.1.1) ?_
      refine Tr.imp (Tr.deep (by decide) (ns_X12_number_120 (G120_3 := s60_120_3) (G120_4 := s60_120_4) (G120_5 := s60_120_5) (G120_7 := s60_120_7) (G120_8 := s60_120_8) (G9010_0 := s60_9010_0) hS.1 (((Wr.b w63 rfl).trans es60_120_3)) (((Wr.b w63 rfl).trans es60_120_4)) (((Wr.b w63 rfl).trans es60_120_5)) (((Wr.b w63 rfl).trans es60_120_7)) (((Wr.b w63 rfl).trans es60_120_8)) (((tav_of ((Wr.b w63 rfl).trans rfl) ((Wr.b w63 rfl).trans rfl)).trans es60_9010_0)) 1 (by omega) 8 (by omega) (by first | exact (hd_o z60_0) | exact (hd_o z60_0).elim (fun h1 => by omega) (fun h1 => by omega)) (by omega) (by first | exact (hd_o z60_2) | exact (hd_o z60_2).elim (fun h1 => by omega) (fun h1 => h1.elim (fun h1 => by omega) (fun h1 => by omega))))) ?_
      rintro M76 _ ⟨h76, s76_120_3, s76_120_4, s76_120_5, s76_120_7, s76_120_8, s76_9010_0, es76_120_3, bs76_120_3, es76_120_4, bs76_120_4, es76_120_5, bs76_120_5, es76_120_7, bs76_120_7, es76_120_8, bs76_120_8, es76_9010_0, bs76_9010_0, r76, rfl, lr76, ur76, z76_0, z76_1, z76_2, z76_3, z76_4, z76_5, z76_6⟩
      have hS := St.tr hS h76 (by decide) (by decide)
      refine Tr.sc [(0, r76), (0, 1), (2, 124)] rfl ?_
      have kx_120_8 : rd M76 120 8 = s76_120_8 := es76_120_8
      refine Tr.iastS (pc := 79) (P := St Pm1 ws_X12_declares_120 as_X12_declares_120 M0) d_X12_declares_79 (ty_124 hS.1.1) (by omega) (by omega) (st_124_1 hS (by decide) (by and_intros <;> omega) (Pm1_cache hS.1.2.2.2.2 (by omega) (fun hf => by have hz : 1 ≤ s76_120_8 ∨ (1 ≤ r76 ∧ r76 ≤ 8) := (by first | exact (hd_o z76_6) | exact (hd_o z76_6).elim (fun h1 => by omega) (fun h1 => by omega)); omega))) (fun M79 hS w79 => ?_)
      refine Tr.aload_n (pc := 80) (i := 0) d_X12_declares_80 rfl rfl ?_
      refine Tr.getf (pc := 81) d_X12_declares_81 f_12_60 (by decide) (by decide) (ty_120 hS.1.1) ?_
      refine Tr.tp 125 (fx_120_16 hS.1.1) ?_
      refine Tr.aload_n (pc := 84) (i := 0) d_X12_declares_84 rfl rfl ?_
      refine Tr.getf (pc := 85) d_X12_declares_85 f_12_124 (by decide) (by decide) (ty_120 hS.1.1) ?_
      refine Tr.tp 1 ((kp_X12_declares_120_120_37 hS).trans en_120_37) ?_
      refine Tr.aload_n (pc := 88) (i := 0) d_X12_declares_88 rfl rfl ?_
      refine Tr.iconst (pc := 89) d_X12_declares_89 (by decide) ?_
      refine Tr.bipush (pc := 90) d_X12_declares_90 rfl (by decide) ?_
      refine Tr.callV (pc := 92) (as := [_, _]) d_X12_declares_92 s_12_516 ok_X12_number rfl rfl (Nat.le_of_ble_eq_true rfl) (Nat.le_of_ble_eq_true rfl) (by decide) (ty_120 hS.1.1) ?_
      refine Tr.imp (Tr.deep (by decide) (ns_X12_number_120 (G120_3 := s76_120_3) (G120_4 := s76_120_4) (G120_5 := s76_120_5) (G120_7 := s76_120_7) (G120_8 := s76_120_8) (G9010_0 := s76_9010_0) hS.1 (((Wr.b w79 rfl).trans es76_120_3)) (((Wr.b w79 rfl).trans es76_120_4)) (((Wr.b w79 rfl).trans es76_120_5)) (((Wr.b w79 rfl).trans es76_120_7)) (((Wr.b w79 rfl).trans es76_120_8)) (((tav_of ((Wr.b w79 rfl).trans rfl) ((Wr.b w79 rfl).trans rfl)).trans es76_9010_0)) 0 (by omega) 20 (by omega) (by first | exact (hd_o z76_0) | exact (hd_o z76_0).elim (fun h1 => by omega) (fun h1 => by omega)) (by omega) (by first | exact (hd_o z76_2) | exact (hd_o z76_2).elim (fun h1 => by omega) (fun h1 => h1.elim (fun h1 => by omega) (fun h1 => by omega))))) ?_
      rintro M92 _ ⟨h92, s92_120_3, s92_120_4, s92_120_5, s92_120_7, s92_120_8, s92_9010_0, es92_120_3, bs92_120_3, es92_120_4, bs92_120_4, es92_120_5, bs92_120_5, es92_120_7, bs92_120_7, es92_120_8, bs92_120_8, es92_9010_0, bs92_9010_0, r92, rfl, lr92, ur92, z92_0, z92_1, z92_2, z92_3, z92_4, z92_5, z92_6⟩
      have hS := St.tr hS h92 (by decide) (by decide)
      refine Tr.sc [(0, r92), (0, 1), (2, 125)] rfl ?_
      refine Tr.iastS (pc := 95) (P := St Pm1 ws_X12_declares_120 as_X12_declares_120 M0) d_X12_declares_95 (ty_125 hS.1.1) (by omega) (by omega) (st_125_1 hS (by decide) (by and_intros <;> omega) (Pm1.of hS.1.2.2.2.2 (fun _ => rd_wb _ rfl) (fun _ => rd_wb _ rfl) (fun _ => rd_wb _ rfl) (fun _ => rd_wb _ rfl) (fun _ => rd_wb _ rfl) (fun _ => rd_wb _ rfl) (fun _ => rd_wb _ rfl) (fun _ => rd_wb _ rfl) (fun _ => rd_wb _ rfl) (fun _ => rd_wb _ rfl) (rd_wb _ rfl) (rd_wb _ rfl) (rd_wb _ rfl) (rd_wb _ rfl) (rd_wb _ rfl) (rd_wb _ rfl) (rd_wb _ rfl) (rd_wb _ rfl) (rd_wb _ rfl) (rd_wb _ rfl) (rd_wb _ rfl))) (fun M95 hS w95 => ?_)
      refine Tr.goto (pc := 96) (tgt := 152) d_X12_declares_96 rfl ?_
      refine Tr.pick [0] (ls2 := [(0, (2, 120))]) rfl ?_
      obtain ⟨w152p96_120_6, ew152p96_120_6⟩ : ∃ v, rd M95 120 6 = v := ⟨_, rfl⟩
      have bw152p96_120_6 : (-2147483648) ≤ w152p96_120_6 ∧ w152p96_120_6 ≤ 2147483647 := by rw [← ew152p96_120_6]; exact ir_120_6 hS.1.2.1
      exact J152 _ _ _ _ _ _ _ _ hS (by and_intros <;> omega) (by and_intros <;> omega) (by and_intros <;> omega) (by and_intros <;> omega) (by omega) (by and_intros <;> omega) (by and_intros <;> omega) ((Wr.b w95 rfl).trans es92_120_3) ((Wr.b w95 rfl).trans es92_120_4) ((Wr.b w95 rfl).trans es92_120_5) ew152p96_120_6 ((Wr.b w95 rfl).trans es92_120_7) ((Wr.b w95 rfl).trans es92_120_8) ((tav_of ((Wr.b w95 rfl).trans rfl) ((Wr.b w95 rfl).trans rfl)).trans es92_9010_0) (by first | exact (hd_o z92_0) | exact (hd_o z92_0).elim (fun h1 => by omega) (fun h1 => by omega)) (by omega) (by first | exact (hd_o z92_2) | exact (hd_o z92_2).elim (fun h1 => by omega) (fun h1 => h1.elim (fun h1 => by omega) (fun h1 => by omega))) (by and_intros <;> omega) (by omega)
  · have c7b : 1 ≤ r4 ∧ r4 ≤ 1 := by omega
    replace c7 := hd_i c7
    refine Tr.aload_n (pc := 10) (i := 0) d_X12_declares_10 rfl rfl ?_
    refine Tr.callV (pc := 11) (as := []) d_X12_declares_11 s_12_396 ok_X12_next rfl rfl (Nat.le_of_ble_eq_true rfl) (Nat.le_of_ble_eq_true rfl) (by decide) (ty_120 hS.1.1) ?_
    refine Tr.imp (Tr.deep (by decide) (ns_X12_next_120 (G120_3 := g120_3) (G120_5 := g120_5) (G120_8 := g120_8) (G9010_0 := g9010_0) hS.1 (((kp_X12_isWord_120_120_3 h4).trans eg120_3)) (((kp_X12_isWord_120_120_5 h4).trans eg120_5)) (((kp_X12_isWord_120_120_8 h4).trans eg120_8)) (((tav_of ((kp_X12_isWord_120_120_5 h4).trans rfl) ((kp_X12_isWord_120_120_3 h4).trans rfl)).trans eg9010_0)))) ?_
    rintro M11 _ ⟨h11, s11_120_3, s11_120_4, s11_120_5, s11_120_7, s11_120_8, s11_9010_0, es11_120_3, bs11_120_3, es11_120_4, bs11_120_4, es11_120_5, bs11_120_5, es11_120_7, bs11_120_7, es11_120_8, bs11_120_8, es11_9010_0, bs11_9010_0, rfl, z11_0, z11_1, z11_2, z11_3, z11_4, z11_5, z11_6⟩
    have hS := St.tr hS h11 (by decide) (by decide)
    refine Tr.sc [] rfl ?_
    refine Tr.aload_n (pc := 14) (i := 0) d_X12_declares_14 rfl rfl ?_
    refine Tr.getf (pc := 15) d_X12_declares_15 f_12_51 (by decide) (by decide) (ty_120 hS.1.1) ?_
    refine Tr.tp 122 (fx_120_13 hS.1.1) ?_
    refine Tr.aload_n (pc := 18) (i := 0) d_X12_declares_18 rfl rfl ?_
    refine Tr.getf (pc := 19) d_X12_declares_19 f_12_124 (by decide) (by decide) (ty_120 hS.1.1) ?_
    refine Tr.tp 1 ((kp_X12_declares_120_120_37 hS).trans en_120_37) ?_
    refine Tr.aload_n (pc := 22) (i := 0) d_X12_declares_22 rfl rfl ?_
    refine Tr.iconst (pc := 23) d_X12_declares_23 (by decide) ?_
    refine Tr.sipush (pc := 24) d_X12_declares_24 rfl (by decide) ?_
    refine Tr.callV (pc := 27) (as := [_, _]) d_X12_declares_27 s_12_516 ok_X12_number rfl rfl (Nat.le_of_ble_eq_true rfl) (Nat.le_of_ble_eq_true rfl) (by decide) (ty_120 hS.1.1) ?_
    refine Tr.imp (Tr.deep (by decide) (ns_X12_number_120 (G120_3 := s11_120_3) (G120_4 := s11_120_4) (G120_5 := s11_120_5) (G120_7 := s11_120_7) (G120_8 := s11_120_8) (G9010_0 := s11_9010_0) hS.1 (es11_120_3) (es11_120_4) (es11_120_5) (es11_120_7) (es11_120_8) (es11_9010_0) 0 (by omega) 999 (by omega) (by first | exact (hd_o z11_0) | exact (hd_o z11_0).elim (fun h1 => by omega) (fun h1 => by omega)) (by omega) (by first | exact (hd_o z11_2) | exact (hd_o z11_2).elim (fun h1 => by omega) (fun h1 => h1.elim (fun h1 => by omega) (fun h1 => by omega))))) ?_
    rintro M27 _ ⟨h27, s27_120_3, s27_120_4, s27_120_5, s27_120_7, s27_120_8, s27_9010_0, es27_120_3, bs27_120_3, es27_120_4, bs27_120_4, es27_120_5, bs27_120_5, es27_120_7, bs27_120_7, es27_120_8, bs27_120_8, es27_9010_0, bs27_9010_0, r27, rfl, lr27, ur27, z27_0, z27_1, z27_2, z27_3, z27_4, z27_5, z27_6⟩
    have hS := St.tr hS h27 (by decide) (by decide)
    refine Tr.sc [(0, r27), (0, 1), (2, 122)] rfl ?_
    refine Tr.iastS (pc := 30) (P := St Pm1 ws_X12_declares_120 as_X12_declares_120 M0) d_X12_declares_30 (ty_122 hS.1.1) (by omega) (by omega) (st_122_1 hS (by decide) (by and_intros <;> omega) (Pm1.of hS.1.2.2.2.2 (fun _ => rd_wb _ rfl) (fun _ => rd_wb _ rfl) (fun _ => rd_wb _ rfl) (fun _ => rd_wb _ rfl) (fun _ => rd_wb _ rfl) (fun _ => rd_wb _ rfl) (fun _ => rd_wb _ rfl) (fun _ => rd_wb _ rfl) (fun _ => rd_wb _ rfl) (fun _ => rd_wb _ rfl) (rd_wb _ rfl) (rd_wb _ rfl) (rd_wb _ rfl) (rd_wb _ rfl) (rd_wb _ rfl) (rd_wb _ rfl) (rd_wb _ rfl) (rd_wb _ rfl) (rd_wb _ rfl) (rd_wb _ rfl) (rd_wb _ rfl))) (fun M30 hS w30 => ?_)
    refine Tr.goto (pc := 31) (tgt := 152) d_X12_declares_31 rfl ?_
    refine Tr.pick [0] (ls2 := [(0, (2, 120))]) rfl ?_
    obtain ⟨w152p31_120_6, ew152p31_120_6⟩ : ∃ v, rd M30 120 6 = v := ⟨_, rfl⟩
    have bw152p31_120_6 : (-2147483648) ≤ w152p31_120_6 ∧ w152p31_120_6 ≤ 2147483647 := by rw [← ew152p31_120_6]; exact ir_120_6 hS.1.2.1
    exact J152 _ _ _ _ _ _ _ _ hS (by and_intros <;> omega) (by and_intros <;> omega) (by and_intros <;> omega) (by and_intros <;> omega) (by omega) (by and_intros <;> omega) (by and_intros <;> omega) ((Wr.b w30 rfl).trans es27_120_3) ((Wr.b w30 rfl).trans es27_120_4) ((Wr.b w30 rfl).trans es27_120_5) ew152p31_120_6 ((Wr.b w30 rfl).trans es27_120_7) ((Wr.b w30 rfl).trans es27_120_8) ((tav_of ((Wr.b w30 rfl).trans rfl) ((Wr.b w30 rfl).trans rfl)).trans es27_9010_0) (by first | exact (hd_o z27_0) | exact (hd_o z27_0).elim (fun h1 => by omega) (fun h1 => by omega)) (by omega) (by first | exact (hd_o z27_2) | exact (hd_o z27_2).elim (fun h1 => by omega) (fun h1 => h1.elim (fun h1 => by omega) (fun h1 => by omega))) (by and_intros <;> omega) (by omega)

set_option maxRecDepth 100000 in
set_option maxHeartbeats 4000000 in
theorem ns_X12_declares_120 {l : Launch} {K : EC} {M0 : Mem} {G120_3 G120_4 G120_5 G120_7 G120_8 G9010_0 : Int} (hI : In Pm1 M0) (k120_3 : rd M0 120 3 = G120_3) (k120_4 : rd M0 120 4 = G120_4) (k120_5 : rd M0 120 5 = G120_5) (k120_7 : rd M0 120 7 = G120_7) (k120_8 : rd M0 120 8 = G120_8) (k9010_0 : tav M0 = G9010_0) (en_120_37 : rd M0 120 37 = 1)   (hq0 : G120_3 = 0 ∨ G120_4 + 1 ≤ G120_5) (hq1 : G120_4 ≤ G120_5) (hq2 : G120_3 ≠ 1 ∨ G120_4 + 2 ≤ G120_5 ∨ G120_7 < 256) (hq3 : G120_3 ≠ 0) (hq4 : G120_8 = 0) : Tr l K 4 mX12_declares 0 [(0, (2, 120))] [] M0 (fun M' r => St Pm1 ws_X12_declares_120 as_X12_declares_120 M0 M' ∧ ∃ S120_3 S120_4 S120_5 S120_7 S120_8 S9010_0 : Int, rd M' 120 3 = S120_3 ∧ (0 ≤ S120_3 ∧ S120_3 ≤ 3) ∧ rd M' 120 4 = S120_4 ∧ (0 ≤ S120_4 ∧ S120_4 ≤ 900) ∧ rd M' 120 5 = S120_5 ∧ (0 ≤ S120_5 ∧ S120_5 ≤ 900) ∧ rd M' 120 7 = S120_7 ∧ ((-9223372036854775808) ≤ S120_7 ∧ S120_7 ≤ 9223372036854775807) ∧ rd M' 120 8 = S120_8 ∧ (0 ≤ S120_8 ∧ S120_8 ≤ 5) ∧ tav M' = S9010_0 ∧ ((-1) ≤ S9010_0 ∧ S9010_0 ≤ 1800) ∧ ∃ v : Int, r = some (0, v) ∧ 0 ≤ v ∧ v ≤ 1 ∧ Hd (S120_3 = 0 ∨ S120_4 + 1 ≤ S120_5) ∧ (S120_4 ≤ S120_5) ∧ Hd (S120_3 ≠ 1 ∨ S120_4 + 2 ≤ S120_5 ∨ S120_7 < 256) ∧ (G120_4 ≤ S120_4 ∧ G120_5 ≤ S120_5 ∧ G9010_0 ≤ S9010_0) ∧ Hd (G120_8 = 0 ∨ S120_8 = G120_8) ∧ Hd (v = 0 ∨ 1 ≤ S120_8 ∨ G9010_0 < S9010_0)) := by
  subst k120_3
  subst k120_4
  subst k120_5
  subst k120_7
  subst k120_8
  subst k9010_0
  refine Tr.imp (sp_X12_declares_120 hI en_120_37 hq0 hq1 hq2 hq3 hq4) ?_
  rintro M' _ ⟨hS, v, rfl, lr, ur, z0, z1, z2, z3, z4, z5⟩
  exact ⟨hS, _, _, _, _, _, _, rfl, ir_120_3 hS.1.2.1, rfl, ir_120_4 hS.1.2.1, rfl, ir_120_5 hS.1.2.1, rfl, ir_120_7 hS.1.2.1, rfl, ir_120_8 hS.1.2.1, rfl, (tav_b hS.1.2.1), v, rfl, lr, ur, hd_i z0, z1, hd_i z2, z3, hd_i z4, hd_i z5⟩

def ws_X12_order_120 : List (Int × Int) := []
def as_X12_order_120 : List Int := []
def q_X12_order_120 (M0 M' : Mem) (r : Option PV) : Prop := St Tru ws_X12_order_120 as_X12_order_120 M0 M' ∧ ∃ v : Int, r = some (0, v) ∧ (-1) ≤ v ∧ v ≤ 8 ∧ (v = -1 ∨ (rd M' 120 3 = 1 ∧ 1 ≤ v ∧ v ≤ 8))
set_option maxRecDepth 100000 in
set_option maxHeartbeats 4000000 in
theorem sp_X12_order_120 {l : Launch} {K : EC} {M0 : Mem} (hI : In Tru M0)    : Tr l K 1 mX12_order 0 [(0, (2, 120))] [] M0 (q_X12_order_120 M0) := by
  have hS : St Tru ws_X12_order_120 as_X12_order_120 M0 M0 := St.rf hI
  obtain ⟨g120_3, eg120_3⟩ : ∃ v, rd M0 120 3 = v := ⟨_, rfl⟩
  have bg120_3 : 0 ≤ g120_3 ∧ g120_3 ≤ 3 := by rw [← eg120_3]; exact ir_120_3 hI.2.1
  obtain ⟨g120_7, eg120_7⟩ : ∃ v, rd M0 120 7 = v := ⟨_, rfl⟩
  have bg120_7 : (-9223372036854775808) ≤ g120_7 ∧ g120_7 ≤ 9223372036854775807 := by rw [← eg120_7]; exact ir_120_7 hI.2.1
  refine Tr.aload_n (pc := 0) (i := 0) d_X12_order_0 rfl rfl ?_
  refine Tr.ldc2 (pc := 1) d_X12_order_1 kl_12_419 (by decide) ?_
  refine Tr.callV (pc := 4) (as := [_]) d_X12_order_4 s_12_484 ok_X12_isWord rfl rfl (Nat.le_of_ble_eq_true rfl) (Nat.le_of_ble_eq_true rfl) (by decide) (ty_120 hS.1.1) ?_
  refine Tr.imp (Tr.deep (by decide) (ns_X12_isWord_120 (G120_3 := g120_3) (G120_7 := g120_7) hS.1 (eg120_3) (eg120_7) 7562612 (by omega))) ?_
  rintro M4 _ ⟨h4, r4, rfl, lr4, ur4, z4_0⟩
  have hS := St.tr hS h4 (by decide) (by decide)
  refine Tr.sc [(0, r4)] rfl ?_
  refine Tr.if_eq (pc := 7) (tgt := 14) d_X12_order_7 rfl (fun c7 => ?_) (fun c7 => ?_)
  · refine Tr.aload_n (pc := 14) (i := 0) d_X12_order_14 rfl rfl ?_
    refine Tr.ldc2 (pc := 15) d_X12_order_15 kl_12_421 (by decide) ?_
    refine Tr.callV (pc := 18) (as := [_]) d_X12_order_18 s_12_484 ok_X12_isWord rfl rfl (Nat.le_of_ble_eq_true rfl) (Nat.le_of_ble_eq_true rfl) (by decide) (ty_120 hS.1.1) ?_
    refine Tr.imp (Tr.deep (by decide) (ns_X12_isWord_120 (G120_3 := g120_3) (G120_7 := g120_7) hS.1 (((kp_X12_isWord_120_120_3 h4).trans eg120_3)) (((kp_X12_isWord_120_120_7 h4).trans eg120_7)) 7697253 (by omega))) ?_
    rintro M18 _ ⟨h18, r18, rfl, lr18, ur18, z18_0⟩
    have hS := St.tr hS h18 (by decide) (by decide)
    refine Tr.sc [(0, r18)] rfl ?_
    refine Tr.if_eq (pc := 21) (tgt := 28) d_X12_order_21 rfl (fun c21 => ?_) (fun c21 => ?_)
    · refine Tr.aload_n (pc := 28) (i := 0) d_X12_order_28 rfl rfl ?_
      refine Tr.ldc2 (pc := 29) d_X12_order_29 kl_12_423 (by decide) ?_
      refine Tr.callV (pc := 32) (as := [_]) d_X12_order_32 s_12_484 ok_X12_isWord rfl rfl (Nat.le_of_ble_eq_true rfl) (Nat.le_of_ble_eq_true rfl) (by decide) (ty_120 hS.1.1) ?_
      refine Tr.imp (Tr.deep (by decide) (ns_X12_isWord_120 (G120_3 := g120_3) (G120_7 := g120_7) hS.1 (((kp_X12_isWord_120_120_3 h18).trans ((kp_X12_isWord_120_120_3 h4).trans eg120_3))) (((kp_X12_isWord_120_120_7 h18).trans ((kp_X12_isWord_120_120_7 h4).trans eg120_7))) 1752132708 (by omega))) ?_
      rintro M32 _ ⟨h32, r32, rfl, lr32, ur32, z32_0⟩
      have hS := St.tr hS h32 (by decide) (by decide)
      refine Tr.sc [(0, r32)] rfl ?_
      refine Tr.if_eq (pc := 35) (tgt := 42) d_X12_order_35 rfl (fun c35 => ?_) (fun c35 => ?_)
      · refine Tr.aload_n (pc := 42) (i := 0) d_X12_order_42 rfl rfl ?_
        refine Tr.ldc2 (pc := 43) d_X12_order_43 kl_12_425 (by decide) ?_
        refine Tr.callV (pc := 46) (as := [_]) d_X12_order_46 s_12_484 ok_X12_isWord rfl rfl (Nat.le_of_ble_eq_true rfl) (Nat.le_of_ble_eq_true rfl) (by decide) (ty_120 hS.1.1) ?_
        refine Tr.imp (Tr.deep (by decide) (ns_X12_isWord_120 (G120_3 := g120_3) (G120_7 := g120_7) hS.1 (((kp_X12_isWord_120_120_3 h32).trans ((kp_X12_isWord_120_120_3 h18).trans ((kp_X12_isWord_120_120_3 h4).trans eg120_3)))) (((kp_X12_isWord_120_120_7 h32).trans ((kp_X12_isWord_120_120_7 h18).trans ((kp_X12_isWord_120_120_7 h4).trans eg120_7)))) 1718773093 (by omega))) ?_
        rintro M46 _ ⟨h46, r46, rfl, lr46, ur46, z46_0⟩
        have hS := St.tr hS h46 (by decide) (by decide)
        refine Tr.sc [(0, r46)] rfl ?_
        refine Tr.if_eq (pc := 49) (tgt := 56) d_X12_order_49 rfl (fun c49 => ?_) (fun c49 => ?_)
        · refine Tr.aload_n (pc := 56) (i := 0) d_X12_order_56 rfl rfl ?_
          refine Tr.ldc2 (pc := 57) d_X12_order_57 kl_12_427 (by decide) ?_
          refine Tr.callV (pc := 60) (as := [_]) d_X12_order_60 s_12_484 ok_X12_isWord rfl rfl (Nat.le_of_ble_eq_true rfl) (Nat.le_of_ble_eq_true rfl) (by decide) (ty_120 hS.1.1) ?_
          refine Tr.imp (Tr.deep (by decide) (ns_X12_isWord_120 (G120_3 := g120_3) (G120_7 := g120_7) hS.1 (((kp_X12_isWord_120_120_3 h46).trans ((kp_X12_isWord_120_120_3 h32).trans ((kp_X12_isWord_120_120_3 h18).trans ((kp_X12_isWord_120_120_3 h4).trans eg120_3))))) (((kp_X12_isWord_120_120_7 h46).trans ((kp_X12_isWord_120_120_7 h32).trans ((kp_X12_isWord_120_120_7 h18).trans ((kp_X12_isWord_120_120_7 h4).trans eg120_7))))) 2002872692 (by omega))) ?_
          rintro M60 _ ⟨h60, r60, rfl, lr60, ur60, z60_0⟩
          have hS := St.tr hS h60 (by decide) (by decide)
          refine Tr.sc [(0, r60)] rfl ?_
          refine Tr.if_eq (pc := 63) (tgt := 70) d_X12_order_63 rfl (fun c63 => ?_) (fun c63 => ?_)
          · refine Tr.aload_n (pc := 70) (i := 0) d_X12_order_70 rfl rfl ?_
            refine Tr.ldc2 (pc := 71) d_X12_order_71 kl_12_429 (by decide) ?_
            refine Tr.callV (pc := 74) (as := [_]) d_X12_order_74 s_12_484 ok_X12_isWord rfl rfl (Nat.le_of_ble_eq_true rfl) (Nat.le_of_ble_eq_true rfl) (by decide) (ty_120 hS.1.1) ?_
            refine Tr.imp (Tr.deep (by decide) (ns_X12_isWord_120 (G120_3 := g120_3) (G120_7 := g120_7) hS.1 (((kp_X12_isWord_120_120_3 h60).trans ((kp_X12_isWord_120_120_3 h46).trans ((kp_X12_isWord_120_120_3 h32).trans ((kp_X12_isWord_120_120_3 h18).trans ((kp_X12_isWord_120_120_3 h4).trans eg120_3)))))) (((kp_X12_isWord_120_120_7 h60).trans ((kp_X12_isWord_120_120_7 h46).trans ((kp_X12_isWord_120_120_7 h32).trans ((kp_X12_isWord_120_120_7 h18).trans ((kp_X12_isWord_120_120_7 h4).trans eg120_7)))))) 500086170472 (by omega))) ?_
            rintro M74 _ ⟨h74, r74, rfl, lr74, ur74, z74_0⟩
            have hS := St.tr hS h74 (by decide) (by decide)
            refine Tr.sc [(0, r74)] rfl ?_
            refine Tr.if_eq (pc := 77) (tgt := 85) d_X12_order_77 rfl (fun c77 => ?_) (fun c77 => ?_)
            · refine Tr.aload_n (pc := 85) (i := 0) d_X12_order_85 rfl rfl ?_
              refine Tr.ldc2 (pc := 86) d_X12_order_86 kl_12_431 (by decide) ?_
              refine Tr.callV (pc := 89) (as := [_]) d_X12_order_89 s_12_484 ok_X12_isWord rfl rfl (Nat.le_of_ble_eq_true rfl) (Nat.le_of_ble_eq_true rfl) (by decide) (ty_120 hS.1.1) ?_
              refine Tr.imp (Tr.deep (by decide) (ns_X12_isWord_120 (G120_3 := g120_3) (G120_7 := g120_7) hS.1 (((kp_X12_isWord_120_120_3 h74).trans ((kp_X12_isWord_120_120_3 h60).trans ((kp_X12_isWord_120_120_3 h46).trans ((kp_X12_isWord_120_120_3 h32).trans ((kp_X12_isWord_120_120_3 h18).trans ((kp_X12_isWord_120_120_3 h4).trans eg120_3))))))) (((kp_X12_isWord_120_120_7 h74).trans ((kp_X12_isWord_120_120_7 h60).trans ((kp_X12_isWord_120_120_7 h46).trans ((kp_X12_isWord_120_120_7 h32).trans ((kp_X12_isWord_120_120_7 h18).trans ((kp_X12_isWord_120_120_7 h4).trans eg120_7))))))) 26982 (by omega))) ?_
              rintro M89 _ ⟨h89, r89, rfl, lr89, ur89, z89_0⟩
              have hS := St.tr hS h89 (by decide) (by decide)
              refine Tr.sc [(0, r89)] rfl ?_
              refine Tr.if_eq (pc := 92) (tgt := 100) d_X12_order_92 rfl (fun c92 => ?_) (fun c92 => ?_)
              · refine Tr.aload_n (pc := 100) (i := 0) d_X12_order_100 rfl rfl ?_
                refine Tr.ldc2 (pc := 101) d_X12_order_101 kl_12_435 (by decide) ?_
                refine Tr.callV (pc := 104) (as := [_]) d_X12_order_104 s_12_484 ok_X12_isWord rfl rfl (Nat.le_of_ble_eq_true rfl) (Nat.le_of_ble_eq_true rfl) (by decide) (ty_120 hS.1.1) ?_
                refine Tr.imp (Tr.deep (by decide) (ns_X12_isWord_120 (G120_3 := g120_3) (G120_7 := g120_7) hS.1 (((kp_X12_isWord_120_120_3 h89).trans ((kp_X12_isWord_120_120_3 h74).trans ((kp_X12_isWord_120_120_3 h60).trans ((kp_X12_isWord_120_120_3 h46).trans ((kp_X12_isWord_120_120_3 h32).trans ((kp_X12_isWord_120_120_3 h18).trans ((kp_X12_isWord_120_120_3 h4).trans eg120_3)))))))) (((kp_X12_isWord_120_120_7 h89).trans ((kp_X12_isWord_120_120_7 h74).trans ((kp_X12_isWord_120_120_7 h60).trans ((kp_X12_isWord_120_120_7 h46).trans ((kp_X12_isWord_120_120_7 h32).trans ((kp_X12_isWord_120_120_7 h18).trans ((kp_X12_isWord_120_120_7 h4).trans eg120_7)))))))) 512852847717 (by omega))) ?_
                rintro M104 _ ⟨h104, r104, rfl, lr104, ur104, z104_0⟩
                have hS := St.tr hS h104 (by decide) (by decide)
                refine Tr.sc [(0, r104)] rfl ?_
                refine Tr.if_eq (pc := 107) (tgt := 115) d_X12_order_107 rfl (fun c107 => ?_) (fun c107 => ?_)
                · refine Tr.iconst (pc := 115) d_X12_order_115 (by decide) ?_
                  have kr_120_3 : rd M104 120 3 = g120_3 := ((kp_X12_isWord_120_120_3 h104).trans ((kp_X12_isWord_120_120_3 h89).trans ((kp_X12_isWord_120_120_3 h74).trans ((kp_X12_isWord_120_120_3 h60).trans ((kp_X12_isWord_120_120_3 h46).trans ((kp_X12_isWord_120_120_3 h32).trans ((kp_X12_isWord_120_120_3 h18).trans ((kp_X12_isWord_120_120_3 h4).trans eg120_3))))))))
                  exact Tr.iret (pc := 116) d_X12_order_116 rfl ⟨hS, _, rfl, by omega, by omega, (by omega)⟩
                · have c107b : 1 ≤ r104 ∧ r104 ≤ 1 := by omega
                  replace c107 := hd_i c107
                  refine Tr.bipush (pc := 110) d_X12_order_110 rfl (by decide) ?_
                  refine Tr.goto (pc := 112) (tgt := 116) d_X12_order_112 rfl ?_
                  have kr_120_3 : rd M104 120 3 = g120_3 := ((kp_X12_isWord_120_120_3 h104).trans ((kp_X12_isWord_120_120_3 h89).trans ((kp_X12_isWord_120_120_3 h74).trans ((kp_X12_isWord_120_120_3 h60).trans ((kp_X12_isWord_120_120_3 h46).trans ((kp_X12_isWord_120_120_3 h32).trans ((kp_X12_isWord_120_120_3 h18).trans ((kp_X12_isWord_120_120_3 h4).trans eg120_3))))))))
                  exact Tr.iret (pc := 116) d_X12_order_116 rfl ⟨hS, _, rfl, by omega, by omega, (by exact (hd_o z104_0).elim (fun h1 => by omega) (fun h1 => by omega))⟩
              · have c92b : 1 ≤ r89 ∧ r89 ≤ 1 := by omega
                replace c92 := hd_i c92
                refine Tr.bipush (pc := 95) d_X12_order_95 rfl (by decide) ?_
                refine Tr.goto (pc := 97) (tgt := 116) d_X12_order_97 rfl ?_
                have kr_120_3 : rd M89 120 3 = g120_3 := ((kp_X12_isWord_120_120_3 h89).trans ((kp_X12_isWord_120_120_3 h74).trans ((kp_X12_isWord_120_120_3 h60).trans ((kp_X12_isWord_120_120_3 h46).trans ((kp_X12_isWord_120_120_3 h32).trans ((kp_X12_isWord_120_120_3 h18).trans ((kp_X12_isWord_120_120_3 h4).trans eg120_3)))))))
                exact Tr.iret (pc := 116) d_X12_order_116 rfl ⟨hS, _, rfl, by omega, by omega, (by exact (hd_o z89_0).elim (fun h1 => by omega) (fun h1 => by omega))⟩
            · have c77b : 1 ≤ r74 ∧ r74 ≤ 1 := by omega
              replace c77 := hd_i c77
              refine Tr.bipush (pc := 80) d_X12_order_80 rfl (by decide) ?_
              refine Tr.goto (pc := 82) (tgt := 116) d_X12_order_82 rfl ?_
              have kr_120_3 : rd M74 120 3 = g120_3 := ((kp_X12_isWord_120_120_3 h74).trans ((kp_X12_isWord_120_120_3 h60).trans ((kp_X12_isWord_120_120_3 h46).trans ((kp_X12_isWord_120_120_3 h32).trans ((kp_X12_isWord_120_120_3 h18).trans ((kp_X12_isWord_120_120_3 h4).trans eg120_3))))))
              exact Tr.iret (pc := 116) d_X12_order_116 rfl ⟨hS, _, rfl, by omega, by omega, (by exact (hd_o z74_0).elim (fun h1 => by omega) (fun h1 => by omega))⟩
          · have c63b : 1 ≤ r60 ∧ r60 ≤ 1 := by omega
            replace c63 := hd_i c63
            refine Tr.iconst (pc := 66) d_X12_order_66 (by decide) ?_
            refine Tr.goto (pc := 67) (tgt := 116) d_X12_order_67 rfl ?_
            have kr_120_3 : rd M60 120 3 = g120_3 := ((kp_X12_isWord_120_120_3 h60).trans ((kp_X12_isWord_120_120_3 h46).trans ((kp_X12_isWord_120_120_3 h32).trans ((kp_X12_isWord_120_120_3 h18).trans ((kp_X12_isWord_120_120_3 h4).trans eg120_3)))))
            exact Tr.iret (pc := 116) d_X12_order_116 rfl ⟨hS, _, rfl, by omega, by omega, (by exact (hd_o z60_0).elim (fun h1 => by omega) (fun h1 => by omega))⟩
        · have c49b : 1 ≤ r46 ∧ r46 ≤ 1 := by omega
          replace c49 := hd_i c49
          refine Tr.iconst (pc := 52) d_X12_order_52 (by decide) ?_
          refine Tr.goto (pc := 53) (tgt := 116) d_X12_order_53 rfl ?_
          have kr_120_3 : rd M46 120 3 = g120_3 := ((kp_X12_isWord_120_120_3 h46).trans ((kp_X12_isWord_120_120_3 h32).trans ((kp_X12_isWord_120_120_3 h18).trans ((kp_X12_isWord_120_120_3 h4).trans eg120_3))))
          exact Tr.iret (pc := 116) d_X12_order_116 rfl ⟨hS, _, rfl, by omega, by omega, (by exact (hd_o z46_0).elim (fun h1 => by omega) (fun h1 => by omega))⟩
      · have c35b : 1 ≤ r32 ∧ r32 ≤ 1 := by omega
        replace c35 := hd_i c35
        refine Tr.iconst (pc := 38) d_X12_order_38 (by decide) ?_
        refine Tr.goto (pc := 39) (tgt := 116) d_X12_order_39 rfl ?_
        have kr_120_3 : rd M32 120 3 = g120_3 := ((kp_X12_isWord_120_120_3 h32).trans ((kp_X12_isWord_120_120_3 h18).trans ((kp_X12_isWord_120_120_3 h4).trans eg120_3)))
        exact Tr.iret (pc := 116) d_X12_order_116 rfl ⟨hS, _, rfl, by omega, by omega, (by exact (hd_o z32_0).elim (fun h1 => by omega) (fun h1 => by omega))⟩
    · have c21b : 1 ≤ r18 ∧ r18 ≤ 1 := by omega
      replace c21 := hd_i c21
      refine Tr.iconst (pc := 24) d_X12_order_24 (by decide) ?_
      refine Tr.goto (pc := 25) (tgt := 116) d_X12_order_25 rfl ?_
      have kr_120_3 : rd M18 120 3 = g120_3 := ((kp_X12_isWord_120_120_3 h18).trans ((kp_X12_isWord_120_120_3 h4).trans eg120_3))
      exact Tr.iret (pc := 116) d_X12_order_116 rfl ⟨hS, _, rfl, by omega, by omega, (by exact (hd_o z18_0).elim (fun h1 => by omega) (fun h1 => by omega))⟩
  · have c7b : 1 ≤ r4 ∧ r4 ≤ 1 := by omega
    replace c7 := hd_i c7
    refine Tr.iconst (pc := 10) d_X12_order_10 (by decide) ?_
    refine Tr.goto (pc := 11) (tgt := 116) d_X12_order_11 rfl ?_
    have kr_120_3 : rd M4 120 3 = g120_3 := ((kp_X12_isWord_120_120_3 h4).trans eg120_3)
    exact Tr.iret (pc := 116) d_X12_order_116 rfl ⟨hS, _, rfl, by omega, by omega, (by exact (hd_o z4_0).elim (fun h1 => by omega) (fun h1 => by omega))⟩

set_option maxRecDepth 100000 in
set_option maxHeartbeats 4000000 in
theorem ns_X12_order_120 {l : Launch} {K : EC} {M0 : Mem} {G120_3 : Int} (hI : In Tru M0) (k120_3 : rd M0 120 3 = G120_3)    : Tr l K 1 mX12_order 0 [(0, (2, 120))] [] M0 (fun M' r => St Tru ws_X12_order_120 as_X12_order_120 M0 M' ∧ ∃ v : Int, r = some (0, v) ∧ (-1) ≤ v ∧ v ≤ 8 ∧ Hd (v = -1 ∨ (G120_3 = 1 ∧ 1 ≤ v ∧ v ≤ 8))) := by
  subst k120_3
  refine Tr.imp (sp_X12_order_120 hI ) ?_
  rintro M' _ ⟨hS, v, rfl, lr, ur, z0⟩
  rewrite [show rd M' 120 3 = rd M0 120 3 from ((St.kp hS (by decide) (by decide) (by decide)).trans rfl)] at z0
  exact ⟨hS, v, rfl, lr, ur, hd_i z0⟩

def ws_X12_spot_120 : List (Int × Int) := [(136, 1)]
def as_X12_spot_120 : List Int := [137, 138, 139, 140, 141, 142]
def q_X12_spot_120 (a1 : Int) (a2 : Int) (M0 M' : Mem) (r : Option PV) : Prop := St Pm1 ws_X12_spot_120 as_X12_spot_120 M0 M' ∧ ∃ v : Int, r = some (0, v) ∧ 200 ≤ v ∧ v ≤ 399 ∧ (rd M' 136 1 = rd M0 136 1 + 1) ∧ (v = 200 + rd M0 136 1) ∧ (∀ j : Int, j < 200 + rd M0 136 1 → rd M' 137 j = rd M0 137 j) ∧ (rd M' 137 (200 + rd M0 136 1) = a1)
theorem kp_X12_spot_120_120_37 {q : Mem → Prop} {M0 M : Mem} (h : St q ws_X12_spot_120 as_X12_spot_120 M0 M) : rd M 120 37 = rd M0 120 37 := St.kp h (by decide) (by decide) (by decide)
set_option maxRecDepth 100000 in
set_option maxHeartbeats 4000000 in
theorem sp_X12_spot_120 {l : Launch} {K : EC} {M0 : Mem} (hI : In Pm1 M0) (en_120_37 : rd M0 120 37 = 1) (a1 : Int) (ha1 : 0 ≤ a1 ∧ a1 ≤ 8) (a2 : Int) (ha2 : (-1) ≤ a2 ∧ a2 ≤ 59)  (hq0 : rd M0 136 1 ≤ 199) (hq1 : a1 ≠ 0 ∨ 1 ≤ rd M0 136 1) (hq2 : a1 = 0 ∨ 0 ≤ a2) : Tr l K 0 mX12_spot 0 [(0, (2, 120)), (1, (0, a1)), (2, (0, a2))] [] M0 (q_X12_spot_120 a1 a2 M0) := by
  have hS : St Pm1 ws_X12_spot_120 as_X12_spot_120 M0 M0 := St.rf hI
  obtain ⟨g136_1, eg136_1⟩ : ∃ v, rd M0 136 1 = v := ⟨_, rfl⟩
  have bg136_1 : 0 ≤ g136_1 ∧ g136_1 ≤ 200 := by rw [← eg136_1]; exact ir_136_1 hI.2.1
  obtain ⟨g120_36, eg120_36⟩ : ∃ v, rd M0 120 36 = v := ⟨_, rfl⟩
  have bg120_36 : 0 ≤ g120_36 ∧ g120_36 ≤ 900 := by rw [← eg120_36]; exact ir_120_36 hI.2.1
  replace hq1 := hd_i hq1
  replace hq2 := hd_i hq2
  refine Tr.sipush (pc := 0) d_X12_spot_0 rfl (by decide) ?_
  refine Tr.aload_n (pc := 3) (i := 0) d_X12_spot_3 rfl rfl ?_
  refine Tr.getf (pc := 4) d_X12_spot_4 f_12_124 (by decide) (by decide) (ty_120 hS.1.1) ?_
  refine Tr.tp 1 ((kp_X12_spot_120_120_37 hS).trans en_120_37) ?_
  refine Tr.imul (pc := 7) d_X12_spot_7 ?_
  refine Tr.tp 200 (by decide) ?_
  refine Tr.aload_n (pc := 8) (i := 0) d_X12_spot_8 rfl rfl ?_
  refine Tr.getf (pc := 9) d_X12_spot_9 f_12_94 (by decide) (by decide) (ty_120 hS.1.1) ?_
  refine Tr.tp 136 (fx_120_27 hS.1.1) ?_
  refine Tr.aload_n (pc := 12) (i := 0) d_X12_spot_12 rfl rfl ?_
  refine Tr.getf (pc := 13) d_X12_spot_13 f_12_124 (by decide) (by decide) (ty_120 hS.1.1) ?_
  refine Tr.tp 1 ((kp_X12_spot_120_120_37 hS).trans en_120_37) ?_
  refine Tr.iald (pc := 16) d_X12_spot_16 (ty_136 hS.1.1) (by omega) (by omega) ?_
  refine Tr.tp g136_1 eg136_1 ?_
  refine Tr.iadd (pc := 17) d_X12_spot_17 ?_
  refine Tr.tp (g136_1 + 200) ((w32_id (by and_intros <;> omega)).trans (by omega)) ?_
  refine Tr.istore_n (pc := 18) (i := 3) (ls2 := [(3, (0, (g136_1 + 200))), (0, (2, 120)), (1, (0, a1)), (2, (0, a2))]) d_X12_spot_18 rfl (by decide) rfl ?_
  refine Tr.aload_n (pc := 19) (i := 0) d_X12_spot_19 rfl rfl ?_
  refine Tr.getf (pc := 20) d_X12_spot_20 f_12_97 (by decide) (by decide) (ty_120 hS.1.1) ?_
  refine Tr.tp 137 (fx_120_28 hS.1.1) ?_
  refine Tr.iload_n (pc := 23) (i := 3) d_X12_spot_23 rfl rfl ?_
  refine Tr.iload_n (pc := 24) (i := 1) d_X12_spot_24 rfl rfl ?_
  have kx_136_1 : rd M0 136 1 = g136_1 := eg136_1
  refine Tr.iastS (pc := 25) (P := St Pm1 ws_X12_spot_120 as_X12_spot_120 M0) d_X12_spot_25 (ty_137 hS.1.1) (by omega) (by omega) (sa_137 hS (by decide) (by and_intros <;> omega) (Pm1_free hS.1.2.2.2.2 hS.1.2.1 (by omega) (by omega) (by omega))) (fun M25 hS w25 => ?_)
  refine Tr.aload_n (pc := 26) (i := 0) d_X12_spot_26 rfl rfl ?_
  refine Tr.getf (pc := 27) d_X12_spot_27 f_12_100 (by decide) (by decide) (ty_120 hS.1.1) ?_
  refine Tr.tp 138 (fx_120_29 hS.1.1) ?_
  refine Tr.iload_n (pc := 30) (i := 3) d_X12_spot_30 rfl rfl ?_
  refine Tr.iload_n (pc := 31) (i := 2) d_X12_spot_31 rfl rfl ?_
  have kx_136_1 : rd M25 136 1 = g136_1 := ((Wr.b w25 rfl).trans eg136_1)
  refine Tr.iastS (pc := 32) (P := St Pm1 ws_X12_spot_120 as_X12_spot_120 M0) d_X12_spot_32 (ty_138 hS.1.1) (by omega) (by omega) (sa_138 hS (by decide) (by and_intros <;> omega) (Pm1_free hS.1.2.2.2.2 hS.1.2.1 (by omega) (by omega) (by omega))) (fun M32 hS w32 => ?_)
  refine Tr.aload_n (pc := 33) (i := 0) d_X12_spot_33 rfl rfl ?_
  refine Tr.getf (pc := 34) d_X12_spot_34 f_12_103 (by decide) (by decide) (ty_120 hS.1.1) ?_
  refine Tr.tp 139 (fx_120_30 hS.1.1) ?_
  refine Tr.iload_n (pc := 37) (i := 3) d_X12_spot_37 rfl rfl ?_
  refine Tr.iconst (pc := 38) d_X12_spot_38 (by decide) ?_
  have kx_136_1 : rd M32 136 1 = g136_1 := ((Wr.b w32 rfl).trans ((Wr.b w25 rfl).trans eg136_1))
  refine Tr.iastS (pc := 39) (P := St Pm1 ws_X12_spot_120 as_X12_spot_120 M0) d_X12_spot_39 (ty_139 hS.1.1) (by omega) (by omega) (sa_139 hS (by decide) (by omega) (Pm1_free hS.1.2.2.2.2 hS.1.2.1 (by omega) (by omega) (by omega))) (fun M39 hS w39 => ?_)
  refine Tr.aload_n (pc := 40) (i := 0) d_X12_spot_40 rfl rfl ?_
  refine Tr.getf (pc := 41) d_X12_spot_41 f_12_106 (by decide) (by decide) (ty_120 hS.1.1) ?_
  refine Tr.tp 140 (fx_120_31 hS.1.1) ?_
  refine Tr.iload_n (pc := 44) (i := 3) d_X12_spot_44 rfl rfl ?_
  refine Tr.aload_n (pc := 45) (i := 0) d_X12_spot_45 rfl rfl ?_
  refine Tr.getf (pc := 46) d_X12_spot_46 f_12_121 (by decide) (by decide) (ty_120 hS.1.1) ?_
  refine Tr.tp g120_36 ((Wr.b w39 rfl).trans ((Wr.b w32 rfl).trans ((Wr.b w25 rfl).trans eg120_36))) ?_
  have kx_136_1 : rd M39 136 1 = g136_1 := ((Wr.b w39 rfl).trans ((Wr.b w32 rfl).trans ((Wr.b w25 rfl).trans eg136_1)))
  refine Tr.iastS (pc := 49) (P := St Pm1 ws_X12_spot_120 as_X12_spot_120 M0) d_X12_spot_49 (ty_140 hS.1.1) (by omega) (by omega) (sa_140 hS (by decide) (by and_intros <;> omega) (Pm1_free hS.1.2.2.2.2 hS.1.2.1 (by omega) (by omega) (by omega))) (fun M49 hS w49 => ?_)
  refine Tr.aload_n (pc := 50) (i := 0) d_X12_spot_50 rfl rfl ?_
  refine Tr.getf (pc := 51) d_X12_spot_51 f_12_109 (by decide) (by decide) (ty_120 hS.1.1) ?_
  refine Tr.tp 141 (fx_120_32 hS.1.1) ?_
  refine Tr.iload_n (pc := 54) (i := 3) d_X12_spot_54 rfl rfl ?_
  refine Tr.aload_n (pc := 55) (i := 0) d_X12_spot_55 rfl rfl ?_
  refine Tr.getf (pc := 56) d_X12_spot_56 f_12_121 (by decide) (by decide) (ty_120 hS.1.1) ?_
  refine Tr.tp g120_36 ((Wr.b w49 rfl).trans ((Wr.b w39 rfl).trans ((Wr.b w32 rfl).trans ((Wr.b w25 rfl).trans eg120_36)))) ?_
  have kx_136_1 : rd M49 136 1 = g136_1 := ((Wr.b w49 rfl).trans ((Wr.b w39 rfl).trans ((Wr.b w32 rfl).trans ((Wr.b w25 rfl).trans eg136_1))))
  refine Tr.iastS (pc := 59) (P := St Pm1 ws_X12_spot_120 as_X12_spot_120 M0) d_X12_spot_59 (ty_141 hS.1.1) (by omega) (by omega) (sa_141 hS (by decide) (by and_intros <;> omega) (Pm1_free hS.1.2.2.2.2 hS.1.2.1 (by omega) (by omega) (by omega))) (fun M59 hS w59 => ?_)
  refine Tr.aload_n (pc := 60) (i := 0) d_X12_spot_60 rfl rfl ?_
  refine Tr.getf (pc := 61) d_X12_spot_61 f_12_112 (by decide) (by decide) (ty_120 hS.1.1) ?_
  refine Tr.tp 142 (fx_120_33 hS.1.1) ?_
  refine Tr.iload_n (pc := 64) (i := 3) d_X12_spot_64 rfl rfl ?_
  refine Tr.iconst (pc := 65) d_X12_spot_65 (by decide) ?_
  have kx_136_1 : rd M59 136 1 = g136_1 := ((Wr.b w59 rfl).trans ((Wr.b w49 rfl).trans ((Wr.b w39 rfl).trans ((Wr.b w32 rfl).trans ((Wr.b w25 rfl).trans eg136_1)))))
  refine Tr.iastS (pc := 66) (P := St Pm1 ws_X12_spot_120 as_X12_spot_120 M0) d_X12_spot_66 (ty_142 hS.1.1) (by omega) (by omega) (sa_142 hS (by decide) (by omega) (Pm1_free hS.1.2.2.2.2 hS.1.2.1 (by omega) (by omega) (by omega))) (fun M66 hS w66 => ?_)
  refine Tr.aload_n (pc := 67) (i := 0) d_X12_spot_67 rfl rfl ?_
  refine Tr.getf (pc := 68) d_X12_spot_68 f_12_94 (by decide) (by decide) (ty_120 hS.1.1) ?_
  refine Tr.tp 136 (fx_120_27 hS.1.1) ?_
  refine Tr.aload_n (pc := 71) (i := 0) d_X12_spot_71 rfl rfl ?_
  refine Tr.getf (pc := 72) d_X12_spot_72 f_12_124 (by decide) (by decide) (ty_120 hS.1.1) ?_
  refine Tr.tp 1 ((kp_X12_spot_120_120_37 hS).trans en_120_37) ?_
  refine Tr.dup2 (pc := 75) d_X12_spot_75 ne01 ne21 ?_
  refine Tr.iald (pc := 76) d_X12_spot_76 (ty_136 hS.1.1) (by omega) (by omega) ?_
  refine Tr.tp g136_1 ((Wr.b w66 rfl).trans ((Wr.b w59 rfl).trans ((Wr.b w49 rfl).trans ((Wr.b w39 rfl).trans ((Wr.b w32 rfl).trans ((Wr.b w25 rfl).trans eg136_1)))))) ?_
  refine Tr.iconst (pc := 77) d_X12_spot_77 (by decide) ?_
  refine Tr.iadd (pc := 78) d_X12_spot_78 ?_
  refine Tr.tp (g136_1 + 1) ((w32_id (by and_intros <;> omega)).trans (by omega)) ?_
  have kx_136_1 : rd M66 136 1 = g136_1 := ((Wr.b w66 rfl).trans ((Wr.b w59 rfl).trans ((Wr.b w49 rfl).trans ((Wr.b w39 rfl).trans ((Wr.b w32 rfl).trans ((Wr.b w25 rfl).trans eg136_1))))))
  refine Tr.iastS (pc := 79) (P := St Pm1 ws_X12_spot_120 as_X12_spot_120 M0) d_X12_spot_79 (ty_136 hS.1.1) (by omega) (by omega) (st_136_1 hS (by decide) (by and_intros <;> omega) (Pm1_spot hS.1.2.2.2.2 hS.1.2.1 (by have e9 := ((Wr.b w66 rfl).trans ((Wr.b w59 rfl).trans ((Wr.b w49 rfl).trans ((Wr.b w39 rfl).trans ((Wr.b w32 rfl).trans ((Wr.b w25 rfl).trans eg136_1)))))); omega) ((show rd M66 137 (200 + rd M66 136 1) = rd M66 137 (g136_1 + 200) from congrArg _ (by have e9 := ((Wr.b w66 rfl).trans ((Wr.b w59 rfl).trans ((Wr.b w49 rfl).trans ((Wr.b w39 rfl).trans ((Wr.b w32 rfl).trans ((Wr.b w25 rfl).trans eg136_1)))))); omega)).trans (((Wr.b w66 rfl).trans ((Wr.b w59 rfl).trans ((Wr.b w49 rfl).trans ((Wr.b w39 rfl).trans ((Wr.b w32 rfl).trans w25.1))))))) ((show rd M66 138 (200 + rd M66 136 1) = rd M66 138 (g136_1 + 200) from congrArg _ (by have e9 := ((Wr.b w66 rfl).trans ((Wr.b w59 rfl).trans ((Wr.b w49 rfl).trans ((Wr.b w39 rfl).trans ((Wr.b w32 rfl).trans ((Wr.b w25 rfl).trans eg136_1)))))); omega)).trans (((Wr.b w66 rfl).trans ((Wr.b w59 rfl).trans ((Wr.b w49 rfl).trans ((Wr.b w39 rfl).trans w32.1)))))) ((show rd M66 139 (200 + rd M66 136 1) = rd M66 139 (g136_1 + 200) from congrArg _ (by have e9 := ((Wr.b w66 rfl).trans ((Wr.b w59 rfl).trans ((Wr.b w49 rfl).trans ((Wr.b w39 rfl).trans ((Wr.b w32 rfl).trans ((Wr.b w25 rfl).trans eg136_1)))))); omega)).trans (((Wr.b w66 rfl).trans ((Wr.b w59 rfl).trans ((Wr.b w49 rfl).trans w39.1))))) ((show rd M66 140 (200 + rd M66 136 1) = rd M66 140 (g136_1 + 200) from congrArg _ (by have e9 := ((Wr.b w66 rfl).trans ((Wr.b w59 rfl).trans ((Wr.b w49 rfl).trans ((Wr.b w39 rfl).trans ((Wr.b w32 rfl).trans ((Wr.b w25 rfl).trans eg136_1)))))); omega)).trans (((Wr.b w66 rfl).trans ((Wr.b w59 rfl).trans w49.1)))) ((show rd M66 141 (200 + rd M66 136 1) = rd M66 141 (g136_1 + 200) from congrArg _ (by have e9 := ((Wr.b w66 rfl).trans ((Wr.b w59 rfl).trans ((Wr.b w49 rfl).trans ((Wr.b w39 rfl).trans ((Wr.b w32 rfl).trans ((Wr.b w25 rfl).trans eg136_1)))))); omega)).trans (((Wr.b w66 rfl).trans w59.1))) ((show rd M66 142 (200 + rd M66 136 1) = rd M66 142 (g136_1 + 200) from congrArg _ (by have e9 := ((Wr.b w66 rfl).trans ((Wr.b w59 rfl).trans ((Wr.b w49 rfl).trans ((Wr.b w39 rfl).trans ((Wr.b w32 rfl).trans ((Wr.b w25 rfl).trans eg136_1)))))); omega)).trans (w66.1)) (((Wr.b w66 rfl).trans ((Wr.b w59 rfl).trans ((Wr.b w49 rfl).trans ((Wr.b w39 rfl).trans ((Wr.b w32 rfl).trans ((Wr.b w25 rfl).trans eg120_36))))))) (fun c => by have e9 := ((Wr.b w66 rfl).trans ((Wr.b w59 rfl).trans ((Wr.b w49 rfl).trans ((Wr.b w39 rfl).trans ((Wr.b w32 rfl).trans ((Wr.b w25 rfl).trans eg136_1)))))); have h5 := hd_o hq1; omega) (fun c => by have h5 := hd_o hq2; omega))) (fun M79 hS w79 => ?_)
  refine Tr.iload_n (pc := 80) (i := 3) d_X12_spot_80 rfl rfl ?_
  have kr_136_1 : rd M79 136 1 = (g136_1 + 1) := w79.1
  exact Tr.iret (pc := 81) d_X12_spot_81 rfl ⟨hS, _, rfl, (by omega), (by omega), (by omega), (by omega), (fun j hj => ((Wr.b w79 rfl).trans ((Wr.b w66 rfl).trans ((Wr.b w59 rfl).trans ((Wr.b w49 rfl).trans ((Wr.b w39 rfl).trans ((Wr.b w32 rfl).trans (w25.2 _ _ (fun c => by have := c.2; omega))))))))), ((show _ = _ from congrArg _ (by omega)).trans (((Wr.b w79 rfl).trans ((Wr.b w66 rfl).trans ((Wr.b w59 rfl).trans ((Wr.b w49 rfl).trans ((Wr.b w39 rfl).trans ((Wr.b w32 rfl).trans w25.1))))))))⟩

set_option maxRecDepth 100000 in
set_option maxHeartbeats 4000000 in
theorem ns_X12_spot_120 {l : Launch} {K : EC} {M0 : Mem} {G136_1 : Int} (hI : In Pm1 M0) (k136_1 : rd M0 136 1 = G136_1) (en_120_37 : rd M0 120 37 = 1) (a1 : Int) (ha1 : 0 ≤ a1 ∧ a1 ≤ 8) (a2 : Int) (ha2 : (-1) ≤ a2 ∧ a2 ≤ 59)  (hq0 : G136_1 ≤ 199) (hq1 : a1 ≠ 0 ∨ 1 ≤ G136_1) (hq2 : a1 = 0 ∨ 0 ≤ a2) : Tr l K 0 mX12_spot 0 [(0, (2, 120)), (1, (0, a1)), (2, (0, a2))] [] M0 (fun M' r => St Pm1 ws_X12_spot_120 as_X12_spot_120 M0 M' ∧ ∃ S136_1 : Int, rd M' 136 1 = S136_1 ∧ (0 ≤ S136_1 ∧ S136_1 ≤ 200) ∧ ∃ v : Int, r = some (0, v) ∧ 200 ≤ v ∧ v ≤ 399 ∧ (S136_1 = G136_1 + 1) ∧ (v = 200 + G136_1) ∧ (∀ j : Int, j < 200 + rd M0 136 1 → rd M' 137 j = rd M0 137 j) ∧ (rd M' 137 (200 + rd M0 136 1) = a1)) := by
  subst k136_1
  refine Tr.imp (sp_X12_spot_120 hI en_120_37 a1 ha1 a2 ha2 hq0 hq1 hq2) ?_
  rintro M' _ ⟨hS, v, rfl, lr, ur, z0, z1, z2, z3⟩
  exact ⟨hS, _, rfl, ir_136_1 hS.1.2.1, v, rfl, lr, ur, z0, z1, z2, z3⟩

def ws_X12_asked_120 : List (Int × Int) := [(120, 3), (120, 4), (120, 5), (120, 6), (120, 7), (120, 8), (120, 9)]
def as_X12_asked_120 : List Int := []
def q_X12_asked_120 (a1 : Int) (M0 M' : Mem) (r : Option PV) : Prop := St Pm1 ws_X12_asked_120 as_X12_asked_120 M0 M' ∧ ∃ v : Int, r = some (0, v) ∧ (-1) ≤ v ∧ v ≤ 5 ∧ (rd M' 120 3 = 0 ∨ rd M' 120 4 + 1 ≤ rd M' 120 5) ∧ (rd M' 120 4 ≤ rd M' 120 5) ∧ (rd M' 120 3 ≠ 1 ∨ rd M' 120 4 + 2 ≤ rd M' 120 5 ∨ rd M' 120 7 < 256) ∧ (rd M0 120 4 ≤ rd M' 120 4 ∧ rd M0 120 5 ≤ rd M' 120 5 ∧ tav M0 ≤ tav M') ∧ (rd M0 120 8 = 0 ∨ rd M' 120 8 = rd M0 120 8) ∧ (1 ≤ rd M' 120 8 ∨ tav M0 < tav M') ∧ (1 ≤ rd M' 120 8 ∨ (0 ≤ v ∧ v ≤ 5))
theorem kp_X12_asked_120_120_37 {q : Mem → Prop} {M0 M : Mem} (h : St q ws_X12_asked_120 as_X12_asked_120 M0 M) : rd M 120 37 = rd M0 120 37 := St.kp h (by decide) (by decide) (by decide)
set_option maxRecDepth 100000 in
set_option maxHeartbeats 4000000 in
theorem sp_X12_asked_120 {l : Launch} {K : EC} {M0 : Mem} (hI : In Pm1 M0) (en_120_37 : rd M0 120 37 = 1) (a1 : Int) (ha1 : 0 ≤ a1 ∧ a1 ≤ 1)  (hq0 : rd M0 120 3 = 0 ∨ rd M0 120 4 + 1 ≤ rd M0 120 5) (hq1 : rd M0 120 4 ≤ rd M0 120 5) (hq2 : rd M0 120 3 ≠ 1 ∨ rd M0 120 4 + 2 ≤ rd M0 120 5 ∨ rd M0 120 7 < 256) : Tr l K 2 mX12_asked 0 [(0, (2, 120)), (1, (0, a1))] [] M0 (q_X12_asked_120 a1 M0) := by
  have hS : St Pm1 ws_X12_asked_120 as_X12_asked_120 M0 M0 := St.rf hI
  obtain ⟨g120_8, eg120_8⟩ : ∃ v, rd M0 120 8 = v := ⟨_, rfl⟩
  have bg120_8 : 0 ≤ g120_8 ∧ g120_8 ≤ 5 := by rw [← eg120_8]; exact ir_120_8 hI.2.1
  obtain ⟨g120_3, eg120_3⟩ : ∃ v, rd M0 120 3 = v := ⟨_, rfl⟩
  have bg120_3 : 0 ≤ g120_3 ∧ g120_3 ≤ 3 := by rw [← eg120_3]; exact ir_120_3 hI.2.1
  obtain ⟨g120_4, eg120_4⟩ : ∃ v, rd M0 120 4 = v := ⟨_, rfl⟩
  have bg120_4 : 0 ≤ g120_4 ∧ g120_4 ≤ 900 := by rw [← eg120_4]; exact ir_120_4 hI.2.1
  obtain ⟨g120_5, eg120_5⟩ : ∃ v, rd M0 120 5 = v := ⟨_, rfl⟩
  have bg120_5 : 0 ≤ g120_5 ∧ g120_5 ≤ 900 := by rw [← eg120_5]; exact ir_120_5 hI.2.1
  obtain ⟨g120_7, eg120_7⟩ : ∃ v, rd M0 120 7 = v := ⟨_, rfl⟩
  have bg120_7 : (-9223372036854775808) ≤ g120_7 ∧ g120_7 ≤ 9223372036854775807 := by rw [← eg120_7]; exact ir_120_7 hI.2.1
  obtain ⟨g9010_0, eg9010_0⟩ : ∃ v, tav M0 = v := ⟨_, rfl⟩
  have bg9010_0 : (-1) ≤ g9010_0 ∧ g9010_0 ≤ 1800 := by rw [← eg9010_0]; exact (tav_b hI.2.1)
  replace hq0 := hd_i hq0
  replace hq2 := hd_i hq2
  refine Tr.aload_n (pc := 0) (i := 0) d_X12_asked_0 rfl rfl ?_
  refine Tr.getf (pc := 1) d_X12_asked_1 f_12_36 (by decide) (by decide) (ty_120 hS.1.1) ?_
  refine Tr.tp g120_8 eg120_8 ?_
  refine Tr.if_le (pc := 4) (tgt := 9) d_X12_asked_4 rfl (fun c4 => ?_) (fun c4 => ?_)
  · refine Tr.aload_n (pc := 9) (i := 0) d_X12_asked_9 rfl rfl ?_
    refine Tr.getf (pc := 10) d_X12_asked_10 f_12_20 (by decide) (by decide) (ty_120 hS.1.1) ?_
    refine Tr.tp g120_3 eg120_3 ?_
    refine Tr.iconst (pc := 13) d_X12_asked_13 (by decide) ?_
    have J37 : ∀ (M : Mem) (u37_120_8 : Int), St Pm1 ws_X12_asked_120 as_X12_asked_120 M0 M → (0 ≤ u37_120_8 ∧ u37_120_8 ≤ 5) → rd M 120 3 = g120_3 → rd M 120 4 = g120_4 → rd M 120 5 = g120_5 → rd M 120 7 = g120_7 → rd M 120 8 = u37_120_8 → tav M = g9010_0 → (u37_120_8 ≠ 0 ∨ g120_3 ≠ 0) → (g120_8 = 0) → Tr l K 2 mX12_asked 37 [(0, (2, 120)), (1, (0, a1))] [] M (q_X12_asked_120 a1 M0) := by
      intro M u37_120_8 hS bu37_120_8 k37_120_3 k37_120_4 k37_120_5 k37_120_7 k37_120_8 k37_9010_0 t37_0 t37_1
      replace t37_0 := hd_i t37_0
      refine Tr.aload_n (pc := 37) (i := 0) d_X12_asked_37 rfl rfl ?_
      refine Tr.getf (pc := 38) d_X12_asked_38 f_12_36 (by decide) (by decide) (ty_120 hS.1.1) ?_
      refine Tr.tp u37_120_8 k37_120_8 ?_
      have J71 : ∀ (M : Mem) (q71_0 : Int), St Pm1 ws_X12_asked_120 as_X12_asked_120 M0 M → ((-1) ≤ q71_0 ∧ q71_0 ≤ 5) → rd M 120 3 = g120_3 → rd M 120 4 = g120_4 → rd M 120 5 = g120_5 → rd M 120 7 = g120_7 → rd M 120 8 = u37_120_8 → tav M = g9010_0 → (u37_120_8 ≠ 0 ∨ g120_3 ≠ 0) → (g120_8 = 0) → (u37_120_8 ≠ 0 ∨ (-1 ≤ q71_0 ∧ q71_0 ≤ 5)) → Tr l K 2 mX12_asked 71 [(0, (2, 120))] [(0, q71_0)] M (q_X12_asked_120 a1 M0) := by
        intro M q71_0 hS bq71_0 k71_120_3 k71_120_4 k71_120_5 k71_120_7 k71_120_8 k71_9010_0 t71_0 t71_1 t71_2
        clear k37_120_3 k37_120_4 k37_120_5 k37_120_7 k37_120_8 k37_9010_0
        replace t71_0 := hd_i t71_0
        replace t71_2 := hd_i t71_2
        refine Tr.istore_n (pc := 71) (i := 2) (ls2 := [(2, (0, q71_0)), (0, (2, 120))]) d_X12_asked_71 rfl (by decide) rfl ?_
        refine Tr.aload_n (pc := 72) (i := 0) d_X12_asked_72 rfl rfl ?_
        refine Tr.getf (pc := 73) d_X12_asked_73 f_12_36 (by decide) (by decide) (ty_120 hS.1.1) ?_
        refine Tr.tp u37_120_8 k71_120_8 ?_
        have J93 : ∀ (M : Mem) (u93_120_8 : Int), St Pm1 ws_X12_asked_120 as_X12_asked_120 M0 M → (0 ≤ u93_120_8 ∧ u93_120_8 ≤ 5) → rd M 120 3 = g120_3 → rd M 120 4 = g120_4 → rd M 120 5 = g120_5 → rd M 120 7 = g120_7 → rd M 120 8 = u93_120_8 → tav M = g9010_0 → (u93_120_8 ≠ 0 ∨ g120_3 ≠ 0) → (g120_8 = 0) → (u93_120_8 ≠ 0 ∨ (0 ≤ q71_0 ∧ q71_0 ≤ 5)) → Tr l K 2 mX12_asked 93 [(0, (2, 120)), (2, (0, q71_0))] [] M (q_X12_asked_120 a1 M0) := by
          intro M u93_120_8 hS bu93_120_8 k93_120_3 k93_120_4 k93_120_5 k93_120_7 k93_120_8 k93_9010_0 t93_0 t93_1 t93_2
          clear k71_120_3 k71_120_4 k71_120_5 k71_120_7 k71_120_8 k71_9010_0
          replace t93_0 := hd_i t93_0
          replace t93_2 := hd_i t93_2
          refine Tr.aload_n (pc := 93) (i := 0) d_X12_asked_93 rfl rfl ?_
          refine Tr.getf (pc := 94) d_X12_asked_94 f_12_36 (by decide) (by decide) (ty_120 hS.1.1) ?_
          refine Tr.tp u93_120_8 k93_120_8 ?_
          refine Tr.if_ne (pc := 97) (tgt := 104) d_X12_asked_97 rfl (fun c97 => ?_) (fun c97 => ?_)
          · have c97b : 1 ≤ u93_120_8 ∧ u93_120_8 ≤ 5 := by omega
            replace c97 := hd_i c97
            refine Tr.iload_n (pc := 104) (i := 2) d_X12_asked_104 rfl rfl ?_
            have kr_120_3 : rd M 120 3 = g120_3 := k93_120_3
            have kr_120_4 : rd M 120 4 = g120_4 := k93_120_4
            have kr_120_5 : rd M 120 5 = g120_5 := k93_120_5
            have kr_120_7 : rd M 120 7 = g120_7 := k93_120_7
            have kr_120_8 : rd M 120 8 = u93_120_8 := k93_120_8
            have kr_9010_0 : tav M = g9010_0 := k93_9010_0
            exact Tr.iret (pc := 105) d_X12_asked_105 rfl ⟨hS, _, rfl, (by omega), (by omega), (by first | exact (hd_o hq0) | exact (hd_o hq0).elim (fun h1 => by omega) (fun h1 => by omega)), (by omega), (by first | exact (hd_o hq2) | exact (hd_o hq2).elim (fun h1 => by omega) (fun h1 => h1.elim (fun h1 => by omega) (fun h1 => by omega))), (by and_intros <;> omega), (by omega), (by omega), (by omega)⟩
          · refine Tr.aload_n (pc := 100) (i := 0) d_X12_asked_100 rfl rfl ?_
            refine Tr.callV (pc := 101) (as := []) d_X12_asked_101 s_12_396 ok_X12_next rfl rfl (Nat.le_of_ble_eq_true rfl) (Nat.le_of_ble_eq_true rfl) (by decide) (ty_120 hS.1.1) ?_
            refine Tr.imp (Tr.deep (by decide) (ns_X12_next_120 (G120_3 := g120_3) (G120_5 := g120_5) (G120_8 := u93_120_8) (G9010_0 := g9010_0) hS.1 (k93_120_3) (k93_120_5) (k93_120_8) (k93_9010_0))) ?_
            rintro M101 _ ⟨h101, s101_120_3, s101_120_4, s101_120_5, s101_120_7, s101_120_8, s101_9010_0, es101_120_3, bs101_120_3, es101_120_4, bs101_120_4, es101_120_5, bs101_120_5, es101_120_7, bs101_120_7, es101_120_8, bs101_120_8, es101_9010_0, bs101_9010_0, rfl, z101_0, z101_1, z101_2, z101_3, z101_4, z101_5, z101_6⟩
            have hS := St.tr hS h101 (by decide) (by decide)
            refine Tr.sc [] rfl ?_
            refine Tr.iload_n (pc := 104) (i := 2) d_X12_asked_104 rfl rfl ?_
            have kr_120_3 : rd M101 120 3 = s101_120_3 := es101_120_3
            have kr_120_4 : rd M101 120 4 = s101_120_4 := es101_120_4
            have kr_120_5 : rd M101 120 5 = s101_120_5 := es101_120_5
            have kr_120_7 : rd M101 120 7 = s101_120_7 := es101_120_7
            have kr_120_8 : rd M101 120 8 = s101_120_8 := es101_120_8
            have kr_9010_0 : tav M101 = s101_9010_0 := es101_9010_0
            exact Tr.iret (pc := 105) d_X12_asked_105 rfl ⟨hS, _, rfl, (by omega), (by omega), (by first | exact (hd_o z101_0) | exact (hd_o z101_0).elim (fun h1 => by omega) (fun h1 => by omega)), (by omega), (by first | exact (hd_o z101_2) | exact (hd_o z101_2).elim (fun h1 => by omega) (fun h1 => h1.elim (fun h1 => by omega) (fun h1 => by omega))), (by and_intros <;> omega), (by omega), (by exact (hd_o t93_0).elim (fun h1 => (ne_o h1).elim (fun h2 => by omega) (fun h2 => by omega)) (fun h1 => (ne_o h1).elim (fun h2 => by omega) (fun h2 => (hd_o z101_5).elim (fun h3 => by omega) (fun h3 => by omega)))), (by exact (hd_o t93_2).elim (fun h1 => (ne_o h1).elim (fun h2 => by omega) (fun h2 => by omega)) (fun h1 => by omega))⟩
        refine Tr.if_ne (pc := 76) (tgt := 93) d_X12_asked_76 rfl (fun c76 => ?_) (fun c76 => ?_)
        · have c76b : 1 ≤ u37_120_8 ∧ u37_120_8 ≤ 5 := by omega
          replace c76 := hd_i c76
          refine Tr.pick [1, 0] (ls2 := [(0, (2, 120)), (2, (0, q71_0))]) rfl ?_
          exact J93 _ _ hS (by and_intros <;> omega) k71_120_3 k71_120_4 k71_120_5 k71_120_7 k71_120_8 k71_9010_0 (by first | exact (hd_o t71_0) | exact (hd_o t71_0).elim (fun h1 => by omega) (fun h1 => by omega)) (by omega) (by omega)
        · refine Tr.iload_n (pc := 79) (i := 2) d_X12_asked_79 rfl rfl ?_
          refine Tr.iconst (pc := 80) d_X12_asked_80 (by decide) ?_
          refine Tr.icmp_ne (pc := 81) (tgt := 93) d_X12_asked_81 rfl (fun c81 => ?_) (fun c81 => ?_)
          · have c81b : 0 ≤ q71_0 ∧ q71_0 ≤ 5 := by omega
            replace c81 := hd_i c81
            refine Tr.pick [1, 0] (ls2 := [(0, (2, 120)), (2, (0, q71_0))]) rfl ?_
            exact J93 _ _ hS (by and_intros <;> omega) k71_120_3 k71_120_4 k71_120_5 k71_120_7 k71_120_8 k71_9010_0 (by first | exact (hd_o t71_0) | exact (hd_o t71_0).elim (fun h1 => by omega) (fun h1 => by omega)) (by omega) (by omega)
          · refine Tr.aload_n (pc := 84) (i := 0) d_X12_asked_84 rfl rfl ?_
            refine Tr.iconst (pc := 85) d_X12_asked_85 (by decide) ?_
            refine Tr.aload_n (pc := 86) (i := 0) d_X12_asked_86 rfl rfl ?_
            refine Tr.getf (pc := 87) d_X12_asked_87 f_12_23 (by decide) (by decide) (ty_120 hS.1.1) ?_
            refine Tr.tp g120_4 k71_120_4 ?_
            refine Tr.callV (pc := 90) (as := [_, _]) d_X12_asked_90 s_12_389 ok_X12_blame rfl rfl (Nat.le_of_ble_eq_true rfl) (Nat.le_of_ble_eq_true rfl) (by decide) (ty_120 hS.1.1) ?_
            refine Tr.imp (Tr.deep (by decide) (ns_X12_blame_120 (G120_8 := u37_120_8) hS.1 (k71_120_8) 3 (by omega) g120_4 (by and_intros <;> omega))) ?_
            rintro M90 _ ⟨h90, s90_120_8, es90_120_8, bs90_120_8, rfl, z90_0⟩
            have hS := St.tr hS h90 (by decide) (by decide)
            refine Tr.sc [] rfl ?_
            refine Tr.pick [1, 0] (ls2 := [(0, (2, 120)), (2, (0, q71_0))]) rfl ?_
            exact J93 _ _ hS (by and_intros <;> omega) ((kp_X12_blame_120_120_3 h90).trans k71_120_3) ((kp_X12_blame_120_120_4 h90).trans k71_120_4) ((kp_X12_blame_120_120_5 h90).trans k71_120_5) ((kp_X12_blame_120_120_7 h90).trans k71_120_7) es90_120_8 ((tav_of ((kp_X12_blame_120_120_5 h90).trans rfl) ((kp_X12_blame_120_120_3 h90).trans rfl)).trans k71_9010_0) (by exact (hd_o z90_0).elim (fun h1 => by omega) (fun h1 => by omega)) (by omega) (by exact (hd_o z90_0).elim (fun h1 => by omega) (fun h1 => by omega))
      refine Tr.if_le (pc := 41) (tgt := 48) d_X12_asked_41 rfl (fun c41 => ?_) (fun c41 => ?_)
      · refine Tr.iload_n (pc := 48) (i := 1) d_X12_asked_48 rfl rfl ?_
        refine Tr.if_ne (pc := 49) (tgt := 63) d_X12_asked_49 rfl (fun c49 => ?_) (fun c49 => ?_)
        · have c49b : 1 ≤ a1 ∧ a1 ≤ 1 := by omega
          replace c49 := hd_i c49
          refine Tr.aload_n (pc := 63) (i := 0) d_X12_asked_63 rfl rfl ?_
          refine Tr.aload_n (pc := 64) (i := 0) d_X12_asked_64 rfl rfl ?_
          refine Tr.getf (pc := 65) d_X12_asked_65 f_12_32 (by decide) (by decide) (ty_120 hS.1.1) ?_
          refine Tr.tp g120_7 k37_120_7 ?_
          refine Tr.callV (pc := 68) (as := [_]) d_X12_asked_68 s_12_464 ok_X12_varOf rfl rfl (Nat.le_of_ble_eq_true rfl) (Nat.le_of_ble_eq_true rfl) (by decide) (ty_120 hS.1.1) ?_
          refine Tr.imp (Tr.deep (by decide) (sp_X12_varOf_120 hS.1.wk ((kp_X12_asked_120_120_37 hS).trans en_120_37) g120_7 (by omega))) ?_
          rintro M68 _ ⟨h68, r68, rfl, lr68, ur68⟩
          have h68 := St.rn h68 (Pm1.of hS.1.2.2.2.2 (fun _ => (ka_X12_varOf_120_131 h68 _)) (fun _ => (ka_X12_varOf_120_137 h68 _)) (fun _ => (ka_X12_varOf_120_138 h68 _)) (fun _ => (ka_X12_varOf_120_139 h68 _)) (fun _ => (ka_X12_varOf_120_140 h68 _)) (fun _ => (ka_X12_varOf_120_141 h68 _)) (fun _ => (ka_X12_varOf_120_142 h68 _)) (fun _ => (ka_X12_varOf_120_143 h68 _)) (fun _ => (ka_X12_varOf_120_151 h68 _)) (fun _ => (ka_X12_varOf_120_152 h68 _)) (kp_X12_varOf_120_126_0 h68) (kp_X12_varOf_120_126_1 h68) (kp_X12_varOf_120_136_0 h68) (kp_X12_varOf_120_136_1 h68) (kp_X12_varOf_120_123_0 h68) (kp_X12_varOf_120_123_1 h68) (kp_X12_varOf_120_124_0 h68) (kp_X12_varOf_120_124_1 h68) (kp_X12_varOf_120_120_8 h68) (kp_X12_varOf_120_120_36 h68) (kp_X12_varOf_120_120_50 h68))
          have hS := St.tr hS h68 (by decide) (by decide)
          refine Tr.sc [(0, r68)] rfl ?_
          refine Tr.pick [0] (ls2 := [(0, (2, 120))]) rfl ?_
          exact J71 _ _ hS (by and_intros <;> omega) ((kp_X12_varOf_120_120_3 h68).trans k37_120_3) ((kp_X12_varOf_120_120_4 h68).trans k37_120_4) ((kp_X12_varOf_120_120_5 h68).trans k37_120_5) ((kp_X12_varOf_120_120_7 h68).trans k37_120_7) ((kp_X12_varOf_120_120_8 h68).trans k37_120_8) ((tav_of ((kp_X12_varOf_120_120_5 h68).trans rfl) ((kp_X12_varOf_120_120_3 h68).trans rfl)).trans k37_9010_0) (by first | exact (hd_o t37_0) | exact (hd_o t37_0).elim (fun h1 => by omega) (fun h1 => by omega)) (by omega) (by omega)
        · refine Tr.aload_n (pc := 52) (i := 0) d_X12_asked_52 rfl rfl ?_
          refine Tr.aload_n (pc := 53) (i := 0) d_X12_asked_53 rfl rfl ?_
          refine Tr.getf (pc := 54) d_X12_asked_54 f_12_32 (by decide) (by decide) (ty_120 hS.1.1) ?_
          refine Tr.tp g120_7 k37_120_7 ?_
          refine Tr.callV (pc := 57) (as := [_]) d_X12_asked_57 s_12_457 ok_X12_partOf rfl rfl (Nat.le_of_ble_eq_true rfl) (Nat.le_of_ble_eq_true rfl) (by decide) (ty_120 hS.1.1) ?_
          refine Tr.imp (Tr.deep (by decide) (sp_X12_partOf_120 hS.1.wk ((kp_X12_asked_120_120_37 hS).trans en_120_37) g120_7 (by omega))) ?_
          rintro M57 _ ⟨h57, r57, rfl, lr57, ur57⟩
          have h57 := St.rn h57 (Pm1.of hS.1.2.2.2.2 (fun _ => (ka_X12_partOf_120_131 h57 _)) (fun _ => (ka_X12_partOf_120_137 h57 _)) (fun _ => (ka_X12_partOf_120_138 h57 _)) (fun _ => (ka_X12_partOf_120_139 h57 _)) (fun _ => (ka_X12_partOf_120_140 h57 _)) (fun _ => (ka_X12_partOf_120_141 h57 _)) (fun _ => (ka_X12_partOf_120_142 h57 _)) (fun _ => (ka_X12_partOf_120_143 h57 _)) (fun _ => (ka_X12_partOf_120_151 h57 _)) (fun _ => (ka_X12_partOf_120_152 h57 _)) (kp_X12_partOf_120_126_0 h57) (kp_X12_partOf_120_126_1 h57) (kp_X12_partOf_120_136_0 h57) (kp_X12_partOf_120_136_1 h57) (kp_X12_partOf_120_123_0 h57) (kp_X12_partOf_120_123_1 h57) (kp_X12_partOf_120_124_0 h57) (kp_X12_partOf_120_124_1 h57) (kp_X12_partOf_120_120_8 h57) (kp_X12_partOf_120_120_36 h57) (kp_X12_partOf_120_120_50 h57))
          have hS := St.tr hS h57 (by decide) (by decide)
          refine Tr.sc [(0, r57)] rfl ?_
          refine Tr.goto (pc := 60) (tgt := 71) d_X12_asked_60 rfl ?_
          refine Tr.pick [0] (ls2 := [(0, (2, 120))]) rfl ?_
          exact J71 _ _ hS (by and_intros <;> omega) ((kp_X12_partOf_120_120_3 h57).trans k37_120_3) ((kp_X12_partOf_120_120_4 h57).trans k37_120_4) ((kp_X12_partOf_120_120_5 h57).trans k37_120_5) ((kp_X12_partOf_120_120_7 h57).trans k37_120_7) ((kp_X12_partOf_120_120_8 h57).trans k37_120_8) ((tav_of ((kp_X12_partOf_120_120_5 h57).trans rfl) ((kp_X12_partOf_120_120_3 h57).trans rfl)).trans k37_9010_0) (by first | exact (hd_o t37_0) | exact (hd_o t37_0).elim (fun h1 => by omega) (fun h1 => by omega)) (by omega) (by omega)
      · refine Tr.iconst (pc := 44) d_X12_asked_44 (by decide) ?_
        refine Tr.goto (pc := 45) (tgt := 71) d_X12_asked_45 rfl ?_
        refine Tr.pick [0] (ls2 := [(0, (2, 120))]) rfl ?_
        exact J71 _ _ hS (by omega) k37_120_3 k37_120_4 k37_120_5 k37_120_7 k37_120_8 k37_9010_0 (by first | exact (hd_o t37_0) | exact (hd_o t37_0).elim (fun h1 => by omega) (fun h1 => by omega)) (by omega) (by omega)
    have J28 : ∀ (M : Mem), St Pm1 ws_X12_asked_120 as_X12_asked_120 M0 M → rd M 120 3 = g120_3 → rd M 120 4 = g120_4 → rd M 120 5 = g120_5 → rd M 120 7 = g120_7 → rd M 120 8 = g120_8 → tav M = g9010_0 → (g120_8 = 0) → (g120_8 = 0) → Tr l K 2 mX12_asked 28 [(0, (2, 120)), (1, (0, a1))] [] M (q_X12_asked_120 a1 M0) := by
      intro M  hS  k28_120_3 k28_120_4 k28_120_5 k28_120_7 k28_120_8 k28_9010_0 t28_0 t28_1
      refine Tr.aload_n (pc := 28) (i := 0) d_X12_asked_28 rfl rfl ?_
      refine Tr.iconst (pc := 29) d_X12_asked_29 (by decide) ?_
      refine Tr.aload_n (pc := 30) (i := 0) d_X12_asked_30 rfl rfl ?_
      refine Tr.getf (pc := 31) d_X12_asked_31 f_12_23 (by decide) (by decide) (ty_120 hS.1.1) ?_
      refine Tr.tp g120_4 k28_120_4 ?_
      refine Tr.callV (pc := 34) (as := [_, _]) d_X12_asked_34 s_12_389 ok_X12_blame rfl rfl (Nat.le_of_ble_eq_true rfl) (Nat.le_of_ble_eq_true rfl) (by decide) (ty_120 hS.1.1) ?_
      refine Tr.imp (Tr.deep (by decide) (ns_X12_blame_120 (G120_8 := g120_8) hS.1 (k28_120_8) 1 (by omega) g120_4 (by and_intros <;> omega))) ?_
      rintro M34 _ ⟨h34, s34_120_8, es34_120_8, bs34_120_8, rfl, z34_0⟩
      have hS := St.tr hS h34 (by decide) (by decide)
      refine Tr.sc [] rfl ?_
      refine Tr.pick [0, 1] (ls2 := [(0, (2, 120)), (1, (0, a1))]) rfl ?_
      exact J37 _ _ hS (by and_intros <;> omega) ((kp_X12_blame_120_120_3 h34).trans k28_120_3) ((kp_X12_blame_120_120_4 h34).trans k28_120_4) ((kp_X12_blame_120_120_5 h34).trans k28_120_5) ((kp_X12_blame_120_120_7 h34).trans k28_120_7) es34_120_8 ((tav_of ((kp_X12_blame_120_120_5 h34).trans rfl) ((kp_X12_blame_120_120_3 h34).trans rfl)).trans k28_9010_0) (by exact (hd_o z34_0).elim (fun h1 => by omega) (fun h1 => by omega)) (by omega)
    refine Tr.icmp_ne (pc := 14) (tgt := 28) d_X12_asked_14 rfl (fun c14 => ?_) (fun c14 => ?_)
    · replace c14 := hd_i c14
      refine Tr.pick [0, 1] (ls2 := [(0, (2, 120)), (1, (0, a1))]) rfl ?_
      exact J28 _ hS eg120_3 eg120_4 eg120_5 eg120_7 eg120_8 eg9010_0 (by omega) (by omega)
    · refine Tr.aload_n (pc := 17) (i := 0) d_X12_asked_17 rfl rfl ?_
      refine Tr.aload_n (pc := 18) (i := 0) d_X12_asked_18 rfl rfl ?_
      refine Tr.getf (pc := 19) d_X12_asked_19 f_12_32 (by decide) (by decide) (ty_120 hS.1.1) ?_
      refine Tr.tp g120_7 eg120_7 ?_
      refine Tr.callV (pc := 22) (as := [_]) d_X12_asked_22 s_12_453 ok_X12_isOwn rfl rfl (Nat.le_of_ble_eq_true rfl) (Nat.le_of_ble_eq_true rfl) (by decide) (ty_120 hS.1.1) ?_
      refine Tr.imp (Tr.deep (by decide) (sp_X12_isOwn_120 hS.1.wk g120_7 (by omega))) ?_
      rintro M22 _ ⟨h22, r22, rfl, lr22, ur22⟩
      have h22 := St.rn h22 (Pm1.of hS.1.2.2.2.2 (fun _ => (ka_X12_isOwn_120_131 h22 _)) (fun _ => (ka_X12_isOwn_120_137 h22 _)) (fun _ => (ka_X12_isOwn_120_138 h22 _)) (fun _ => (ka_X12_isOwn_120_139 h22 _)) (fun _ => (ka_X12_isOwn_120_140 h22 _)) (fun _ => (ka_X12_isOwn_120_141 h22 _)) (fun _ => (ka_X12_isOwn_120_142 h22 _)) (fun _ => (ka_X12_isOwn_120_143 h22 _)) (fun _ => (ka_X12_isOwn_120_151 h22 _)) (fun _ => (ka_X12_isOwn_120_152 h22 _)) (kp_X12_isOwn_120_126_0 h22) (kp_X12_isOwn_120_126_1 h22) (kp_X12_isOwn_120_136_0 h22) (kp_X12_isOwn_120_136_1 h22) (kp_X12_isOwn_120_123_0 h22) (kp_X12_isOwn_120_123_1 h22) (kp_X12_isOwn_120_124_0 h22) (kp_X12_isOwn_120_124_1 h22) (kp_X12_isOwn_120_120_8 h22) (kp_X12_isOwn_120_120_36 h22) (kp_X12_isOwn_120_120_50 h22))
      have hS := St.tr hS h22 (by decide) (by decide)
      refine Tr.sc [(0, r22)] rfl ?_
      refine Tr.if_eq (pc := 25) (tgt := 37) d_X12_asked_25 rfl (fun c25 => ?_) (fun c25 => ?_)
      · refine Tr.pick [0, 1] (ls2 := [(0, (2, 120)), (1, (0, a1))]) rfl ?_
        exact J37 _ _ hS (by and_intros <;> omega) ((kp_X12_isOwn_120_120_3 h22).trans eg120_3) ((kp_X12_isOwn_120_120_4 h22).trans eg120_4) ((kp_X12_isOwn_120_120_5 h22).trans eg120_5) ((kp_X12_isOwn_120_120_7 h22).trans eg120_7) ((kp_X12_isOwn_120_120_8 h22).trans eg120_8) ((tav_of ((kp_X12_isOwn_120_120_5 h22).trans rfl) ((kp_X12_isOwn_120_120_3 h22).trans rfl)).trans eg9010_0) (by omega) (by omega)
      · have c25b : 1 ≤ r22 ∧ r22 ≤ 1 := by omega
        replace c25 := hd_i c25
        refine Tr.pick [0, 1] (ls2 := [(0, (2, 120)), (1, (0, a1))]) rfl ?_
        exact J28 _ hS ((kp_X12_isOwn_120_120_3 h22).trans eg120_3) ((kp_X12_isOwn_120_120_4 h22).trans eg120_4) ((kp_X12_isOwn_120_120_5 h22).trans eg120_5) ((kp_X12_isOwn_120_120_7 h22).trans eg120_7) ((kp_X12_isOwn_120_120_8 h22).trans eg120_8) ((tav_of ((kp_X12_isOwn_120_120_5 h22).trans rfl) ((kp_X12_isOwn_120_120_3 h22).trans rfl)).trans eg9010_0) (by omega) (by omega)
  · refine Tr.iconst (pc := 7) d_X12_asked_7 (by decide) ?_
    have kr_120_3 : rd M0 120 3 = g120_3 := eg120_3
    have kr_120_4 : rd M0 120 4 = g120_4 := eg120_4
    have kr_120_5 : rd M0 120 5 = g120_5 := eg120_5
    have kr_120_7 : rd M0 120 7 = g120_7 := eg120_7
    have kr_120_8 : rd M0 120 8 = g120_8 := eg120_8
    have kr_9010_0 : tav M0 = g9010_0 := eg9010_0
    exact Tr.iret (pc := 8) d_X12_asked_8 rfl ⟨hS, _, rfl, by omega, by omega, (by first | exact (hd_o hq0) | exact (hd_o hq0).elim (fun h1 => by omega) (fun h1 => by omega)), (by omega), (by first | exact (hd_o hq2) | exact (hd_o hq2).elim (fun h1 => by omega) (fun h1 => h1.elim (fun h1 => by omega) (fun h1 => by omega))), (by and_intros <;> omega), (by omega), (by omega), (by omega)⟩

set_option maxRecDepth 100000 in
set_option maxHeartbeats 4000000 in
theorem ns_X12_asked_120 {l : Launch} {K : EC} {M0 : Mem} {G120_3 G120_4 G120_5 G120_7 G120_8 G9010_0 : Int} (hI : In Pm1 M0) (k120_3 : rd M0 120 3 = G120_3) (k120_4 : rd M0 120 4 = G120_4) (k120_5 : rd M0 120 5 = G120_5) (k120_7 : rd M0 120 7 = G120_7) (k120_8 : rd M0 120 8 = G120_8) (k9010_0 : tav M0 = G9010_0) (en_120_37 : rd M0 120 37 = 1) (a1 : Int) (ha1 : 0 ≤ a1 ∧ a1 ≤ 1)  (hq0 : G120_3 = 0 ∨ G120_4 + 1 ≤ G120_5) (hq1 : G120_4 ≤ G120_5) (hq2 : G120_3 ≠ 1 ∨ G120_4 + 2 ≤ G120_5 ∨ G120_7 < 256) : Tr l K 2 mX12_asked 0 [(0, (2, 120)), (1, (0, a1))] [] M0 (fun M' r => St Pm1 ws_X12_asked_120 as_X12_asked_120 M0 M' ∧ ∃ S120_3 S120_4 S120_5 S120_7 S120_8 S9010_0 : Int, rd M' 120 3 = S120_3 ∧ (0 ≤ S120_3 ∧ S120_3 ≤ 3) ∧ rd M' 120 4 = S120_4 ∧ (0 ≤ S120_4 ∧ S120_4 ≤ 900) ∧ rd M' 120 5 = S120_5 ∧ (0 ≤ S120_5 ∧ S120_5 ≤ 900) ∧ rd M' 120 7 = S120_7 ∧ ((-9223372036854775808) ≤ S120_7 ∧ S120_7 ≤ 9223372036854775807) ∧ rd M' 120 8 = S120_8 ∧ (0 ≤ S120_8 ∧ S120_8 ≤ 5) ∧ tav M' = S9010_0 ∧ ((-1) ≤ S9010_0 ∧ S9010_0 ≤ 1800) ∧ ∃ v : Int, r = some (0, v) ∧ (-1) ≤ v ∧ v ≤ 5 ∧ Hd (S120_3 = 0 ∨ S120_4 + 1 ≤ S120_5) ∧ (S120_4 ≤ S120_5) ∧ Hd (S120_3 ≠ 1 ∨ S120_4 + 2 ≤ S120_5 ∨ S120_7 < 256) ∧ (G120_4 ≤ S120_4 ∧ G120_5 ≤ S120_5 ∧ G9010_0 ≤ S9010_0) ∧ Hd (G120_8 = 0 ∨ S120_8 = G120_8) ∧ Hd (1 ≤ S120_8 ∨ G9010_0 < S9010_0) ∧ Hd (1 ≤ S120_8 ∨ (0 ≤ v ∧ v ≤ 5))) := by
  subst k120_3
  subst k120_4
  subst k120_5
  subst k120_7
  subst k120_8
  subst k9010_0
  refine Tr.imp (sp_X12_asked_120 hI en_120_37 a1 ha1 hq0 hq1 hq2) ?_
  rintro M' _ ⟨hS, v, rfl, lr, ur, z0, z1, z2, z3, z4, z5, z6⟩
  exact ⟨hS, _, _, _, _, _, _, rfl, ir_120_3 hS.1.2.1, rfl, ir_120_4 hS.1.2.1, rfl, ir_120_5 hS.1.2.1, rfl, ir_120_7 hS.1.2.1, rfl, ir_120_8 hS.1.2.1, rfl, (tav_b hS.1.2.1), v, rfl, lr, ur, hd_i z0, z1, hd_i z2, z3, hd_i z4, hd_i z5, hd_i z6⟩

def ws_X12_pushes_120 : List (Int × Int) := [(120, 43)]
def as_X12_pushes_120 : List Int := [145, 146, 147, 149]
def q_X12_pushes_120 (a1 : Int) (M0 M' : Mem) (r : Option PV) : Prop := St Pm1 ws_X12_pushes_120 as_X12_pushes_120 M0 M' ∧ r = none ∧ (rd M' 120 43 = rd M0 120 43 + 1) ∧ (n4v M' = n4v M0) ∧ (fr0 M' ≤ 1)
set_option maxRecDepth 100000 in
set_option maxHeartbeats 4000000 in
theorem sp_X12_pushes_120 {l : Launch} {K : EC} {M0 : Mem} (hI : In Pm1 M0)  (a1 : Int) (ha1 : 0 ≤ a1 ∧ a1 ≤ 5)  (hq0 : rd M0 120 43 ≤ 19) (hq1 : a1 ≠ 4) (hq2 : 1 ≤ rd M0 120 43 ∨ a1 ≤ 1) (hq3 : fr0 M0 ≤ 1 ∨ rd M0 120 43 = 0) : Tr l K 0 mX12_pushes 0 [(0, (2, 120)), (1, (0, a1))] [] M0 (q_X12_pushes_120 a1 M0) := by
  have hS : St Pm1 ws_X12_pushes_120 as_X12_pushes_120 M0 M0 := St.rf hI
  obtain ⟨g120_43, eg120_43⟩ : ∃ v, rd M0 120 43 = v := ⟨_, rfl⟩
  have bg120_43 : 0 ≤ g120_43 ∧ g120_43 ≤ 20 := by rw [← eg120_43]; exact ir_120_43 hI.2.1
  obtain ⟨g9002_0, eg9002_0⟩ : ∃ v, n4v M0 = v := ⟨_, rfl⟩
  have bg9002_0 : 0 ≤ g9002_0 ∧ g9002_0 ≤ 20 := by rw [← eg9002_0]; exact (n4v_b hI.2.1)
  obtain ⟨g9005_0, eg9005_0⟩ : ∃ v, fr0 M0 = v := ⟨_, rfl⟩
  have bg9005_0 : 0 ≤ g9005_0 ∧ g9005_0 ≤ 5 := by rw [← eg9005_0]; exact (fr0_b hI.2.1)
  obtain ⟨g120_46, eg120_46⟩ : ∃ v, rd M0 120 46 = v := ⟨_, rfl⟩
  have bg120_46 : 0 ≤ g120_46 ∧ g120_46 ≤ 500 := by rw [← eg120_46]; exact ir_120_46 hI.2.1
  replace hq1 := hd_i hq1
  replace hq2 := hd_i hq2
  replace hq3 := hd_i hq3
  refine Tr.aload_n (pc := 0) (i := 0) d_X12_pushes_0 rfl rfl ?_
  refine Tr.getf (pc := 1) d_X12_pushes_1 f_12_127 (by decide) (by decide) (ty_120 hS.1.1) ?_
  refine Tr.tp 145 (fx_120_38 hS.1.1) ?_
  refine Tr.aload_n (pc := 4) (i := 0) d_X12_pushes_4 rfl rfl ?_
  refine Tr.getf (pc := 5) d_X12_pushes_5 f_12_143 (by decide) (by decide) (ty_120 hS.1.1) ?_
  refine Tr.tp g120_43 eg120_43 ?_
  refine Tr.iload_n (pc := 8) (i := 1) d_X12_pushes_8 rfl rfl ?_
  refine Tr.iastS (pc := 9) (P := St Pm1 ws_X12_pushes_120 as_X12_pushes_120 M0) d_X12_pushes_9 (ty_145 hS.1.1) (by omega) (by omega) (sa_145 hS (by decide) (by and_intros <;> omega) (Pm1.of hS.1.2.2.2.2 (fun _ => rd_wb _ rfl) (fun _ => rd_wb _ rfl) (fun _ => rd_wb _ rfl) (fun _ => rd_wb _ rfl) (fun _ => rd_wb _ rfl) (fun _ => rd_wb _ rfl) (fun _ => rd_wb _ rfl) (fun _ => rd_wb _ rfl) (fun _ => rd_wb _ rfl) (fun _ => rd_wb _ rfl) (rd_wb _ rfl) (rd_wb _ rfl) (rd_wb _ rfl) (rd_wb _ rfl) (rd_wb _ rfl) (rd_wb _ rfl) (rd_wb _ rfl) (rd_wb _ rfl) (rd_wb _ rfl) (rd_wb _ rfl) (rd_wb _ rfl))) (fun M9 hS w9 => ?_)
  obtain ⟨v9_9005, ev9_9005⟩ : ∃ v, fr0 M9 = v := ⟨_, rfl⟩
  have bv9_9005 : 0 ≤ v9_9005 ∧ v9_9005 ≤ 5 := by rw [← ev9_9005]; exact (fr0_b hS.1.2.1)
  have fv9_9005 : (g120_43 = 0 ∧ v9_9005 = a1) ∨ (g120_43 ≠ 0 ∧ v9_9005 = g9005_0) := by have h8 := fr0_w w9; have h7 : fr0 M9 = v9_9005 := ev9_9005; have h6 := eg9005_0; omega
  replace fv9_9005 := hd_i fv9_9005
  refine Tr.aload_n (pc := 10) (i := 0) d_X12_pushes_10 rfl rfl ?_
  refine Tr.getf (pc := 11) d_X12_pushes_11 f_12_130 (by decide) (by decide) (ty_120 hS.1.1) ?_
  refine Tr.tp 146 (fx_120_39 hS.1.1) ?_
  refine Tr.aload_n (pc := 14) (i := 0) d_X12_pushes_14 rfl rfl ?_
  refine Tr.getf (pc := 15) d_X12_pushes_15 f_12_143 (by decide) (by decide) (ty_120 hS.1.1) ?_
  refine Tr.tp g120_43 ((Wr.b w9 rfl).trans eg120_43) ?_
  refine Tr.iconst (pc := 18) d_X12_pushes_18 (by decide) ?_
  refine Tr.iastS (pc := 19) (P := St Pm1 ws_X12_pushes_120 as_X12_pushes_120 M0) d_X12_pushes_19 (ty_146 hS.1.1) (by omega) (by omega) (sa_146 hS (by decide) (by omega) (Pm1.of hS.1.2.2.2.2 (fun _ => rd_wb _ rfl) (fun _ => rd_wb _ rfl) (fun _ => rd_wb _ rfl) (fun _ => rd_wb _ rfl) (fun _ => rd_wb _ rfl) (fun _ => rd_wb _ rfl) (fun _ => rd_wb _ rfl) (fun _ => rd_wb _ rfl) (fun _ => rd_wb _ rfl) (fun _ => rd_wb _ rfl) (rd_wb _ rfl) (rd_wb _ rfl) (rd_wb _ rfl) (rd_wb _ rfl) (rd_wb _ rfl) (rd_wb _ rfl) (rd_wb _ rfl) (rd_wb _ rfl) (rd_wb _ rfl) (rd_wb _ rfl) (rd_wb _ rfl))) (fun M19 hS w19 => ?_)
  refine Tr.aload_n (pc := 20) (i := 0) d_X12_pushes_20 rfl rfl ?_
  refine Tr.getf (pc := 21) d_X12_pushes_21 f_12_133 (by decide) (by decide) (ty_120 hS.1.1) ?_
  refine Tr.tp 147 (fx_120_40 hS.1.1) ?_
  refine Tr.aload_n (pc := 24) (i := 0) d_X12_pushes_24 rfl rfl ?_
  refine Tr.getf (pc := 25) d_X12_pushes_25 f_12_143 (by decide) (by decide) (ty_120 hS.1.1) ?_
  refine Tr.tp g120_43 ((Wr.b w19 rfl).trans ((Wr.b w9 rfl).trans eg120_43)) ?_
  refine Tr.iconst (pc := 28) d_X12_pushes_28 (by decide) ?_
  refine Tr.zastS (pc := 29) (P := St Pm1 ws_X12_pushes_120 as_X12_pushes_120 M0) d_X12_pushes_29 (ty_147 hS.1.1) (by omega) (by omega) (by omega) (sa_147 hS (by decide) (by omega) (Pm1.of hS.1.2.2.2.2 (fun _ => rd_wb _ rfl) (fun _ => rd_wb _ rfl) (fun _ => rd_wb _ rfl) (fun _ => rd_wb _ rfl) (fun _ => rd_wb _ rfl) (fun _ => rd_wb _ rfl) (fun _ => rd_wb _ rfl) (fun _ => rd_wb _ rfl) (fun _ => rd_wb _ rfl) (fun _ => rd_wb _ rfl) (rd_wb _ rfl) (rd_wb _ rfl) (rd_wb _ rfl) (rd_wb _ rfl) (rd_wb _ rfl) (rd_wb _ rfl) (rd_wb _ rfl) (rd_wb _ rfl) (rd_wb _ rfl) (rd_wb _ rfl) (rd_wb _ rfl))) (fun M29 hS w29 => ?_)
  refine Tr.aload_n (pc := 30) (i := 0) d_X12_pushes_30 rfl rfl ?_
  refine Tr.getf (pc := 31) d_X12_pushes_31 f_12_140 (by decide) (by decide) (ty_120 hS.1.1) ?_
  refine Tr.tp 149 (fx_120_42 hS.1.1) ?_
  refine Tr.aload_n (pc := 34) (i := 0) d_X12_pushes_34 rfl rfl ?_
  refine Tr.getf (pc := 35) d_X12_pushes_35 f_12_143 (by decide) (by decide) (ty_120 hS.1.1) ?_
  refine Tr.tp g120_43 ((Wr.b w29 rfl).trans ((Wr.b w19 rfl).trans ((Wr.b w9 rfl).trans eg120_43))) ?_
  refine Tr.aload_n (pc := 38) (i := 0) d_X12_pushes_38 rfl rfl ?_
  refine Tr.getf (pc := 39) d_X12_pushes_39 f_12_152 (by decide) (by decide) (ty_120 hS.1.1) ?_
  refine Tr.tp g120_46 ((Wr.b w29 rfl).trans ((Wr.b w19 rfl).trans ((Wr.b w9 rfl).trans eg120_46))) ?_
  refine Tr.iastS (pc := 42) (P := St Pm1 ws_X12_pushes_120 as_X12_pushes_120 M0) d_X12_pushes_42 (ty_149 hS.1.1) (by omega) (by omega) (sa_149 hS (by decide) (by and_intros <;> omega) (Pm1.of hS.1.2.2.2.2 (fun _ => rd_wb _ rfl) (fun _ => rd_wb _ rfl) (fun _ => rd_wb _ rfl) (fun _ => rd_wb _ rfl) (fun _ => rd_wb _ rfl) (fun _ => rd_wb _ rfl) (fun _ => rd_wb _ rfl) (fun _ => rd_wb _ rfl) (fun _ => rd_wb _ rfl) (fun _ => rd_wb _ rfl) (rd_wb _ rfl) (rd_wb _ rfl) (rd_wb _ rfl) (rd_wb _ rfl) (rd_wb _ rfl) (rd_wb _ rfl) (rd_wb _ rfl) (rd_wb _ rfl) (rd_wb _ rfl) (rd_wb _ rfl) (rd_wb _ rfl))) (fun M42 hS w42 => ?_)
  refine Tr.aload_n (pc := 43) (i := 0) d_X12_pushes_43 rfl rfl ?_
  refine Tr.dup (pc := 44) d_X12_pushes_44 ne21 ?_
  refine Tr.getf (pc := 45) d_X12_pushes_45 f_12_143 (by decide) (by decide) (ty_120 hS.1.1) ?_
  refine Tr.tp g120_43 ((Wr.b w42 rfl).trans ((Wr.b w29 rfl).trans ((Wr.b w19 rfl).trans ((Wr.b w9 rfl).trans eg120_43)))) ?_
  refine Tr.iconst (pc := 48) d_X12_pushes_48 (by decide) ?_
  refine Tr.iadd (pc := 49) d_X12_pushes_49 ?_
  refine Tr.tp (g120_43 + 1) ((w32_id (by and_intros <;> omega)).trans (by omega)) ?_
  refine Tr.putfS (pc := 50) (P := St Pm1 ws_X12_pushes_120 as_X12_pushes_120 M0) d_X12_pushes_50 f_12_143 (by decide) (by decide) (ty_120 hS.1.1) (st_120_43 hS (by decide) (by and_intros <;> omega) (Pm1.of hS.1.2.2.2.2 (fun _ => rd_wb _ rfl) (fun _ => rd_wb _ rfl) (fun _ => rd_wb _ rfl) (fun _ => rd_wb _ rfl) (fun _ => rd_wb _ rfl) (fun _ => rd_wb _ rfl) (fun _ => rd_wb _ rfl) (fun _ => rd_wb _ rfl) (fun _ => rd_wb _ rfl) (fun _ => rd_wb _ rfl) (rd_wb _ rfl) (rd_wb _ rfl) (rd_wb _ rfl) (rd_wb _ rfl) (rd_wb _ rfl) (rd_wb _ rfl) (rd_wb _ rfl) (rd_wb _ rfl) (rd_wb _ rfl) (rd_wb _ rfl) (rd_wb _ rfl))) (fun M50 hS w50 => ?_)
  obtain ⟨v50_9002, ev50_9002⟩ : ∃ v, n4v M50 = v := ⟨_, rfl⟩
  have bv50_9002 : 0 ≤ v50_9002 ∧ v50_9002 ≤ 20 := by rw [← ev50_9002]; exact (n4v_b hS.1.2.1)
  have fv50_9002 : v50_9002 = g9002_0 := by have h8 := ct_push (x := 145) (j := 43) (e := 4) (a := 1) (b := 0) (M := M0) (M2 := M50) (n := g120_43) (v := a1) eg120_43 (w50.1.trans (by omega)) ((Wr.b w50 rfl).trans ((Wr.b w42 rfl).trans ((Wr.b w29 rfl).trans ((Wr.b w19 rfl).trans w9.1)))) (fun i hi => (Wr.b w50 rfl).trans ((Wr.b w42 rfl).trans ((Wr.b w29 rfl).trans ((Wr.b w19 rfl).trans (w9.2 _ _ (fun c => hi c.2)))))) (by omega); have h7 : ctV 145 43 4 1 0 M50 = v50_9002 := ev50_9002; have h6 : ctV 145 43 4 1 0 M0 = g9002_0 := eg9002_0; have h5 := hd_o hq1; omega
  have kr_120_43 : rd M50 120 43 = (g120_43 + 1) := w50.1
  have kr_9002_0 : n4v M50 = v50_9002 := ev50_9002
  have kr_9005_0 : fr0 M50 = v9_9005 := ((fr0_of (fun j => ((Wr.b w50 rfl).trans ((Wr.b w42 rfl).trans ((Wr.b w29 rfl).trans ((Wr.b w19 rfl).trans rfl)))))).trans ev9_9005)
  exact Tr.vret (pc := 53) d_X12_pushes_53 rfl ⟨hS, rfl, (by omega), (by omega), (by exact (hd_o fv9_9005).elim (fun h1 => (hd_o hq2).elim (fun h2 => by omega) (fun h2 => by omega)) (fun h1 => (ne_o h1.1).elim (fun h2 => by omega) (fun h2 => (hd_o hq3).elim (fun h3 => by omega) (fun h3 => by omega))))⟩
