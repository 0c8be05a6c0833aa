/-! 40.09 -/
section
set_option maxRecDepth 100000 in
set_option maxHeartbeats 4000000 in
theorem ns_X12_input_120_w1 {l : Launch} {K : EC} {M0 : Mem} {G120_3 G120_4 G120_5 G120_7 G120_8 G9010_0 : Int} (hI : In Pm0 M0) (k120_3 : rd M0 120 3 = G120_3) (k120_4 : rd M0 120 4 = G120_4) (k120_5 : rd M0 120 5 = G120_5) (k120_7 : rd M0 120 7 = G120_7) (k120_8 : rd M0 120 8 = G120_8) (k9010_0 : tav M0 = G9010_0) (en_120_37 : rd M0 120 37 = 0)   (hq0 : G120_3 = 0 ∨ G120_4 + 1 ≤ G120_5) (hq1 : G120_4 ≤ G120_5) (hq2 : G120_3 ≠ 1 ∨ G120_4 + 2 ≤ G120_5 ∨ G120_7 < 256) (hq3 : G120_3 ≠ 0) (hq4 : G120_8 = 0) : Tr l K 3 mX12_input 0 [(0, (2, 120))] [] M0 (fun M' r => St Pm0 ws_X12_input_120_w1 as_X12_input_120_w1 M0 M' ∧ ∃ S120_3 S120_4 S120_5 S120_7 S120_8 S9010_0 : Int, rd M' 120 3 = S120_3 ∧ (0 ≤ S120_3 ∧ S120_3 ≤ 3) ∧ rd M' 120 4 = S120_4 ∧ (0 ≤ S120_4 ∧ S120_4 ≤ 900) ∧ rd M' 120 5 = S120_5 ∧ (0 ≤ S120_5 ∧ S120_5 ≤ 900) ∧ rd M' 120 7 = S120_7 ∧ ((-9223372036854775808) ≤ S120_7 ∧ S120_7 ≤ 9223372036854775807) ∧ rd M' 120 8 = S120_8 ∧ (0 ≤ S120_8 ∧ S120_8 ≤ 5) ∧ tav M' = S9010_0 ∧ ((-1) ≤ S9010_0 ∧ S9010_0 ≤ 1800) ∧ r = none ∧ Hd (S120_3 = 0 ∨ S120_4 + 1 ≤ S120_5) ∧ (S120_4 ≤ S120_5) ∧ Hd (S120_3 ≠ 1 ∨ S120_4 + 2 ≤ S120_5 ∨ S120_7 < 256) ∧ (G120_4 ≤ S120_4 ∧ G120_5 ≤ S120_5 ∧ G9010_0 ≤ S9010_0) ∧ Hd (G120_8 = 0 ∨ S120_8 = G120_8) ∧ Hd (1 ≤ S120_8 ∨ G9010_0 < S9010_0)) := by
  subst k120_3
  subst k120_4
  subst k120_5
  subst k120_7
  subst k120_8
  subst k9010_0
  refine Tr.imp (sp_X12_input_120_w1 hI en_120_37 hq0 hq1 hq2 hq3 hq4) ?_
  rintro M' _ ⟨hS, rfl, z0, z1, z2, z3, z4, z5⟩
  exact ⟨hS, _, _, _, _, _, _, rfl, ir_120_3 hS.1.2.1, rfl, ir_120_4 hS.1.2.1, rfl, ir_120_5 hS.1.2.1, rfl, ir_120_7 hS.1.2.1, rfl, ir_120_8 hS.1.2.1, rfl, (tav_b hS.1.2.1), rfl, hd_i z0, z1, hd_i z2, z3, hd_i z4, hd_i z5⟩

def ws_X12_must__120_w3 : List (Int × Int) := [(120, 3), (120, 4), (120, 5), (120, 6), (120, 7), (120, 8), (120, 9)]
def as_X12_must__120_w3 : List Int := []
def q_X12_must__120_w3 (a1 : Int) (M0 M' : Mem) (r : Option PV) : Prop := St Pm0 ws_X12_must__120_w3 as_X12_must__120_w3 M0 M' ∧ r = none ∧ (rd M' 120 3 = 0 ∨ rd M' 120 4 + 1 ≤ rd M' 120 5) ∧ (rd M' 120 4 ≤ rd M' 120 5) ∧ (rd M' 120 3 ≠ 1 ∨ rd M' 120 4 + 2 ≤ rd M' 120 5 ∨ rd M' 120 7 < 256) ∧ (rd M0 120 4 ≤ rd M' 120 4 ∧ rd M0 120 5 ≤ rd M' 120 5 ∧ tav M0 ≤ tav M') ∧ (rd M0 120 8 = 0 ∨ rd M' 120 8 = rd M0 120 8) ∧ (1 ≤ rd M' 120 8 ∨ tav M0 < tav M')
set_option maxRecDepth 100000 in
set_option maxHeartbeats 4000000 in
theorem sp_X12_must__120_w3 {l : Launch} {K : EC} {M0 : Mem} (hI : In Pm0 M0)  (a1 : Int) (ha1 : 2147483647 ≤ a1 ∧ a1 ≤ 9223372036854775807)  (hq0 : rd M0 120 3 = 0 ∨ rd M0 120 4 + 1 ≤ rd M0 120 5) (hq1 : rd M0 120 4 ≤ rd M0 120 5) (hq2 : rd M0 120 3 ≠ 1 ∨ rd M0 120 4 + 2 ≤ rd M0 120 5 ∨ rd M0 120 7 < 256) : Tr l K 2 mX12_must_ 0 [(0, (2, 120)), (1, (1, a1))] [] M0 (q_X12_must__120_w3 a1 M0) := by
  have hS : St Pm0 ws_X12_must__120_w3 as_X12_must__120_w3 M0 M0 := St.rf hI
  obtain ⟨g120_8, eg120_8⟩ : ∃ v, rd M0 120 8 = v := ⟨_, rfl⟩
  have bg120_8 : 0 ≤ g120_8 ∧ g120_8 ≤ 5 := by rw [← eg120_8]; exact ir_120_8 hI.2.1
  obtain ⟨g120_3, eg120_3⟩ : ∃ v, rd M0 120 3 = v := ⟨_, rfl⟩
  have bg120_3 : 0 ≤ g120_3 ∧ g120_3 ≤ 3 := by rw [← eg120_3]; exact ir_120_3 hI.2.1
  obtain ⟨g120_4, eg120_4⟩ : ∃ v, rd M0 120 4 = v := ⟨_, rfl⟩
  have bg120_4 : 0 ≤ g120_4 ∧ g120_4 ≤ 900 := by rw [← eg120_4]; exact ir_120_4 hI.2.1
  obtain ⟨g120_5, eg120_5⟩ : ∃ v, rd M0 120 5 = v := ⟨_, rfl⟩
  have bg120_5 : 0 ≤ g120_5 ∧ g120_5 ≤ 900 := by rw [← eg120_5]; exact ir_120_5 hI.2.1
  obtain ⟨g120_7, eg120_7⟩ : ∃ v, rd M0 120 7 = v := ⟨_, rfl⟩
  have bg120_7 : (-9223372036854775808) ≤ g120_7 ∧ g120_7 ≤ 9223372036854775807 := by rw [← eg120_7]; exact ir_120_7 hI.2.1
  obtain ⟨g9010_0, eg9010_0⟩ : ∃ v, tav M0 = v := ⟨_, rfl⟩
  have bg9010_0 : (-1) ≤ g9010_0 ∧ g9010_0 ≤ 1800 := by rw [← eg9010_0]; exact (tav_b hI.2.1)
  replace hq0 := hd_i hq0
  replace hq2 := hd_i hq2
  refine Tr.aload_n (pc := 0) (i := 0) d_X12_must__0 rfl rfl ?_
  refine Tr.getf (pc := 1) d_X12_must__1 f_12_36 (by decide) (by decide) (ty_120 hS.1.1) ?_
  refine Tr.tp g120_8 eg120_8 ?_
  refine Tr.if_le (pc := 4) (tgt := 8) d_X12_must__4 rfl (fun c4 => ?_) (fun c4 => ?_)
  · refine Tr.aload_n (pc := 8) (i := 0) d_X12_must__8 rfl rfl ?_
    refine Tr.lload_n (pc := 9) (i := 1) d_X12_must__9 rfl rfl ?_
    refine Tr.callV (pc := 10) (as := [_]) d_X12_must__10 s_12_484 ok_X12_isWord rfl rfl (Nat.le_of_ble_eq_true rfl) (Nat.le_of_ble_eq_true rfl) (by decide) (ty_120 hS.1.1) ?_
    refine Tr.imp (Tr.deep (by decide) (ns_X12_isWord_120 (G120_3 := g120_3) (G120_7 := g120_7) hS.1.wk (eg120_3) (eg120_7) a1 (by omega))) ?_
    rintro M10 _ ⟨h10, r10, rfl, lr10, ur10, z10_0⟩
    have h10 := St.rn h10 (Pm0.of hS.1.2.2.2.2 (fun _ => (ka_X12_isWord_120_131 h10 _)) (fun _ => (ka_X12_isWord_120_137 h10 _)) (fun _ => (ka_X12_isWord_120_138 h10 _)) (fun _ => (ka_X12_isWord_120_139 h10 _)) (fun _ => (ka_X12_isWord_120_140 h10 _)) (fun _ => (ka_X12_isWord_120_141 h10 _)) (fun _ => (ka_X12_isWord_120_142 h10 _)) (fun _ => (ka_X12_isWord_120_143 h10 _)) (fun _ => (ka_X12_isWord_120_151 h10 _)) (fun _ => (ka_X12_isWord_120_152 h10 _)) (kp_X12_isWord_120_126_0 h10) (kp_X12_isWord_120_126_1 h10) (kp_X12_isWord_120_136_0 h10) (kp_X12_isWord_120_136_1 h10) (kp_X12_isWord_120_123_0 h10) (kp_X12_isWord_120_123_1 h10) (kp_X12_isWord_120_124_0 h10) (kp_X12_isWord_120_124_1 h10) (kp_X12_isWord_120_120_8 h10) (kp_X12_isWord_120_120_36 h10) (kp_X12_isWord_120_120_50 h10))
    have hS := St.tr hS h10 (by decide) (by decide)
    refine Tr.sc [(0, r10)] rfl ?_
    have J25 : ∀ (M : Mem) (u25_120_8 : Int), St Pm0 ws_X12_must__120_w3 as_X12_must__120_w3 M0 M → (0 ≤ u25_120_8 ∧ u25_120_8 ≤ 5) → rd M 120 3 = g120_3 → rd M 120 4 = g120_4 → rd M 120 5 = g120_5 → rd M 120 7 = g120_7 → rd M 120 8 = u25_120_8 → tav M = g9010_0 → (u25_120_8 ≠ 0 ∨ g120_3 ≠ 0) → (g120_8 = 0 ∨ u25_120_8 = g120_8) → Tr l K 2 mX12_must_ 25 [(0, (2, 120))] [] M (q_X12_must__120_w3 a1 M0) := by
      intro M u25_120_8 hS bu25_120_8 k25_120_3 k25_120_4 k25_120_5 k25_120_7 k25_120_8 k25_9010_0 t25_0 t25_1
      replace t25_0 := hd_i t25_0
      replace t25_1 := hd_i t25_1
      refine Tr.aload_n (pc := 25) (i := 0) d_X12_must__25 rfl rfl ?_
      refine Tr.getf (pc := 26) d_X12_must__26 f_12_36 (by decide) (by decide) (ty_120 hS.1.1) ?_
      refine Tr.tp u25_120_8 k25_120_8 ?_
      refine Tr.if_ne (pc := 29) (tgt := 36) d_X12_must__29 rfl (fun c29 => ?_) (fun c29 => ?_)
      · have c29b : 1 ≤ u25_120_8 ∧ u25_120_8 ≤ 5 := by omega
        replace c29 := hd_i c29
        have kr_120_3 : rd M 120 3 = g120_3 := k25_120_3
        have kr_120_4 : rd M 120 4 = g120_4 := k25_120_4
        have kr_120_5 : rd M 120 5 = g120_5 := k25_120_5
        have kr_120_7 : rd M 120 7 = g120_7 := k25_120_7
        have kr_120_8 : rd M 120 8 = u25_120_8 := k25_120_8
        have kr_9010_0 : tav M = g9010_0 := k25_9010_0
        exact Tr.vret (pc := 36) d_X12_must__36 rfl ⟨hS, rfl, (by first | exact (hd_o hq0) | exact (hd_o hq0).elim (fun h1 => by omega) (fun h1 => by omega)), (by omega), (by first | exact (hd_o hq2) | exact (hd_o hq2).elim (fun h1 => by omega) (fun h1 => h1.elim (fun h1 => by omega) (fun h1 => by omega))), (by and_intros <;> omega), (by first | exact (hd_o t25_1) | exact (hd_o t25_1).elim (fun h1 => by omega) (fun h1 => by omega)), (by omega)⟩
      · refine Tr.aload_n (pc := 32) (i := 0) d_X12_must__32 rfl rfl ?_
        refine Tr.callV (pc := 33) (as := []) d_X12_must__33 s_12_396 ok_X12_next rfl rfl (Nat.le_of_ble_eq_true rfl) (Nat.le_of_ble_eq_true rfl) (by decide) (ty_120 hS.1.1) ?_
        refine Tr.imp (Tr.deep (by decide) (ns_X12_next_120_w1 (G120_3 := g120_3) (G120_5 := g120_5) (G120_8 := u25_120_8) (G9010_0 := g9010_0) hS.1 (k25_120_3) (k25_120_5) (k25_120_8) (k25_9010_0))) ?_
        rintro M33 _ ⟨h33, s33_120_3, s33_120_4, s33_120_5, s33_120_7, s33_120_8, s33_9010_0, es33_120_3, bs33_120_3, es33_120_4, bs33_120_4, es33_120_5, bs33_120_5, es33_120_7, bs33_120_7, es33_120_8, bs33_120_8, es33_9010_0, bs33_9010_0, rfl, z33_0, z33_1, z33_2, z33_3, z33_4, z33_5, z33_6⟩
        have hS := St.tr hS h33 (by decide) (by decide)
        refine Tr.sc [] rfl ?_
        have kr_120_3 : rd M33 120 3 = s33_120_3 := es33_120_3
        have kr_120_4 : rd M33 120 4 = s33_120_4 := es33_120_4
        have kr_120_5 : rd M33 120 5 = s33_120_5 := es33_120_5
        have kr_120_7 : rd M33 120 7 = s33_120_7 := es33_120_7
        have kr_120_8 : rd M33 120 8 = s33_120_8 := es33_120_8
        have kr_9010_0 : tav M33 = s33_9010_0 := es33_9010_0
        exact Tr.vret (pc := 36) d_X12_must__36 rfl ⟨hS, rfl, (by first | exact (hd_o z33_0) | exact (hd_o z33_0).elim (fun h1 => by omega) (fun h1 => by omega)), (by omega), (by first | exact (hd_o z33_2) | exact (hd_o z33_2).elim (fun h1 => by omega) (fun h1 => h1.elim (fun h1 => by omega) (fun h1 => by omega))), (by and_intros <;> omega), (by omega), (by exact (hd_o t25_0).elim (fun h1 => (ne_o h1).elim (fun h2 => by omega) (fun h2 => by omega)) (fun h1 => (ne_o h1).elim (fun h2 => by omega) (fun h2 => (hd_o z33_5).elim (fun h3 => by omega) (fun h3 => by omega))))⟩
    refine Tr.if_ne (pc := 13) (tgt := 25) d_X12_must__13 rfl (fun c13 => ?_) (fun c13 => ?_)
    · have c13b : 1 ≤ r10 ∧ r10 ≤ 1 := by omega
      replace c13 := hd_i c13
      refine Tr.pick [0] (ls2 := [(0, (2, 120))]) rfl ?_
      exact J25 _ _ hS (by and_intros <;> omega) ((kp_X12_isWord_120_120_3 h10).trans eg120_3) ((kp_X12_isWord_120_120_4 h10).trans eg120_4) ((kp_X12_isWord_120_120_5 h10).trans eg120_5) ((kp_X12_isWord_120_120_7 h10).trans eg120_7) ((kp_X12_isWord_120_120_8 h10).trans eg120_8) ((tav_of ((kp_X12_isWord_120_120_5 h10).trans rfl) ((kp_X12_isWord_120_120_3 h10).trans rfl)).trans eg9010_0) (by exact (hd_o z10_0).elim (fun h1 => by omega) (fun h1 => by omega)) (by omega)
    · refine Tr.aload_n (pc := 16) (i := 0) d_X12_must__16 rfl rfl ?_
      refine Tr.iconst (pc := 17) d_X12_must__17 (by decide) ?_
      refine Tr.aload_n (pc := 18) (i := 0) d_X12_must__18 rfl rfl ?_
      refine Tr.getf (pc := 19) d_X12_must__19 f_12_23 (by decide) (by decide) (ty_120 hS.1.1) ?_
      refine Tr.tp g120_4 ((kp_X12_isWord_120_120_4 h10).trans eg120_4) ?_
      refine Tr.callV (pc := 22) (as := [_, _]) d_X12_must__22 s_12_389 ok_X12_blame rfl rfl (Nat.le_of_ble_eq_true rfl) (Nat.le_of_ble_eq_true rfl) (by decide) (ty_120 hS.1.1) ?_
      refine Tr.imp (Tr.deep (by decide) (ns_X12_blame_120_w1 (G120_8 := g120_8) hS.1 (((kp_X12_isWord_120_120_8 h10).trans eg120_8)) 1 (by omega) g120_4 (by and_intros <;> omega))) ?_
      rintro M22 _ ⟨h22, s22_120_8, es22_120_8, bs22_120_8, rfl, z22_0⟩
      have hS := St.tr hS h22 (by decide) (by decide)
      refine Tr.sc [] rfl ?_
      refine Tr.pick [0] (ls2 := [(0, (2, 120))]) rfl ?_
      exact J25 _ _ hS (by and_intros <;> omega) ((kp_X12_blame_120_w1_120_3 h22).trans ((kp_X12_isWord_120_120_3 h10).trans eg120_3)) ((kp_X12_blame_120_w1_120_4 h22).trans ((kp_X12_isWord_120_120_4 h10).trans eg120_4)) ((kp_X12_blame_120_w1_120_5 h22).trans ((kp_X12_isWord_120_120_5 h10).trans eg120_5)) ((kp_X12_blame_120_w1_120_7 h22).trans ((kp_X12_isWord_120_120_7 h10).trans eg120_7)) es22_120_8 ((tav_of ((kp_X12_blame_120_w1_120_5 h22).trans ((kp_X12_isWord_120_120_5 h10).trans rfl)) ((kp_X12_blame_120_w1_120_3 h22).trans ((kp_X12_isWord_120_120_3 h10).trans rfl))).trans eg9010_0) (by exact (hd_o z22_0).elim (fun h1 => by omega) (fun h1 => by omega)) (by omega)
  · have kr_120_3 : rd M0 120 3 = g120_3 := eg120_3
    have kr_120_4 : rd M0 120 4 = g120_4 := eg120_4
    have kr_120_5 : rd M0 120 5 = g120_5 := eg120_5
    have kr_120_7 : rd M0 120 7 = g120_7 := eg120_7
    have kr_120_8 : rd M0 120 8 = g120_8 := eg120_8
    have kr_9010_0 : tav M0 = g9010_0 := eg9010_0
    exact Tr.vret (pc := 7) d_X12_must__7 rfl ⟨hS, rfl, (by first | exact (hd_o hq0) | exact (hd_o hq0).elim (fun h1 => by omega) (fun h1 => by omega)), (by omega), (by first | exact (hd_o hq2) | exact (hd_o hq2).elim (fun h1 => by omega) (fun h1 => h1.elim (fun h1 => by omega) (fun h1 => by omega))), (by and_intros <;> omega), (by omega), (by omega)⟩

set_option maxRecDepth 100000 in
set_option maxHeartbeats 4000000 in
theorem ns_X12_must__120_w3 {l : Launch} {K : EC} {M0 : Mem} {G120_3 G120_4 G120_5 G120_7 G120_8 G9010_0 : Int} (hI : In Pm0 M0) (k120_3 : rd M0 120 3 = G120_3) (k120_4 : rd M0 120 4 = G120_4) (k120_5 : rd M0 120 5 = G120_5) (k120_7 : rd M0 120 7 = G120_7) (k120_8 : rd M0 120 8 = G120_8) (k9010_0 : tav M0 = G9010_0)  (a1 : Int) (ha1 : 2147483647 ≤ a1 ∧ a1 ≤ 9223372036854775807)  (hq0 : G120_3 = 0 ∨ G120_4 + 1 ≤ G120_5) (hq1 : G120_4 ≤ G120_5) (hq2 : G120_3 ≠ 1 ∨ G120_4 + 2 ≤ G120_5 ∨ G120_7 < 256) : Tr l K 2 mX12_must_ 0 [(0, (2, 120)), (1, (1, a1))] [] M0 (fun M' r => St Pm0 ws_X12_must__120_w3 as_X12_must__120_w3 M0 M' ∧ ∃ S120_3 S120_4 S120_5 S120_7 S120_8 S9010_0 : Int, rd M' 120 3 = S120_3 ∧ (0 ≤ S120_3 ∧ S120_3 ≤ 3) ∧ rd M' 120 4 = S120_4 ∧ (0 ≤ S120_4 ∧ S120_4 ≤ 900) ∧ rd M' 120 5 = S120_5 ∧ (0 ≤ S120_5 ∧ S120_5 ≤ 900) ∧ rd M' 120 7 = S120_7 ∧ ((-9223372036854775808) ≤ S120_7 ∧ S120_7 ≤ 9223372036854775807) ∧ rd M' 120 8 = S120_8 ∧ (0 ≤ S120_8 ∧ S120_8 ≤ 5) ∧ tav M' = S9010_0 ∧ ((-1) ≤ S9010_0 ∧ S9010_0 ≤ 1800) ∧ r = none ∧ Hd (S120_3 = 0 ∨ S120_4 + 1 ≤ S120_5) ∧ (S120_4 ≤ S120_5) ∧ Hd (S120_3 ≠ 1 ∨ S120_4 + 2 ≤ S120_5 ∨ S120_7 < 256) ∧ (G120_4 ≤ S120_4 ∧ G120_5 ≤ S120_5 ∧ G9010_0 ≤ S9010_0) ∧ Hd (G120_8 = 0 ∨ S120_8 = G120_8) ∧ Hd (1 ≤ S120_8 ∨ G9010_0 < S9010_0)) := by
  subst k120_3
  subst k120_4
  subst k120_5
  subst k120_7
  subst k120_8
  subst k9010_0
  refine Tr.imp (sp_X12_must__120_w3 hI a1 ha1 hq0 hq1 hq2) ?_
  rintro M' _ ⟨hS, rfl, z0, z1, z2, z3, z4, z5⟩
  exact ⟨hS, _, _, _, _, _, _, rfl, ir_120_3 hS.1.2.1, rfl, ir_120_4 hS.1.2.1, rfl, ir_120_5 hS.1.2.1, rfl, ir_120_7 hS.1.2.1, rfl, ir_120_8 hS.1.2.1, rfl, (tav_b hS.1.2.1), rfl, hd_i z0, z1, hd_i z2, z3, hd_i z4, hd_i z5⟩

def ws_X12_must__120_w4 : List (Int × Int) := [(120, 3), (120, 4), (120, 5), (120, 6), (120, 7), (120, 8), (120, 9)]
def as_X12_must__120_w4 : List Int := []
def q_X12_must__120_w4 (a1 : Int) (M0 M' : Mem) (r : Option PV) : Prop := St Pm0 ws_X12_must__120_w4 as_X12_must__120_w4 M0 M' ∧ r = none ∧ (rd M' 120 3 = 0 ∨ rd M' 120 4 + 1 ≤ rd M' 120 5) ∧ (rd M' 120 4 ≤ rd M' 120 5) ∧ (rd M' 120 3 ≠ 1 ∨ rd M' 120 4 + 2 ≤ rd M' 120 5 ∨ rd M' 120 7 < 256) ∧ (rd M0 120 4 ≤ rd M' 120 4 ∧ rd M0 120 5 ≤ rd M' 120 5 ∧ tav M0 ≤ tav M') ∧ (rd M0 120 8 = 0 ∨ rd M' 120 8 = rd M0 120 8) ∧ (1 ≤ rd M' 120 8 ∨ tav M0 < tav M')
set_option maxRecDepth 100000 in
set_option maxHeartbeats 4000000 in
theorem sp_X12_must__120_w4 {l : Launch} {K : EC} {M0 : Mem} (hI : In Pm0 M0)  (a1 : Int) (ha1 : 1000000000 ≤ a1 ∧ a1 ≤ 2147483647)  (hq0 : rd M0 120 3 = 0 ∨ rd M0 120 4 + 1 ≤ rd M0 120 5) (hq1 : rd M0 120 4 ≤ rd M0 120 5) (hq2 : rd M0 120 3 ≠ 1 ∨ rd M0 120 4 + 2 ≤ rd M0 120 5 ∨ rd M0 120 7 < 256) : Tr l K 2 mX12_must_ 0 [(0, (2, 120)), (1, (1, a1))] [] M0 (q_X12_must__120_w4 a1 M0) := by
  have hS : St Pm0 ws_X12_must__120_w4 as_X12_must__120_w4 M0 M0 := St.rf hI
  obtain ⟨g120_8, eg120_8⟩ : ∃ v, rd M0 120 8 = v := ⟨_, rfl⟩
  have bg120_8 : 0 ≤ g120_8 ∧ g120_8 ≤ 5 := by rw [← eg120_8]; exact ir_120_8 hI.2.1
  obtain ⟨g120_3, eg120_3⟩ : ∃ v, rd M0 120 3 = v := ⟨_, rfl⟩
  have bg120_3 : 0 ≤ g120_3 ∧ g120_3 ≤ 3 := by rw [← eg120_3]; exact ir_120_3 hI.2.1
  obtain ⟨g120_4, eg120_4⟩ : ∃ v, rd M0 120 4 = v := ⟨_, rfl⟩
  have bg120_4 : 0 ≤ g120_4 ∧ g120_4 ≤ 900 := by rw [← eg120_4]; exact ir_120_4 hI.2.1
  obtain ⟨g120_5, eg120_5⟩ : ∃ v, rd M0 120 5 = v := ⟨_, rfl⟩
  have bg120_5 : 0 ≤ g120_5 ∧ g120_5 ≤ 900 := by rw [← eg120_5]; exact ir_120_5 hI.2.1
  obtain ⟨g120_7, eg120_7⟩ : ∃ v, rd M0 120 7 = v := ⟨_, rfl⟩
  have bg120_7 : (-9223372036854775808) ≤ g120_7 ∧ g120_7 ≤ 9223372036854775807 := by rw [← eg120_7]; exact ir_120_7 hI.2.1
  obtain ⟨g9010_0, eg9010_0⟩ : ∃ v, tav M0 = v := ⟨_, rfl⟩
  have bg9010_0 : (-1) ≤ g9010_0 ∧ g9010_0 ≤ 1800 := by rw [← eg9010_0]; exact (tav_b hI.2.1)
  replace hq0 := hd_i hq0
  replace hq2 := hd_i hq2
  refine Tr.aload_n (pc := 0) (i := 0) d_X12_must__0 rfl rfl ?_
  refine Tr.getf (pc := 1) d_X12_must__1 f_12_36 (by decide) (by decide) (ty_120 hS.1.1) ?_
  refine Tr.tp g120_8 eg120_8 ?_
  refine Tr.if_le (pc := 4) (tgt := 8) d_X12_must__4 rfl (fun c4 => ?_) (fun c4 => ?_)
  · refine Tr.aload_n (pc := 8) (i := 0) d_X12_must__8 rfl rfl ?_
    refine Tr.lload_n (pc := 9) (i := 1) d_X12_must__9 rfl rfl ?_
    refine Tr.callV (pc := 10) (as := [_]) d_X12_must__10 s_12_484 ok_X12_isWord rfl rfl (Nat.le_of_ble_eq_true rfl) (Nat.le_of_ble_eq_true rfl) (by decide) (ty_120 hS.1.1) ?_
    refine Tr.imp (Tr.deep (by decide) (ns_X12_isWord_120 (G120_3 := g120_3) (G120_7 := g120_7) hS.1.wk (eg120_3) (eg120_7) a1 (by omega))) ?_
    rintro M10 _ ⟨h10, r10, rfl, lr10, ur10, z10_0⟩
    have h10 := St.rn h10 (Pm0.of hS.1.2.2.2.2 (fun _ => (ka_X12_isWord_120_131 h10 _)) (fun _ => (ka_X12_isWord_120_137 h10 _)) (fun _ => (ka_X12_isWord_120_138 h10 _)) (fun _ => (ka_X12_isWord_120_139 h10 _)) (fun _ => (ka_X12_isWord_120_140 h10 _)) (fun _ => (ka_X12_isWord_120_141 h10 _)) (fun _ => (ka_X12_isWord_120_142 h10 _)) (fun _ => (ka_X12_isWord_120_143 h10 _)) (fun _ => (ka_X12_isWord_120_151 h10 _)) (fun _ => (ka_X12_isWord_120_152 h10 _)) (kp_X12_isWord_120_126_0 h10) (kp_X12_isWord_120_126_1 h10) (kp_X12_isWord_120_136_0 h10) (kp_X12_isWord_120_136_1 h10) (kp_X12_isWord_120_123_0 h10) (kp_X12_isWord_120_123_1 h10) (kp_X12_isWord_120_124_0 h10) (kp_X12_isWord_120_124_1 h10) (kp_X12_isWord_120_120_8 h10) (kp_X12_isWord_120_120_36 h10) (kp_X12_isWord_120_120_50 h10))
    have hS := St.tr hS h10 (by decide) (by decide)
    refine Tr.sc [(0, r10)] rfl ?_
    have J25 : ∀ (M : Mem) (u25_120_8 : Int), St Pm0 ws_X12_must__120_w4 as_X12_must__120_w4 M0 M → (0 ≤ u25_120_8 ∧ u25_120_8 ≤ 5) → rd M 120 3 = g120_3 → rd M 120 4 = g120_4 → rd M 120 5 = g120_5 → rd M 120 7 = g120_7 → rd M 120 8 = u25_120_8 → tav M = g9010_0 → (u25_120_8 ≠ 0 ∨ g120_3 ≠ 0) → (g120_8 = 0 ∨ u25_120_8 = g120_8) → Tr l K 2 mX12_must_ 25 [(0, (2, 120))] [] M (q_X12_must__120_w4 a1 M0) := by
      intro M u25_120_8 hS bu25_120_8 k25_120_3 k25_120_4 k25_120_5 k25_120_7 k25_120_8 k25_9010_0 t25_0 t25_1
      replace t25_0 := hd_i t25_0
      replace t25_1 := hd_i t25_1
      refine Tr.aload_n (pc := 25) (i := 0) d_X12_must__25 rfl rfl ?_
      refine Tr.getf (pc := 26) d_X12_must__26 f_12_36 (by decide) (by decide) (ty_120 hS.1.1) ?_
      refine Tr.tp u25_120_8 k25_120_8 ?_
      refine Tr.if_ne (pc := 29) (tgt := 36) d_X12_must__29 rfl (fun c29 => ?_) (fun c29 => ?_)
      · have c29b : 1 ≤ u25_120_8 ∧ u25_120_8 ≤ 5 := by omega
        replace c29 := hd_i c29
        have kr_120_3 : rd M 120 3 = g120_3 := k25_120_3
        have kr_120_4 : rd M 120 4 = g120_4 := k25_120_4
        have kr_120_5 : rd M 120 5 = g120_5 := k25_120_5
        have kr_120_7 : rd M 120 7 = g120_7 := k25_120_7
        have kr_120_8 : rd M 120 8 = u25_120_8 := k25_120_8
        have kr_9010_0 : tav M = g9010_0 := k25_9010_0
        exact Tr.vret (pc := 36) d_X12_must__36 rfl ⟨hS, rfl, (by first | exact (hd_o hq0) | exact (hd_o hq0).elim (fun h1 => by omega) (fun h1 => by omega)), (by omega), (by first | exact (hd_o hq2) | exact (hd_o hq2).elim (fun h1 => by omega) (fun h1 => h1.elim (fun h1 => by omega) (fun h1 => by omega))), (by and_intros <;> omega), (by first | exact (hd_o t25_1) | exact (hd_o t25_1).elim (fun h1 => by omega) (fun h1 => by omega)), (by omega)⟩
      · refine Tr.aload_n (pc := 32) (i := 0) d_X12_must__32 rfl rfl ?_
        refine Tr.callV (pc := 33) (as := []) d_X12_must__33 s_12_396 ok_X12_next rfl rfl (Nat.le_of_ble_eq_true rfl) (Nat.le_of_ble_eq_true rfl) (by decide) (ty_120 hS.1.1) ?_
        refine Tr.imp (Tr.deep (by decide) (ns_X12_next_120_w1 (G120_3 := g120_3) (G120_5 := g120_5) (G120_8 := u25_120_8) (G9010_0 := g9010_0) hS.1 (k25_120_3) (k25_120_5) (k25_120_8) (k25_9010_0))) ?_
        rintro M33 _ ⟨h33, s33_120_3, s33_120_4, s33_120_5, s33_120_7, s33_120_8, s33_9010_0, es33_120_3, bs33_120_3, es33_120_4, bs33_120_4, es33_120_5, bs33_120_5, es33_120_7, bs33_120_7, es33_120_8, bs33_120_8, es33_9010_0, bs33_9010_0, rfl, z33_0, z33_1, z33_2, z33_3, z33_4, z33_5, z33_6⟩
        have hS := St.tr hS h33 (by decide) (by decide)
        refine Tr.sc [] rfl ?_
        have kr_120_3 : rd M33 120 3 = s33_120_3 := es33_120_3
        have kr_120_4 : rd M33 120 4 = s33_120_4 := es33_120_4
        have kr_120_5 : rd M33 120 5 = s33_120_5 := es33_120_5
        have kr_120_7 : rd M33 120 7 = s33_120_7 := es33_120_7
        have kr_120_8 : rd M33 120 8 = s33_120_8 := es33_120_8
        have kr_9010_0 : tav M33 = s33_9010_0 := es33_9010_0
        exact Tr.vret (pc := 36) d_X12_must__36 rfl ⟨hS, rfl, (by first | exact (hd_o z33_0) | exact (hd_o z33_0).elim (fun h1 => by omega) (fun h1 => by omega)), (by omega), (by first | exact (hd_o z33_2) | exact (hd_o z33_2).elim (fun h1 => by omega) (fun h1 => h1.elim (fun h1 => by omega) (fun h1 => by omega))), (by and_intros <;> omega), (by omega), (by exact (hd_o t25_0).elim (fun h1 => (ne_o h1).elim (fun h2 => by omega) (fun h2 => by omega)) (fun h1 => (ne_o h1).elim (fun h2 => by omega) (fun h2 => (hd_o z33_5).elim (fun h3 => by omega) (fun h3 => by omega))))⟩
    refine Tr.if_ne (pc := 13) (tgt := 25) d_X12_must__13 rfl (fun c13 => ?_) (fun c13 => ?_)
    · have c13b : 1 ≤ r10 ∧ r10 ≤ 1 := by omega
      replace c13 := hd_i c13
      refine Tr.pick [0] (ls2 := [(0, (2, 120))]) rfl ?_
      exact J25 _ _ hS (by and_intros <;> omega) ((kp_X12_isWord_120_120_3 h10).trans eg120_3) ((kp_X12_isWord_120_120_4 h10).trans eg120_4) ((kp_X12_isWord_120_120_5 h10).trans eg120_5) ((kp_X12_isWord_120_120_7 h10).trans eg120_7) ((kp_X12_isWord_120_120_8 h10).trans eg120_8) ((tav_of ((kp_X12_isWord_120_120_5 h10).trans rfl) ((kp_X12_isWord_120_120_3 h10).trans rfl)).trans eg9010_0) (by exact (hd_o z10_0).elim (fun h1 => by omega) (fun h1 => by omega)) (by omega)
    · refine Tr.aload_n (pc := 16) (i := 0) d_X12_must__16 rfl rfl ?_
      refine Tr.iconst (pc := 17) d_X12_must__17 (by decide) ?_
      refine Tr.aload_n (pc := 18) (i := 0) d_X12_must__18 rfl rfl ?_
      refine Tr.getf (pc := 19) d_X12_must__19 f_12_23 (by decide) (by decide) (ty_120 hS.1.1) ?_
      refine Tr.tp g120_4 ((kp_X12_isWord_120_120_4 h10).trans eg120_4) ?_
      refine Tr.callV (pc := 22) (as := [_, _]) d_X12_must__22 s_12_389 ok_X12_blame rfl rfl (Nat.le_of_ble_eq_true rfl) (Nat.le_of_ble_eq_true rfl) (by decide) (ty_120 hS.1.1) ?_
      refine Tr.imp (Tr.deep (by decide) (ns_X12_blame_120_w1 (G120_8 := g120_8) hS.1 (((kp_X12_isWord_120_120_8 h10).trans eg120_8)) 1 (by omega) g120_4 (by and_intros <;> omega))) ?_
      rintro M22 _ ⟨h22, s22_120_8, es22_120_8, bs22_120_8, rfl, z22_0⟩
      have hS := St.tr hS h22 (by decide) (by decide)
      refine Tr.sc [] rfl ?_
      refine Tr.pick [0] (ls2 := [(0, (2, 120))]) rfl ?_
      exact J25 _ _ hS (by and_intros <;> omega) ((kp_X12_blame_120_w1_120_3 h22).trans ((kp_X12_isWord_120_120_3 h10).trans eg120_3)) ((kp_X12_blame_120_w1_120_4 h22).trans ((kp_X12_isWord_120_120_4 h10).trans eg120_4)) ((kp_X12_blame_120_w1_120_5 h22).trans ((kp_X12_isWord_120_120_5 h10).trans eg120_5)) ((kp_X12_blame_120_w1_120_7 h22).trans ((kp_X12_isWord_120_120_7 h10).trans eg120_7)) es22_120_8 ((tav_of ((kp_X12_blame_120_w1_120_5 h22).trans ((kp_X12_isWord_120_120_5 h10).trans rfl)) ((kp_X12_blame_120_w1_120_3 h22).trans ((kp_X12_isWord_120_120_3 h10).trans rfl))).trans eg9010_0) (by exact (hd_o z22_0).elim (fun h1 => by omega) (fun h1 => by omega)) (by omega)
  · have kr_120_3 : rd M0 120 3 = g120_3 := eg120_3
    have kr_120_4 : rd M0 120 4 = g120_4 := eg120_4
    have kr_120_5 : rd M0 120 5 = g120_5 := eg120_5
    have kr_120_7 : rd M0 120 7 = g120_7 := eg120_7
    have kr_120_8 : rd M0 120 8 = g120_8 := eg120_8
    have kr_9010_0 : tav M0 = g9010_0 := eg9010_0
    exact Tr.vret (pc := 7) d_X12_must__7 rfl ⟨hS, rfl, (by first | exact (hd_o hq0) | exact (hd_o hq0).elim (fun h1 => by omega) (fun h1 => by omega)), (by omega), (by first | exact (hd_o hq2) | exact (hd_o hq2).elim (fun h1 => by omega) (fun h1 => h1.elim (fun h1 => by omega) (fun h1 => by omega))), (by and_intros <;> omega), (by omega), (by omega)⟩

set_option maxRecDepth 100000 in
set_option maxHeartbeats 4000000 in
theorem ns_X12_must__120_w4 {l : Launch} {K : EC} {M0 : Mem} {G120_3 G120_4 G120_5 G120_7 G120_8 G9010_0 : Int} (hI : In Pm0 M0) (k120_3 : rd M0 120 3 = G120_3) (k120_4 : rd M0 120 4 = G120_4) (k120_5 : rd M0 120 5 = G120_5) (k120_7 : rd M0 120 7 = G120_7) (k120_8 : rd M0 120 8 = G120_8) (k9010_0 : tav M0 = G9010_0)  (a1 : Int) (ha1 : 1000000000 ≤ a1 ∧ a1 ≤ 2147483647)  (hq0 : G120_3 = 0 ∨ G120_4 + 1 ≤ G120_5) (hq1 : G120_4 ≤ G120_5) (hq2 : G120_3 ≠ 1 ∨ G120_4 + 2 ≤ G120_5 ∨ G120_7 < 256) : Tr l K 2 mX12_must_ 0 [(0, (2, 120)), (1, (1, a1))] [] M0 (fun M' r => St Pm0 ws_X12_must__120_w4 as_X12_must__120_w4 M0 M' ∧ ∃ S120_3 S120_4 S120_5 S120_7 S120_8 S9010_0 : Int, rd M' 120 3 = S120_3 ∧ (0 ≤ S120_3 ∧ S120_3 ≤ 3) ∧ rd M' 120 4 = S120_4 ∧ (0 ≤ S120_4 ∧ S120_4 ≤ 900) ∧ rd M' 120 5 = S120_5 ∧ (0 ≤ S120_5 ∧ S120_5 ≤ 900) ∧ rd M' 120 7 = S120_7 ∧ ((-9223372036854775808) ≤ S120_7 ∧ S120_7 ≤ 9223372036854775807) ∧ rd M' 120 8 = S120_8 ∧ (0 ≤ S120_8 ∧ S120_8 ≤ 5) ∧ tav M' = S9010_0 ∧ ((-1) ≤ S9010_0 ∧ S9010_0 ≤ 1800) ∧ r = none ∧ Hd (S120_3 = 0 ∨ S120_4 + 1 ≤ S120_5) ∧ (S120_4 ≤ S120_5) ∧ Hd (S120_3 ≠ 1 ∨ S120_4 + 2 ≤ S120_5 ∨ S120_7 < 256) ∧ (G120_4 ≤ S120_4 ∧ G120_5 ≤ S120_5 ∧ G9010_0 ≤ S9010_0) ∧ Hd (G120_8 = 0 ∨ S120_8 = G120_8) ∧ Hd (1 ≤ S120_8 ∨ G9010_0 < S9010_0)) := by
  subst k120_3
  subst k120_4
  subst k120_5
  subst k120_7
  subst k120_8
  subst k9010_0
  refine Tr.imp (sp_X12_must__120_w4 hI a1 ha1 hq0 hq1 hq2) ?_
  rintro M' _ ⟨hS, rfl, z0, z1, z2, z3, z4, z5⟩
  exact ⟨hS, _, _, _, _, _, _, rfl, ir_120_3 hS.1.2.1, rfl, ir_120_4 hS.1.2.1, rfl, ir_120_5 hS.1.2.1, rfl, ir_120_7 hS.1.2.1, rfl, ir_120_8 hS.1.2.1, rfl, (tav_b hS.1.2.1), rfl, hd_i z0, z1, hd_i z2, z3, hd_i z4, hd_i z5⟩

def ws_X12_must__120_w5 : List (Int × Int) := [(120, 3), (120, 4), (120, 5), (120, 6), (120, 7), (120, 8), (120, 9)]
def as_X12_must__120_w5 : List Int := []
def q_X12_must__120_w5 (a1 : Int) (M0 M' : Mem) (r : Option PV) : Prop := St Pm0 ws_X12_must__120_w5 as_X12_must__120_w5 M0 M' ∧ r = none ∧ (rd M' 120 3 = 0 ∨ rd M' 120 4 + 1 ≤ rd M' 120 5) ∧ (rd M' 120 4 ≤ rd M' 120 5) ∧ (rd M' 120 3 ≠ 1 ∨ rd M' 120 4 + 2 ≤ rd M' 120 5 ∨ rd M' 120 7 < 256) ∧ (rd M0 120 4 ≤ rd M' 120 4 ∧ rd M0 120 5 ≤ rd M' 120 5 ∧ tav M0 ≤ tav M') ∧ (rd M0 120 8 = 0 ∨ rd M' 120 8 = rd M0 120 8) ∧ (1 ≤ rd M' 120 8 ∨ tav M0 < tav M')
set_option maxRecDepth 100000 in
set_option maxHeartbeats 4000000 in
theorem sp_X12_must__120_w5 {l : Launch} {K : EC} {M0 : Mem} (hI : In Pm0 M0)  (a1 : Int) (ha1 : 2100 ≤ a1 ∧ a1 ≤ 46656)  (hq0 : rd M0 120 3 = 0 ∨ rd M0 120 4 + 1 ≤ rd M0 120 5) (hq1 : rd M0 120 4 ≤ rd M0 120 5) (hq2 : rd M0 120 3 ≠ 1 ∨ rd M0 120 4 + 2 ≤ rd M0 120 5 ∨ rd M0 120 7 < 256) : Tr l K 2 mX12_must_ 0 [(0, (2, 120)), (1, (1, a1))] [] M0 (q_X12_must__120_w5 a1 M0) := by
  have hS : St Pm0 ws_X12_must__120_w5 as_X12_must__120_w5 M0 M0 := St.rf hI
  obtain ⟨g120_8, eg120_8⟩ : ∃ v, rd M0 120 8 = v := ⟨_, rfl⟩
  have bg120_8 : 0 ≤ g120_8 ∧ g120_8 ≤ 5 := by rw [← eg120_8]; exact ir_120_8 hI.2.1
  obtain ⟨g120_3, eg120_3⟩ : ∃ v, rd M0 120 3 = v := ⟨_, rfl⟩
  have bg120_3 : 0 ≤ g120_3 ∧ g120_3 ≤ 3 := by rw [← eg120_3]; exact ir_120_3 hI.2.1
  obtain ⟨g120_4, eg120_4⟩ : ∃ v, rd M0 120 4 = v := ⟨_, rfl⟩
  have bg120_4 : 0 ≤ g120_4 ∧ g120_4 ≤ 900 := by rw [← eg120_4]; exact ir_120_4 hI.2.1
  obtain ⟨g120_5, eg120_5⟩ : ∃ v, rd M0 120 5 = v := ⟨_, rfl⟩
  have bg120_5 : 0 ≤ g120_5 ∧ g120_5 ≤ 900 := by rw [← eg120_5]; exact ir_120_5 hI.2.1
  obtain ⟨g120_7, eg120_7⟩ : ∃ v, rd M0 120 7 = v := ⟨_, rfl⟩
  have bg120_7 : (-9223372036854775808) ≤ g120_7 ∧ g120_7 ≤ 9223372036854775807 := by rw [← eg120_7]; exact ir_120_7 hI.2.1
  obtain ⟨g9010_0, eg9010_0⟩ : ∃ v, tav M0 = v := ⟨_, rfl⟩
  have bg9010_0 : (-1) ≤ g9010_0 ∧ g9010_0 ≤ 1800 := by rw [← eg9010_0]; exact (tav_b hI.2.1)
  replace hq0 := hd_i hq0
  replace hq2 := hd_i hq2
  refine Tr.aload_n (pc := 0) (i := 0) d_X12_must__0 rfl rfl ?_
  refine Tr.getf (pc := 1) d_X12_must__1 f_12_36 (by decide) (by decide) (ty_120 hS.1.1) ?_
  refine Tr.tp g120_8 eg120_8 ?_
  refine Tr.if_le (pc := 4) (tgt := 8) d_X12_must__4 rfl (fun c4 => ?_) (fun c4 => ?_)
  · refine Tr.aload_n (pc := 8) (i := 0) d_X12_must__8 rfl rfl ?_
    refine Tr.lload_n (pc := 9) (i := 1) d_X12_must__9 rfl rfl ?_
    refine Tr.callV (pc := 10) (as := [_]) d_X12_must__10 s_12_484 ok_X12_isWord rfl rfl (Nat.le_of_ble_eq_true rfl) (Nat.le_of_ble_eq_true rfl) (by decide) (ty_120 hS.1.1) ?_
    refine Tr.imp (Tr.deep (by decide) (ns_X12_isWord_120 (G120_3 := g120_3) (G120_7 := g120_7) hS.1.wk (eg120_3) (eg120_7) a1 (by omega))) ?_
    rintro M10 _ ⟨h10, r10, rfl, lr10, ur10, z10_0⟩
    have h10 := St.rn h10 (Pm0.of hS.1.2.2.2.2 (fun _ => (ka_X12_isWord_120_131 h10 _)) (fun _ => (ka_X12_isWord_120_137 h10 _)) (fun _ => (ka_X12_isWord_120_138 h10 _)) (fun _ => (ka_X12_isWord_120_139 h10 _)) (fun _ => (ka_X12_isWord_120_140 h10 _)) (fun _ => (ka_X12_isWord_120_141 h10 _)) (fun _ => (ka_X12_isWord_120_142 h10 _)) (fun _ => (ka_X12_isWord_120_143 h10 _)) (fun _ => (ka_X12_isWord_120_151 h10 _)) (fun _ => (ka_X12_isWord_120_152 h10 _)) (kp_X12_isWord_120_126_0 h10) (kp_X12_isWord_120_126_1 h10) (kp_X12_isWord_120_136_0 h10) (kp_X12_isWord_120_136_1 h10) (kp_X12_isWord_120_123_0 h10) (kp_X12_isWord_120_123_1 h10) (kp_X12_isWord_120_124_0 h10) (kp_X12_isWord_120_124_1 h10) (kp_X12_isWord_120_120_8 h10) (kp_X12_isWord_120_120_36 h10) (kp_X12_isWord_120_120_50 h10))
    have hS := St.tr hS h10 (by decide) (by decide)
    refine Tr.sc [(0, r10)] rfl ?_
    have J25 : ∀ (M : Mem) (u25_120_8 : Int), St Pm0 ws_X12_must__120_w5 as_X12_must__120_w5 M0 M → (0 ≤ u25_120_8 ∧ u25_120_8 ≤ 5) → rd M 120 3 = g120_3 → rd M 120 4 = g120_4 → rd M 120 5 = g120_5 → rd M 120 7 = g120_7 → rd M 120 8 = u25_120_8 → tav M = g9010_0 → (u25_120_8 ≠ 0 ∨ g120_3 ≠ 0) → (g120_8 = 0 ∨ u25_120_8 = g120_8) → Tr l K 2 mX12_must_ 25 [(0, (2, 120))] [] M (q_X12_must__120_w5 a1 M0) := by
      intro M u25_120_8 hS bu25_120_8 k25_120_3 k25_120_4 k25_120_5 k25_120_7 k25_120_8 k25_9010_0 t25_0 t25_1
      replace t25_0 := hd_i t25_0
      replace t25_1 := hd_i t25_1
      refine Tr.aload_n (pc := 25) (i := 0) d_X12_must__25 rfl rfl ?_
      refine Tr.getf (pc := 26) d_X12_must__26 f_12_36 (by decide) (by decide) (ty_120 hS.1.1) ?_
      refine Tr.tp u25_120_8 k25_120_8 ?_
      refine Tr.if_ne (pc := 29) (tgt := 36) d_X12_must__29 rfl (fun c29 => ?_) (fun c29 => ?_)
      · have c29b : 1 ≤ u25_120_8 ∧ u25_120_8 ≤ 5 := by omega
        replace c29 := hd_i c29
        have kr_120_3 : rd M 120 3 = g120_3 := k25_120_3
        have kr_120_4 : rd M 120 4 = g120_4 := k25_120_4
        have kr_120_5 : rd M 120 5 = g120_5 := k25_120_5
        have kr_120_7 : rd M 120 7 = g120_7 := k25_120_7
        have kr_120_8 : rd M 120 8 = u25_120_8 := k25_120_8
        have kr_9010_0 : tav M = g9010_0 := k25_9010_0
        exact Tr.vret (pc := 36) d_X12_must__36 rfl ⟨hS, rfl, (by first | exact (hd_o hq0) | exact (hd_o hq0).elim (fun h1 => by omega) (fun h1 => by omega)), (by omega), (by first | exact (hd_o hq2) | exact (hd_o hq2).elim (fun h1 => by omega) (fun h1 => h1.elim (fun h1 => by omega) (fun h1 => by omega))), (by and_intros <;> omega), (by first | exact (hd_o t25_1) | exact (hd_o t25_1).elim (fun h1 => by omega) (fun h1 => by omega)), (by omega)⟩
      · refine Tr.aload_n (pc := 32) (i := 0) d_X12_must__32 rfl rfl ?_
        refine Tr.callV (pc := 33) (as := []) d_X12_must__33 s_12_396 ok_X12_next rfl rfl (Nat.le_of_ble_eq_true rfl) (Nat.le_of_ble_eq_true rfl) (by decide) (ty_120 hS.1.1) ?_
        refine Tr.imp (Tr.deep (by decide) (ns_X12_next_120_w1 (G120_3 := g120_3) (G120_5 := g120_5) (G120_8 := u25_120_8) (G9010_0 := g9010_0) hS.1 (k25_120_3) (k25_120_5) (k25_120_8) (k25_9010_0))) ?_
        rintro M33 _ ⟨h33, s33_120_3, s33_120_4, s33_120_5, s33_120_7, s33_120_8, s33_9010_0, es33_120_3, bs33_120_3, es33_120_4, bs33_120_4, es33_120_5, bs33_120_5, es33_120_7, bs33_120_7, es33_120_8, bs33_120_8, es33_9010_0, bs33_9010_0, rfl, z33_0, z33_1, z33_2, z33_3, z33_4, z33_5, z33_6⟩
        have hS := St.tr hS h33 (by decide) (by decide)
        refine Tr.sc [] rfl ?_
        have kr_120_3 : rd M33 120 3 = s33_120_3 := es33_120_3
        have kr_120_4 : rd M33 120 4 = s33_120_4 := es33_120_4
        have kr_120_5 : rd M33 120 5 = s33_120_5 := es33_120_5
        have kr_120_7 : rd M33 120 7 = s33_120_7 := es33_120_7
        have kr_120_8 : rd M33 120 8 = s33_120_8 := es33_120_8
        have kr_9010_0 : tav M33 = s33_9010_0 := es33_9010_0
        exact Tr.vret (pc := 36) d_X12_must__36 rfl ⟨hS, rfl, (by first | exact (hd_o z33_0) | exact (hd_o z33_0).elim (fun h1 => by omega) (fun h1 => by omega)), (by omega), (by first | exact (hd_o z33_2) | exact (hd_o z33_2).elim (fun h1 => by omega) (fun h1 => h1.elim (fun h1 => by omega) (fun h1 => by omega))), (by and_intros <;> omega), (by omega), (by exact (hd_o t25_0).elim (fun h1 => (ne_o h1).elim (fun h2 => by omega) (fun h2 => by omega)) (fun h1 => (ne_o h1).elim (fun h2 => by omega) (fun h2 => (hd_o z33_5).elim (fun h3 => by omega) (fun h3 => by omega))))⟩
    refine Tr.if_ne (pc := 13) (tgt := 25) d_X12_must__13 rfl (fun c13 => ?_) (fun c13 => ?_)
    · have c13b : 1 ≤ r10 ∧ r10 ≤ 1 := by omega
      replace c13 := hd_i c13
      refine Tr.pick [0] (ls2 := [(0, (2, 120))]) rfl ?_
      exact J25 _ _ hS (by and_intros <;> omega) ((kp_X12_isWord_120_120_3 h10).trans eg120_3) ((kp_X12_isWord_120_120_4 h10).trans eg120_4) ((kp_X12_isWord_120_120_5 h10).trans eg120_5) ((kp_X12_isWord_120_120_7 h10).trans eg120_7) ((kp_X12_isWord_120_120_8 h10).trans eg120_8) ((tav_of ((kp_X12_isWord_120_120_5 h10).trans rfl) ((kp_X12_isWord_120_120_3 h10).trans rfl)).trans eg9010_0) (by exact (hd_o z10_0).elim (fun h1 => by omega) (fun h1 => by omega)) (by omega)
    · refine Tr.aload_n (pc := 16) (i := 0) d_X12_must__16 rfl rfl ?_
      refine Tr.iconst (pc := 17) d_X12_must__17 (by decide) ?_
      refine Tr.aload_n (pc := 18) (i := 0) d_X12_must__18 rfl rfl ?_
      refine Tr.getf (pc := 19) d_X12_must__19 f_12_23 (by decide) (by decide) (ty_120 hS.1.1) ?_
      refine Tr.tp g120_4 ((kp_X12_isWord_120_120_4 h10).trans eg120_4) ?_
      refine Tr.callV (pc := 22) (as := [_, _]) d_X12_must__22 s_12_389 ok_X12_blame rfl rfl (Nat.le_of_ble_eq_true rfl) (Nat.le_of_ble_eq_true rfl) (by decide) (ty_120 hS.1.1) ?_
      refine Tr.imp (Tr.deep (by decide) (ns_X12_blame_120_w1 (G120_8 := g120_8) hS.1 (((kp_X12_isWord_120_120_8 h10).trans eg120_8)) 1 (by omega) g120_4 (by and_intros <;> omega))) ?_
      rintro M22 _ ⟨h22, s22_120_8, es22_120_8, bs22_120_8, rfl, z22_0⟩
      have hS := St.tr hS h22 (by decide) (by decide)
      refine Tr.sc [] rfl ?_
      refine Tr.pick [0] (ls2 := [(0, (2, 120))]) rfl ?_
      exact J25 _ _ hS (by and_intros <;> omega) ((kp_X12_blame_120_w1_120_3 h22).trans ((kp_X12_isWord_120_120_3 h10).trans eg120_3)) ((kp_X12_blame_120_w1_120_4 h22).trans ((kp_X12_isWord_120_120_4 h10).trans eg120_4)) ((kp_X12_blame_120_w1_120_5 h22).trans ((kp_X12_isWord_120_120_5 h10).trans eg120_5)) ((kp_X12_blame_120_w1_120_7 h22).trans ((kp_X12_isWord_120_120_7 h10).trans eg120_7)) es22_120_8 ((tav_of ((kp_X12_blame_120_w1_120_5 h22).trans ((kp_X12_isWord_120_120_5 h10).trans rfl)) ((kp_X12_blame_120_w1_120_3 h22).trans ((kp_X12_isWord_120_120_3 h10).trans rfl))).trans eg9010_0) (by exact (hd_o z22_0).elim (fun h1 => by omega) (fun h1 => by omega)) (by omega)
  · have kr_120_3 : rd M0 120 3 = g120_3 := eg120_3
    have kr_120_4 : rd M0 120 4 = g120_4 := eg120_4
    have kr_120_5 : rd M0 120 5 = g120_5 := eg120_5
    have kr_120_7 : rd M0 120 7 = g120_7 := eg120_7
    have kr_120_8 : rd M0 120 8 = g120_8 := eg120_8
    have kr_9010_0 : tav M0 = g9010_0 := eg9010_0
    exact Tr.vret (pc := 7) d_X12_must__7 rfl ⟨hS, rfl, (by first | exact (hd_o hq0) | exact (hd_o hq0).elim (fun h1 => by omega) (fun h1 => by omega)), (by omega), (by first | exact (hd_o hq2) | exact (hd_o hq2).elim (fun h1 => by omega) (fun h1 => h1.elim (fun h1 => by omega) (fun h1 => by omega))), (by and_intros <;> omega), (by omega), (by omega)⟩

set_option maxRecDepth 100000 in
set_option maxHeartbeats 4000000 in
theorem ns_X12_must__120_w5 {l : Launch} {K : EC} {M0 : Mem} {G120_3 G120_4 G120_5 G120_7 G120_8 G9010_0 : Int} (hI : In Pm0 M0) (k120_3 : rd M0 120 3 = G120_3) (k120_4 : rd M0 120 4 = G120_4) (k120_5 : rd M0 120 5 = G120_5) (k120_7 : rd M0 120 7 = G120_7) (k120_8 : rd M0 120 8 = G120_8) (k9010_0 : tav M0 = G9010_0)  (a1 : Int) (ha1 : 2100 ≤ a1 ∧ a1 ≤ 46656)  (hq0 : G120_3 = 0 ∨ G120_4 + 1 ≤ G120_5) (hq1 : G120_4 ≤ G120_5) (hq2 : G120_3 ≠ 1 ∨ G120_4 + 2 ≤ G120_5 ∨ G120_7 < 256) : Tr l K 2 mX12_must_ 0 [(0, (2, 120)), (1, (1, a1))] [] M0 (fun M' r => St Pm0 ws_X12_must__120_w5 as_X12_must__120_w5 M0 M' ∧ ∃ S120_3 S120_4 S120_5 S120_7 S120_8 S9010_0 : Int, rd M' 120 3 = S120_3 ∧ (0 ≤ S120_3 ∧ S120_3 ≤ 3) ∧ rd M' 120 4 = S120_4 ∧ (0 ≤ S120_4 ∧ S120_4 ≤ 900) ∧ rd M' 120 5 = S120_5 ∧ (0 ≤ S120_5 ∧ S120_5 ≤ 900) ∧ rd M' 120 7 = S120_7 ∧ ((-9223372036854775808) ≤ S120_7 ∧ S120_7 ≤ 9223372036854775807) ∧ rd M' 120 8 = S120_8 ∧ (0 ≤ S120_8 ∧ S120_8 ≤ 5) ∧ tav M' = S9010_0 ∧ ((-1) ≤ S9010_0 ∧ S9010_0 ≤ 1800) ∧ r = none ∧ Hd (S120_3 = 0 ∨ S120_4 + 1 ≤ S120_5) ∧ (S120_4 ≤ S120_5) ∧ Hd (S120_3 ≠ 1 ∨ S120_4 + 2 ≤ S120_5 ∨ S120_7 < 256) ∧ (G120_4 ≤ S120_4 ∧ G120_5 ≤ S120_5 ∧ G9010_0 ≤ S9010_0) ∧ Hd (G120_8 = 0 ∨ S120_8 = G120_8) ∧ Hd (1 ≤ S120_8 ∨ G9010_0 < S9010_0)) := by
  subst k120_3
  subst k120_4
  subst k120_5
  subst k120_7
  subst k120_8
  subst k9010_0
  refine Tr.imp (sp_X12_must__120_w5 hI a1 ha1 hq0 hq1 hq2) ?_
  rintro M' _ ⟨hS, rfl, z0, z1, z2, z3, z4, z5⟩
  exact ⟨hS, _, _, _, _, _, _, rfl, ir_120_3 hS.1.2.1, rfl, ir_120_4 hS.1.2.1, rfl, ir_120_5 hS.1.2.1, rfl, ir_120_7 hS.1.2.1, rfl, ir_120_8 hS.1.2.1, rfl, (tav_b hS.1.2.1), rfl, hd_i z0, z1, hd_i z2, z3, hd_i z4, hd_i z5⟩

def ws_X12_part_120_w1 : List (Int × Int) := [(120, 3), (120, 4), (120, 5), (120, 6), (120, 7), (120, 8), (120, 9), (126, 0)]
def as_X12_part_120_w1 : List Int := [130, 131]
def q_X12_part_120_w1 (M0 M' : Mem) (r : Option PV) : Prop := St Pm0 ws_X12_part_120_w1 as_X12_part_120_w1 M0 M' ∧ r = none ∧ (rd M' 120 3 = 0 ∨ rd M' 120 4 + 1 ≤ rd M' 120 5) ∧ (rd M' 120 4 ≤ rd M' 120 5) ∧ (rd M' 120 3 ≠ 1 ∨ rd M' 120 4 + 2 ≤ rd M' 120 5 ∨ rd M' 120 7 < 256) ∧ (rd M0 120 4 ≤ rd M' 120 4 ∧ rd M0 120 5 ≤ rd M' 120 5 ∧ tav M0 ≤ tav M') ∧ (rd M0 120 8 = 0 ∨ rd M' 120 8 = rd M0 120 8) ∧ (1 ≤ rd M' 120 8 ∨ tav M0 < tav M')
theorem kp_X12_part_120_w1_120_37 {q : Mem → Prop} {M0 M : Mem} (h : St q ws_X12_part_120_w1 as_X12_part_120_w1 M0 M) : rd M 120 37 = rd M0 120 37 := St.kp h (by decide) (by decide) (by decide)
theorem kp_X12_counts_120_w1_126_0 {q : Mem → Prop} {M0 M : Mem} (h : St q ws_X12_counts_120_w1 as_X12_counts_120_w1 M0 M) : rd M 126 0 = rd M0 126 0 := St.kp h (by decide) (by decide) (by decide)
theorem kp_X12_fresh_120_w1_126_0 {q : Mem → Prop} {M0 M : Mem} (h : St q ws_X12_fresh_120_w1 as_X12_fresh_120_w1 M0 M) : rd M 126 0 = rd M0 126 0 := St.kp h (by decide) (by decide) (by decide)
theorem kp_X12_must__120_w3_126_0 {q : Mem → Prop} {M0 M : Mem} (h : St q ws_X12_must__120_w3 as_X12_must__120_w3 M0 M) : rd M 126 0 = rd M0 126 0 := St.kp h (by decide) (by decide) (by decide)
theorem kp_X12_number_120_w1_126_0 {q : Mem → Prop} {M0 M : Mem} (h : St q ws_X12_number_120_w1 as_X12_number_120_w1 M0 M) : rd M 126 0 = rd M0 126 0 := St.kp h (by decide) (by decide) (by decide)
theorem kp_X12_must__120_w4_126_0 {q : Mem → Prop} {M0 M : Mem} (h : St q ws_X12_must__120_w4 as_X12_must__120_w4 M0 M) : rd M 126 0 = rd M0 126 0 := St.kp h (by decide) (by decide) (by decide)
theorem kp_X12_must__120_w5_126_0 {q : Mem → Prop} {M0 M : Mem} (h : St q ws_X12_must__120_w5 as_X12_must__120_w5 M0 M) : rd M 126 0 = rd M0 126 0 := St.kp h (by decide) (by decide) (by decide)
set_option maxRecDepth 100000 in
set_option maxHeartbeats 4000000 in
theorem sp_X12_part_120_w1 {l : Launch} {K : EC} {M0 : Mem} (hI : In Pm0 M0) (en_120_37 : rd M0 120 37 = 0)   (hq0 : rd M0 120 3 = 0 ∨ rd M0 120 4 + 1 ≤ rd M0 120 5) (hq1 : rd M0 120 4 ≤ rd M0 120 5) (hq2 : rd M0 120 3 ≠ 1 ∨ rd M0 120 4 + 2 ≤ rd M0 120 5 ∨ rd M0 120 7 < 256) (hq3 : rd M0 120 3 ≠ 0) (hq4 : rd M0 120 8 = 0) : Tr l K 3 mX12_part 0 [(0, (2, 120))] [] M0 (q_X12_part_120_w1 M0) := by
  have hS : St Pm0 ws_X12_part_120_w1 as_X12_part_120_w1 M0 M0 := St.rf hI
  obtain ⟨g120_8, eg120_8⟩ : ∃ v, rd M0 120 8 = v := ⟨_, rfl⟩
  have bg120_8 : 0 ≤ g120_8 ∧ g120_8 ≤ 5 := by rw [← eg120_8]; exact ir_120_8 hI.2.1
  obtain ⟨g120_3, eg120_3⟩ : ∃ v, rd M0 120 3 = v := ⟨_, rfl⟩
  have bg120_3 : 0 ≤ g120_3 ∧ g120_3 ≤ 3 := by rw [← eg120_3]; exact ir_120_3 hI.2.1
  obtain ⟨g120_4, eg120_4⟩ : ∃ v, rd M0 120 4 = v := ⟨_, rfl⟩
  have bg120_4 : 0 ≤ g120_4 ∧ g120_4 ≤ 900 := by rw [← eg120_4]; exact ir_120_4 hI.2.1
  obtain ⟨g120_5, eg120_5⟩ : ∃ v, rd M0 120 5 = v := ⟨_, rfl⟩
  have bg120_5 : 0 ≤ g120_5 ∧ g120_5 ≤ 900 := by rw [← eg120_5]; exact ir_120_5 hI.2.1
  obtain ⟨g120_7, eg120_7⟩ : ∃ v, rd M0 120 7 = v := ⟨_, rfl⟩
  have bg120_7 : (-9223372036854775808) ≤ g120_7 ∧ g120_7 ≤ 9223372036854775807 := by rw [← eg120_7]; exact ir_120_7 hI.2.1
  obtain ⟨g9010_0, eg9010_0⟩ : ∃ v, tav M0 = v := ⟨_, rfl⟩
  have bg9010_0 : (-1) ≤ g9010_0 ∧ g9010_0 ≤ 1800 := by rw [← eg9010_0]; exact (tav_b hI.2.1)
  obtain ⟨g126_0, eg126_0⟩ : ∃ v, rd M0 126 0 = v := ⟨_, rfl⟩
  have bg126_0 : 0 ≤ g126_0 ∧ g126_0 ≤ 6 := by rw [← eg126_0]; exact ir_126_0 hI.2.1
  replace hq0 := hd_i hq0
  replace hq2 := hd_i hq2
  replace hq3 := hd_i hq3
  refine Tr.aload_n (pc := 0) (i := 0) d_X12_part_0 rfl rfl ?_
  refine Tr.aload_n (pc := 1) (i := 0) d_X12_part_1 rfl rfl ?_
  refine Tr.getf (pc := 2) d_X12_part_2 f_12_63 (by decide) (by decide) (ty_120 hS.1.1) ?_
  refine Tr.tp 126 (fx_120_17 hS.1.1) ?_
  refine Tr.aload_n (pc := 5) (i := 0) d_X12_part_5 rfl rfl ?_
  refine Tr.getf (pc := 6) d_X12_part_6 f_12_124 (by decide) (by decide) (ty_120 hS.1.1) ?_
  refine Tr.tp 0 ((kp_X12_part_120_w1_120_37 hS).trans en_120_37) ?_
  refine Tr.iald (pc := 9) d_X12_part_9 (ty_126 hS.1.1) (by omega) (by omega) ?_
  refine Tr.tp g126_0 eg126_0 ?_
  refine Tr.bipush (pc := 10) d_X12_part_10 rfl (by decide) ?_
  have J20 : ∀ (M : Mem) (q20_1 : Int), St Pm0 ws_X12_part_120_w1 as_X12_part_120_w1 M0 M → (0 ≤ q20_1 ∧ q20_1 ≤ 1) → rd M 120 3 = g120_3 → rd M 120 4 = g120_4 → rd M 120 5 = g120_5 → rd M 120 7 = g120_7 → rd M 120 8 = g120_8 → rd M 126 0 = g126_0 → tav M = g9010_0 → ((q20_1 = 1 ∧ g126_0 = 6) ∨ (q20_1 = 0 ∧ g126_0 ≠ 6)) → Tr l K 3 mX12_part 20 [(0, (2, 120))] [(0, q20_1), (2, 120)] M (q_X12_part_120_w1 M0) := by
    intro M q20_1 hS bq20_1 k20_120_3 k20_120_4 k20_120_5 k20_120_7 k20_120_8 k20_126_0 k20_9010_0 t20_0
    replace t20_0 := hd_i t20_0
    refine Tr.callV (pc := 20) (as := [_]) d_X12_part_20 s_12_505 ok_X12_counts rfl rfl (Nat.le_of_ble_eq_true rfl) (Nat.le_of_ble_eq_true rfl) (by decide) (ty_120 hS.1.1) ?_
    refine Tr.imp (Tr.deep (by decide) (ns_X12_counts_120_w1 (G120_3 := g120_3) (G120_4 := g120_4) (G120_5 := g120_5) (G120_7 := g120_7) (G120_8 := g120_8) (G9010_0 := g9010_0) hS.1 (k20_120_3) (k20_120_4) (k20_120_5) (k20_120_7) (k20_120_8) (k20_9010_0) q20_1 (by and_intros <;> omega) (by first | exact (hd_o hq0) | exact (hd_o hq0).elim (fun h1 => by omega) (fun h1 => by omega)) (by omega) (by first | exact (hd_o hq2) | exact (hd_o hq2).elim (fun h1 => by omega) (fun h1 => h1.elim (fun h1 => by omega) (fun h1 => by omega))) (by have h1 := (hd_o hq3); omega))) ?_
    rintro M20 _ ⟨h20, s20_120_3, s20_120_4, s20_120_5, s20_120_7, s20_120_8, s20_9010_0, es20_120_3, bs20_120_3, es20_120_4, bs20_120_4, es20_120_5, bs20_120_5, es20_120_7, bs20_120_7, es20_120_8, bs20_120_8, es20_9010_0, bs20_9010_0, rfl, z20_0, z20_1, z20_2, z20_3, z20_4, z20_5, z20_6⟩
    have hS := St.tr hS h20 (by decide) (by decide)
    refine Tr.sc [] rfl ?_
    refine Tr.aload_n (pc := 23) (i := 0) d_X12_part_23 rfl rfl ?_
    refine Tr.getf (pc := 24) d_X12_part_24 f_12_36 (by decide) (by decide) (ty_120 hS.1.1) ?_
    refine Tr.tp s20_120_8 es20_120_8 ?_
    refine Tr.if_le (pc := 27) (tgt := 31) d_X12_part_27 rfl (fun c27 => ?_) (fun c27 => ?_)
    · refine Tr.bipush (pc := 31) d_X12_part_31 rfl (by decide) ?_
      refine Tr.aload_n (pc := 33) (i := 0) d_X12_part_33 rfl rfl ?_
      refine Tr.getf (pc := 34) d_X12_part_34 f_12_124 (by decide) (by decide) (ty_120 hS.1.1) ?_
      refine Tr.tp 0 ((kp_X12_part_120_w1_120_37 hS).trans en_120_37) ?_
      refine Tr.imul (pc := 37) d_X12_part_37 ?_
      refine Tr.tp 0 (by decide) ?_
      refine Tr.aload_n (pc := 38) (i := 0) d_X12_part_38 rfl rfl ?_
      refine Tr.getf (pc := 39) d_X12_part_39 f_12_63 (by decide) (by decide) (ty_120 hS.1.1) ?_
      refine Tr.tp 126 (fx_120_17 hS.1.1) ?_
      refine Tr.aload_n (pc := 42) (i := 0) d_X12_part_42 rfl rfl ?_
      refine Tr.getf (pc := 43) d_X12_part_43 f_12_124 (by decide) (by decide) (ty_120 hS.1.1) ?_
      refine Tr.tp 0 ((kp_X12_part_120_w1_120_37 hS).trans en_120_37) ?_
      refine Tr.iald (pc := 46) d_X12_part_46 (ty_126 hS.1.1) (by omega) (by omega) ?_
      refine Tr.tp g126_0 ((kp_X12_counts_120_w1_126_0 h20).trans k20_126_0) ?_
      refine Tr.iadd (pc := 47) d_X12_part_47 ?_
      refine Tr.tp g126_0 ((w32_id (by and_intros <;> omega)).trans (by omega)) ?_
      refine Tr.istore_n (pc := 48) (i := 1) (ls2 := [(1, (0, g126_0)), (0, (2, 120))]) d_X12_part_48 rfl (by decide) rfl ?_
      refine Tr.aload_n (pc := 49) (i := 0) d_X12_part_49 rfl rfl ?_
      refine Tr.getf (pc := 50) d_X12_part_50 f_12_75 (by decide) (by decide) (ty_120 hS.1.1) ?_
      refine Tr.tp 130 (fx_120_21 hS.1.1) ?_
      refine Tr.iload_n (pc := 53) (i := 1) d_X12_part_53 rfl rfl ?_
      refine Tr.aload_n (pc := 54) (i := 0) d_X12_part_54 rfl rfl ?_
      refine Tr.callV (pc := 55) (as := []) d_X12_part_55 s_12_508 ok_X12_fresh rfl rfl (Nat.le_of_ble_eq_true rfl) (Nat.le_of_ble_eq_true rfl) (by decide) (ty_120 hS.1.1) ?_
      refine Tr.imp (Tr.deep (by decide) (ns_X12_fresh_120_w1 (G120_3 := s20_120_3) (G120_4 := s20_120_4) (G120_5 := s20_120_5) (G120_7 := s20_120_7) (G120_8 := s20_120_8) (G9010_0 := s20_9010_0) hS.1 (es20_120_3) (es20_120_4) (es20_120_5) (es20_120_7) (es20_120_8) (es20_9010_0) ((kp_X12_part_120_w1_120_37 hS).trans en_120_37) (by first | exact (hd_o z20_0) | exact (hd_o z20_0).elim (fun h1 => by omega) (fun h1 => by omega)) (by omega) (by first | exact (hd_o z20_2) | exact (hd_o z20_2).elim (fun h1 => by omega) (fun h1 => h1.elim (fun h1 => by omega) (fun h1 => by omega))))) ?_
      rintro M55 _ ⟨h55, s55_120_3, s55_120_4, s55_120_5, s55_120_7, s55_120_8, s55_9010_0, es55_120_3, bs55_120_3, es55_120_4, bs55_120_4, es55_120_5, bs55_120_5, es55_120_7, bs55_120_7, es55_120_8, bs55_120_8, es55_9010_0, bs55_9010_0, r55, rfl, lr55, ur55, z55_0, z55_1, z55_2, z55_3, z55_4, z55_5⟩
      have hS := St.tr hS h55 (by decide) (by decide)
      refine Tr.sc [(1, r55), (0, g126_0), (2, 130)] rfl ?_
      refine Tr.lastS (pc := 58) (P := St Pm0 ws_X12_part_120_w1 as_X12_part_120_w1 M0) d_X12_part_58 (ty_130 hS.1.1) (by omega) (by omega) (sa_130 hS (by decide) (by omega) (Pm0.of hS.1.2.2.2.2 (fun _ => rd_wb _ rfl) (fun _ => rd_wb _ rfl) (fun _ => rd_wb _ rfl) (fun _ => rd_wb _ rfl) (fun _ => rd_wb _ rfl) (fun _ => rd_wb _ rfl) (fun _ => rd_wb _ rfl) (fun _ => rd_wb _ rfl) (fun _ => rd_wb _ rfl) (fun _ => rd_wb _ rfl) (rd_wb _ rfl) (rd_wb _ rfl) (rd_wb _ rfl) (rd_wb _ rfl) (rd_wb _ rfl) (rd_wb _ rfl) (rd_wb _ rfl) (rd_wb _ rfl) (rd_wb _ rfl) (rd_wb _ rfl) (rd_wb _ rfl))) (fun M58 hS w58 => ?_)
      refine Tr.aload_n (pc := 59) (i := 0) d_X12_part_59 rfl rfl ?_
      refine Tr.ldc2 (pc := 60) d_X12_part_60 kl_12_405 (by decide) ?_
      refine Tr.callV (pc := 63) (as := [_]) d_X12_part_63 s_12_512 ok_X12_must_ rfl rfl (Nat.le_of_ble_eq_true rfl) (Nat.le_of_ble_eq_true rfl) (by decide) (ty_120 hS.1.1) ?_
      refine Tr.imp (Tr.deep (by decide) (ns_X12_must__120_w3 (G120_3 := s55_120_3) (G120_4 := s55_120_4) (G120_5 := s55_120_5) (G120_7 := s55_120_7) (G120_8 := s55_120_8) (G9010_0 := s55_9010_0) hS.1 (((Wr.b w58 rfl).trans es55_120_3)) (((Wr.b w58 rfl).trans es55_120_4)) (((Wr.b w58 rfl).trans es55_120_5)) (((Wr.b w58 rfl).trans es55_120_7)) (((Wr.b w58 rfl).trans es55_120_8)) (((tav_of ((Wr.b w58 rfl).trans rfl) ((Wr.b w58 rfl).trans rfl)).trans es55_9010_0)) 495739823472 (by omega) (by first | exact (hd_o z55_0) | exact (hd_o z55_0).elim (fun h1 => by omega) (fun h1 => by omega)) (by omega) (by first | exact (hd_o z55_2) | exact (hd_o z55_2).elim (fun h1 => by omega) (fun h1 => h1.elim (fun h1 => by omega) (fun h1 => by omega))))) ?_
      rintro M63 _ ⟨h63, s63_120_3, s63_120_4, s63_120_5, s63_120_7, s63_120_8, s63_9010_0, es63_120_3, bs63_120_3, es63_120_4, bs63_120_4, es63_120_5, bs63_120_5, es63_120_7, bs63_120_7, es63_120_8, bs63_120_8, es63_9010_0, bs63_9010_0, rfl, z63_0, z63_1, z63_2, z63_3, z63_4, z63_5⟩
      have hS := St.tr hS h63 (by decide) (by decide)
      refine Tr.sc [] rfl ?_
      refine Tr.aload_n (pc := 66) (i := 0) d_X12_part_66 rfl rfl ?_
      refine Tr.getf (pc := 67) d_X12_part_67 f_12_79 (by decide) (by decide) (ty_120 hS.1.1) ?_
      refine Tr.tp 131 (fx_120_22 hS.1.1) ?_
      refine Tr.bipush (pc := 70) d_X12_part_70 rfl (by decide) ?_
      refine Tr.iload_n (pc := 72) (i := 1) d_X12_part_72 rfl rfl ?_
      refine Tr.imul (pc := 73) d_X12_part_73 ?_
      refine Tr.tp (6 * g126_0) ((w32_id (by and_intros <;> omega)).trans (by omega)) ?_
      refine Tr.aload_n (pc := 74) (i := 0) d_X12_part_74 rfl rfl ?_
      refine Tr.iconst (pc := 75) d_X12_part_75 (by decide) ?_
      refine Tr.sipush (pc := 76) d_X12_part_76 rfl (by decide) ?_
      refine Tr.callV (pc := 79) (as := [_, _]) d_X12_part_79 s_12_516 ok_X12_number rfl rfl (Nat.le_of_ble_eq_true rfl) (Nat.le_of_ble_eq_true rfl) (by decide) (ty_120 hS.1.1) ?_
      refine Tr.imp (Tr.deep (by decide) (ns_X12_number_120_w1 (G120_3 := s63_120_3) (G120_4 := s63_120_4) (G120_5 := s63_120_5) (G120_7 := s63_120_7) (G120_8 := s63_120_8) (G9010_0 := s63_9010_0) hS.1 (es63_120_3) (es63_120_4) (es63_120_5) (es63_120_7) (es63_120_8) (es63_9010_0) 0 (by omega) 999 (by omega) (by first | exact (hd_o z63_0) | exact (hd_o z63_0).elim (fun h1 => by omega) (fun h1 => by omega)) (by omega) (by first | exact (hd_o z63_2) | exact (hd_o z63_2).elim (fun h1 => by omega) (fun h1 => h1.elim (fun h1 => by omega) (fun h1 => by omega))))) ?_
      rintro M79 _ ⟨h79, s79_120_3, s79_120_4, s79_120_5, s79_120_7, s79_120_8, s79_9010_0, es79_120_3, bs79_120_3, es79_120_4, bs79_120_4, es79_120_5, bs79_120_5, es79_120_7, bs79_120_7, es79_120_8, bs79_120_8, es79_9010_0, bs79_9010_0, r79, rfl, lr79, ur79, z79_0, z79_1, z79_2, z79_3, z79_4, z79_5, z79_6⟩
      have hS := St.tr hS h79 (by decide) (by decide)
      refine Tr.sc [(0, r79), (0, (6 * g126_0)), (2, 131)] rfl ?_
      have kx_126_0 : rd M79 126 0 = g126_0 := ((kp_X12_number_120_w1_126_0 h79).trans ((kp_X12_must__120_w3_126_0 h63).trans ((Wr.b w58 rfl).trans ((kp_X12_fresh_120_w1_126_0 h55).trans ((kp_X12_counts_120_w1_126_0 h20).trans k20_126_0)))))
      refine Tr.iastS (pc := 82) (P := St Pm0 ws_X12_part_120_w1 as_X12_part_120_w1 M0) d_X12_part_82 (ty_131 hS.1.1) (by omega) (by omega) (sa_131 hS (by decide) (by and_intros <;> omega) (Pm0_rate hS.1.2.2.2.2 hS.1.2.1 (by omega) (by exact (hd_o t20_0).elim (fun h1 => (hd_o z20_6).elim (fun h2 => by omega) (fun h2 => by omega)) (fun h1 => (ne_o h1.2).elim (fun h2 => by omega) (fun h2 => by omega))))) (fun M82 hS w82 => ?_)
      refine Tr.aload_n (pc := 83) (i := 0) d_X12_part_83 rfl rfl ?_
      refine Tr.ldc2 (pc := 84) d_X12_part_84 kl_12_407 (by decide) ?_
      refine Tr.callV (pc := 87) (as := [_]) d_X12_part_87 s_12_512 ok_X12_must_ rfl rfl (Nat.le_of_ble_eq_true rfl) (Nat.le_of_ble_eq_true rfl) (by decide) (ty_120 hS.1.1) ?_
      refine Tr.imp (Tr.deep (by decide) (ns_X12_must__120_w4 (G120_3 := s79_120_3) (G120_4 := s79_120_4) (G120_5 := s79_120_5) (G120_7 := s79_120_7) (G120_8 := s79_120_8) (G9010_0 := s79_9010_0) hS.1 (((Wr.b w82 rfl).trans es79_120_3)) (((Wr.b w82 rfl).trans es79_120_4)) (((Wr.b w82 rfl).trans es79_120_5)) (((Wr.b w82 rfl).trans es79_120_7)) (((Wr.b w82 rfl).trans es79_120_8)) (((tav_of ((Wr.b w82 rfl).trans rfl) ((Wr.b w82 rfl).trans rfl)).trans es79_9010_0)) 2002873189 (by omega) (by first | exact (hd_o z79_0) | exact (hd_o z79_0).elim (fun h1 => by omega) (fun h1 => by omega)) (by omega) (by first | exact (hd_o z79_2) | exact (hd_o z79_2).elim (fun h1 => by omega) (fun h1 => h1.elim (fun h1 => by omega) (fun h1 => by omega))))) ?_
      rintro M87 _ ⟨h87, s87_120_3, s87_120_4, s87_120_5, s87_120_7, s87_120_8, s87_9010_0, es87_120_3, bs87_120_3, es87_120_4, bs87_120_4, es87_120_5, bs87_120_5, es87_120_7, bs87_120_7, es87_120_8, bs87_120_8, es87_9010_0, bs87_9010_0, rfl, z87_0, z87_1, z87_2, z87_3, z87_4, z87_5⟩
      have hS := St.tr hS h87 (by decide) (by decide)
      refine Tr.sc [] rfl ?_
      refine Tr.aload_n (pc := 90) (i := 0) d_X12_part_90 rfl rfl ?_
      refine Tr.getf (pc := 91) d_X12_part_91 f_12_79 (by decide) (by decide) (ty_120 hS.1.1) ?_
      refine Tr.tp 131 (fx_120_22 hS.1.1) ?_
      refine Tr.bipush (pc := 94) d_X12_part_94 rfl (by decide) ?_
      refine Tr.iload_n (pc := 96) (i := 1) d_X12_part_96 rfl rfl ?_
      refine Tr.imul (pc := 97) d_X12_part_97 ?_
      refine Tr.tp (6 * g126_0) ((w32_id (by and_intros <;> omega)).trans (by omega)) ?_
      refine Tr.iconst (pc := 98) d_X12_part_98 (by decide) ?_
      refine Tr.iadd (pc := 99) d_X12_part_99 ?_
      refine Tr.tp (6 * g126_0 + 1) ((w32_id (by and_intros <;> omega)).trans (by omega)) ?_
      refine Tr.aload_n (pc := 100) (i := 0) d_X12_part_100 rfl rfl ?_
      refine Tr.iconst (pc := 101) d_X12_part_101 (by decide) ?_
      refine Tr.bipush (pc := 102) d_X12_part_102 rfl (by decide) ?_
      refine Tr.callV (pc := 104) (as := [_, _]) d_X12_part_104 s_12_516 ok_X12_number rfl rfl (Nat.le_of_ble_eq_true rfl) (Nat.le_of_ble_eq_true rfl) (by decide) (ty_120 hS.1.1) ?_
      refine Tr.imp (Tr.deep (by decide) (ns_X12_number_120_w1 (G120_3 := s87_120_3) (G120_4 := s87_120_4) (G120_5 := s87_120_5) (G120_7 := s87_120_7) (G120_8 := s87_120_8) (G9010_0 := s87_9010_0) hS.1 (es87_120_3) (es87_120_4) (es87_120_5) (es87_120_7) (es87_120_8) (es87_9010_0) 0 (by omega) 20 (by omega) (by first | exact (hd_o z87_0) | exact (hd_o z87_0).elim (fun h1 => by omega) (fun h1 => by omega)) (by omega) (by first | exact (hd_o z87_2) | exact (hd_o z87_2).elim (fun h1 => by omega) (fun h1 => h1.elim (fun h1 => by omega) (fun h1 => by omega))))) ?_
      rintro M104 _ ⟨h104, s104_120_3, s104_120_4, s104_120_5, s104_120_7, s104_120_8, s104_9010_0, es104_120_3, bs104_120_3, es104_120_4, bs104_120_4, es104_120_5, bs104_120_5, es104_120_7, bs104_120_7, es104_120_8, bs104_120_8, es104_9010_0, bs104_9010_0, r104, rfl, lr104, ur104, z104_0, z104_1, z104_2, z104_3, z104_4, z104_5, z104_6⟩
      have hS := St.tr hS h104 (by decide) (by decide)
      refine Tr.sc [(0, r104), (0, (6 * g126_0 + 1)), (2, 131)] rfl ?_
      have kx_126_0 : rd M104 126 0 = g126_0 := ((kp_X12_number_120_w1_126_0 h104).trans ((kp_X12_must__120_w4_126_0 h87).trans ((Wr.b w82 rfl).trans ((kp_X12_number_120_w1_126_0 h79).trans ((kp_X12_must__120_w3_126_0 h63).trans ((Wr.b w58 rfl).trans ((kp_X12_fresh_120_w1_126_0 h55).trans ((kp_X12_counts_120_w1_126_0 h20).trans k20_126_0))))))))
      refine Tr.iastS (pc := 107) (P := St Pm0 ws_X12_part_120_w1 as_X12_part_120_w1 M0) d_X12_part_107 (ty_131 hS.1.1) (by omega) (by omega) (sa_131 hS (by decide) (by and_intros <;> omega) (Pm0_rate hS.1.2.2.2.2 hS.1.2.1 (by omega) (by exact (hd_o t20_0).elim (fun h1 => (hd_o z20_6).elim (fun h2 => by omega) (fun h2 => by omega)) (fun h1 => (ne_o h1.2).elim (fun h2 => by omega) (fun h2 => by omega))))) (fun M107 hS w107 => ?_)
      refine Tr.aload_n (pc := 108) (i := 0) d_X12_part_108 rfl rfl ?_
      refine Tr.getf (pc := 109) d_X12_part_109 f_12_79 (by decide) (by decide) (ty_120 hS.1.1) ?_
      refine Tr.tp 131 (fx_120_22 hS.1.1) ?_
      refine Tr.bipush (pc := 112) d_X12_part_112 rfl (by decide) ?_
      refine Tr.iload_n (pc := 114) (i := 1) d_X12_part_114 rfl rfl ?_
      refine Tr.imul (pc := 115) d_X12_part_115 ?_
      refine Tr.tp (6 * g126_0) ((w32_id (by and_intros <;> omega)).trans (by omega)) ?_
      refine Tr.iconst (pc := 116) d_X12_part_116 (by decide) ?_
      refine Tr.iadd (pc := 117) d_X12_part_117 ?_
      refine Tr.tp (6 * g126_0 + 2) ((w32_id (by and_intros <;> omega)).trans (by omega)) ?_
      refine Tr.aload_n (pc := 118) (i := 0) d_X12_part_118 rfl rfl ?_
      refine Tr.iconst (pc := 119) d_X12_part_119 (by decide) ?_
      refine Tr.sipush (pc := 120) d_X12_part_120 rfl (by decide) ?_
      refine Tr.callV (pc := 123) (as := [_, _]) d_X12_part_123 s_12_516 ok_X12_number rfl rfl (Nat.le_of_ble_eq_true rfl) (Nat.le_of_ble_eq_true rfl) (by decide) (ty_120 hS.1.1) ?_
      refine Tr.imp (Tr.deep (by decide) (ns_X12_number_120_w1 (G120_3 := s104_120_3) (G120_4 := s104_120_4) (G120_5 := s104_120_5) (G120_7 := s104_120_7) (G120_8 := s104_120_8) (G9010_0 := s104_9010_0) hS.1 (((Wr.b w107 rfl).trans es104_120_3)) (((Wr.b w107 rfl).trans es104_120_4)) (((Wr.b w107 rfl).trans es104_120_5)) (((Wr.b w107 rfl).trans es104_120_7)) (((Wr.b w107 rfl).trans es104_120_8)) (((tav_of ((Wr.b w107 rfl).trans rfl) ((Wr.b w107 rfl).trans rfl)).trans es104_9010_0)) 0 (by omega) 999 (by omega) (by first | exact (hd_o z104_0) | exact (hd_o z104_0).elim (fun h1 => by omega) (fun h1 => by omega)) (by omega) (by first | exact (hd_o z104_2) | exact (hd_o z104_2).elim (fun h1 => by omega) (fun h1 => h1.elim (fun h1 => by omega) (fun h1 => by omega))))) ?_
      rintro M123 _ ⟨h123, s123_120_3, s123_120_4, s123_120_5, s123_120_7, s123_120_8, s123_9010_0, es123_120_3, bs123_120_3, es123_120_4, bs123_120_4, es123_120_5, bs123_120_5, es123_120_7, bs123_120_7, es123_120_8, bs123_120_8, es123_9010_0, bs123_9010_0, r123, rfl, lr123, ur123, z123_0, z123_1, z123_2, z123_3, z123_4, z123_5, z123_6⟩
      have hS := St.tr hS h123 (by decide) (by decide)
      refine Tr.sc [(0, r123), (0, (6 * g126_0 + 2)), (2, 131)] rfl ?_
      have kx_126_0 : rd M123 126 0 = g126_0 := ((kp_X12_number_120_w1_126_0 h123).trans ((Wr.b w107 rfl).trans ((kp_X12_number_120_w1_126_0 h104).trans ((kp_X12_must__120_w4_126_0 h87).trans ((Wr.b w82 rfl).trans ((kp_X12_number_120_w1_126_0 h79).trans ((kp_X12_must__120_w3_126_0 h63).trans ((Wr.b w58 rfl).trans ((kp_X12_fresh_120_w1_126_0 h55).trans ((kp_X12_counts_120_w1_126_0 h20).trans k20_126_0))))))))))
      refine Tr.iastS (pc := 126) (P := St Pm0 ws_X12_part_120_w1 as_X12_part_120_w1 M0) d_X12_part_126 (ty_131 hS.1.1) (by omega) (by omega) (sa_131 hS (by decide) (by and_intros <;> omega) (Pm0_rate hS.1.2.2.2.2 hS.1.2.1 (by omega) (by exact (hd_o t20_0).elim (fun h1 => (hd_o z20_6).elim (fun h2 => by omega) (fun h2 => by omega)) (fun h1 => (ne_o h1.2).elim (fun h2 => by omega) (fun h2 => by omega))))) (fun M126 hS w126 => ?_)
      refine Tr.aload_n (pc := 127) (i := 0) d_X12_part_127 rfl rfl ?_
      refine Tr.ldc2 (pc := 128) d_X12_part_128 kl_12_409 (by decide) ?_
      refine Tr.callV (pc := 131) (as := [_]) d_X12_part_131 s_12_512 ok_X12_must_ rfl rfl (Nat.le_of_ble_eq_true rfl) (Nat.le_of_ble_eq_true rfl) (by decide) (ty_120 hS.1.1) ?_
      refine Tr.imp (Tr.deep (by decide) (ns_X12_must__120_w5 (G120_3 := s123_120_3) (G120_4 := s123_120_4) (G120_5 := s123_120_5) (G120_7 := s123_120_7) (G120_8 := s123_120_8) (G9010_0 := s123_9010_0) hS.1 (((Wr.b w126 rfl).trans es123_120_3)) (((Wr.b w126 rfl).trans es123_120_4)) (((Wr.b w126 rfl).trans es123_120_5)) (((Wr.b w126 rfl).trans es123_120_7)) (((Wr.b w126 rfl).trans es123_120_8)) (((tav_of ((Wr.b w126 rfl).trans rfl) ((Wr.b w126 rfl).trans rfl)).trans es123_9010_0)) 28526 (by omega) (by first | exact (hd_o z123_0) | exact (hd_o z123_0).elim (fun h1 => by omega) (fun h1 => by omega)) (by omega) (by first | exact (hd_o z123_2) | exact (hd_o z123_2).elim (fun h1 => by omega) (fun h1 => h1.elim (fun h1 => by omega) (fun h1 => by omega))))) ?_
      rintro M131 _ ⟨h131, s131_120_3, s131_120_4, s131_120_5, s131_120_7, s131_120_8, s131_9010_0, es131_120_3, bs131_120_3, es131_120_4, bs131_120_4, es131_120_5, bs131_120_5, es131_120_7, bs131_120_7, es131_120_8, bs131_120_8, es131_9010_0, bs131_9010_0, rfl, z131_0, z131_1, z131_2, z131_3, z131_4, z131_5⟩
      have hS := St.tr hS h131 (by decide) (by decide)
      refine Tr.sc [] rfl ?_
      refine Tr.aload_n (pc := 134) (i := 0) d_X12_part_134 rfl rfl ?_
      refine Tr.getf (pc := 135) d_X12_part_135 f_12_79 (by decide) (by decide) (ty_120 hS.1.1) ?_
      refine Tr.tp 131 (fx_120_22 hS.1.1) ?_
      refine Tr.bipush (pc := 138) d_X12_part_138 rfl (by decide) ?_
      refine Tr.iload_n (pc := 140) (i := 1) d_X12_part_140 rfl rfl ?_
      refine Tr.imul (pc := 141) d_X12_part_141 ?_
      refine Tr.tp (6 * g126_0) ((w32_id (by and_intros <;> omega)).trans (by omega)) ?_
      refine Tr.iconst (pc := 142) d_X12_part_142 (by decide) ?_
      refine Tr.iadd (pc := 143) d_X12_part_143 ?_
      refine Tr.tp (6 * g126_0 + 3) ((w32_id (by and_intros <;> omega)).trans (by omega)) ?_
      refine Tr.aload_n (pc := 144) (i := 0) d_X12_part_144 rfl rfl ?_
      refine Tr.iconst (pc := 145) d_X12_part_145 (by decide) ?_
      refine Tr.sipush (pc := 146) d_X12_part_146 rfl (by decide) ?_
      refine Tr.callV (pc := 149) (as := [_, _]) d_X12_part_149 s_12_516 ok_X12_number rfl rfl (Nat.le_of_ble_eq_true rfl) (Nat.le_of_ble_eq_true rfl) (by decide) (ty_120 hS.1.1) ?_
      refine Tr.imp (Tr.deep (by decide) (ns_X12_number_120_w1 (G120_3 := s131_120_3) (G120_4 := s131_120_4) (G120_5 := s131_120_5) (G120_7 := s131_120_7) (G120_8 := s131_120_8) (G9010_0 := s131_9010_0) hS.1 (es131_120_3) (es131_120_4) (es131_120_5) (es131_120_7) (es131_120_8) (es131_9010_0) 0 (by omega) 999 (by omega) (by first | exact (hd_o z131_0) | exact (hd_o z131_0).elim (fun h1 => by omega) (fun h1 => by omega)) (by omega) (by first | exact (hd_o z131_2) | exact (hd_o z131_2).elim (fun h1 => by omega) (fun h1 => h1.elim (fun h1 => by omega) (fun h1 => by omega))))) ?_
      rintro M149 _ ⟨h149, s149_120_3, s149_120_4, s149_120_5, s149_120_7, s149_120_8, s149_9010_0, es149_120_3, bs149_120_3, es149_120_4, bs149_120_4, es149_120_5, bs149_120_5, es149_120_7, bs149_120_7, es149_120_8, bs149_120_8, es149_9010_0, bs149_9010_0, r149, rfl, lr149, ur149, z149_0, z149_1, z149_2, z149_3, z149_4, z149_5, z149_6⟩
      have hS := St.tr hS h149 (by decide) (by decide)
      refine Tr.sc [(0, r149), (0, (6 * g126_0 + 3)), (2, 131)] rfl ?_
      have kx_126_0 : rd M149 126 0 = g126_0 := ((kp_X12_number_120_w1_126_0 h149).trans ((kp_X12_must__120_w5_126_0 h131).trans ((Wr.b w126 rfl).trans ((kp_X12_number_120_w1_126_0 h123).trans ((Wr.b w107 rfl).trans ((kp_X12_number_120_w1_126_0 h104).trans ((kp_X12_must__120_w4_126_0 h87).trans ((Wr.b w82 rfl).trans ((kp_X12_number_120_w1_126_0 h79).trans ((kp_X12_must__120_w3_126_0 h63).trans ((Wr.b w58 rfl).trans ((kp_X12_fresh_120_w1_126_0 h55).trans ((kp_X12_counts_120_w1_126_0 h20).trans k20_126_0)))))))))))))
      refine Tr.iastS (pc := 152) (P := St Pm0 ws_X12_part_120_w1 as_X12_part_120_w1 M0) d_X12_part_152 (ty_131 hS.1.1) (by omega) (by omega) (sa_131 hS (by decide) (by and_intros <;> omega) (Pm0_rate hS.1.2.2.2.2 hS.1.2.1 (by omega) (by exact (hd_o t20_0).elim (fun h1 => (hd_o z20_6).elim (fun h2 => by omega) (fun h2 => by omega)) (fun h1 => (ne_o h1.2).elim (fun h2 => by omega) (fun h2 => by omega))))) (fun M152 hS w152 => ?_)
      refine Tr.aload_n (pc := 153) (i := 0) d_X12_part_153 rfl rfl ?_
      refine Tr.ldc2 (pc := 154) d_X12_part_154 kl_12_411 (by decide) ?_
      refine Tr.callV (pc := 157) (as := [_]) d_X12_part_157 s_12_512 ok_X12_must_ rfl rfl (Nat.le_of_ble_eq_true rfl) (Nat.le_of_ble_eq_true rfl) (by decide) (ty_120 hS.1.1) ?_
      refine Tr.imp (Tr.deep (by decide) (ns_X12_must__120_w4 (G120_3 := s149_120_3) (G120_4 := s149_120_4) (G120_5 := s149_120_5) (G120_7 := s149_120_7) (G120_8 := s149_120_8) (G9010_0 := s149_9010_0) hS.1 (((Wr.b w152 rfl).trans es149_120_3)) (((Wr.b w152 rfl).trans es149_120_4)) (((Wr.b w152 rfl).trans es149_120_5)) (((Wr.b w152 rfl).trans es149_120_7)) (((Wr.b w152 rfl).trans es149_120_8)) (((tav_of ((Wr.b w152 rfl).trans rfl) ((Wr.b w152 rfl).trans rfl)).trans es149_9010_0)) 2003792491 (by omega) (by first | exact (hd_o z149_0) | exact (hd_o z149_0).elim (fun h1 => by omega) (fun h1 => by omega)) (by omega) (by first | exact (hd_o z149_2) | exact (hd_o z149_2).elim (fun h1 => by omega) (fun h1 => h1.elim (fun h1 => by omega) (fun h1 => by omega))))) ?_
      rintro M157 _ ⟨h157, s157_120_3, s157_120_4, s157_120_5, s157_120_7, s157_120_8, s157_9010_0, es157_120_3, bs157_120_3, es157_120_4, bs157_120_4, es157_120_5, bs157_120_5, es157_120_7, bs157_120_7, es157_120_8, bs157_120_8, es157_9010_0, bs157_9010_0, rfl, z157_0, z157_1, z157_2, z157_3, z157_4, z157_5⟩
      have hS := St.tr hS h157 (by decide) (by decide)
      refine Tr.sc [] rfl ?_
      refine Tr.aload_n (pc := 160) (i := 0) d_X12_part_160 rfl rfl ?_
      refine Tr.getf (pc := 161) d_X12_part_161 f_12_79 (by decide) (by decide) (ty_120 hS.1.1) ?_
      refine Tr.tp 131 (fx_120_22 hS.1.1) ?_
      refine Tr.bipush (pc := 164) d_X12_part_164 rfl (by decide) ?_
      refine Tr.iload_n (pc := 166) (i := 1) d_X12_part_166 rfl rfl ?_
      refine Tr.imul (pc := 167) d_X12_part_167 ?_
      refine Tr.tp (6 * g126_0) ((w32_id (by and_intros <;> omega)).trans (by omega)) ?_
      refine Tr.iconst (pc := 168) d_X12_part_168 (by decide) ?_
      refine Tr.iadd (pc := 169) d_X12_part_169 ?_
      refine Tr.tp (6 * g126_0 + 4) ((w32_id (by and_intros <;> omega)).trans (by omega)) ?_
      refine Tr.aload_n (pc := 170) (i := 0) d_X12_part_170 rfl rfl ?_
      refine Tr.iconst (pc := 171) d_X12_part_171 (by decide) ?_
      refine Tr.sipush (pc := 172) d_X12_part_172 rfl (by decide) ?_
      refine Tr.callV (pc := 175) (as := [_, _]) d_X12_part_175 s_12_516 ok_X12_number rfl rfl (Nat.le_of_ble_eq_true rfl) (Nat.le_of_ble_eq_true rfl) (by decide) (ty_120 hS.1.1) ?_
      refine Tr.imp (Tr.deep (by decide) (ns_X12_number_120_w1 (G120_3 := s157_120_3) (G120_4 := s157_120_4) (G120_5 := s157_120_5) (G120_7 := s157_120_7) (G120_8 := s157_120_8) (G9010_0 := s157_9010_0) hS.1 (es157_120_3) (es157_120_4) (es157_120_5) (es157_120_7) (es157_120_8) (es157_9010_0) 0 (by omega) 999 (by omega) (by first | exact (hd_o z157_0) | exact (hd_o z157_0).elim (fun h1 => by omega) (fun h1 => by omega)) (by omega) (by first | exact (hd_o z157_2) | exact (hd_o z157_2).elim (fun h1 => by omega) (fun h1 => h1.elim (fun h1 => by omega) (fun h1 => by omega))))) ?_
      rintro M175 _ ⟨h175, s175_120_3, s175_120_4, s175_120_5, s175_120_7, s175_120_8, s175_9010_0, es175_120_3, bs175_120_3, es175_120_4, bs175_120_4, es175_120_5, bs175_120_5, es175_120_7, bs175_120_7, es175_120_8, bs175_120_8, es175_9010_0, bs175_9010_0, r175, rfl, lr175, ur175, z175_0, z175_1, z175_2, z175_3, z175_4, z175_5, z175_6⟩
      have hS := St.tr hS h175 (by decide) (by decide)
      refine Tr.sc [(0, r175), (0, (6 * g126_0 + 4)), (2, 131)] rfl ?_
      have kx_126_0 : rd M175 126 0 = g126_0 := ((kp_X12_number_120_w1_126_0 h175).trans ((kp_X12_must__120_w4_126_0 h157).trans ((Wr.b w152 rfl).trans ((kp_X12_number_120_w1_126_0 h149).trans ((kp_X12_must__120_w5_126_0 h131).trans ((Wr.b w126 rfl).trans ((kp_X12_number_120_w1_126_0 h123).trans ((Wr.b w107 rfl).trans ((kp_X12_number_120_w1_126_0 h104).trans ((kp_X12_must__120_w4_126_0 h87).trans ((Wr.b w82 rfl).trans ((kp_X12_number_120_w1_126_0 h79).trans ((kp_X12_must__120_w3_126_0 h63).trans ((Wr.b w58 rfl).trans ((kp_X12_fresh_120_w1_126_0 h55).trans ((kp_X12_counts_120_w1_126_0 h20).trans k20_126_0))))))))))))))))
      refine Tr.iastS (pc := 178) (P := St Pm0 ws_X12_part_120_w1 as_X12_part_120_w1 M0) d_X12_part_178 (ty_131 hS.1.1) (by omega) (by omega) (sa_131 hS (by decide) (by and_intros <;> omega) (Pm0_rate hS.1.2.2.2.2 hS.1.2.1 (by omega) (by exact (hd_o t20_0).elim (fun h1 => (hd_o z20_6).elim (fun h2 => by omega) (fun h2 => by omega)) (fun h1 => (ne_o h1.2).elim (fun h2 => by omega) (fun h2 => by omega))))) (fun M178 hS w178 => ?_)
      refine Tr.aload_n (pc := 179) (i := 0) d_X12_part_179 rfl rfl ?_
      refine Tr.ldc2 (pc := 180) d_X12_part_180 kl_12_413 (by decide) ?_
      refine Tr.callV (pc := 183) (as := [_]) d_X12_part_183 s_12_512 ok_X12_must_ rfl rfl (Nat.le_of_ble_eq_true rfl) (Nat.le_of_ble_eq_true rfl) (by decide) (ty_120 hS.1.1) ?_
      refine Tr.imp (Tr.deep (by decide) (ns_X12_must__120_w4 (G120_3 := s175_120_3) (G120_4 := s175_120_4) (G120_5 := s175_120_5) (G120_7 := s175_120_7) (G120_8 := s175_120_8) (G9010_0 := s175_9010_0) hS.1 (((Wr.b w178 rfl).trans es175_120_3)) (((Wr.b w178 rfl).trans es175_120_4)) (((Wr.b w178 rfl).trans es175_120_5)) (((Wr.b w178 rfl).trans es175_120_7)) (((Wr.b w178 rfl).trans es175_120_8)) (((tav_of ((Wr.b w178 rfl).trans rfl) ((Wr.b w178 rfl).trans rfl)).trans es175_9010_0)) 1952541036 (by omega) (by first | exact (hd_o z175_0) | exact (hd_o z175_0).elim (fun h1 => by omega) (fun h1 => by omega)) (by omega) (by first | exact (hd_o z175_2) | exact (hd_o z175_2).elim (fun h1 => by omega) (fun h1 => h1.elim (fun h1 => by omega) (fun h1 => by omega))))) ?_
      rintro M183 _ ⟨h183, s183_120_3, s183_120_4, s183_120_5, s183_120_7, s183_120_8, s183_9010_0, es183_120_3, bs183_120_3, es183_120_4, bs183_120_4, es183_120_5, bs183_120_5, es183_120_7, bs183_120_7, es183_120_8, bs183_120_8, es183_9010_0, bs183_9010_0, rfl, z183_0, z183_1, z183_2, z183_3, z183_4, z183_5⟩
      have hS := St.tr hS h183 (by decide) (by decide)
      refine Tr.sc [] rfl ?_
      refine Tr.aload_n (pc := 186) (i := 0) d_X12_part_186 rfl rfl ?_
      refine Tr.getf (pc := 187) d_X12_part_187 f_12_79 (by decide) (by decide) (ty_120 hS.1.1) ?_
      refine Tr.tp 131 (fx_120_22 hS.1.1) ?_
      refine Tr.bipush (pc := 190) d_X12_part_190 rfl (by decide) ?_
      refine Tr.iload_n (pc := 192) (i := 1) d_X12_part_192 rfl rfl ?_
      refine Tr.imul (pc := 193) d_X12_part_193 ?_
      refine Tr.tp (6 * g126_0) ((w32_id (by and_intros <;> omega)).trans (by omega)) ?_
      refine Tr.iconst (pc := 194) d_X12_part_194 (by decide) ?_
      refine Tr.iadd (pc := 195) d_X12_part_195 ?_
      refine Tr.tp (6 * g126_0 + 5) ((w32_id (by and_intros <;> omega)).trans (by omega)) ?_
      refine Tr.aload_n (pc := 196) (i := 0) d_X12_part_196 rfl rfl ?_
      refine Tr.iconst (pc := 197) d_X12_part_197 (by decide) ?_
      refine Tr.bipush (pc := 198) d_X12_part_198 rfl (by decide) ?_
      refine Tr.callV (pc := 200) (as := [_, _]) d_X12_part_200 s_12_516 ok_X12_number rfl rfl (Nat.le_of_ble_eq_true rfl) (Nat.le_of_ble_eq_true rfl) (by decide) (ty_120 hS.1.1) ?_
      refine Tr.imp (Tr.deep (by decide) (ns_X12_number_120_w1 (G120_3 := s183_120_3) (G120_4 := s183_120_4) (G120_5 := s183_120_5) (G120_7 := s183_120_7) (G120_8 := s183_120_8) (G9010_0 := s183_9010_0) hS.1 (es183_120_3) (es183_120_4) (es183_120_5) (es183_120_7) (es183_120_8) (es183_9010_0) 0 (by omega) 50 (by omega) (by first | exact (hd_o z183_0) | exact (hd_o z183_0).elim (fun h1 => by omega) (fun h1 => by omega)) (by omega) (by first | exact (hd_o z183_2) | exact (hd_o z183_2).elim (fun h1 => by omega) (fun h1 => h1.elim (fun h1 => by omega) (fun h1 => by omega))))) ?_
      rintro M200 _ ⟨h200, s200_120_3, s200_120_4, s200_120_5, s200_120_7, s200_120_8, s200_9010_0, es200_120_3, bs200_120_3, es200_120_4, bs200_120_4, es200_120_5, bs200_120_5, es200_120_7, bs200_120_7, es200_120_8, bs200_120_8, es200_9010_0, bs200_9010_0, r200, rfl, lr200, ur200, z200_0, z200_1, z200_2, z200_3, z200_4, z200_5, z200_6⟩
      have hS := St.tr hS h200 (by decide) (by decide)
      refine Tr.sc [(0, r200), (0, (6 * g126_0 + 5)), (2, 131)] rfl ?_
      have kx_126_0 : rd M200 126 0 = g126_0 := ((kp_X12_number_120_w1_126_0 h200).trans ((kp_X12_must__120_w4_126_0 h183).trans ((Wr.b w178 rfl).trans ((kp_X12_number_120_w1_126_0 h175).trans ((kp_X12_must__120_w4_126_0 h157).trans ((Wr.b w152 rfl).trans ((kp_X12_number_120_w1_126_0 h149).trans ((kp_X12_must__120_w5_126_0 h131).trans ((Wr.b w126 rfl).trans ((kp_X12_number_120_w1_126_0 h123).trans ((Wr.b w107 rfl).trans ((kp_X12_number_120_w1_126_0 h104).trans ((kp_X12_must__120_w4_126_0 h87).trans ((Wr.b w82 rfl).trans ((kp_X12_number_120_w1_126_0 h79).trans ((kp_X12_must__120_w3_126_0 h63).trans ((Wr.b w58 rfl).trans ((kp_X12_fresh_120_w1_126_0 h55).trans ((kp_X12_counts_120_w1_126_0 h20).trans k20_126_0)))))))))))))))))))
      refine Tr.iastS (pc := 203) (P := St Pm0 ws_X12_part_120_w1 as_X12_part_120_w1 M0) d_X12_part_203 (ty_131 hS.1.1) (by omega) (by omega) (sa_131 hS (by decide) (by and_intros <;> omega) (Pm0_rate hS.1.2.2.2.2 hS.1.2.1 (by omega) (by exact (hd_o t20_0).elim (fun h1 => (hd_o z20_6).elim (fun h2 => by omega) (fun h2 => by omega)) (fun h1 => (ne_o h1.2).elim (fun h2 => by omega) (fun h2 => by omega))))) (fun M203 hS w203 => ?_)
      refine Tr.aload_n (pc := 204) (i := 0) d_X12_part_204 rfl rfl ?_
      refine Tr.getf (pc := 205) d_X12_part_205 f_12_36 (by decide) (by decide) (ty_120 hS.1.1) ?_
      refine Tr.tp s200_120_8 ((Wr.b w203 rfl).trans es200_120_8) ?_
      refine Tr.if_ne (pc := 208) (tgt := 224) d_X12_part_208 rfl (fun c208 => ?_) (fun c208 => ?_)
      · have c208b : 1 ≤ s200_120_8 ∧ s200_120_8 ≤ 5 := by omega
        replace c208 := hd_i c208
        have kr_120_3 : rd M203 120 3 = s200_120_3 := ((Wr.b w203 rfl).trans es200_120_3)
        have kr_120_4 : rd M203 120 4 = s200_120_4 := ((Wr.b w203 rfl).trans es200_120_4)
        have kr_120_5 : rd M203 120 5 = s200_120_5 := ((Wr.b w203 rfl).trans es200_120_5)
        have kr_120_7 : rd M203 120 7 = s200_120_7 := ((Wr.b w203 rfl).trans es200_120_7)
        have kr_120_8 : rd M203 120 8 = s200_120_8 := ((Wr.b w203 rfl).trans es200_120_8)
        have kr_9010_0 : tav M203 = s200_9010_0 := ((tav_of ((Wr.b w203 rfl).trans rfl) ((Wr.b w203 rfl).trans rfl)).trans es200_9010_0)
        exact Tr.vret (pc := 224) d_X12_part_224 rfl ⟨hS, rfl, (by first | exact (hd_o z200_0) | exact (hd_o z200_0).elim (fun h1 => by omega) (fun h1 => by omega)), (by omega), (by first | exact (hd_o z200_2) | exact (hd_o z200_2).elim (fun h1 => by omega) (fun h1 => h1.elim (fun h1 => by omega) (fun h1 => by omega))), (by and_intros <;> omega), (by omega), (by omega)⟩
      · refine Tr.aload_n (pc := 211) (i := 0) d_X12_part_211 rfl rfl ?_
        refine Tr.getf (pc := 212) d_X12_part_212 f_12_63 (by decide) (by decide) (ty_120 hS.1.1) ?_
        refine Tr.tp 126 (fx_120_17 hS.1.1) ?_
        refine Tr.aload_n (pc := 215) (i := 0) d_X12_part_215 rfl rfl ?_
        refine Tr.getf (pc := 216) d_X12_part_216 f_12_124 (by decide) (by decide) (ty_120 hS.1.1) ?_
        refine Tr.tp 0 ((kp_X12_part_120_w1_120_37 hS).trans en_120_37) ?_
        refine Tr.dup2 (pc := 219) d_X12_part_219 ne01 ne21 ?_
        refine Tr.iald (pc := 220) d_X12_part_220 (ty_126 hS.1.1) (by omega) (by omega) ?_
        refine Tr.tp g126_0 ((Wr.b w203 rfl).trans ((kp_X12_number_120_w1_126_0 h200).trans ((kp_X12_must__120_w4_126_0 h183).trans ((Wr.b w178 rfl).trans ((kp_X12_number_120_w1_126_0 h175).trans ((kp_X12_must__120_w4_126_0 h157).trans ((Wr.b w152 rfl).trans ((kp_X12_number_120_w1_126_0 h149).trans ((kp_X12_must__120_w5_126_0 h131).trans ((Wr.b w126 rfl).trans ((kp_X12_number_120_w1_126_0 h123).trans ((Wr.b w107 rfl).trans ((kp_X12_number_120_w1_126_0 h104).trans ((kp_X12_must__120_w4_126_0 h87).trans ((Wr.b w82 rfl).trans ((kp_X12_number_120_w1_126_0 h79).trans ((kp_X12_must__120_w3_126_0 h63).trans ((Wr.b w58 rfl).trans ((kp_X12_fresh_120_w1_126_0 h55).trans ((kp_X12_counts_120_w1_126_0 h20).trans k20_126_0)))))))))))))))))))) ?_
        refine Tr.iconst (pc := 221) d_X12_part_221 (by decide) ?_
        refine Tr.iadd (pc := 222) d_X12_part_222 ?_
        refine Tr.tp (g126_0 + 1) ((w32_id (by and_intros <;> omega)).trans (by omega)) ?_
        have hr5 : rd M203 131 (6 * g126_0 + 5) = r200 := w203.1
        have kx_126_0 : rd M203 126 0 = g126_0 := ((Wr.b w203 rfl).trans ((kp_X12_number_120_w1_126_0 h200).trans ((kp_X12_must__120_w4_126_0 h183).trans ((Wr.b w178 rfl).trans ((kp_X12_number_120_w1_126_0 h175).trans ((kp_X12_must__120_w4_126_0 h157).trans ((Wr.b w152 rfl).trans ((kp_X12_number_120_w1_126_0 h149).trans ((kp_X12_must__120_w5_126_0 h131).trans ((Wr.b w126 rfl).trans ((kp_X12_number_120_w1_126_0 h123).trans ((Wr.b w107 rfl).trans ((kp_X12_number_120_w1_126_0 h104).trans ((kp_X12_must__120_w4_126_0 h87).trans ((Wr.b w82 rfl).trans ((kp_X12_number_120_w1_126_0 h79).trans ((kp_X12_must__120_w3_126_0 h63).trans ((Wr.b w58 rfl).trans ((kp_X12_fresh_120_w1_126_0 h55).trans ((kp_X12_counts_120_w1_126_0 h20).trans k20_126_0))))))))))))))))))))
        refine Tr.iastS (pc := 223) (P := St Pm0 ws_X12_part_120_w1 as_X12_part_120_w1 M0) d_X12_part_223 (ty_126 hS.1.1) (by omega) (by omega) (st_126_0 hS (by decide) (by exact (hd_o t20_0).elim (fun h1 => (hd_o z20_6).elim (fun h2 => by omega) (fun h2 => by omega)) (fun h1 => (ne_o h1.2).elim (fun h2 => by omega) (fun h2 => by omega))) (Pm0_parts hS.1.2.2.2.2 (by omega) (by have e9 : rd M203 126 0 = g126_0 := ((Wr.b w203 rfl).trans ((kp_X12_number_120_w1_126_0 h200).trans ((kp_X12_must__120_w4_126_0 h183).trans ((Wr.b w178 rfl).trans ((kp_X12_number_120_w1_126_0 h175).trans ((kp_X12_must__120_w4_126_0 h157).trans ((Wr.b w152 rfl).trans ((kp_X12_number_120_w1_126_0 h149).trans ((kp_X12_must__120_w5_126_0 h131).trans ((Wr.b w126 rfl).trans ((kp_X12_number_120_w1_126_0 h123).trans ((Wr.b w107 rfl).trans ((kp_X12_number_120_w1_126_0 h104).trans ((kp_X12_must__120_w4_126_0 h87).trans ((Wr.b w82 rfl).trans ((kp_X12_number_120_w1_126_0 h79).trans ((kp_X12_must__120_w3_126_0 h63).trans ((Wr.b w58 rfl).trans ((kp_X12_fresh_120_w1_126_0 h55).trans ((kp_X12_counts_120_w1_126_0 h20).trans k20_126_0)))))))))))))))))))); rw [e9]; have e8 : rd M203 131 (0 + 6 * g126_0 + 5) = rd M203 131 (6 * g126_0 + 5) := congrArg _ (by omega); have e7 : r200 ≤ 50 := (by exact (hd_o z200_6).elim (fun h1 => by omega) (fun h1 => by omega)); omega))) (fun M223 hS w223 => ?_)
        have kr_120_3 : rd M223 120 3 = s200_120_3 := ((Wr.b w223 rfl).trans ((Wr.b w203 rfl).trans es200_120_3))
        have kr_120_4 : rd M223 120 4 = s200_120_4 := ((Wr.b w223 rfl).trans ((Wr.b w203 rfl).trans es200_120_4))
        have kr_120_5 : rd M223 120 5 = s200_120_5 := ((Wr.b w223 rfl).trans ((Wr.b w203 rfl).trans es200_120_5))
        have kr_120_7 : rd M223 120 7 = s200_120_7 := ((Wr.b w223 rfl).trans ((Wr.b w203 rfl).trans es200_120_7))
        have kr_120_8 : rd M223 120 8 = s200_120_8 := ((Wr.b w223 rfl).trans ((Wr.b w203 rfl).trans es200_120_8))
        have kr_9010_0 : tav M223 = s200_9010_0 := ((tav_of ((Wr.b w223 rfl).trans ((Wr.b w203 rfl).trans rfl)) ((Wr.b w223 rfl).trans ((Wr.b w203 rfl).trans rfl))).trans es200_9010_0)
        exact Tr.vret (pc := 224) d_X12_part_224 rfl ⟨hS, rfl, (by first | exact (hd_o z200_0) | exact (hd_o z200_0).elim (fun h1 => by omega) (fun h1 => by omega)), (by omega), (by first | exact (hd_o z200_2) | exact (hd_o z200_2).elim (fun h1 => by omega) (fun h1 => h1.elim (fun h1 => by omega) (fun h1 => by omega))), (by and_intros <;> omega), (by omega), (by exact (hd_o z200_5).elim (fun h1 => by omega) (fun h1 => by omega))⟩
    · have kr_120_3 : rd M20 120 3 = s20_120_3 := es20_120_3
      have kr_120_4 : rd M20 120 4 = s20_120_4 := es20_120_4
      have kr_120_5 : rd M20 120 5 = s20_120_5 := es20_120_5
      have kr_120_7 : rd M20 120 7 = s20_120_7 := es20_120_7
      have kr_120_8 : rd M20 120 8 = s20_120_8 := es20_120_8
      have kr_9010_0 : tav M20 = s20_9010_0 := es20_9010_0
      exact Tr.vret (pc := 30) d_X12_part_30 rfl ⟨hS, rfl, (by first | exact (hd_o z20_0) | exact (hd_o z20_0).elim (fun h1 => by omega) (fun h1 => by omega)), (by omega), (by first | exact (hd_o z20_2) | exact (hd_o z20_2).elim (fun h1 => by omega) (fun h1 => h1.elim (fun h1 => by omega) (fun h1 => by omega))), (by and_intros <;> omega), (by first | exact (hd_o z20_4) | exact (hd_o z20_4).elim (fun h1 => by omega) (fun h1 => by omega)), (by first | exact (hd_o z20_5) | exact (hd_o z20_5).elim (fun h1 => by omega) (fun h1 => by omega))⟩
  refine Tr.icmp_ne (pc := 12) (tgt := 19) d_X12_part_12 rfl (fun c12 => ?_) (fun c12 => ?_)
  · have c12b : 0 ≤ g126_0 ∧ g126_0 ≤ 5 := by omega
    replace c12 := hd_i c12
    refine Tr.iconst (pc := 19) d_X12_part_19 (by decide) ?_
    refine Tr.pick [0] (ls2 := [(0, (2, 120))]) rfl ?_
    exact J20 _ _ hS (by omega) eg120_3 eg120_4 eg120_5 eg120_7 eg120_8 eg126_0 eg9010_0 (by omega)
  · refine Tr.iconst (pc := 15) d_X12_part_15 (by decide) ?_
    refine Tr.goto (pc := 16) (tgt := 20) d_X12_part_16 rfl ?_
    refine Tr.pick [0] (ls2 := [(0, (2, 120))]) rfl ?_
    exact J20 _ _ hS (by omega) eg120_3 eg120_4 eg120_5 eg120_7 eg120_8 eg126_0 eg9010_0 (by omega)

set_option maxRecDepth 100000 in
set_option maxHeartbeats 4000000 in
theorem ns_X12_part_120_w1 {l : Launch} {K : EC} {M0 : Mem} {G120_3 G120_4 G120_5 G120_7 G120_8 G9010_0 : Int} (hI : In Pm0 M0) (k120_3 : rd M0 120 3 = G120_3) (k120_4 : rd M0 120 4 = G120_4) (k120_5 : rd M0 120 5 = G120_5) (k120_7 : rd M0 120 7 = G120_7) (k120_8 : rd M0 120 8 = G120_8) (k9010_0 : tav M0 = G9010_0) (en_120_37 : rd M0 120 37 = 0)   (hq0 : G120_3 = 0 ∨ G120_4 + 1 ≤ G120_5) (hq1 : G120_4 ≤ G120_5) (hq2 : G120_3 ≠ 1 ∨ G120_4 + 2 ≤ G120_5 ∨ G120_7 < 256) (hq3 : G120_3 ≠ 0) (hq4 : G120_8 = 0) : Tr l K 3 mX12_part 0 [(0, (2, 120))] [] M0 (fun M' r => St Pm0 ws_X12_part_120_w1 as_X12_part_120_w1 M0 M' ∧ ∃ S120_3 S120_4 S120_5 S120_7 S120_8 S9010_0 : Int, rd M' 120 3 = S120_3 ∧ (0 ≤ S120_3 ∧ S120_3 ≤ 3) ∧ rd M' 120 4 = S120_4 ∧ (0 ≤ S120_4 ∧ S120_4 ≤ 900) ∧ rd M' 120 5 = S120_5 ∧ (0 ≤ S120_5 ∧ S120_5 ≤ 900) ∧ rd M' 120 7 = S120_7 ∧ ((-9223372036854775808) ≤ S120_7 ∧ S120_7 ≤ 9223372036854775807) ∧ rd M' 120 8 = S120_8 ∧ (0 ≤ S120_8 ∧ S120_8 ≤ 5) ∧ tav M' = S9010_0 ∧ ((-1) ≤ S9010_0 ∧ S9010_0 ≤ 1800) ∧ r = none ∧ Hd (S120_3 = 0 ∨ S120_4 + 1 ≤ S120_5) ∧ (S120_4 ≤ S120_5) ∧ Hd (S120_3 ≠ 1 ∨ S120_4 + 2 ≤ S120_5 ∨ S120_7 < 256) ∧ (G120_4 ≤ S120_4 ∧ G120_5 ≤ S120_5 ∧ G9010_0 ≤ S9010_0) ∧ Hd (G120_8 = 0 ∨ S120_8 = G120_8) ∧ Hd (1 ≤ S120_8 ∨ G9010_0 < S9010_0)) := by
  subst k120_3
  subst k120_4
  subst k120_5
  subst k120_7
  subst k120_8
  subst k9010_0
  refine Tr.imp (sp_X12_part_120_w1 hI en_120_37 hq0 hq1 hq2 hq3 hq4) ?_
  rintro M' _ ⟨hS, rfl, z0, z1, z2, z3, z4, z5⟩
  exact ⟨hS, _, _, _, _, _, _, rfl, ir_120_3 hS.1.2.1, rfl, ir_120_4 hS.1.2.1, rfl, ir_120_5 hS.1.2.1, rfl, ir_120_7 hS.1.2.1, rfl, ir_120_8 hS.1.2.1, rfl, (tav_b hS.1.2.1), rfl, hd_i z0, z1, hd_i z2, z3, hd_i z4, hd_i z5⟩

def ws_X12_must_120_w1 : List (Int × Int) := [(120, 3), (120, 4), (120, 5), (120, 6), (120, 7), (120, 8), (120, 9)]
def as_X12_must_120_w1 : List Int := []
def q_X12_must_120_w1 (a1 : Int) (M0 M' : Mem) (r : Option PV) : Prop := St Pm0 ws_X12_must_120_w1 as_X12_must_120_w1 M0 M' ∧ r = none ∧ (rd M' 120 3 = 0 ∨ rd M' 120 4 + 1 ≤ rd M' 120 5) ∧ (rd M' 120 4 ≤ rd M' 120 5) ∧ (rd M' 120 3 ≠ 1 ∨ rd M' 120 4 + 2 ≤ rd M' 120 5 ∨ rd M' 120 7 < 256) ∧ (rd M0 120 4 ≤ rd M' 120 4 ∧ rd M0 120 5 ≤ rd M' 120 5 ∧ tav M0 ≤ tav M') ∧ (rd M0 120 8 = 0 ∨ rd M' 120 8 = rd M0 120 8) ∧ (1 ≤ rd M' 120 8 ∨ tav M0 < tav M')
set_option maxRecDepth 100000 in
set_option maxHeartbeats 4000000 in
theorem sp_X12_must_120_w1 {l : Launch} {K : EC} {M0 : Mem} (hI : In Pm0 M0)  (a1 : Int) (ha1 : 0 ≤ a1 ∧ a1 ≤ 300)  (hq0 : rd M0 120 3 = 0 ∨ rd M0 120 4 + 1 ≤ rd M0 120 5) (hq1 : rd M0 120 4 ≤ rd M0 120 5) (hq2 : rd M0 120 3 ≠ 1 ∨ rd M0 120 4 + 2 ≤ rd M0 120 5 ∨ rd M0 120 7 < 256) : Tr l K 2 mX12_must 0 [(0, (2, 120)), (1, (0, a1))] [] M0 (q_X12_must_120_w1 a1 M0) := by
  have hS : St Pm0 ws_X12_must_120_w1 as_X12_must_120_w1 M0 M0 := St.rf hI
  obtain ⟨g120_8, eg120_8⟩ : ∃ v, rd M0 120 8 = v := ⟨_, rfl⟩
  have bg120_8 : 0 ≤ g120_8 ∧ g120_8 ≤ 5 := by rw [← eg120_8]; exact ir_120_8 hI.2.1
  obtain ⟨g120_3, eg120_3⟩ : ∃ v, rd M0 120 3 = v := ⟨_, rfl⟩
  have bg120_3 : 0 ≤ g120_3 ∧ g120_3 ≤ 3 := by rw [← eg120_3]; exact ir_120_3 hI.2.1
  obtain ⟨g120_4, eg120_4⟩ : ∃ v, rd M0 120 4 = v := ⟨_, rfl⟩
  have bg120_4 : 0 ≤ g120_4 ∧ g120_4 ≤ 900 := by rw [← eg120_4]; exact ir_120_4 hI.2.1
  obtain ⟨g120_5, eg120_5⟩ : ∃ v, rd M0 120 5 = v := ⟨_, rfl⟩
  have bg120_5 : 0 ≤ g120_5 ∧ g120_5 ≤ 900 := by rw [← eg120_5]; exact ir_120_5 hI.2.1
  obtain ⟨g120_7, eg120_7⟩ : ∃ v, rd M0 120 7 = v := ⟨_, rfl⟩
  have bg120_7 : (-9223372036854775808) ≤ g120_7 ∧ g120_7 ≤ 9223372036854775807 := by rw [← eg120_7]; exact ir_120_7 hI.2.1
  obtain ⟨g9010_0, eg9010_0⟩ : ∃ v, tav M0 = v := ⟨_, rfl⟩
  have bg9010_0 : (-1) ≤ g9010_0 ∧ g9010_0 ≤ 1800 := by rw [← eg9010_0]; exact (tav_b hI.2.1)
  obtain ⟨g120_6, eg120_6⟩ : ∃ v, rd M0 120 6 = v := ⟨_, rfl⟩
  have bg120_6 : (-2147483648) ≤ g120_6 ∧ g120_6 ≤ 2147483647 := by rw [← eg120_6]; exact ir_120_6 hI.2.1
  replace hq0 := hd_i hq0
  replace hq2 := hd_i hq2
  refine Tr.aload_n (pc := 0) (i := 0) d_X12_must_0 rfl rfl ?_
  refine Tr.iload_n (pc := 1) (i := 1) d_X12_must_1 rfl rfl ?_
  refine Tr.callV (pc := 2) (as := [_]) d_X12_must_2 s_12_393 ok_X12_isSign rfl rfl (Nat.le_of_ble_eq_true rfl) (Nat.le_of_ble_eq_true rfl) (by decide) (ty_120 hS.1.1) ?_
  refine Tr.imp (Tr.deep (by decide) (ns_X12_isSign_120 (G120_3 := g120_3) (G120_6 := g120_6) hS.1.wk (eg120_3) (eg120_6) a1 (by and_intros <;> omega))) ?_
  rintro M2 _ ⟨h2, r2, rfl, lr2, ur2, z2_0⟩
  have h2 := St.rn h2 (Pm0.of hS.1.2.2.2.2 (fun _ => (ka_X12_isSign_120_131 h2 _)) (fun _ => (ka_X12_isSign_120_137 h2 _)) (fun _ => (ka_X12_isSign_120_138 h2 _)) (fun _ => (ka_X12_isSign_120_139 h2 _)) (fun _ => (ka_X12_isSign_120_140 h2 _)) (fun _ => (ka_X12_isSign_120_141 h2 _)) (fun _ => (ka_X12_isSign_120_142 h2 _)) (fun _ => (ka_X12_isSign_120_143 h2 _)) (fun _ => (ka_X12_isSign_120_151 h2 _)) (fun _ => (ka_X12_isSign_120_152 h2 _)) (kp_X12_isSign_120_126_0 h2) (kp_X12_isSign_120_126_1 h2) (kp_X12_isSign_120_136_0 h2) (kp_X12_isSign_120_136_1 h2) (kp_X12_isSign_120_123_0 h2) (kp_X12_isSign_120_123_1 h2) (kp_X12_isSign_120_124_0 h2) (kp_X12_isSign_120_124_1 h2) (kp_X12_isSign_120_120_8 h2) (kp_X12_isSign_120_120_36 h2) (kp_X12_isSign_120_120_50 h2))
  have hS := St.tr hS h2 (by decide) (by decide)
  refine Tr.sc [(0, r2)] rfl ?_
  have J17 : ∀ (M : Mem) (u17_120_8 : Int), St Pm0 ws_X12_must_120_w1 as_X12_must_120_w1 M0 M → (0 ≤ u17_120_8 ∧ u17_120_8 ≤ 5) → rd M 120 3 = g120_3 → rd M 120 4 = g120_4 → rd M 120 5 = g120_5 → rd M 120 6 = g120_6 → rd M 120 7 = g120_7 → rd M 120 8 = u17_120_8 → tav M = g9010_0 → (u17_120_8 ≠ 0 ∨ g120_3 ≠ 0) → (g120_8 = 0 ∨ u17_120_8 = g120_8) → Tr l K 2 mX12_must 17 [(0, (2, 120))] [] M (q_X12_must_120_w1 a1 M0) := by
    intro M u17_120_8 hS bu17_120_8 k17_120_3 k17_120_4 k17_120_5 k17_120_6 k17_120_7 k17_120_8 k17_9010_0 t17_0 t17_1
    replace t17_0 := hd_i t17_0
    replace t17_1 := hd_i t17_1
    refine Tr.aload_n (pc := 17) (i := 0) d_X12_must_17 rfl rfl ?_
    refine Tr.getf (pc := 18) d_X12_must_18 f_12_36 (by decide) (by decide) (ty_120 hS.1.1) ?_
    refine Tr.tp u17_120_8 k17_120_8 ?_
    refine Tr.if_ne (pc := 21) (tgt := 28) d_X12_must_21 rfl (fun c21 => ?_) (fun c21 => ?_)
    · have c21b : 1 ≤ u17_120_8 ∧ u17_120_8 ≤ 5 := by omega
      replace c21 := hd_i c21
      have kr_120_3 : rd M 120 3 = g120_3 := k17_120_3
      have kr_120_4 : rd M 120 4 = g120_4 := k17_120_4
      have kr_120_5 : rd M 120 5 = g120_5 := k17_120_5
      have kr_120_7 : rd M 120 7 = g120_7 := k17_120_7
      have kr_120_8 : rd M 120 8 = u17_120_8 := k17_120_8
      have kr_9010_0 : tav M = g9010_0 := k17_9010_0
      exact Tr.vret (pc := 28) d_X12_must_28 rfl ⟨hS, rfl, (by first | exact (hd_o hq0) | exact (hd_o hq0).elim (fun h1 => by omega) (fun h1 => by omega)), (by omega), (by first | exact (hd_o hq2) | exact (hd_o hq2).elim (fun h1 => by omega) (fun h1 => h1.elim (fun h1 => by omega) (fun h1 => by omega))), (by and_intros <;> omega), (by first | exact (hd_o t17_1) | exact (hd_o t17_1).elim (fun h1 => by omega) (fun h1 => by omega)), (by omega)⟩
    · refine Tr.aload_n (pc := 24) (i := 0) d_X12_must_24 rfl rfl ?_
      refine Tr.callV (pc := 25) (as := []) d_X12_must_25 s_12_396 ok_X12_next rfl rfl (Nat.le_of_ble_eq_true rfl) (Nat.le_of_ble_eq_true rfl) (by decide) (ty_120 hS.1.1) ?_
      refine Tr.imp (Tr.deep (by decide) (ns_X12_next_120_w1 (G120_3 := g120_3) (G120_5 := g120_5) (G120_8 := u17_120_8) (G9010_0 := g9010_0) hS.1 (k17_120_3) (k17_120_5) (k17_120_8) (k17_9010_0))) ?_
      rintro M25 _ ⟨h25, s25_120_3, s25_120_4, s25_120_5, s25_120_7, s25_120_8, s25_9010_0, es25_120_3, bs25_120_3, es25_120_4, bs25_120_4, es25_120_5, bs25_120_5, es25_120_7, bs25_120_7, es25_120_8, bs25_120_8, es25_9010_0, bs25_9010_0, rfl, z25_0, z25_1, z25_2, z25_3, z25_4, z25_5, z25_6⟩
      have hS := St.tr hS h25 (by decide) (by decide)
      refine Tr.sc [] rfl ?_
      have kr_120_3 : rd M25 120 3 = s25_120_3 := es25_120_3
      have kr_120_4 : rd M25 120 4 = s25_120_4 := es25_120_4
      have kr_120_5 : rd M25 120 5 = s25_120_5 := es25_120_5
      have kr_120_7 : rd M25 120 7 = s25_120_7 := es25_120_7
      have kr_120_8 : rd M25 120 8 = s25_120_8 := es25_120_8
      have kr_9010_0 : tav M25 = s25_9010_0 := es25_9010_0
      exact Tr.vret (pc := 28) d_X12_must_28 rfl ⟨hS, rfl, (by first | exact (hd_o z25_0) | exact (hd_o z25_0).elim (fun h1 => by omega) (fun h1 => by omega)), (by omega), (by first | exact (hd_o z25_2) | exact (hd_o z25_2).elim (fun h1 => by omega) (fun h1 => h1.elim (fun h1 => by omega) (fun h1 => by omega))), (by and_intros <;> omega), (by exact (hd_o t17_1).elim (fun h1 => by omega) (fun h1 => by omega)), (by exact (hd_o t17_0).elim (fun h1 => (ne_o h1).elim (fun h2 => by omega) (fun h2 => by omega)) (fun h1 => (ne_o h1).elim (fun h2 => by omega) (fun h2 => (hd_o z25_5).elim (fun h3 => by omega) (fun h3 => by omega))))⟩
  refine Tr.if_ne (pc := 5) (tgt := 17) d_X12_must_5 rfl (fun c5 => ?_) (fun c5 => ?_)
  · have c5b : 1 ≤ r2 ∧ r2 ≤ 1 := by omega
    replace c5 := hd_i c5
    refine Tr.pick [0] (ls2 := [(0, (2, 120))]) rfl ?_
    exact J17 _ _ hS (by and_intros <;> omega) ((kp_X12_isSign_120_120_3 h2).trans eg120_3) ((kp_X12_isSign_120_120_4 h2).trans eg120_4) ((kp_X12_isSign_120_120_5 h2).trans eg120_5) ((kp_X12_isSign_120_120_6 h2).trans eg120_6) ((kp_X12_isSign_120_120_7 h2).trans eg120_7) ((kp_X12_isSign_120_120_8 h2).trans eg120_8) ((tav_of ((kp_X12_isSign_120_120_5 h2).trans rfl) ((kp_X12_isSign_120_120_3 h2).trans rfl)).trans eg9010_0) (by exact (hd_o z2_0).elim (fun h1 => by omega) (fun h1 => by omega)) (by omega)
  · refine Tr.aload_n (pc := 8) (i := 0) d_X12_must_8 rfl rfl ?_
    refine Tr.iconst (pc := 9) d_X12_must_9 (by decide) ?_
    refine Tr.aload_n (pc := 10) (i := 0) d_X12_must_10 rfl rfl ?_
    refine Tr.getf (pc := 11) d_X12_must_11 f_12_23 (by decide) (by decide) (ty_120 hS.1.1) ?_
    refine Tr.tp g120_4 ((kp_X12_isSign_120_120_4 h2).trans eg120_4) ?_
    refine Tr.callV (pc := 14) (as := [_, _]) d_X12_must_14 s_12_389 ok_X12_blame rfl rfl (Nat.le_of_ble_eq_true rfl) (Nat.le_of_ble_eq_true rfl) (by decide) (ty_120 hS.1.1) ?_
    refine Tr.imp (Tr.deep (by decide) (ns_X12_blame_120_w1 (G120_8 := g120_8) hS.1 (((kp_X12_isSign_120_120_8 h2).trans eg120_8)) 1 (by omega) g120_4 (by and_intros <;> omega))) ?_
    rintro M14 _ ⟨h14, s14_120_8, es14_120_8, bs14_120_8, rfl, z14_0⟩
    have hS := St.tr hS h14 (by decide) (by decide)
    refine Tr.sc [] rfl ?_
    refine Tr.pick [0] (ls2 := [(0, (2, 120))]) rfl ?_
    exact J17 _ _ hS (by and_intros <;> omega) ((kp_X12_blame_120_w1_120_3 h14).trans ((kp_X12_isSign_120_120_3 h2).trans eg120_3)) ((kp_X12_blame_120_w1_120_4 h14).trans ((kp_X12_isSign_120_120_4 h2).trans eg120_4)) ((kp_X12_blame_120_w1_120_5 h14).trans ((kp_X12_isSign_120_120_5 h2).trans eg120_5)) ((kp_X12_blame_120_w1_120_6 h14).trans ((kp_X12_isSign_120_120_6 h2).trans eg120_6)) ((kp_X12_blame_120_w1_120_7 h14).trans ((kp_X12_isSign_120_120_7 h2).trans eg120_7)) es14_120_8 ((tav_of ((kp_X12_blame_120_w1_120_5 h14).trans ((kp_X12_isSign_120_120_5 h2).trans rfl)) ((kp_X12_blame_120_w1_120_3 h14).trans ((kp_X12_isSign_120_120_3 h2).trans rfl))).trans eg9010_0) (by exact (hd_o z14_0).elim (fun h1 => by omega) (fun h1 => by omega)) (by exact (hd_o z14_0).elim (fun h1 => by omega) (fun h1 => by omega))

set_option maxRecDepth 100000 in
set_option maxHeartbeats 4000000 in
theorem ns_X12_must_120_w1 {l : Launch} {K : EC} {M0 : Mem} {G120_3 G120_4 G120_5 G120_7 G120_8 G9010_0 : Int} (hI : In Pm0 M0) (k120_3 : rd M0 120 3 = G120_3) (k120_4 : rd M0 120 4 = G120_4) (k120_5 : rd M0 120 5 = G120_5) (k120_7 : rd M0 120 7 = G120_7) (k120_8 : rd M0 120 8 = G120_8) (k9010_0 : tav M0 = G9010_0)  (a1 : Int) (ha1 : 0 ≤ a1 ∧ a1 ≤ 300)  (hq0 : G120_3 = 0 ∨ G120_4 + 1 ≤ G120_5) (hq1 : G120_4 ≤ G120_5) (hq2 : G120_3 ≠ 1 ∨ G120_4 + 2 ≤ G120_5 ∨ G120_7 < 256) : Tr l K 2 mX12_must 0 [(0, (2, 120)), (1, (0, a1))] [] M0 (fun M' r => St Pm0 ws_X12_must_120_w1 as_X12_must_120_w1 M0 M' ∧ ∃ S120_3 S120_4 S120_5 S120_7 S120_8 S9010_0 : Int, rd M' 120 3 = S120_3 ∧ (0 ≤ S120_3 ∧ S120_3 ≤ 3) ∧ rd M' 120 4 = S120_4 ∧ (0 ≤ S120_4 ∧ S120_4 ≤ 900) ∧ rd M' 120 5 = S120_5 ∧ (0 ≤ S120_5 ∧ S120_5 ≤ 900) ∧ rd M' 120 7 = S120_7 ∧ ((-9223372036854775808) ≤ S120_7 ∧ S120_7 ≤ 9223372036854775807) ∧ rd M' 120 8 = S120_8 ∧ (0 ≤ S120_8 ∧ S120_8 ≤ 5) ∧ tav M' = S9010_0 ∧ ((-1) ≤ S9010_0 ∧ S9010_0 ≤ 1800) ∧ r = none ∧ Hd (S120_3 = 0 ∨ S120_4 + 1 ≤ S120_5) ∧ (S120_4 ≤ S120_5) ∧ Hd (S120_3 ≠ 1 ∨ S120_4 + 2 ≤ S120_5 ∨ S120_7 < 256) ∧ (G120_4 ≤ S120_4 ∧ G120_5 ≤ S120_5 ∧ G9010_0 ≤ S9010_0) ∧ Hd (G120_8 = 0 ∨ S120_8 = G120_8) ∧ Hd (1 ≤ S120_8 ∨ G9010_0 < S9010_0)) := by
  subst k120_3
  subst k120_4
  subst k120_5
  subst k120_7
  subst k120_8
  subst k9010_0
  refine Tr.imp (sp_X12_must_120_w1 hI a1 ha1 hq0 hq1 hq2) ?_
  rintro M' _ ⟨hS, rfl, z0, z1, z2, z3, z4, z5⟩
  exact ⟨hS, _, _, _, _, _, _, rfl, ir_120_3 hS.1.2.1, rfl, ir_120_4 hS.1.2.1, rfl, ir_120_5 hS.1.2.1, rfl, ir_120_7 hS.1.2.1, rfl, ir_120_8 hS.1.2.1, rfl, (tav_b hS.1.2.1), rfl, hd_i z0, z1, hd_i z2, z3, hd_i z4, hd_i z5⟩

def ws_X12_declares_120_w1 : List (Int × Int) := [(120, 3), (120, 4), (120, 5), (120, 6), (120, 7), (120, 8), (120, 9), (122, 0), (123, 0), (124, 0), (125, 0), (126, 0), (127, 0), (128, 0)]
def as_X12_declares_120_w1 : List Int := [130, 131, 132, 133, 134, 135]
def q_X12_declares_120_w1 (M0 M' : Mem) (r : Option PV) : Prop := St Pm0 ws_X12_declares_120_w1 as_X12_declares_120_w1 M0 M' ∧ ∃ v : Int, r = some (0, v) ∧ 0 ≤ v ∧ v ≤ 1 ∧ (rd M' 120 3 = 0 ∨ rd M' 120 4 + 1 ≤ rd M' 120 5) ∧ (rd M' 120 4 ≤ rd M' 120 5) ∧ (rd M' 120 3 ≠ 1 ∨ rd M' 120 4 + 2 ≤ rd M' 120 5 ∨ rd M' 120 7 < 256) ∧ (rd M0 120 4 ≤ rd M' 120 4 ∧ rd M0 120 5 ≤ rd M' 120 5 ∧ tav M0 ≤ tav M') ∧ (rd M0 120 8 = 0 ∨ rd M' 120 8 = rd M0 120 8) ∧ (v = 0 ∨ 1 ≤ rd M' 120 8 ∨ tav M0 < tav M')
theorem kp_X12_declares_120_w1_120_37 {q : Mem → Prop} {M0 M : Mem} (h : St q ws_X12_declares_120_w1 as_X12_declares_120_w1 M0 M) : rd M 120 37 = rd M0 120 37 := St.kp h (by decide) (by decide) (by decide)
set_option maxRecDepth 100000 in
set_option maxHeartbeats 4000000 in
theorem sp_X12_declares_120_w1 {l : Launch} {K : EC} {M0 : Mem} (hI : In Pm0 M0) (en_120_37 : rd M0 120 37 = 0)   (hq0 : rd M0 120 3 = 0 ∨ rd M0 120 4 + 1 ≤ rd M0 120 5) (hq1 : rd M0 120 4 ≤ rd M0 120 5) (hq2 : rd M0 120 3 ≠ 1 ∨ rd M0 120 4 + 2 ≤ rd M0 120 5 ∨ rd M0 120 7 < 256) (hq3 : rd M0 120 3 ≠ 0) (hq4 : rd M0 120 8 = 0) : Tr l K 4 mX12_declares 0 [(0, (2, 120))] [] M0 (q_X12_declares_120_w1 M0) := by
  have hS : St Pm0 ws_X12_declares_120_w1 as_X12_declares_120_w1 M0 M0 := St.rf hI
  obtain ⟨g120_8, eg120_8⟩ : ∃ v, rd M0 120 8 = v := ⟨_, rfl⟩
  have bg120_8 : 0 ≤ g120_8 ∧ g120_8 ≤ 5 := by rw [← eg120_8]; exact ir_120_8 hI.2.1
  obtain ⟨g120_3, eg120_3⟩ : ∃ v, rd M0 120 3 = v := ⟨_, rfl⟩
  have bg120_3 : 0 ≤ g120_3 ∧ g120_3 ≤ 3 := by rw [← eg120_3]; exact ir_120_3 hI.2.1
  obtain ⟨g120_4, eg120_4⟩ : ∃ v, rd M0 120 4 = v := ⟨_, rfl⟩
  have bg120_4 : 0 ≤ g120_4 ∧ g120_4 ≤ 900 := by rw [← eg120_4]; exact ir_120_4 hI.2.1
  obtain ⟨g120_5, eg120_5⟩ : ∃ v, rd M0 120 5 = v := ⟨_, rfl⟩
  have bg120_5 : 0 ≤ g120_5 ∧ g120_5 ≤ 900 := by rw [← eg120_5]; exact ir_120_5 hI.2.1
  obtain ⟨g120_7, eg120_7⟩ : ∃ v, rd M0 120 7 = v := ⟨_, rfl⟩
  have bg120_7 : (-9223372036854775808) ≤ g120_7 ∧ g120_7 ≤ 9223372036854775807 := by rw [← eg120_7]; exact ir_120_7 hI.2.1
  obtain ⟨g9010_0, eg9010_0⟩ : ∃ v, tav M0 = v := ⟨_, rfl⟩
  have bg9010_0 : (-1) ≤ g9010_0 ∧ g9010_0 ≤ 1800 := by rw [← eg9010_0]; exact (tav_b hI.2.1)
  obtain ⟨g120_6, eg120_6⟩ : ∃ v, rd M0 120 6 = v := ⟨_, rfl⟩
  have bg120_6 : (-2147483648) ≤ g120_6 ∧ g120_6 ≤ 2147483647 := by rw [← eg120_6]; exact ir_120_6 hI.2.1
  replace hq0 := hd_i hq0
  replace hq2 := hd_i hq2
  replace hq3 := hd_i hq3
  refine Tr.aload_n (pc := 0) (i := 0) d_X12_declares_0 rfl rfl ?_
  refine Tr.ldc2 (pc := 1) d_X12_declares_1 kl_12_399 (by decide) ?_
  refine Tr.callV (pc := 4) (as := [_]) d_X12_declares_4 s_12_484 ok_X12_isWord rfl rfl (Nat.le_of_ble_eq_true rfl) (Nat.le_of_ble_eq_true rfl) (by decide) (ty_120 hS.1.1) ?_
  refine Tr.imp (Tr.deep (by decide) (ns_X12_isWord_120 (G120_3 := g120_3) (G120_7 := g120_7) hS.1.wk (eg120_3) (eg120_7) 448377483892 (by omega))) ?_
  rintro M4 _ ⟨h4, r4, rfl, lr4, ur4, z4_0⟩
  have h4 := St.rn h4 (Pm0.of hS.1.2.2.2.2 (fun _ => (ka_X12_isWord_120_131 h4 _)) (fun _ => (ka_X12_isWord_120_137 h4 _)) (fun _ => (ka_X12_isWord_120_138 h4 _)) (fun _ => (ka_X12_isWord_120_139 h4 _)) (fun _ => (ka_X12_isWord_120_140 h4 _)) (fun _ => (ka_X12_isWord_120_141 h4 _)) (fun _ => (ka_X12_isWord_120_142 h4 _)) (fun _ => (ka_X12_isWord_120_143 h4 _)) (fun _ => (ka_X12_isWord_120_151 h4 _)) (fun _ => (ka_X12_isWord_120_152 h4 _)) (kp_X12_isWord_120_126_0 h4) (kp_X12_isWord_120_126_1 h4) (kp_X12_isWord_120_136_0 h4) (kp_X12_isWord_120_136_1 h4) (kp_X12_isWord_120_123_0 h4) (kp_X12_isWord_120_123_1 h4) (kp_X12_isWord_120_124_0 h4) (kp_X12_isWord_120_124_1 h4) (kp_X12_isWord_120_120_8 h4) (kp_X12_isWord_120_120_36 h4) (kp_X12_isWord_120_120_50 h4))
  have hS := St.tr hS h4 (by decide) (by decide)
  refine Tr.sc [(0, r4)] rfl ?_
  have J152 : ∀ (M : Mem) (u152_120_3 u152_120_4 u152_120_5 u152_120_6 u152_120_7 u152_120_8 u152_9010_0 : Int), St Pm0 ws_X12_declares_120_w1 as_X12_declares_120_w1 M0 M → (0 ≤ u152_120_3 ∧ u152_120_3 ≤ 3) → (0 ≤ u152_120_4 ∧ u152_120_4 ≤ 900) → (0 ≤ u152_120_5 ∧ u152_120_5 ≤ 900) → ((-2147483648) ≤ u152_120_6 ∧ u152_120_6 ≤ 2147483647) → ((-9223372036854775808) ≤ u152_120_7 ∧ u152_120_7 ≤ 9223372036854775807) → (0 ≤ u152_120_8 ∧ u152_120_8 ≤ 5) → ((-1) ≤ u152_9010_0 ∧ u152_9010_0 ≤ 1800) → rd M 120 3 = u152_120_3 → rd M 120 4 = u152_120_4 → rd M 120 5 = u152_120_5 → rd M 120 6 = u152_120_6 → rd M 120 7 = u152_120_7 → rd M 120 8 = u152_120_8 → tav M = u152_9010_0 → (u152_120_3 = 0 ∨ u152_120_4 + 1 ≤ u152_120_5) → (u152_120_4 ≤ u152_120_5) → (u152_120_3 ≠ 1 ∨ u152_120_4 + 2 ≤ u152_120_5 ∨ u152_120_7 < 256) → (g120_4 ≤ u152_120_4 ∧ g120_5 ≤ u152_120_5 ∧ g9010_0 ≤ u152_9010_0) → (g120_8 = 0 ∨ u152_120_8 = g120_8) → Tr l K 4 mX12_declares 152 [(0, (2, 120))] [] M (q_X12_declares_120_w1 M0) := by
    intro M u152_120_3 u152_120_4 u152_120_5 u152_120_6 u152_120_7 u152_120_8 u152_9010_0 hS bu152_120_3 bu152_120_4 bu152_120_5 bu152_120_6 bu152_120_7 bu152_120_8 bu152_9010_0 k152_120_3 k152_120_4 k152_120_5 k152_120_6 k152_120_7 k152_120_8 k152_9010_0 t152_0 t152_1 t152_2 t152_3 t152_4
    replace t152_0 := hd_i t152_0
    replace t152_2 := hd_i t152_2
    replace t152_4 := hd_i t152_4
    refine Tr.aload_n (pc := 152) (i := 0) d_X12_declares_152 rfl rfl ?_
    refine Tr.bipush (pc := 153) d_X12_declares_153 rfl (by decide) ?_
    refine Tr.callV (pc := 155) (as := [_]) d_X12_declares_155 s_12_529 ok_X12_must rfl rfl (Nat.le_of_ble_eq_true rfl) (Nat.le_of_ble_eq_true rfl) (by decide) (ty_120 hS.1.1) ?_
    refine Tr.imp (Tr.deep (by decide) (ns_X12_must_120_w1 (G120_3 := u152_120_3) (G120_4 := u152_120_4) (G120_5 := u152_120_5) (G120_7 := u152_120_7) (G120_8 := u152_120_8) (G9010_0 := u152_9010_0) hS.1 (k152_120_3) (k152_120_4) (k152_120_5) (k152_120_7) (k152_120_8) (k152_9010_0) 59 (by omega) (by first | exact (hd_o t152_0) | exact (hd_o t152_0).elim (fun h1 => by omega) (fun h1 => by omega)) (by omega) (by first | exact (hd_o t152_2) | exact (hd_o t152_2).elim (fun h1 => by omega) (fun h1 => h1.elim (fun h1 => by omega) (fun h1 => by omega))))) ?_
    rintro M155 _ ⟨h155, s155_120_3, s155_120_4, s155_120_5, s155_120_7, s155_120_8, s155_9010_0, es155_120_3, bs155_120_3, es155_120_4, bs155_120_4, es155_120_5, bs155_120_5, es155_120_7, bs155_120_7, es155_120_8, bs155_120_8, es155_9010_0, bs155_9010_0, rfl, z155_0, z155_1, z155_2, z155_3, z155_4, z155_5⟩
    have hS := St.tr hS h155 (by decide) (by decide)
    refine Tr.sc [] rfl ?_
    refine Tr.iconst (pc := 158) d_X12_declares_158 (by decide) ?_
    have kr_120_3 : rd M155 120 3 = s155_120_3 := es155_120_3
    have kr_120_4 : rd M155 120 4 = s155_120_4 := es155_120_4
    have kr_120_5 : rd M155 120 5 = s155_120_5 := es155_120_5
    have kr_120_7 : rd M155 120 7 = s155_120_7 := es155_120_7
    have kr_120_8 : rd M155 120 8 = s155_120_8 := es155_120_8
    have kr_9010_0 : tav M155 = s155_9010_0 := es155_9010_0
    exact Tr.zret (pc := 159) d_X12_declares_159 rfl (by omega) ⟨hS, _, rfl, by omega, by omega, (by first | exact (hd_o z155_0) | exact (hd_o z155_0).elim (fun h1 => by omega) (fun h1 => by omega)), (by omega), (by first | exact (hd_o z155_2) | exact (hd_o z155_2).elim (fun h1 => by omega) (fun h1 => h1.elim (fun h1 => by omega) (fun h1 => by omega))), (by and_intros <;> omega), (by omega), (by exact (hd_o z155_5).elim (fun h1 => by omega) (fun h1 => by omega))⟩
  refine Tr.if_eq (pc := 7) (tgt := 34) d_X12_declares_7 rfl (fun c7 => ?_) (fun c7 => ?_)
  · refine Tr.aload_n (pc := 34) (i := 0) d_X12_declares_34 rfl rfl ?_
    refine Tr.ldc2 (pc := 35) d_X12_declares_35 kl_12_401 (by decide) ?_
    refine Tr.callV (pc := 38) (as := [_]) d_X12_declares_38 s_12_484 ok_X12_isWord rfl rfl (Nat.le_of_ble_eq_true rfl) (Nat.le_of_ble_eq_true rfl) (by decide) (ty_120 hS.1.1) ?_
    refine Tr.imp (Tr.deep (by decide) (ns_X12_isWord_120 (G120_3 := g120_3) (G120_7 := g120_7) hS.1.wk (((kp_X12_isWord_120_120_3 h4).trans eg120_3)) (((kp_X12_isWord_120_120_7 h4).trans eg120_7)) 426835667045 (by omega))) ?_
    rintro M38 _ ⟨h38, r38, rfl, lr38, ur38, z38_0⟩
    have h38 := St.rn h38 (Pm0.of hS.1.2.2.2.2 (fun _ => (ka_X12_isWord_120_131 h38 _)) (fun _ => (ka_X12_isWord_120_137 h38 _)) (fun _ => (ka_X12_isWord_120_138 h38 _)) (fun _ => (ka_X12_isWord_120_139 h38 _)) (fun _ => (ka_X12_isWord_120_140 h38 _)) (fun _ => (ka_X12_isWord_120_141 h38 _)) (fun _ => (ka_X12_isWord_120_142 h38 _)) (fun _ => (ka_X12_isWord_120_143 h38 _)) (fun _ => (ka_X12_isWord_120_151 h38 _)) (fun _ => (ka_X12_isWord_120_152 h38 _)) (kp_X12_isWord_120_126_0 h38) (kp_X12_isWord_120_126_1 h38) (kp_X12_isWord_120_136_0 h38) (kp_X12_isWord_120_136_1 h38) (kp_X12_isWord_120_123_0 h38) (kp_X12_isWord_120_123_1 h38) (kp_X12_isWord_120_124_0 h38) (kp_X12_isWord_120_124_1 h38) (kp_X12_isWord_120_120_8 h38) (kp_X12_isWord_120_120_36 h38) (kp_X12_isWord_120_120_50 h38))
    have hS := St.tr hS h38 (by decide) (by decide)
    refine Tr.sc [(0, r38)] rfl ?_
    refine Tr.if_eq (pc := 41) (tgt := 99) d_X12_declares_41 rfl (fun c41 => ?_) (fun c41 => ?_)
    · refine Tr.aload_n (pc := 99) (i := 0) d_X12_declares_99 rfl rfl ?_
      refine Tr.ldc2 (pc := 100) d_X12_declares_100 kl_12_403 (by decide) ?_
      refine Tr.callV (pc := 103) (as := [_]) d_X12_declares_103 s_12_484 ok_X12_isWord rfl rfl (Nat.le_of_ble_eq_true rfl) (Nat.le_of_ble_eq_true rfl) (by decide) (ty_120 hS.1.1) ?_
      refine Tr.imp (Tr.deep (by decide) (ns_X12_isWord_120 (G120_3 := g120_3) (G120_7 := g120_7) hS.1.wk (((kp_X12_isWord_120_120_3 h38).trans ((kp_X12_isWord_120_120_3 h4).trans eg120_3))) (((kp_X12_isWord_120_120_7 h38).trans ((kp_X12_isWord_120_120_7 h4).trans eg120_7))) 1885434484 (by omega))) ?_
      rintro M103 _ ⟨h103, r103, rfl, lr103, ur103, z103_0⟩
      have h103 := St.rn h103 (Pm0.of hS.1.2.2.2.2 (fun _ => (ka_X12_isWord_120_131 h103 _)) (fun _ => (ka_X12_isWord_120_137 h103 _)) (fun _ => (ka_X12_isWord_120_138 h103 _)) (fun _ => (ka_X12_isWord_120_139 h103 _)) (fun _ => (ka_X12_isWord_120_140 h103 _)) (fun _ => (ka_X12_isWord_120_141 h103 _)) (fun _ => (ka_X12_isWord_120_142 h103 _)) (fun _ => (ka_X12_isWord_120_143 h103 _)) (fun _ => (ka_X12_isWord_120_151 h103 _)) (fun _ => (ka_X12_isWord_120_152 h103 _)) (kp_X12_isWord_120_126_0 h103) (kp_X12_isWord_120_126_1 h103) (kp_X12_isWord_120_136_0 h103) (kp_X12_isWord_120_136_1 h103) (kp_X12_isWord_120_123_0 h103) (kp_X12_isWord_120_123_1 h103) (kp_X12_isWord_120_124_0 h103) (kp_X12_isWord_120_124_1 h103) (kp_X12_isWord_120_120_8 h103) (kp_X12_isWord_120_120_36 h103) (kp_X12_isWord_120_120_50 h103))
      have hS := St.tr hS h103 (by decide) (by decide)
      refine Tr.sc [(0, r103)] rfl ?_
      refine Tr.if_eq (pc := 106) (tgt := 116) d_X12_declares_106 rfl (fun c106 => ?_) (fun c106 => ?_)
      · refine Tr.aload_n (pc := 116) (i := 0) d_X12_declares_116 rfl rfl ?_
        refine Tr.ldc2 (pc := 117) d_X12_declares_117 kl_12_415 (by decide) ?_
        refine Tr.callV (pc := 120) (as := [_]) d_X12_declares_120 s_12_484 ok_X12_isWord rfl rfl (Nat.le_of_ble_eq_true rfl) (Nat.le_of_ble_eq_true rfl) (by decide) (ty_120 hS.1.1) ?_
        refine Tr.imp (Tr.deep (by decide) (ns_X12_isWord_120 (G120_3 := g120_3) (G120_7 := g120_7) hS.1.wk (((kp_X12_isWord_120_120_3 h103).trans ((kp_X12_isWord_120_120_3 h38).trans ((kp_X12_isWord_120_120_3 h4).trans eg120_3)))) (((kp_X12_isWord_120_120_7 h103).trans ((kp_X12_isWord_120_120_7 h38).trans ((kp_X12_isWord_120_120_7 h4).trans eg120_7)))) 452824429940 (by omega))) ?_
        rintro M120 _ ⟨h120, r120, rfl, lr120, ur120, z120_0⟩
        have h120 := St.rn h120 (Pm0.of hS.1.2.2.2.2 (fun _ => (ka_X12_isWord_120_131 h120 _)) (fun _ => (ka_X12_isWord_120_137 h120 _)) (fun _ => (ka_X12_isWord_120_138 h120 _)) (fun _ => (ka_X12_isWord_120_139 h120 _)) (fun _ => (ka_X12_isWord_120_140 h120 _)) (fun _ => (ka_X12_isWord_120_141 h120 _)) (fun _ => (ka_X12_isWord_120_142 h120 _)) (fun _ => (ka_X12_isWord_120_143 h120 _)) (fun _ => (ka_X12_isWord_120_151 h120 _)) (fun _ => (ka_X12_isWord_120_152 h120 _)) (kp_X12_isWord_120_126_0 h120) (kp_X12_isWord_120_126_1 h120) (kp_X12_isWord_120_136_0 h120) (kp_X12_isWord_120_136_1 h120) (kp_X12_isWord_120_123_0 h120) (kp_X12_isWord_120_123_1 h120) (kp_X12_isWord_120_124_0 h120) (kp_X12_isWord_120_124_1 h120) (kp_X12_isWord_120_120_8 h120) (kp_X12_isWord_120_120_36 h120) (kp_X12_isWord_120_120_50 h120))
        have hS := St.tr hS h120 (by decide) (by decide)
        refine Tr.sc [(0, r120)] rfl ?_
        refine Tr.if_eq (pc := 123) (tgt := 133) d_X12_declares_123 rfl (fun c123 => ?_) (fun c123 => ?_)
        · refine Tr.aload_n (pc := 133) (i := 0) d_X12_declares_133 rfl rfl ?_
          refine Tr.ldc2 (pc := 134) d_X12_declares_134 kl_12_417 (by decide) ?_
          refine Tr.callV (pc := 137) (as := [_]) d_X12_declares_137 s_12_484 ok_X12_isWord rfl rfl (Nat.le_of_ble_eq_true rfl) (Nat.le_of_ble_eq_true rfl) (by decide) (ty_120 hS.1.1) ?_
          refine Tr.imp (Tr.deep (by decide) (ns_X12_isWord_120 (G120_3 := g120_3) (G120_7 := g120_7) hS.1.wk (((kp_X12_isWord_120_120_3 h120).trans ((kp_X12_isWord_120_120_3 h103).trans ((kp_X12_isWord_120_120_3 h38).trans ((kp_X12_isWord_120_120_3 h4).trans eg120_3))))) (((kp_X12_isWord_120_120_7 h120).trans ((kp_X12_isWord_120_120_7 h103).trans ((kp_X12_isWord_120_120_7 h38).trans ((kp_X12_isWord_120_120_7 h4).trans eg120_7))))) 7758194 (by omega))) ?_
          rintro M137 _ ⟨h137, r137, rfl, lr137, ur137, z137_0⟩
          have h137 := St.rn h137 (Pm0.of hS.1.2.2.2.2 (fun _ => (ka_X12_isWord_120_131 h137 _)) (fun _ => (ka_X12_isWord_120_137 h137 _)) (fun _ => (ka_X12_isWord_120_138 h137 _)) (fun _ => (ka_X12_isWord_120_139 h137 _)) (fun _ => (ka_X12_isWord_120_140 h137 _)) (fun _ => (ka_X12_isWord_120_141 h137 _)) (fun _ => (ka_X12_isWord_120_142 h137 _)) (fun _ => (ka_X12_isWord_120_143 h137 _)) (fun _ => (ka_X12_isWord_120_151 h137 _)) (fun _ => (ka_X12_isWord_120_152 h137 _)) (kp_X12_isWord_120_126_0 h137) (kp_X12_isWord_120_126_1 h137) (kp_X12_isWord_120_136_0 h137) (kp_X12_isWord_120_136_1 h137) (kp_X12_isWord_120_123_0 h137) (kp_X12_isWord_120_123_1 h137) (kp_X12_isWord_120_124_0 h137) (kp_X12_isWord_120_124_1 h137) (kp_X12_isWord_120_120_8 h137) (kp_X12_isWord_120_120_36 h137) (kp_X12_isWord_120_120_50 h137))
          have hS := St.tr hS h137 (by decide) (by decide)
          refine Tr.sc [(0, r137)] rfl ?_
          refine Tr.if_eq (pc := 140) (tgt := 150) d_X12_declares_140 rfl (fun c140 => ?_) (fun c140 => ?_)
          · refine Tr.iconst (pc := 150) d_X12_declares_150 (by decide) ?_
            have kr_120_3 : rd M137 120 3 = g120_3 := ((kp_X12_isWord_120_120_3 h137).trans ((kp_X12_isWord_120_120_3 h120).trans ((kp_X12_isWord_120_120_3 h103).trans ((kp_X12_isWord_120_120_3 h38).trans ((kp_X12_isWord_120_120_3 h4).trans eg120_3)))))
            have kr_120_4 : rd M137 120 4 = g120_4 := ((kp_X12_isWord_120_120_4 h137).trans ((kp_X12_isWord_120_120_4 h120).trans ((kp_X12_isWord_120_120_4 h103).trans ((kp_X12_isWord_120_120_4 h38).trans ((kp_X12_isWord_120_120_4 h4).trans eg120_4)))))
            have kr_120_5 : rd M137 120 5 = g120_5 := ((kp_X12_isWord_120_120_5 h137).trans ((kp_X12_isWord_120_120_5 h120).trans ((kp_X12_isWord_120_120_5 h103).trans ((kp_X12_isWord_120_120_5 h38).trans ((kp_X12_isWord_120_120_5 h4).trans eg120_5)))))
            have kr_120_7 : rd M137 120 7 = g120_7 := ((kp_X12_isWord_120_120_7 h137).trans ((kp_X12_isWord_120_120_7 h120).trans ((kp_X12_isWord_120_120_7 h103).trans ((kp_X12_isWord_120_120_7 h38).trans ((kp_X12_isWord_120_120_7 h4).trans eg120_7)))))
            have kr_120_8 : rd M137 120 8 = g120_8 := ((kp_X12_isWord_120_120_8 h137).trans ((kp_X12_isWord_120_120_8 h120).trans ((kp_X12_isWord_120_120_8 h103).trans ((kp_X12_isWord_120_120_8 h38).trans ((kp_X12_isWord_120_120_8 h4).trans eg120_8)))))
            have kr_9010_0 : tav M137 = g9010_0 := ((tav_of ((kp_X12_isWord_120_120_5 h137).trans ((kp_X12_isWord_120_120_5 h120).trans ((kp_X12_isWord_120_120_5 h103).trans ((kp_X12_isWord_120_120_5 h38).trans ((kp_X12_isWord_120_120_5 h4).trans rfl))))) ((kp_X12_isWord_120_120_3 h137).trans ((kp_X12_isWord_120_120_3 h120).trans ((kp_X12_isWord_120_120_3 h103).trans ((kp_X12_isWord_120_120_3 h38).trans ((kp_X12_isWord_120_120_3 h4).trans rfl)))))).trans eg9010_0)
            exact Tr.zret (pc := 151) d_X12_declares_151 rfl (by omega) ⟨hS, _, rfl, by omega, by omega, (by first | exact (hd_o hq0) | exact (hd_o hq0).elim (fun h1 => by omega) (fun h1 => by omega)), (by omega), (by first | exact (hd_o hq2) | exact (hd_o hq2).elim (fun h1 => by omega) (fun h1 => h1.elim (fun h1 => by omega) (fun h1 => by omega))), (by and_intros <;> omega), (by omega), (by omega)⟩
          · have c140b : 1 ≤ r137 ∧ r137 ≤ 1 := by omega
            replace c140 := hd_i c140
            refine Tr.aload_n (pc := 143) (i := 0) d_X12_declares_143 rfl rfl ?_
            refine Tr.callV (pc := 144) (as := []) d_X12_declares_144 s_12_526 ok_X12_variable rfl rfl (Nat.le_of_ble_eq_true rfl) (Nat.le_of_ble_eq_true rfl) (by decide) (ty_120 hS.1.1) ?_
            refine Tr.imp (Tr.deep (by decide) (ns_X12_variable_120_w1 (G120_3 := g120_3) (G120_4 := g120_4) (G120_5 := g120_5) (G120_7 := g120_7) (G120_8 := g120_8) (G9010_0 := g9010_0) hS.1 (((kp_X12_isWord_120_120_3 h137).trans ((kp_X12_isWord_120_120_3 h120).trans ((kp_X12_isWord_120_120_3 h103).trans ((kp_X12_isWord_120_120_3 h38).trans ((kp_X12_isWord_120_120_3 h4).trans eg120_3)))))) (((kp_X12_isWord_120_120_4 h137).trans ((kp_X12_isWord_120_120_4 h120).trans ((kp_X12_isWord_120_120_4 h103).trans ((kp_X12_isWord_120_120_4 h38).trans ((kp_X12_isWord_120_120_4 h4).trans eg120_4)))))) (((kp_X12_isWord_120_120_5 h137).trans ((kp_X12_isWord_120_120_5 h120).trans ((kp_X12_isWord_120_120_5 h103).trans ((kp_X12_isWord_120_120_5 h38).trans ((kp_X12_isWord_120_120_5 h4).trans eg120_5)))))) (((kp_X12_isWord_120_120_7 h137).trans ((kp_X12_isWord_120_120_7 h120).trans ((kp_X12_isWord_120_120_7 h103).trans ((kp_X12_isWord_120_120_7 h38).trans ((kp_X12_isWord_120_120_7 h4).trans eg120_7)))))) (((kp_X12_isWord_120_120_8 h137).trans ((kp_X12_isWord_120_120_8 h120).trans ((kp_X12_isWord_120_120_8 h103).trans ((kp_X12_isWord_120_120_8 h38).trans ((kp_X12_isWord_120_120_8 h4).trans eg120_8)))))) (((tav_of ((kp_X12_isWord_120_120_5 h137).trans ((kp_X12_isWord_120_120_5 h120).trans ((kp_X12_isWord_120_120_5 h103).trans ((kp_X12_isWord_120_120_5 h38).trans ((kp_X12_isWord_120_120_5 h4).trans rfl))))) ((kp_X12_isWord_120_120_3 h137).trans ((kp_X12_isWord_120_120_3 h120).trans ((kp_X12_isWord_120_120_3 h103).trans ((kp_X12_isWord_120_120_3 h38).trans ((kp_X12_isWord_120_120_3 h4).trans rfl)))))).trans eg9010_0)) ((kp_X12_declares_120_w1_120_37 hS).trans en_120_37) (by first | exact (hd_o hq0) | exact (hd_o hq0).elim (fun h1 => by omega) (fun h1 => by omega)) (by omega) (by first | exact (hd_o hq2) | exact (hd_o hq2).elim (fun h1 => by omega) (fun h1 => h1.elim (fun h1 => by omega) (fun h1 => by omega))) (by have h1 := (hd_o hq3); omega) (by omega))) ?_
            rintro M144 _ ⟨h144, s144_120_3, s144_120_4, s144_120_5, s144_120_7, s144_120_8, s144_9010_0, es144_120_3, bs144_120_3, es144_120_4, bs144_120_4, es144_120_5, bs144_120_5, es144_120_7, bs144_120_7, es144_120_8, bs144_120_8, es144_9010_0, bs144_9010_0, rfl, z144_0, z144_1, z144_2, z144_3, z144_4, z144_5⟩
            have hS := St.tr hS h144 (by decide) (by decide)
            refine Tr.sc [] rfl ?_
            refine Tr.goto (pc := 147) (tgt := 152) d_X12_declares_147 rfl ?_
            refine Tr.pick [0] (ls2 := [(0, (2, 120))]) rfl ?_
            obtain ⟨w152p147_120_6, ew152p147_120_6⟩ : ∃ v, rd M144 120 6 = v := ⟨_, rfl⟩
            have bw152p147_120_6 : (-2147483648) ≤ w152p147_120_6 ∧ w152p147_120_6 ≤ 2147483647 := by rw [← ew152p147_120_6]; exact ir_120_6 hS.1.2.1
            exact J152 _ _ _ _ _ _ _ _ hS (by and_intros <;> omega) (by and_intros <;> omega) (by and_intros <;> omega) (by and_intros <;> omega) (by omega) (by and_intros <;> omega) (by and_intros <;> omega) es144_120_3 es144_120_4 es144_120_5 ew152p147_120_6 es144_120_7 es144_120_8 es144_9010_0 (by first | exact (hd_o z144_0) | exact (hd_o z144_0).elim (fun h1 => by omega) (fun h1 => by omega)) (by omega) (by first | exact (hd_o z144_2) | exact (hd_o z144_2).elim (fun h1 => by omega) (fun h1 => h1.elim (fun h1 => by omega) (fun h1 => by omega))) (by and_intros <;> omega) (by first | exact (hd_o z144_4) | exact (hd_o z144_4).elim (fun h1 => by omega) (fun h1 => by omega))
        · have c123b : 1 ≤ r120 ∧ r120 ≤ 1 := by omega
          replace c123 := hd_i c123
          refine Tr.aload_n (pc := 126) (i := 0) d_X12_declares_126 rfl rfl ?_
          refine Tr.callV (pc := 127) (as := []) d_X12_declares_127 s_12_523 ok_X12_input rfl rfl (Nat.le_of_ble_eq_true rfl) (Nat.le_of_ble_eq_true rfl) (by decide) (ty_120 hS.1.1) ?_
          refine Tr.imp (Tr.deep (by decide) (ns_X12_input_120_w1 (G120_3 := g120_3) (G120_4 := g120_4) (G120_5 := g120_5) (G120_7 := g120_7) (G120_8 := g120_8) (G9010_0 := g9010_0) hS.1 (((kp_X12_isWord_120_120_3 h120).trans ((kp_X12_isWord_120_120_3 h103).trans ((kp_X12_isWord_120_120_3 h38).trans ((kp_X12_isWord_120_120_3 h4).trans eg120_3))))) (((kp_X12_isWord_120_120_4 h120).trans ((kp_X12_isWord_120_120_4 h103).trans ((kp_X12_isWord_120_120_4 h38).trans ((kp_X12_isWord_120_120_4 h4).trans eg120_4))))) (((kp_X12_isWord_120_120_5 h120).trans ((kp_X12_isWord_120_120_5 h103).trans ((kp_X12_isWord_120_120_5 h38).trans ((kp_X12_isWord_120_120_5 h4).trans eg120_5))))) (((kp_X12_isWord_120_120_7 h120).trans ((kp_X12_isWord_120_120_7 h103).trans ((kp_X12_isWord_120_120_7 h38).trans ((kp_X12_isWord_120_120_7 h4).trans eg120_7))))) (((kp_X12_isWord_120_120_8 h120).trans ((kp_X12_isWord_120_120_8 h103).trans ((kp_X12_isWord_120_120_8 h38).trans ((kp_X12_isWord_120_120_8 h4).trans eg120_8))))) (((tav_of ((kp_X12_isWord_120_120_5 h120).trans ((kp_X12_isWord_120_120_5 h103).trans ((kp_X12_isWord_120_120_5 h38).trans ((kp_X12_isWord_120_120_5 h4).trans rfl)))) ((kp_X12_isWord_120_120_3 h120).trans ((kp_X12_isWord_120_120_3 h103).trans ((kp_X12_isWord_120_120_3 h38).trans ((kp_X12_isWord_120_120_3 h4).trans rfl))))).trans eg9010_0)) ((kp_X12_declares_120_w1_120_37 hS).trans en_120_37) (by first | exact (hd_o hq0) | exact (hd_o hq0).elim (fun h1 => by omega) (fun h1 => by omega)) (by omega) (by first | exact (hd_o hq2) | exact (hd_o hq2).elim (fun h1 => by omega) (fun h1 => h1.elim (fun h1 => by omega) (fun h1 => by omega))) (by have h1 := (hd_o hq3); omega) (by omega))) ?_
          rintro M127 _ ⟨h127, s127_120_3, s127_120_4, s127_120_5, s127_120_7, s127_120_8, s127_9010_0, es127_120_3, bs127_120_3, es127_120_4, bs127_120_4, es127_120_5, bs127_120_5, es127_120_7, bs127_120_7, es127_120_8, bs127_120_8, es127_9010_0, bs127_9010_0, rfl, z127_0, z127_1, z127_2, z127_3, z127_4, z127_5⟩
          have hS := St.tr hS h127 (by decide) (by decide)
          refine Tr.sc [] rfl ?_
          refine Tr.goto (pc := 130) (tgt := 152) d_X12_declares_130 rfl ?_
          refine Tr.pick [0] (ls2 := [(0, (2, 120))]) rfl ?_
          obtain ⟨w152p130_120_6, ew152p130_120_6⟩ : ∃ v, rd M127 120 6 = v := ⟨_, rfl⟩
          have bw152p130_120_6 : (-2147483648) ≤ w152p130_120_6 ∧ w152p130_120_6 ≤ 2147483647 := by rw [← ew152p130_120_6]; exact ir_120_6 hS.1.2.1
          exact J152 _ _ _ _ _ _ _ _ hS (by and_intros <;> omega) (by and_intros <;> omega) (by and_intros <;> omega) (by and_intros <;> omega) (by omega) (by and_intros <;> omega) (by and_intros <;> omega) es127_120_3 es127_120_4 es127_120_5 ew152p130_120_6 es127_120_7 es127_120_8 es127_9010_0 (by first | exact (hd_o z127_0) | exact (hd_o z127_0).elim (fun h1 => by omega) (fun h1 => by omega)) (by omega) (by first | exact (hd_o z127_2) | exact (hd_o z127_2).elim (fun h1 => by omega) (fun h1 => h1.elim (fun h1 => by omega) (fun h1 => by omega))) (by and_intros <;> omega) (by first | exact (hd_o z127_4) | exact (hd_o z127_4).elim (fun h1 => by omega) (fun h1 => by omega))
      · have c106b : 1 ≤ r103 ∧ r103 ≤ 1 := by omega
        replace c106 := hd_i c106
        refine Tr.aload_n (pc := 109) (i := 0) d_X12_declares_109 rfl rfl ?_
        refine Tr.callV (pc := 110) (as := []) d_X12_declares_110 s_12_520 ok_X12_part rfl rfl (Nat.le_of_ble_eq_true rfl) (Nat.le_of_ble_eq_true rfl) (by decide) (ty_120 hS.1.1) ?_
        refine Tr.imp (Tr.deep (by decide) (ns_X12_part_120_w1 (G120_3 := g120_3) (G120_4 := g120_4) (G120_5 := g120_5) (G120_7 := g120_7) (G120_8 := g120_8) (G9010_0 := g9010_0) hS.1 (((kp_X12_isWord_120_120_3 h103).trans ((kp_X12_isWord_120_120_3 h38).trans ((kp_X12_isWord_120_120_3 h4).trans eg120_3)))) (((kp_X12_isWord_120_120_4 h103).trans ((kp_X12_isWord_120_120_4 h38).trans ((kp_X12_isWord_120_120_4 h4).trans eg120_4)))) (((kp_X12_isWord_120_120_5 h103).trans ((kp_X12_isWord_120_120_5 h38).trans ((kp_X12_isWord_120_120_5 h4).trans eg120_5)))) (((kp_X12_isWord_120_120_7 h103).trans ((kp_X12_isWord_120_120_7 h38).trans ((kp_X12_isWord_120_120_7 h4).trans eg120_7)))) (((kp_X12_isWord_120_120_8 h103).trans ((kp_X12_isWord_120_120_8 h38).trans ((kp_X12_isWord_120_120_8 h4).trans eg120_8)))) (((tav_of ((kp_X12_isWord_120_120_5 h103).trans ((kp_X12_isWord_120_120_5 h38).trans ((kp_X12_isWord_120_120_5 h4).trans rfl))) ((kp_X12_isWord_120_120_3 h103).trans ((kp_X12_isWord_120_120_3 h38).trans ((kp_X12_isWord_120_120_3 h4).trans rfl)))).trans eg9010_0)) ((kp_X12_declares_120_w1_120_37 hS).trans en_120_37) (by first | exact (hd_o hq0) | exact (hd_o hq0).elim (fun h1 => by omega) (fun h1 => by omega)) (by omega) (by first | exact (hd_o hq2) | exact (hd_o hq2).elim (fun h1 => by omega) (fun h1 => h1.elim (fun h1 => by omega) (fun h1 => by omega))) (by have h1 := (hd_o hq3); omega) (by omega))) ?_
        rintro M110 _ ⟨h110, s110_120_3, s110_120_4, s110_120_5, s110_120_7, s110_120_8, s110_9010_0, es110_120_3, bs110_120_3, es110_120_4, bs110_120_4, es110_120_5, bs110_120_5, es110_120_7, bs110_120_7, es110_120_8, bs110_120_8, es110_9010_0, bs110_9010_0, rfl, z110_0, z110_1, z110_2, z110_3, z110_4, z110_5⟩
        have hS := St.tr hS h110 (by decide) (by decide)
        refine Tr.sc [] rfl ?_
        refine Tr.goto (pc := 113) (tgt := 152) d_X12_declares_113 rfl ?_
        refine Tr.pick [0] (ls2 := [(0, (2, 120))]) rfl ?_
        obtain ⟨w152p113_120_6, ew152p113_120_6⟩ : ∃ v, rd M110 120 6 = v := ⟨_, rfl⟩
        have bw152p113_120_6 : (-2147483648) ≤ w152p113_120_6 ∧ w152p113_120_6 ≤ 2147483647 := by rw [← ew152p113_120_6]; exact ir_120_6 hS.1.2.1
        exact J152 _ _ _ _ _ _ _ _ hS (by and_intros <;> omega) (by and_intros <;> omega) (by and_intros <;> omega) (by and_intros <;> omega) (by omega) (by and_intros <;> omega) (by and_intros <;> omega) es110_120_3 es110_120_4 es110_120_5 ew152p113_120_6 es110_120_7 es110_120_8 es110_9010_0 (by first | exact (hd_o z110_0) | exact (hd_o z110_0).elim (fun h1 => by omega) (fun h1 => by omega)) (by omega) (by first | exact (hd_o z110_2) | exact (hd_o z110_2).elim (fun h1 => by omega) (fun h1 => h1.elim (fun h1 => by omega) (fun h1 => by omega))) (by and_intros <;> omega) (by first | exact (hd_o z110_4) | exact (hd_o z110_4).elim (fun h1 => by omega) (fun h1 => by omega))
    · have c41b : 1 ≤ r38 ∧ r38 ≤ 1 := by omega
      replace c41 := hd_i c41
      refine Tr.aload_n (pc := 44) (i := 0) d_X12_declares_44 rfl rfl ?_
      refine Tr.callV (pc := 45) (as := []) d_X12_declares_45 s_12_396 ok_X12_next rfl rfl (Nat.le_of_ble_eq_true rfl) (Nat.le_of_ble_eq_true rfl) (by decide) (ty_120 hS.1.1) ?_
      refine Tr.imp (Tr.deep (by decide) (ns_X12_next_120_w1 (G120_3 := g120_3) (G120_5 := g120_5) (G120_8 := g120_8) (G9010_0 := g9010_0) hS.1 (((kp_X12_isWord_120_120_3 h38).trans ((kp_X12_isWord_120_120_3 h4).trans eg120_3))) (((kp_X12_isWord_120_120_5 h38).trans ((kp_X12_isWord_120_120_5 h4).trans eg120_5))) (((kp_X12_isWord_120_120_8 h38).trans ((kp_X12_isWord_120_120_8 h4).trans eg120_8))) (((tav_of ((kp_X12_isWord_120_120_5 h38).trans ((kp_X12_isWord_120_120_5 h4).trans rfl)) ((kp_X12_isWord_120_120_3 h38).trans ((kp_X12_isWord_120_120_3 h4).trans rfl))).trans eg9010_0)))) ?_
      rintro M45 _ ⟨h45, s45_120_3, s45_120_4, s45_120_5, s45_120_7, s45_120_8, s45_9010_0, es45_120_3, bs45_120_3, es45_120_4, bs45_120_4, es45_120_5, bs45_120_5, es45_120_7, bs45_120_7, es45_120_8, bs45_120_8, es45_9010_0, bs45_9010_0, rfl, z45_0, z45_1, z45_2, z45_3, z45_4, z45_5, z45_6⟩
      have hS := St.tr hS h45 (by decide) (by decide)
      refine Tr.sc [] rfl ?_
      refine Tr.aload_n (pc := 48) (i := 0) d_X12_declares_48 rfl rfl ?_
      refine Tr.getf (pc := 49) d_X12_declares_49 f_12_54 (by decide) (by decide) (ty_120 hS.1.1) ?_
      refine Tr.tp 123 (fx_120_14 hS.1.1) ?_
      refine Tr.aload_n (pc := 52) (i := 0) d_X12_declares_52 rfl rfl ?_
      refine Tr.getf (pc := 53) d_X12_declares_53 f_12_124 (by decide) (by decide) (ty_120 hS.1.1) ?_
      refine Tr.tp 0 ((kp_X12_declares_120_w1_120_37 hS).trans en_120_37) ?_
      refine Tr.aload_n (pc := 56) (i := 0) d_X12_declares_56 rfl rfl ?_
      refine Tr.iconst (pc := 57) d_X12_declares_57 (by decide) ?_
      refine Tr.bipush (pc := 58) d_X12_declares_58 rfl (by decide) ?_
      refine Tr.callV (pc := 60) (as := [_, _]) d_X12_declares_60 s_12_516 ok_X12_number rfl rfl (Nat.le_of_ble_eq_true rfl) (Nat.le_of_ble_eq_true rfl) (by decide) (ty_120 hS.1.1) ?_
      refine Tr.imp (Tr.deep (by decide) (ns_X12_number_120_w1 (G120_3 := s45_120_3) (G120_4 := s45_120_4) (G120_5 := s45_120_5) (G120_7 := s45_120_7) (G120_8 := s45_120_8) (G9010_0 := s45_9010_0) hS.1 (es45_120_3) (es45_120_4) (es45_120_5) (es45_120_7) (es45_120_8) (es45_9010_0) 1 (by omega) 8 (by omega) (by first | exact (hd_o z45_0) | exact (hd_o z45_0).elim (fun h1 => by omega) (fun h1 => by omega)) (by omega) (by first | exact (hd_o z45_2) | exact (hd_o z45_2).elim (fun h1 => by omega) (fun h1 => h1.elim (fun h1 => by omega) (fun h1 => by omega))))) ?_
      rintro M60 _ ⟨h60, s60_120_3, s60_120_4, s60_120_5, s60_120_7, s60_120_8, s60_9010_0, es60_120_3, bs60_120_3, es60_120_4, bs60_120_4, es60_120_5, bs60_120_5, es60_120_7, bs60_120_7, es60_120_8, bs60_120_8, es60_9010_0, bs60_9010_0, r60, rfl, lr60, ur60, z60_0, z60_1, z60_2, z60_3, z60_4, z60_5, z60_6⟩
      have hS := St.tr hS h60 (by decide) (by decide)
      refine Tr.sc [(0, r60), (0, 0), (2, 123)] rfl ?_
      have kx_120_8 : rd M60 120 8 = s60_120_8 := es60_120_8
      refine Tr.iastS (pc := 63) (P := St Pm0 ws_X12_declares_120_w1 as_X12_declares_120_w1 M0) d_X12_declares_63 (ty_123 hS.1.1) (by omega) (by omega) (st_123_0 hS (by decide) (by and_intros <;> omega) (Pm0_cache hS.1.2.2.2.2 (by omega) (fun hf => by have hz : 1 ≤ s60_120_8 ∨ (1 ≤ r60 ∧ r60 ≤ 8) := (by first | exact (hd_o z60_6) | exact (hd_o z60_6).elim (fun h1 => by omega) (fun h1 => by omega)); omega))) (fun M63 hS w63 => ?_)
      refine Tr.aload_n (pc := 64) (i := 0) d_X12_declares_64 rfl rfl ?_
      refine Tr.getf (pc := 65) d_X12_declares_65 f_12_57 (by decide) (by decide) (ty_120 hS.1.1) ?_
      refine Tr.tp 124 (fx_120_15 hS.1.1) ?_
      refine Tr.aload_n (pc := 68) (i := 0) d_X12_declares_68 rfl rfl ?_
      refine Tr.getf (pc := 69) d_X12_declares_69 f_12_124 (by decide) (by decide) (ty_120 hS.1.1) ?_
      refine Tr.tp 0 ((kp_X12_declares_120_w1_120_37 hS).trans en_120_37) ?_
      refine Tr.aload_n (pc := 72) (i := 0) d_X12_declares_72 rfl rfl ?_
      refine Tr.iconst (pc := 73) d_X12_declares_73 (by decide) ?_
      refine Tr.bipush (pc := 74) d_X12_declares_74 rfl (by decide) ?_
      refine Tr.callV (pc := 76) (as := [_, _]) d_X12_declares_76 s_12_516 ok_X12_number rfl rfl (Nat.le_of_ble_eq_true rfl) (Nat.le_of_ble_eq_true rfl) (by decide) (ty_120 hS.1.1) ?_
      refine Tr.imp (Tr.deep (by decide) (ns_X12_number_120_w1 (G120_3 := s60_120_3) (G120_4 := s60_120_4) (G120_5 := s60_120_5) (G120_7 := s60_120_7) (G120_8 := s60_120_8) (G9010_0 := s60_9010_0) hS.1 (((Wr.b w63 rfl).trans es60_120_3)) (((Wr.b w63 rfl).trans es60_120_4)) (((Wr.b w63 rfl).trans es60_120_5)) (((Wr.b w63 rfl).trans es60_120_7)) (((Wr.b w63 rfl).trans es60_120_8)) (((tav_of ((Wr.b w63 rfl).trans rfl) ((Wr.b w63 rfl).trans rfl)).trans es60_9010_0)) 1 (by omega) 8 (by omega) (by first | exact (hd_o z60_0) | exact (hd_o z60_0).elim (fun h1 => by omega) (fun h1 => by omega)) (by omega) (by first | exact (hd_o z60_2) | exact (hd_o z60_2).elim (fun h1 => by omega) (fun h1 => h1.elim (fun h1 => by omega) (fun h1 => by omega))))) ?_
      rintro M76 _ ⟨h76, s76_120_3, s76_120_4, s76_120_5, s76_120_7, s76_120_8, s76_9010_0, es76_120_3, bs76_120_3, es76_120_4, bs76_120_4, es76_120_5, bs76_120_5, es76_120_7, bs76_120_7, es76_120_8, bs76_120_8, es76_9010_0, bs76_9010_0, r76, rfl, lr76, ur76, z76_0, z76_1, z76_2, z76_3, z76_4, z76_5, z76_6⟩
      have hS := St.tr hS h76 (by decide) (by decide)
      refine Tr.sc [(0, r76), (0, 0), (2, 124)] rfl ?_
      have kx_120_8 : rd M76 120 8 = s76_120_8 := es76_120_8
      refine Tr.iastS (pc := 79) (P := St Pm0 ws_X12_declares_120_w1 as_X12_declares_120_w1 M0) d_X12_declares_79 (ty_124 hS.1.1) (by omega) (by omega) (st_124_0 hS (by decide) (by and_intros <;> omega) (Pm0_cache hS.1.2.2.2.2 (by omega) (fun hf => by have hz : 1 ≤ s76_120_8 ∨ (1 ≤ r76 ∧ r76 ≤ 8) := (by first | exact (hd_o z76_6) | exact (hd_o z76_6).elim (fun h1 => by omega) (fun h1 => by omega)); omega))) (fun M79 hS w79 => ?_)
      refine Tr.aload_n (pc := 80) (i := 0) d_X12_declares_80 rfl rfl ?_
      refine Tr.getf (pc := 81) d_X12_declares_81 f_12_60 (by decide) (by decide) (ty_120 hS.1.1) ?_
      refine Tr.tp 125 (fx_120_16 hS.1.1) ?_
      refine Tr.aload_n (pc := 84) (i := 0) d_X12_declares_84 rfl rfl ?_
      refine Tr.getf (pc := 85) d_X12_declares_85 f_12_124 (by decide) (by decide) (ty_120 hS.1.1) ?_
      refine Tr.tp 0 ((kp_X12_declares_120_w1_120_37 hS).trans en_120_37) ?_
      refine Tr.aload_n (pc := 88) (i := 0) d_X12_declares_88 rfl rfl ?_
      refine Tr.iconst (pc := 89) d_X12_declares_89 (by decide) ?_
      refine Tr.bipush (pc := 90) d_X12_declares_90 rfl (by decide) ?_
      refine Tr.callV (pc := 92) (as := [_, _]) d_X12_declares_92 s_12_516 ok_X12_number rfl rfl (Nat.le_of_ble_eq_true rfl) (Nat.le_of_ble_eq_true rfl) (by decide) (ty_120 hS.1.1) ?_
      refine Tr.imp (Tr.deep (by decide) (ns_X12_number_120_w1 (G120_3 := s76_120_3) (G120_4 := s76_120_4) (G120_5 := s76_120_5) (G120_7 := s76_120_7) (G120_8 := s76_120_8) (G9010_0 := s76_9010_0) hS.1 (((Wr.b w79 rfl).trans es76_120_3)) (((Wr.b w79 rfl).trans es76_120_4)) (((Wr.b w79 rfl).trans es76_120_5)) (((Wr.b w79 rfl).trans es76_120_7)) (((Wr.b w79 rfl).trans es76_120_8)) (((tav_of ((Wr.b w79 rfl).trans rfl) ((Wr.b w79 rfl).trans rfl)).trans es76_9010_0)) 0 (by omega) 20 (by omega) (by first | exact (hd_o z76_0) | exact (hd_o z76_0).elim (fun h1 => by omega) (fun h1 => by omega)) (by omega) (by first | exact (hd_o z76_2) | exact (hd_o z76_2).elim (fun h1 => by omega) (fun h1 => h1.elim (fun h1 => by omega) (fun h1 => by omega))))) ?_
      rintro M92 _ ⟨h92, s92_120_3, s92_120_4, s92_120_5, s92_120_7, s92_120_8, s92_9010_0, es92_120_3, bs92_120_3, es92_120_4, bs92_120_4, es92_120_5, bs92_120_5, es92_120_7, bs92_120_7, es92_120_8, bs92_120_8, es92_9010_0, bs92_9010_0, r92, rfl, lr92, ur92, z92_0, z92_1, z92_2, z92_3, z92_4, z92_5, z92_6⟩
      have hS := St.tr hS h92 (by decide) (by decide)
      refine Tr.sc [(0, r92), (0, 0), (2, 125)] rfl ?_
      refine Tr.iastS (pc := 95) (P := St Pm0 ws_X12_declares_120_w1 as_X12_declares_120_w1 M0) d_X12_declares_95 (ty_125 hS.1.1) (by omega) (by omega) (st_125_0 hS (by decide) (by and_intros <;> omega) (Pm0.of hS.1.2.2.2.2 (fun _ => rd_wb _ rfl) (fun _ => rd_wb _ rfl) (fun _ => rd_wb _ rfl) (fun _ => rd_wb _ rfl) (fun _ => rd_wb _ rfl) (fun _ => rd_wb _ rfl) (fun _ => rd_wb _ rfl) (fun _ => rd_wb _ rfl) (fun _ => rd_wb _ rfl) (fun _ => rd_wb _ rfl) (rd_wb _ rfl) (rd_wb _ rfl) (rd_wb _ rfl) (rd_wb _ rfl) (rd_wb _ rfl) (rd_wb _ rfl) (rd_wb _ rfl) (rd_wb _ rfl) (rd_wb _ rfl) (rd_wb _ rfl) (rd_wb _ rfl))) (fun M95 hS w95 => ?_)
      refine Tr.goto (pc := 96) (tgt := 152) d_X12_declares_96 rfl ?_
      refine Tr.pick [0] (ls2 := [(0, (2, 120))]) rfl ?_
      obtain ⟨w152p96_120_6, ew152p96_120_6⟩ : ∃ v, rd M95 120 6 = v := ⟨_, rfl⟩
      have bw152p96_120_6 : (-2147483648) ≤ w152p96_120_6 ∧ w152p96_120_6 ≤ 2147483647 := by rw [← ew152p96_120_6]; exact ir_120_6 hS.1.2.1
      exact J152 _ _ _ _ _ _ _ _ hS (by and_intros <;> omega) (by and_intros <;> omega) (by and_intros <;> omega) (by and_intros <;> omega) (by omega) (by and_intros <;> omega) (by and_intros <;> omega) ((Wr.b w95 rfl).trans es92_120_3) ((Wr.b w95 rfl).trans es92_120_4) ((Wr.b w95 rfl).trans es92_120_5) ew152p96_120_6 ((Wr.b w95 rfl).trans es92_120_7) ((Wr.b w95 rfl).trans es92_120_8) ((tav_of ((Wr.b w95 rfl).trans rfl) ((Wr.b w95 rfl).trans rfl)).trans es92_9010_0) (by first | exact (hd_o z92_0) | exact (hd_o z92_0).elim (fun h1 => by omega) (fun h1 => by omega)) (by omega) (by first | exact (hd_o z92_2) | exact (hd_o z92_2).elim (fun h1 => by omega) (fun h1 => h1.elim (fun h1 => by omega) (fun h1 => by omega))) (by and_intros <;> omega) (by omega)
  · have c7b : 1 ≤ r4 ∧ r4 ≤ 1 := by omega
    replace c7 := hd_i c7
    refine Tr.aload_n (pc := 10) (i := 0) d_X12_declares_10 rfl rfl ?_
    refine Tr.callV (pc := 11) (as := []) d_X12_declares_11 s_12_396 ok_X12_next rfl rfl (Nat.le_of_ble_eq_true rfl) (Nat.le_of_ble_eq_true rfl) (by decide) (ty_120 hS.1.1) ?_
    refine Tr.imp (Tr.deep (by decide) (ns_X12_next_120_w1 (G120_3 := g120_3) (G120_5 := g120_5) (G120_8 := g120_8) (G9010_0 := g9010_0) hS.1 (((kp_X12_isWord_120_120_3 h4).trans eg120_3)) (((kp_X12_isWord_120_120_5 h4).trans eg120_5)) (((kp_X12_isWord_120_120_8 h4).trans eg120_8)) (((tav_of ((kp_X12_isWord_120_120_5 h4).trans rfl) ((kp_X12_isWord_120_120_3 h4).trans rfl)).trans eg9010_0)))) ?_
    rintro M11 _ ⟨h11, s11_120_3, s11_120_4, s11_120_5, s11_120_7, s11_120_8, s11_9010_0, es11_120_3, bs11_120_3, es11_120_4, bs11_120_4, es11_120_5, bs11_120_5, es11_120_7, bs11_120_7, es11_120_8, bs11_120_8, es11_9010_0, bs11_9010_0, rfl, z11_0, z11_1, z11_2, z11_3, z11_4, z11_5, z11_6⟩
    have hS := St.tr hS h11 (by decide) (by decide)
    refine Tr.sc [] rfl ?_
    refine Tr.aload_n (pc := 14) (i := 0) d_X12_declares_14 rfl rfl ?_
    refine Tr.getf (pc := 15) d_X12_declares_15 f_12_51 (by decide) (by decide) (ty_120 hS.1.1) ?_
    refine Tr.tp 122 (fx_120_13 hS.1.1) ?_
    refine Tr.aload_n (pc := 18) (i := 0) d_X12_declares_18 rfl rfl ?_
    refine Tr.getf (pc := 19) d_X12_declares_19 f_12_124 (by decide) (by decide) (ty_120 hS.1.1) ?_
    refine Tr.tp 0 ((kp_X12_declares_120_w1_120_37 hS).trans en_120_37) ?_
    refine Tr.aload_n (pc := 22) (i := 0) d_X12_declares_22 rfl rfl ?_
    refine Tr.iconst (pc := 23) d_X12_declares_23 (by decide) ?_
    refine Tr.sipush (pc := 24) d_X12_declares_24 rfl (by decide) ?_
    refine Tr.callV (pc := 27) (as := [_, _]) d_X12_declares_27 s_12_516 ok_X12_number rfl rfl (Nat.le_of_ble_eq_true rfl) (Nat.le_of_ble_eq_true rfl) (by decide) (ty_120 hS.1.1) ?_
    refine Tr.imp (Tr.deep (by decide) (ns_X12_number_120_w1 (G120_3 := s11_120_3) (G120_4 := s11_120_4) (G120_5 := s11_120_5) (G120_7 := s11_120_7) (G120_8 := s11_120_8) (G9010_0 := s11_9010_0) hS.1 (es11_120_3) (es11_120_4) (es11_120_5) (es11_120_7) (es11_120_8) (es11_9010_0) 0 (by omega) 999 (by omega) (by first | exact (hd_o z11_0) | exact (hd_o z11_0).elim (fun h1 => by omega) (fun h1 => by omega)) (by omega) (by first | exact (hd_o z11_2) | exact (hd_o z11_2).elim (fun h1 => by omega) (fun h1 => h1.elim (fun h1 => by omega) (fun h1 => by omega))))) ?_
    rintro M27 _ ⟨h27, s27_120_3, s27_120_4, s27_120_5, s27_120_7, s27_120_8, s27_9010_0, es27_120_3, bs27_120_3, es27_120_4, bs27_120_4, es27_120_5, bs27_120_5, es27_120_7, bs27_120_7, es27_120_8, bs27_120_8, es27_9010_0, bs27_9010_0, r27, rfl, lr27, ur27, z27_0, z27_1, z27_2, z27_3, z27_4, z27_5, z27_6⟩
    have hS := St.tr hS h27 (by decide) (by decide)
    refine Tr.sc [(0, r27), (0, 0), (2, 122)] rfl ?_
    refine Tr.iastS (pc := 30) (P := St Pm0 ws_X12_declares_120_w1 as_X12_declares_120_w1 M0) d_X12_declares_30 (ty_122 hS.1.1) (by omega) (by omega) (st_122_0 hS (by decide) (by and_intros <;> omega) (Pm0.of hS.1.2.2.2.2 (fun _ => rd_wb _ rfl) (fun _ => rd_wb _ rfl) (fun _ => rd_wb _ rfl) (fun _ => rd_wb _ rfl) (fun _ => rd_wb _ rfl) (fun _ => rd_wb _ rfl) (fun _ => rd_wb _ rfl) (fun _ => rd_wb _ rfl) (fun _ => rd_wb _ rfl) (fun _ => rd_wb _ rfl) (rd_wb _ rfl) (rd_wb _ rfl) (rd_wb _ rfl) (rd_wb _ rfl) (rd_wb _ rfl) (rd_wb _ rfl) (rd_wb _ rfl) (rd_wb _ rfl) (rd_wb _ rfl) (rd_wb _ rfl) (rd_wb _ rfl))) (fun M30 hS w30 => ?_)
    refine Tr.goto (pc := 31) (tgt := 152) d_X12_declares_31 rfl ?_
    refine Tr.pick [0] (ls2 := [(0, (2, 120))]) rfl ?_
    obtain ⟨w152p31_120_6, ew152p31_120_6⟩ : ∃ v, rd M30 120 6 = v := ⟨_, rfl⟩
    have bw152p31_120_6 : (-2147483648) ≤ w152p31_120_6 ∧ w152p31_120_6 ≤ 2147483647 := by rw [← ew152p31_120_6]; exact ir_120_6 hS.1.2.1
    exact J152 _ _ _ _ _ _ _ _ hS (by and_intros <;> omega) (by and_intros <;> omega) (by and_intros <;> omega) (by and_intros <;> omega) (by omega) (by and_intros <;> omega) (by and_intros <;> omega) ((Wr.b w30 rfl).trans es27_120_3) ((Wr.b w30 rfl).trans es27_120_4) ((Wr.b w30 rfl).trans es27_120_5) ew152p31_120_6 ((Wr.b w30 rfl).trans es27_120_7) ((Wr.b w30 rfl).trans es27_120_8) ((tav_of ((Wr.b w30 rfl).trans rfl) ((Wr.b w30 rfl).trans rfl)).trans es27_9010_0) (by first | exact (hd_o z27_0) | exact (hd_o z27_0).elim (fun h1 => by omega) (fun h1 => by omega)) (by omega) (by first | exact (hd_o z27_2) | exact (hd_o z27_2).elim (fun h1 => by omega) (fun h1 => h1.elim (fun h1 => by omega) (fun h1 => by omega))) (by and_intros <;> omega) (by omega)
end
/-! 40.10 -/
section
set_option maxRecDepth 100000 in
set_option maxHeartbeats 4000000 in
theorem ns_X12_declares_120_w1 {l : Launch} {K : EC} {M0 : Mem} {G120_3 G120_4 G120_5 G120_7 G120_8 G9010_0 : Int} (hI : In Pm0 M0) (k120_3 : rd M0 120 3 = G120_3) (k120_4 : rd M0 120 4 = G120_4) (k120_5 : rd M0 120 5 = G120_5) (k120_7 : rd M0 120 7 = G120_7) (k120_8 : rd M0 120 8 = G120_8) (k9010_0 : tav M0 = G9010_0) (en_120_37 : rd M0 120 37 = 0)   (hq0 : G120_3 = 0 ∨ G120_4 + 1 ≤ G120_5) (hq1 : G120_4 ≤ G120_5) (hq2 : G120_3 ≠ 1 ∨ G120_4 + 2 ≤ G120_5 ∨ G120_7 < 256) (hq3 : G120_3 ≠ 0) (hq4 : G120_8 = 0) : Tr l K 4 mX12_declares 0 [(0, (2, 120))] [] M0 (fun M' r => St Pm0 ws_X12_declares_120_w1 as_X12_declares_120_w1 M0 M' ∧ ∃ S120_3 S120_4 S120_5 S120_7 S120_8 S9010_0 : Int, rd M' 120 3 = S120_3 ∧ (0 ≤ S120_3 ∧ S120_3 ≤ 3) ∧ rd M' 120 4 = S120_4 ∧ (0 ≤ S120_4 ∧ S120_4 ≤ 900) ∧ rd M' 120 5 = S120_5 ∧ (0 ≤ S120_5 ∧ S120_5 ≤ 900) ∧ rd M' 120 7 = S120_7 ∧ ((-9223372036854775808) ≤ S120_7 ∧ S120_7 ≤ 9223372036854775807) ∧ rd M' 120 8 = S120_8 ∧ (0 ≤ S120_8 ∧ S120_8 ≤ 5) ∧ tav M' = S9010_0 ∧ ((-1) ≤ S9010_0 ∧ S9010_0 ≤ 1800) ∧ ∃ v : Int, r = some (0, v) ∧ 0 ≤ v ∧ v ≤ 1 ∧ Hd (S120_3 = 0 ∨ S120_4 + 1 ≤ S120_5) ∧ (S120_4 ≤ S120_5) ∧ Hd (S120_3 ≠ 1 ∨ S120_4 + 2 ≤ S120_5 ∨ S120_7 < 256) ∧ (G120_4 ≤ S120_4 ∧ G120_5 ≤ S120_5 ∧ G9010_0 ≤ S9010_0) ∧ Hd (G120_8 = 0 ∨ S120_8 = G120_8) ∧ Hd (v = 0 ∨ 1 ≤ S120_8 ∨ G9010_0 < S9010_0)) := by
  subst k120_3
  subst k120_4
  subst k120_5
  subst k120_7
  subst k120_8
  subst k9010_0
  refine Tr.imp (sp_X12_declares_120_w1 hI en_120_37 hq0 hq1 hq2 hq3 hq4) ?_
  rintro M' _ ⟨hS, v, rfl, lr, ur, z0, z1, z2, z3, z4, z5⟩
  exact ⟨hS, _, _, _, _, _, _, rfl, ir_120_3 hS.1.2.1, rfl, ir_120_4 hS.1.2.1, rfl, ir_120_5 hS.1.2.1, rfl, ir_120_7 hS.1.2.1, rfl, ir_120_8 hS.1.2.1, rfl, (tav_b hS.1.2.1), v, rfl, lr, ur, hd_i z0, z1, hd_i z2, z3, hd_i z4, hd_i z5⟩

def ws_X12_spot_120_w1 : List (Int × Int) := [(136, 0)]
def as_X12_spot_120_w1 : List Int := [137, 138, 139, 140, 141, 142]
def q_X12_spot_120_w1 (a1 : Int) (a2 : Int) (M0 M' : Mem) (r : Option PV) : Prop := St Pm0 ws_X12_spot_120_w1 as_X12_spot_120_w1 M0 M' ∧ ∃ v : Int, r = some (0, v) ∧ 0 ≤ v ∧ v ≤ 199 ∧ (rd M' 136 0 = rd M0 136 0 + 1) ∧ (v = 0 + rd M0 136 0) ∧ (∀ j : Int, j < 0 + rd M0 136 0 → rd M' 137 j = rd M0 137 j) ∧ (rd M' 137 (0 + rd M0 136 0) = a1)
theorem kp_X12_spot_120_w1_120_37 {q : Mem → Prop} {M0 M : Mem} (h : St q ws_X12_spot_120_w1 as_X12_spot_120_w1 M0 M) : rd M 120 37 = rd M0 120 37 := St.kp h (by decide) (by decide) (by decide)
set_option maxRecDepth 100000 in
set_option maxHeartbeats 4000000 in
theorem sp_X12_spot_120_w1 {l : Launch} {K : EC} {M0 : Mem} (hI : In Pm0 M0) (en_120_37 : rd M0 120 37 = 0) (a1 : Int) (ha1 : 0 ≤ a1 ∧ a1 ≤ 8) (a2 : Int) (ha2 : (-1) ≤ a2 ∧ a2 ≤ 59)  (hq0 : rd M0 136 0 ≤ 199) (hq1 : a1 ≠ 0 ∨ 1 ≤ rd M0 136 0) (hq2 : a1 = 0 ∨ 0 ≤ a2) : Tr l K 0 mX12_spot 0 [(0, (2, 120)), (1, (0, a1)), (2, (0, a2))] [] M0 (q_X12_spot_120_w1 a1 a2 M0) := by
  have hS : St Pm0 ws_X12_spot_120_w1 as_X12_spot_120_w1 M0 M0 := St.rf hI
  obtain ⟨g136_0, eg136_0⟩ : ∃ v, rd M0 136 0 = v := ⟨_, rfl⟩
  have bg136_0 : 0 ≤ g136_0 ∧ g136_0 ≤ 200 := by rw [← eg136_0]; exact ir_136_0 hI.2.1
  obtain ⟨g120_36, eg120_36⟩ : ∃ v, rd M0 120 36 = v := ⟨_, rfl⟩
  have bg120_36 : 0 ≤ g120_36 ∧ g120_36 ≤ 900 := by rw [← eg120_36]; exact ir_120_36 hI.2.1
  replace hq1 := hd_i hq1
  replace hq2 := hd_i hq2
  refine Tr.sipush (pc := 0) d_X12_spot_0 rfl (by decide) ?_
  refine Tr.aload_n (pc := 3) (i := 0) d_X12_spot_3 rfl rfl ?_
  refine Tr.getf (pc := 4) d_X12_spot_4 f_12_124 (by decide) (by decide) (ty_120 hS.1.1) ?_
  refine Tr.tp 0 ((kp_X12_spot_120_w1_120_37 hS).trans en_120_37) ?_
  refine Tr.imul (pc := 7) d_X12_spot_7 ?_
  refine Tr.tp 0 (by decide) ?_
  refine Tr.aload_n (pc := 8) (i := 0) d_X12_spot_8 rfl rfl ?_
  refine Tr.getf (pc := 9) d_X12_spot_9 f_12_94 (by decide) (by decide) (ty_120 hS.1.1) ?_
  refine Tr.tp 136 (fx_120_27 hS.1.1) ?_
  refine Tr.aload_n (pc := 12) (i := 0) d_X12_spot_12 rfl rfl ?_
  refine Tr.getf (pc := 13) d_X12_spot_13 f_12_124 (by decide) (by decide) (ty_120 hS.1.1) ?_
  refine Tr.tp 0 ((kp_X12_spot_120_w1_120_37 hS).trans en_120_37) ?_
  refine Tr.iald (pc := 16) d_X12_spot_16 (ty_136 hS.1.1) (by omega) (by omega) ?_
  refine Tr.tp g136_0 eg136_0 ?_
  refine Tr.iadd (pc := 17) d_X12_spot_17 ?_
  refine Tr.tp g136_0 ((w32_id (by and_intros <;> omega)).trans (by omega)) ?_
  refine Tr.istore_n (pc := 18) (i := 3) (ls2 := [(3, (0, g136_0)), (0, (2, 120)), (1, (0, a1)), (2, (0, a2))]) d_X12_spot_18 rfl (by decide) rfl ?_
  refine Tr.aload_n (pc := 19) (i := 0) d_X12_spot_19 rfl rfl ?_
  refine Tr.getf (pc := 20) d_X12_spot_20 f_12_97 (by decide) (by decide) (ty_120 hS.1.1) ?_
  refine Tr.tp 137 (fx_120_28 hS.1.1) ?_
  refine Tr.iload_n (pc := 23) (i := 3) d_X12_spot_23 rfl rfl ?_
  refine Tr.iload_n (pc := 24) (i := 1) d_X12_spot_24 rfl rfl ?_
  have kx_136_0 : rd M0 136 0 = g136_0 := eg136_0
  refine Tr.iastS (pc := 25) (P := St Pm0 ws_X12_spot_120_w1 as_X12_spot_120_w1 M0) d_X12_spot_25 (ty_137 hS.1.1) (by omega) (by omega) (sa_137 hS (by decide) (by and_intros <;> omega) (Pm0_free hS.1.2.2.2.2 hS.1.2.1 (by omega) (by omega) (by omega))) (fun M25 hS w25 => ?_)
  refine Tr.aload_n (pc := 26) (i := 0) d_X12_spot_26 rfl rfl ?_
  refine Tr.getf (pc := 27) d_X12_spot_27 f_12_100 (by decide) (by decide) (ty_120 hS.1.1) ?_
  refine Tr.tp 138 (fx_120_29 hS.1.1) ?_
  refine Tr.iload_n (pc := 30) (i := 3) d_X12_spot_30 rfl rfl ?_
  refine Tr.iload_n (pc := 31) (i := 2) d_X12_spot_31 rfl rfl ?_
  have kx_136_0 : rd M25 136 0 = g136_0 := ((Wr.b w25 rfl).trans eg136_0)
  refine Tr.iastS (pc := 32) (P := St Pm0 ws_X12_spot_120_w1 as_X12_spot_120_w1 M0) d_X12_spot_32 (ty_138 hS.1.1) (by omega) (by omega) (sa_138 hS (by decide) (by and_intros <;> omega) (Pm0_free hS.1.2.2.2.2 hS.1.2.1 (by omega) (by omega) (by omega))) (fun M32 hS w32 => ?_)
  refine Tr.aload_n (pc := 33) (i := 0) d_X12_spot_33 rfl rfl ?_
  refine Tr.getf (pc := 34) d_X12_spot_34 f_12_103 (by decide) (by decide) (ty_120 hS.1.1) ?_
  refine Tr.tp 139 (fx_120_30 hS.1.1) ?_
  refine Tr.iload_n (pc := 37) (i := 3) d_X12_spot_37 rfl rfl ?_
  refine Tr.iconst (pc := 38) d_X12_spot_38 (by decide) ?_
  have kx_136_0 : rd M32 136 0 = g136_0 := ((Wr.b w32 rfl).trans ((Wr.b w25 rfl).trans eg136_0))
  refine Tr.iastS (pc := 39) (P := St Pm0 ws_X12_spot_120_w1 as_X12_spot_120_w1 M0) d_X12_spot_39 (ty_139 hS.1.1) (by omega) (by omega) (sa_139 hS (by decide) (by omega) (Pm0_free hS.1.2.2.2.2 hS.1.2.1 (by omega) (by omega) (by omega))) (fun M39 hS w39 => ?_)
  refine Tr.aload_n (pc := 40) (i := 0) d_X12_spot_40 rfl rfl ?_
  refine Tr.getf (pc := 41) d_X12_spot_41 f_12_106 (by decide) (by decide) (ty_120 hS.1.1) ?_
  refine Tr.tp 140 (fx_120_31 hS.1.1) ?_
  refine Tr.iload_n (pc := 44) (i := 3) d_X12_spot_44 rfl rfl ?_
  refine Tr.aload_n (pc := 45) (i := 0) d_X12_spot_45 rfl rfl ?_
  refine Tr.getf (pc := 46) d_X12_spot_46 f_12_121 (by decide) (by decide) (ty_120 hS.1.1) ?_
  refine Tr.tp g120_36 ((Wr.b w39 rfl).trans ((Wr.b w32 rfl).trans ((Wr.b w25 rfl).trans eg120_36))) ?_
  have kx_136_0 : rd M39 136 0 = g136_0 := ((Wr.b w39 rfl).trans ((Wr.b w32 rfl).trans ((Wr.b w25 rfl).trans eg136_0)))
  refine Tr.iastS (pc := 49) (P := St Pm0 ws_X12_spot_120_w1 as_X12_spot_120_w1 M0) d_X12_spot_49 (ty_140 hS.1.1) (by omega) (by omega) (sa_140 hS (by decide) (by and_intros <;> omega) (Pm0_free hS.1.2.2.2.2 hS.1.2.1 (by omega) (by omega) (by omega))) (fun M49 hS w49 => ?_)
  refine Tr.aload_n (pc := 50) (i := 0) d_X12_spot_50 rfl rfl ?_
  refine Tr.getf (pc := 51) d_X12_spot_51 f_12_109 (by decide) (by decide) (ty_120 hS.1.1) ?_
  refine Tr.tp 141 (fx_120_32 hS.1.1) ?_
  refine Tr.iload_n (pc := 54) (i := 3) d_X12_spot_54 rfl rfl ?_
  refine Tr.aload_n (pc := 55) (i := 0) d_X12_spot_55 rfl rfl ?_
  refine Tr.getf (pc := 56) d_X12_spot_56 f_12_121 (by decide) (by decide) (ty_120 hS.1.1) ?_
  refine Tr.tp g120_36 ((Wr.b w49 rfl).trans ((Wr.b w39 rfl).trans ((Wr.b w32 rfl).trans ((Wr.b w25 rfl).trans eg120_36)))) ?_
  have kx_136_0 : rd M49 136 0 = g136_0 := ((Wr.b w49 rfl).trans ((Wr.b w39 rfl).trans ((Wr.b w32 rfl).trans ((Wr.b w25 rfl).trans eg136_0))))
  refine Tr.iastS (pc := 59) (P := St Pm0 ws_X12_spot_120_w1 as_X12_spot_120_w1 M0) d_X12_spot_59 (ty_141 hS.1.1) (by omega) (by omega) (sa_141 hS (by decide) (by and_intros <;> omega) (Pm0_free hS.1.2.2.2.2 hS.1.2.1 (by omega) (by omega) (by omega))) (fun M59 hS w59 => ?_)
  refine Tr.aload_n (pc := 60) (i := 0) d_X12_spot_60 rfl rfl ?_
  refine Tr.getf (pc := 61) d_X12_spot_61 f_12_112 (by decide) (by decide) (ty_120 hS.1.1) ?_
  refine Tr.tp 142 (fx_120_33 hS.1.1) ?_
  refine Tr.iload_n (pc := 64) (i := 3) d_X12_spot_64 rfl rfl ?_
  refine Tr.iconst (pc := 65) d_X12_spot_65 (by decide) ?_
  have kx_136_0 : rd M59 136 0 = g136_0 := ((Wr.b w59 rfl).trans ((Wr.b w49 rfl).trans ((Wr.b w39 rfl).trans ((Wr.b w32 rfl).trans ((Wr.b w25 rfl).trans eg136_0)))))
  refine Tr.iastS (pc := 66) (P := St Pm0 ws_X12_spot_120_w1 as_X12_spot_120_w1 M0) d_X12_spot_66 (ty_142 hS.1.1) (by omega) (by omega) (sa_142 hS (by decide) (by omega) (Pm0_free hS.1.2.2.2.2 hS.1.2.1 (by omega) (by omega) (by omega))) (fun M66 hS w66 => ?_)
  refine Tr.aload_n (pc := 67) (i := 0) d_X12_spot_67 rfl rfl ?_
  refine Tr.getf (pc := 68) d_X12_spot_68 f_12_94 (by decide) (by decide) (ty_120 hS.1.1) ?_
  refine Tr.tp 136 (fx_120_27 hS.1.1) ?_
  refine Tr.aload_n (pc := 71) (i := 0) d_X12_spot_71 rfl rfl ?_
  refine Tr.getf (pc := 72) d_X12_spot_72 f_12_124 (by decide) (by decide) (ty_120 hS.1.1) ?_
  refine Tr.tp 0 ((kp_X12_spot_120_w1_120_37 hS).trans en_120_37) ?_
  refine Tr.dup2 (pc := 75) d_X12_spot_75 ne01 ne21 ?_
  refine Tr.iald (pc := 76) d_X12_spot_76 (ty_136 hS.1.1) (by omega) (by omega) ?_
  refine Tr.tp g136_0 ((Wr.b w66 rfl).trans ((Wr.b w59 rfl).trans ((Wr.b w49 rfl).trans ((Wr.b w39 rfl).trans ((Wr.b w32 rfl).trans ((Wr.b w25 rfl).trans eg136_0)))))) ?_
  refine Tr.iconst (pc := 77) d_X12_spot_77 (by decide) ?_
  refine Tr.iadd (pc := 78) d_X12_spot_78 ?_
  refine Tr.tp (g136_0 + 1) ((w32_id (by and_intros <;> omega)).trans (by omega)) ?_
  have kx_136_0 : rd M66 136 0 = g136_0 := ((Wr.b w66 rfl).trans ((Wr.b w59 rfl).trans ((Wr.b w49 rfl).trans ((Wr.b w39 rfl).trans ((Wr.b w32 rfl).trans ((Wr.b w25 rfl).trans eg136_0))))))
  refine Tr.iastS (pc := 79) (P := St Pm0 ws_X12_spot_120_w1 as_X12_spot_120_w1 M0) d_X12_spot_79 (ty_136 hS.1.1) (by omega) (by omega) (st_136_0 hS (by decide) (by and_intros <;> omega) (Pm0_spot hS.1.2.2.2.2 hS.1.2.1 (by have e9 := ((Wr.b w66 rfl).trans ((Wr.b w59 rfl).trans ((Wr.b w49 rfl).trans ((Wr.b w39 rfl).trans ((Wr.b w32 rfl).trans ((Wr.b w25 rfl).trans eg136_0)))))); omega) ((show rd M66 137 (0 + rd M66 136 0) = rd M66 137 g136_0 from congrArg _ (by have e9 := ((Wr.b w66 rfl).trans ((Wr.b w59 rfl).trans ((Wr.b w49 rfl).trans ((Wr.b w39 rfl).trans ((Wr.b w32 rfl).trans ((Wr.b w25 rfl).trans eg136_0)))))); omega)).trans (((Wr.b w66 rfl).trans ((Wr.b w59 rfl).trans ((Wr.b w49 rfl).trans ((Wr.b w39 rfl).trans ((Wr.b w32 rfl).trans w25.1))))))) ((show rd M66 138 (0 + rd M66 136 0) = rd M66 138 g136_0 from congrArg _ (by have e9 := ((Wr.b w66 rfl).trans ((Wr.b w59 rfl).trans ((Wr.b w49 rfl).trans ((Wr.b w39 rfl).trans ((Wr.b w32 rfl).trans ((Wr.b w25 rfl).trans eg136_0)))))); omega)).trans (((Wr.b w66 rfl).trans ((Wr.b w59 rfl).trans ((Wr.b w49 rfl).trans ((Wr.b w39 rfl).trans w32.1)))))) ((show rd M66 139 (0 + rd M66 136 0) = rd M66 139 g136_0 from congrArg _ (by have e9 := ((Wr.b w66 rfl).trans ((Wr.b w59 rfl).trans ((Wr.b w49 rfl).trans ((Wr.b w39 rfl).trans ((Wr.b w32 rfl).trans ((Wr.b w25 rfl).trans eg136_0)))))); omega)).trans (((Wr.b w66 rfl).trans ((Wr.b w59 rfl).trans ((Wr.b w49 rfl).trans w39.1))))) ((show rd M66 140 (0 + rd M66 136 0) = rd M66 140 g136_0 from congrArg _ (by have e9 := ((Wr.b w66 rfl).trans ((Wr.b w59 rfl).trans ((Wr.b w49 rfl).trans ((Wr.b w39 rfl).trans ((Wr.b w32 rfl).trans ((Wr.b w25 rfl).trans eg136_0)))))); omega)).trans (((Wr.b w66 rfl).trans ((Wr.b w59 rfl).trans w49.1)))) ((show rd M66 141 (0 + rd M66 136 0) = rd M66 141 g136_0 from congrArg _ (by have e9 := ((Wr.b w66 rfl).trans ((Wr.b w59 rfl).trans ((Wr.b w49 rfl).trans ((Wr.b w39 rfl).trans ((Wr.b w32 rfl).trans ((Wr.b w25 rfl).trans eg136_0)))))); omega)).trans (((Wr.b w66 rfl).trans w59.1))) ((show rd M66 142 (0 + rd M66 136 0) = rd M66 142 g136_0 from congrArg _ (by have e9 := ((Wr.b w66 rfl).trans ((Wr.b w59 rfl).trans ((Wr.b w49 rfl).trans ((Wr.b w39 rfl).trans ((Wr.b w32 rfl).trans ((Wr.b w25 rfl).trans eg136_0)))))); omega)).trans (w66.1)) (((Wr.b w66 rfl).trans ((Wr.b w59 rfl).trans ((Wr.b w49 rfl).trans ((Wr.b w39 rfl).trans ((Wr.b w32 rfl).trans ((Wr.b w25 rfl).trans eg120_36))))))) (fun c => by have e9 := ((Wr.b w66 rfl).trans ((Wr.b w59 rfl).trans ((Wr.b w49 rfl).trans ((Wr.b w39 rfl).trans ((Wr.b w32 rfl).trans ((Wr.b w25 rfl).trans eg136_0)))))); have h5 := hd_o hq1; omega) (fun c => by have h5 := hd_o hq2; omega))) (fun M79 hS w79 => ?_)
  refine Tr.iload_n (pc := 80) (i := 3) d_X12_spot_80 rfl rfl ?_
  have kr_136_0 : rd M79 136 0 = (g136_0 + 1) := w79.1
  exact Tr.iret (pc := 81) d_X12_spot_81 rfl ⟨hS, _, rfl, (by omega), (by omega), (by omega), (by omega), (fun j hj => ((Wr.b w79 rfl).trans ((Wr.b w66 rfl).trans ((Wr.b w59 rfl).trans ((Wr.b w49 rfl).trans ((Wr.b w39 rfl).trans ((Wr.b w32 rfl).trans (w25.2 _ _ (fun c => by have := c.2; omega))))))))), ((show _ = _ from congrArg _ (by omega)).trans (((Wr.b w79 rfl).trans ((Wr.b w66 rfl).trans ((Wr.b w59 rfl).trans ((Wr.b w49 rfl).trans ((Wr.b w39 rfl).trans ((Wr.b w32 rfl).trans w25.1))))))))⟩

set_option maxRecDepth 100000 in
set_option maxHeartbeats 4000000 in
theorem ns_X12_spot_120_w1 {l : Launch} {K : EC} {M0 : Mem} {G136_0 : Int} (hI : In Pm0 M0) (k136_0 : rd M0 136 0 = G136_0) (en_120_37 : rd M0 120 37 = 0) (a1 : Int) (ha1 : 0 ≤ a1 ∧ a1 ≤ 8) (a2 : Int) (ha2 : (-1) ≤ a2 ∧ a2 ≤ 59)  (hq0 : G136_0 ≤ 199) (hq1 : a1 ≠ 0 ∨ 1 ≤ G136_0) (hq2 : a1 = 0 ∨ 0 ≤ a2) : Tr l K 0 mX12_spot 0 [(0, (2, 120)), (1, (0, a1)), (2, (0, a2))] [] M0 (fun M' r => St Pm0 ws_X12_spot_120_w1 as_X12_spot_120_w1 M0 M' ∧ ∃ S136_0 : Int, rd M' 136 0 = S136_0 ∧ (0 ≤ S136_0 ∧ S136_0 ≤ 200) ∧ ∃ v : Int, r = some (0, v) ∧ 0 ≤ v ∧ v ≤ 199 ∧ (S136_0 = G136_0 + 1) ∧ (v = 0 + G136_0) ∧ (∀ j : Int, j < 0 + rd M0 136 0 → rd M' 137 j = rd M0 137 j) ∧ (rd M' 137 (0 + rd M0 136 0) = a1)) := by
  subst k136_0
  refine Tr.imp (sp_X12_spot_120_w1 hI en_120_37 a1 ha1 a2 ha2 hq0 hq1 hq2) ?_
  rintro M' _ ⟨hS, v, rfl, lr, ur, z0, z1, z2, z3⟩
  exact ⟨hS, _, rfl, ir_136_0 hS.1.2.1, v, rfl, lr, ur, z0, z1, z2, z3⟩

def ws_X12_asked_120_w1 : List (Int × Int) := [(120, 3), (120, 4), (120, 5), (120, 6), (120, 7), (120, 8), (120, 9)]
def as_X12_asked_120_w1 : List Int := []
def q_X12_asked_120_w1 (a1 : Int) (M0 M' : Mem) (r : Option PV) : Prop := St Pm0 ws_X12_asked_120_w1 as_X12_asked_120_w1 M0 M' ∧ ∃ v : Int, r = some (0, v) ∧ (-1) ≤ v ∧ v ≤ 5 ∧ (rd M' 120 3 = 0 ∨ rd M' 120 4 + 1 ≤ rd M' 120 5) ∧ (rd M' 120 4 ≤ rd M' 120 5) ∧ (rd M' 120 3 ≠ 1 ∨ rd M' 120 4 + 2 ≤ rd M' 120 5 ∨ rd M' 120 7 < 256) ∧ (rd M0 120 4 ≤ rd M' 120 4 ∧ rd M0 120 5 ≤ rd M' 120 5 ∧ tav M0 ≤ tav M') ∧ (rd M0 120 8 = 0 ∨ rd M' 120 8 = rd M0 120 8) ∧ (1 ≤ rd M' 120 8 ∨ tav M0 < tav M') ∧ (1 ≤ rd M' 120 8 ∨ (0 ≤ v ∧ v ≤ 5))
theorem kp_X12_asked_120_w1_120_37 {q : Mem → Prop} {M0 M : Mem} (h : St q ws_X12_asked_120_w1 as_X12_asked_120_w1 M0 M) : rd M 120 37 = rd M0 120 37 := St.kp h (by decide) (by decide) (by decide)
set_option maxRecDepth 100000 in
set_option maxHeartbeats 4000000 in
theorem sp_X12_asked_120_w1 {l : Launch} {K : EC} {M0 : Mem} (hI : In Pm0 M0) (en_120_37 : rd M0 120 37 = 0) (a1 : Int) (ha1 : 0 ≤ a1 ∧ a1 ≤ 1)  (hq0 : rd M0 120 3 = 0 ∨ rd M0 120 4 + 1 ≤ rd M0 120 5) (hq1 : rd M0 120 4 ≤ rd M0 120 5) (hq2 : rd M0 120 3 ≠ 1 ∨ rd M0 120 4 + 2 ≤ rd M0 120 5 ∨ rd M0 120 7 < 256) : Tr l K 2 mX12_asked 0 [(0, (2, 120)), (1, (0, a1))] [] M0 (q_X12_asked_120_w1 a1 M0) := by
  have hS : St Pm0 ws_X12_asked_120_w1 as_X12_asked_120_w1 M0 M0 := St.rf hI
  obtain ⟨g120_8, eg120_8⟩ : ∃ v, rd M0 120 8 = v := ⟨_, rfl⟩
  have bg120_8 : 0 ≤ g120_8 ∧ g120_8 ≤ 5 := by rw [← eg120_8]; exact ir_120_8 hI.2.1
  obtain ⟨g120_3, eg120_3⟩ : ∃ v, rd M0 120 3 = v := ⟨_, rfl⟩
  have bg120_3 : 0 ≤ g120_3 ∧ g120_3 ≤ 3 := by rw [← eg120_3]; exact ir_120_3 hI.2.1
  obtain ⟨g120_4, eg120_4⟩ : ∃ v, rd M0 120 4 = v := ⟨_, rfl⟩
  have bg120_4 : 0 ≤ g120_4 ∧ g120_4 ≤ 900 := by rw [← eg120_4]; exact ir_120_4 hI.2.1
  obtain ⟨g120_5, eg120_5⟩ : ∃ v, rd M0 120 5 = v := ⟨_, rfl⟩
  have bg120_5 : 0 ≤ g120_5 ∧ g120_5 ≤ 900 := by rw [← eg120_5]; exact ir_120_5 hI.2.1
  obtain ⟨g120_7, eg120_7⟩ : ∃ v, rd M0 120 7 = v := ⟨_, rfl⟩
  have bg120_7 : (-9223372036854775808) ≤ g120_7 ∧ g120_7 ≤ 9223372036854775807 := by rw [← eg120_7]; exact ir_120_7 hI.2.1
  obtain ⟨g9010_0, eg9010_0⟩ : ∃ v, tav M0 = v := ⟨_, rfl⟩
  have bg9010_0 : (-1) ≤ g9010_0 ∧ g9010_0 ≤ 1800 := by rw [← eg9010_0]; exact (tav_b hI.2.1)
  replace hq0 := hd_i hq0
  replace hq2 := hd_i hq2
  refine Tr.aload_n (pc := 0) (i := 0) d_X12_asked_0 rfl rfl ?_
  refine Tr.getf (pc := 1) d_X12_asked_1 f_12_36 (by decide) (by decide) (ty_120 hS.1.1) ?_
  refine Tr.tp g120_8 eg120_8 ?_
  refine Tr.if_le (pc := 4) (tgt := 9) d_X12_asked_4 rfl (fun c4 => ?_) (fun c4 => ?_)
  · refine Tr.aload_n (pc := 9) (i := 0) d_X12_asked_9 rfl rfl ?_
    refine Tr.getf (pc := 10) d_X12_asked_10 f_12_20 (by decide) (by decide) (ty_120 hS.1.1) ?_
    refine Tr.tp g120_3 eg120_3 ?_
    refine Tr.iconst (pc := 13) d_X12_asked_13 (by decide) ?_
    have J37 : ∀ (M : Mem) (u37_120_8 : Int), St Pm0 ws_X12_asked_120_w1 as_X12_asked_120_w1 M0 M → (0 ≤ u37_120_8 ∧ u37_120_8 ≤ 5) → rd M 120 3 = g120_3 → rd M 120 4 = g120_4 → rd M 120 5 = g120_5 → rd M 120 7 = g120_7 → rd M 120 8 = u37_120_8 → tav M = g9010_0 → (u37_120_8 ≠ 0 ∨ g120_3 ≠ 0) → (g120_8 = 0) → Tr l K 2 mX12_asked 37 [(0, (2, 120)), (1, (0, a1))] [] M (q_X12_asked_120_w1 a1 M0) := by
      intro M u37_120_8 hS bu37_120_8 k37_120_3 k37_120_4 k37_120_5 k37_120_7 k37_120_8 k37_9010_0 t37_0 t37_1
      replace t37_0 := hd_i t37_0
      refine Tr.aload_n (pc := 37) (i := 0) d_X12_asked_37 rfl rfl ?_
      refine Tr.getf (pc := 38) d_X12_asked_38 f_12_36 (by decide) (by decide) (ty_120 hS.1.1) ?_
      refine Tr.tp u37_120_8 k37_120_8 ?_
      have J71 : ∀ (M : Mem) (q71_0 : Int), St Pm0 ws_X12_asked_120_w1 as_X12_asked_120_w1 M0 M → ((-1) ≤ q71_0 ∧ q71_0 ≤ 5) → rd M 120 3 = g120_3 → rd M 120 4 = g120_4 → rd M 120 5 = g120_5 → rd M 120 7 = g120_7 → rd M 120 8 = u37_120_8 → tav M = g9010_0 → (u37_120_8 ≠ 0 ∨ g120_3 ≠ 0) → (g120_8 = 0) → (u37_120_8 ≠ 0 ∨ (-1 ≤ q71_0 ∧ q71_0 ≤ 5)) → Tr l K 2 mX12_asked 71 [(0, (2, 120))] [(0, q71_0)] M (q_X12_asked_120_w1 a1 M0) := by
        intro M q71_0 hS bq71_0 k71_120_3 k71_120_4 k71_120_5 k71_120_7 k71_120_8 k71_9010_0 t71_0 t71_1 t71_2
        clear k37_120_3 k37_120_4 k37_120_5 k37_120_7 k37_120_8 k37_9010_0
        replace t71_0 := hd_i t71_0
        replace t71_2 := hd_i t71_2
        refine Tr.istore_n (pc := 71) (i := 2) (ls2 := [(2, (0, q71_0)), (0, (2, 120))]) d_X12_asked_71 rfl (by decide) rfl ?_
        refine Tr.aload_n (pc := 72) (i := 0) d_X12_asked_72 rfl rfl ?_
        refine Tr.getf (pc := 73) d_X12_asked_73 f_12_36 (by decide) (by decide) (ty_120 hS.1.1) ?_
        refine Tr.tp u37_120_8 k71_120_8 ?_
        have J93 : ∀ (M : Mem) (u93_120_8 : Int), St Pm0 ws_X12_asked_120_w1 as_X12_asked_120_w1 M0 M → (0 ≤ u93_120_8 ∧ u93_120_8 ≤ 5) → rd M 120 3 = g120_3 → rd M 120 4 = g120_4 → rd M 120 5 = g120_5 → rd M 120 7 = g120_7 → rd M 120 8 = u93_120_8 → tav M = g9010_0 → (u93_120_8 ≠ 0 ∨ g120_3 ≠ 0) → (g120_8 = 0) → (u93_120_8 ≠ 0 ∨ (0 ≤ q71_0 ∧ q71_0 ≤ 5)) → Tr l K 2 mX12_asked 93 [(0, (2, 120)), (2, (0, q71_0))] [] M (q_X12_asked_120_w1 a1 M0) := by
          intro M u93_120_8 hS bu93_120_8 k93_120_3 k93_120_4 k93_120_5 k93_120_7 k93_120_8 k93_9010_0 t93_0 t93_1 t93_2
          clear k71_120_3 k71_120_4 k71_120_5 k71_120_7 k71_120_8 k71_9010_0
          replace t93_0 := hd_i t93_0
          replace t93_2 := hd_i t93_2
          refine Tr.aload_n (pc := 93) (i := 0) d_X12_asked_93 rfl rfl ?_
          refine Tr.getf (pc := 94) d_X12_asked_94 f_12_36 (by decide) (by decide) (ty_120 hS.1.1) ?_
          refine Tr.tp u93_120_8 k93_120_8 ?_
          refine Tr.if_ne (pc := 97) (tgt := 104) d_X12_asked_97 rfl (fun c97 => ?_) (fun c97 => ?_)
          · have c97b : 1 ≤ u93_120_8 ∧ u93_120_8 ≤ 5 := by omega
            replace c97 := hd_i c97
            refine Tr.iload_n (pc := 104) (i := 2) d_X12_asked_104 rfl rfl ?_
            have kr_120_3 : rd M 120 3 = g120_3 := k93_120_3
            have kr_120_4 : rd M 120 4 = g120_4 := k93_120_4
            have kr_120_5 : rd M 120 5 = g120_5 := k93_120_5
            have kr_120_7 : rd M 120 7 = g120_7 := k93_120_7
            have kr_120_8 : rd M 120 8 = u93_120_8 := k93_120_8
            have kr_9010_0 : tav M = g9010_0 := k93_9010_0
            exact Tr.iret (pc := 105) d_X12_asked_105 rfl ⟨hS, _, rfl, (by omega), (by omega), (by first | exact (hd_o hq0) | exact (hd_o hq0).elim (fun h1 => by omega) (fun h1 => by omega)), (by omega), (by first | exact (hd_o hq2) | exact (hd_o hq2).elim (fun h1 => by omega) (fun h1 => h1.elim (fun h1 => by omega) (fun h1 => by omega))), (by and_intros <;> omega), (by omega), (by omega), (by omega)⟩
          · refine Tr.aload_n (pc := 100) (i := 0) d_X12_asked_100 rfl rfl ?_
            refine Tr.callV (pc := 101) (as := []) d_X12_asked_101 s_12_396 ok_X12_next rfl rfl (Nat.le_of_ble_eq_true rfl) (Nat.le_of_ble_eq_true rfl) (by decide) (ty_120 hS.1.1) ?_
            refine Tr.imp (Tr.deep (by decide) (ns_X12_next_120_w1 (G120_3 := g120_3) (G120_5 := g120_5) (G120_8 := u93_120_8) (G9010_0 := g9010_0) hS.1 (k93_120_3) (k93_120_5) (k93_120_8) (k93_9010_0))) ?_
            rintro M101 _ ⟨h101, s101_120_3, s101_120_4, s101_120_5, s101_120_7, s101_120_8, s101_9010_0, es101_120_3, bs101_120_3, es101_120_4, bs101_120_4, es101_120_5, bs101_120_5, es101_120_7, bs101_120_7, es101_120_8, bs101_120_8, es101_9010_0, bs101_9010_0, rfl, z101_0, z101_1, z101_2, z101_3, z101_4, z101_5, z101_6⟩
            have hS := St.tr hS h101 (by decide) (by decide)
            refine Tr.sc [] rfl ?_
            refine Tr.iload_n (pc := 104) (i := 2) d_X12_asked_104 rfl rfl ?_
            have kr_120_3 : rd M101 120 3 = s101_120_3 := es101_120_3
            have kr_120_4 : rd M101 120 4 = s101_120_4 := es101_120_4
            have kr_120_5 : rd M101 120 5 = s101_120_5 := es101_120_5
            have kr_120_7 : rd M101 120 7 = s101_120_7 := es101_120_7
            have kr_120_8 : rd M101 120 8 = s101_120_8 := es101_120_8
            have kr_9010_0 : tav M101 = s101_9010_0 := es101_9010_0
            exact Tr.iret (pc := 105) d_X12_asked_105 rfl ⟨hS, _, rfl, (by omega), (by omega), (by first | exact (hd_o z101_0) | exact (hd_o z101_0).elim (fun h1 => by omega) (fun h1 => by omega)), (by omega), (by first | exact (hd_o z101_2) | exact (hd_o z101_2).elim (fun h1 => by omega) (fun h1 => h1.elim (fun h1 => by omega) (fun h1 => by omega))), (by and_intros <;> omega), (by omega), (by exact (hd_o t93_0).elim (fun h1 => (ne_o h1).elim (fun h2 => by omega) (fun h2 => by omega)) (fun h1 => (ne_o h1).elim (fun h2 => by omega) (fun h2 => (hd_o z101_5).elim (fun h3 => by omega) (fun h3 => by omega)))), (by exact (hd_o t93_2).elim (fun h1 => (ne_o h1).elim (fun h2 => by omega) (fun h2 => by omega)) (fun h1 => by omega))⟩
        refine Tr.if_ne (pc := 76) (tgt := 93) d_X12_asked_76 rfl (fun c76 => ?_) (fun c76 => ?_)
        · have c76b : 1 ≤ u37_120_8 ∧ u37_120_8 ≤ 5 := by omega
          replace c76 := hd_i c76
          refine Tr.pick [1, 0] (ls2 := [(0, (2, 120)), (2, (0, q71_0))]) rfl ?_
          exact J93 _ _ hS (by and_intros <;> omega) k71_120_3 k71_120_4 k71_120_5 k71_120_7 k71_120_8 k71_9010_0 (by first | exact (hd_o t71_0) | exact (hd_o t71_0).elim (fun h1 => by omega) (fun h1 => by omega)) (by omega) (by omega)
        · refine Tr.iload_n (pc := 79) (i := 2) d_X12_asked_79 rfl rfl ?_
          refine Tr.iconst (pc := 80) d_X12_asked_80 (by decide) ?_
          refine Tr.icmp_ne (pc := 81) (tgt := 93) d_X12_asked_81 rfl (fun c81 => ?_) (fun c81 => ?_)
          · have c81b : 0 ≤ q71_0 ∧ q71_0 ≤ 5 := by omega
            replace c81 := hd_i c81
            refine Tr.pick [1, 0] (ls2 := [(0, (2, 120)), (2, (0, q71_0))]) rfl ?_
            exact J93 _ _ hS (by and_intros <;> omega) k71_120_3 k71_120_4 k71_120_5 k71_120_7 k71_120_8 k71_9010_0 (by first | exact (hd_o t71_0) | exact (hd_o t71_0).elim (fun h1 => by omega) (fun h1 => by omega)) (by omega) (by omega)
          · refine Tr.aload_n (pc := 84) (i := 0) d_X12_asked_84 rfl rfl ?_
            refine Tr.iconst (pc := 85) d_X12_asked_85 (by decide) ?_
            refine Tr.aload_n (pc := 86) (i := 0) d_X12_asked_86 rfl rfl ?_
            refine Tr.getf (pc := 87) d_X12_asked_87 f_12_23 (by decide) (by decide) (ty_120 hS.1.1) ?_
            refine Tr.tp g120_4 k71_120_4 ?_
            refine Tr.callV (pc := 90) (as := [_, _]) d_X12_asked_90 s_12_389 ok_X12_blame rfl rfl (Nat.le_of_ble_eq_true rfl) (Nat.le_of_ble_eq_true rfl) (by decide) (ty_120 hS.1.1) ?_
            refine Tr.imp (Tr.deep (by decide) (ns_X12_blame_120_w1 (G120_8 := u37_120_8) hS.1 (k71_120_8) 3 (by omega) g120_4 (by and_intros <;> omega))) ?_
            rintro M90 _ ⟨h90, s90_120_8, es90_120_8, bs90_120_8, rfl, z90_0⟩
            have hS := St.tr hS h90 (by decide) (by decide)
            refine Tr.sc [] rfl ?_
            refine Tr.pick [1, 0] (ls2 := [(0, (2, 120)), (2, (0, q71_0))]) rfl ?_
            exact J93 _ _ hS (by and_intros <;> omega) ((kp_X12_blame_120_w1_120_3 h90).trans k71_120_3) ((kp_X12_blame_120_w1_120_4 h90).trans k71_120_4) ((kp_X12_blame_120_w1_120_5 h90).trans k71_120_5) ((kp_X12_blame_120_w1_120_7 h90).trans k71_120_7) es90_120_8 ((tav_of ((kp_X12_blame_120_w1_120_5 h90).trans rfl) ((kp_X12_blame_120_w1_120_3 h90).trans rfl)).trans k71_9010_0) (by exact (hd_o z90_0).elim (fun h1 => by omega) (fun h1 => by omega)) (by omega) (by exact (hd_o z90_0).elim (fun h1 => by omega) (fun h1 => by omega))
      refine Tr.if_le (pc := 41) (tgt := 48) d_X12_asked_41 rfl (fun c41 => ?_) (fun c41 => ?_)
      · refine Tr.iload_n (pc := 48) (i := 1) d_X12_asked_48 rfl rfl ?_
        refine Tr.if_ne (pc := 49) (tgt := 63) d_X12_asked_49 rfl (fun c49 => ?_) (fun c49 => ?_)
        · have c49b : 1 ≤ a1 ∧ a1 ≤ 1 := by omega
          replace c49 := hd_i c49
          refine Tr.aload_n (pc := 63) (i := 0) d_X12_asked_63 rfl rfl ?_
          refine Tr.aload_n (pc := 64) (i := 0) d_X12_asked_64 rfl rfl ?_
          refine Tr.getf (pc := 65) d_X12_asked_65 f_12_32 (by decide) (by decide) (ty_120 hS.1.1) ?_
          refine Tr.tp g120_7 k37_120_7 ?_
          refine Tr.callV (pc := 68) (as := [_]) d_X12_asked_68 s_12_464 ok_X12_varOf rfl rfl (Nat.le_of_ble_eq_true rfl) (Nat.le_of_ble_eq_true rfl) (by decide) (ty_120 hS.1.1) ?_
          refine Tr.imp (Tr.deep (by decide) (sp_X12_varOf_120_w1 hS.1.wk ((kp_X12_asked_120_w1_120_37 hS).trans en_120_37) g120_7 (by omega))) ?_
          rintro M68 _ ⟨h68, r68, rfl, lr68, ur68⟩
          have h68 := St.rn h68 (Pm0.of hS.1.2.2.2.2 (fun _ => (ka_X12_varOf_120_w1_131 h68 _)) (fun _ => (ka_X12_varOf_120_w1_137 h68 _)) (fun _ => (ka_X12_varOf_120_w1_138 h68 _)) (fun _ => (ka_X12_varOf_120_w1_139 h68 _)) (fun _ => (ka_X12_varOf_120_w1_140 h68 _)) (fun _ => (ka_X12_varOf_120_w1_141 h68 _)) (fun _ => (ka_X12_varOf_120_w1_142 h68 _)) (fun _ => (ka_X12_varOf_120_w1_143 h68 _)) (fun _ => (ka_X12_varOf_120_w1_151 h68 _)) (fun _ => (ka_X12_varOf_120_w1_152 h68 _)) (kp_X12_varOf_120_w1_126_0 h68) (kp_X12_varOf_120_w1_126_1 h68) (kp_X12_varOf_120_w1_136_0 h68) (kp_X12_varOf_120_w1_136_1 h68) (kp_X12_varOf_120_w1_123_0 h68) (kp_X12_varOf_120_w1_123_1 h68) (kp_X12_varOf_120_w1_124_0 h68) (kp_X12_varOf_120_w1_124_1 h68) (kp_X12_varOf_120_w1_120_8 h68) (kp_X12_varOf_120_w1_120_36 h68) (kp_X12_varOf_120_w1_120_50 h68))
          have hS := St.tr hS h68 (by decide) (by decide)
          refine Tr.sc [(0, r68)] rfl ?_
          refine Tr.pick [0] (ls2 := [(0, (2, 120))]) rfl ?_
          exact J71 _ _ hS (by and_intros <;> omega) ((kp_X12_varOf_120_w1_120_3 h68).trans k37_120_3) ((kp_X12_varOf_120_w1_120_4 h68).trans k37_120_4) ((kp_X12_varOf_120_w1_120_5 h68).trans k37_120_5) ((kp_X12_varOf_120_w1_120_7 h68).trans k37_120_7) ((kp_X12_varOf_120_w1_120_8 h68).trans k37_120_8) ((tav_of ((kp_X12_varOf_120_w1_120_5 h68).trans rfl) ((kp_X12_varOf_120_w1_120_3 h68).trans rfl)).trans k37_9010_0) (by first | exact (hd_o t37_0) | exact (hd_o t37_0).elim (fun h1 => by omega) (fun h1 => by omega)) (by omega) (by omega)
        · refine Tr.aload_n (pc := 52) (i := 0) d_X12_asked_52 rfl rfl ?_
          refine Tr.aload_n (pc := 53) (i := 0) d_X12_asked_53 rfl rfl ?_
          refine Tr.getf (pc := 54) d_X12_asked_54 f_12_32 (by decide) (by decide) (ty_120 hS.1.1) ?_
          refine Tr.tp g120_7 k37_120_7 ?_
          refine Tr.callV (pc := 57) (as := [_]) d_X12_asked_57 s_12_457 ok_X12_partOf rfl rfl (Nat.le_of_ble_eq_true rfl) (Nat.le_of_ble_eq_true rfl) (by decide) (ty_120 hS.1.1) ?_
          refine Tr.imp (Tr.deep (by decide) (sp_X12_partOf_120_w1 hS.1.wk ((kp_X12_asked_120_w1_120_37 hS).trans en_120_37) g120_7 (by omega))) ?_
          rintro M57 _ ⟨h57, r57, rfl, lr57, ur57⟩
          have h57 := St.rn h57 (Pm0.of hS.1.2.2.2.2 (fun _ => (ka_X12_partOf_120_w1_131 h57 _)) (fun _ => (ka_X12_partOf_120_w1_137 h57 _)) (fun _ => (ka_X12_partOf_120_w1_138 h57 _)) (fun _ => (ka_X12_partOf_120_w1_139 h57 _)) (fun _ => (ka_X12_partOf_120_w1_140 h57 _)) (fun _ => (ka_X12_partOf_120_w1_141 h57 _)) (fun _ => (ka_X12_partOf_120_w1_142 h57 _)) (fun _ => (ka_X12_partOf_120_w1_143 h57 _)) (fun _ => (ka_X12_partOf_120_w1_151 h57 _)) (fun _ => (ka_X12_partOf_120_w1_152 h57 _)) (kp_X12_partOf_120_w1_126_0 h57) (kp_X12_partOf_120_w1_126_1 h57) (kp_X12_partOf_120_w1_136_0 h57) (kp_X12_partOf_120_w1_136_1 h57) (kp_X12_partOf_120_w1_123_0 h57) (kp_X12_partOf_120_w1_123_1 h57) (kp_X12_partOf_120_w1_124_0 h57) (kp_X12_partOf_120_w1_124_1 h57) (kp_X12_partOf_120_w1_120_8 h57) (kp_X12_partOf_120_w1_120_36 h57) (kp_X12_partOf_120_w1_120_50 h57))
          have hS := St.tr hS h57 (by decide) (by decide)
          refine Tr.sc [(0, r57)] rfl ?_
          refine Tr.goto (pc := 60) (tgt := 71) d_X12_asked_60 rfl ?_
          refine Tr.pick [0] (ls2 := [(0, (2, 120))]) rfl ?_
          exact J71 _ _ hS (by and_intros <;> omega) ((kp_X12_partOf_120_w1_120_3 h57).trans k37_120_3) ((kp_X12_partOf_120_w1_120_4 h57).trans k37_120_4) ((kp_X12_partOf_120_w1_120_5 h57).trans k37_120_5) ((kp_X12_partOf_120_w1_120_7 h57).trans k37_120_7) ((kp_X12_partOf_120_w1_120_8 h57).trans k37_120_8) ((tav_of ((kp_X12_partOf_120_w1_120_5 h57).trans rfl) ((kp_X12_partOf_120_w1_120_3 h57).trans rfl)).trans k37_9010_0) (by first | exact (hd_o t37_0) | exact (hd_o t37_0).elim (fun h1 => by omega) (fun h1 => by omega)) (by omega) (by omega)
      · refine Tr.iconst (pc := 44) d_X12_asked_44 (by decide) ?_
        refine Tr.goto (pc := 45) (tgt := 71) d_X12_asked_45 rfl ?_
        refine Tr.pick [0] (ls2 := [(0, (2, 120))]) rfl ?_
        exact J71 _ _ hS (by omega) k37_120_3 k37_120_4 k37_120_5 k37_120_7 k37_120_8 k37_9010_0 (by first | exact (hd_o t37_0) | exact (hd_o t37_0).elim (fun h1 => by omega) (fun h1 => by omega)) (by omega) (by omega)
    have J28 : ∀ (M : Mem), St Pm0 ws_X12_asked_120_w1 as_X12_asked_120_w1 M0 M → rd M 120 3 = g120_3 → rd M 120 4 = g120_4 → rd M 120 5 = g120_5 → rd M 120 7 = g120_7 → rd M 120 8 = g120_8 → tav M = g9010_0 → (g120_8 = 0) → (g120_8 = 0) → Tr l K 2 mX12_asked 28 [(0, (2, 120)), (1, (0, a1))] [] M (q_X12_asked_120_w1 a1 M0) := by
      intro M  hS  k28_120_3 k28_120_4 k28_120_5 k28_120_7 k28_120_8 k28_9010_0 t28_0 t28_1
      refine Tr.aload_n (pc := 28) (i := 0) d_X12_asked_28 rfl rfl ?_
      refine Tr.iconst (pc := 29) d_X12_asked_29 (by decide) ?_
      refine Tr.aload_n (pc := 30) (i := 0) d_X12_asked_30 rfl rfl ?_
      refine Tr.getf (pc := 31) d_X12_asked_31 f_12_23 (by decide) (by decide) (ty_120 hS.1.1) ?_
      refine Tr.tp g120_4 k28_120_4 ?_
      refine Tr.callV (pc := 34) (as := [_, _]) d_X12_asked_34 s_12_389 ok_X12_blame rfl rfl (Nat.le_of_ble_eq_true rfl) (Nat.le_of_ble_eq_true rfl) (by decide) (ty_120 hS.1.1) ?_
      refine Tr.imp (Tr.deep (by decide) (ns_X12_blame_120_w1 (G120_8 := g120_8) hS.1 (k28_120_8) 1 (by omega) g120_4 (by and_intros <;> omega))) ?_
      rintro M34 _ ⟨h34, s34_120_8, es34_120_8, bs34_120_8, rfl, z34_0⟩
      have hS := St.tr hS h34 (by decide) (by decide)
      refine Tr.sc [] rfl ?_
      refine Tr.pick [0, 1] (ls2 := [(0, (2, 120)), (1, (0, a1))]) rfl ?_
      exact J37 _ _ hS (by and_intros <;> omega) ((kp_X12_blame_120_w1_120_3 h34).trans k28_120_3) ((kp_X12_blame_120_w1_120_4 h34).trans k28_120_4) ((kp_X12_blame_120_w1_120_5 h34).trans k28_120_5) ((kp_X12_blame_120_w1_120_7 h34).trans k28_120_7) es34_120_8 ((tav_of ((kp_X12_blame_120_w1_120_5 h34).trans rfl) ((kp_X12_blame_120_w1_120_3 h34).trans rfl)).trans k28_9010_0) (by exact (hd_o z34_0).elim (fun h1 => by omega) (fun h1 => by omega)) (by omega)
    refine Tr.icmp_ne (pc := 14) (tgt := 28) d_X12_asked_14 rfl (fun c14 => ?_) (fun c14 => ?_)
    · replace c14 := hd_i c14
      refine Tr.pick [0, 1] (ls2 := [(0, (2, 120)), (1, (0, a1))]) rfl ?_
      exact J28 _ hS eg120_3 eg120_4 eg120_5 eg120_7 eg120_8 eg9010_0 (by omega) (by omega)
    · refine Tr.aload_n (pc := 17) (i := 0) d_X12_asked_17 rfl rfl ?_
      refine Tr.aload_n (pc := 18) (i := 0) d_X12_asked_18 rfl rfl ?_
      refine Tr.getf (pc := 19) d_X12_asked_19 f_12_32 (by decide) (by decide) (ty_120 hS.1.1) ?_
      refine Tr.tp g120_7 eg120_7 ?_
      refine Tr.callV (pc := 22) (as := [_]) d_X12_asked_22 s_12_453 ok_X12_isOwn rfl rfl (Nat.le_of_ble_eq_true rfl) (Nat.le_of_ble_eq_true rfl) (by decide) (ty_120 hS.1.1) ?_
      refine Tr.imp (Tr.deep (by decide) (sp_X12_isOwn_120 hS.1.wk g120_7 (by omega))) ?_
      rintro M22 _ ⟨h22, r22, rfl, lr22, ur22⟩
      have h22 := St.rn h22 (Pm0.of hS.1.2.2.2.2 (fun _ => (ka_X12_isOwn_120_131 h22 _)) (fun _ => (ka_X12_isOwn_120_137 h22 _)) (fun _ => (ka_X12_isOwn_120_138 h22 _)) (fun _ => (ka_X12_isOwn_120_139 h22 _)) (fun _ => (ka_X12_isOwn_120_140 h22 _)) (fun _ => (ka_X12_isOwn_120_141 h22 _)) (fun _ => (ka_X12_isOwn_120_142 h22 _)) (fun _ => (ka_X12_isOwn_120_143 h22 _)) (fun _ => (ka_X12_isOwn_120_151 h22 _)) (fun _ => (ka_X12_isOwn_120_152 h22 _)) (kp_X12_isOwn_120_126_0 h22) (kp_X12_isOwn_120_126_1 h22) (kp_X12_isOwn_120_136_0 h22) (kp_X12_isOwn_120_136_1 h22) (kp_X12_isOwn_120_123_0 h22) (kp_X12_isOwn_120_123_1 h22) (kp_X12_isOwn_120_124_0 h22) (kp_X12_isOwn_120_124_1 h22) (kp_X12_isOwn_120_120_8 h22) (kp_X12_isOwn_120_120_36 h22) (kp_X12_isOwn_120_120_50 h22))
      have hS := St.tr hS h22 (by decide) (by decide)
      refine Tr.sc [(0, r22)] rfl ?_
      refine Tr.if_eq (pc := 25) (tgt := 37) d_X12_asked_25 rfl (fun c25 => ?_) (fun c25 => ?_)
      · refine Tr.pick [0, 1] (ls2 := [(0, (2, 120)), (1, (0, a1))]) rfl ?_
        exact J37 _ _ hS (by and_intros <;> omega) ((kp_X12_isOwn_120_120_3 h22).trans eg120_3) ((kp_X12_isOwn_120_120_4 h22).trans eg120_4) ((kp_X12_isOwn_120_120_5 h22).trans eg120_5) ((kp_X12_isOwn_120_120_7 h22).trans eg120_7) ((kp_X12_isOwn_120_120_8 h22).trans eg120_8) ((tav_of ((kp_X12_isOwn_120_120_5 h22).trans rfl) ((kp_X12_isOwn_120_120_3 h22).trans rfl)).trans eg9010_0) (by omega) (by omega)
      · have c25b : 1 ≤ r22 ∧ r22 ≤ 1 := by omega
        replace c25 := hd_i c25
        refine Tr.pick [0, 1] (ls2 := [(0, (2, 120)), (1, (0, a1))]) rfl ?_
        exact J28 _ hS ((kp_X12_isOwn_120_120_3 h22).trans eg120_3) ((kp_X12_isOwn_120_120_4 h22).trans eg120_4) ((kp_X12_isOwn_120_120_5 h22).trans eg120_5) ((kp_X12_isOwn_120_120_7 h22).trans eg120_7) ((kp_X12_isOwn_120_120_8 h22).trans eg120_8) ((tav_of ((kp_X12_isOwn_120_120_5 h22).trans rfl) ((kp_X12_isOwn_120_120_3 h22).trans rfl)).trans eg9010_0) (by omega) (by omega)
  · refine Tr.iconst (pc := 7) d_X12_asked_7 (by decide) ?_
    have kr_120_3 : rd M0 120 3 = g120_3 := eg120_3
    have kr_120_4 : rd M0 120 4 = g120_4 := eg120_4
    have kr_120_5 : rd M0 120 5 = g120_5 := eg120_5
    have kr_120_7 : rd M0 120 7 = g120_7 := eg120_7
    have kr_120_8 : rd M0 120 8 = g120_8 := eg120_8
    have kr_9010_0 : tav M0 = g9010_0 := eg9010_0
    exact Tr.iret (pc := 8) d_X12_asked_8 rfl ⟨hS, _, rfl, by omega, by omega, (by first | exact (hd_o hq0) | exact (hd_o hq0).elim (fun h1 => by omega) (fun h1 => by omega)), (by omega), (by first | exact (hd_o hq2) | exact (hd_o hq2).elim (fun h1 => by omega) (fun h1 => h1.elim (fun h1 => by omega) (fun h1 => by omega))), (by and_intros <;> omega), (by omega), (by omega), (by omega)⟩

set_option maxRecDepth 100000 in
set_option maxHeartbeats 4000000 in
theorem ns_X12_asked_120_w1 {l : Launch} {K : EC} {M0 : Mem} {G120_3 G120_4 G120_5 G120_7 G120_8 G9010_0 : Int} (hI : In Pm0 M0) (k120_3 : rd M0 120 3 = G120_3) (k120_4 : rd M0 120 4 = G120_4) (k120_5 : rd M0 120 5 = G120_5) (k120_7 : rd M0 120 7 = G120_7) (k120_8 : rd M0 120 8 = G120_8) (k9010_0 : tav M0 = G9010_0) (en_120_37 : rd M0 120 37 = 0) (a1 : Int) (ha1 : 0 ≤ a1 ∧ a1 ≤ 1)  (hq0 : G120_3 = 0 ∨ G120_4 + 1 ≤ G120_5) (hq1 : G120_4 ≤ G120_5) (hq2 : G120_3 ≠ 1 ∨ G120_4 + 2 ≤ G120_5 ∨ G120_7 < 256) : Tr l K 2 mX12_asked 0 [(0, (2, 120)), (1, (0, a1))] [] M0 (fun M' r => St Pm0 ws_X12_asked_120_w1 as_X12_asked_120_w1 M0 M' ∧ ∃ S120_3 S120_4 S120_5 S120_7 S120_8 S9010_0 : Int, rd M' 120 3 = S120_3 ∧ (0 ≤ S120_3 ∧ S120_3 ≤ 3) ∧ rd M' 120 4 = S120_4 ∧ (0 ≤ S120_4 ∧ S120_4 ≤ 900) ∧ rd M' 120 5 = S120_5 ∧ (0 ≤ S120_5 ∧ S120_5 ≤ 900) ∧ rd M' 120 7 = S120_7 ∧ ((-9223372036854775808) ≤ S120_7 ∧ S120_7 ≤ 9223372036854775807) ∧ rd M' 120 8 = S120_8 ∧ (0 ≤ S120_8 ∧ S120_8 ≤ 5) ∧ tav M' = S9010_0 ∧ ((-1) ≤ S9010_0 ∧ S9010_0 ≤ 1800) ∧ ∃ v : Int, r = some (0, v) ∧ (-1) ≤ v ∧ v ≤ 5 ∧ Hd (S120_3 = 0 ∨ S120_4 + 1 ≤ S120_5) ∧ (S120_4 ≤ S120_5) ∧ Hd (S120_3 ≠ 1 ∨ S120_4 + 2 ≤ S120_5 ∨ S120_7 < 256) ∧ (G120_4 ≤ S120_4 ∧ G120_5 ≤ S120_5 ∧ G9010_0 ≤ S9010_0) ∧ Hd (G120_8 = 0 ∨ S120_8 = G120_8) ∧ Hd (1 ≤ S120_8 ∨ G9010_0 < S9010_0) ∧ Hd (1 ≤ S120_8 ∨ (0 ≤ v ∧ v ≤ 5))) := by
  subst k120_3
  subst k120_4
  subst k120_5
  subst k120_7
  subst k120_8
  subst k9010_0
  refine Tr.imp (sp_X12_asked_120_w1 hI en_120_37 a1 ha1 hq0 hq1 hq2) ?_
  rintro M' _ ⟨hS, v, rfl, lr, ur, z0, z1, z2, z3, z4, z5, z6⟩
  exact ⟨hS, _, _, _, _, _, _, rfl, ir_120_3 hS.1.2.1, rfl, ir_120_4 hS.1.2.1, rfl, ir_120_5 hS.1.2.1, rfl, ir_120_7 hS.1.2.1, rfl, ir_120_8 hS.1.2.1, rfl, (tav_b hS.1.2.1), v, rfl, lr, ur, hd_i z0, z1, hd_i z2, z3, hd_i z4, hd_i z5, hd_i z6⟩

def ws_X12_pushes_120_w1 : List (Int × Int) := [(120, 43)]
def as_X12_pushes_120_w1 : List Int := [145, 146, 147, 149]
def q_X12_pushes_120_w1 (a1 : Int) (M0 M' : Mem) (r : Option PV) : Prop := St Pm0 ws_X12_pushes_120_w1 as_X12_pushes_120_w1 M0 M' ∧ r = none ∧ (rd M' 120 43 = rd M0 120 43 + 1) ∧ (n4v M' = n4v M0) ∧ (fr0 M' ≤ 1)
set_option maxRecDepth 100000 in
set_option maxHeartbeats 4000000 in
theorem sp_X12_pushes_120_w1 {l : Launch} {K : EC} {M0 : Mem} (hI : In Pm0 M0)  (a1 : Int) (ha1 : 0 ≤ a1 ∧ a1 ≤ 5)  (hq0 : rd M0 120 43 ≤ 19) (hq1 : a1 ≠ 4) (hq2 : 1 ≤ rd M0 120 43 ∨ a1 ≤ 1) (hq3 : fr0 M0 ≤ 1 ∨ rd M0 120 43 = 0) : Tr l K 0 mX12_pushes 0 [(0, (2, 120)), (1, (0, a1))] [] M0 (q_X12_pushes_120_w1 a1 M0) := by
  have hS : St Pm0 ws_X12_pushes_120_w1 as_X12_pushes_120_w1 M0 M0 := St.rf hI
  obtain ⟨g120_43, eg120_43⟩ : ∃ v, rd M0 120 43 = v := ⟨_, rfl⟩
  have bg120_43 : 0 ≤ g120_43 ∧ g120_43 ≤ 20 := by rw [← eg120_43]; exact ir_120_43 hI.2.1
  obtain ⟨g9002_0, eg9002_0⟩ : ∃ v, n4v M0 = v := ⟨_, rfl⟩
  have bg9002_0 : 0 ≤ g9002_0 ∧ g9002_0 ≤ 20 := by rw [← eg9002_0]; exact (n4v_b hI.2.1)
  obtain ⟨g9005_0, eg9005_0⟩ : ∃ v, fr0 M0 = v := ⟨_, rfl⟩
  have bg9005_0 : 0 ≤ g9005_0 ∧ g9005_0 ≤ 5 := by rw [← eg9005_0]; exact (fr0_b hI.2.1)
  obtain ⟨g120_46, eg120_46⟩ : ∃ v, rd M0 120 46 = v := ⟨_, rfl⟩
  have bg120_46 : 0 ≤ g120_46 ∧ g120_46 ≤ 500 := by rw [← eg120_46]; exact ir_120_46 hI.2.1
  replace hq1 := hd_i hq1
  replace hq2 := hd_i hq2
  replace hq3 := hd_i hq3
  refine Tr.aload_n (pc := 0) (i := 0) d_X12_pushes_0 rfl rfl ?_
  refine Tr.getf (pc := 1) d_X12_pushes_1 f_12_127 (by decide) (by decide) (ty_120 hS.1.1) ?_
  refine Tr.tp 145 (fx_120_38 hS.1.1) ?_
  refine Tr.aload_n (pc := 4) (i := 0) d_X12_pushes_4 rfl rfl ?_
  refine Tr.getf (pc := 5) d_X12_pushes_5 f_12_143 (by decide) (by decide) (ty_120 hS.1.1) ?_
  refine Tr.tp g120_43 eg120_43 ?_
  refine Tr.iload_n (pc := 8) (i := 1) d_X12_pushes_8 rfl rfl ?_
  refine Tr.iastS (pc := 9) (P := St Pm0 ws_X12_pushes_120_w1 as_X12_pushes_120_w1 M0) d_X12_pushes_9 (ty_145 hS.1.1) (by omega) (by omega) (sa_145 hS (by decide) (by and_intros <;> omega) (Pm0.of hS.1.2.2.2.2 (fun _ => rd_wb _ rfl) (fun _ => rd_wb _ rfl) (fun _ => rd_wb _ rfl) (fun _ => rd_wb _ rfl) (fun _ => rd_wb _ rfl) (fun _ => rd_wb _ rfl) (fun _ => rd_wb _ rfl) (fun _ => rd_wb _ rfl) (fun _ => rd_wb _ rfl) (fun _ => rd_wb _ rfl) (rd_wb _ rfl) (rd_wb _ rfl) (rd_wb _ rfl) (rd_wb _ rfl) (rd_wb _ rfl) (rd_wb _ rfl) (rd_wb _ rfl) (rd_wb _ rfl) (rd_wb _ rfl) (rd_wb _ rfl) (rd_wb _ rfl))) (fun M9 hS w9 => ?_)
  obtain ⟨v9_9005, ev9_9005⟩ : ∃ v, fr0 M9 = v := ⟨_, rfl⟩
  have bv9_9005 : 0 ≤ v9_9005 ∧ v9_9005 ≤ 5 := by rw [← ev9_9005]; exact (fr0_b hS.1.2.1)
  have fv9_9005 : (g120_43 = 0 ∧ v9_9005 = a1) ∨ (g120_43 ≠ 0 ∧ v9_9005 = g9005_0) := by have h8 := fr0_w w9; have h7 : fr0 M9 = v9_9005 := ev9_9005; have h6 := eg9005_0; omega
  replace fv9_9005 := hd_i fv9_9005
  refine Tr.aload_n (pc := 10) (i := 0) d_X12_pushes_10 rfl rfl ?_
  refine Tr.getf (pc := 11) d_X12_pushes_11 f_12_130 (by decide) (by decide) (ty_120 hS.1.1) ?_
  refine Tr.tp 146 (fx_120_39 hS.1.1) ?_
  refine Tr.aload_n (pc := 14) (i := 0) d_X12_pushes_14 rfl rfl ?_
  refine Tr.getf (pc := 15) d_X12_pushes_15 f_12_143 (by decide) (by decide) (ty_120 hS.1.1) ?_
  refine Tr.tp g120_43 ((Wr.b w9 rfl).trans eg120_43) ?_
  refine Tr.iconst (pc := 18) d_X12_pushes_18 (by decide) ?_
  refine Tr.iastS (pc := 19) (P := St Pm0 ws_X12_pushes_120_w1 as_X12_pushes_120_w1 M0) d_X12_pushes_19 (ty_146 hS.1.1) (by omega) (by omega) (sa_146 hS (by decide) (by omega) (Pm0.of hS.1.2.2.2.2 (fun _ => rd_wb _ rfl) (fun _ => rd_wb _ rfl) (fun _ => rd_wb _ rfl) (fun _ => rd_wb _ rfl) (fun _ => rd_wb _ rfl) (fun _ => rd_wb _ rfl) (fun _ => rd_wb _ rfl) (fun _ => rd_wb _ rfl) (fun _ => rd_wb _ rfl) (fun _ => rd_wb _ rfl) (rd_wb _ rfl) (rd_wb _ rfl) (rd_wb _ rfl) (rd_wb _ rfl) (rd_wb _ rfl) (rd_wb _ rfl) (rd_wb _ rfl) (rd_wb _ rfl) (rd_wb _ rfl) (rd_wb _ rfl) (rd_wb _ rfl))) (fun M19 hS w19 => ?_)
  refine Tr.aload_n (pc := 20) (i := 0) d_X12_pushes_20 rfl rfl ?_
  refine Tr.getf (pc := 21) d_X12_pushes_21 f_12_133 (by decide) (by decide) (ty_120 hS.1.1) ?_
  refine Tr.tp 147 (fx_120_40 hS.1.1) ?_
  refine Tr.aload_n (pc := 24) (i := 0) d_X12_pushes_24 rfl rfl ?_
  refine Tr.getf (pc := 25) d_X12_pushes_25 f_12_143 (by decide) (by decide) (ty_120 hS.1.1) ?_
  refine Tr.tp g120_43 ((Wr.b w19 rfl).trans ((Wr.b w9 rfl).trans eg120_43)) ?_
  refine Tr.iconst (pc := 28) d_X12_pushes_28 (by decide) ?_
  refine Tr.zastS (pc := 29) (P := St Pm0 ws_X12_pushes_120_w1 as_X12_pushes_120_w1 M0) d_X12_pushes_29 (ty_147 hS.1.1) (by omega) (by omega) (by omega) (sa_147 hS (by decide) (by omega) (Pm0.of hS.1.2.2.2.2 (fun _ => rd_wb _ rfl) (fun _ => rd_wb _ rfl) (fun _ => rd_wb _ rfl) (fun _ => rd_wb _ rfl) (fun _ => rd_wb _ rfl) (fun _ => rd_wb _ rfl) (fun _ => rd_wb _ rfl) (fun _ => rd_wb _ rfl) (fun _ => rd_wb _ rfl) (fun _ => rd_wb _ rfl) (rd_wb _ rfl) (rd_wb _ rfl) (rd_wb _ rfl) (rd_wb _ rfl) (rd_wb _ rfl) (rd_wb _ rfl) (rd_wb _ rfl) (rd_wb _ rfl) (rd_wb _ rfl) (rd_wb _ rfl) (rd_wb _ rfl))) (fun M29 hS w29 => ?_)
  refine Tr.aload_n (pc := 30) (i := 0) d_X12_pushes_30 rfl rfl ?_
  refine Tr.getf (pc := 31) d_X12_pushes_31 f_12_140 (by decide) (by decide) (ty_120 hS.1.1) ?_
  refine Tr.tp 149 (fx_120_42 hS.1.1) ?_
  refine Tr.aload_n (pc := 34) (i := 0) d_X12_pushes_34 rfl rfl ?_
  refine Tr.getf (pc := 35) d_X12_pushes_35 f_12_143 (by decide) (by decide) (ty_120 hS.1.1) ?_
  refine Tr.tp g120_43 ((Wr.b w29 rfl).trans ((Wr.b w19 rfl).trans ((Wr.b w9 rfl).trans eg120_43))) ?_
  refine Tr.aload_n (pc := 38) (i := 0) d_X12_pushes_38 rfl rfl ?_
  refine Tr.getf (pc := 39) d_X12_pushes_39 f_12_152 (by decide) (by decide) (ty_120 hS.1.1) ?_
  refine Tr.tp g120_46 ((Wr.b w29 rfl).trans ((Wr.b w19 rfl).trans ((Wr.b w9 rfl).trans eg120_46))) ?_
  refine Tr.iastS (pc := 42) (P := St Pm0 ws_X12_pushes_120_w1 as_X12_pushes_120_w1 M0) d_X12_pushes_42 (ty_149 hS.1.1) (by omega) (by omega) (sa_149 hS (by decide) (by and_intros <;> omega) (Pm0.of hS.1.2.2.2.2 (fun _ => rd_wb _ rfl) (fun _ => rd_wb _ rfl) (fun _ => rd_wb _ rfl) (fun _ => rd_wb _ rfl) (fun _ => rd_wb _ rfl) (fun _ => rd_wb _ rfl) (fun _ => rd_wb _ rfl) (fun _ => rd_wb _ rfl) (fun _ => rd_wb _ rfl) (fun _ => rd_wb _ rfl) (rd_wb _ rfl) (rd_wb _ rfl) (rd_wb _ rfl) (rd_wb _ rfl) (rd_wb _ rfl) (rd_wb _ rfl) (rd_wb _ rfl) (rd_wb _ rfl) (rd_wb _ rfl) (rd_wb _ rfl) (rd_wb _ rfl))) (fun M42 hS w42 => ?_)
  refine Tr.aload_n (pc := 43) (i := 0) d_X12_pushes_43 rfl rfl ?_
  refine Tr.dup (pc := 44) d_X12_pushes_44 ne21 ?_
  refine Tr.getf (pc := 45) d_X12_pushes_45 f_12_143 (by decide) (by decide) (ty_120 hS.1.1) ?_
  refine Tr.tp g120_43 ((Wr.b w42 rfl).trans ((Wr.b w29 rfl).trans ((Wr.b w19 rfl).trans ((Wr.b w9 rfl).trans eg120_43)))) ?_
  refine Tr.iconst (pc := 48) d_X12_pushes_48 (by decide) ?_
  refine Tr.iadd (pc := 49) d_X12_pushes_49 ?_
  refine Tr.tp (g120_43 + 1) ((w32_id (by and_intros <;> omega)).trans (by omega)) ?_
  refine Tr.putfS (pc := 50) (P := St Pm0 ws_X12_pushes_120_w1 as_X12_pushes_120_w1 M0) d_X12_pushes_50 f_12_143 (by decide) (by decide) (ty_120 hS.1.1) (st_120_43 hS (by decide) (by and_intros <;> omega) (Pm0.of hS.1.2.2.2.2 (fun _ => rd_wb _ rfl) (fun _ => rd_wb _ rfl) (fun _ => rd_wb _ rfl) (fun _ => rd_wb _ rfl) (fun _ => rd_wb _ rfl) (fun _ => rd_wb _ rfl) (fun _ => rd_wb _ rfl) (fun _ => rd_wb _ rfl) (fun _ => rd_wb _ rfl) (fun _ => rd_wb _ rfl) (rd_wb _ rfl) (rd_wb _ rfl) (rd_wb _ rfl) (rd_wb _ rfl) (rd_wb _ rfl) (rd_wb _ rfl) (rd_wb _ rfl) (rd_wb _ rfl) (rd_wb _ rfl) (rd_wb _ rfl) (rd_wb _ rfl))) (fun M50 hS w50 => ?_)
  obtain ⟨v50_9002, ev50_9002⟩ : ∃ v, n4v M50 = v := ⟨_, rfl⟩
  have bv50_9002 : 0 ≤ v50_9002 ∧ v50_9002 ≤ 20 := by rw [← ev50_9002]; exact (n4v_b hS.1.2.1)
  have fv50_9002 : v50_9002 = g9002_0 := by have h8 := ct_push (x := 145) (j := 43) (e := 4) (a := 1) (b := 0) (M := M0) (M2 := M50) (n := g120_43) (v := a1) eg120_43 (w50.1.trans (by omega)) ((Wr.b w50 rfl).trans ((Wr.b w42 rfl).trans ((Wr.b w29 rfl).trans ((Wr.b w19 rfl).trans w9.1)))) (fun i hi => (Wr.b w50 rfl).trans ((Wr.b w42 rfl).trans ((Wr.b w29 rfl).trans ((Wr.b w19 rfl).trans (w9.2 _ _ (fun c => hi c.2)))))) (by omega); have h7 : ctV 145 43 4 1 0 M50 = v50_9002 := ev50_9002; have h6 : ctV 145 43 4 1 0 M0 = g9002_0 := eg9002_0; have h5 := hd_o hq1; omega
  have kr_120_43 : rd M50 120 43 = (g120_43 + 1) := w50.1
  have kr_9002_0 : n4v M50 = v50_9002 := ev50_9002
  have kr_9005_0 : fr0 M50 = v9_9005 := ((fr0_of (fun j => ((Wr.b w50 rfl).trans ((Wr.b w42 rfl).trans ((Wr.b w29 rfl).trans ((Wr.b w19 rfl).trans rfl)))))).trans ev9_9005)
  exact Tr.vret (pc := 53) d_X12_pushes_53 rfl ⟨hS, rfl, (by omega), (by omega), (by exact (hd_o fv9_9005).elim (fun h1 => (hd_o hq2).elim (fun h2 => by omega) (fun h2 => by omega)) (fun h1 => (ne_o h1.1).elim (fun h2 => by omega) (fun h2 => (hd_o hq3).elim (fun h3 => by omega) (fun h3 => by omega))))⟩

set_option maxRecDepth 100000 in
set_option maxHeartbeats 4000000 in
theorem ns_X12_pushes_120_w1 {l : Launch} {K : EC} {M0 : Mem} {G120_43 G9002_0 G9005_0 : Int} (hI : In Pm0 M0) (k120_43 : rd M0 120 43 = G120_43) (k9002_0 : n4v M0 = G9002_0) (k9005_0 : fr0 M0 = G9005_0)  (a1 : Int) (ha1 : 0 ≤ a1 ∧ a1 ≤ 5)  (hq0 : G120_43 ≤ 19) (hq1 : a1 ≠ 4) (hq2 : 1 ≤ G120_43 ∨ a1 ≤ 1) (hq3 : G9005_0 ≤ 1 ∨ G120_43 = 0) : Tr l K 0 mX12_pushes 0 [(0, (2, 120)), (1, (0, a1))] [] M0 (fun M' r => St Pm0 ws_X12_pushes_120_w1 as_X12_pushes_120_w1 M0 M' ∧ ∃ S120_43 S9002_0 S9005_0 : Int, rd M' 120 43 = S120_43 ∧ (0 ≤ S120_43 ∧ S120_43 ≤ 20) ∧ n4v M' = S9002_0 ∧ (0 ≤ S9002_0 ∧ S9002_0 ≤ 20) ∧ fr0 M' = S9005_0 ∧ (0 ≤ S9005_0 ∧ S9005_0 ≤ 5) ∧ r = none ∧ (S120_43 = G120_43 + 1) ∧ (S9002_0 = G9002_0) ∧ (S9005_0 ≤ 1)) := by
  subst k120_43
  subst k9002_0
  subst k9005_0
  refine Tr.imp (sp_X12_pushes_120_w1 hI a1 ha1 hq0 hq1 hq2 hq3) ?_
  rintro M' _ ⟨hS, rfl, z0, z1, z2⟩
  exact ⟨hS, _, _, _, rfl, ir_120_43 hS.1.2.1, rfl, (n4v_b hS.1.2.1), rfl, (fr0_b hS.1.2.1), rfl, z0, z1, z2⟩

def ws_X12_holdsBack_120_w1 : List (Int × Int) := [(120, 46)]
def as_X12_holdsBack_120_w1 : List Int := [150]
def q_X12_holdsBack_120_w1 (a1 : Int) (M0 M' : Mem) (r : Option PV) : Prop := St Pm0 ws_X12_holdsBack_120_w1 as_X12_holdsBack_120_w1 M0 M' ∧ r = none ∧ (rd M' 120 46 = rd M0 120 46 + 1) ∧ ((a1 = 18 ∧ nb2v M' = nb2v M0) ∨ (a1 ≠ 18 ∧ nb2v M' = nb2v M0 + 1))
set_option maxRecDepth 100000 in
set_option maxHeartbeats 4000000 in
theorem sp_X12_holdsBack_120_w1 {l : Launch} {K : EC} {M0 : Mem} (hI : In Pm0 M0)  (a1 : Int) (ha1 : 6 ≤ a1 ∧ a1 ≤ 18)  (hq0 : rd M0 120 46 ≤ 499) : Tr l K 0 mX12_holdsBack 0 [(0, (2, 120)), (1, (0, a1))] [] M0 (q_X12_holdsBack_120_w1 a1 M0) := by
  have hS : St Pm0 ws_X12_holdsBack_120_w1 as_X12_holdsBack_120_w1 M0 M0 := St.rf hI
  obtain ⟨g120_46, eg120_46⟩ : ∃ v, rd M0 120 46 = v := ⟨_, rfl⟩
  have bg120_46 : 0 ≤ g120_46 ∧ g120_46 ≤ 500 := by rw [← eg120_46]; exact ir_120_46 hI.2.1
  obtain ⟨g9001_0, eg9001_0⟩ : ∃ v, nb2v M0 = v := ⟨_, rfl⟩
  have bg9001_0 : 0 ≤ g9001_0 ∧ g9001_0 ≤ 1000000 := by rw [← eg9001_0]; exact (nb2v_b hI.2.1)
  refine Tr.aload_n (pc := 0) (i := 0) d_X12_holdsBack_0 rfl rfl ?_
  refine Tr.getf (pc := 1) d_X12_holdsBack_1 f_12_149 (by decide) (by decide) (ty_120 hS.1.1) ?_
  refine Tr.tp 150 (fx_120_45 hS.1.1) ?_
  refine Tr.aload_n (pc := 4) (i := 0) d_X12_holdsBack_4 rfl rfl ?_
  refine Tr.getf (pc := 5) d_X12_holdsBack_5 f_12_152 (by decide) (by decide) (ty_120 hS.1.1) ?_
  refine Tr.tp g120_46 eg120_46 ?_
  refine Tr.iload_n (pc := 8) (i := 1) d_X12_holdsBack_8 rfl rfl ?_
  refine Tr.iastS (pc := 9) (P := St Pm0 ws_X12_holdsBack_120_w1 as_X12_holdsBack_120_w1 M0) d_X12_holdsBack_9 (ty_150 hS.1.1) (by omega) (by omega) (sa_150 hS (by decide) (by and_intros <;> omega) (Pm0.of hS.1.2.2.2.2 (fun _ => rd_wb _ rfl) (fun _ => rd_wb _ rfl) (fun _ => rd_wb _ rfl) (fun _ => rd_wb _ rfl) (fun _ => rd_wb _ rfl) (fun _ => rd_wb _ rfl) (fun _ => rd_wb _ rfl) (fun _ => rd_wb _ rfl) (fun _ => rd_wb _ rfl) (fun _ => rd_wb _ rfl) (rd_wb _ rfl) (rd_wb _ rfl) (rd_wb _ rfl) (rd_wb _ rfl) (rd_wb _ rfl) (rd_wb _ rfl) (rd_wb _ rfl) (rd_wb _ rfl) (rd_wb _ rfl) (rd_wb _ rfl) (rd_wb _ rfl))) (fun M9 hS w9 => ?_)
  refine Tr.aload_n (pc := 10) (i := 0) d_X12_holdsBack_10 rfl rfl ?_
  refine Tr.dup (pc := 11) d_X12_holdsBack_11 ne21 ?_
  refine Tr.getf (pc := 12) d_X12_holdsBack_12 f_12_152 (by decide) (by decide) (ty_120 hS.1.1) ?_
  refine Tr.tp g120_46 ((Wr.b w9 rfl).trans eg120_46) ?_
  refine Tr.iconst (pc := 15) d_X12_holdsBack_15 (by decide) ?_
  refine Tr.iadd (pc := 16) d_X12_holdsBack_16 ?_
  refine Tr.tp (g120_46 + 1) ((w32_id (by and_intros <;> omega)).trans (by omega)) ?_
  refine Tr.putfS (pc := 17) (P := St Pm0 ws_X12_holdsBack_120_w1 as_X12_holdsBack_120_w1 M0) d_X12_holdsBack_17 f_12_152 (by decide) (by decide) (ty_120 hS.1.1) (st_120_46 hS (by decide) (by and_intros <;> omega) (Pm0.of hS.1.2.2.2.2 (fun _ => rd_wb _ rfl) (fun _ => rd_wb _ rfl) (fun _ => rd_wb _ rfl) (fun _ => rd_wb _ rfl) (fun _ => rd_wb _ rfl) (fun _ => rd_wb _ rfl) (fun _ => rd_wb _ rfl) (fun _ => rd_wb _ rfl) (fun _ => rd_wb _ rfl) (fun _ => rd_wb _ rfl) (rd_wb _ rfl) (rd_wb _ rfl) (rd_wb _ rfl) (rd_wb _ rfl) (rd_wb _ rfl) (rd_wb _ rfl) (rd_wb _ rfl) (rd_wb _ rfl) (rd_wb _ rfl) (rd_wb _ rfl) (rd_wb _ rfl))) (fun M17 hS w17 => ?_)
  obtain ⟨v17_9001, ev17_9001⟩ : ∃ v, nb2v M17 = v := ⟨_, rfl⟩
  have bv17_9001 : 0 ≤ v17_9001 ∧ v17_9001 ≤ 1000000 := by rw [← ev17_9001]; exact (nb2v_b hS.1.2.1)
  have fv17_9001 : (a1 = 18 ∧ v17_9001 = g9001_0) ∨ (a1 ≤ 5 ∧ v17_9001 = g9001_0 + 2000) ∨ (5 < a1 ∧ a1 ≠ 18 ∧ v17_9001 = g9001_0 + 1) := by have h8 := nb2_push (M := M0) (M2 := M17) (n := g120_46) (v := a1) eg120_46 (w17.1.trans (by omega)) ((Wr.b w17 rfl).trans w9.1) (fun i hi => (Wr.b w17 rfl).trans (w9.2 _ _ (fun c => hi c.2))) (by omega); have h7 : nb2v M17 = v17_9001 := ev17_9001; have h6 : nb2v M0 = g9001_0 := eg9001_0; rw [h7, h6] at h8; exact h8
  replace fv17_9001 := hd_i fv17_9001
  have kr_120_46 : rd M17 120 46 = (g120_46 + 1) := w17.1
  have kr_9001_0 : nb2v M17 = v17_9001 := ev17_9001
  exact Tr.vret (pc := 20) d_X12_holdsBack_20 rfl ⟨hS, rfl, (by omega), (by exact (hd_o fv17_9001).elim (fun h1 => by omega) (fun h1 => h1.elim (fun h1 => by omega) (fun h1 => (ne_o h1.2.1).elim (fun h2 => by omega) (fun h2 => by omega))))⟩

set_option maxRecDepth 100000 in
set_option maxHeartbeats 4000000 in
theorem ns_X12_holdsBack_120_w1 {l : Launch} {K : EC} {M0 : Mem} {G120_46 G9001_0 : Int} (hI : In Pm0 M0) (k120_46 : rd M0 120 46 = G120_46) (k9001_0 : nb2v M0 = G9001_0)  (a1 : Int) (ha1 : 6 ≤ a1 ∧ a1 ≤ 18)  (hq0 : G120_46 ≤ 499) : Tr l K 0 mX12_holdsBack 0 [(0, (2, 120)), (1, (0, a1))] [] M0 (fun M' r => St Pm0 ws_X12_holdsBack_120_w1 as_X12_holdsBack_120_w1 M0 M' ∧ ∃ S120_46 S9001_0 : Int, rd M' 120 46 = S120_46 ∧ (0 ≤ S120_46 ∧ S120_46 ≤ 500) ∧ nb2v M' = S9001_0 ∧ (0 ≤ S9001_0 ∧ S9001_0 ≤ 1000000) ∧ r = none ∧ (S120_46 = G120_46 + 1) ∧ Hd ((a1 = 18 ∧ S9001_0 = G9001_0) ∨ (a1 ≠ 18 ∧ S9001_0 = G9001_0 + 1))) := by
  subst k120_46
  subst k9001_0
  refine Tr.imp (sp_X12_holdsBack_120_w1 hI a1 ha1 hq0) ?_
  rintro M' _ ⟨hS, rfl, z0, z1⟩
  exact ⟨hS, _, _, rfl, ir_120_46 hS.1.2.1, rfl, (nb2v_b hS.1.2.1), rfl, z0, hd_i z1⟩

def ws_X12_opens_120_w1 : List (Int × Int) := [(120, 3), (120, 4), (120, 5), (120, 6), (120, 7), (120, 8), (120, 9), (120, 43), (120, 44)]
def as_X12_opens_120_w1 : List Int := [145, 146, 147, 149]
def q_X12_opens_120_w1 (a1 : Int) (M0 M' : Mem) (r : Option PV) : Prop := St Pm0 ws_X12_opens_120_w1 as_X12_opens_120_w1 M0 M' ∧ r = none ∧ (rd M' 120 3 = 0 ∨ rd M' 120 4 + 1 ≤ rd M' 120 5) ∧ (rd M' 120 4 ≤ rd M' 120 5) ∧ (rd M' 120 3 ≠ 1 ∨ rd M' 120 4 + 2 ≤ rd M' 120 5 ∨ rd M' 120 7 < 256) ∧ (rd M0 120 4 ≤ rd M' 120 4 ∧ rd M0 120 5 ≤ rd M' 120 5 ∧ tav M0 ≤ tav M') ∧ (rd M0 120 8 = 0 ∨ rd M' 120 8 = rd M0 120 8) ∧ (1 ≤ rd M' 120 8 ∨ tav M0 < tav M') ∧ (rd M' 120 43 - rd M0 120 43 = rd M' 120 44 - rd M0 120 44 ∧ rd M0 120 44 ≤ rd M' 120 44 ∧ rd M' 120 44 ≤ rd M0 120 44 + 1) ∧ (rd M' 120 44 = rd M0 120 44 ∨ rd M0 120 5 ≤ rd M' 120 4) ∧ (n4v M' = n4v M0) ∧ (fr0 M' ≤ 1) ∧ (rd M' 120 44 = rd M0 120 44 + 1 ∨ 1 ≤ rd M' 120 8)
theorem kp_X12_next_120_w1_120_43 {q : Mem → Prop} {M0 M : Mem} (h : St q ws_X12_next_120_w1 as_X12_next_120_w1 M0 M) : rd M 120 43 = rd M0 120 43 := St.kp h (by decide) (by decide) (by decide)
theorem ka_X12_next_120_w1_145 {q : Mem → Prop} {M0 M : Mem} (h : St q ws_X12_next_120_w1 as_X12_next_120_w1 M0 M) (j : Int) : rd M 145 j = rd M0 145 j := St.ka h (by decide) (by decide) (by decide)
theorem kp_X12_pushes_120_w1_120_3 {q : Mem → Prop} {M0 M : Mem} (h : St q ws_X12_pushes_120_w1 as_X12_pushes_120_w1 M0 M) : rd M 120 3 = rd M0 120 3 := St.kp h (by decide) (by decide) (by decide)
theorem kp_X12_pushes_120_w1_120_4 {q : Mem → Prop} {M0 M : Mem} (h : St q ws_X12_pushes_120_w1 as_X12_pushes_120_w1 M0 M) : rd M 120 4 = rd M0 120 4 := St.kp h (by decide) (by decide) (by decide)
theorem kp_X12_pushes_120_w1_120_5 {q : Mem → Prop} {M0 M : Mem} (h : St q ws_X12_pushes_120_w1 as_X12_pushes_120_w1 M0 M) : rd M 120 5 = rd M0 120 5 := St.kp h (by decide) (by decide) (by decide)
theorem kp_X12_pushes_120_w1_120_7 {q : Mem → Prop} {M0 M : Mem} (h : St q ws_X12_pushes_120_w1 as_X12_pushes_120_w1 M0 M) : rd M 120 7 = rd M0 120 7 := St.kp h (by decide) (by decide) (by decide)
theorem kp_X12_pushes_120_w1_120_8 {q : Mem → Prop} {M0 M : Mem} (h : St q ws_X12_pushes_120_w1 as_X12_pushes_120_w1 M0 M) : rd M 120 8 = rd M0 120 8 := St.kp h (by decide) (by decide) (by decide)
theorem kp_X12_next_120_w1_120_44 {q : Mem → Prop} {M0 M : Mem} (h : St q ws_X12_next_120_w1 as_X12_next_120_w1 M0 M) : rd M 120 44 = rd M0 120 44 := St.kp h (by decide) (by decide) (by decide)
theorem kp_X12_pushes_120_w1_120_44 {q : Mem → Prop} {M0 M : Mem} (h : St q ws_X12_pushes_120_w1 as_X12_pushes_120_w1 M0 M) : rd M 120 44 = rd M0 120 44 := St.kp h (by decide) (by decide) (by decide)
theorem kp_X12_blame_120_w1_120_43 {q : Mem → Prop} {M0 M : Mem} (h : St q ws_X12_blame_120_w1 as_X12_blame_120_w1 M0 M) : rd M 120 43 = rd M0 120 43 := St.kp h (by decide) (by decide) (by decide)
theorem kp_X12_blame_120_w1_120_44 {q : Mem → Prop} {M0 M : Mem} (h : St q ws_X12_blame_120_w1 as_X12_blame_120_w1 M0 M) : rd M 120 44 = rd M0 120 44 := St.kp h (by decide) (by decide) (by decide)
theorem kp_X12_blame_120_w1_120_46 {q : Mem → Prop} {M0 M : Mem} (h : St q ws_X12_blame_120_w1 as_X12_blame_120_w1 M0 M) : rd M 120 46 = rd M0 120 46 := St.kp h (by decide) (by decide) (by decide)
theorem ka_X12_blame_120_w1_145 {q : Mem → Prop} {M0 M : Mem} (h : St q ws_X12_blame_120_w1 as_X12_blame_120_w1 M0 M) (j : Int) : rd M 145 j = rd M0 145 j := St.ka h (by decide) (by decide) (by decide)
set_option maxRecDepth 100000 in
set_option maxHeartbeats 4000000 in
theorem sp_X12_opens_120_w1 {l : Launch} {K : EC} {M0 : Mem} (hI : In Pm0 M0)  (a1 : Int) (ha1 : 2 ≤ a1 ∧ a1 ≤ 5)  (hq0 : rd M0 120 3 = 0 ∨ rd M0 120 4 + 1 ≤ rd M0 120 5) (hq1 : rd M0 120 4 ≤ rd M0 120 5) (hq2 : rd M0 120 3 ≠ 1 ∨ rd M0 120 4 + 2 ≤ rd M0 120 5 ∨ rd M0 120 7 < 256) (hq3 : 1 ≤ rd M0 120 43 ∧ rd M0 120 43 ≤ 19) (hq4 : rd M0 120 3 ≠ 0 ∨ 1 ≤ rd M0 120 8) (hq5 : fr0 M0 ≤ 1) (hq6 : a1 ≠ 4) : Tr l K 2 mX12_opens 0 [(0, (2, 120)), (1, (0, a1))] [] M0 (q_X12_opens_120_w1 a1 M0) := by
  have hS : St Pm0 ws_X12_opens_120_w1 as_X12_opens_120_w1 M0 M0 := St.rf hI
  obtain ⟨g120_8, eg120_8⟩ : ∃ v, rd M0 120 8 = v := ⟨_, rfl⟩
  have bg120_8 : 0 ≤ g120_8 ∧ g120_8 ≤ 5 := by rw [← eg120_8]; exact ir_120_8 hI.2.1
  obtain ⟨g120_3, eg120_3⟩ : ∃ v, rd M0 120 3 = v := ⟨_, rfl⟩
  have bg120_3 : 0 ≤ g120_3 ∧ g120_3 ≤ 3 := by rw [← eg120_3]; exact ir_120_3 hI.2.1
  obtain ⟨g120_4, eg120_4⟩ : ∃ v, rd M0 120 4 = v := ⟨_, rfl⟩
  have bg120_4 : 0 ≤ g120_4 ∧ g120_4 ≤ 900 := by rw [← eg120_4]; exact ir_120_4 hI.2.1
  obtain ⟨g120_5, eg120_5⟩ : ∃ v, rd M0 120 5 = v := ⟨_, rfl⟩
  have bg120_5 : 0 ≤ g120_5 ∧ g120_5 ≤ 900 := by rw [← eg120_5]; exact ir_120_5 hI.2.1
  obtain ⟨g120_7, eg120_7⟩ : ∃ v, rd M0 120 7 = v := ⟨_, rfl⟩
  have bg120_7 : (-9223372036854775808) ≤ g120_7 ∧ g120_7 ≤ 9223372036854775807 := by rw [← eg120_7]; exact ir_120_7 hI.2.1
  obtain ⟨g9010_0, eg9010_0⟩ : ∃ v, tav M0 = v := ⟨_, rfl⟩
  have bg9010_0 : (-1) ≤ g9010_0 ∧ g9010_0 ≤ 1800 := by rw [← eg9010_0]; exact (tav_b hI.2.1)
  obtain ⟨g120_44, eg120_44⟩ : ∃ v, rd M0 120 44 = v := ⟨_, rfl⟩
  have bg120_44 : 0 ≤ g120_44 ∧ g120_44 ≤ 8 := by rw [← eg120_44]; exact ir_120_44 hI.2.1
  obtain ⟨g120_43, eg120_43⟩ : ∃ v, rd M0 120 43 = v := ⟨_, rfl⟩
  have bg120_43 : 0 ≤ g120_43 ∧ g120_43 ≤ 20 := by rw [← eg120_43]; exact ir_120_43 hI.2.1
  obtain ⟨g9002_0, eg9002_0⟩ : ∃ v, n4v M0 = v := ⟨_, rfl⟩
  have bg9002_0 : 0 ≤ g9002_0 ∧ g9002_0 ≤ 20 := by rw [← eg9002_0]; exact (n4v_b hI.2.1)
  obtain ⟨g9005_0, eg9005_0⟩ : ∃ v, fr0 M0 = v := ⟨_, rfl⟩
  have bg9005_0 : 0 ≤ g9005_0 ∧ g9005_0 ≤ 5 := by rw [← eg9005_0]; exact (fr0_b hI.2.1)
  obtain ⟨g120_46, eg120_46⟩ : ∃ v, rd M0 120 46 = v := ⟨_, rfl⟩
  have bg120_46 : 0 ≤ g120_46 ∧ g120_46 ≤ 500 := by rw [← eg120_46]; exact ir_120_46 hI.2.1
  replace hq0 := hd_i hq0
  replace hq2 := hd_i hq2
  replace hq4 := hd_i hq4
  replace hq6 := hd_i hq6
  refine Tr.aload_n (pc := 0) (i := 0) d_X12_opens_0 rfl rfl ?_
  refine Tr.getf (pc := 1) d_X12_opens_1 f_12_146 (by decide) (by decide) (ty_120 hS.1.1) ?_
  refine Tr.tp g120_44 eg120_44 ?_
  refine Tr.bipush (pc := 4) d_X12_opens_4 rfl (by decide) ?_
  have J18 : ∀ (M : Mem) (u18_120_8 : Int), St Pm0 ws_X12_opens_120_w1 as_X12_opens_120_w1 M0 M → (0 ≤ u18_120_8 ∧ u18_120_8 ≤ 5) → rd M 120 3 = g120_3 → rd M 120 4 = g120_4 → rd M 120 43 = g120_43 → rd M 120 44 = g120_44 → rd M 120 46 = g120_46 → rd M 120 5 = g120_5 → rd M 120 7 = g120_7 → rd M 120 8 = u18_120_8 → n4v M = g9002_0 → fr0 M = g9005_0 → tav M = g9010_0 → ((u18_120_8 = 0 ∧ g120_44 ≤ 7) ∨ 1 ≤ u18_120_8) → (g120_8 = 0 ∨ u18_120_8 = g120_8) → Tr l K 2 mX12_opens 18 [(0, (2, 120)), (1, (0, a1))] [] M (q_X12_opens_120_w1 a1 M0) := by
    intro M u18_120_8 hS bu18_120_8 k18_120_3 k18_120_4 k18_120_43 k18_120_44 k18_120_46 k18_120_5 k18_120_7 k18_120_8 k18_9002_0 k18_9005_0 k18_9010_0 t18_0 t18_1
    replace t18_0 := hd_i t18_0
    replace t18_1 := hd_i t18_1
    refine Tr.aload_n (pc := 18) (i := 0) d_X12_opens_18 rfl rfl ?_
    refine Tr.getf (pc := 19) d_X12_opens_19 f_12_36 (by decide) (by decide) (ty_120 hS.1.1) ?_
    refine Tr.tp u18_120_8 k18_120_8 ?_
    refine Tr.if_le (pc := 22) (tgt := 26) d_X12_opens_22 rfl (fun c22 => ?_) (fun c22 => ?_)
    · refine Tr.aload_n (pc := 26) (i := 0) d_X12_opens_26 rfl rfl ?_
      refine Tr.dup (pc := 27) d_X12_opens_27 ne21 ?_
      refine Tr.getf (pc := 28) d_X12_opens_28 f_12_146 (by decide) (by decide) (ty_120 hS.1.1) ?_
      refine Tr.tp g120_44 k18_120_44 ?_
      refine Tr.iconst (pc := 31) d_X12_opens_31 (by decide) ?_
      refine Tr.iadd (pc := 32) d_X12_opens_32 ?_
      refine Tr.tp (g120_44 + 1) ((w32_id (by and_intros <;> omega)).trans (by omega)) ?_
      refine Tr.putfS (pc := 33) (P := St Pm0 ws_X12_opens_120_w1 as_X12_opens_120_w1 M0) d_X12_opens_33 f_12_146 (by decide) (by decide) (ty_120 hS.1.1) (st_120_44 hS (by decide) (by exact (hd_o t18_0).elim (fun h1 => by omega) (fun h1 => by omega)) (Pm0.of hS.1.2.2.2.2 (fun _ => rd_wb _ rfl) (fun _ => rd_wb _ rfl) (fun _ => rd_wb _ rfl) (fun _ => rd_wb _ rfl) (fun _ => rd_wb _ rfl) (fun _ => rd_wb _ rfl) (fun _ => rd_wb _ rfl) (fun _ => rd_wb _ rfl) (fun _ => rd_wb _ rfl) (fun _ => rd_wb _ rfl) (rd_wb _ rfl) (rd_wb _ rfl) (rd_wb _ rfl) (rd_wb _ rfl) (rd_wb _ rfl) (rd_wb _ rfl) (rd_wb _ rfl) (rd_wb _ rfl) (rd_wb _ rfl) (rd_wb _ rfl) (rd_wb _ rfl))) (fun M33 hS w33 => ?_)
      refine Tr.aload_n (pc := 36) (i := 0) d_X12_opens_36 rfl rfl ?_
      refine Tr.callV (pc := 37) (as := []) d_X12_opens_37 s_12_396 ok_X12_next rfl rfl (Nat.le_of_ble_eq_true rfl) (Nat.le_of_ble_eq_true rfl) (by decide) (ty_120 hS.1.1) ?_
      refine Tr.imp (Tr.deep (by decide) (ns_X12_next_120_w1 (G120_3 := g120_3) (G120_5 := g120_5) (G120_8 := u18_120_8) (G9010_0 := g9010_0) hS.1 (((Wr.b w33 rfl).trans k18_120_3)) (((Wr.b w33 rfl).trans k18_120_5)) (((Wr.b w33 rfl).trans k18_120_8)) (((tav_of ((Wr.b w33 rfl).trans rfl) ((Wr.b w33 rfl).trans rfl)).trans k18_9010_0)))) ?_
      rintro M37 _ ⟨h37, s37_120_3, s37_120_4, s37_120_5, s37_120_7, s37_120_8, s37_9010_0, es37_120_3, bs37_120_3, es37_120_4, bs37_120_4, es37_120_5, bs37_120_5, es37_120_7, bs37_120_7, es37_120_8, bs37_120_8, es37_9010_0, bs37_9010_0, rfl, z37_0, z37_1, z37_2, z37_3, z37_4, z37_5, z37_6⟩
      have hS := St.tr hS h37 (by decide) (by decide)
      refine Tr.sc [] rfl ?_
      refine Tr.aload_n (pc := 40) (i := 0) d_X12_opens_40 rfl rfl ?_
      refine Tr.iload_n (pc := 41) (i := 1) d_X12_opens_41 rfl rfl ?_
      refine Tr.callV (pc := 42) (as := [_]) d_X12_opens_42 s_12_478 ok_X12_pushes rfl rfl (Nat.le_of_ble_eq_true rfl) (Nat.le_of_ble_eq_true rfl) (by decide) (ty_120 hS.1.1) ?_
      refine Tr.imp (Tr.deep (by decide) (ns_X12_pushes_120_w1 (G120_43 := g120_43) (G9002_0 := g9002_0) (G9005_0 := g9005_0) hS.1 (((kp_X12_next_120_w1_120_43 h37).trans ((Wr.b w33 rfl).trans k18_120_43))) (((n4v_of (fun j => ((ka_X12_next_120_w1_145 h37 _).trans ((Wr.b w33 rfl).trans rfl))) ((kp_X12_next_120_w1_120_43 h37).trans ((Wr.b w33 rfl).trans rfl))).trans k18_9002_0)) (((fr0_of (fun j => ((ka_X12_next_120_w1_145 h37 _).trans ((Wr.b w33 rfl).trans rfl)))).trans k18_9005_0)) a1 (by and_intros <;> omega) (by omega) (by have h1 := (hd_o hq6); omega) (by omega) (by omega))) ?_
      rintro M42 _ ⟨h42, s42_120_43, s42_9002_0, s42_9005_0, es42_120_43, bs42_120_43, es42_9002_0, bs42_9002_0, es42_9005_0, bs42_9005_0, rfl, z42_0, z42_1, z42_2⟩
      have hS := St.tr hS h42 (by decide) (by decide)
      refine Tr.sc [] rfl ?_
      have kr_120_3 : rd M42 120 3 = s37_120_3 := ((kp_X12_pushes_120_w1_120_3 h42).trans es37_120_3)
      have kr_120_4 : rd M42 120 4 = s37_120_4 := ((kp_X12_pushes_120_w1_120_4 h42).trans es37_120_4)
      have kr_120_5 : rd M42 120 5 = s37_120_5 := ((kp_X12_pushes_120_w1_120_5 h42).trans es37_120_5)
      have kr_120_7 : rd M42 120 7 = s37_120_7 := ((kp_X12_pushes_120_w1_120_7 h42).trans es37_120_7)
      have kr_120_8 : rd M42 120 8 = s37_120_8 := ((kp_X12_pushes_120_w1_120_8 h42).trans es37_120_8)
      have kr_120_43 : rd M42 120 43 = s42_120_43 := es42_120_43
      have kr_120_44 : rd M42 120 44 = (g120_44 + 1) := ((kp_X12_pushes_120_w1_120_44 h42).trans ((kp_X12_next_120_w1_120_44 h37).trans w33.1))
      have kr_9002_0 : n4v M42 = s42_9002_0 := es42_9002_0
      have kr_9005_0 : fr0 M42 = s42_9005_0 := es42_9005_0
      have kr_9010_0 : tav M42 = s37_9010_0 := ((tav_of ((kp_X12_pushes_120_w1_120_5 h42).trans rfl) ((kp_X12_pushes_120_w1_120_3 h42).trans rfl)).trans es37_9010_0)
      exact Tr.vret (pc := 45) d_X12_opens_45 rfl ⟨hS, rfl, (by first | exact (hd_o z37_0) | exact (hd_o z37_0).elim (fun h1 => by omega) (fun h1 => by omega)), (by omega), (by first | exact (hd_o z37_2) | exact (hd_o z37_2).elim (fun h1 => by omega) (fun h1 => h1.elim (fun h1 => by omega) (fun h1 => by omega))), (by and_intros <;> omega), (by exact (hd_o t18_1).elim (fun h1 => by omega) (fun h1 => by omega)), (by exact (hd_o hq4).elim (fun h1 => (ne_o h1).elim (fun h2 => by omega) (fun h2 => (hd_o z37_5).elim (fun h3 => by omega) (fun h3 => by omega))) (fun h1 => (hd_o t18_1).elim (fun h2 => by omega) (fun h2 => by omega))), (by and_intros <;> omega), (by omega), (by omega), (by omega), (by omega)⟩
    · have kr_120_3 : rd M 120 3 = g120_3 := k18_120_3
      have kr_120_4 : rd M 120 4 = g120_4 := k18_120_4
      have kr_120_5 : rd M 120 5 = g120_5 := k18_120_5
      have kr_120_7 : rd M 120 7 = g120_7 := k18_120_7
      have kr_120_8 : rd M 120 8 = u18_120_8 := k18_120_8
      have kr_120_43 : rd M 120 43 = g120_43 := k18_120_43
      have kr_120_44 : rd M 120 44 = g120_44 := k18_120_44
      have kr_9002_0 : n4v M = g9002_0 := k18_9002_0
      have kr_9005_0 : fr0 M = g9005_0 := k18_9005_0
      have kr_9010_0 : tav M = g9010_0 := k18_9010_0
      exact Tr.vret (pc := 25) d_X12_opens_25 rfl ⟨hS, rfl, (by first | exact (hd_o hq0) | exact (hd_o hq0).elim (fun h1 => by omega) (fun h1 => by omega)), (by omega), (by first | exact (hd_o hq2) | exact (hd_o hq2).elim (fun h1 => by omega) (fun h1 => h1.elim (fun h1 => by omega) (fun h1 => by omega))), (by and_intros <;> omega), (by first | exact (hd_o t18_1) | exact (hd_o t18_1).elim (fun h1 => by omega) (fun h1 => by omega)), (by omega), (by and_intros <;> omega), (by omega), (by omega), (by omega), (by omega)⟩
  refine Tr.icmp_ne (pc := 6) (tgt := 18) d_X12_opens_6 rfl (fun c6 => ?_) (fun c6 => ?_)
  · have c6b : 0 ≤ g120_44 ∧ g120_44 ≤ 7 := by omega
    replace c6 := hd_i c6
    refine Tr.pick [0, 1] (ls2 := [(0, (2, 120)), (1, (0, a1))]) rfl ?_
    exact J18 _ _ hS (by and_intros <;> omega) eg120_3 eg120_4 eg120_43 eg120_44 eg120_46 eg120_5 eg120_7 eg120_8 eg9002_0 eg9005_0 eg9010_0 (by omega) (by omega)
  · refine Tr.aload_n (pc := 9) (i := 0) d_X12_opens_9 rfl rfl ?_
    refine Tr.iconst (pc := 10) d_X12_opens_10 (by decide) ?_
    refine Tr.aload_n (pc := 11) (i := 0) d_X12_opens_11 rfl rfl ?_
    refine Tr.getf (pc := 12) d_X12_opens_12 f_12_23 (by decide) (by decide) (ty_120 hS.1.1) ?_
    refine Tr.tp g120_4 eg120_4 ?_
    refine Tr.callV (pc := 15) (as := [_, _]) d_X12_opens_15 s_12_389 ok_X12_blame rfl rfl (Nat.le_of_ble_eq_true rfl) (Nat.le_of_ble_eq_true rfl) (by decide) (ty_120 hS.1.1) ?_
    refine Tr.imp (Tr.deep (by decide) (ns_X12_blame_120_w1 (G120_8 := g120_8) hS.1 (eg120_8) 5 (by omega) g120_4 (by and_intros <;> omega))) ?_
    rintro M15 _ ⟨h15, s15_120_8, es15_120_8, bs15_120_8, rfl, z15_0⟩
    have hS := St.tr hS h15 (by decide) (by decide)
    refine Tr.sc [] rfl ?_
    refine Tr.pick [0, 1] (ls2 := [(0, (2, 120)), (1, (0, a1))]) rfl ?_
    exact J18 _ _ hS (by and_intros <;> omega) ((kp_X12_blame_120_w1_120_3 h15).trans eg120_3) ((kp_X12_blame_120_w1_120_4 h15).trans eg120_4) ((kp_X12_blame_120_w1_120_43 h15).trans eg120_43) ((kp_X12_blame_120_w1_120_44 h15).trans eg120_44) ((kp_X12_blame_120_w1_120_46 h15).trans eg120_46) ((kp_X12_blame_120_w1_120_5 h15).trans eg120_5) ((kp_X12_blame_120_w1_120_7 h15).trans eg120_7) es15_120_8 ((n4v_of (fun j => ((ka_X12_blame_120_w1_145 h15 _).trans rfl)) ((kp_X12_blame_120_w1_120_43 h15).trans rfl)).trans eg9002_0) ((fr0_of (fun j => ((ka_X12_blame_120_w1_145 h15 _).trans rfl))).trans eg9005_0) ((tav_of ((kp_X12_blame_120_w1_120_5 h15).trans rfl) ((kp_X12_blame_120_w1_120_3 h15).trans rfl)).trans eg9010_0) (by exact (hd_o z15_0).elim (fun h1 => by omega) (fun h1 => by omega)) (by exact (hd_o z15_0).elim (fun h1 => by omega) (fun h1 => by omega))

set_option maxRecDepth 100000 in
set_option maxHeartbeats 4000000 in
theorem ns_X12_opens_120_w1 {l : Launch} {K : EC} {M0 : Mem} {G120_3 G120_4 G120_5 G120_7 G120_8 G120_43 G120_44 G9002_0 G9005_0 G9010_0 : Int} (hI : In Pm0 M0) (k120_3 : rd M0 120 3 = G120_3) (k120_4 : rd M0 120 4 = G120_4) (k120_5 : rd M0 120 5 = G120_5) (k120_7 : rd M0 120 7 = G120_7) (k120_8 : rd M0 120 8 = G120_8) (k120_43 : rd M0 120 43 = G120_43) (k120_44 : rd M0 120 44 = G120_44) (k9002_0 : n4v M0 = G9002_0) (k9005_0 : fr0 M0 = G9005_0) (k9010_0 : tav M0 = G9010_0)  (a1 : Int) (ha1 : 2 ≤ a1 ∧ a1 ≤ 5)  (hq0 : G120_3 = 0 ∨ G120_4 + 1 ≤ G120_5) (hq1 : G120_4 ≤ G120_5) (hq2 : G120_3 ≠ 1 ∨ G120_4 + 2 ≤ G120_5 ∨ G120_7 < 256) (hq3 : 1 ≤ G120_43 ∧ G120_43 ≤ 19) (hq4 : G120_3 ≠ 0 ∨ 1 ≤ G120_8) (hq5 : G9005_0 ≤ 1) (hq6 : a1 ≠ 4) : Tr l K 2 mX12_opens 0 [(0, (2, 120)), (1, (0, a1))] [] M0 (fun M' r => St Pm0 ws_X12_opens_120_w1 as_X12_opens_120_w1 M0 M' ∧ ∃ S120_3 S120_4 S120_5 S120_7 S120_8 S120_43 S120_44 S9002_0 S9005_0 S9010_0 : Int, rd M' 120 3 = S120_3 ∧ (0 ≤ S120_3 ∧ S120_3 ≤ 3) ∧ rd M' 120 4 = S120_4 ∧ (0 ≤ S120_4 ∧ S120_4 ≤ 900) ∧ rd M' 120 5 = S120_5 ∧ (0 ≤ S120_5 ∧ S120_5 ≤ 900) ∧ rd M' 120 7 = S120_7 ∧ ((-9223372036854775808) ≤ S120_7 ∧ S120_7 ≤ 9223372036854775807) ∧ rd M' 120 8 = S120_8 ∧ (0 ≤ S120_8 ∧ S120_8 ≤ 5) ∧ rd M' 120 43 = S120_43 ∧ (0 ≤ S120_43 ∧ S120_43 ≤ 20) ∧ rd M' 120 44 = S120_44 ∧ (0 ≤ S120_44 ∧ S120_44 ≤ 8) ∧ n4v M' = S9002_0 ∧ (0 ≤ S9002_0 ∧ S9002_0 ≤ 20) ∧ fr0 M' = S9005_0 ∧ (0 ≤ S9005_0 ∧ S9005_0 ≤ 5) ∧ tav M' = S9010_0 ∧ ((-1) ≤ S9010_0 ∧ S9010_0 ≤ 1800) ∧ r = none ∧ Hd (S120_3 = 0 ∨ S120_4 + 1 ≤ S120_5) ∧ (S120_4 ≤ S120_5) ∧ Hd (S120_3 ≠ 1 ∨ S120_4 + 2 ≤ S120_5 ∨ S120_7 < 256) ∧ (G120_4 ≤ S120_4 ∧ G120_5 ≤ S120_5 ∧ G9010_0 ≤ S9010_0) ∧ Hd (G120_8 = 0 ∨ S120_8 = G120_8) ∧ Hd (1 ≤ S120_8 ∨ G9010_0 < S9010_0) ∧ (S120_43 - G120_43 = S120_44 - G120_44 ∧ G120_44 ≤ S120_44 ∧ S120_44 ≤ G120_44 + 1) ∧ Hd (S120_44 = G120_44 ∨ G120_5 ≤ S120_4) ∧ (S9002_0 = G9002_0) ∧ (S9005_0 ≤ 1) ∧ Hd (S120_44 = G120_44 + 1 ∨ 1 ≤ S120_8)) := by
  subst k120_3
  subst k120_4
  subst k120_5
  subst k120_7
  subst k120_8
  subst k120_43
  subst k120_44
  subst k9002_0
  subst k9005_0
  subst k9010_0
  refine Tr.imp (sp_X12_opens_120_w1 hI a1 ha1 hq0 hq1 hq2 hq3 hq4 hq5 hq6) ?_
  rintro M' _ ⟨hS, rfl, z0, z1, z2, z3, z4, z5, z6, z7, z8, z9, z10⟩
  exact ⟨hS, _, _, _, _, _, _, _, _, _, _, rfl, ir_120_3 hS.1.2.1, rfl, ir_120_4 hS.1.2.1, rfl, ir_120_5 hS.1.2.1, rfl, ir_120_7 hS.1.2.1, rfl, ir_120_8 hS.1.2.1, rfl, ir_120_43 hS.1.2.1, rfl, ir_120_44 hS.1.2.1, rfl, (n4v_b hS.1.2.1), rfl, (fr0_b hS.1.2.1), rfl, (tav_b hS.1.2.1), rfl, hd_i z0, z1, hd_i z2, z3, hd_i z4, hd_i z5, z6, hd_i z7, z8, z9, hd_i z10⟩

def ws_X12_add_120_w4 : List (Int × Int) := [(120, 36)]
def as_X12_add_120_w4 : List Int := [143, 144]
def q_X12_add_120_w4 (a1 a2 : Int) (M0 M' : Mem) (r : Option PV) : Prop := St Pm0 ws_X12_add_120_w4 as_X12_add_120_w4 M0 M' ∧ r = none ∧ (rd M' 120 36 = rd M0 120 36 + 1) ∧ ((a1 ≤ 5 ∧ Dv0 M' = Dv0 M0 + 1) ∨ (a1 = 18 ∧ Dv0 M' = Dv0 M0) ∨ (5 < a1 ∧ a1 ≠ 18 ∧ Dv0 M' = Dv0 M0 - 1))
set_option maxRecDepth 100000 in
set_option maxHeartbeats 4000000 in
theorem sp_X12_add_120_w4 {l : Launch} {K : EC} {M0 : Mem} (hI : In Pm0 M0) (en_120_37 : rd M0 120 37 = 0) (a1 : Int) (ha1 : -2147483648 ≤ a1 ∧ a1 ≤ 2147483647) (a2 : Int) (ha2 : -2147483648 ≤ a2 ∧ a2 ≤ 2147483647) (hp0 : (a1 = 1 → 0 ≤ a2 ∧ a2 ≤ 2) ∧ (a1 = 2 ∨ a1 = 4 → 0 ≤ a2 ∧ a2 ≤ 5)) (hq0 : rd M0 120 36 ≤ 899) (hq1 : 1 ≤ rd M0 136 0) (hq2 : a1 ≤ 5 ∨ 1 ≤ Dv0 M0) (hq3 : a1 ≤ 5 ∨ a1 = 18 ∨ 2 ≤ Dv0 M0) : Tr l K 0 mX12_add 0 [(0, (2, 120)), (1, (0, a1)), (2, (0, a2))] [] M0 (q_X12_add_120_w4 a1 a2 M0) := by
  have hS : St Pm0 ws_X12_add_120_w4 as_X12_add_120_w4 M0 M0 := St.rf hI
  obtain ⟨n, hn⟩ : ∃ v, rd M0 120 36 = v := ⟨_, rfl⟩
  have hb := ir_120_36 hI.2.1
  refine Tr.aload_n (pc := 0) (i := 0) d_X12_add_0 rfl rfl ?_
  refine Tr.getf (pc := 1) d_X12_add_1 f_12_115 (by decide) (by decide) (ty_120 hS.1.1) ?_
  refine Tr.tp 143 (fx_120_34 hS.1.1) ?_
  refine Tr.sipush (pc := 4) d_X12_add_4 rfl (by decide) ?_
  refine Tr.aload_n (pc := 7) (i := 0) d_X12_add_7 rfl rfl ?_
  refine Tr.getf (pc := 8) d_X12_add_8 f_12_124 (by decide) (by decide) (ty_120 hS.1.1) ?_
  refine Tr.tp 0 en_120_37 ?_
  refine Tr.imul (pc := 11) d_X12_add_11 ?_
  refine Tr.tp 0 (by decide) ?_
  refine Tr.aload_n (pc := 12) (i := 0) d_X12_add_12 rfl rfl ?_
  refine Tr.getf (pc := 13) d_X12_add_13 f_12_121 (by decide) (by decide) (ty_120 hS.1.1) ?_
  refine Tr.tp n hn ?_
  refine Tr.iadd (pc := 16) d_X12_add_16 ?_
  refine Tr.tp (0 + n) (w32_id (by omega)) ?_
  refine Tr.iload_n (pc := 17) (i := 1) d_X12_add_17 rfl rfl ?_
  refine Tr.iast (pc := 18) d_X12_add_18 (ty_143 hS.1.1) (by omega) (by omega) ?_
  refine Tr.aload_n (pc := 19) (i := 0) d_X12_add_19 rfl rfl ?_
  refine Tr.getf (pc := 20) d_X12_add_20 f_12_118 (by decide) (by decide) (show mT (wr M0 143 (0 + n) a1) 120 = (12, 121) from ty_120 (M := M0) hS.1.1) ?_
  refine Tr.tp 144 ((rd_wb _ rfl).trans (fx_120_35 (M := M0) hS.1.1)) ?_
  refine Tr.sipush (pc := 23) d_X12_add_23 rfl (by decide) ?_
  refine Tr.aload_n (pc := 26) (i := 0) d_X12_add_26 rfl rfl ?_
  refine Tr.getf (pc := 27) d_X12_add_27 f_12_124 (by decide) (by decide) (show mT (wr M0 143 (0 + n) a1) 120 = (12, 121) from ty_120 (M := M0) hS.1.1) ?_
  refine Tr.tp 0 ((rd_wb _ rfl).trans en_120_37) ?_
  refine Tr.imul (pc := 30) d_X12_add_30 ?_
  refine Tr.tp 0 (by decide) ?_
  refine Tr.aload_n (pc := 31) (i := 0) d_X12_add_31 rfl rfl ?_
  refine Tr.getf (pc := 32) d_X12_add_32 f_12_121 (by decide) (by decide) (show mT (wr M0 143 (0 + n) a1) 120 = (12, 121) from ty_120 (M := M0) hS.1.1) ?_
  refine Tr.tp n ((rd_wb _ rfl).trans hn) ?_
  refine Tr.iadd (pc := 35) d_X12_add_35 ?_
  refine Tr.tp (0 + n) (w32_id (by omega)) ?_
  refine Tr.iload_n (pc := 36) (i := 2) d_X12_add_36 rfl rfl ?_
  refine Tr.iastS (pc := 37) (P := fun M1 => St Tru ws_X12_add_120_w4 as_X12_add_120_w4 M0 M1) d_X12_add_37 (show mT (wr M0 143 (0 + n) a1) 144 = (20, 1800) from ty_144 (M := M0) hS.1.1) (by omega) (by omega) (St.two (x := 143) (y := 144) 96 97 hS.wk (by decide) hp0 (by decide) (by decide) rfl (by decide +kernel) (by decide +kernel) (by decide +kernel) (by omega) rfl (by decide +kernel) (by decide +kernel) (by decide +kernel) (by omega) trivial) (fun M37 hS9 w37 => ?_)
  have ho : ∀ y j : Int, ¬ (y = 143 ∧ j = 0 + n) → y ≠ 144 → rd M37 y j = rd M0 y j := fun y j c1 c2 => by rw [w37.2 _ _ (fun d => c2 d.1), rd_wn _ c1]
  have e1 : rd M37 143 (0 + n) = a1 := by rw [w37.2 _ _ (fun d => absurd d.1 (by decide)), rd_ws]
  have hA := Pm0_add (w := 0) hI.2.2.2.2 hI.2.1 hn (by omega) (by omega) e1 ho (fun c => by omega) (fun c c2 => by omega)
  refine Tr.aload_n (pc := 38) (i := 0) d_X12_add_38 rfl rfl ?_
  refine Tr.dup (pc := 39) d_X12_add_39 ne21 ?_
  refine Tr.getf (pc := 40) d_X12_add_40 f_12_121 (by decide) (by decide) (ty_120 hS9.1.1) ?_
  refine Tr.tp n ((ho 120 36 (fun d => absurd d.1 (by decide)) (by decide)).trans hn) ?_
  refine Tr.iconst (pc := 43) d_X12_add_43 (by decide) ?_
  refine Tr.iadd (pc := 44) d_X12_add_44 ?_
  refine Tr.tp (n + 1) (w32_id (by omega)) ?_
  have hS8 : St Tru ws_X12_add_120_w4 as_X12_add_120_w4 M0 (wr M37 120 36 (n + 1)) := st_120_36 hS9 (by decide) (by omega) trivial
  have hq := hA.2
  have hl := dl_c a1
  have hc : rd (wr M37 120 36 (n + 1)) 120 36 = n + 1 := rd_ws _ _ _ _
  refine Tr.putf (pc := 45) d_X12_add_45 f_12_121 (by decide) (by decide) (ty_120 hS9.1.1) ?_
  exact Tr.vret (pc := 48) d_X12_add_48 rfl ⟨St.rn hS8 hA.1, rfl, by omega, by omega⟩

set_option maxRecDepth 100000 in
set_option maxHeartbeats 4000000 in
theorem ns_X12_add_120_w4 {l : Launch} {K : EC} {M0 : Mem} {G120_36 G136_0 G9003_0 : Int} (hI : In Pm0 M0) (k120_36 : rd M0 120 36 = G120_36) (k136_0 : rd M0 136 0 = G136_0) (k9003_0 : Dv0 M0 = G9003_0) (en_120_37 : rd M0 120 37 = 0) (a1 : Int) (ha1 : (-2147483648) ≤ a1 ∧ a1 ≤ 2147483647) (a2 : Int) (ha2 : (-2147483648) ≤ a2 ∧ a2 ≤ 2147483647) (hp0 : (a1 = 1 → 0 ≤ a2 ∧ a2 ≤ 2) ∧ (a1 = 2 ∨ a1 = 4 → 0 ≤ a2 ∧ a2 ≤ 5)) (hq0 : G120_36 ≤ 899) (hq1 : 1 ≤ G136_0) (hq2 : a1 ≤ 5 ∨ 1 ≤ G9003_0) (hq3 : a1 ≤ 5 ∨ a1 = 18 ∨ 2 ≤ G9003_0) : Tr l K 0 mX12_add 0 [(0, (2, 120)), (1, (0, a1)), (2, (0, a2))] [] M0 (fun M' r => St Pm0 ws_X12_add_120_w4 as_X12_add_120_w4 M0 M' ∧ ∃ S120_36 S9003_0 : Int, rd M' 120 36 = S120_36 ∧ (0 ≤ S120_36 ∧ S120_36 ≤ 900) ∧ Dv0 M' = S9003_0 ∧ ((-1000) ≤ S9003_0 ∧ S9003_0 ≤ 1000) ∧ r = none ∧ (S120_36 = G120_36 + 1) ∧ Hd ((a1 ≤ 5 ∧ S9003_0 = G9003_0 + 1) ∨ (a1 = 18 ∧ S9003_0 = G9003_0) ∨ (5 < a1 ∧ a1 ≠ 18 ∧ S9003_0 = G9003_0 - 1))) := by
  subst k120_36
  subst k136_0
  subst k9003_0
  refine Tr.imp (sp_X12_add_120_w4 hI en_120_37 a1 ha1 a2 ha2 hp0 hq0 hq1 hq2 hq3) ?_
  rintro M' _ ⟨hS, rfl, z0, z1⟩
  exact ⟨hS, _, _, rfl, ir_120_36 hS.1.2.1, rfl, (Dv0_b hS.1.2.1), rfl, z0, hd_i z1⟩

def ws_X12_add_120_w5 : List (Int × Int) := [(120, 36)]
def as_X12_add_120_w5 : List Int := [143, 144]
def q_X12_add_120_w5 (a1 a2 : Int) (M0 M' : Mem) (r : Option PV) : Prop := St Pm0 ws_X12_add_120_w5 as_X12_add_120_w5 M0 M' ∧ r = none ∧ (rd M' 120 36 = rd M0 120 36 + 1) ∧ ((a1 ≤ 5 ∧ Dv0 M' = Dv0 M0 + 1) ∨ (a1 = 18 ∧ Dv0 M' = Dv0 M0) ∨ (5 < a1 ∧ a1 ≠ 18 ∧ Dv0 M' = Dv0 M0 - 1))
set_option maxRecDepth 100000 in
set_option maxHeartbeats 4000000 in
theorem sp_X12_add_120_w5 {l : Launch} {K : EC} {M0 : Mem} (hI : In Pm0 M0) (en_120_37 : rd M0 120 37 = 0) (a1 : Int) (ha1 : -2147483648 ≤ a1 ∧ a1 ≤ 2147483647) (a2 : Int) (ha2 : -2147483648 ≤ a2 ∧ a2 ≤ 2147483647) (hp0 : (a1 = 1 → 0 ≤ a2 ∧ a2 ≤ 2) ∧ (a1 = 2 ∨ a1 = 4 → 0 ≤ a2 ∧ a2 ≤ 5)) (hq0 : rd M0 120 36 ≤ 899) (hq1 : 1 ≤ rd M0 136 0) (hq2 : a1 ≤ 5 ∨ 1 ≤ Dv0 M0) (hq3 : a1 ≤ 5 ∨ a1 = 18 ∨ 2 ≤ Dv0 M0) : Tr l K 0 mX12_add 0 [(0, (2, 120)), (1, (0, a1)), (2, (0, a2))] [] M0 (q_X12_add_120_w5 a1 a2 M0) := by
  have hS : St Pm0 ws_X12_add_120_w5 as_X12_add_120_w5 M0 M0 := St.rf hI
  obtain ⟨n, hn⟩ : ∃ v, rd M0 120 36 = v := ⟨_, rfl⟩
  have hb := ir_120_36 hI.2.1
  refine Tr.aload_n (pc := 0) (i := 0) d_X12_add_0 rfl rfl ?_
  refine Tr.getf (pc := 1) d_X12_add_1 f_12_115 (by decide) (by decide) (ty_120 hS.1.1) ?_
  refine Tr.tp 143 (fx_120_34 hS.1.1) ?_
  refine Tr.sipush (pc := 4) d_X12_add_4 rfl (by decide) ?_
  refine Tr.aload_n (pc := 7) (i := 0) d_X12_add_7 rfl rfl ?_
  refine Tr.getf (pc := 8) d_X12_add_8 f_12_124 (by decide) (by decide) (ty_120 hS.1.1) ?_
  refine Tr.tp 0 en_120_37 ?_
  refine Tr.imul (pc := 11) d_X12_add_11 ?_
  refine Tr.tp 0 (by decide) ?_
  refine Tr.aload_n (pc := 12) (i := 0) d_X12_add_12 rfl rfl ?_
  refine Tr.getf (pc := 13) d_X12_add_13 f_12_121 (by decide) (by decide) (ty_120 hS.1.1) ?_
  refine Tr.tp n hn ?_
  refine Tr.iadd (pc := 16) d_X12_add_16 ?_
  refine Tr.tp (0 + n) (w32_id (by omega)) ?_
  refine Tr.iload_n (pc := 17) (i := 1) d_X12_add_17 rfl rfl ?_
  refine Tr.iast (pc := 18) d_X12_add_18 (ty_143 hS.1.1) (by omega) (by omega) ?_
  refine Tr.aload_n (pc := 19) (i := 0) d_X12_add_19 rfl rfl ?_
  refine Tr.getf (pc := 20) d_X12_add_20 f_12_118 (by decide) (by decide) (show mT (wr M0 143 (0 + n) a1) 120 = (12, 121) from ty_120 (M := M0) hS.1.1) ?_
  refine Tr.tp 144 ((rd_wb _ rfl).trans (fx_120_35 (M := M0) hS.1.1)) ?_
  refine Tr.sipush (pc := 23) d_X12_add_23 rfl (by decide) ?_
  refine Tr.aload_n (pc := 26) (i := 0) d_X12_add_26 rfl rfl ?_
  refine Tr.getf (pc := 27) d_X12_add_27 f_12_124 (by decide) (by decide) (show mT (wr M0 143 (0 + n) a1) 120 = (12, 121) from ty_120 (M := M0) hS.1.1) ?_
  refine Tr.tp 0 ((rd_wb _ rfl).trans en_120_37) ?_
  refine Tr.imul (pc := 30) d_X12_add_30 ?_
  refine Tr.tp 0 (by decide) ?_
  refine Tr.aload_n (pc := 31) (i := 0) d_X12_add_31 rfl rfl ?_
  refine Tr.getf (pc := 32) d_X12_add_32 f_12_121 (by decide) (by decide) (show mT (wr M0 143 (0 + n) a1) 120 = (12, 121) from ty_120 (M := M0) hS.1.1) ?_
  refine Tr.tp n ((rd_wb _ rfl).trans hn) ?_
  refine Tr.iadd (pc := 35) d_X12_add_35 ?_
  refine Tr.tp (0 + n) (w32_id (by omega)) ?_
  refine Tr.iload_n (pc := 36) (i := 2) d_X12_add_36 rfl rfl ?_
  refine Tr.iastS (pc := 37) (P := fun M1 => St Tru ws_X12_add_120_w5 as_X12_add_120_w5 M0 M1) d_X12_add_37 (show mT (wr M0 143 (0 + n) a1) 144 = (20, 1800) from ty_144 (M := M0) hS.1.1) (by omega) (by omega) (St.two (x := 143) (y := 144) 96 97 hS.wk (by decide) hp0 (by decide) (by decide) rfl (by decide +kernel) (by decide +kernel) (by decide +kernel) (by omega) rfl (by decide +kernel) (by decide +kernel) (by decide +kernel) (by omega) trivial) (fun M37 hS9 w37 => ?_)
  have ho : ∀ y j : Int, ¬ (y = 143 ∧ j = 0 + n) → y ≠ 144 → rd M37 y j = rd M0 y j := fun y j c1 c2 => by rw [w37.2 _ _ (fun d => c2 d.1), rd_wn _ c1]
  have e1 : rd M37 143 (0 + n) = a1 := by rw [w37.2 _ _ (fun d => absurd d.1 (by decide)), rd_ws]
  have hA := Pm0_add (w := 0) hI.2.2.2.2 hI.2.1 hn (by omega) (by omega) e1 ho (fun c => by omega) (fun c c2 => by omega)
  refine Tr.aload_n (pc := 38) (i := 0) d_X12_add_38 rfl rfl ?_
  refine Tr.dup (pc := 39) d_X12_add_39 ne21 ?_
  refine Tr.getf (pc := 40) d_X12_add_40 f_12_121 (by decide) (by decide) (ty_120 hS9.1.1) ?_
  refine Tr.tp n ((ho 120 36 (fun d => absurd d.1 (by decide)) (by decide)).trans hn) ?_
  refine Tr.iconst (pc := 43) d_X12_add_43 (by decide) ?_
  refine Tr.iadd (pc := 44) d_X12_add_44 ?_
  refine Tr.tp (n + 1) (w32_id (by omega)) ?_
  have hS8 : St Tru ws_X12_add_120_w5 as_X12_add_120_w5 M0 (wr M37 120 36 (n + 1)) := st_120_36 hS9 (by decide) (by omega) trivial
  have hq := hA.2
  have hl := dl_c a1
  have hc : rd (wr M37 120 36 (n + 1)) 120 36 = n + 1 := rd_ws _ _ _ _
  refine Tr.putf (pc := 45) d_X12_add_45 f_12_121 (by decide) (by decide) (ty_120 hS9.1.1) ?_
  exact Tr.vret (pc := 48) d_X12_add_48 rfl ⟨St.rn hS8 hA.1, rfl, by omega, by omega⟩

set_option maxRecDepth 100000 in
set_option maxHeartbeats 4000000 in
theorem ns_X12_add_120_w5 {l : Launch} {K : EC} {M0 : Mem} {G120_36 G136_0 G9003_0 : Int} (hI : In Pm0 M0) (k120_36 : rd M0 120 36 = G120_36) (k136_0 : rd M0 136 0 = G136_0) (k9003_0 : Dv0 M0 = G9003_0) (en_120_37 : rd M0 120 37 = 0) (a1 : Int) (ha1 : (-2147483648) ≤ a1 ∧ a1 ≤ 2147483647) (a2 : Int) (ha2 : (-2147483648) ≤ a2 ∧ a2 ≤ 2147483647) (hp0 : (a1 = 1 → 0 ≤ a2 ∧ a2 ≤ 2) ∧ (a1 = 2 ∨ a1 = 4 → 0 ≤ a2 ∧ a2 ≤ 5)) (hq0 : G120_36 ≤ 899) (hq1 : 1 ≤ G136_0) (hq2 : a1 ≤ 5 ∨ 1 ≤ G9003_0) (hq3 : a1 ≤ 5 ∨ a1 = 18 ∨ 2 ≤ G9003_0) : Tr l K 0 mX12_add 0 [(0, (2, 120)), (1, (0, a1)), (2, (0, a2))] [] M0 (fun M' r => St Pm0 ws_X12_add_120_w5 as_X12_add_120_w5 M0 M' ∧ ∃ S120_36 S9003_0 : Int, rd M' 120 36 = S120_36 ∧ (0 ≤ S120_36 ∧ S120_36 ≤ 900) ∧ Dv0 M' = S9003_0 ∧ ((-1000) ≤ S9003_0 ∧ S9003_0 ≤ 1000) ∧ r = none ∧ (S120_36 = G120_36 + 1) ∧ Hd ((a1 ≤ 5 ∧ S9003_0 = G9003_0 + 1) ∨ (a1 = 18 ∧ S9003_0 = G9003_0) ∨ (5 < a1 ∧ a1 ≠ 18 ∧ S9003_0 = G9003_0 - 1))) := by
  subst k120_36
  subst k136_0
  subst k9003_0
  refine Tr.imp (sp_X12_add_120_w5 hI en_120_37 a1 ha1 a2 ha2 hp0 hq0 hq1 hq2 hq3) ?_
  rintro M' _ ⟨hS, rfl, z0, z1⟩
  exact ⟨hS, _, _, rfl, ir_120_36 hS.1.2.1, rfl, (Dv0_b hS.1.2.1), rfl, z0, hd_i z1⟩

def ws_X12_add_120_w6 : List (Int × Int) := [(120, 36)]
def as_X12_add_120_w6 : List Int := [143, 144]
def q_X12_add_120_w6 (a1 a2 : Int) (M0 M' : Mem) (r : Option PV) : Prop := St Pm0 ws_X12_add_120_w6 as_X12_add_120_w6 M0 M' ∧ r = none ∧ (rd M' 120 36 = rd M0 120 36 + 1) ∧ ((a1 ≤ 5 ∧ Dv0 M' = Dv0 M0 + 1) ∨ (a1 = 18 ∧ Dv0 M' = Dv0 M0) ∨ (5 < a1 ∧ a1 ≠ 18 ∧ Dv0 M' = Dv0 M0 - 1))
set_option maxRecDepth 100000 in
set_option maxHeartbeats 4000000 in
theorem sp_X12_add_120_w6 {l : Launch} {K : EC} {M0 : Mem} (hI : In Pm0 M0) (en_120_37 : rd M0 120 37 = 0) (a1 : Int) (ha1 : -2147483648 ≤ a1 ∧ a1 ≤ 2147483647) (a2 : Int) (ha2 : -2147483648 ≤ a2 ∧ a2 ≤ 2147483647) (hp0 : (a1 = 1 → 0 ≤ a2 ∧ a2 ≤ 2) ∧ (a1 = 2 ∨ a1 = 4 → 0 ≤ a2 ∧ a2 ≤ 5)) (hq0 : rd M0 120 36 ≤ 899) (hq1 : 1 ≤ rd M0 136 0) (hq2 : a1 ≤ 5 ∨ 1 ≤ Dv0 M0) (hq3 : a1 ≤ 5 ∨ a1 = 18 ∨ 2 ≤ Dv0 M0) : Tr l K 0 mX12_add 0 [(0, (2, 120)), (1, (0, a1)), (2, (0, a2))] [] M0 (q_X12_add_120_w6 a1 a2 M0) := by
  have hS : St Pm0 ws_X12_add_120_w6 as_X12_add_120_w6 M0 M0 := St.rf hI
  obtain ⟨n, hn⟩ : ∃ v, rd M0 120 36 = v := ⟨_, rfl⟩
  have hb := ir_120_36 hI.2.1
  refine Tr.aload_n (pc := 0) (i := 0) d_X12_add_0 rfl rfl ?_
  refine Tr.getf (pc := 1) d_X12_add_1 f_12_115 (by decide) (by decide) (ty_120 hS.1.1) ?_
  refine Tr.tp 143 (fx_120_34 hS.1.1) ?_
  refine Tr.sipush (pc := 4) d_X12_add_4 rfl (by decide) ?_
  refine Tr.aload_n (pc := 7) (i := 0) d_X12_add_7 rfl rfl ?_
  refine Tr.getf (pc := 8) d_X12_add_8 f_12_124 (by decide) (by decide) (ty_120 hS.1.1) ?_
  refine Tr.tp 0 en_120_37 ?_
  refine Tr.imul (pc := 11) d_X12_add_11 ?_
  refine Tr.tp 0 (by decide) ?_
  refine Tr.aload_n (pc := 12) (i := 0) d_X12_add_12 rfl rfl ?_
  refine Tr.getf (pc := 13) d_X12_add_13 f_12_121 (by decide) (by decide) (ty_120 hS.1.1) ?_
  refine Tr.tp n hn ?_
  refine Tr.iadd (pc := 16) d_X12_add_16 ?_
  refine Tr.tp (0 + n) (w32_id (by omega)) ?_
  refine Tr.iload_n (pc := 17) (i := 1) d_X12_add_17 rfl rfl ?_
  refine Tr.iast (pc := 18) d_X12_add_18 (ty_143 hS.1.1) (by omega) (by omega) ?_
  refine Tr.aload_n (pc := 19) (i := 0) d_X12_add_19 rfl rfl ?_
  refine Tr.getf (pc := 20) d_X12_add_20 f_12_118 (by decide) (by decide) (show mT (wr M0 143 (0 + n) a1) 120 = (12, 121) from ty_120 (M := M0) hS.1.1) ?_
  refine Tr.tp 144 ((rd_wb _ rfl).trans (fx_120_35 (M := M0) hS.1.1)) ?_
  refine Tr.sipush (pc := 23) d_X12_add_23 rfl (by decide) ?_
  refine Tr.aload_n (pc := 26) (i := 0) d_X12_add_26 rfl rfl ?_
  refine Tr.getf (pc := 27) d_X12_add_27 f_12_124 (by decide) (by decide) (show mT (wr M0 143 (0 + n) a1) 120 = (12, 121) from ty_120 (M := M0) hS.1.1) ?_
  refine Tr.tp 0 ((rd_wb _ rfl).trans en_120_37) ?_
  refine Tr.imul (pc := 30) d_X12_add_30 ?_
  refine Tr.tp 0 (by decide) ?_
  refine Tr.aload_n (pc := 31) (i := 0) d_X12_add_31 rfl rfl ?_
  refine Tr.getf (pc := 32) d_X12_add_32 f_12_121 (by decide) (by decide) (show mT (wr M0 143 (0 + n) a1) 120 = (12, 121) from ty_120 (M := M0) hS.1.1) ?_
  refine Tr.tp n ((rd_wb _ rfl).trans hn) ?_
  refine Tr.iadd (pc := 35) d_X12_add_35 ?_
  refine Tr.tp (0 + n) (w32_id (by omega)) ?_
  refine Tr.iload_n (pc := 36) (i := 2) d_X12_add_36 rfl rfl ?_
  refine Tr.iastS (pc := 37) (P := fun M1 => St Tru ws_X12_add_120_w6 as_X12_add_120_w6 M0 M1) d_X12_add_37 (show mT (wr M0 143 (0 + n) a1) 144 = (20, 1800) from ty_144 (M := M0) hS.1.1) (by omega) (by omega) (St.two (x := 143) (y := 144) 96 97 hS.wk (by decide) hp0 (by decide) (by decide) rfl (by decide +kernel) (by decide +kernel) (by decide +kernel) (by omega) rfl (by decide +kernel) (by decide +kernel) (by decide +kernel) (by omega) trivial) (fun M37 hS9 w37 => ?_)
  have ho : ∀ y j : Int, ¬ (y = 143 ∧ j = 0 + n) → y ≠ 144 → rd M37 y j = rd M0 y j := fun y j c1 c2 => by rw [w37.2 _ _ (fun d => c2 d.1), rd_wn _ c1]
  have e1 : rd M37 143 (0 + n) = a1 := by rw [w37.2 _ _ (fun d => absurd d.1 (by decide)), rd_ws]
  have hA := Pm0_add (w := 0) hI.2.2.2.2 hI.2.1 hn (by omega) (by omega) e1 ho (fun c => by omega) (fun c c2 => by omega)
  refine Tr.aload_n (pc := 38) (i := 0) d_X12_add_38 rfl rfl ?_
  refine Tr.dup (pc := 39) d_X12_add_39 ne21 ?_
  refine Tr.getf (pc := 40) d_X12_add_40 f_12_121 (by decide) (by decide) (ty_120 hS9.1.1) ?_
  refine Tr.tp n ((ho 120 36 (fun d => absurd d.1 (by decide)) (by decide)).trans hn) ?_
  refine Tr.iconst (pc := 43) d_X12_add_43 (by decide) ?_
  refine Tr.iadd (pc := 44) d_X12_add_44 ?_
  refine Tr.tp (n + 1) (w32_id (by omega)) ?_
  have hS8 : St Tru ws_X12_add_120_w6 as_X12_add_120_w6 M0 (wr M37 120 36 (n + 1)) := st_120_36 hS9 (by decide) (by omega) trivial
  have hq := hA.2
  have hl := dl_c a1
  have hc : rd (wr M37 120 36 (n + 1)) 120 36 = n + 1 := rd_ws _ _ _ _
  refine Tr.putf (pc := 45) d_X12_add_45 f_12_121 (by decide) (by decide) (ty_120 hS9.1.1) ?_
  exact Tr.vret (pc := 48) d_X12_add_48 rfl ⟨St.rn hS8 hA.1, rfl, by omega, by omega⟩
end
