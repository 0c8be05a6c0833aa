/-! 38.06 -/
section
set_option maxRecDepth 100000 in
set_option maxHeartbeats 4000000 in
theorem ns_X12_goesOn_120 {l : Launch} {K : EC} {M0 : Mem} {G120_3 G120_4 G120_5 G120_7 G120_8 G120_36 G120_43 G120_44 G120_46 G120_47 G120_50 G136_1 G9001_0 G9002_0 G9004_0 G9005_0 G9010_0 : Int} (hI : In Pm1 M0) (k120_3 : rd M0 120 3 = G120_3) (k120_4 : rd M0 120 4 = G120_4) (k120_5 : rd M0 120 5 = G120_5) (k120_7 : rd M0 120 7 = G120_7) (k120_8 : rd M0 120 8 = G120_8) (k120_36 : rd M0 120 36 = G120_36) (k120_43 : rd M0 120 43 = G120_43) (k120_44 : rd M0 120 44 = G120_44) (k120_46 : rd M0 120 46 = G120_46) (k120_47 : rd M0 120 47 = G120_47) (k120_50 : rd M0 120 50 = G120_50) (k136_1 : rd M0 136 1 = G136_1) (k9001_0 : nb2v M0 = G9001_0) (k9002_0 : n4v M0 = G9002_0) (k9004_0 : Dv1 M0 = G9004_0) (k9005_0 : fr0 M0 = G9005_0) (k9010_0 : tav M0 = G9010_0) (en_120_37 : rd M0 120 37 = 1)   (hq0 : G120_3 = 0 ∨ G120_4 + 1 ≤ G120_5) (hq1 : G120_4 ≤ G120_5) (hq2 : G120_3 ≠ 1 ∨ G120_4 + 2 ≤ G120_5 ∨ G120_7 < 256) (hq3 : G120_8 = 0) (hq4 : 2 * G120_46 + 1 ≤ G120_4) (hq5 : G9001_0 + G9002_0 + 1 ≤ G9004_0) (hq6 : G120_47 = 1) (hq7 : G120_36 + G120_46 + G120_44 ≤ G120_4) (hq8 : 1 ≤ G120_43) (hq9 : G120_50 + G120_43 ≤ G120_44 + 1) (hq10 : G9005_0 ≤ 1) (hq11 : 1 ≤ G136_1) : Tr l K 2 mX12_goesOn 0 [(0, (2, 120))] [] M0 (fun M' r => St Pm1 ws_X12_goesOn_120 as_X12_goesOn_120 M0 M' ∧ ∃ S120_3 S120_4 S120_5 S120_7 S120_8 S120_36 S120_43 S120_44 S120_46 S120_47 S9001_0 S9002_0 S9004_0 S9005_0 S9010_0 : Int, rd M' 120 3 = S120_3 ∧ (0 ≤ S120_3 ∧ S120_3 ≤ 3) ∧ rd M' 120 4 = S120_4 ∧ (0 ≤ S120_4 ∧ S120_4 ≤ 900) ∧ rd M' 120 5 = S120_5 ∧ (0 ≤ S120_5 ∧ S120_5 ≤ 900) ∧ rd M' 120 7 = S120_7 ∧ ((-9223372036854775808) ≤ S120_7 ∧ S120_7 ≤ 9223372036854775807) ∧ rd M' 120 8 = S120_8 ∧ (0 ≤ S120_8 ∧ S120_8 ≤ 5) ∧ rd M' 120 36 = S120_36 ∧ (0 ≤ S120_36 ∧ S120_36 ≤ 900) ∧ rd M' 120 43 = S120_43 ∧ (0 ≤ S120_43 ∧ S120_43 ≤ 20) ∧ rd M' 120 44 = S120_44 ∧ (0 ≤ S120_44 ∧ S120_44 ≤ 8) ∧ rd M' 120 46 = S120_46 ∧ (0 ≤ S120_46 ∧ S120_46 ≤ 500) ∧ rd M' 120 47 = S120_47 ∧ (0 ≤ S120_47 ∧ S120_47 ≤ 1) ∧ nb2v M' = S9001_0 ∧ (0 ≤ S9001_0 ∧ S9001_0 ≤ 1000000) ∧ n4v M' = S9002_0 ∧ (0 ≤ S9002_0 ∧ S9002_0 ≤ 20) ∧ Dv1 M' = S9004_0 ∧ ((-1000) ≤ S9004_0 ∧ S9004_0 ≤ 1000) ∧ fr0 M' = S9005_0 ∧ (0 ≤ S9005_0 ∧ S9005_0 ≤ 5) ∧ tav M' = S9010_0 ∧ ((-1) ≤ S9010_0 ∧ S9010_0 ≤ 1800) ∧ ∃ v : Int, r = some (0, v) ∧ 0 ≤ v ∧ v ≤ 1 ∧ Hd (S120_3 = 0 ∨ S120_4 + 1 ≤ S120_5) ∧ (S120_4 ≤ S120_5) ∧ Hd (S120_3 ≠ 1 ∨ S120_4 + 2 ≤ S120_5 ∨ S120_7 < 256) ∧ (G120_4 ≤ S120_4 ∧ G120_5 ≤ S120_5 ∧ G9010_0 ≤ S9010_0) ∧ Hd (G120_8 = 0 ∨ S120_8 = G120_8) ∧ (S120_36 + S120_46 + S120_44 ≤ S120_4) ∧ (1 ≤ S120_43) ∧ (G120_50 + S120_43 ≤ S120_44 + 1) ∧ (S9005_0 ≤ 1) ∧ (1 ≤ G136_1) ∧ Hd (v = 0 ∨ 1 ≤ S120_8 ∨ G9010_0 < S9010_0) ∧ Hd (1 ≤ S120_8 ∨ 2 * S120_46 + S120_47 ≤ S120_4) ∧ Hd (v = 0 ∨ 1 ≤ S120_8 ∨ S9001_0 + S9002_0 + S120_47 ≤ S9004_0)) := by
  subst k120_3
  subst k120_4
  subst k120_5
  subst k120_7
  subst k120_8
  subst k120_36
  subst k120_43
  subst k120_44
  subst k120_46
  subst k120_47
  subst k120_50
  subst k136_1
  subst k9001_0
  subst k9002_0
  subst k9004_0
  subst k9005_0
  subst k9010_0
  refine Tr.imp (sp_X12_goesOn_120 hI en_120_37 hq0 hq1 hq2 hq3 hq4 hq5 hq6 hq7 hq8 hq9 hq10 hq11) ?_
  rintro M' _ ⟨hS, v, rfl, lr, ur, z0, z1, z2, z3, z4, z5, z6, z7, z8, z9, z10, z11, z12⟩
  rewrite [show rd M' 120 50 = rd M0 120 50 from ((St.kp hS (by decide) (by decide) (by decide)).trans rfl)] at z7
  rewrite [show rd M' 136 1 = rd M0 136 1 from ((St.kp hS (by decide) (by decide) (by decide)).trans rfl)] at z9
  exact ⟨hS, _, _, _, _, _, _, _, _, _, _, _, _, _, _, _, rfl, ir_120_3 hS.1.2.1, rfl, ir_120_4 hS.1.2.1, rfl, ir_120_5 hS.1.2.1, rfl, ir_120_7 hS.1.2.1, rfl, ir_120_8 hS.1.2.1, rfl, ir_120_36 hS.1.2.1, rfl, ir_120_43 hS.1.2.1, rfl, ir_120_44 hS.1.2.1, rfl, ir_120_46 hS.1.2.1, rfl, ir_120_47 hS.1.2.1, rfl, (nb2v_b hS.1.2.1), rfl, (n4v_b hS.1.2.1), rfl, (Dv1_b hS.1.2.1), rfl, (fr0_b hS.1.2.1), rfl, (tav_b hS.1.2.1), v, rfl, lr, ur, hd_i z0, z1, hd_i z2, z3, hd_i z4, z5, z6, z7, z8, z9, hd_i z10, hd_i z11, hd_i z12⟩

def ws_X12_reads_120 : List (Int × Int) := [(120, 3), (120, 4), (120, 5), (120, 6), (120, 7), (120, 8), (120, 9), (120, 36), (120, 43), (120, 44), (120, 46), (120, 47)]
def as_X12_reads_120 : List Int := [143, 144, 145, 146, 147, 148, 149, 150]
def q_X12_reads_120 (a1 : Int) (M0 M' : Mem) (r : Option PV) : Prop := St Pm1 ws_X12_reads_120 as_X12_reads_120 M0 M' ∧ r = none ∧ (rd M' 120 3 = 0 ∨ rd M' 120 4 + 1 ≤ rd M' 120 5) ∧ (rd M' 120 4 ≤ rd M' 120 5) ∧ (rd M' 120 3 ≠ 1 ∨ rd M' 120 4 + 2 ≤ rd M' 120 5 ∨ rd M' 120 7 < 256) ∧ (rd M0 120 4 ≤ rd M' 120 4 ∧ rd M0 120 5 ≤ rd M' 120 5 ∧ tav M0 ≤ tav M') ∧ (rd M0 120 8 = 0 ∨ rd M' 120 8 = rd M0 120 8) ∧ (rd M' 120 50 ≤ rd M' 120 44) ∧ (rd M' 120 36 + rd M' 120 44 ≤ rd M' 120 4)
theorem kp_X12_reads_120_120_37 {q : Mem → Prop} {M0 M : Mem} (h : St q ws_X12_reads_120 as_X12_reads_120 M0 M) : rd M 120 37 = rd M0 120 37 := St.kp h (by decide) (by decide) (by decide)
theorem kp_X12_goesOn_120_120_50 {q : Mem → Prop} {M0 M : Mem} (h : St q ws_X12_goesOn_120 as_X12_goesOn_120 M0 M) : rd M 120 50 = rd M0 120 50 := St.kp h (by decide) (by decide) (by decide)
theorem kp_X12_goesOn_120_136_1 {q : Mem → Prop} {M0 M : Mem} (h : St q ws_X12_goesOn_120 as_X12_goesOn_120 M0 M) : rd M 136 1 = rd M0 136 1 := St.kp h (by decide) (by decide) (by decide)
theorem kp_X12_operand_120_120_50 {q : Mem → Prop} {M0 M : Mem} (h : St q ws_X12_operand_120 as_X12_operand_120 M0 M) : rd M 120 50 = rd M0 120 50 := St.kp h (by decide) (by decide) (by decide)
theorem kp_X12_operand_120_136_1 {q : Mem → Prop} {M0 M : Mem} (h : St q ws_X12_operand_120 as_X12_operand_120 M0 M) : rd M 136 1 = rd M0 136 1 := St.kp h (by decide) (by decide) (by decide)
theorem kp_X12_pushes_120_120_36 {q : Mem → Prop} {M0 M : Mem} (h : St q ws_X12_pushes_120 as_X12_pushes_120 M0 M) : rd M 120 36 = rd M0 120 36 := St.kp h (by decide) (by decide) (by decide)
theorem kp_X12_pushes_120_120_46 {q : Mem → Prop} {M0 M : Mem} (h : St q ws_X12_pushes_120 as_X12_pushes_120 M0 M) : rd M 120 46 = rd M0 120 46 := St.kp h (by decide) (by decide) (by decide)
theorem kp_X12_pushes_120_120_47 {q : Mem → Prop} {M0 M : Mem} (h : St q ws_X12_pushes_120 as_X12_pushes_120 M0 M) : rd M 120 47 = rd M0 120 47 := St.kp h (by decide) (by decide) (by decide)
theorem kp_X12_pushes_120_120_50 {q : Mem → Prop} {M0 M : Mem} (h : St q ws_X12_pushes_120 as_X12_pushes_120 M0 M) : rd M 120 50 = rd M0 120 50 := St.kp h (by decide) (by decide) (by decide)
theorem kp_X12_pushes_120_120_6 {q : Mem → Prop} {M0 M : Mem} (h : St q ws_X12_pushes_120 as_X12_pushes_120 M0 M) : rd M 120 6 = rd M0 120 6 := St.kp h (by decide) (by decide) (by decide)
theorem kp_X12_pushes_120_136_1 {q : Mem → Prop} {M0 M : Mem} (h : St q ws_X12_pushes_120 as_X12_pushes_120 M0 M) : rd M 136 1 = rd M0 136 1 := St.kp h (by decide) (by decide) (by decide)
theorem ka_X12_pushes_120_150 {q : Mem → Prop} {M0 M : Mem} (h : St q ws_X12_pushes_120 as_X12_pushes_120 M0 M) (j : Int) : rd M 150 j = rd M0 150 j := St.ka h (by decide) (by decide) (by decide)
theorem ka_X12_pushes_120_143 {q : Mem → Prop} {M0 M : Mem} (h : St q ws_X12_pushes_120 as_X12_pushes_120 M0 M) (j : Int) : rd M 143 j = rd M0 143 j := St.ka h (by decide) (by decide) (by decide)
theorem ka_X12_pushes_120_140 {q : Mem → Prop} {M0 M : Mem} (h : St q ws_X12_pushes_120 as_X12_pushes_120 M0 M) (j : Int) : rd M 140 j = rd M0 140 j := St.ka h (by decide) (by decide) (by decide)
set_option maxRecDepth 100000 in
set_option maxHeartbeats 4000000 in
theorem sp_X12_reads_120 {l : Launch} {K : EC} {M0 : Mem} (hI : In Pm1 M0) (en_120_37 : rd M0 120 37 = 1) (a1 : Int) (ha1 : 0 ≤ a1 ∧ a1 ≤ 1)  (hq0 : rd M0 120 3 = 0 ∨ rd M0 120 4 + 1 ≤ rd M0 120 5) (hq1 : rd M0 120 4 ≤ rd M0 120 5) (hq2 : rd M0 120 3 ≠ 1 ∨ rd M0 120 4 + 2 ≤ rd M0 120 5 ∨ rd M0 120 7 < 256) (hq3 : rd M0 120 50 ≤ rd M0 120 44) (hq4 : rd M0 120 36 + rd M0 120 44 ≤ rd M0 120 4) (hq5 : Dv1 M0 = 0) (hq6 : 1 ≤ rd M0 136 1) : Tr l K 4 mX12_reads 0 [(0, (2, 120)), (1, (0, a1))] [] M0 (q_X12_reads_120 a1 M0) := by
  have hS : St Pm1 ws_X12_reads_120 as_X12_reads_120 M0 M0 := St.rf hI
  obtain ⟨g120_8, eg120_8⟩ : ∃ v, rd M0 120 8 = v := ⟨_, rfl⟩
  have bg120_8 : 0 ≤ g120_8 ∧ g120_8 ≤ 5 := by rw [← eg120_8]; exact ir_120_8 hI.2.1
  obtain ⟨g120_3, eg120_3⟩ : ∃ v, rd M0 120 3 = v := ⟨_, rfl⟩
  have bg120_3 : 0 ≤ g120_3 ∧ g120_3 ≤ 3 := by rw [← eg120_3]; exact ir_120_3 hI.2.1
  obtain ⟨g120_4, eg120_4⟩ : ∃ v, rd M0 120 4 = v := ⟨_, rfl⟩
  have bg120_4 : 0 ≤ g120_4 ∧ g120_4 ≤ 900 := by rw [← eg120_4]; exact ir_120_4 hI.2.1
  obtain ⟨g120_5, eg120_5⟩ : ∃ v, rd M0 120 5 = v := ⟨_, rfl⟩
  have bg120_5 : 0 ≤ g120_5 ∧ g120_5 ≤ 900 := by rw [← eg120_5]; exact ir_120_5 hI.2.1
  obtain ⟨g120_7, eg120_7⟩ : ∃ v, rd M0 120 7 = v := ⟨_, rfl⟩
  have bg120_7 : (-9223372036854775808) ≤ g120_7 ∧ g120_7 ≤ 9223372036854775807 := by rw [← eg120_7]; exact ir_120_7 hI.2.1
  obtain ⟨g9010_0, eg9010_0⟩ : ∃ v, tav M0 = v := ⟨_, rfl⟩
  have bg9010_0 : (-1) ≤ g9010_0 ∧ g9010_0 ≤ 1800 := by rw [← eg9010_0]; exact (tav_b hI.2.1)
  obtain ⟨g120_6, eg120_6⟩ : ∃ v, rd M0 120 6 = v := ⟨_, rfl⟩
  have bg120_6 : (-2147483648) ≤ g120_6 ∧ g120_6 ≤ 2147483647 := by rw [← eg120_6]; exact ir_120_6 hI.2.1
  obtain ⟨g120_36, eg120_36⟩ : ∃ v, rd M0 120 36 = v := ⟨_, rfl⟩
  have bg120_36 : 0 ≤ g120_36 ∧ g120_36 ≤ 900 := by rw [← eg120_36]; exact ir_120_36 hI.2.1
  obtain ⟨g120_46, eg120_46⟩ : ∃ v, rd M0 120 46 = v := ⟨_, rfl⟩
  have bg120_46 : 0 ≤ g120_46 ∧ g120_46 ≤ 500 := by rw [← eg120_46]; exact ir_120_46 hI.2.1
  obtain ⟨g120_44, eg120_44⟩ : ∃ v, rd M0 120 44 = v := ⟨_, rfl⟩
  have bg120_44 : 0 ≤ g120_44 ∧ g120_44 ≤ 8 := by rw [← eg120_44]; exact ir_120_44 hI.2.1
  obtain ⟨g120_43, eg120_43⟩ : ∃ v, rd M0 120 43 = v := ⟨_, rfl⟩
  have bg120_43 : 0 ≤ g120_43 ∧ g120_43 ≤ 20 := by rw [← eg120_43]; exact ir_120_43 hI.2.1
  obtain ⟨g120_50, eg120_50⟩ : ∃ v, rd M0 120 50 = v := ⟨_, rfl⟩
  have bg120_50 : 0 ≤ g120_50 ∧ g120_50 ≤ 20 := by rw [← eg120_50]; exact ir_120_50 hI.2.1
  obtain ⟨g9001_0, eg9001_0⟩ : ∃ v, nb2v M0 = v := ⟨_, rfl⟩
  have bg9001_0 : 0 ≤ g9001_0 ∧ g9001_0 ≤ 1000000 := by rw [← eg9001_0]; exact (nb2v_b hI.2.1)
  obtain ⟨g9002_0, eg9002_0⟩ : ∃ v, n4v M0 = v := ⟨_, rfl⟩
  have bg9002_0 : 0 ≤ g9002_0 ∧ g9002_0 ≤ 20 := by rw [← eg9002_0]; exact (n4v_b hI.2.1)
  obtain ⟨g9005_0, eg9005_0⟩ : ∃ v, fr0 M0 = v := ⟨_, rfl⟩
  have bg9005_0 : 0 ≤ g9005_0 ∧ g9005_0 ≤ 5 := by rw [← eg9005_0]; exact (fr0_b hI.2.1)
  obtain ⟨g9004_0, eg9004_0⟩ : ∃ v, Dv1 M0 = v := ⟨_, rfl⟩
  have bg9004_0 : (-1000) ≤ g9004_0 ∧ g9004_0 ≤ 1000 := by rw [← eg9004_0]; exact (Dv1_b hI.2.1)
  obtain ⟨g136_1, eg136_1⟩ : ∃ v, rd M0 136 1 = v := ⟨_, rfl⟩
  have bg136_1 : 0 ≤ g136_1 ∧ g136_1 ≤ 200 := by rw [← eg136_1]; exact ir_136_1 hI.2.1
  obtain ⟨g120_47, eg120_47⟩ : ∃ v, rd M0 120 47 = v := ⟨_, rfl⟩
  have bg120_47 : 0 ≤ g120_47 ∧ g120_47 ≤ 1 := by rw [← eg120_47]; exact ir_120_47 hI.2.1
  replace hq0 := hd_i hq0
  replace hq2 := hd_i hq2
  refine Tr.aload_n (pc := 0) (i := 0) d_X12_reads_0 rfl rfl ?_
  refine Tr.getf (pc := 1) d_X12_reads_1 f_12_36 (by decide) (by decide) (ty_120 hS.1.1) ?_
  refine Tr.tp g120_8 eg120_8 ?_
  refine Tr.if_le (pc := 4) (tgt := 8) d_X12_reads_4 rfl (fun c4 => ?_) (fun c4 => ?_)
  · refine Tr.aload_n (pc := 8) (i := 0) d_X12_reads_8 rfl rfl ?_
    refine Tr.iconst (pc := 9) d_X12_reads_9 (by decide) ?_
    refine Tr.putfS (pc := 10) (P := St Pm1 ws_X12_reads_120 as_X12_reads_120 M0) d_X12_reads_10 f_12_143 (by decide) (by decide) (ty_120 hS.1.1) (st_120_43 hS (by decide) (by omega) (Pm1.of hS.1.2.2.2.2 (fun _ => rd_wb _ rfl) (fun _ => rd_wb _ rfl) (fun _ => rd_wb _ rfl) (fun _ => rd_wb _ rfl) (fun _ => rd_wb _ rfl) (fun _ => rd_wb _ rfl) (fun _ => rd_wb _ rfl) (fun _ => rd_wb _ rfl) (fun _ => rd_wb _ rfl) (fun _ => rd_wb _ rfl) (rd_wb _ rfl) (rd_wb _ rfl) (rd_wb _ rfl) (rd_wb _ rfl) (rd_wb _ rfl) (rd_wb _ rfl) (rd_wb _ rfl) (rd_wb _ rfl) (rd_wb _ rfl) (rd_wb _ rfl) (rd_wb _ rfl))) (fun M10 hS w10 => ?_)
    obtain ⟨v10_9002, ev10_9002⟩ : ∃ v, n4v M10 = v := ⟨_, rfl⟩
    have bv10_9002 : 0 ≤ v10_9002 ∧ v10_9002 ≤ 20 := by rw [← ev10_9002]; exact (n4v_b hS.1.2.1)
    have fv10_9002 : v10_9002 = 0 := by have h8 := ct_zero (x := 145) (j := 43) (e := 4) (a := 1) (b := 0) (M := M10) w10.1; have h7 : ctV 145 43 4 1 0 M10 = v10_9002 := ev10_9002; omega
    refine Tr.aload_n (pc := 13) (i := 0) d_X12_reads_13 rfl rfl ?_
    refine Tr.iconst (pc := 14) d_X12_reads_14 (by decide) ?_
    refine Tr.putfS (pc := 15) (P := St Pm1 ws_X12_reads_120 as_X12_reads_120 M0) d_X12_reads_15 f_12_152 (by decide) (by decide) (ty_120 hS.1.1) (st_120_46 hS (by decide) (by omega) (Pm1.of hS.1.2.2.2.2 (fun _ => rd_wb _ rfl) (fun _ => rd_wb _ rfl) (fun _ => rd_wb _ rfl) (fun _ => rd_wb _ rfl) (fun _ => rd_wb _ rfl) (fun _ => rd_wb _ rfl) (fun _ => rd_wb _ rfl) (fun _ => rd_wb _ rfl) (fun _ => rd_wb _ rfl) (fun _ => rd_wb _ rfl) (rd_wb _ rfl) (rd_wb _ rfl) (rd_wb _ rfl) (rd_wb _ rfl) (rd_wb _ rfl) (rd_wb _ rfl) (rd_wb _ rfl) (rd_wb _ rfl) (rd_wb _ rfl) (rd_wb _ rfl) (rd_wb _ rfl))) (fun M15 hS w15 => ?_)
    obtain ⟨v15_9001, ev15_9001⟩ : ∃ v, nb2v M15 = v := ⟨_, rfl⟩
    have bv15_9001 : 0 ≤ v15_9001 ∧ v15_9001 ≤ 1000000 := by rw [← ev15_9001]; exact (nb2v_b hS.1.2.1)
    have fv15_9001 : v15_9001 = 0 := by have h8 := nb2_zero (M := M15) w15.1; have h7 : nb2v M15 = v15_9001 := ev15_9001; rw [← h7]; exact h8
    refine Tr.aload_n (pc := 18) (i := 0) d_X12_reads_18 rfl rfl ?_
    refine Tr.iconst (pc := 19) d_X12_reads_19 (by decide) ?_
    refine Tr.putzS (pc := 20) (P := St Pm1 ws_X12_reads_120 as_X12_reads_120 M0) d_X12_reads_20 f_12_155 (by decide) (ty_120 hS.1.1) (by omega) (st_120_47 hS (by decide) (by omega) (Pm1.of hS.1.2.2.2.2 (fun _ => rd_wb _ rfl) (fun _ => rd_wb _ rfl) (fun _ => rd_wb _ rfl) (fun _ => rd_wb _ rfl) (fun _ => rd_wb _ rfl) (fun _ => rd_wb _ rfl) (fun _ => rd_wb _ rfl) (fun _ => rd_wb _ rfl) (fun _ => rd_wb _ rfl) (fun _ => rd_wb _ rfl) (rd_wb _ rfl) (rd_wb _ rfl) (rd_wb _ rfl) (rd_wb _ rfl) (rd_wb _ rfl) (rd_wb _ rfl) (rd_wb _ rfl) (rd_wb _ rfl) (rd_wb _ rfl) (rd_wb _ rfl) (rd_wb _ rfl))) (fun M20 hS w20 => ?_)
    refine Tr.aload_n (pc := 23) (i := 0) d_X12_reads_23 rfl rfl ?_
    refine Tr.iload_n (pc := 24) (i := 1) d_X12_reads_24 rfl rfl ?_
    have J33 : ∀ (M : Mem) (q33_1 : Int), St Pm1 ws_X12_reads_120 as_X12_reads_120 M0 M → (0 ≤ q33_1 ∧ q33_1 ≤ 1) → rd M 120 3 = g120_3 → rd M 120 36 = g120_36 → rd M 120 4 = g120_4 → rd M 120 43 = 0 → rd M 120 44 = g120_44 → rd M 120 46 = 0 → rd M 120 47 = 0 → rd M 120 5 = g120_5 → rd M 120 50 = g120_50 → rd M 120 6 = g120_6 → rd M 120 7 = g120_7 → rd M 120 8 = g120_8 → rd M 136 1 = g136_1 → nb2v M = v15_9001 → n4v M = v10_9002 → Dv1 M = g9004_0 → fr0 M = g9005_0 → tav M = g9010_0 → Tr l K 4 mX12_reads 33 [(0, (2, 120))] [(0, q33_1), (2, 120)] M (q_X12_reads_120 a1 M0) := by
      intro M q33_1 hS bq33_1 k33_120_3 k33_120_36 k33_120_4 k33_120_43 k33_120_44 k33_120_46 k33_120_47 k33_120_5 k33_120_50 k33_120_6 k33_120_7 k33_120_8 k33_136_1 k33_9001_0 k33_9002_0 k33_9004_0 k33_9005_0 k33_9010_0
      clear w10 ev10_9002 w15 ev15_9001 w20
      refine Tr.callV (pc := 33) (as := [_]) d_X12_reads_33 s_12_478 ok_X12_pushes rfl rfl (Nat.le_of_ble_eq_true rfl) (Nat.le_of_ble_eq_true rfl) (by decide) (ty_120 hS.1.1) ?_
      refine Tr.imp (Tr.deep (by decide) (ns_X12_pushes_120 (G120_43 := 0) (G9002_0 := v10_9002) (G9005_0 := g9005_0) hS.1 (k33_120_43) (k33_9002_0) (k33_9005_0) q33_1 (by and_intros <;> omega) (by omega) (by omega) (by omega) (by omega))) ?_
      rintro M33 _ ⟨h33, s33_120_43, s33_9002_0, s33_9005_0, es33_120_43, bs33_120_43, es33_9002_0, bs33_9002_0, es33_9005_0, bs33_9005_0, rfl, z33_0, z33_1, z33_2⟩
      have hS := St.tr hS h33 (by decide) (by decide)
      refine Tr.sc [] rfl ?_
      refine Tr.iconst (pc := 36) d_X12_reads_36 (by decide) ?_
      refine Tr.istore_n (pc := 37) (i := 2) (ls2 := [(2, (0, 1)), (0, (2, 120))]) d_X12_reads_37 rfl (by decide) rfl ?_
      have J38 : ∀ (n38 : Nat) (M : Mem) (p38_2 u38_120_3 u38_120_4 u38_120_5 u38_120_6 u38_120_7 u38_120_8 u38_120_36 u38_120_43 u38_120_44 u38_120_46 u38_120_47 u38_9001_0 u38_9002_0 u38_9004_0 u38_9005_0 u38_9010_0 : Int), St Pm1 ws_X12_reads_120 as_X12_reads_120 M0 M → (0 ≤ p38_2 ∧ p38_2 ≤ 1) → (0 ≤ u38_120_3 ∧ u38_120_3 ≤ 3) → (0 ≤ u38_120_4 ∧ u38_120_4 ≤ 900) → (0 ≤ u38_120_5 ∧ u38_120_5 ≤ 900) → ((-2147483648) ≤ u38_120_6 ∧ u38_120_6 ≤ 2147483647) → ((-9223372036854775808) ≤ u38_120_7 ∧ u38_120_7 ≤ 9223372036854775807) → (0 ≤ u38_120_8 ∧ u38_120_8 ≤ 5) → (0 ≤ u38_120_36 ∧ u38_120_36 ≤ 900) → (0 ≤ u38_120_43 ∧ u38_120_43 ≤ 20) → (0 ≤ u38_120_44 ∧ u38_120_44 ≤ 8) → (0 ≤ u38_120_46 ∧ u38_120_46 ≤ 500) → (0 ≤ u38_120_47 ∧ u38_120_47 ≤ 1) → (0 ≤ u38_9001_0 ∧ u38_9001_0 ≤ 1000000) → (0 ≤ u38_9002_0 ∧ u38_9002_0 ≤ 20) → ((-1000) ≤ u38_9004_0 ∧ u38_9004_0 ≤ 1000) → (0 ≤ u38_9005_0 ∧ u38_9005_0 ≤ 5) → ((-1) ≤ u38_9010_0 ∧ u38_9010_0 ≤ 1800) → rd M 120 3 = u38_120_3 → rd M 120 36 = u38_120_36 → rd M 120 4 = u38_120_4 → rd M 120 43 = u38_120_43 → rd M 120 44 = u38_120_44 → rd M 120 46 = u38_120_46 → rd M 120 47 = u38_120_47 → rd M 120 5 = u38_120_5 → rd M 120 50 = g120_50 → rd M 120 6 = u38_120_6 → rd M 120 7 = u38_120_7 → rd M 120 8 = u38_120_8 → rd M 136 1 = g136_1 → nb2v M = u38_9001_0 → n4v M = u38_9002_0 → Dv1 M = u38_9004_0 → fr0 M = u38_9005_0 → tav M = u38_9010_0 → (u38_120_3 = 0 ∨ u38_120_4 + 1 ≤ u38_120_5) → (u38_120_4 ≤ u38_120_5) → (u38_120_3 ≠ 1 ∨ u38_120_4 + 2 ≤ u38_120_5 ∨ u38_120_7 < 256) → (g120_4 ≤ u38_120_4 ∧ g120_5 ≤ u38_120_5 ∧ g9010_0 ≤ u38_9010_0) → (g120_8 = 0 ∨ u38_120_8 = g120_8) → (u38_120_36 + u38_120_46 + u38_120_44 ≤ u38_120_4) → (1 ≤ u38_120_43) → (g120_50 + u38_120_43 ≤ u38_120_44 + 1) → (u38_9005_0 ≤ 1) → (1 ≤ g136_1) → (1 ≤ u38_120_8 ∨ 2 * u38_120_46 + u38_120_47 ≤ u38_120_4) → (p38_2 = 0 ∨ (u38_120_8 = 0 ∧ u38_9001_0 + u38_9002_0 + u38_120_47 ≤ u38_9004_0)) → (2 * (1802 - u38_9010_0) + p38_2).toNat < n38 → Tr l K 4 mX12_reads 38 [(0, (2, 120)), (2, (0, p38_2))] [] M (q_X12_reads_120 a1 M0) := by
        intro n38
        induction n38 with
        | zero => intro M p38_2 u38_120_3 u38_120_4 u38_120_5 u38_120_6 u38_120_7 u38_120_8 u38_120_36 u38_120_43 u38_120_44 u38_120_46 u38_120_47 u38_9001_0 u38_9002_0 u38_9004_0 u38_9005_0 u38_9010_0 hS bp38_2 bu38_120_3 bu38_120_4 bu38_120_5 bu38_120_6 bu38_120_7 bu38_120_8 bu38_120_36 bu38_120_43 bu38_120_44 bu38_120_46 bu38_120_47 bu38_9001_0 bu38_9002_0 bu38_9004_0 bu38_9005_0 bu38_9010_0 k38_120_3 k38_120_36 k38_120_4 k38_120_43 k38_120_44 k38_120_46 k38_120_47 k38_120_5 k38_120_50 k38_120_6 k38_120_7 k38_120_8 k38_136_1 k38_9001_0 k38_9002_0 k38_9004_0 k38_9005_0 k38_9010_0 t38_0 t38_1 t38_2 t38_3 t38_4 t38_5 t38_6 t38_7 t38_8 t38_9 t38_10 t38_11 hm38; exact absurd hm38 (Nat.not_lt_zero _)
        | succ n38 J38 =>
          intro M p38_2 u38_120_3 u38_120_4 u38_120_5 u38_120_6 u38_120_7 u38_120_8 u38_120_36 u38_120_43 u38_120_44 u38_120_46 u38_120_47 u38_9001_0 u38_9002_0 u38_9004_0 u38_9005_0 u38_9010_0 hS bp38_2 bu38_120_3 bu38_120_4 bu38_120_5 bu38_120_6 bu38_120_7 bu38_120_8 bu38_120_36 bu38_120_43 bu38_120_44 bu38_120_46 bu38_120_47 bu38_9001_0 bu38_9002_0 bu38_9004_0 bu38_9005_0 bu38_9010_0 k38_120_3 k38_120_36 k38_120_4 k38_120_43 k38_120_44 k38_120_46 k38_120_47 k38_120_5 k38_120_50 k38_120_6 k38_120_7 k38_120_8 k38_136_1 k38_9001_0 k38_9002_0 k38_9004_0 k38_9005_0 k38_9010_0 t38_0 t38_1 t38_2 t38_3 t38_4 t38_5 t38_6 t38_7 t38_8 t38_9 t38_10 t38_11 hm38
          clear k33_120_3 k33_120_36 k33_120_4 k33_120_43 k33_120_44 k33_120_46 k33_120_47 k33_120_5 k33_120_50 k33_120_6 k33_120_7 k33_120_8 k33_136_1 k33_9001_0 k33_9002_0 k33_9004_0 k33_9005_0 k33_9010_0 es33_120_43 es33_9002_0 es33_9005_0
          replace t38_0 := hd_i t38_0
          replace t38_2 := hd_i t38_2
          replace t38_4 := hd_i t38_4
          replace t38_10 := hd_i t38_10
          replace t38_11 := hd_i t38_11
          refine Tr.iload_n (pc := 38) (i := 2) d_X12_reads_38 rfl rfl ?_
          refine Tr.if_eq (pc := 39) (tgt := 85) d_X12_reads_39 rfl (fun c39 => ?_) (fun c39 => ?_)
          · have kr_120_3 : rd M 120 3 = u38_120_3 := k38_120_3
            have kr_120_4 : rd M 120 4 = u38_120_4 := k38_120_4
            have kr_120_5 : rd M 120 5 = u38_120_5 := k38_120_5
            have kr_120_7 : rd M 120 7 = u38_120_7 := k38_120_7
            have kr_120_8 : rd M 120 8 = u38_120_8 := k38_120_8
            have kr_120_36 : rd M 120 36 = u38_120_36 := k38_120_36
            have kr_120_44 : rd M 120 44 = u38_120_44 := k38_120_44
            have kr_120_50 : rd M 120 50 = g120_50 := k38_120_50
            have kr_9010_0 : tav M = u38_9010_0 := k38_9010_0
            exact Tr.vret (pc := 85) d_X12_reads_85 rfl ⟨hS, rfl, (by first | exact (hd_o t38_0) | exact (hd_o t38_0).elim (fun h1 => by omega) (fun h1 => by omega)), (by omega), (by first | exact (hd_o t38_2) | exact (hd_o t38_2).elim (fun h1 => by omega) (fun h1 => h1.elim (fun h1 => by omega) (fun h1 => by omega))), (by and_intros <;> omega), (by first | exact (hd_o t38_4) | exact (hd_o t38_4).elim (fun h1 => by omega) (fun h1 => by omega)), (by omega), (by omega)⟩
          · have c39b : 1 ≤ p38_2 ∧ p38_2 ≤ 1 := by omega
            replace c39 := hd_i c39
            refine Tr.aload_n (pc := 42) (i := 0) d_X12_reads_42 rfl rfl ?_
            refine Tr.getz (pc := 43) d_X12_reads_43 f_12_155 (by decide) (ty_120 hS.1.1) ?_
            refine Tr.tp u38_120_47 k38_120_47 ?_
            have J65 : ∀ (M : Mem) (p65_2 u65_120_3 u65_120_4 u65_120_5 u65_120_6 u65_120_7 u65_120_8 u65_120_36 u65_120_43 u65_120_44 u65_120_46 u65_120_47 u65_9001_0 u65_9002_0 u65_9004_0 u65_9005_0 u65_9010_0 : Int), St Pm1 ws_X12_reads_120 as_X12_reads_120 M0 M → (0 ≤ p65_2 ∧ p65_2 ≤ 1) → (0 ≤ u65_120_3 ∧ u65_120_3 ≤ 3) → (0 ≤ u65_120_4 ∧ u65_120_4 ≤ 900) → (0 ≤ u65_120_5 ∧ u65_120_5 ≤ 900) → ((-2147483648) ≤ u65_120_6 ∧ u65_120_6 ≤ 2147483647) → ((-9223372036854775808) ≤ u65_120_7 ∧ u65_120_7 ≤ 9223372036854775807) → (0 ≤ u65_120_8 ∧ u65_120_8 ≤ 5) → (0 ≤ u65_120_36 ∧ u65_120_36 ≤ 900) → (0 ≤ u65_120_43 ∧ u65_120_43 ≤ 20) → (0 ≤ u65_120_44 ∧ u65_120_44 ≤ 8) → (0 ≤ u65_120_46 ∧ u65_120_46 ≤ 500) → (0 ≤ u65_120_47 ∧ u65_120_47 ≤ 1) → (0 ≤ u65_9001_0 ∧ u65_9001_0 ≤ 1000000) → (0 ≤ u65_9002_0 ∧ u65_9002_0 ≤ 20) → ((-1000) ≤ u65_9004_0 ∧ u65_9004_0 ≤ 1000) → (0 ≤ u65_9005_0 ∧ u65_9005_0 ≤ 5) → ((-1) ≤ u65_9010_0 ∧ u65_9010_0 ≤ 1800) → rd M 120 3 = u65_120_3 → rd M 120 36 = u65_120_36 → rd M 120 4 = u65_120_4 → rd M 120 43 = u65_120_43 → rd M 120 44 = u65_120_44 → rd M 120 46 = u65_120_46 → rd M 120 47 = u65_120_47 → rd M 120 5 = u65_120_5 → rd M 120 50 = g120_50 → rd M 120 6 = u65_120_6 → rd M 120 7 = u65_120_7 → rd M 120 8 = u65_120_8 → rd M 136 1 = g136_1 → nb2v M = u65_9001_0 → n4v M = u65_9002_0 → Dv1 M = u65_9004_0 → fr0 M = u65_9005_0 → tav M = u65_9010_0 → (u65_120_3 = 0 ∨ u65_120_4 + 1 ≤ u65_120_5) → (u65_120_4 ≤ u65_120_5) → (u65_120_3 ≠ 1 ∨ u65_120_4 + 2 ≤ u65_120_5 ∨ u65_120_7 < 256) → (g120_4 ≤ u65_120_4 ∧ g120_5 ≤ u65_120_5 ∧ g9010_0 ≤ u65_9010_0) → (g120_8 = 0 ∨ u65_120_8 = g120_8) → (u65_120_36 + u65_120_46 + u65_120_44 ≤ u65_120_4) → (1 ≤ u65_120_43) → (g120_50 + u65_120_43 ≤ u65_120_44 + 1) → (u65_9005_0 ≤ 1) → (1 ≤ g136_1) → (1 ≤ u65_120_8 ∨ 2 * u65_120_46 + u65_120_47 ≤ u65_120_4) → (u38_9010_0 ≤ u65_9010_0) → (p65_2 = 0 ∨ 1 ≤ u65_120_8 ∨ (u65_9001_0 + u65_9002_0 + u65_120_47 ≤ u65_9004_0 ∧ u38_9010_0 < u65_9010_0)) → Tr l K 4 mX12_reads 65 [(0, (2, 120)), (2, (0, p65_2))] [] M (q_X12_reads_120 a1 M0) := by
              intro M p65_2 u65_120_3 u65_120_4 u65_120_5 u65_120_6 u65_120_7 u65_120_8 u65_120_36 u65_120_43 u65_120_44 u65_120_46 u65_120_47 u65_9001_0 u65_9002_0 u65_9004_0 u65_9005_0 u65_9010_0 hS bp65_2 bu65_120_3 bu65_120_4 bu65_120_5 bu65_120_6 bu65_120_7 bu65_120_8 bu65_120_36 bu65_120_43 bu65_120_44 bu65_120_46 bu65_120_47 bu65_9001_0 bu65_9002_0 bu65_9004_0 bu65_9005_0 bu65_9010_0 k65_120_3 k65_120_36 k65_120_4 k65_120_43 k65_120_44 k65_120_46 k65_120_47 k65_120_5 k65_120_50 k65_120_6 k65_120_7 k65_120_8 k65_136_1 k65_9001_0 k65_9002_0 k65_9004_0 k65_9005_0 k65_9010_0 t65_0 t65_1 t65_2 t65_3 t65_4 t65_5 t65_6 t65_7 t65_8 t65_9 t65_10 t65_11 t65_12
              clear k38_120_3 k38_120_36 k38_120_4 k38_120_43 k38_120_44 k38_120_46 k38_120_47 k38_120_5 k38_120_50 k38_120_6 k38_120_7 k38_120_8 k38_136_1 k38_9001_0 k38_9002_0 k38_9004_0 k38_9005_0 k38_9010_0
              replace t65_0 := hd_i t65_0
              replace t65_2 := hd_i t65_2
              replace t65_4 := hd_i t65_4
              replace t65_10 := hd_i t65_10
              replace t65_12 := hd_i t65_12
              refine Tr.iload_n (pc := 65) (i := 2) d_X12_reads_65 rfl rfl ?_
              have J81 : ∀ (M : Mem) (q81_0 : Int), St Pm1 ws_X12_reads_120 as_X12_reads_120 M0 M → (0 ≤ q81_0 ∧ q81_0 ≤ 1) → rd M 120 3 = u65_120_3 → rd M 120 36 = u65_120_36 → rd M 120 4 = u65_120_4 → rd M 120 43 = u65_120_43 → rd M 120 44 = u65_120_44 → rd M 120 46 = u65_120_46 → rd M 120 47 = u65_120_47 → rd M 120 5 = u65_120_5 → rd M 120 50 = g120_50 → rd M 120 6 = u65_120_6 → rd M 120 7 = u65_120_7 → rd M 120 8 = u65_120_8 → rd M 136 1 = g136_1 → nb2v M = u65_9001_0 → n4v M = u65_9002_0 → Dv1 M = u65_9004_0 → fr0 M = u65_9005_0 → tav M = u65_9010_0 → (u65_120_3 = 0 ∨ u65_120_4 + 1 ≤ u65_120_5) → (u65_120_4 ≤ u65_120_5) → (u65_120_3 ≠ 1 ∨ u65_120_4 + 2 ≤ u65_120_5 ∨ u65_120_7 < 256) → (g120_4 ≤ u65_120_4 ∧ g120_5 ≤ u65_120_5 ∧ g9010_0 ≤ u65_9010_0) → (g120_8 = 0 ∨ u65_120_8 = g120_8) → (u65_120_36 + u65_120_46 + u65_120_44 ≤ u65_120_4) → (1 ≤ u65_120_43) → (g120_50 + u65_120_43 ≤ u65_120_44 + 1) → (u65_9005_0 ≤ 1) → (1 ≤ g136_1) → (1 ≤ u65_120_8 ∨ 2 * u65_120_46 + u65_120_47 ≤ u65_120_4) → (u38_9010_0 ≤ u65_9010_0) → (q81_0 = 0 ∨ (u65_120_8 = 0 ∧ u65_9001_0 + u65_9002_0 + u65_120_47 ≤ u65_9004_0 ∧ u38_9010_0 < u65_9010_0)) → Tr l K 4 mX12_reads 81 [(0, (2, 120))] [(0, q81_0)] M (q_X12_reads_120 a1 M0) := by
                intro M q81_0 hS bq81_0 k81_120_3 k81_120_36 k81_120_4 k81_120_43 k81_120_44 k81_120_46 k81_120_47 k81_120_5 k81_120_50 k81_120_6 k81_120_7 k81_120_8 k81_136_1 k81_9001_0 k81_9002_0 k81_9004_0 k81_9005_0 k81_9010_0 t81_0 t81_1 t81_2 t81_3 t81_4 t81_5 t81_6 t81_7 t81_8 t81_9 t81_10 t81_11 t81_12
                clear k65_120_3 k65_120_36 k65_120_4 k65_120_43 k65_120_44 k65_120_46 k65_120_47 k65_120_5 k65_120_50 k65_120_6 k65_120_7 k65_120_8 k65_136_1 k65_9001_0 k65_9002_0 k65_9004_0 k65_9005_0 k65_9010_0
                replace t81_0 := hd_i t81_0
                replace t81_2 := hd_i t81_2
                replace t81_4 := hd_i t81_4
                replace t81_10 := hd_i t81_10
                replace t81_12 := hd_i t81_12
                refine Tr.istore_n (pc := 81) (i := 2) (ls2 := [(2, (0, q81_0)), (0, (2, 120))]) d_X12_reads_81 rfl (by decide) rfl ?_
                refine Tr.goto (pc := 82) (tgt := 38) d_X12_reads_82 rfl ?_
                refine Tr.pick [1, 0] (ls2 := [(0, (2, 120)), (2, (0, q81_0))]) rfl ?_
                exact J38 _ _ _ _ _ _ _ _ _ _ _ _ _ _ _ _ _ _ hS (by and_intros <;> omega) (by and_intros <;> omega) (by and_intros <;> omega) (by and_intros <;> omega) (by and_intros <;> omega) (by omega) (by and_intros <;> omega) (by and_intros <;> omega) (by and_intros <;> omega) (by and_intros <;> omega) (by and_intros <;> omega) (by and_intros <;> omega) (by and_intros <;> omega) (by and_intros <;> omega) (by and_intros <;> omega) (by and_intros <;> omega) (by and_intros <;> omega) k81_120_3 k81_120_36 k81_120_4 k81_120_43 k81_120_44 k81_120_46 k81_120_47 k81_120_5 k81_120_50 k81_120_6 k81_120_7 k81_120_8 k81_136_1 k81_9001_0 k81_9002_0 k81_9004_0 k81_9005_0 k81_9010_0 (by first | exact (hd_o t81_0) | exact (hd_o t81_0).elim (fun h1 => by omega) (fun h1 => by omega)) (by omega) (by first | exact (hd_o t81_2) | exact (hd_o t81_2).elim (fun h1 => by omega) (fun h1 => h1.elim (fun h1 => by omega) (fun h1 => by omega))) (by and_intros <;> omega) (by first | exact (hd_o t81_4) | exact (hd_o t81_4).elim (fun h1 => by omega) (fun h1 => by omega)) (by omega) (by omega) (by omega) (by omega) (by omega) (by first | exact (hd_o t81_10) | exact (hd_o t81_10).elim (fun h1 => by omega) (fun h1 => by omega)) (by exact (hd_o t81_12).elim (fun h1 => by omega) (fun h1 => by omega)) (me_lt hm38 (by exact (hd_o t81_12).elim (fun h1 => by omega) (fun h1 => by omega)) (by omega))
              have J80 : ∀ (M : Mem), St Pm1 ws_X12_reads_120 as_X12_reads_120 M0 M → rd M 120 3 = u65_120_3 → rd M 120 36 = u65_120_36 → rd M 120 4 = u65_120_4 → rd M 120 43 = u65_120_43 → rd M 120 44 = u65_120_44 → rd M 120 46 = u65_120_46 → rd M 120 47 = u65_120_47 → rd M 120 5 = u65_120_5 → rd M 120 50 = g120_50 → rd M 120 6 = u65_120_6 → rd M 120 7 = u65_120_7 → rd M 120 8 = u65_120_8 → rd M 136 1 = g136_1 → nb2v M = u65_9001_0 → n4v M = u65_9002_0 → Dv1 M = u65_9004_0 → fr0 M = u65_9005_0 → tav M = u65_9010_0 → Tr l K 4 mX12_reads 80 [(0, (2, 120))] [] M (q_X12_reads_120 a1 M0) := by
                intro M  hS  k80_120_3 k80_120_36 k80_120_4 k80_120_43 k80_120_44 k80_120_46 k80_120_47 k80_120_5 k80_120_50 k80_120_6 k80_120_7 k80_120_8 k80_136_1 k80_9001_0 k80_9002_0 k80_9004_0 k80_9005_0 k80_9010_0
                clear k65_120_3 k65_120_36 k65_120_4 k65_120_43 k65_120_44 k65_120_46 k65_120_47 k65_120_5 k65_120_50 k65_120_6 k65_120_7 k65_120_8 k65_136_1 k65_9001_0 k65_9002_0 k65_9004_0 k65_9005_0 k65_9010_0
                refine Tr.iconst (pc := 80) d_X12_reads_80 (by decide) ?_
                refine Tr.pick [0] (ls2 := [(0, (2, 120))]) rfl ?_
                exact J81 _ _ hS (by omega) k80_120_3 k80_120_36 k80_120_4 k80_120_43 k80_120_44 k80_120_46 k80_120_47 k80_120_5 k80_120_50 k80_120_6 k80_120_7 k80_120_8 k80_136_1 k80_9001_0 k80_9002_0 k80_9004_0 k80_9005_0 k80_9010_0 (by first | exact (hd_o t65_0) | exact (hd_o t65_0).elim (fun h1 => by omega) (fun h1 => by omega)) (by omega) (by first | exact (hd_o t65_2) | exact (hd_o t65_2).elim (fun h1 => by omega) (fun h1 => h1.elim (fun h1 => by omega) (fun h1 => by omega))) (by and_intros <;> omega) (by first | exact (hd_o t65_4) | exact (hd_o t65_4).elim (fun h1 => by omega) (fun h1 => by omega)) (by omega) (by omega) (by omega) (by omega) (by omega) (by first | exact (hd_o t65_10) | exact (hd_o t65_10).elim (fun h1 => by omega) (fun h1 => by omega)) (by omega) (by omega)
              refine Tr.if_eq (pc := 66) (tgt := 80) d_X12_reads_66 rfl (fun c66 => ?_) (fun c66 => ?_)
              · refine Tr.pick [0] (ls2 := [(0, (2, 120))]) rfl ?_
                exact J80 _ hS k65_120_3 k65_120_36 k65_120_4 k65_120_43 k65_120_44 k65_120_46 k65_120_47 k65_120_5 k65_120_50 k65_120_6 k65_120_7 k65_120_8 k65_136_1 k65_9001_0 k65_9002_0 k65_9004_0 k65_9005_0 k65_9010_0
              · have c66b : 1 ≤ p65_2 ∧ p65_2 ≤ 1 := by omega
                replace c66 := hd_i c66
                refine Tr.aload_n (pc := 69) (i := 0) d_X12_reads_69 rfl rfl ?_
                refine Tr.getf (pc := 70) d_X12_reads_70 f_12_36 (by decide) (by decide) (ty_120 hS.1.1) ?_
                refine Tr.tp u65_120_8 k65_120_8 ?_
                refine Tr.if_ne (pc := 73) (tgt := 80) d_X12_reads_73 rfl (fun c73 => ?_) (fun c73 => ?_)
                · have c73b : 1 ≤ u65_120_8 ∧ u65_120_8 ≤ 5 := by omega
                  replace c73 := hd_i c73
                  refine Tr.pick [0] (ls2 := [(0, (2, 120))]) rfl ?_
                  exact J80 _ hS k65_120_3 k65_120_36 k65_120_4 k65_120_43 k65_120_44 k65_120_46 k65_120_47 k65_120_5 k65_120_50 k65_120_6 k65_120_7 k65_120_8 k65_136_1 k65_9001_0 k65_9002_0 k65_9004_0 k65_9005_0 k65_9010_0
                · refine Tr.iconst (pc := 76) d_X12_reads_76 (by decide) ?_
                  refine Tr.goto (pc := 77) (tgt := 81) d_X12_reads_77 rfl ?_
                  refine Tr.pick [0] (ls2 := [(0, (2, 120))]) rfl ?_
                  exact J81 _ _ hS (by omega) k65_120_3 k65_120_36 k65_120_4 k65_120_43 k65_120_44 k65_120_46 k65_120_47 k65_120_5 k65_120_50 k65_120_6 k65_120_7 k65_120_8 k65_136_1 k65_9001_0 k65_9002_0 k65_9004_0 k65_9005_0 k65_9010_0 (by first | exact (hd_o t65_0) | exact (hd_o t65_0).elim (fun h1 => by omega) (fun h1 => by omega)) (by omega) (by first | exact (hd_o t65_2) | exact (hd_o t65_2).elim (fun h1 => by omega) (fun h1 => h1.elim (fun h1 => by omega) (fun h1 => by omega))) (by and_intros <;> omega) (by first | exact (hd_o t65_4) | exact (hd_o t65_4).elim (fun h1 => by omega) (fun h1 => by omega)) (by omega) (by omega) (by omega) (by omega) (by omega) (by first | exact (hd_o t65_10) | exact (hd_o t65_10).elim (fun h1 => by omega) (fun h1 => by omega)) (by omega) (by exact (hd_o t65_12).elim (fun h1 => by omega) (fun h1 => h1.elim (fun h1 => by omega) (fun h1 => by omega)))
            refine Tr.if_ne (pc := 46) (tgt := 60) d_X12_reads_46 rfl (fun c46 => ?_) (fun c46 => ?_)
            · have c46b : 1 ≤ u38_120_47 ∧ u38_120_47 ≤ 1 := by omega
              replace c46 := hd_i c46
              refine Tr.aload_n (pc := 60) (i := 0) d_X12_reads_60 rfl rfl ?_
              refine Tr.callV (pc := 61) (as := []) d_X12_reads_61 s_12_502 ok_X12_goesOn rfl rfl (Nat.le_of_ble_eq_true rfl) (Nat.le_of_ble_eq_true rfl) (by decide) (ty_120 hS.1.1) ?_
              refine Tr.imp (Tr.deep (by decide) (ns_X12_goesOn_120 (G120_3 := u38_120_3) (G120_4 := u38_120_4) (G120_5 := u38_120_5) (G120_7 := u38_120_7) (G120_8 := u38_120_8) (G120_36 := u38_120_36) (G120_43 := u38_120_43) (G120_44 := u38_120_44) (G120_46 := u38_120_46) (G120_47 := u38_120_47) (G120_50 := g120_50) (G136_1 := g136_1) (G9001_0 := u38_9001_0) (G9002_0 := u38_9002_0) (G9004_0 := u38_9004_0) (G9005_0 := u38_9005_0) (G9010_0 := u38_9010_0) hS.1 (k38_120_3) (k38_120_4) (k38_120_5) (k38_120_7) (k38_120_8) (k38_120_36) (k38_120_43) (k38_120_44) (k38_120_46) (k38_120_47) (k38_120_50) (k38_136_1) (k38_9001_0) (k38_9002_0) (k38_9004_0) (k38_9005_0) (k38_9010_0) ((kp_X12_reads_120_120_37 hS).trans en_120_37) (by first | exact (hd_o t38_0) | exact (hd_o t38_0).elim (fun h1 => by omega) (fun h1 => by omega)) (by omega) (by first | exact (hd_o t38_2) | exact (hd_o t38_2).elim (fun h1 => by omega) (fun h1 => h1.elim (fun h1 => by omega) (fun h1 => by omega))) (by exact (hd_o t38_11).elim (fun h1 => by omega) (fun h1 => by omega)) (by exact (hd_o t38_10).elim (fun h1 => (hd_o t38_11).elim (fun h2 => by omega) (fun h2 => by omega)) (fun h1 => by omega)) (by exact (hd_o t38_11).elim (fun h1 => by omega) (fun h1 => by omega)) (by omega) (by omega) (by omega) (by omega) (by omega) (by omega))) ?_
              rintro M61 _ ⟨h61, s61_120_3, s61_120_4, s61_120_5, s61_120_7, s61_120_8, s61_120_36, s61_120_43, s61_120_44, s61_120_46, s61_120_47, s61_9001_0, s61_9002_0, s61_9004_0, s61_9005_0, s61_9010_0, es61_120_3, bs61_120_3, es61_120_4, bs61_120_4, es61_120_5, bs61_120_5, es61_120_7, bs61_120_7, es61_120_8, bs61_120_8, es61_120_36, bs61_120_36, es61_120_43, bs61_120_43, es61_120_44, bs61_120_44, es61_120_46, bs61_120_46, es61_120_47, bs61_120_47, es61_9001_0, bs61_9001_0, es61_9002_0, bs61_9002_0, es61_9004_0, bs61_9004_0, es61_9005_0, bs61_9005_0, es61_9010_0, bs61_9010_0, r61, rfl, lr61, ur61, z61_0, z61_1, z61_2, z61_3, z61_4, z61_5, z61_6, z61_7, z61_8, z61_9, z61_10, z61_11, z61_12⟩
              have hS := St.tr hS h61 (by decide) (by decide)
              refine Tr.sc [(0, r61)] rfl ?_
              refine Tr.istore_n (pc := 64) (i := 2) (ls2 := [(2, (0, r61)), (0, (2, 120))]) d_X12_reads_64 rfl (by decide) rfl ?_
              refine Tr.pick [1, 0] (ls2 := [(0, (2, 120)), (2, (0, r61))]) rfl ?_
              obtain ⟨w65p64_120_6, ew65p64_120_6⟩ : ∃ v, rd M61 120 6 = v := ⟨_, rfl⟩
              have bw65p64_120_6 : (-2147483648) ≤ w65p64_120_6 ∧ w65p64_120_6 ≤ 2147483647 := by rw [← ew65p64_120_6]; exact ir_120_6 hS.1.2.1
              exact J65 _ _ _ _ _ _ _ _ _ _ _ _ _ _ _ _ _ _ hS (by and_intros <;> omega) (by and_intros <;> omega) (by and_intros <;> omega) (by and_intros <;> omega) (by and_intros <;> omega) (by omega) (by and_intros <;> omega) (by and_intros <;> omega) (by and_intros <;> omega) (by and_intros <;> omega) (by and_intros <;> omega) (by and_intros <;> omega) (by and_intros <;> omega) (by and_intros <;> omega) (by and_intros <;> omega) (by and_intros <;> omega) (by and_intros <;> omega) es61_120_3 es61_120_36 es61_120_4 es61_120_43 es61_120_44 es61_120_46 es61_120_47 es61_120_5 ((kp_X12_goesOn_120_120_50 h61).trans k38_120_50) ew65p64_120_6 es61_120_7 es61_120_8 ((kp_X12_goesOn_120_136_1 h61).trans k38_136_1) es61_9001_0 es61_9002_0 es61_9004_0 es61_9005_0 es61_9010_0 (by first | exact (hd_o z61_0) | exact (hd_o z61_0).elim (fun h1 => by omega) (fun h1 => by omega)) (by omega) (by first | exact (hd_o z61_2) | exact (hd_o z61_2).elim (fun h1 => by omega) (fun h1 => h1.elim (fun h1 => by omega) (fun h1 => by omega))) (by and_intros <;> omega) (by omega) (by omega) (by omega) (by omega) (by omega) (by omega) (by first | exact (hd_o z61_11) | exact (hd_o z61_11).elim (fun h1 => by omega) (fun h1 => by omega)) (by omega) (by exact (hd_o z61_12).elim (fun h1 => by omega) (fun h1 => h1.elim (fun h1 => by omega) (fun h1 => (hd_o z61_10).elim (fun h2 => by omega) (fun h2 => h2.elim (fun h2 => by omega) (fun h2 => by omega)))))
            · refine Tr.aload_n (pc := 49) (i := 0) d_X12_reads_49 rfl rfl ?_
              refine Tr.aload_n (pc := 50) (i := 0) d_X12_reads_50 rfl rfl ?_
              refine Tr.callV (pc := 51) (as := []) d_X12_reads_51 s_12_499 ok_X12_operand rfl rfl (Nat.le_of_ble_eq_true rfl) (Nat.le_of_ble_eq_true rfl) (by decide) (ty_120 hS.1.1) ?_
              refine Tr.imp (Tr.deep (by decide) (ns_X12_operand_120 (G120_3 := u38_120_3) (G120_4 := u38_120_4) (G120_5 := u38_120_5) (G120_7 := u38_120_7) (G120_8 := u38_120_8) (G120_36 := u38_120_36) (G120_43 := u38_120_43) (G120_44 := u38_120_44) (G120_46 := u38_120_46) (G120_50 := g120_50) (G136_1 := g136_1) (G9001_0 := u38_9001_0) (G9002_0 := u38_9002_0) (G9004_0 := u38_9004_0) (G9005_0 := u38_9005_0) (G9010_0 := u38_9010_0) hS.1 (k38_120_3) (k38_120_4) (k38_120_5) (k38_120_7) (k38_120_8) (k38_120_36) (k38_120_43) (k38_120_44) (k38_120_46) (k38_120_50) (k38_136_1) (k38_9001_0) (k38_9002_0) (k38_9004_0) (k38_9005_0) (k38_9010_0) ((kp_X12_reads_120_120_37 hS).trans en_120_37) (by first | exact (hd_o t38_0) | exact (hd_o t38_0).elim (fun h1 => by omega) (fun h1 => by omega)) (by omega) (by first | exact (hd_o t38_2) | exact (hd_o t38_2).elim (fun h1 => by omega) (fun h1 => h1.elim (fun h1 => by omega) (fun h1 => by omega))) (by exact (hd_o t38_11).elim (fun h1 => by omega) (fun h1 => by omega)) (by exact (hd_o t38_10).elim (fun h1 => (hd_o t38_11).elim (fun h2 => by omega) (fun h2 => by omega)) (fun h1 => by omega)) (by exact (hd_o t38_11).elim (fun h1 => by omega) (fun h1 => by omega)) (by omega) (by omega) (by omega) (by omega) (by omega))) ?_
              rintro M51 _ ⟨h51, s51_120_3, s51_120_4, s51_120_5, s51_120_7, s51_120_8, s51_120_36, s51_120_43, s51_120_44, s51_120_46, s51_9001_0, s51_9002_0, s51_9004_0, s51_9005_0, s51_9010_0, es51_120_3, bs51_120_3, es51_120_4, bs51_120_4, es51_120_5, bs51_120_5, es51_120_7, bs51_120_7, es51_120_8, bs51_120_8, es51_120_36, bs51_120_36, es51_120_43, bs51_120_43, es51_120_44, bs51_120_44, es51_120_46, bs51_120_46, es51_9001_0, bs51_9001_0, es51_9002_0, bs51_9002_0, es51_9004_0, bs51_9004_0, es51_9005_0, bs51_9005_0, es51_9010_0, bs51_9010_0, r51, rfl, lr51, ur51, z51_0, z51_1, z51_2, z51_3, z51_4, z51_5, z51_6, z51_7, z51_8, z51_9, z51_10, z51_11, z51_12⟩
              have hS := St.tr hS h51 (by decide) (by decide)
              refine Tr.sc [(0, r51), (2, 120)] rfl ?_
              refine Tr.putzS (pc := 54) (P := St Pm1 ws_X12_reads_120 as_X12_reads_120 M0) d_X12_reads_54 f_12_155 (by decide) (ty_120 hS.1.1) (by omega) (st_120_47 hS (by decide) (by and_intros <;> omega) (Pm1.of hS.1.2.2.2.2 (fun _ => rd_wb _ rfl) (fun _ => rd_wb _ rfl) (fun _ => rd_wb _ rfl) (fun _ => rd_wb _ rfl) (fun _ => rd_wb _ rfl) (fun _ => rd_wb _ rfl) (fun _ => rd_wb _ rfl) (fun _ => rd_wb _ rfl) (fun _ => rd_wb _ rfl) (fun _ => rd_wb _ rfl) (rd_wb _ rfl) (rd_wb _ rfl) (rd_wb _ rfl) (rd_wb _ rfl) (rd_wb _ rfl) (rd_wb _ rfl) (rd_wb _ rfl) (rd_wb _ rfl) (rd_wb _ rfl) (rd_wb _ rfl) (rd_wb _ rfl))) (fun M54 hS w54 => ?_)
              refine Tr.goto (pc := 57) (tgt := 65) d_X12_reads_57 rfl ?_
              refine Tr.pick [0, 1] (ls2 := [(0, (2, 120)), (2, (0, p38_2))]) rfl ?_
              obtain ⟨w65p57_120_6, ew65p57_120_6⟩ : ∃ v, rd M54 120 6 = v := ⟨_, rfl⟩
              have bw65p57_120_6 : (-2147483648) ≤ w65p57_120_6 ∧ w65p57_120_6 ≤ 2147483647 := by rw [← ew65p57_120_6]; exact ir_120_6 hS.1.2.1
              exact J65 _ _ _ _ _ _ _ _ _ _ _ _ _ _ _ _ _ _ hS (by and_intros <;> omega) (by and_intros <;> omega) (by and_intros <;> omega) (by and_intros <;> omega) (by and_intros <;> omega) (by omega) (by and_intros <;> omega) (by and_intros <;> omega) (by and_intros <;> omega) (by and_intros <;> omega) (by and_intros <;> omega) (by and_intros <;> omega) (by and_intros <;> omega) (by and_intros <;> omega) (by and_intros <;> omega) (by and_intros <;> omega) (by and_intros <;> omega) ((Wr.b w54 rfl).trans es51_120_3) ((Wr.b w54 rfl).trans es51_120_36) ((Wr.b w54 rfl).trans es51_120_4) ((Wr.b w54 rfl).trans es51_120_43) ((Wr.b w54 rfl).trans es51_120_44) ((Wr.b w54 rfl).trans es51_120_46) w54.1 ((Wr.b w54 rfl).trans es51_120_5) ((Wr.b w54 rfl).trans ((kp_X12_operand_120_120_50 h51).trans k38_120_50)) ew65p57_120_6 ((Wr.b w54 rfl).trans es51_120_7) ((Wr.b w54 rfl).trans es51_120_8) ((Wr.b w54 rfl).trans ((kp_X12_operand_120_136_1 h51).trans k38_136_1)) ((nb2v_of (fun j => ((Wr.b w54 rfl).trans rfl)) ((Wr.b w54 rfl).trans rfl)).trans es51_9001_0) ((n4v_of (fun j => ((Wr.b w54 rfl).trans rfl)) ((Wr.b w54 rfl).trans rfl)).trans es51_9002_0) ((Dv1_of (fun j => ((Wr.b w54 rfl).trans rfl)) (fun j => ((Wr.b w54 rfl).trans rfl)) ((Wr.b w54 rfl).trans rfl) ((Wr.b w54 rfl).trans rfl)).trans es51_9004_0) ((fr0_of (fun j => ((Wr.b w54 rfl).trans rfl))).trans es51_9005_0) ((tav_of ((Wr.b w54 rfl).trans rfl) ((Wr.b w54 rfl).trans rfl)).trans es51_9010_0) (by first | exact (hd_o z51_0) | exact (hd_o z51_0).elim (fun h1 => by omega) (fun h1 => by omega)) (by omega) (by first | exact (hd_o z51_2) | exact (hd_o z51_2).elim (fun h1 => by omega) (fun h1 => h1.elim (fun h1 => by omega) (fun h1 => by omega))) (by and_intros <;> omega) (by omega) (by omega) (by omega) (by omega) (by omega) (by omega) (by first | exact (hd_o z51_11) | exact (hd_o z51_11).elim (fun h1 => by omega) (fun h1 => by omega)) (by omega) (by exact (hd_o z51_12).elim (fun h1 => by omega) (fun h1 => (hd_o z51_5).elim (fun h2 => by omega) (fun h2 => by omega)))
      refine Tr.pick [1, 0] (ls2 := [(0, (2, 120)), (2, (0, 1))]) rfl ?_
      exact J38 _ _ _ _ _ _ _ _ _ _ _ _ _ _ _ _ _ _ _ hS (by omega) (by and_intros <;> omega) (by and_intros <;> omega) (by and_intros <;> omega) (by and_intros <;> omega) (by omega) (by and_intros <;> omega) (by and_intros <;> omega) (by and_intros <;> omega) (by and_intros <;> omega) (by omega) (by omega) (by and_intros <;> omega) (by and_intros <;> omega) (by and_intros <;> omega) (by and_intros <;> omega) (by and_intros <;> omega) ((kp_X12_pushes_120_120_3 h33).trans k33_120_3) ((kp_X12_pushes_120_120_36 h33).trans k33_120_36) ((kp_X12_pushes_120_120_4 h33).trans k33_120_4) es33_120_43 ((kp_X12_pushes_120_120_44 h33).trans k33_120_44) ((kp_X12_pushes_120_120_46 h33).trans k33_120_46) ((kp_X12_pushes_120_120_47 h33).trans k33_120_47) ((kp_X12_pushes_120_120_5 h33).trans k33_120_5) ((kp_X12_pushes_120_120_50 h33).trans k33_120_50) ((kp_X12_pushes_120_120_6 h33).trans k33_120_6) ((kp_X12_pushes_120_120_7 h33).trans k33_120_7) ((kp_X12_pushes_120_120_8 h33).trans k33_120_8) ((kp_X12_pushes_120_136_1 h33).trans k33_136_1) ((nb2v_of (fun j => ((ka_X12_pushes_120_150 h33 _).trans rfl)) ((kp_X12_pushes_120_120_46 h33).trans rfl)).trans k33_9001_0) es33_9002_0 ((Dv1_of (fun j => ((ka_X12_pushes_120_143 h33 _).trans rfl)) (fun j => ((ka_X12_pushes_120_140 h33 _).trans rfl)) ((kp_X12_pushes_120_136_1 h33).trans rfl) ((kp_X12_pushes_120_120_36 h33).trans rfl)).trans k33_9004_0) es33_9005_0 ((tav_of ((kp_X12_pushes_120_120_5 h33).trans rfl) ((kp_X12_pushes_120_120_3 h33).trans rfl)).trans k33_9010_0) (by first | exact (hd_o hq0) | exact (hd_o hq0).elim (fun h1 => by omega) (fun h1 => by omega)) (by omega) (by first | exact (hd_o hq2) | exact (hd_o hq2).elim (fun h1 => by omega) (fun h1 => h1.elim (fun h1 => by omega) (fun h1 => by omega))) (by and_intros <;> omega) (by omega) (by omega) (by omega) (by omega) (by omega) (by omega) (by omega) (by omega) (Nat.lt_succ_self _)
    refine Tr.if_eq (pc := 25) (tgt := 32) d_X12_reads_25 rfl (fun c25 => ?_) (fun c25 => ?_)
    · refine Tr.iconst (pc := 32) d_X12_reads_32 (by decide) ?_
      refine Tr.pick [0] (ls2 := [(0, (2, 120))]) rfl ?_
      exact J33 _ _ hS (by omega) ((Wr.b w20 rfl).trans ((Wr.b w15 rfl).trans ((Wr.b w10 rfl).trans eg120_3))) ((Wr.b w20 rfl).trans ((Wr.b w15 rfl).trans ((Wr.b w10 rfl).trans eg120_36))) ((Wr.b w20 rfl).trans ((Wr.b w15 rfl).trans ((Wr.b w10 rfl).trans eg120_4))) ((Wr.b w20 rfl).trans ((Wr.b w15 rfl).trans w10.1)) ((Wr.b w20 rfl).trans ((Wr.b w15 rfl).trans ((Wr.b w10 rfl).trans eg120_44))) ((Wr.b w20 rfl).trans w15.1) w20.1 ((Wr.b w20 rfl).trans ((Wr.b w15 rfl).trans ((Wr.b w10 rfl).trans eg120_5))) ((Wr.b w20 rfl).trans ((Wr.b w15 rfl).trans ((Wr.b w10 rfl).trans eg120_50))) ((Wr.b w20 rfl).trans ((Wr.b w15 rfl).trans ((Wr.b w10 rfl).trans eg120_6))) ((Wr.b w20 rfl).trans ((Wr.b w15 rfl).trans ((Wr.b w10 rfl).trans eg120_7))) ((Wr.b w20 rfl).trans ((Wr.b w15 rfl).trans ((Wr.b w10 rfl).trans eg120_8))) ((Wr.b w20 rfl).trans ((Wr.b w15 rfl).trans ((Wr.b w10 rfl).trans eg136_1))) ((nb2v_of (fun j => ((Wr.b w20 rfl).trans rfl)) ((Wr.b w20 rfl).trans rfl)).trans ev15_9001) ((n4v_of (fun j => ((Wr.b w20 rfl).trans ((Wr.b w15 rfl).trans rfl))) ((Wr.b w20 rfl).trans ((Wr.b w15 rfl).trans rfl))).trans ev10_9002) ((Dv1_of (fun j => ((Wr.b w20 rfl).trans ((Wr.b w15 rfl).trans ((Wr.b w10 rfl).trans rfl)))) (fun j => ((Wr.b w20 rfl).trans ((Wr.b w15 rfl).trans ((Wr.b w10 rfl).trans rfl)))) ((Wr.b w20 rfl).trans ((Wr.b w15 rfl).trans ((Wr.b w10 rfl).trans rfl))) ((Wr.b w20 rfl).trans ((Wr.b w15 rfl).trans ((Wr.b w10 rfl).trans rfl)))).trans eg9004_0) ((fr0_of (fun j => ((Wr.b w20 rfl).trans ((Wr.b w15 rfl).trans ((Wr.b w10 rfl).trans rfl))))).trans eg9005_0) ((tav_of ((Wr.b w20 rfl).trans ((Wr.b w15 rfl).trans ((Wr.b w10 rfl).trans rfl))) ((Wr.b w20 rfl).trans ((Wr.b w15 rfl).trans ((Wr.b w10 rfl).trans rfl)))).trans eg9010_0)
    · have c25b : 1 ≤ a1 ∧ a1 ≤ 1 := by omega
      replace c25 := hd_i c25
      refine Tr.iconst (pc := 28) d_X12_reads_28 (by decide) ?_
      refine Tr.goto (pc := 29) (tgt := 33) d_X12_reads_29 rfl ?_
      refine Tr.pick [0] (ls2 := [(0, (2, 120))]) rfl ?_
      exact J33 _ _ hS (by omega) ((Wr.b w20 rfl).trans ((Wr.b w15 rfl).trans ((Wr.b w10 rfl).trans eg120_3))) ((Wr.b w20 rfl).trans ((Wr.b w15 rfl).trans ((Wr.b w10 rfl).trans eg120_36))) ((Wr.b w20 rfl).trans ((Wr.b w15 rfl).trans ((Wr.b w10 rfl).trans eg120_4))) ((Wr.b w20 rfl).trans ((Wr.b w15 rfl).trans w10.1)) ((Wr.b w20 rfl).trans ((Wr.b w15 rfl).trans ((Wr.b w10 rfl).trans eg120_44))) ((Wr.b w20 rfl).trans w15.1) w20.1 ((Wr.b w20 rfl).trans ((Wr.b w15 rfl).trans ((Wr.b w10 rfl).trans eg120_5))) ((Wr.b w20 rfl).trans ((Wr.b w15 rfl).trans ((Wr.b w10 rfl).trans eg120_50))) ((Wr.b w20 rfl).trans ((Wr.b w15 rfl).trans ((Wr.b w10 rfl).trans eg120_6))) ((Wr.b w20 rfl).trans ((Wr.b w15 rfl).trans ((Wr.b w10 rfl).trans eg120_7))) ((Wr.b w20 rfl).trans ((Wr.b w15 rfl).trans ((Wr.b w10 rfl).trans eg120_8))) ((Wr.b w20 rfl).trans ((Wr.b w15 rfl).trans ((Wr.b w10 rfl).trans eg136_1))) ((nb2v_of (fun j => ((Wr.b w20 rfl).trans rfl)) ((Wr.b w20 rfl).trans rfl)).trans ev15_9001) ((n4v_of (fun j => ((Wr.b w20 rfl).trans ((Wr.b w15 rfl).trans rfl))) ((Wr.b w20 rfl).trans ((Wr.b w15 rfl).trans rfl))).trans ev10_9002) ((Dv1_of (fun j => ((Wr.b w20 rfl).trans ((Wr.b w15 rfl).trans ((Wr.b w10 rfl).trans rfl)))) (fun j => ((Wr.b w20 rfl).trans ((Wr.b w15 rfl).trans ((Wr.b w10 rfl).trans rfl)))) ((Wr.b w20 rfl).trans ((Wr.b w15 rfl).trans ((Wr.b w10 rfl).trans rfl))) ((Wr.b w20 rfl).trans ((Wr.b w15 rfl).trans ((Wr.b w10 rfl).trans rfl)))).trans eg9004_0) ((fr0_of (fun j => ((Wr.b w20 rfl).trans ((Wr.b w15 rfl).trans ((Wr.b w10 rfl).trans rfl))))).trans eg9005_0) ((tav_of ((Wr.b w20 rfl).trans ((Wr.b w15 rfl).trans ((Wr.b w10 rfl).trans rfl))) ((Wr.b w20 rfl).trans ((Wr.b w15 rfl).trans ((Wr.b w10 rfl).trans rfl)))).trans eg9010_0)
  · have kr_120_3 : rd M0 120 3 = g120_3 := eg120_3
    have kr_120_4 : rd M0 120 4 = g120_4 := eg120_4
    have kr_120_5 : rd M0 120 5 = g120_5 := eg120_5
    have kr_120_7 : rd M0 120 7 = g120_7 := eg120_7
    have kr_120_8 : rd M0 120 8 = g120_8 := eg120_8
    have kr_120_36 : rd M0 120 36 = g120_36 := eg120_36
    have kr_120_44 : rd M0 120 44 = g120_44 := eg120_44
    have kr_120_50 : rd M0 120 50 = g120_50 := eg120_50
    have kr_9010_0 : tav M0 = g9010_0 := eg9010_0
    exact Tr.vret (pc := 7) d_X12_reads_7 rfl ⟨hS, rfl, (by first | exact (hd_o hq0) | exact (hd_o hq0).elim (fun h1 => by omega) (fun h1 => by omega)), (by omega), (by first | exact (hd_o hq2) | exact (hd_o hq2).elim (fun h1 => by omega) (fun h1 => h1.elim (fun h1 => by omega) (fun h1 => by omega))), (by and_intros <;> omega), (by omega), (by omega), (by omega)⟩

set_option maxRecDepth 100000 in
set_option maxHeartbeats 4000000 in
theorem ns_X12_reads_120 {l : Launch} {K : EC} {M0 : Mem} {G120_3 G120_4 G120_5 G120_7 G120_8 G120_36 G120_44 G120_50 G136_1 G9004_0 G9010_0 : Int} (hI : In Pm1 M0) (k120_3 : rd M0 120 3 = G120_3) (k120_4 : rd M0 120 4 = G120_4) (k120_5 : rd M0 120 5 = G120_5) (k120_7 : rd M0 120 7 = G120_7) (k120_8 : rd M0 120 8 = G120_8) (k120_36 : rd M0 120 36 = G120_36) (k120_44 : rd M0 120 44 = G120_44) (k120_50 : rd M0 120 50 = G120_50) (k136_1 : rd M0 136 1 = G136_1) (k9004_0 : Dv1 M0 = G9004_0) (k9010_0 : tav M0 = G9010_0) (en_120_37 : rd M0 120 37 = 1) (a1 : Int) (ha1 : 0 ≤ a1 ∧ a1 ≤ 1)  (hq0 : G120_3 = 0 ∨ G120_4 + 1 ≤ G120_5) (hq1 : G120_4 ≤ G120_5) (hq2 : G120_3 ≠ 1 ∨ G120_4 + 2 ≤ G120_5 ∨ G120_7 < 256) (hq3 : G120_50 ≤ G120_44) (hq4 : G120_36 + G120_44 ≤ G120_4) (hq5 : G9004_0 = 0) (hq6 : 1 ≤ G136_1) : Tr l K 4 mX12_reads 0 [(0, (2, 120)), (1, (0, a1))] [] M0 (fun M' r => St Pm1 ws_X12_reads_120 as_X12_reads_120 M0 M' ∧ ∃ S120_3 S120_4 S120_5 S120_7 S120_8 S120_36 S120_44 S9010_0 : Int, rd M' 120 3 = S120_3 ∧ (0 ≤ S120_3 ∧ S120_3 ≤ 3) ∧ rd M' 120 4 = S120_4 ∧ (0 ≤ S120_4 ∧ S120_4 ≤ 900) ∧ rd M' 120 5 = S120_5 ∧ (0 ≤ S120_5 ∧ S120_5 ≤ 900) ∧ rd M' 120 7 = S120_7 ∧ ((-9223372036854775808) ≤ S120_7 ∧ S120_7 ≤ 9223372036854775807) ∧ rd M' 120 8 = S120_8 ∧ (0 ≤ S120_8 ∧ S120_8 ≤ 5) ∧ rd M' 120 36 = S120_36 ∧ (0 ≤ S120_36 ∧ S120_36 ≤ 900) ∧ rd M' 120 44 = S120_44 ∧ (0 ≤ S120_44 ∧ S120_44 ≤ 8) ∧ tav M' = S9010_0 ∧ ((-1) ≤ S9010_0 ∧ S9010_0 ≤ 1800) ∧ r = none ∧ Hd (S120_3 = 0 ∨ S120_4 + 1 ≤ S120_5) ∧ (S120_4 ≤ S120_5) ∧ Hd (S120_3 ≠ 1 ∨ S120_4 + 2 ≤ S120_5 ∨ S120_7 < 256) ∧ (G120_4 ≤ S120_4 ∧ G120_5 ≤ S120_5 ∧ G9010_0 ≤ S9010_0) ∧ Hd (G120_8 = 0 ∨ S120_8 = G120_8) ∧ (G120_50 ≤ S120_44) ∧ (S120_36 + S120_44 ≤ S120_4)) := by
  subst k120_3
  subst k120_4
  subst k120_5
  subst k120_7
  subst k120_8
  subst k120_36
  subst k120_44
  subst k120_50
  subst k136_1
  subst k9004_0
  subst k9010_0
  refine Tr.imp (sp_X12_reads_120 hI en_120_37 a1 ha1 hq0 hq1 hq2 hq3 hq4 hq5 hq6) ?_
  rintro M' _ ⟨hS, rfl, z0, z1, z2, z3, z4, z5, z6⟩
  rewrite [show rd M' 120 50 = rd M0 120 50 from ((St.kp hS (by decide) (by decide) (by decide)).trans rfl)] at z5
  exact ⟨hS, _, _, _, _, _, _, _, _, rfl, ir_120_3 hS.1.2.1, rfl, ir_120_4 hS.1.2.1, rfl, ir_120_5 hS.1.2.1, rfl, ir_120_7 hS.1.2.1, rfl, ir_120_8 hS.1.2.1, rfl, ir_120_36 hS.1.2.1, rfl, ir_120_44 hS.1.2.1, rfl, (tav_b hS.1.2.1), rfl, hd_i z0, z1, hd_i z2, z3, hd_i z4, z5, z6⟩

def ws_X12_opensBlock_120 : List (Int × Int) := [(120, 3), (120, 4), (120, 5), (120, 6), (120, 7), (120, 8), (120, 9), (120, 44), (120, 50)]
def as_X12_opensBlock_120 : List Int := [151, 152]
def q_X12_opensBlock_120 (a1 : Int) (a2 : Int) (M0 M' : Mem) (r : Option PV) : Prop := St Pm1 ws_X12_opensBlock_120 as_X12_opensBlock_120 M0 M' ∧ r = none ∧ (rd M' 120 3 = 0 ∨ rd M' 120 4 + 1 ≤ rd M' 120 5) ∧ (rd M' 120 4 ≤ rd M' 120 5) ∧ (rd M' 120 3 ≠ 1 ∨ rd M' 120 4 + 2 ≤ rd M' 120 5 ∨ rd M' 120 7 < 256) ∧ (rd M0 120 4 ≤ rd M' 120 4 ∧ rd M0 120 5 ≤ rd M' 120 5 ∧ tav M0 ≤ tav M') ∧ (rd M0 120 8 = 0 ∨ rd M' 120 8 = rd M0 120 8) ∧ (1 ≤ rd M' 120 8 ∨ tav M0 < tav M') ∧ (rd M' 120 50 ≤ rd M' 120 44) ∧ (rd M' 120 36 + rd M' 120 44 ≤ rd M' 120 4) ∧ ((a1 = 1 ∧ nwv M' = nwv M0) ∨ (a1 ≠ 1 ∧ nwv M' ≤ nwv M0 + 1))
theorem ka_X12_next_120_151 {q : Mem → Prop} {M0 M : Mem} (h : St q ws_X12_next_120 as_X12_next_120 M0 M) (j : Int) : rd M 151 j = rd M0 151 j := St.ka h (by decide) (by decide) (by decide)
theorem ka_X12_blame_120_151 {q : Mem → Prop} {M0 M : Mem} (h : St q ws_X12_blame_120 as_X12_blame_120 M0 M) (j : Int) : rd M 151 j = rd M0 151 j := St.ka h (by decide) (by decide) (by decide)
set_option maxRecDepth 100000 in
set_option maxHeartbeats 4000000 in
theorem sp_X12_opensBlock_120 {l : Launch} {K : EC} {M0 : Mem} (hI : In Pm1 M0)  (a1 : Int) (ha1 : 0 ≤ a1 ∧ a1 ≤ 2) (a2 : Int) (ha2 : 0 ≤ a2 ∧ a2 ≤ 399)  (hq0 : rd M0 120 3 = 0 ∨ rd M0 120 4 + 1 ≤ rd M0 120 5) (hq1 : rd M0 120 4 ≤ rd M0 120 5) (hq2 : rd M0 120 3 ≠ 1 ∨ rd M0 120 4 + 2 ≤ rd M0 120 5 ∨ rd M0 120 7 < 256) (hq3 : rd M0 120 50 ≤ rd M0 120 44) (hq4 : rd M0 120 36 + rd M0 120 44 ≤ rd M0 120 4) (hq5 : 200 ≤ a2 ∧ a2 < 200 + rd M0 136 1) (hq6 : a1 = 1 ∨ rd M0 137 a2 ≠ 0) : Tr l K 2 mX12_opensBlock 0 [(0, (2, 120)), (1, (0, a1)), (2, (0, a2))] [] M0 (q_X12_opensBlock_120 a1 a2 M0) := by
  have hS : St Pm1 ws_X12_opensBlock_120 as_X12_opensBlock_120 M0 M0 := St.rf hI
  obtain ⟨g120_8, eg120_8⟩ : ∃ v, rd M0 120 8 = v := ⟨_, rfl⟩
  have bg120_8 : 0 ≤ g120_8 ∧ g120_8 ≤ 5 := by rw [← eg120_8]; exact ir_120_8 hI.2.1
  obtain ⟨g120_3, eg120_3⟩ : ∃ v, rd M0 120 3 = v := ⟨_, rfl⟩
  have bg120_3 : 0 ≤ g120_3 ∧ g120_3 ≤ 3 := by rw [← eg120_3]; exact ir_120_3 hI.2.1
  obtain ⟨g120_4, eg120_4⟩ : ∃ v, rd M0 120 4 = v := ⟨_, rfl⟩
  have bg120_4 : 0 ≤ g120_4 ∧ g120_4 ≤ 900 := by rw [← eg120_4]; exact ir_120_4 hI.2.1
  obtain ⟨g120_5, eg120_5⟩ : ∃ v, rd M0 120 5 = v := ⟨_, rfl⟩
  have bg120_5 : 0 ≤ g120_5 ∧ g120_5 ≤ 900 := by rw [← eg120_5]; exact ir_120_5 hI.2.1
  obtain ⟨g120_7, eg120_7⟩ : ∃ v, rd M0 120 7 = v := ⟨_, rfl⟩
  have bg120_7 : (-9223372036854775808) ≤ g120_7 ∧ g120_7 ≤ 9223372036854775807 := by rw [← eg120_7]; exact ir_120_7 hI.2.1
  obtain ⟨g9010_0, eg9010_0⟩ : ∃ v, tav M0 = v := ⟨_, rfl⟩
  have bg9010_0 : (-1) ≤ g9010_0 ∧ g9010_0 ≤ 1800 := by rw [← eg9010_0]; exact (tav_b hI.2.1)
  obtain ⟨g120_6, eg120_6⟩ : ∃ v, rd M0 120 6 = v := ⟨_, rfl⟩
  have bg120_6 : (-2147483648) ≤ g120_6 ∧ g120_6 ≤ 2147483647 := by rw [← eg120_6]; exact ir_120_6 hI.2.1
  obtain ⟨g120_44, eg120_44⟩ : ∃ v, rd M0 120 44 = v := ⟨_, rfl⟩
  have bg120_44 : 0 ≤ g120_44 ∧ g120_44 ≤ 8 := by rw [← eg120_44]; exact ir_120_44 hI.2.1
  obtain ⟨g120_50, eg120_50⟩ : ∃ v, rd M0 120 50 = v := ⟨_, rfl⟩
  have bg120_50 : 0 ≤ g120_50 ∧ g120_50 ≤ 20 := by rw [← eg120_50]; exact ir_120_50 hI.2.1
  obtain ⟨g136_1, eg136_1⟩ : ∃ v, rd M0 136 1 = v := ⟨_, rfl⟩
  have bg136_1 : 0 ≤ g136_1 ∧ g136_1 ≤ 200 := by rw [← eg136_1]; exact ir_136_1 hI.2.1
  obtain ⟨g9006_0, eg9006_0⟩ : ∃ v, nwv M0 = v := ⟨_, rfl⟩
  have bg9006_0 : 0 ≤ g9006_0 ∧ g9006_0 ≤ 20 := by rw [← eg9006_0]; exact (nwv_b hI.2.1)
  obtain ⟨g120_36, eg120_36⟩ : ∃ v, rd M0 120 36 = v := ⟨_, rfl⟩
  have bg120_36 : 0 ≤ g120_36 ∧ g120_36 ≤ 900 := by rw [← eg120_36]; exact ir_120_36 hI.2.1
  replace hq0 := hd_i hq0
  replace hq2 := hd_i hq2
  replace hq6 := hd_i hq6
  refine Tr.aload_n (pc := 0) (i := 0) d_X12_opensBlock_0 rfl rfl ?_
  refine Tr.bipush (pc := 1) d_X12_opensBlock_1 rfl (by decide) ?_
  refine Tr.callV (pc := 3) (as := [_]) d_X12_opensBlock_3 s_12_393 ok_X12_isSign rfl rfl (Nat.le_of_ble_eq_true rfl) (Nat.le_of_ble_eq_true rfl) (by decide) (ty_120 hS.1.1) ?_
  refine Tr.imp (Tr.deep (by decide) (ns_X12_isSign_120 (G120_3 := g120_3) (G120_6 := g120_6) hS.1.wk (eg120_3) (eg120_6) 123 (by omega))) ?_
  rintro M3 _ ⟨h3, r3, rfl, lr3, ur3, z3_0⟩
  have h3 := St.rn h3 (Pm1.of hS.1.2.2.2.2 (fun _ => (ka_X12_isSign_120_131 h3 _)) (fun _ => (ka_X12_isSign_120_137 h3 _)) (fun _ => (ka_X12_isSign_120_138 h3 _)) (fun _ => (ka_X12_isSign_120_139 h3 _)) (fun _ => (ka_X12_isSign_120_140 h3 _)) (fun _ => (ka_X12_isSign_120_141 h3 _)) (fun _ => (ka_X12_isSign_120_142 h3 _)) (fun _ => (ka_X12_isSign_120_143 h3 _)) (fun _ => (ka_X12_isSign_120_151 h3 _)) (fun _ => (ka_X12_isSign_120_152 h3 _)) (kp_X12_isSign_120_126_0 h3) (kp_X12_isSign_120_126_1 h3) (kp_X12_isSign_120_136_0 h3) (kp_X12_isSign_120_136_1 h3) (kp_X12_isSign_120_123_0 h3) (kp_X12_isSign_120_123_1 h3) (kp_X12_isSign_120_124_0 h3) (kp_X12_isSign_120_124_1 h3) (kp_X12_isSign_120_120_8 h3) (kp_X12_isSign_120_120_36 h3) (kp_X12_isSign_120_120_50 h3))
  have hS := St.tr hS h3 (by decide) (by decide)
  refine Tr.sc [(0, r3)] rfl ?_
  have J18 : ∀ (M : Mem) (u18_120_8 : Int), St Pm1 ws_X12_opensBlock_120 as_X12_opensBlock_120 M0 M → (0 ≤ u18_120_8 ∧ u18_120_8 ≤ 5) → rd M 120 3 = g120_3 → rd M 120 36 = g120_36 → rd M 120 4 = g120_4 → rd M 120 44 = g120_44 → rd M 120 5 = g120_5 → rd M 120 50 = g120_50 → rd M 120 6 = g120_6 → rd M 120 7 = g120_7 → rd M 120 8 = u18_120_8 → rd M 136 1 = g136_1 → nwv M = g9006_0 → tav M = g9010_0 → (1 ≤ u18_120_8 ∨ g120_3 = 3) → (g120_8 = 0 ∨ u18_120_8 = g120_8) → Tr l K 2 mX12_opensBlock 18 [(0, (2, 120)), (1, (0, a1)), (2, (0, a2))] [] M (q_X12_opensBlock_120 a1 a2 M0) := by
    intro M u18_120_8 hS bu18_120_8 k18_120_3 k18_120_36 k18_120_4 k18_120_44 k18_120_5 k18_120_50 k18_120_6 k18_120_7 k18_120_8 k18_136_1 k18_9006_0 k18_9010_0 t18_0 t18_1
    replace t18_0 := hd_i t18_0
    replace t18_1 := hd_i t18_1
    refine Tr.aload_n (pc := 18) (i := 0) d_X12_opensBlock_18 rfl rfl ?_
    refine Tr.getf (pc := 19) d_X12_opensBlock_19 f_12_36 (by decide) (by decide) (ty_120 hS.1.1) ?_
    refine Tr.tp u18_120_8 k18_120_8 ?_
    have J43 : ∀ (M : Mem) (u43_120_8 : Int), St Pm1 ws_X12_opensBlock_120 as_X12_opensBlock_120 M0 M → (0 ≤ u43_120_8 ∧ u43_120_8 ≤ 5) → rd M 120 3 = g120_3 → rd M 120 36 = g120_36 → rd M 120 4 = g120_4 → rd M 120 44 = g120_44 → rd M 120 5 = g120_5 → rd M 120 50 = g120_50 → rd M 120 6 = g120_6 → rd M 120 7 = g120_7 → rd M 120 8 = u43_120_8 → rd M 136 1 = g136_1 → nwv M = g9006_0 → tav M = g9010_0 → (1 ≤ u43_120_8 ∨ (g120_44 ≤ 7 ∧ g120_3 = 3)) → (g120_8 = 0 ∨ u43_120_8 = g120_8) → Tr l K 2 mX12_opensBlock 43 [(0, (2, 120)), (1, (0, a1)), (2, (0, a2))] [] M (q_X12_opensBlock_120 a1 a2 M0) := by
      intro M u43_120_8 hS bu43_120_8 k43_120_3 k43_120_36 k43_120_4 k43_120_44 k43_120_5 k43_120_50 k43_120_6 k43_120_7 k43_120_8 k43_136_1 k43_9006_0 k43_9010_0 t43_0 t43_1
      clear k18_120_3 k18_120_36 k18_120_4 k18_120_44 k18_120_5 k18_120_50 k18_120_6 k18_120_7 k18_120_8 k18_136_1 k18_9006_0 k18_9010_0
      replace t43_0 := hd_i t43_0
      replace t43_1 := hd_i t43_1
      refine Tr.aload_n (pc := 43) (i := 0) d_X12_opensBlock_43 rfl rfl ?_
      refine Tr.getf (pc := 44) d_X12_opensBlock_44 f_12_36 (by decide) (by decide) (ty_120 hS.1.1) ?_
      refine Tr.tp u43_120_8 k43_120_8 ?_
      refine Tr.if_le (pc := 47) (tgt := 51) d_X12_opensBlock_47 rfl (fun c47 => ?_) (fun c47 => ?_)
      · refine Tr.aload_n (pc := 51) (i := 0) d_X12_opensBlock_51 rfl rfl ?_
        refine Tr.dup (pc := 52) d_X12_opensBlock_52 ne21 ?_
        refine Tr.getf (pc := 53) d_X12_opensBlock_53 f_12_146 (by decide) (by decide) (ty_120 hS.1.1) ?_
        refine Tr.tp g120_44 k43_120_44 ?_
        refine Tr.iconst (pc := 56) d_X12_opensBlock_56 (by decide) ?_
        refine Tr.iadd (pc := 57) d_X12_opensBlock_57 ?_
        refine Tr.tp (g120_44 + 1) ((w32_id (by and_intros <;> omega)).trans (by omega)) ?_
        refine Tr.putfS (pc := 58) (P := St Pm1 ws_X12_opensBlock_120 as_X12_opensBlock_120 M0) d_X12_opensBlock_58 f_12_146 (by decide) (by decide) (ty_120 hS.1.1) (st_120_44 hS (by decide) (by exact (hd_o t43_0).elim (fun h1 => by omega) (fun h1 => by omega)) (Pm1.of hS.1.2.2.2.2 (fun _ => rd_wb _ rfl) (fun _ => rd_wb _ rfl) (fun _ => rd_wb _ rfl) (fun _ => rd_wb _ rfl) (fun _ => rd_wb _ rfl) (fun _ => rd_wb _ rfl) (fun _ => rd_wb _ rfl) (fun _ => rd_wb _ rfl) (fun _ => rd_wb _ rfl) (fun _ => rd_wb _ rfl) (rd_wb _ rfl) (rd_wb _ rfl) (rd_wb _ rfl) (rd_wb _ rfl) (rd_wb _ rfl) (rd_wb _ rfl) (rd_wb _ rfl) (rd_wb _ rfl) (rd_wb _ rfl) (rd_wb _ rfl) (rd_wb _ rfl))) (fun M58 hS w58 => ?_)
        refine Tr.aload_n (pc := 61) (i := 0) d_X12_opensBlock_61 rfl rfl ?_
        refine Tr.callV (pc := 62) (as := []) d_X12_opensBlock_62 s_12_396 ok_X12_next rfl rfl (Nat.le_of_ble_eq_true rfl) (Nat.le_of_ble_eq_true rfl) (by decide) (ty_120 hS.1.1) ?_
        refine Tr.imp (Tr.deep (by decide) (ns_X12_next_120 (G120_3 := g120_3) (G120_5 := g120_5) (G120_8 := u43_120_8) (G9010_0 := g9010_0) hS.1 (((Wr.b w58 rfl).trans k43_120_3)) (((Wr.b w58 rfl).trans k43_120_5)) (((Wr.b w58 rfl).trans k43_120_8)) (((tav_of ((Wr.b w58 rfl).trans rfl) ((Wr.b w58 rfl).trans rfl)).trans k43_9010_0)))) ?_
        rintro M62 _ ⟨h62, s62_120_3, s62_120_4, s62_120_5, s62_120_7, s62_120_8, s62_9010_0, es62_120_3, bs62_120_3, es62_120_4, bs62_120_4, es62_120_5, bs62_120_5, es62_120_7, bs62_120_7, es62_120_8, bs62_120_8, es62_9010_0, bs62_9010_0, rfl, z62_0, z62_1, z62_2, z62_3, z62_4, z62_5, z62_6⟩
        have hS := St.tr hS h62 (by decide) (by decide)
        refine Tr.sc [] rfl ?_
        refine Tr.aload_n (pc := 65) (i := 0) d_X12_opensBlock_65 rfl rfl ?_
        refine Tr.getf (pc := 66) d_X12_opensBlock_66 f_12_159 (by decide) (by decide) (ty_120 hS.1.1) ?_
        refine Tr.tp 151 (fx_120_48 hS.1.1) ?_
        refine Tr.aload_n (pc := 69) (i := 0) d_X12_opensBlock_69 rfl rfl ?_
        refine Tr.getf (pc := 70) d_X12_opensBlock_70 f_12_165 (by decide) (by decide) (ty_120 hS.1.1) ?_
        refine Tr.tp g120_50 ((kp_X12_next_120_120_50 h62).trans ((Wr.b w58 rfl).trans k43_120_50)) ?_
        refine Tr.iload_n (pc := 73) (i := 1) d_X12_opensBlock_73 rfl rfl ?_
        have kx_120_50 : rd M62 120 50 = g120_50 := ((kp_X12_next_120_120_50 h62).trans ((Wr.b w58 rfl).trans k43_120_50))
        refine Tr.iastS (pc := 74) (P := St Pm1 ws_X12_opensBlock_120 as_X12_opensBlock_120 M0) d_X12_opensBlock_74 (ty_151 hS.1.1) (by omega) (by omega) (sa_151 hS (by decide) (by and_intros <;> omega) (Pm1_blk hS.1.2.2.2.2 hS.1.2.1 (by omega) (by omega))) (fun M74 hS w74 => ?_)
        obtain ⟨v74_9006, ev74_9006⟩ : ∃ v, nwv M74 = v := ⟨_, rfl⟩
        have bv74_9006 : 0 ≤ v74_9006 ∧ v74_9006 ≤ 20 := by rw [← ev74_9006]; exact (nwv_b hS.1.2.1)
        have fv74_9006 : v74_9006 = g9006_0 := by have h8 := ct_out (x := 151) (j := 50) (e := 1) (a := 0) (b := 1) w74 (by decide) (((kp_X12_next_120_120_50 h62).trans ((Wr.b w58 rfl).trans k43_120_50))) (Int.le_refl _); have h7 : ctV 151 50 1 0 1 M74 = v74_9006 := ev74_9006; have h6 : ctV 151 50 1 0 1 M62 = g9006_0 := ((nwv_of (fun j => ((ka_X12_next_120_151 h62 _).trans ((Wr.b w58 rfl).trans rfl))) ((kp_X12_next_120_120_50 h62).trans ((Wr.b w58 rfl).trans rfl))).trans k43_9006_0); rw [← h7, h8]; exact h6
        refine Tr.aload_n (pc := 75) (i := 0) d_X12_opensBlock_75 rfl rfl ?_
        refine Tr.getf (pc := 76) d_X12_opensBlock_76 f_12_162 (by decide) (by decide) (ty_120 hS.1.1) ?_
        refine Tr.tp 152 (fx_120_49 hS.1.1) ?_
        refine Tr.aload_n (pc := 79) (i := 0) d_X12_opensBlock_79 rfl rfl ?_
        refine Tr.getf (pc := 80) d_X12_opensBlock_80 f_12_165 (by decide) (by decide) (ty_120 hS.1.1) ?_
        refine Tr.tp g120_50 ((Wr.b w74 rfl).trans ((kp_X12_next_120_120_50 h62).trans ((Wr.b w58 rfl).trans k43_120_50))) ?_
        refine Tr.iload_n (pc := 83) (i := 2) d_X12_opensBlock_83 rfl rfl ?_
        have kx_120_50 : rd M74 120 50 = g120_50 := ((Wr.b w74 rfl).trans ((kp_X12_next_120_120_50 h62).trans ((Wr.b w58 rfl).trans k43_120_50)))
        refine Tr.iastS (pc := 84) (P := St Pm1 ws_X12_opensBlock_120 as_X12_opensBlock_120 M0) d_X12_opensBlock_84 (ty_152 hS.1.1) (by omega) (by omega) (sa_152 hS (by decide) (by and_intros <;> omega) (Pm1_blk hS.1.2.2.2.2 hS.1.2.1 (by omega) (by omega))) (fun M84 hS w84 => ?_)
        refine Tr.aload_n (pc := 85) (i := 0) d_X12_opensBlock_85 rfl rfl ?_
        refine Tr.dup (pc := 86) d_X12_opensBlock_86 ne21 ?_
        refine Tr.getf (pc := 87) d_X12_opensBlock_87 f_12_165 (by decide) (by decide) (ty_120 hS.1.1) ?_
        refine Tr.tp g120_50 ((Wr.b w84 rfl).trans ((Wr.b w74 rfl).trans ((kp_X12_next_120_120_50 h62).trans ((Wr.b w58 rfl).trans k43_120_50)))) ?_
        refine Tr.iconst (pc := 90) d_X12_opensBlock_90 (by decide) ?_
        refine Tr.iadd (pc := 91) d_X12_opensBlock_91 ?_
        refine Tr.tp (g120_50 + 1) ((w32_id (by and_intros <;> omega)).trans (by omega)) ?_
        have e151 : rd M84 151 g120_50 = a1 := ((Wr.b w84 rfl).trans w74.1)
        have e152 : rd M84 152 g120_50 = a2 := w84.1
        have e137 : rd M84 137 a2 = rd M0 137 a2 := St.ka hS (by decide) (by decide) (by decide)
        have kx_136_1 : rd M84 136 1 = g136_1 := ((Wr.b w84 rfl).trans ((Wr.b w74 rfl).trans ((kp_X12_next_120_136_1 h62).trans ((Wr.b w58 rfl).trans k43_136_1))))
        refine Tr.putfS (pc := 92) (P := St Pm1 ws_X12_opensBlock_120 as_X12_opensBlock_120 M0) d_X12_opensBlock_92 f_12_165 (by decide) (by decide) (ty_120 hS.1.1) (st_120_50 hS (by decide) (by and_intros <;> omega) (Pm1_bl hS.1.2.2.2.2 (((Wr.b w84 rfl).trans ((Wr.b w74 rfl).trans ((kp_X12_next_120_120_50 h62).trans ((Wr.b w58 rfl).trans k43_120_50))))) (by omega) (by rw [e152]; omega) (by rw [e152]; omega) (by rw [e151, e152]; intro c; have h5 := hd_o hq6; omega))) (fun M92 hS w92 => ?_)
        obtain ⟨v92_9006, ev92_9006⟩ : ∃ v, nwv M92 = v := ⟨_, rfl⟩
        have bv92_9006 : 0 ≤ v92_9006 ∧ v92_9006 ≤ 20 := by rw [← ev92_9006]; exact (nwv_b hS.1.2.1)
        have fv92_9006 : (a1 = 1 ∧ v92_9006 = v74_9006) ∨ (a1 ≠ 1 ∧ v92_9006 = v74_9006 + 1) := by have h8 := ct_push (x := 151) (j := 50) (e := 1) (a := 0) (b := 1) (M := M84) (M2 := M92) (n := g120_50) (v := a1) (((Wr.b w84 rfl).trans ((Wr.b w74 rfl).trans ((kp_X12_next_120_120_50 h62).trans ((Wr.b w58 rfl).trans k43_120_50))))) w92.1 ((Wr.b w92 rfl).trans e151) (fun i hi => Wr.b w92 rfl) (by omega); have h7 : ctV 151 50 1 0 1 M92 = v92_9006 := ev92_9006; have h6 : ctV 151 50 1 0 1 M84 = v74_9006 := ((nwv_of (fun j => ((Wr.b w84 rfl).trans rfl)) ((Wr.b w84 rfl).trans rfl)).trans ev74_9006); omega
        replace fv92_9006 := hd_i fv92_9006
        have kr_120_3 : rd M92 120 3 = s62_120_3 := ((Wr.b w92 rfl).trans ((Wr.b w84 rfl).trans ((Wr.b w74 rfl).trans es62_120_3)))
        have kr_120_4 : rd M92 120 4 = s62_120_4 := ((Wr.b w92 rfl).trans ((Wr.b w84 rfl).trans ((Wr.b w74 rfl).trans es62_120_4)))
        have kr_120_5 : rd M92 120 5 = s62_120_5 := ((Wr.b w92 rfl).trans ((Wr.b w84 rfl).trans ((Wr.b w74 rfl).trans es62_120_5)))
        have kr_120_7 : rd M92 120 7 = s62_120_7 := ((Wr.b w92 rfl).trans ((Wr.b w84 rfl).trans ((Wr.b w74 rfl).trans es62_120_7)))
        have kr_120_8 : rd M92 120 8 = s62_120_8 := ((Wr.b w92 rfl).trans ((Wr.b w84 rfl).trans ((Wr.b w74 rfl).trans es62_120_8)))
        have kr_120_36 : rd M92 120 36 = g120_36 := ((Wr.b w92 rfl).trans ((Wr.b w84 rfl).trans ((Wr.b w74 rfl).trans ((kp_X12_next_120_120_36 h62).trans ((Wr.b w58 rfl).trans k43_120_36)))))
        have kr_120_44 : rd M92 120 44 = (g120_44 + 1) := ((Wr.b w92 rfl).trans ((Wr.b w84 rfl).trans ((Wr.b w74 rfl).trans ((kp_X12_next_120_120_44 h62).trans w58.1))))
        have kr_120_50 : rd M92 120 50 = (g120_50 + 1) := w92.1
        have kr_9006_0 : nwv M92 = v92_9006 := ev92_9006
        have kr_9010_0 : tav M92 = s62_9010_0 := ((tav_of ((Wr.b w92 rfl).trans ((Wr.b w84 rfl).trans ((Wr.b w74 rfl).trans rfl))) ((Wr.b w92 rfl).trans ((Wr.b w84 rfl).trans ((Wr.b w74 rfl).trans rfl)))).trans es62_9010_0)
        exact Tr.vret (pc := 95) d_X12_opensBlock_95 rfl ⟨hS, rfl, (by first | exact (hd_o z62_0) | exact (hd_o z62_0).elim (fun h1 => by omega) (fun h1 => by omega)), (by omega), (by first | exact (hd_o z62_2) | exact (hd_o z62_2).elim (fun h1 => by omega) (fun h1 => h1.elim (fun h1 => by omega) (fun h1 => by omega))), (by and_intros <;> omega), (by exact (hd_o t43_1).elim (fun h1 => by omega) (fun h1 => by omega)), (by exact (hd_o t43_0).elim (fun h1 => by omega) (fun h1 => (hd_o z62_5).elim (fun h2 => by omega) (fun h2 => by omega))), (by omega), (by exact (hd_o t43_0).elim (fun h1 => by omega) (fun h1 => (hd_o hq0).elim (fun h2 => by omega) (fun h2 => by omega))), (by exact (hd_o fv92_9006).elim (fun h1 => by omega) (fun h1 => (ne_o h1.1).elim (fun h2 => by omega) (fun h2 => by omega)))⟩
      · have kr_120_3 : rd M 120 3 = g120_3 := k43_120_3
        have kr_120_4 : rd M 120 4 = g120_4 := k43_120_4
        have kr_120_5 : rd M 120 5 = g120_5 := k43_120_5
        have kr_120_7 : rd M 120 7 = g120_7 := k43_120_7
        have kr_120_8 : rd M 120 8 = u43_120_8 := k43_120_8
        have kr_120_36 : rd M 120 36 = g120_36 := k43_120_36
        have kr_120_44 : rd M 120 44 = g120_44 := k43_120_44
        have kr_120_50 : rd M 120 50 = g120_50 := k43_120_50
        have kr_9006_0 : nwv M = g9006_0 := k43_9006_0
        have kr_9010_0 : tav M = g9010_0 := k43_9010_0
        exact Tr.vret (pc := 50) d_X12_opensBlock_50 rfl ⟨hS, rfl, (by first | exact (hd_o hq0) | exact (hd_o hq0).elim (fun h1 => by omega) (fun h1 => by omega)), (by omega), (by first | exact (hd_o hq2) | exact (hd_o hq2).elim (fun h1 => by omega) (fun h1 => h1.elim (fun h1 => by omega) (fun h1 => by omega))), (by and_intros <;> omega), (by first | exact (hd_o t43_1) | exact (hd_o t43_1).elim (fun h1 => by omega) (fun h1 => by omega)), (by omega), (by omega), (by omega), (by omega)⟩
    refine Tr.if_ne (pc := 22) (tgt := 43) d_X12_opensBlock_22 rfl (fun c22 => ?_) (fun c22 => ?_)
    · have c22b : 1 ≤ u18_120_8 ∧ u18_120_8 ≤ 5 := by omega
      replace c22 := hd_i c22
      refine Tr.pick [0, 1, 2] (ls2 := [(0, (2, 120)), (1, (0, a1)), (2, (0, a2))]) rfl ?_
      exact J43 _ _ hS (by and_intros <;> omega) k18_120_3 k18_120_36 k18_120_4 k18_120_44 k18_120_5 k18_120_50 k18_120_6 k18_120_7 k18_120_8 k18_136_1 k18_9006_0 k18_9010_0 (by omega) (by first | exact (hd_o t18_1) | exact (hd_o t18_1).elim (fun h1 => by omega) (fun h1 => by omega))
    · refine Tr.aload_n (pc := 25) (i := 0) d_X12_opensBlock_25 rfl rfl ?_
      refine Tr.getf (pc := 26) d_X12_opensBlock_26 f_12_146 (by decide) (by decide) (ty_120 hS.1.1) ?_
      refine Tr.tp g120_44 k18_120_44 ?_
      refine Tr.bipush (pc := 29) d_X12_opensBlock_29 rfl (by decide) ?_
      refine Tr.icmp_ne (pc := 31) (tgt := 43) d_X12_opensBlock_31 rfl (fun c31 => ?_) (fun c31 => ?_)
      · have c31b : 0 ≤ g120_44 ∧ g120_44 ≤ 7 := by omega
        replace c31 := hd_i c31
        refine Tr.pick [0, 1, 2] (ls2 := [(0, (2, 120)), (1, (0, a1)), (2, (0, a2))]) rfl ?_
        exact J43 _ _ hS (by and_intros <;> omega) k18_120_3 k18_120_36 k18_120_4 k18_120_44 k18_120_5 k18_120_50 k18_120_6 k18_120_7 k18_120_8 k18_136_1 k18_9006_0 k18_9010_0 (by exact (hd_o t18_0).elim (fun h1 => by omega) (fun h1 => by omega)) (by first | exact (hd_o t18_1) | exact (hd_o t18_1).elim (fun h1 => by omega) (fun h1 => by omega))
      · refine Tr.aload_n (pc := 34) (i := 0) d_X12_opensBlock_34 rfl rfl ?_
        refine Tr.iconst (pc := 35) d_X12_opensBlock_35 (by decide) ?_
        refine Tr.aload_n (pc := 36) (i := 0) d_X12_opensBlock_36 rfl rfl ?_
        refine Tr.getf (pc := 37) d_X12_opensBlock_37 f_12_23 (by decide) (by decide) (ty_120 hS.1.1) ?_
        refine Tr.tp g120_4 k18_120_4 ?_
        refine Tr.callV (pc := 40) (as := [_, _]) d_X12_opensBlock_40 s_12_389 ok_X12_blame rfl rfl (Nat.le_of_ble_eq_true rfl) (Nat.le_of_ble_eq_true rfl) (by decide) (ty_120 hS.1.1) ?_
        refine Tr.imp (Tr.deep (by decide) (ns_X12_blame_120 (G120_8 := u18_120_8) hS.1 (k18_120_8) 5 (by omega) g120_4 (by and_intros <;> omega))) ?_
        rintro M40 _ ⟨h40, s40_120_8, es40_120_8, bs40_120_8, rfl, z40_0⟩
        have hS := St.tr hS h40 (by decide) (by decide)
        refine Tr.sc [] rfl ?_
        refine Tr.pick [0, 1, 2] (ls2 := [(0, (2, 120)), (1, (0, a1)), (2, (0, a2))]) rfl ?_
        exact J43 _ _ hS (by and_intros <;> omega) ((kp_X12_blame_120_120_3 h40).trans k18_120_3) ((kp_X12_blame_120_120_36 h40).trans k18_120_36) ((kp_X12_blame_120_120_4 h40).trans k18_120_4) ((kp_X12_blame_120_120_44 h40).trans k18_120_44) ((kp_X12_blame_120_120_5 h40).trans k18_120_5) ((kp_X12_blame_120_120_50 h40).trans k18_120_50) ((kp_X12_blame_120_120_6 h40).trans k18_120_6) ((kp_X12_blame_120_120_7 h40).trans k18_120_7) es40_120_8 ((kp_X12_blame_120_136_1 h40).trans k18_136_1) ((nwv_of (fun j => ((ka_X12_blame_120_151 h40 _).trans rfl)) ((kp_X12_blame_120_120_50 h40).trans rfl)).trans k18_9006_0) ((tav_of ((kp_X12_blame_120_120_5 h40).trans rfl) ((kp_X12_blame_120_120_3 h40).trans rfl)).trans k18_9010_0) (by exact (hd_o z40_0).elim (fun h1 => by omega) (fun h1 => by omega)) (by exact (hd_o t18_1).elim (fun h1 => by omega) (fun h1 => by omega))
  refine Tr.if_ne (pc := 6) (tgt := 18) d_X12_opensBlock_6 rfl (fun c6 => ?_) (fun c6 => ?_)
  · have c6b : 1 ≤ r3 ∧ r3 ≤ 1 := by omega
    replace c6 := hd_i c6
    refine Tr.pick [0, 1, 2] (ls2 := [(0, (2, 120)), (1, (0, a1)), (2, (0, a2))]) rfl ?_
    exact J18 _ _ hS (by and_intros <;> omega) ((kp_X12_isSign_120_120_3 h3).trans eg120_3) ((kp_X12_isSign_120_120_36 h3).trans eg120_36) ((kp_X12_isSign_120_120_4 h3).trans eg120_4) ((kp_X12_isSign_120_120_44 h3).trans eg120_44) ((kp_X12_isSign_120_120_5 h3).trans eg120_5) ((kp_X12_isSign_120_120_50 h3).trans eg120_50) ((kp_X12_isSign_120_120_6 h3).trans eg120_6) ((kp_X12_isSign_120_120_7 h3).trans eg120_7) ((kp_X12_isSign_120_120_8 h3).trans eg120_8) ((kp_X12_isSign_120_136_1 h3).trans eg136_1) ((nwv_of (fun j => ((ka_X12_isSign_120_151 h3 _).trans rfl)) ((kp_X12_isSign_120_120_50 h3).trans rfl)).trans eg9006_0) ((tav_of ((kp_X12_isSign_120_120_5 h3).trans rfl) ((kp_X12_isSign_120_120_3 h3).trans rfl)).trans eg9010_0) (by exact (hd_o z3_0).elim (fun h1 => by omega) (fun h1 => by omega)) (by omega)
  · refine Tr.aload_n (pc := 9) (i := 0) d_X12_opensBlock_9 rfl rfl ?_
    refine Tr.iconst (pc := 10) d_X12_opensBlock_10 (by decide) ?_
    refine Tr.aload_n (pc := 11) (i := 0) d_X12_opensBlock_11 rfl rfl ?_
    refine Tr.getf (pc := 12) d_X12_opensBlock_12 f_12_23 (by decide) (by decide) (ty_120 hS.1.1) ?_
    refine Tr.tp g120_4 ((kp_X12_isSign_120_120_4 h3).trans eg120_4) ?_
    refine Tr.callV (pc := 15) (as := [_, _]) d_X12_opensBlock_15 s_12_389 ok_X12_blame rfl rfl (Nat.le_of_ble_eq_true rfl) (Nat.le_of_ble_eq_true rfl) (by decide) (ty_120 hS.1.1) ?_
    refine Tr.imp (Tr.deep (by decide) (ns_X12_blame_120 (G120_8 := g120_8) hS.1 (((kp_X12_isSign_120_120_8 h3).trans eg120_8)) 1 (by omega) g120_4 (by and_intros <;> omega))) ?_
    rintro M15 _ ⟨h15, s15_120_8, es15_120_8, bs15_120_8, rfl, z15_0⟩
    have hS := St.tr hS h15 (by decide) (by decide)
    refine Tr.sc [] rfl ?_
    refine Tr.pick [0, 1, 2] (ls2 := [(0, (2, 120)), (1, (0, a1)), (2, (0, a2))]) rfl ?_
    exact J18 _ _ hS (by and_intros <;> omega) ((kp_X12_blame_120_120_3 h15).trans ((kp_X12_isSign_120_120_3 h3).trans eg120_3)) ((kp_X12_blame_120_120_36 h15).trans ((kp_X12_isSign_120_120_36 h3).trans eg120_36)) ((kp_X12_blame_120_120_4 h15).trans ((kp_X12_isSign_120_120_4 h3).trans eg120_4)) ((kp_X12_blame_120_120_44 h15).trans ((kp_X12_isSign_120_120_44 h3).trans eg120_44)) ((kp_X12_blame_120_120_5 h15).trans ((kp_X12_isSign_120_120_5 h3).trans eg120_5)) ((kp_X12_blame_120_120_50 h15).trans ((kp_X12_isSign_120_120_50 h3).trans eg120_50)) ((kp_X12_blame_120_120_6 h15).trans ((kp_X12_isSign_120_120_6 h3).trans eg120_6)) ((kp_X12_blame_120_120_7 h15).trans ((kp_X12_isSign_120_120_7 h3).trans eg120_7)) es15_120_8 ((kp_X12_blame_120_136_1 h15).trans ((kp_X12_isSign_120_136_1 h3).trans eg136_1)) ((nwv_of (fun j => ((ka_X12_blame_120_151 h15 _).trans ((ka_X12_isSign_120_151 h3 _).trans rfl))) ((kp_X12_blame_120_120_50 h15).trans ((kp_X12_isSign_120_120_50 h3).trans rfl))).trans eg9006_0) ((tav_of ((kp_X12_blame_120_120_5 h15).trans ((kp_X12_isSign_120_120_5 h3).trans rfl)) ((kp_X12_blame_120_120_3 h15).trans ((kp_X12_isSign_120_120_3 h3).trans rfl))).trans eg9010_0) (by exact (hd_o z15_0).elim (fun h1 => by omega) (fun h1 => by omega)) (by exact (hd_o z15_0).elim (fun h1 => by omega) (fun h1 => by omega))

set_option maxRecDepth 100000 in
set_option maxHeartbeats 4000000 in
theorem ns_X12_opensBlock_120 {l : Launch} {K : EC} {M0 : Mem} {G120_3 G120_4 G120_5 G120_7 G120_8 G120_36 G120_44 G120_50 G136_1 G9006_0 G9010_0 : Int} (hI : In Pm1 M0) (k120_3 : rd M0 120 3 = G120_3) (k120_4 : rd M0 120 4 = G120_4) (k120_5 : rd M0 120 5 = G120_5) (k120_7 : rd M0 120 7 = G120_7) (k120_8 : rd M0 120 8 = G120_8) (k120_36 : rd M0 120 36 = G120_36) (k120_44 : rd M0 120 44 = G120_44) (k120_50 : rd M0 120 50 = G120_50) (k136_1 : rd M0 136 1 = G136_1) (k9006_0 : nwv M0 = G9006_0) (k9010_0 : tav M0 = G9010_0)  (a1 : Int) (ha1 : 0 ≤ a1 ∧ a1 ≤ 2) (a2 : Int) (ha2 : 0 ≤ a2 ∧ a2 ≤ 399)  (hq0 : G120_3 = 0 ∨ G120_4 + 1 ≤ G120_5) (hq1 : G120_4 ≤ G120_5) (hq2 : G120_3 ≠ 1 ∨ G120_4 + 2 ≤ G120_5 ∨ G120_7 < 256) (hq3 : G120_50 ≤ G120_44) (hq4 : G120_36 + G120_44 ≤ G120_4) (hq5 : 200 ≤ a2 ∧ a2 < 200 + G136_1) (hq6 : a1 = 1 ∨ rd M0 137 a2 ≠ 0) : Tr l K 2 mX12_opensBlock 0 [(0, (2, 120)), (1, (0, a1)), (2, (0, a2))] [] M0 (fun M' r => St Pm1 ws_X12_opensBlock_120 as_X12_opensBlock_120 M0 M' ∧ ∃ S120_3 S120_4 S120_5 S120_7 S120_8 S120_44 S120_50 S9006_0 S9010_0 : Int, rd M' 120 3 = S120_3 ∧ (0 ≤ S120_3 ∧ S120_3 ≤ 3) ∧ rd M' 120 4 = S120_4 ∧ (0 ≤ S120_4 ∧ S120_4 ≤ 900) ∧ rd M' 120 5 = S120_5 ∧ (0 ≤ S120_5 ∧ S120_5 ≤ 900) ∧ rd M' 120 7 = S120_7 ∧ ((-9223372036854775808) ≤ S120_7 ∧ S120_7 ≤ 9223372036854775807) ∧ rd M' 120 8 = S120_8 ∧ (0 ≤ S120_8 ∧ S120_8 ≤ 5) ∧ rd M' 120 44 = S120_44 ∧ (0 ≤ S120_44 ∧ S120_44 ≤ 8) ∧ rd M' 120 50 = S120_50 ∧ (0 ≤ S120_50 ∧ S120_50 ≤ 20) ∧ nwv M' = S9006_0 ∧ (0 ≤ S9006_0 ∧ S9006_0 ≤ 20) ∧ tav M' = S9010_0 ∧ ((-1) ≤ S9010_0 ∧ S9010_0 ≤ 1800) ∧ r = none ∧ Hd (S120_3 = 0 ∨ S120_4 + 1 ≤ S120_5) ∧ (S120_4 ≤ S120_5) ∧ Hd (S120_3 ≠ 1 ∨ S120_4 + 2 ≤ S120_5 ∨ S120_7 < 256) ∧ (G120_4 ≤ S120_4 ∧ G120_5 ≤ S120_5 ∧ G9010_0 ≤ S9010_0) ∧ Hd (G120_8 = 0 ∨ S120_8 = G120_8) ∧ Hd (1 ≤ S120_8 ∨ G9010_0 < S9010_0) ∧ (S120_50 ≤ S120_44) ∧ (G120_36 + S120_44 ≤ S120_4) ∧ Hd ((a1 = 1 ∧ S9006_0 = G9006_0) ∨ (a1 ≠ 1 ∧ S9006_0 ≤ G9006_0 + 1))) := by
  subst k120_3
  subst k120_4
  subst k120_5
  subst k120_7
  subst k120_8
  subst k120_36
  subst k120_44
  subst k120_50
  subst k136_1
  subst k9006_0
  subst k9010_0
  refine Tr.imp (sp_X12_opensBlock_120 hI a1 ha1 a2 ha2 hq0 hq1 hq2 hq3 hq4 hq5 hq6) ?_
  rintro M' _ ⟨hS, rfl, z0, z1, z2, z3, z4, z5, z6, z7, z8⟩
  rewrite [show rd M' 120 36 = rd M0 120 36 from ((St.kp hS (by decide) (by decide) (by decide)).trans rfl)] at z7
  exact ⟨hS, _, _, _, _, _, _, _, _, _, rfl, ir_120_3 hS.1.2.1, rfl, ir_120_4 hS.1.2.1, rfl, ir_120_5 hS.1.2.1, rfl, ir_120_7 hS.1.2.1, rfl, ir_120_8 hS.1.2.1, rfl, ir_120_44 hS.1.2.1, rfl, ir_120_50 hS.1.2.1, rfl, (nwv_b hS.1.2.1), rfl, (tav_b hS.1.2.1), rfl, hd_i z0, z1, hd_i z2, z3, hd_i z4, hd_i z5, z6, z7, hd_i z8⟩

def ws_X12_statement_120 : List (Int × Int) := [(120, 3), (120, 4), (120, 5), (120, 6), (120, 7), (120, 8), (120, 9), (120, 36), (120, 43), (120, 44), (120, 46), (120, 47), (120, 50), (129, 1), (136, 1)]
def as_X12_statement_120 : List Int := [137, 138, 139, 140, 141, 142, 143, 144, 145, 146, 147, 148, 149, 150, 151, 152]
def q_X12_statement_120 (M0 M' : Mem) (r : Option PV) : Prop := St Pm1 ws_X12_statement_120 as_X12_statement_120 M0 M' ∧ r = none ∧ (rd M' 120 3 = 0 ∨ rd M' 120 4 + 1 ≤ rd M' 120 5) ∧ (rd M' 120 4 ≤ rd M' 120 5) ∧ (rd M' 120 3 ≠ 1 ∨ rd M' 120 4 + 2 ≤ rd M' 120 5 ∨ rd M' 120 7 < 256) ∧ (rd M0 120 4 ≤ rd M' 120 4 ∧ rd M0 120 5 ≤ rd M' 120 5 ∧ tav M0 ≤ tav M') ∧ (rd M0 120 8 = 0 ∨ rd M' 120 8 = rd M0 120 8) ∧ (1 ≤ rd M' 120 8 ∨ tav M0 < tav M') ∧ (1 ≤ rd M' 120 8 ∨ rd M' 136 1 + nwv M' ≤ 2 * rd M' 129 1) ∧ (rd M' 120 50 ≤ rd M' 120 44) ∧ (rd M' 120 36 + rd M' 120 44 ≤ rd M' 120 4)
theorem ka_X12_order_120_131 {q : Mem → Prop} {M0 M : Mem} (h : St q ws_X12_order_120 as_X12_order_120 M0 M) (j : Int) : rd M 131 j = rd M0 131 j := St.ka h (by decide) (by decide) (by decide)
theorem ka_X12_order_120_137 {q : Mem → Prop} {M0 M : Mem} (h : St q ws_X12_order_120 as_X12_order_120 M0 M) (j : Int) : rd M 137 j = rd M0 137 j := St.ka h (by decide) (by decide) (by decide)
theorem ka_X12_order_120_138 {q : Mem → Prop} {M0 M : Mem} (h : St q ws_X12_order_120 as_X12_order_120 M0 M) (j : Int) : rd M 138 j = rd M0 138 j := St.ka h (by decide) (by decide) (by decide)
theorem ka_X12_order_120_139 {q : Mem → Prop} {M0 M : Mem} (h : St q ws_X12_order_120 as_X12_order_120 M0 M) (j : Int) : rd M 139 j = rd M0 139 j := St.ka h (by decide) (by decide) (by decide)
theorem ka_X12_order_120_140 {q : Mem → Prop} {M0 M : Mem} (h : St q ws_X12_order_120 as_X12_order_120 M0 M) (j : Int) : rd M 140 j = rd M0 140 j := St.ka h (by decide) (by decide) (by decide)
theorem ka_X12_order_120_141 {q : Mem → Prop} {M0 M : Mem} (h : St q ws_X12_order_120 as_X12_order_120 M0 M) (j : Int) : rd M 141 j = rd M0 141 j := St.ka h (by decide) (by decide) (by decide)
theorem ka_X12_order_120_142 {q : Mem → Prop} {M0 M : Mem} (h : St q ws_X12_order_120 as_X12_order_120 M0 M) (j : Int) : rd M 142 j = rd M0 142 j := St.ka h (by decide) (by decide) (by decide)
theorem ka_X12_order_120_143 {q : Mem → Prop} {M0 M : Mem} (h : St q ws_X12_order_120 as_X12_order_120 M0 M) (j : Int) : rd M 143 j = rd M0 143 j := St.ka h (by decide) (by decide) (by decide)
theorem ka_X12_order_120_151 {q : Mem → Prop} {M0 M : Mem} (h : St q ws_X12_order_120 as_X12_order_120 M0 M) (j : Int) : rd M 151 j = rd M0 151 j := St.ka h (by decide) (by decide) (by decide)
theorem ka_X12_order_120_152 {q : Mem → Prop} {M0 M : Mem} (h : St q ws_X12_order_120 as_X12_order_120 M0 M) (j : Int) : rd M 152 j = rd M0 152 j := St.ka h (by decide) (by decide) (by decide)
theorem kp_X12_order_120_126_0 {q : Mem → Prop} {M0 M : Mem} (h : St q ws_X12_order_120 as_X12_order_120 M0 M) : rd M 126 0 = rd M0 126 0 := St.kp h (by decide) (by decide) (by decide)
theorem kp_X12_order_120_126_1 {q : Mem → Prop} {M0 M : Mem} (h : St q ws_X12_order_120 as_X12_order_120 M0 M) : rd M 126 1 = rd M0 126 1 := St.kp h (by decide) (by decide) (by decide)
theorem kp_X12_order_120_136_0 {q : Mem → Prop} {M0 M : Mem} (h : St q ws_X12_order_120 as_X12_order_120 M0 M) : rd M 136 0 = rd M0 136 0 := St.kp h (by decide) (by decide) (by decide)
theorem kp_X12_order_120_136_1 {q : Mem → Prop} {M0 M : Mem} (h : St q ws_X12_order_120 as_X12_order_120 M0 M) : rd M 136 1 = rd M0 136 1 := St.kp h (by decide) (by decide) (by decide)
theorem kp_X12_order_120_123_0 {q : Mem → Prop} {M0 M : Mem} (h : St q ws_X12_order_120 as_X12_order_120 M0 M) : rd M 123 0 = rd M0 123 0 := St.kp h (by decide) (by decide) (by decide)
theorem kp_X12_order_120_123_1 {q : Mem → Prop} {M0 M : Mem} (h : St q ws_X12_order_120 as_X12_order_120 M0 M) : rd M 123 1 = rd M0 123 1 := St.kp h (by decide) (by decide) (by decide)
theorem kp_X12_order_120_124_0 {q : Mem → Prop} {M0 M : Mem} (h : St q ws_X12_order_120 as_X12_order_120 M0 M) : rd M 124 0 = rd M0 124 0 := St.kp h (by decide) (by decide) (by decide)
theorem kp_X12_order_120_124_1 {q : Mem → Prop} {M0 M : Mem} (h : St q ws_X12_order_120 as_X12_order_120 M0 M) : rd M 124 1 = rd M0 124 1 := St.kp h (by decide) (by decide) (by decide)
theorem kp_X12_order_120_120_8 {q : Mem → Prop} {M0 M : Mem} (h : St q ws_X12_order_120 as_X12_order_120 M0 M) : rd M 120 8 = rd M0 120 8 := St.kp h (by decide) (by decide) (by decide)
theorem kp_X12_order_120_120_36 {q : Mem → Prop} {M0 M : Mem} (h : St q ws_X12_order_120 as_X12_order_120 M0 M) : rd M 120 36 = rd M0 120 36 := St.kp h (by decide) (by decide) (by decide)
theorem kp_X12_order_120_120_50 {q : Mem → Prop} {M0 M : Mem} (h : St q ws_X12_order_120 as_X12_order_120 M0 M) : rd M 120 50 = rd M0 120 50 := St.kp h (by decide) (by decide) (by decide)
theorem kp_X12_statement_120_120_37 {q : Mem → Prop} {M0 M : Mem} (h : St q ws_X12_statement_120 as_X12_statement_120 M0 M) : rd M 120 37 = rd M0 120 37 := St.kp h (by decide) (by decide) (by decide)
theorem kp_X12_spot_120_129_1 {q : Mem → Prop} {M0 M : Mem} (h : St q ws_X12_spot_120 as_X12_spot_120 M0 M) : rd M 129 1 = rd M0 129 1 := St.kp h (by decide) (by decide) (by decide)
theorem kp_X12_spot_120_120_3 {q : Mem → Prop} {M0 M : Mem} (h : St q ws_X12_spot_120 as_X12_spot_120 M0 M) : rd M 120 3 = rd M0 120 3 := St.kp h (by decide) (by decide) (by decide)
theorem kp_X12_spot_120_120_5 {q : Mem → Prop} {M0 M : Mem} (h : St q ws_X12_spot_120 as_X12_spot_120 M0 M) : rd M 120 5 = rd M0 120 5 := St.kp h (by decide) (by decide) (by decide)
theorem kp_X12_spot_120_120_8 {q : Mem → Prop} {M0 M : Mem} (h : St q ws_X12_spot_120 as_X12_spot_120 M0 M) : rd M 120 8 = rd M0 120 8 := St.kp h (by decide) (by decide) (by decide)
theorem kp_X12_must_120_120_36 {q : Mem → Prop} {M0 M : Mem} (h : St q ws_X12_must_120 as_X12_must_120 M0 M) : rd M 120 36 = rd M0 120 36 := St.kp h (by decide) (by decide) (by decide)
theorem kp_X12_must_120_120_44 {q : Mem → Prop} {M0 M : Mem} (h : St q ws_X12_must_120 as_X12_must_120 M0 M) : rd M 120 44 = rd M0 120 44 := St.kp h (by decide) (by decide) (by decide)
theorem kp_X12_must_120_120_50 {q : Mem → Prop} {M0 M : Mem} (h : St q ws_X12_must_120 as_X12_must_120 M0 M) : rd M 120 50 = rd M0 120 50 := St.kp h (by decide) (by decide) (by decide)
theorem kp_X12_must_120_129_1 {q : Mem → Prop} {M0 M : Mem} (h : St q ws_X12_must_120 as_X12_must_120 M0 M) : rd M 129 1 = rd M0 129 1 := St.kp h (by decide) (by decide) (by decide)
theorem kp_X12_must_120_136_1 {q : Mem → Prop} {M0 M : Mem} (h : St q ws_X12_must_120 as_X12_must_120 M0 M) : rd M 136 1 = rd M0 136 1 := St.kp h (by decide) (by decide) (by decide)
theorem ka_X12_must_120_151 {q : Mem → Prop} {M0 M : Mem} (h : St q ws_X12_must_120 as_X12_must_120 M0 M) (j : Int) : rd M 151 j = rd M0 151 j := St.ka h (by decide) (by decide) (by decide)
theorem kp_X12_opensBlock_120_120_36 {q : Mem → Prop} {M0 M : Mem} (h : St q ws_X12_opensBlock_120 as_X12_opensBlock_120 M0 M) : rd M 120 36 = rd M0 120 36 := St.kp h (by decide) (by decide) (by decide)
theorem kp_X12_opensBlock_120_129_1 {q : Mem → Prop} {M0 M : Mem} (h : St q ws_X12_opensBlock_120 as_X12_opensBlock_120 M0 M) : rd M 129 1 = rd M0 129 1 := St.kp h (by decide) (by decide) (by decide)
theorem kp_X12_opensBlock_120_136_1 {q : Mem → Prop} {M0 M : Mem} (h : St q ws_X12_opensBlock_120 as_X12_opensBlock_120 M0 M) : rd M 136 1 = rd M0 136 1 := St.kp h (by decide) (by decide) (by decide)
theorem kp_X12_reads_120_120_50 {q : Mem → Prop} {M0 M : Mem} (h : St q ws_X12_reads_120 as_X12_reads_120 M0 M) : rd M 120 50 = rd M0 120 50 := St.kp h (by decide) (by decide) (by decide)
theorem kp_X12_reads_120_129_1 {q : Mem → Prop} {M0 M : Mem} (h : St q ws_X12_reads_120 as_X12_reads_120 M0 M) : rd M 129 1 = rd M0 129 1 := St.kp h (by decide) (by decide) (by decide)
theorem kp_X12_reads_120_136_1 {q : Mem → Prop} {M0 M : Mem} (h : St q ws_X12_reads_120 as_X12_reads_120 M0 M) : rd M 136 1 = rd M0 136 1 := St.kp h (by decide) (by decide) (by decide)
theorem ka_X12_reads_120_137 {q : Mem → Prop} {M0 M : Mem} (h : St q ws_X12_reads_120 as_X12_reads_120 M0 M) (j : Int) : rd M 137 j = rd M0 137 j := St.ka h (by decide) (by decide) (by decide)
theorem ka_X12_reads_120_140 {q : Mem → Prop} {M0 M : Mem} (h : St q ws_X12_reads_120 as_X12_reads_120 M0 M) (j : Int) : rd M 140 j = rd M0 140 j := St.ka h (by decide) (by decide) (by decide)
theorem ka_X12_reads_120_151 {q : Mem → Prop} {M0 M : Mem} (h : St q ws_X12_reads_120 as_X12_reads_120 M0 M) (j : Int) : rd M 151 j = rd M0 151 j := St.ka h (by decide) (by decide) (by decide)
theorem kp_X12_asked_120_120_47 {q : Mem → Prop} {M0 M : Mem} (h : St q ws_X12_asked_120 as_X12_asked_120 M0 M) : rd M 120 47 = rd M0 120 47 := St.kp h (by decide) (by decide) (by decide)
theorem kp_X12_asked_120_129_1 {q : Mem → Prop} {M0 M : Mem} (h : St q ws_X12_asked_120 as_X12_asked_120 M0 M) : rd M 129 1 = rd M0 129 1 := St.kp h (by decide) (by decide) (by decide)
theorem ka_X12_asked_120_137 {q : Mem → Prop} {M0 M : Mem} (h : St q ws_X12_asked_120 as_X12_asked_120 M0 M) (j : Int) : rd M 137 j = rd M0 137 j := St.ka h (by decide) (by decide) (by decide)
theorem ka_X12_asked_120_151 {q : Mem → Prop} {M0 M : Mem} (h : St q ws_X12_asked_120 as_X12_asked_120 M0 M) (j : Int) : rd M 151 j = rd M0 151 j := St.ka h (by decide) (by decide) (by decide)
theorem kp_X12_spot_120_120_36 {q : Mem → Prop} {M0 M : Mem} (h : St q ws_X12_spot_120 as_X12_spot_120 M0 M) : rd M 120 36 = rd M0 120 36 := St.kp h (by decide) (by decide) (by decide)
theorem kp_X12_spot_120_120_43 {q : Mem → Prop} {M0 M : Mem} (h : St q ws_X12_spot_120 as_X12_spot_120 M0 M) : rd M 120 43 = rd M0 120 43 := St.kp h (by decide) (by decide) (by decide)
theorem kp_X12_spot_120_120_44 {q : Mem → Prop} {M0 M : Mem} (h : St q ws_X12_spot_120 as_X12_spot_120 M0 M) : rd M 120 44 = rd M0 120 44 := St.kp h (by decide) (by decide) (by decide)
theorem kp_X12_spot_120_120_46 {q : Mem → Prop} {M0 M : Mem} (h : St q ws_X12_spot_120 as_X12_spot_120 M0 M) : rd M 120 46 = rd M0 120 46 := St.kp h (by decide) (by decide) (by decide)
theorem kp_X12_spot_120_120_47 {q : Mem → Prop} {M0 M : Mem} (h : St q ws_X12_spot_120 as_X12_spot_120 M0 M) : rd M 120 47 = rd M0 120 47 := St.kp h (by decide) (by decide) (by decide)
theorem kp_X12_spot_120_120_50 {q : Mem → Prop} {M0 M : Mem} (h : St q ws_X12_spot_120 as_X12_spot_120 M0 M) : rd M 120 50 = rd M0 120 50 := St.kp h (by decide) (by decide) (by decide)
theorem kp_X12_next_120_129_1 {q : Mem → Prop} {M0 M : Mem} (h : St q ws_X12_next_120 as_X12_next_120 M0 M) : rd M 129 1 = rd M0 129 1 := St.kp h (by decide) (by decide) (by decide)
theorem ka_X12_next_120_137 {q : Mem → Prop} {M0 M : Mem} (h : St q ws_X12_next_120 as_X12_next_120 M0 M) (j : Int) : rd M 137 j = rd M0 137 j := St.ka h (by decide) (by decide) (by decide)
theorem ka_X12_spot_120_150 {q : Mem → Prop} {M0 M : Mem} (h : St q ws_X12_spot_120 as_X12_spot_120 M0 M) (j : Int) : rd M 150 j = rd M0 150 j := St.ka h (by decide) (by decide) (by decide)
theorem ka_X12_spot_120_145 {q : Mem → Prop} {M0 M : Mem} (h : St q ws_X12_spot_120 as_X12_spot_120 M0 M) (j : Int) : rd M 145 j = rd M0 145 j := St.ka h (by decide) (by decide) (by decide)
theorem ka_X12_spot_120_151 {q : Mem → Prop} {M0 M : Mem} (h : St q ws_X12_spot_120 as_X12_spot_120 M0 M) (j : Int) : rd M 151 j = rd M0 151 j := St.ka h (by decide) (by decide) (by decide)
theorem kp_X12_must_120_120_43 {q : Mem → Prop} {M0 M : Mem} (h : St q ws_X12_must_120 as_X12_must_120 M0 M) : rd M 120 43 = rd M0 120 43 := St.kp h (by decide) (by decide) (by decide)
theorem kp_X12_must_120_120_46 {q : Mem → Prop} {M0 M : Mem} (h : St q ws_X12_must_120 as_X12_must_120 M0 M) : rd M 120 46 = rd M0 120 46 := St.kp h (by decide) (by decide) (by decide)
theorem kp_X12_must_120_120_47 {q : Mem → Prop} {M0 M : Mem} (h : St q ws_X12_must_120 as_X12_must_120 M0 M) : rd M 120 47 = rd M0 120 47 := St.kp h (by decide) (by decide) (by decide)
theorem ka_X12_must_120_137 {q : Mem → Prop} {M0 M : Mem} (h : St q ws_X12_must_120 as_X12_must_120 M0 M) (j : Int) : rd M 137 j = rd M0 137 j := St.ka h (by decide) (by decide) (by decide)
theorem ka_X12_must_120_150 {q : Mem → Prop} {M0 M : Mem} (h : St q ws_X12_must_120 as_X12_must_120 M0 M) (j : Int) : rd M 150 j = rd M0 150 j := St.ka h (by decide) (by decide) (by decide)
theorem ka_X12_must_120_145 {q : Mem → Prop} {M0 M : Mem} (h : St q ws_X12_must_120 as_X12_must_120 M0 M) (j : Int) : rd M 145 j = rd M0 145 j := St.ka h (by decide) (by decide) (by decide)
theorem kp_X12_blame_120_129_1 {q : Mem → Prop} {M0 M : Mem} (h : St q ws_X12_blame_120 as_X12_blame_120 M0 M) : rd M 129 1 = rd M0 129 1 := St.kp h (by decide) (by decide) (by decide)
theorem kp_X12_order_120_120_3 {q : Mem → Prop} {M0 M : Mem} (h : St q ws_X12_order_120 as_X12_order_120 M0 M) : rd M 120 3 = rd M0 120 3 := St.kp h (by decide) (by decide) (by decide)
theorem kp_X12_order_120_120_4 {q : Mem → Prop} {M0 M : Mem} (h : St q ws_X12_order_120 as_X12_order_120 M0 M) : rd M 120 4 = rd M0 120 4 := St.kp h (by decide) (by decide) (by decide)
theorem kp_X12_order_120_120_43 {q : Mem → Prop} {M0 M : Mem} (h : St q ws_X12_order_120 as_X12_order_120 M0 M) : rd M 120 43 = rd M0 120 43 := St.kp h (by decide) (by decide) (by decide)
theorem kp_X12_order_120_120_44 {q : Mem → Prop} {M0 M : Mem} (h : St q ws_X12_order_120 as_X12_order_120 M0 M) : rd M 120 44 = rd M0 120 44 := St.kp h (by decide) (by decide) (by decide)
theorem kp_X12_order_120_120_46 {q : Mem → Prop} {M0 M : Mem} (h : St q ws_X12_order_120 as_X12_order_120 M0 M) : rd M 120 46 = rd M0 120 46 := St.kp h (by decide) (by decide) (by decide)
theorem kp_X12_order_120_120_47 {q : Mem → Prop} {M0 M : Mem} (h : St q ws_X12_order_120 as_X12_order_120 M0 M) : rd M 120 47 = rd M0 120 47 := St.kp h (by decide) (by decide) (by decide)
theorem kp_X12_order_120_120_5 {q : Mem → Prop} {M0 M : Mem} (h : St q ws_X12_order_120 as_X12_order_120 M0 M) : rd M 120 5 = rd M0 120 5 := St.kp h (by decide) (by decide) (by decide)
theorem kp_X12_order_120_120_6 {q : Mem → Prop} {M0 M : Mem} (h : St q ws_X12_order_120 as_X12_order_120 M0 M) : rd M 120 6 = rd M0 120 6 := St.kp h (by decide) (by decide) (by decide)
theorem kp_X12_order_120_120_7 {q : Mem → Prop} {M0 M : Mem} (h : St q ws_X12_order_120 as_X12_order_120 M0 M) : rd M 120 7 = rd M0 120 7 := St.kp h (by decide) (by decide) (by decide)
theorem kp_X12_order_120_129_1 {q : Mem → Prop} {M0 M : Mem} (h : St q ws_X12_order_120 as_X12_order_120 M0 M) : rd M 129 1 = rd M0 129 1 := St.kp h (by decide) (by decide) (by decide)
theorem ka_X12_order_120_150 {q : Mem → Prop} {M0 M : Mem} (h : St q ws_X12_order_120 as_X12_order_120 M0 M) (j : Int) : rd M 150 j = rd M0 150 j := St.ka h (by decide) (by decide) (by decide)
theorem ka_X12_order_120_145 {q : Mem → Prop} {M0 M : Mem} (h : St q ws_X12_order_120 as_X12_order_120 M0 M) (j : Int) : rd M 145 j = rd M0 145 j := St.ka h (by decide) (by decide) (by decide)
set_option maxRecDepth 100000 in
set_option maxHeartbeats 4000000 in
theorem sp_X12_statement_120 {l : Launch} {K : EC} {M0 : Mem} (hI : In Pm1 M0) (en_120_37 : rd M0 120 37 = 1)   (hq0 : rd M0 120 3 = 0 ∨ rd M0 120 4 + 1 ≤ rd M0 120 5) (hq1 : rd M0 120 4 ≤ rd M0 120 5) (hq2 : rd M0 120 3 ≠ 1 ∨ rd M0 120 4 + 2 ≤ rd M0 120 5 ∨ rd M0 120 7 < 256) (hq3 : rd M0 120 8 = 0) (hq4 : rd M0 120 50 ≤ rd M0 120 44) (hq5 : rd M0 136 1 + nwv M0 ≤ 2 * rd M0 129 1) (hq6 : rd M0 120 36 + rd M0 120 44 ≤ rd M0 120 4) : Tr l K 5 mX12_statement 0 [(0, (2, 120))] [] M0 (q_X12_statement_120 M0) := by
  have hS : St Pm1 ws_X12_statement_120 as_X12_statement_120 M0 M0 := St.rf hI
  obtain ⟨g120_8, eg120_8⟩ : ∃ v, rd M0 120 8 = v := ⟨_, rfl⟩
  have bg120_8 : 0 ≤ g120_8 ∧ g120_8 ≤ 5 := by rw [← eg120_8]; exact ir_120_8 hI.2.1
  obtain ⟨g120_3, eg120_3⟩ : ∃ v, rd M0 120 3 = v := ⟨_, rfl⟩
  have bg120_3 : 0 ≤ g120_3 ∧ g120_3 ≤ 3 := by rw [← eg120_3]; exact ir_120_3 hI.2.1
  obtain ⟨g120_4, eg120_4⟩ : ∃ v, rd M0 120 4 = v := ⟨_, rfl⟩
  have bg120_4 : 0 ≤ g120_4 ∧ g120_4 ≤ 900 := by rw [← eg120_4]; exact ir_120_4 hI.2.1
  obtain ⟨g120_5, eg120_5⟩ : ∃ v, rd M0 120 5 = v := ⟨_, rfl⟩
  have bg120_5 : 0 ≤ g120_5 ∧ g120_5 ≤ 900 := by rw [← eg120_5]; exact ir_120_5 hI.2.1
  obtain ⟨g120_7, eg120_7⟩ : ∃ v, rd M0 120 7 = v := ⟨_, rfl⟩
  have bg120_7 : (-9223372036854775808) ≤ g120_7 ∧ g120_7 ≤ 9223372036854775807 := by rw [← eg120_7]; exact ir_120_7 hI.2.1
  obtain ⟨g9010_0, eg9010_0⟩ : ∃ v, tav M0 = v := ⟨_, rfl⟩
  have bg9010_0 : (-1) ≤ g9010_0 ∧ g9010_0 ≤ 1800 := by rw [← eg9010_0]; exact (tav_b hI.2.1)
  obtain ⟨g120_6, eg120_6⟩ : ∃ v, rd M0 120 6 = v := ⟨_, rfl⟩
  have bg120_6 : (-2147483648) ≤ g120_6 ∧ g120_6 ≤ 2147483647 := by rw [← eg120_6]; exact ir_120_6 hI.2.1
  obtain ⟨g120_36, eg120_36⟩ : ∃ v, rd M0 120 36 = v := ⟨_, rfl⟩
  have bg120_36 : 0 ≤ g120_36 ∧ g120_36 ≤ 900 := by rw [← eg120_36]; exact ir_120_36 hI.2.1
  obtain ⟨g120_46, eg120_46⟩ : ∃ v, rd M0 120 46 = v := ⟨_, rfl⟩
  have bg120_46 : 0 ≤ g120_46 ∧ g120_46 ≤ 500 := by rw [← eg120_46]; exact ir_120_46 hI.2.1
  obtain ⟨g120_44, eg120_44⟩ : ∃ v, rd M0 120 44 = v := ⟨_, rfl⟩
  have bg120_44 : 0 ≤ g120_44 ∧ g120_44 ≤ 8 := by rw [← eg120_44]; exact ir_120_44 hI.2.1
  obtain ⟨g120_43, eg120_43⟩ : ∃ v, rd M0 120 43 = v := ⟨_, rfl⟩
  have bg120_43 : 0 ≤ g120_43 ∧ g120_43 ≤ 20 := by rw [← eg120_43]; exact ir_120_43 hI.2.1
  obtain ⟨g120_50, eg120_50⟩ : ∃ v, rd M0 120 50 = v := ⟨_, rfl⟩
  have bg120_50 : 0 ≤ g120_50 ∧ g120_50 ≤ 20 := by rw [← eg120_50]; exact ir_120_50 hI.2.1
  obtain ⟨g9001_0, eg9001_0⟩ : ∃ v, nb2v M0 = v := ⟨_, rfl⟩
  have bg9001_0 : 0 ≤ g9001_0 ∧ g9001_0 ≤ 1000000 := by rw [← eg9001_0]; exact (nb2v_b hI.2.1)
  obtain ⟨g9002_0, eg9002_0⟩ : ∃ v, n4v M0 = v := ⟨_, rfl⟩
  have bg9002_0 : 0 ≤ g9002_0 ∧ g9002_0 ≤ 20 := by rw [← eg9002_0]; exact (n4v_b hI.2.1)
  obtain ⟨g9005_0, eg9005_0⟩ : ∃ v, fr0 M0 = v := ⟨_, rfl⟩
  have bg9005_0 : 0 ≤ g9005_0 ∧ g9005_0 ≤ 5 := by rw [← eg9005_0]; exact (fr0_b hI.2.1)
  obtain ⟨g9004_0, eg9004_0⟩ : ∃ v, Dv1 M0 = v := ⟨_, rfl⟩
  have bg9004_0 : (-1000) ≤ g9004_0 ∧ g9004_0 ≤ 1000 := by rw [← eg9004_0]; exact (Dv1_b hI.2.1)
  obtain ⟨g136_1, eg136_1⟩ : ∃ v, rd M0 136 1 = v := ⟨_, rfl⟩
  have bg136_1 : 0 ≤ g136_1 ∧ g136_1 ≤ 200 := by rw [← eg136_1]; exact ir_136_1 hI.2.1
  obtain ⟨g120_47, eg120_47⟩ : ∃ v, rd M0 120 47 = v := ⟨_, rfl⟩
  have bg120_47 : 0 ≤ g120_47 ∧ g120_47 ≤ 1 := by rw [← eg120_47]; exact ir_120_47 hI.2.1
  obtain ⟨g9006_0, eg9006_0⟩ : ∃ v, nwv M0 = v := ⟨_, rfl⟩
  have bg9006_0 : 0 ≤ g9006_0 ∧ g9006_0 ≤ 20 := by rw [← eg9006_0]; exact (nwv_b hI.2.1)
  obtain ⟨g129_1, eg129_1⟩ : ∃ v, rd M0 129 1 = v := ⟨_, rfl⟩
  have bg129_1 : 0 ≤ g129_1 ∧ g129_1 ≤ 60 := by rw [← eg129_1]; exact ir_129_1 hI.2.1
  replace hq0 := hd_i hq0
  replace hq2 := hd_i hq2
  refine Tr.aload_n (pc := 0) (i := 0) d_X12_statement_0 rfl rfl ?_
  refine Tr.callV (pc := 1) (as := []) d_X12_statement_1 s_12_537 ok_X12_order rfl rfl (Nat.le_of_ble_eq_true rfl) (Nat.le_of_ble_eq_true rfl) (by decide) (ty_120 hS.1.1) ?_
  refine Tr.imp (Tr.deep (by decide) (ns_X12_order_120 (G120_3 := g120_3) hS.1.wk (eg120_3))) ?_
  rintro M1 _ ⟨h1, r1, rfl, lr1, ur1, z1_0⟩
  have h1 := St.rn h1 (Pm1.of hS.1.2.2.2.2 (fun _ => (ka_X12_order_120_131 h1 _)) (fun _ => (ka_X12_order_120_137 h1 _)) (fun _ => (ka_X12_order_120_138 h1 _)) (fun _ => (ka_X12_order_120_139 h1 _)) (fun _ => (ka_X12_order_120_140 h1 _)) (fun _ => (ka_X12_order_120_141 h1 _)) (fun _ => (ka_X12_order_120_142 h1 _)) (fun _ => (ka_X12_order_120_143 h1 _)) (fun _ => (ka_X12_order_120_151 h1 _)) (fun _ => (ka_X12_order_120_152 h1 _)) (kp_X12_order_120_126_0 h1) (kp_X12_order_120_126_1 h1) (kp_X12_order_120_136_0 h1) (kp_X12_order_120_136_1 h1) (kp_X12_order_120_123_0 h1) (kp_X12_order_120_123_1 h1) (kp_X12_order_120_124_0 h1) (kp_X12_order_120_124_1 h1) (kp_X12_order_120_120_8 h1) (kp_X12_order_120_120_36 h1) (kp_X12_order_120_120_50 h1))
  have hS := St.tr hS h1 (by decide) (by decide)
  refine Tr.sc [(0, r1)] rfl ?_
  refine Tr.istore_n (pc := 4) (i := 1) (ls2 := [(1, (0, r1)), (0, (2, 120))]) d_X12_statement_4 rfl (by decide) rfl ?_
  refine Tr.iload_n (pc := 5) (i := 1) d_X12_statement_5 rfl rfl ?_
  refine Tr.iconst (pc := 6) d_X12_statement_6 (by decide) ?_
  have J19 : ∀ (M : Mem) (u19_120_8 : Int), St Pm1 ws_X12_statement_120 as_X12_statement_120 M0 M → (0 ≤ u19_120_8 ∧ u19_120_8 ≤ 5) → rd M 120 3 = g120_3 → rd M 120 36 = g120_36 → rd M 120 4 = g120_4 → rd M 120 43 = g120_43 → rd M 120 44 = g120_44 → rd M 120 46 = g120_46 → rd M 120 47 = g120_47 → rd M 120 5 = g120_5 → rd M 120 50 = g120_50 → rd M 120 6 = g120_6 → rd M 120 7 = g120_7 → rd M 120 8 = u19_120_8 → rd M 129 1 = g129_1 → rd M 136 1 = g136_1 → nb2v M = g9001_0 → n4v M = g9002_0 → Dv1 M = g9004_0 → fr0 M = g9005_0 → nwv M = g9006_0 → tav M = g9010_0 → (1 ≤ u19_120_8 ∨ (g120_3 = 1 ∧ 1 ≤ r1)) → Tr l K 5 mX12_statement 19 [(0, (2, 120)), (1, (0, r1))] [] M (q_X12_statement_120 M0) := by
    intro M u19_120_8 hS bu19_120_8 k19_120_3 k19_120_36 k19_120_4 k19_120_43 k19_120_44 k19_120_46 k19_120_47 k19_120_5 k19_120_50 k19_120_6 k19_120_7 k19_120_8 k19_129_1 k19_136_1 k19_9001_0 k19_9002_0 k19_9004_0 k19_9005_0 k19_9006_0 k19_9010_0 t19_0
    replace t19_0 := hd_i t19_0
    refine Tr.aload_n (pc := 19) (i := 0) d_X12_statement_19 rfl rfl ?_
    refine Tr.getf (pc := 20) d_X12_statement_20 f_12_36 (by decide) (by decide) (ty_120 hS.1.1) ?_
    refine Tr.tp u19_120_8 k19_120_8 ?_
    have J49 : ∀ (M : Mem) (u49_120_8 : Int), St Pm1 ws_X12_statement_120 as_X12_statement_120 M0 M → (0 ≤ u49_120_8 ∧ u49_120_8 ≤ 5) → rd M 120 3 = g120_3 → rd M 120 36 = g120_36 → rd M 120 4 = g120_4 → rd M 120 43 = g120_43 → rd M 120 44 = g120_44 → rd M 120 46 = g120_46 → rd M 120 47 = g120_47 → rd M 120 5 = g120_5 → rd M 120 50 = g120_50 → rd M 120 6 = g120_6 → rd M 120 7 = g120_7 → rd M 120 8 = u49_120_8 → rd M 129 1 = g129_1 → rd M 136 1 = g136_1 → nb2v M = g9001_0 → n4v M = g9002_0 → Dv1 M = g9004_0 → fr0 M = g9005_0 → nwv M = g9006_0 → tav M = g9010_0 → (1 ≤ u49_120_8 ∨ (g120_3 = 1 ∧ 1 ≤ r1)) → (1 ≤ u49_120_8 ∨ g129_1 ≤ 59) → Tr l K 5 mX12_statement 49 [(0, (2, 120)), (1, (0, r1))] [] M (q_X12_statement_120 M0) := by
      intro M u49_120_8 hS bu49_120_8 k49_120_3 k49_120_36 k49_120_4 k49_120_43 k49_120_44 k49_120_46 k49_120_47 k49_120_5 k49_120_50 k49_120_6 k49_120_7 k49_120_8 k49_129_1 k49_136_1 k49_9001_0 k49_9002_0 k49_9004_0 k49_9005_0 k49_9006_0 k49_9010_0 t49_0 t49_1
      clear k19_120_3 k19_120_36 k19_120_4 k19_120_43 k19_120_44 k19_120_46 k19_120_47 k19_120_5 k19_120_50 k19_120_6 k19_120_7 k19_120_8 k19_129_1 k19_136_1 k19_9001_0 k19_9002_0 k19_9004_0 k19_9005_0 k19_9006_0 k19_9010_0
      replace t49_0 := hd_i t49_0
      replace t49_1 := hd_i t49_1
      refine Tr.aload_n (pc := 49) (i := 0) d_X12_statement_49 rfl rfl ?_
      refine Tr.getf (pc := 50) d_X12_statement_50 f_12_36 (by decide) (by decide) (ty_120 hS.1.1) ?_
      refine Tr.tp u49_120_8 k49_120_8 ?_
      refine Tr.if_le (pc := 53) (tgt := 57) d_X12_statement_53 rfl (fun c53 => ?_) (fun c53 => ?_)
      · refine Tr.aload_n (pc := 57) (i := 0) d_X12_statement_57 rfl rfl ?_
        refine Tr.iload_n (pc := 58) (i := 1) d_X12_statement_58 rfl rfl ?_
        refine Tr.aload_n (pc := 59) (i := 0) d_X12_statement_59 rfl rfl ?_
        refine Tr.getf (pc := 60) d_X12_statement_60 f_12_72 (by decide) (by decide) (ty_120 hS.1.1) ?_
        refine Tr.tp 129 (fx_120_20 hS.1.1) ?_
        refine Tr.aload_n (pc := 63) (i := 0) d_X12_statement_63 rfl rfl ?_
        refine Tr.getf (pc := 64) d_X12_statement_64 f_12_124 (by decide) (by decide) (ty_120 hS.1.1) ?_
        refine Tr.tp 1 ((kp_X12_statement_120_120_37 hS).trans en_120_37) ?_
        refine Tr.iald (pc := 67) d_X12_statement_67 (ty_129 hS.1.1) (by omega) (by omega) ?_
        refine Tr.tp g129_1 k49_129_1 ?_
        refine Tr.callV (pc := 68) (as := [_, _]) d_X12_statement_68 s_12_531 ok_X12_spot rfl rfl (Nat.le_of_ble_eq_true rfl) (Nat.le_of_ble_eq_true rfl) (by decide) (ty_120 hS.1.1) ?_
        refine Tr.imp (Tr.deep (by decide) (ns_X12_spot_120 (G136_1 := g136_1) hS.1 (k49_136_1) ((kp_X12_statement_120_120_37 hS).trans en_120_37) r1 (by exact (hd_o t49_0).elim (fun h1 => by omega) (fun h1 => by omega)) g129_1 (by exact (hd_o t49_1).elim (fun h1 => by omega) (fun h1 => by omega)) (by omega) (by exact (hd_o t49_0).elim (fun h1 => by omega) (fun h1 => by omega)) (by omega))) ?_
        rintro M68 _ ⟨h68, s68_136_1, es68_136_1, bs68_136_1, r68, rfl, lr68, ur68, z68_0, z68_1, z68_2, z68_3⟩
        have hS := St.tr hS h68 (by decide) (by decide)
        refine Tr.sc [(0, r68)] rfl ?_
        have kz68 : rd M 136 1 = g136_1 := k49_136_1
        have eds : rd M68 137 r68 = r1 := (show rd M68 137 r68 = rd M68 137 (200 + rd M 136 1) from congrArg _ (by omega)).trans z68_3
        refine Tr.istore_n (pc := 71) (i := 2) (ls2 := [(2, (0, r68)), (0, (2, 120)), (1, (0, r1))]) d_X12_statement_71 rfl (by decide) rfl ?_
        refine Tr.aload_n (pc := 72) (i := 0) d_X12_statement_72 rfl rfl ?_
        refine Tr.getf (pc := 73) d_X12_statement_73 f_12_72 (by decide) (by decide) (ty_120 hS.1.1) ?_
        refine Tr.tp 129 (fx_120_20 hS.1.1) ?_
        refine Tr.aload_n (pc := 76) (i := 0) d_X12_statement_76 rfl rfl ?_
        refine Tr.getf (pc := 77) d_X12_statement_77 f_12_124 (by decide) (by decide) (ty_120 hS.1.1) ?_
        refine Tr.tp 1 ((kp_X12_statement_120_120_37 hS).trans en_120_37) ?_
        refine Tr.dup2 (pc := 80) d_X12_statement_80 ne01 ne21 ?_
        refine Tr.iald (pc := 81) d_X12_statement_81 (ty_129 hS.1.1) (by omega) (by omega) ?_
        refine Tr.tp g129_1 ((kp_X12_spot_120_129_1 h68).trans k49_129_1) ?_
        refine Tr.iconst (pc := 82) d_X12_statement_82 (by decide) ?_
        refine Tr.iadd (pc := 83) d_X12_statement_83 ?_
        refine Tr.tp (g129_1 + 1) ((w32_id (by and_intros <;> omega)).trans (by omega)) ?_
        refine Tr.iastS (pc := 84) (P := St Pm1 ws_X12_statement_120 as_X12_statement_120 M0) d_X12_statement_84 (ty_129 hS.1.1) (by omega) (by omega) (st_129_1 hS (by decide) (by exact (hd_o t49_1).elim (fun h1 => by omega) (fun h1 => by omega)) (Pm1.of hS.1.2.2.2.2 (fun _ => rd_wb _ rfl) (fun _ => rd_wb _ rfl) (fun _ => rd_wb _ rfl) (fun _ => rd_wb _ rfl) (fun _ => rd_wb _ rfl) (fun _ => rd_wb _ rfl) (fun _ => rd_wb _ rfl) (fun _ => rd_wb _ rfl) (fun _ => rd_wb _ rfl) (fun _ => rd_wb _ rfl) (rd_wb _ rfl) (rd_wb _ rfl) (rd_wb _ rfl) (rd_wb _ rfl) (rd_wb _ rfl) (rd_wb _ rfl) (rd_wb _ rfl) (rd_wb _ rfl) (rd_wb _ rfl) (rd_wb _ rfl) (rd_wb _ rfl))) (fun M84 hS w84 => ?_)
        refine Tr.aload_n (pc := 85) (i := 0) d_X12_statement_85 rfl rfl ?_
        refine Tr.callV (pc := 86) (as := []) d_X12_statement_86 s_12_396 ok_X12_next rfl rfl (Nat.le_of_ble_eq_true rfl) (Nat.le_of_ble_eq_true rfl) (by decide) (ty_120 hS.1.1) ?_
        refine Tr.imp (Tr.deep (by decide) (ns_X12_next_120 (G120_3 := g120_3) (G120_5 := g120_5) (G120_8 := u49_120_8) (G9010_0 := g9010_0) hS.1 (((Wr.b w84 rfl).trans ((kp_X12_spot_120_120_3 h68).trans k49_120_3))) (((Wr.b w84 rfl).trans ((kp_X12_spot_120_120_5 h68).trans k49_120_5))) (((Wr.b w84 rfl).trans ((kp_X12_spot_120_120_8 h68).trans k49_120_8))) (((tav_of ((Wr.b w84 rfl).trans ((kp_X12_spot_120_120_5 h68).trans rfl)) ((Wr.b w84 rfl).trans ((kp_X12_spot_120_120_3 h68).trans rfl))).trans k49_9010_0)))) ?_
        rintro M86 _ ⟨h86, s86_120_3, s86_120_4, s86_120_5, s86_120_7, s86_120_8, s86_9010_0, es86_120_3, bs86_120_3, es86_120_4, bs86_120_4, es86_120_5, bs86_120_5, es86_120_7, bs86_120_7, es86_120_8, bs86_120_8, es86_9010_0, bs86_9010_0, rfl, z86_0, z86_1, z86_2, z86_3, z86_4, z86_5, z86_6⟩
        have hS := St.tr hS h86 (by decide) (by decide)
        refine Tr.sc [] rfl ?_
        refine Tr.iload_n (pc := 89) (i := 1) d_X12_statement_89 rfl rfl ?_
        refine Tr.iconst (pc := 90) d_X12_statement_90 (by decide) ?_
        have J118 : ∀ (M : Mem) (u118_120_3 u118_120_4 u118_120_5 u118_120_6 u118_120_7 u118_120_8 u118_9004_0 u118_9010_0 : Int), St Pm1 ws_X12_statement_120 as_X12_statement_120 M0 M → (0 ≤ u118_120_3 ∧ u118_120_3 ≤ 3) → (0 ≤ u118_120_4 ∧ u118_120_4 ≤ 900) → (0 ≤ u118_120_5 ∧ u118_120_5 ≤ 900) → ((-2147483648) ≤ u118_120_6 ∧ u118_120_6 ≤ 2147483647) → ((-9223372036854775808) ≤ u118_120_7 ∧ u118_120_7 ≤ 9223372036854775807) → (0 ≤ u118_120_8 ∧ u118_120_8 ≤ 5) → ((-1000) ≤ u118_9004_0 ∧ u118_9004_0 ≤ 1000) → ((-1) ≤ u118_9010_0 ∧ u118_9010_0 ≤ 1800) → rd M 120 3 = u118_120_3 → rd M 120 36 = g120_36 → rd M 120 4 = u118_120_4 → rd M 120 43 = g120_43 → rd M 120 44 = g120_44 → rd M 120 46 = g120_46 → rd M 120 47 = g120_47 → rd M 120 5 = u118_120_5 → rd M 120 50 = g120_50 → rd M 120 6 = u118_120_6 → rd M 120 7 = u118_120_7 → rd M 120 8 = u118_120_8 → rd M 129 1 = (g129_1 + 1) → rd M 136 1 = s68_136_1 → rd M 137 r68 = r1 → nb2v M = g9001_0 → n4v M = g9002_0 → Dv1 M = u118_9004_0 → fr0 M = g9005_0 → nwv M = g9006_0 → tav M = u118_9010_0 → (u118_120_3 = 0 ∨ u118_120_4 + 1 ≤ u118_120_5) → (u118_120_4 ≤ u118_120_5) → (u118_120_3 ≠ 1 ∨ u118_120_4 + 2 ≤ u118_120_5 ∨ u118_120_7 < 256) → (g120_4 ≤ u118_120_4 ∧ g120_5 ≤ u118_120_5 ∧ g9010_0 ≤ u118_9010_0) → (g120_8 = 0 ∨ u118_120_8 = g120_8) → (1 ≤ u118_120_8 ∨ g9010_0 < u118_9010_0) → (g120_50 ≤ g120_44) → (g120_36 + g120_44 ≤ u118_120_4) → (s68_136_1 + g9006_0 + 1 ≤ 2 * (g129_1 + 1)) → (s68_136_1 = g136_1 + 1) → Tr l K 5 mX12_statement 118 [(0, (2, 120)), (1, (0, r1)), (2, (0, r68))] [] M (q_X12_statement_120 M0) := by
          intro M u118_120_3 u118_120_4 u118_120_5 u118_120_6 u118_120_7 u118_120_8 u118_9004_0 u118_9010_0 hS bu118_120_3 bu118_120_4 bu118_120_5 bu118_120_6 bu118_120_7 bu118_120_8 bu118_9004_0 bu118_9010_0 k118_120_3 k118_120_36 k118_120_4 k118_120_43 k118_120_44 k118_120_46 k118_120_47 k118_120_5 k118_120_50 k118_120_6 k118_120_7 k118_120_8 k118_129_1 k118_136_1 k118_137_r6810 k118_9001_0 k118_9002_0 k118_9004_0 k118_9005_0 k118_9006_0 k118_9010_0 t118_0 t118_1 t118_2 t118_3 t118_4 t118_5 t118_6 t118_7 t118_8 t118_9
          clear k49_120_3 k49_120_36 k49_120_4 k49_120_43 k49_120_44 k49_120_46 k49_120_47 k49_120_5 k49_120_50 k49_120_6 k49_120_7 k49_120_8 k49_129_1 k49_136_1 k49_9001_0 k49_9002_0 k49_9004_0 k49_9005_0 k49_9006_0 k49_9010_0 es68_136_1 w84 es86_120_3 es86_120_4 es86_120_5 es86_120_7 es86_120_8 es86_9010_0
          replace t118_0 := hd_i t118_0
          replace t118_2 := hd_i t118_2
          replace t118_4 := hd_i t118_4
          replace t118_5 := hd_i t118_5
          refine Tr.iload_n (pc := 118) (i := 1) d_X12_statement_118 rfl rfl ?_
          refine Tr.iconst (pc := 119) d_X12_statement_119 (by decide) ?_
          have J144 : ∀ (M : Mem) (u144_120_3 u144_120_4 u144_120_5 u144_120_6 u144_120_7 u144_120_8 u144_9010_0 : Int), St Pm1 ws_X12_statement_120 as_X12_statement_120 M0 M → (0 ≤ u144_120_3 ∧ u144_120_3 ≤ 3) → (0 ≤ u144_120_4 ∧ u144_120_4 ≤ 900) → (0 ≤ u144_120_5 ∧ u144_120_5 ≤ 900) → ((-2147483648) ≤ u144_120_6 ∧ u144_120_6 ≤ 2147483647) → ((-9223372036854775808) ≤ u144_120_7 ∧ u144_120_7 ≤ 9223372036854775807) → (0 ≤ u144_120_8 ∧ u144_120_8 ≤ 5) → ((-1) ≤ u144_9010_0 ∧ u144_9010_0 ≤ 1800) → rd M 120 3 = u144_120_3 → rd M 120 36 = g120_36 → rd M 120 4 = u144_120_4 → rd M 120 43 = g120_43 → rd M 120 44 = g120_44 → rd M 120 46 = g120_46 → rd M 120 47 = g120_47 → rd M 120 5 = u144_120_5 → rd M 120 50 = g120_50 → rd M 120 6 = u144_120_6 → rd M 120 7 = u144_120_7 → rd M 120 8 = u144_120_8 → rd M 129 1 = (g129_1 + 1) → rd M 136 1 = s68_136_1 → rd M 137 r68 = r1 → nb2v M = g9001_0 → n4v M = g9002_0 → Dv1 M = u118_9004_0 → fr0 M = g9005_0 → nwv M = g9006_0 → tav M = u144_9010_0 → (u144_120_3 = 0 ∨ u144_120_4 + 1 ≤ u144_120_5) → (u144_120_4 ≤ u144_120_5) → (u144_120_3 ≠ 1 ∨ u144_120_4 + 2 ≤ u144_120_5 ∨ u144_120_7 < 256) → (g120_4 ≤ u144_120_4 ∧ g120_5 ≤ u144_120_5 ∧ g9010_0 ≤ u144_9010_0) → (g120_8 = 0 ∨ u144_120_8 = g120_8) → (1 ≤ u144_120_8 ∨ g9010_0 < u144_9010_0) → (g120_50 ≤ g120_44) → (g120_36 + g120_44 ≤ u144_120_4) → (s68_136_1 + g9006_0 + 1 ≤ 2 * (g129_1 + 1)) → (s68_136_1 = g136_1 + 1) → Tr l K 5 mX12_statement 144 [(0, (2, 120)), (1, (0, r1)), (2, (0, r68))] [] M (q_X12_statement_120 M0) := by
            intro M u144_120_3 u144_120_4 u144_120_5 u144_120_6 u144_120_7 u144_120_8 u144_9010_0 hS bu144_120_3 bu144_120_4 bu144_120_5 bu144_120_6 bu144_120_7 bu144_120_8 bu144_9010_0 k144_120_3 k144_120_36 k144_120_4 k144_120_43 k144_120_44 k144_120_46 k144_120_47 k144_120_5 k144_120_50 k144_120_6 k144_120_7 k144_120_8 k144_129_1 k144_136_1 k144_137_r6810 k144_9001_0 k144_9002_0 k144_9004_0 k144_9005_0 k144_9006_0 k144_9010_0 t144_0 t144_1 t144_2 t144_3 t144_4 t144_5 t144_6 t144_7 t144_8 t144_9
            clear k118_120_3 k118_120_36 k118_120_4 k118_120_43 k118_120_44 k118_120_46 k118_120_47 k118_120_5 k118_120_50 k118_120_6 k118_120_7 k118_120_8 k118_129_1 k118_136_1 k118_137_r6810 k118_9001_0 k118_9002_0 k118_9004_0 k118_9005_0 k118_9006_0 k118_9010_0
            replace t144_0 := hd_i t144_0
            replace t144_2 := hd_i t144_2
            replace t144_4 := hd_i t144_4
            replace t144_5 := hd_i t144_5
            refine Tr.aload_n (pc := 144) (i := 0) d_X12_statement_144 rfl rfl ?_
            refine Tr.getf (pc := 145) d_X12_statement_145 f_12_106 (by decide) (by decide) (ty_120 hS.1.1) ?_
            refine Tr.tp 140 (fx_120_31 hS.1.1) ?_
            refine Tr.iload_n (pc := 148) (i := 2) d_X12_statement_148 rfl rfl ?_
            refine Tr.aload_n (pc := 149) (i := 0) d_X12_statement_149 rfl rfl ?_
            refine Tr.getf (pc := 150) d_X12_statement_150 f_12_121 (by decide) (by decide) (ty_120 hS.1.1) ?_
            refine Tr.tp g120_36 k144_120_36 ?_
            have kx_120_36 : rd M 120 36 = g120_36 := k144_120_36
            have kx_136_1 : rd M 136 1 = s68_136_1 := k144_136_1
            refine Tr.iastS (pc := 153) (P := St Pm1 ws_X12_statement_120 as_X12_statement_120 M0) d_X12_statement_153 (ty_140 hS.1.1) (by omega) (by omega) (sa_140 hS (by decide) (by and_intros <;> omega) (Pm1_from hS.1.2.2.2.2 hS.1.2.1 (by omega) (by omega) (by omega))) (fun M153 hS w153 => ?_)
            obtain ⟨v153_9004, ev153_9004⟩ : ∃ v, Dv1 M153 = v := ⟨_, rfl⟩
            have bv153_9004 : -1000 ≤ v153_9004 ∧ v153_9004 ≤ 1000 := by rw [← ev153_9004]; exact (Dv1_b hS.1.2.1)
            have fv153_9004 : v153_9004 = 0 := by have e9 : rd M153 136 1 = s68_136_1 := ((Wr.b w153 rfl).trans k144_136_1); have h8 := Dv1_0 (M := M153) ((show rd M153 140 (199 + rd M153 136 1) = rd M153 140 r68 from congrArg _ (by omega)).trans (w153.1.trans (show g120_36 = rd M153 120 36 from (((Wr.b w153 rfl).trans k144_120_36)).symm))); have h7 : Dv1 M153 = v153_9004 := ev153_9004; omega
            refine Tr.iload_n (pc := 154) (i := 1) d_X12_statement_154 rfl rfl ?_
            refine Tr.iconst (pc := 155) d_X12_statement_155 (by decide) ?_
            have J179 : ∀ (M : Mem) (u179_120_3 u179_120_4 u179_120_5 u179_120_6 u179_120_7 u179_120_8 u179_120_36 u179_120_43 u179_120_44 u179_120_46 u179_120_47 u179_9001_0 u179_9002_0 u179_9004_0 u179_9005_0 u179_9010_0 : Int), St Pm1 ws_X12_statement_120 as_X12_statement_120 M0 M → (0 ≤ u179_120_3 ∧ u179_120_3 ≤ 3) → (0 ≤ u179_120_4 ∧ u179_120_4 ≤ 900) → (0 ≤ u179_120_5 ∧ u179_120_5 ≤ 900) → ((-2147483648) ≤ u179_120_6 ∧ u179_120_6 ≤ 2147483647) → ((-9223372036854775808) ≤ u179_120_7 ∧ u179_120_7 ≤ 9223372036854775807) → (0 ≤ u179_120_8 ∧ u179_120_8 ≤ 5) → (0 ≤ u179_120_36 ∧ u179_120_36 ≤ 900) → (0 ≤ u179_120_43 ∧ u179_120_43 ≤ 20) → (0 ≤ u179_120_44 ∧ u179_120_44 ≤ 8) → (0 ≤ u179_120_46 ∧ u179_120_46 ≤ 500) → (0 ≤ u179_120_47 ∧ u179_120_47 ≤ 1) → (0 ≤ u179_9001_0 ∧ u179_9001_0 ≤ 1000000) → (0 ≤ u179_9002_0 ∧ u179_9002_0 ≤ 20) → ((-1000) ≤ u179_9004_0 ∧ u179_9004_0 ≤ 1000) → (0 ≤ u179_9005_0 ∧ u179_9005_0 ≤ 5) → ((-1) ≤ u179_9010_0 ∧ u179_9010_0 ≤ 1800) → rd M 120 3 = u179_120_3 → rd M 120 36 = u179_120_36 → rd M 120 4 = u179_120_4 → rd M 120 43 = u179_120_43 → rd M 120 44 = u179_120_44 → rd M 120 46 = u179_120_46 → rd M 120 47 = u179_120_47 → rd M 120 5 = u179_120_5 → rd M 120 50 = g120_50 → rd M 120 6 = u179_120_6 → rd M 120 7 = u179_120_7 → rd M 120 8 = u179_120_8 → rd M 129 1 = (g129_1 + 1) → rd M 136 1 = s68_136_1 → rd M 137 r68 = r1 → rd M 140 r68 = g120_36 → nb2v M = u179_9001_0 → n4v M = u179_9002_0 → Dv1 M = u179_9004_0 → fr0 M = u179_9005_0 → nwv M = g9006_0 → tav M = u179_9010_0 → (u179_120_3 = 0 ∨ u179_120_4 + 1 ≤ u179_120_5) → (u179_120_4 ≤ u179_120_5) → (u179_120_3 ≠ 1 ∨ u179_120_4 + 2 ≤ u179_120_5 ∨ u179_120_7 < 256) → (g120_4 ≤ u179_120_4 ∧ g120_5 ≤ u179_120_5 ∧ g9010_0 ≤ u179_9010_0) → (g120_8 = 0 ∨ u179_120_8 = g120_8) → (1 ≤ u179_120_8 ∨ g9010_0 < u179_9010_0) → (g120_50 ≤ u179_120_44) → (u179_120_36 + u179_120_44 ≤ u179_120_4) → (s68_136_1 + g9006_0 + 1 ≤ 2 * (g129_1 + 1)) → (s68_136_1 = g136_1 + 1) → Tr l K 5 mX12_statement 179 [(0, (2, 120)), (1, (0, r1)), (2, (0, r68))] [] M (q_X12_statement_120 M0) := by
              intro M u179_120_3 u179_120_4 u179_120_5 u179_120_6 u179_120_7 u179_120_8 u179_120_36 u179_120_43 u179_120_44 u179_120_46 u179_120_47 u179_9001_0 u179_9002_0 u179_9004_0 u179_9005_0 u179_9010_0 hS bu179_120_3 bu179_120_4 bu179_120_5 bu179_120_6 bu179_120_7 bu179_120_8 bu179_120_36 bu179_120_43 bu179_120_44 bu179_120_46 bu179_120_47 bu179_9001_0 bu179_9002_0 bu179_9004_0 bu179_9005_0 bu179_9010_0 k179_120_3 k179_120_36 k179_120_4 k179_120_43 k179_120_44 k179_120_46 k179_120_47 k179_120_5 k179_120_50 k179_120_6 k179_120_7 k179_120_8 k179_129_1 k179_136_1 k179_137_r6810 k179_140_r6810 k179_9001_0 k179_9002_0 k179_9004_0 k179_9005_0 k179_9006_0 k179_9010_0 t179_0 t179_1 t179_2 t179_3 t179_4 t179_5 t179_6 t179_7 t179_8 t179_9
              clear k144_120_3 k144_120_36 k144_120_4 k144_120_43 k144_120_44 k144_120_46 k144_120_47 k144_120_5 k144_120_50 k144_120_6 k144_120_7 k144_120_8 k144_129_1 k144_136_1 k144_137_r6810 k144_9001_0 k144_9002_0 k144_9004_0 k144_9005_0 k144_9006_0 k144_9010_0 kx_120_36 kx_136_1 w153 ev153_9004
              replace t179_0 := hd_i t179_0
              replace t179_2 := hd_i t179_2
              replace t179_4 := hd_i t179_4
              replace t179_5 := hd_i t179_5
              refine Tr.aload_n (pc := 179) (i := 0) d_X12_statement_179 rfl rfl ?_
              refine Tr.getf (pc := 180) d_X12_statement_180 f_12_109 (by decide) (by decide) (ty_120 hS.1.1) ?_
              refine Tr.tp 141 (fx_120_32 hS.1.1) ?_
              refine Tr.iload_n (pc := 183) (i := 2) d_X12_statement_183 rfl rfl ?_
              refine Tr.aload_n (pc := 184) (i := 0) d_X12_statement_184 rfl rfl ?_
              refine Tr.getf (pc := 185) d_X12_statement_185 f_12_121 (by decide) (by decide) (ty_120 hS.1.1) ?_
              refine Tr.tp u179_120_36 k179_120_36 ?_
              have kx_120_36 : rd M 120 36 = u179_120_36 := k179_120_36
              have kx_136_1 : rd M 136 1 = s68_136_1 := k179_136_1
              refine Tr.iastS (pc := 188) (P := St Pm1 ws_X12_statement_120 as_X12_statement_120 M0) d_X12_statement_188 (ty_141 hS.1.1) (by omega) (by omega) (sa_141 hS (by decide) (by and_intros <;> omega) (Pm1_to hS.1.2.2.2.2 hS.1.2.1 (by omega) (by omega) (by omega))) (fun M188 hS w188 => ?_)
              refine Tr.aload_n (pc := 189) (i := 0) d_X12_statement_189 rfl rfl ?_
              refine Tr.getf (pc := 190) d_X12_statement_190 f_12_36 (by decide) (by decide) (ty_120 hS.1.1) ?_
              refine Tr.tp u179_120_8 ((Wr.b w188 rfl).trans k179_120_8) ?_
              refine Tr.if_le (pc := 193) (tgt := 197) d_X12_statement_193 rfl (fun c193 => ?_) (fun c193 => ?_)
              · refine Tr.iload_n (pc := 197) (i := 1) d_X12_statement_197 rfl rfl ?_
                refine Tr.bipush (pc := 198) d_X12_statement_198 rfl (by decide) ?_
                refine Tr.icmp_lt (pc := 200) (tgt := 222) d_X12_statement_200 rfl (fun c200 => ?_) (fun c200 => ?_)
                · refine Tr.aload_n (pc := 222) (i := 0) d_X12_statement_222 rfl rfl ?_
                  refine Tr.bipush (pc := 223) d_X12_statement_223 rfl (by decide) ?_
                  refine Tr.callV (pc := 225) (as := [_]) d_X12_statement_225 s_12_529 ok_X12_must rfl rfl (Nat.le_of_ble_eq_true rfl) (Nat.le_of_ble_eq_true rfl) (by decide) (ty_120 hS.1.1) ?_
                  refine Tr.imp (Tr.deep (by decide) (ns_X12_must_120 (G120_3 := u179_120_3) (G120_4 := u179_120_4) (G120_5 := u179_120_5) (G120_7 := u179_120_7) (G120_8 := u179_120_8) (G9010_0 := u179_9010_0) hS.1 (((Wr.b w188 rfl).trans k179_120_3)) (((Wr.b w188 rfl).trans k179_120_4)) (((Wr.b w188 rfl).trans k179_120_5)) (((Wr.b w188 rfl).trans k179_120_7)) (((Wr.b w188 rfl).trans k179_120_8)) (((tav_of ((Wr.b w188 rfl).trans rfl) ((Wr.b w188 rfl).trans rfl)).trans k179_9010_0)) 59 (by omega) (by first | exact (hd_o t179_0) | exact (hd_o t179_0).elim (fun h1 => by omega) (fun h1 => by omega)) (by omega) (by first | exact (hd_o t179_2) | exact (hd_o t179_2).elim (fun h1 => by omega) (fun h1 => h1.elim (fun h1 => by omega) (fun h1 => by omega))))) ?_
                  rintro M225 _ ⟨h225, s225_120_3, s225_120_4, s225_120_5, s225_120_7, s225_120_8, s225_9010_0, es225_120_3, bs225_120_3, es225_120_4, bs225_120_4, es225_120_5, bs225_120_5, es225_120_7, bs225_120_7, es225_120_8, bs225_120_8, es225_9010_0, bs225_9010_0, rfl, z225_0, z225_1, z225_2, z225_3, z225_4, z225_5⟩
                  have hS := St.tr hS h225 (by decide) (by decide)
                  refine Tr.sc [] rfl ?_
                  have kr_120_3 : rd M225 120 3 = s225_120_3 := es225_120_3
                  have kr_120_4 : rd M225 120 4 = s225_120_4 := es225_120_4
                  have kr_120_5 : rd M225 120 5 = s225_120_5 := es225_120_5
                  have kr_120_7 : rd M225 120 7 = s225_120_7 := es225_120_7
                  have kr_120_8 : rd M225 120 8 = s225_120_8 := es225_120_8
                  have kr_120_36 : rd M225 120 36 = u179_120_36 := ((kp_X12_must_120_120_36 h225).trans ((Wr.b w188 rfl).trans k179_120_36))
                  have kr_120_44 : rd M225 120 44 = u179_120_44 := ((kp_X12_must_120_120_44 h225).trans ((Wr.b w188 rfl).trans k179_120_44))
                  have kr_120_50 : rd M225 120 50 = g120_50 := ((kp_X12_must_120_120_50 h225).trans ((Wr.b w188 rfl).trans k179_120_50))
                  have kr_129_1 : rd M225 129 1 = (g129_1 + 1) := ((kp_X12_must_120_129_1 h225).trans ((Wr.b w188 rfl).trans k179_129_1))
                  have kr_136_1 : rd M225 136 1 = s68_136_1 := ((kp_X12_must_120_136_1 h225).trans ((Wr.b w188 rfl).trans k179_136_1))
                  have kr_9006_0 : nwv M225 = g9006_0 := ((nwv_of (fun j => ((ka_X12_must_120_151 h225 _).trans ((Wr.b w188 rfl).trans rfl))) ((kp_X12_must_120_120_50 h225).trans ((Wr.b w188 rfl).trans rfl))).trans k179_9006_0)
                  have kr_9010_0 : tav M225 = s225_9010_0 := es225_9010_0
                  exact Tr.vret (pc := 228) d_X12_statement_228 rfl ⟨hS, rfl, (by first | exact (hd_o z225_0) | exact (hd_o z225_0).elim (fun h1 => by omega) (fun h1 => by omega)), (by omega), (by first | exact (hd_o z225_2) | exact (hd_o z225_2).elim (fun h1 => by omega) (fun h1 => h1.elim (fun h1 => by omega) (fun h1 => by omega))), (by and_intros <;> omega), (by omega), (by exact (hd_o z225_5).elim (fun h1 => by omega) (fun h1 => by omega)), (by omega), (by omega), (by omega)⟩
                · refine Tr.aload_n (pc := 203) (i := 0) d_X12_statement_203 rfl rfl ?_
                  refine Tr.iload_n (pc := 204) (i := 1) d_X12_statement_204 rfl rfl ?_
                  refine Tr.bipush (pc := 205) d_X12_statement_205 rfl (by decide) ?_
                  have J215 : ∀ (M : Mem) (q215_1 : Int), St Pm1 ws_X12_statement_120 as_X12_statement_120 M0 M → (0 ≤ q215_1 ∧ q215_1 ≤ 2) → rd M 120 3 = u179_120_3 → rd M 120 36 = u179_120_36 → rd M 120 4 = u179_120_4 → rd M 120 43 = u179_120_43 → rd M 120 44 = u179_120_44 → rd M 120 46 = u179_120_46 → rd M 120 47 = u179_120_47 → rd M 120 5 = u179_120_5 → rd M 120 50 = g120_50 → rd M 120 6 = u179_120_6 → rd M 120 7 = u179_120_7 → rd M 120 8 = u179_120_8 → rd M 129 1 = (g129_1 + 1) → rd M 136 1 = s68_136_1 → rd M 137 r68 = r1 → rd M 140 r68 = g120_36 → rd M 141 r68 = u179_120_36 → nb2v M = u179_9001_0 → n4v M = u179_9002_0 → Dv1 M = u179_9004_0 → fr0 M = u179_9005_0 → nwv M = g9006_0 → tav M = u179_9010_0 → Tr l K 5 mX12_statement 215 [(2, (0, r68))] [(0, q215_1), (2, 120)] M (q_X12_statement_120 M0) := by
                    intro M q215_1 hS bq215_1 k215_120_3 k215_120_36 k215_120_4 k215_120_43 k215_120_44 k215_120_46 k215_120_47 k215_120_5 k215_120_50 k215_120_6 k215_120_7 k215_120_8 k215_129_1 k215_136_1 k215_137_r6810 k215_140_r6810 k215_141_r6810 k215_9001_0 k215_9002_0 k215_9004_0 k215_9005_0 k215_9006_0 k215_9010_0
                    clear k179_120_3 k179_120_36 k179_120_4 k179_120_43 k179_120_44 k179_120_46 k179_120_47 k179_120_5 k179_120_50 k179_120_6 k179_120_7 k179_120_8 k179_129_1 k179_136_1 k179_137_r6810 k179_140_r6810 k179_9001_0 k179_9002_0 k179_9004_0 k179_9005_0 k179_9006_0 k179_9010_0 kx_120_36 kx_136_1 w188
                    refine Tr.iload_n (pc := 215) (i := 2) d_X12_statement_215 rfl rfl ?_
                    refine Tr.callV (pc := 216) (as := [_, _]) d_X12_statement_216 s_12_534 ok_X12_opensBlock rfl rfl (Nat.le_of_ble_eq_true rfl) (Nat.le_of_ble_eq_true rfl) (by decide) (ty_120 hS.1.1) ?_
                    have kp216_137 : rd M 137 r68 = r1 := k215_137_r6810
                    refine Tr.imp (Tr.deep (by decide) (ns_X12_opensBlock_120 (G120_3 := u179_120_3) (G120_4 := u179_120_4) (G120_5 := u179_120_5) (G120_7 := u179_120_7) (G120_8 := u179_120_8) (G120_36 := u179_120_36) (G120_44 := u179_120_44) (G120_50 := g120_50) (G136_1 := s68_136_1) (G9006_0 := g9006_0) (G9010_0 := u179_9010_0) hS.1 (k215_120_3) (k215_120_4) (k215_120_5) (k215_120_7) (k215_120_8) (k215_120_36) (k215_120_44) (k215_120_50) (k215_136_1) (k215_9006_0) (k215_9010_0) q215_1 (by and_intros <;> omega) r68 (by and_intros <;> omega) (by first | exact (hd_o t179_0) | exact (hd_o t179_0).elim (fun h1 => by omega) (fun h1 => by omega)) (by omega) (by first | exact (hd_o t179_2) | exact (hd_o t179_2).elim (fun h1 => by omega) (fun h1 => h1.elim (fun h1 => by omega) (fun h1 => by omega))) (by omega) (by omega) (by and_intros <;> omega) (by omega))) ?_
                    rintro M216 _ ⟨h216, s216_120_3, s216_120_4, s216_120_5, s216_120_7, s216_120_8, s216_120_44, s216_120_50, s216_9006_0, s216_9010_0, es216_120_3, bs216_120_3, es216_120_4, bs216_120_4, es216_120_5, bs216_120_5, es216_120_7, bs216_120_7, es216_120_8, bs216_120_8, es216_120_44, bs216_120_44, es216_120_50, bs216_120_50, es216_9006_0, bs216_9006_0, es216_9010_0, bs216_9010_0, rfl, z216_0, z216_1, z216_2, z216_3, z216_4, z216_5, z216_6, z216_7, z216_8⟩
                    have hS := St.tr hS h216 (by decide) (by decide)
                    refine Tr.sc [] rfl ?_
                    refine Tr.goto (pc := 219) (tgt := 228) d_X12_statement_219 rfl ?_
                    have kr_120_3 : rd M216 120 3 = s216_120_3 := es216_120_3
                    have kr_120_4 : rd M216 120 4 = s216_120_4 := es216_120_4
                    have kr_120_5 : rd M216 120 5 = s216_120_5 := es216_120_5
                    have kr_120_7 : rd M216 120 7 = s216_120_7 := es216_120_7
                    have kr_120_8 : rd M216 120 8 = s216_120_8 := es216_120_8
                    have kr_120_36 : rd M216 120 36 = u179_120_36 := ((kp_X12_opensBlock_120_120_36 h216).trans k215_120_36)
                    have kr_120_44 : rd M216 120 44 = s216_120_44 := es216_120_44
                    have kr_120_50 : rd M216 120 50 = s216_120_50 := es216_120_50
                    have kr_129_1 : rd M216 129 1 = (g129_1 + 1) := ((kp_X12_opensBlock_120_129_1 h216).trans k215_129_1)
                    have kr_136_1 : rd M216 136 1 = s68_136_1 := ((kp_X12_opensBlock_120_136_1 h216).trans k215_136_1)
                    have kr_9006_0 : nwv M216 = s216_9006_0 := es216_9006_0
                    have kr_9010_0 : tav M216 = s216_9010_0 := es216_9010_0
                    exact Tr.vret (pc := 228) d_X12_statement_228 rfl ⟨hS, rfl, (by first | exact (hd_o z216_0) | exact (hd_o z216_0).elim (fun h1 => by omega) (fun h1 => by omega)), (by omega), (by first | exact (hd_o z216_2) | exact (hd_o z216_2).elim (fun h1 => by omega) (fun h1 => h1.elim (fun h1 => by omega) (fun h1 => by omega))), (by and_intros <;> omega), (by omega), (by exact (hd_o z216_5).elim (fun h1 => by omega) (fun h1 => by omega)), (by exact (hd_o z216_8).elim (fun h1 => by omega) (fun h1 => by omega)), (by omega), (by omega)⟩
                  refine Tr.icmp_ne (pc := 207) (tgt := 214) d_X12_statement_207 rfl (fun c207 => ?_) (fun c207 => ?_)
                  · have c207b : 8 ≤ r1 ∧ r1 ≤ 8 := by omega
                    replace c207 := hd_i c207
                    refine Tr.iconst (pc := 214) d_X12_statement_214 (by decide) ?_
                    refine Tr.pick [2] (ls2 := [(2, (0, r68))]) rfl ?_
                    exact J215 _ _ hS (by omega) ((Wr.b w188 rfl).trans k179_120_3) ((Wr.b w188 rfl).trans k179_120_36) ((Wr.b w188 rfl).trans k179_120_4) ((Wr.b w188 rfl).trans k179_120_43) ((Wr.b w188 rfl).trans k179_120_44) ((Wr.b w188 rfl).trans k179_120_46) ((Wr.b w188 rfl).trans k179_120_47) ((Wr.b w188 rfl).trans k179_120_5) ((Wr.b w188 rfl).trans k179_120_50) ((Wr.b w188 rfl).trans k179_120_6) ((Wr.b w188 rfl).trans k179_120_7) ((Wr.b w188 rfl).trans k179_120_8) ((Wr.b w188 rfl).trans k179_129_1) ((Wr.b w188 rfl).trans k179_136_1) ((Wr.b w188 rfl).trans k179_137_r6810) ((Wr.b w188 rfl).trans k179_140_r6810) w188.1 ((nb2v_of (fun j => ((Wr.b w188 rfl).trans rfl)) ((Wr.b w188 rfl).trans rfl)).trans k179_9001_0) ((n4v_of (fun j => ((Wr.b w188 rfl).trans rfl)) ((Wr.b w188 rfl).trans rfl)).trans k179_9002_0) ((Dv1_of (fun j => ((Wr.b w188 rfl).trans rfl)) (fun j => ((Wr.b w188 rfl).trans rfl)) ((Wr.b w188 rfl).trans rfl) ((Wr.b w188 rfl).trans rfl)).trans k179_9004_0) ((fr0_of (fun j => ((Wr.b w188 rfl).trans rfl))).trans k179_9005_0) ((nwv_of (fun j => ((Wr.b w188 rfl).trans rfl)) ((Wr.b w188 rfl).trans rfl)).trans k179_9006_0) ((tav_of ((Wr.b w188 rfl).trans rfl) ((Wr.b w188 rfl).trans rfl)).trans k179_9010_0)
                  · refine Tr.iconst (pc := 210) d_X12_statement_210 (by decide) ?_
                    refine Tr.goto (pc := 211) (tgt := 215) d_X12_statement_211 rfl ?_
                    refine Tr.pick [2] (ls2 := [(2, (0, r68))]) rfl ?_
                    exact J215 _ _ hS (by omega) ((Wr.b w188 rfl).trans k179_120_3) ((Wr.b w188 rfl).trans k179_120_36) ((Wr.b w188 rfl).trans k179_120_4) ((Wr.b w188 rfl).trans k179_120_43) ((Wr.b w188 rfl).trans k179_120_44) ((Wr.b w188 rfl).trans k179_120_46) ((Wr.b w188 rfl).trans k179_120_47) ((Wr.b w188 rfl).trans k179_120_5) ((Wr.b w188 rfl).trans k179_120_50) ((Wr.b w188 rfl).trans k179_120_6) ((Wr.b w188 rfl).trans k179_120_7) ((Wr.b w188 rfl).trans k179_120_8) ((Wr.b w188 rfl).trans k179_129_1) ((Wr.b w188 rfl).trans k179_136_1) ((Wr.b w188 rfl).trans k179_137_r6810) ((Wr.b w188 rfl).trans k179_140_r6810) w188.1 ((nb2v_of (fun j => ((Wr.b w188 rfl).trans rfl)) ((Wr.b w188 rfl).trans rfl)).trans k179_9001_0) ((n4v_of (fun j => ((Wr.b w188 rfl).trans rfl)) ((Wr.b w188 rfl).trans rfl)).trans k179_9002_0) ((Dv1_of (fun j => ((Wr.b w188 rfl).trans rfl)) (fun j => ((Wr.b w188 rfl).trans rfl)) ((Wr.b w188 rfl).trans rfl) ((Wr.b w188 rfl).trans rfl)).trans k179_9004_0) ((fr0_of (fun j => ((Wr.b w188 rfl).trans rfl))).trans k179_9005_0) ((nwv_of (fun j => ((Wr.b w188 rfl).trans rfl)) ((Wr.b w188 rfl).trans rfl)).trans k179_9006_0) ((tav_of ((Wr.b w188 rfl).trans rfl) ((Wr.b w188 rfl).trans rfl)).trans k179_9010_0)
              · have kr_120_3 : rd M188 120 3 = u179_120_3 := ((Wr.b w188 rfl).trans k179_120_3)
                have kr_120_4 : rd M188 120 4 = u179_120_4 := ((Wr.b w188 rfl).trans k179_120_4)
                have kr_120_5 : rd M188 120 5 = u179_120_5 := ((Wr.b w188 rfl).trans k179_120_5)
                have kr_120_7 : rd M188 120 7 = u179_120_7 := ((Wr.b w188 rfl).trans k179_120_7)
                have kr_120_8 : rd M188 120 8 = u179_120_8 := ((Wr.b w188 rfl).trans k179_120_8)
                have kr_120_36 : rd M188 120 36 = u179_120_36 := ((Wr.b w188 rfl).trans k179_120_36)
                have kr_120_44 : rd M188 120 44 = u179_120_44 := ((Wr.b w188 rfl).trans k179_120_44)
                have kr_120_50 : rd M188 120 50 = g120_50 := ((Wr.b w188 rfl).trans k179_120_50)
                have kr_129_1 : rd M188 129 1 = (g129_1 + 1) := ((Wr.b w188 rfl).trans k179_129_1)
                have kr_136_1 : rd M188 136 1 = s68_136_1 := ((Wr.b w188 rfl).trans k179_136_1)
                have kr_9006_0 : nwv M188 = g9006_0 := ((nwv_of (fun j => ((Wr.b w188 rfl).trans rfl)) ((Wr.b w188 rfl).trans rfl)).trans k179_9006_0)
                have kr_9010_0 : tav M188 = u179_9010_0 := ((tav_of ((Wr.b w188 rfl).trans rfl) ((Wr.b w188 rfl).trans rfl)).trans k179_9010_0)
                exact Tr.vret (pc := 196) d_X12_statement_196 rfl ⟨hS, rfl, (by first | exact (hd_o t179_0) | exact (hd_o t179_0).elim (fun h1 => by omega) (fun h1 => by omega)), (by omega), (by first | exact (hd_o t179_2) | exact (hd_o t179_2).elim (fun h1 => by omega) (fun h1 => h1.elim (fun h1 => by omega) (fun h1 => by omega))), (by and_intros <;> omega), (by first | exact (hd_o t179_4) | exact (hd_o t179_4).elim (fun h1 => by omega) (fun h1 => by omega)), (by first | exact (hd_o t179_5) | exact (hd_o t179_5).elim (fun h1 => by omega) (fun h1 => by omega)), (by omega), (by omega), (by omega)⟩
            refine Tr.icmp_eq (pc := 156) (tgt := 179) d_X12_statement_156 rfl (fun c156 => ?_) (fun c156 => ?_)
            · refine Tr.pick [0, 1, 2] (ls2 := [(0, (2, 120)), (1, (0, r1)), (2, (0, r68))]) rfl ?_
              exact J179 _ _ _ _ _ _ _ _ _ _ _ _ _ _ _ _ _ hS (by and_intros <;> omega) (by and_intros <;> omega) (by and_intros <;> omega) (by and_intros <;> omega) (by omega) (by and_intros <;> omega) (by and_intros <;> omega) (by and_intros <;> omega) (by and_intros <;> omega) (by and_intros <;> omega) (by and_intros <;> omega) (by and_intros <;> omega) (by and_intros <;> omega) (by and_intros <;> omega) (by and_intros <;> omega) (by and_intros <;> omega) ((Wr.b w153 rfl).trans k144_120_3) ((Wr.b w153 rfl).trans k144_120_36) ((Wr.b w153 rfl).trans k144_120_4) ((Wr.b w153 rfl).trans k144_120_43) ((Wr.b w153 rfl).trans k144_120_44) ((Wr.b w153 rfl).trans k144_120_46) ((Wr.b w153 rfl).trans k144_120_47) ((Wr.b w153 rfl).trans k144_120_5) ((Wr.b w153 rfl).trans k144_120_50) ((Wr.b w153 rfl).trans k144_120_6) ((Wr.b w153 rfl).trans k144_120_7) ((Wr.b w153 rfl).trans k144_120_8) ((Wr.b w153 rfl).trans k144_129_1) ((Wr.b w153 rfl).trans k144_136_1) ((Wr.b w153 rfl).trans k144_137_r6810) w153.1 ((nb2v_of (fun j => ((Wr.b w153 rfl).trans rfl)) ((Wr.b w153 rfl).trans rfl)).trans k144_9001_0) ((n4v_of (fun j => ((Wr.b w153 rfl).trans rfl)) ((Wr.b w153 rfl).trans rfl)).trans k144_9002_0) ev153_9004 ((fr0_of (fun j => ((Wr.b w153 rfl).trans rfl))).trans k144_9005_0) ((nwv_of (fun j => ((Wr.b w153 rfl).trans rfl)) ((Wr.b w153 rfl).trans rfl)).trans k144_9006_0) ((tav_of ((Wr.b w153 rfl).trans rfl) ((Wr.b w153 rfl).trans rfl)).trans k144_9010_0) (by first | exact (hd_o t144_0) | exact (hd_o t144_0).elim (fun h1 => by omega) (fun h1 => by omega)) (by omega) (by first | exact (hd_o t144_2) | exact (hd_o t144_2).elim (fun h1 => by omega) (fun h1 => h1.elim (fun h1 => by omega) (fun h1 => by omega))) (by and_intros <;> omega) (by first | exact (hd_o t144_4) | exact (hd_o t144_4).elim (fun h1 => by omega) (fun h1 => by omega)) (by first | exact (hd_o t144_5) | exact (hd_o t144_5).elim (fun h1 => by omega) (fun h1 => by omega)) (by omega) (by omega) (by omega) (by omega)
            · replace c156 := hd_i c156
              refine Tr.iload_n (pc := 159) (i := 1) d_X12_statement_159 rfl rfl ?_
              refine Tr.iconst (pc := 160) d_X12_statement_160 (by decide) ?_
              refine Tr.icmp_eq (pc := 161) (tgt := 179) d_X12_statement_161 rfl (fun c161 => ?_) (fun c161 => ?_)
              · refine Tr.pick [0, 1, 2] (ls2 := [(0, (2, 120)), (1, (0, r1)), (2, (0, r68))]) rfl ?_
                exact J179 _ _ _ _ _ _ _ _ _ _ _ _ _ _ _ _ _ hS (by and_intros <;> omega) (by and_intros <;> omega) (by and_intros <;> omega) (by and_intros <;> omega) (by omega) (by and_intros <;> omega) (by and_intros <;> omega) (by and_intros <;> omega) (by and_intros <;> omega) (by and_intros <;> omega) (by and_intros <;> omega) (by and_intros <;> omega) (by and_intros <;> omega) (by and_intros <;> omega) (by and_intros <;> omega) (by and_intros <;> omega) ((Wr.b w153 rfl).trans k144_120_3) ((Wr.b w153 rfl).trans k144_120_36) ((Wr.b w153 rfl).trans k144_120_4) ((Wr.b w153 rfl).trans k144_120_43) ((Wr.b w153 rfl).trans k144_120_44) ((Wr.b w153 rfl).trans k144_120_46) ((Wr.b w153 rfl).trans k144_120_47) ((Wr.b w153 rfl).trans k144_120_5) ((Wr.b w153 rfl).trans k144_120_50) ((Wr.b w153 rfl).trans k144_120_6) ((Wr.b w153 rfl).trans k144_120_7) ((Wr.b w153 rfl).trans k144_120_8) ((Wr.b w153 rfl).trans k144_129_1) ((Wr.b w153 rfl).trans k144_136_1) ((Wr.b w153 rfl).trans k144_137_r6810) w153.1 ((nb2v_of (fun j => ((Wr.b w153 rfl).trans rfl)) ((Wr.b w153 rfl).trans rfl)).trans k144_9001_0) ((n4v_of (fun j => ((Wr.b w153 rfl).trans rfl)) ((Wr.b w153 rfl).trans rfl)).trans k144_9002_0) ev153_9004 ((fr0_of (fun j => ((Wr.b w153 rfl).trans rfl))).trans k144_9005_0) ((nwv_of (fun j => ((Wr.b w153 rfl).trans rfl)) ((Wr.b w153 rfl).trans rfl)).trans k144_9006_0) ((tav_of ((Wr.b w153 rfl).trans rfl) ((Wr.b w153 rfl).trans rfl)).trans k144_9010_0) (by first | exact (hd_o t144_0) | exact (hd_o t144_0).elim (fun h1 => by omega) (fun h1 => by omega)) (by omega) (by first | exact (hd_o t144_2) | exact (hd_o t144_2).elim (fun h1 => by omega) (fun h1 => h1.elim (fun h1 => by omega) (fun h1 => by omega))) (by and_intros <;> omega) (by first | exact (hd_o t144_4) | exact (hd_o t144_4).elim (fun h1 => by omega) (fun h1 => by omega)) (by first | exact (hd_o t144_5) | exact (hd_o t144_5).elim (fun h1 => by omega) (fun h1 => by omega)) (by omega) (by omega) (by omega) (by omega)
              · replace c161 := hd_i c161
                refine Tr.aload_n (pc := 164) (i := 0) d_X12_statement_164 rfl rfl ?_
                refine Tr.iload_n (pc := 165) (i := 1) d_X12_statement_165 rfl rfl ?_
                refine Tr.bipush (pc := 166) d_X12_statement_166 rfl (by decide) ?_
                have J176 : ∀ (M : Mem) (q176_1 : Int), St Pm1 ws_X12_statement_120 as_X12_statement_120 M0 M → (0 ≤ q176_1 ∧ q176_1 ≤ 1) → rd M 120 3 = u144_120_3 → rd M 120 36 = g120_36 → rd M 120 4 = u144_120_4 → rd M 120 43 = g120_43 → rd M 120 44 = g120_44 → rd M 120 46 = g120_46 → rd M 120 47 = g120_47 → rd M 120 5 = u144_120_5 → rd M 120 50 = g120_50 → rd M 120 6 = u144_120_6 → rd M 120 7 = u144_120_7 → rd M 120 8 = u144_120_8 → rd M 129 1 = (g129_1 + 1) → rd M 136 1 = s68_136_1 → rd M 137 r68 = r1 → rd M 140 r68 = g120_36 → nb2v M = g9001_0 → n4v M = g9002_0 → Dv1 M = v153_9004 → fr0 M = g9005_0 → nwv M = g9006_0 → tav M = u144_9010_0 → (u144_120_3 = 0 ∨ u144_120_4 + 1 ≤ u144_120_5) → (u144_120_4 ≤ u144_120_5) → (u144_120_3 ≠ 1 ∨ u144_120_4 + 2 ≤ u144_120_5 ∨ u144_120_7 < 256) → (g120_4 ≤ u144_120_4 ∧ g120_5 ≤ u144_120_5 ∧ g9010_0 ≤ u144_9010_0) → (g120_8 = 0 ∨ u144_120_8 = g120_8) → (1 ≤ u144_120_8 ∨ g9010_0 < u144_9010_0) → (g120_50 ≤ g120_44) → (g120_36 + g120_44 ≤ u144_120_4) → (s68_136_1 + g9006_0 + 1 ≤ 2 * (g129_1 + 1)) → (s68_136_1 = g136_1 + 1) → Tr l K 5 mX12_statement 176 [(0, (2, 120)), (1, (0, r1)), (2, (0, r68))] [(0, q176_1), (2, 120)] M (q_X12_statement_120 M0) := by
                  intro M q176_1 hS bq176_1 k176_120_3 k176_120_36 k176_120_4 k176_120_43 k176_120_44 k176_120_46 k176_120_47 k176_120_5 k176_120_50 k176_120_6 k176_120_7 k176_120_8 k176_129_1 k176_136_1 k176_137_r6810 k176_140_r6810 k176_9001_0 k176_9002_0 k176_9004_0 k176_9005_0 k176_9006_0 k176_9010_0 t176_0 t176_1 t176_2 t176_3 t176_4 t176_5 t176_6 t176_7 t176_8 t176_9
                  clear k144_120_3 k144_120_36 k144_120_4 k144_120_43 k144_120_44 k144_120_46 k144_120_47 k144_120_5 k144_120_50 k144_120_6 k144_120_7 k144_120_8 k144_129_1 k144_136_1 k144_137_r6810 k144_9001_0 k144_9002_0 k144_9004_0 k144_9005_0 k144_9006_0 k144_9010_0 kx_120_36 kx_136_1 w153 ev153_9004
                  replace t176_0 := hd_i t176_0
                  replace t176_2 := hd_i t176_2
                  replace t176_4 := hd_i t176_4
                  replace t176_5 := hd_i t176_5
                  refine Tr.callV (pc := 176) (as := [_]) d_X12_statement_176 s_12_541 ok_X12_reads rfl rfl (Nat.le_of_ble_eq_true rfl) (Nat.le_of_ble_eq_true rfl) (by decide) (ty_120 hS.1.1) ?_
                  refine Tr.imp (Tr.deep (by decide) (ns_X12_reads_120 (G120_3 := u144_120_3) (G120_4 := u144_120_4) (G120_5 := u144_120_5) (G120_7 := u144_120_7) (G120_8 := u144_120_8) (G120_36 := g120_36) (G120_44 := g120_44) (G120_50 := g120_50) (G136_1 := s68_136_1) (G9004_0 := v153_9004) (G9010_0 := u144_9010_0) hS.1 (k176_120_3) (k176_120_4) (k176_120_5) (k176_120_7) (k176_120_8) (k176_120_36) (k176_120_44) (k176_120_50) (k176_136_1) (k176_9004_0) (k176_9010_0) ((kp_X12_statement_120_120_37 hS).trans en_120_37) q176_1 (by and_intros <;> omega) (by first | exact (hd_o t176_0) | exact (hd_o t176_0).elim (fun h1 => by omega) (fun h1 => by omega)) (by omega) (by first | exact (hd_o t176_2) | exact (hd_o t176_2).elim (fun h1 => by omega) (fun h1 => h1.elim (fun h1 => by omega) (fun h1 => by omega))) (by omega) (by omega) (by omega) (by omega))) ?_
                  rintro M176 _ ⟨h176, s176_120_3, s176_120_4, s176_120_5, s176_120_7, s176_120_8, s176_120_36, s176_120_44, s176_9010_0, es176_120_3, bs176_120_3, es176_120_4, bs176_120_4, es176_120_5, bs176_120_5, es176_120_7, bs176_120_7, es176_120_8, bs176_120_8, es176_120_36, bs176_120_36, es176_120_44, bs176_120_44, es176_9010_0, bs176_9010_0, rfl, z176_0, z176_1, z176_2, z176_3, z176_4, z176_5, z176_6⟩
                  have hS := St.tr hS h176 (by decide) (by decide)
                  refine Tr.sc [] rfl ?_
                  refine Tr.pick [0, 1, 2] (ls2 := [(0, (2, 120)), (1, (0, r1)), (2, (0, r68))]) rfl ?_
                  obtain ⟨w179p176_120_6, ew179p176_120_6⟩ : ∃ v, rd M176 120 6 = v := ⟨_, rfl⟩
                  have bw179p176_120_6 : (-2147483648) ≤ w179p176_120_6 ∧ w179p176_120_6 ≤ 2147483647 := by rw [← ew179p176_120_6]; exact ir_120_6 hS.1.2.1
                  obtain ⟨w179p176_120_46, ew179p176_120_46⟩ : ∃ v, rd M176 120 46 = v := ⟨_, rfl⟩
                  have bw179p176_120_46 : 0 ≤ w179p176_120_46 ∧ w179p176_120_46 ≤ 500 := by rw [← ew179p176_120_46]; exact ir_120_46 hS.1.2.1
                  obtain ⟨w179p176_120_43, ew179p176_120_43⟩ : ∃ v, rd M176 120 43 = v := ⟨_, rfl⟩
                  have bw179p176_120_43 : 0 ≤ w179p176_120_43 ∧ w179p176_120_43 ≤ 20 := by rw [← ew179p176_120_43]; exact ir_120_43 hS.1.2.1
                  obtain ⟨w179p176_9001_0, ew179p176_9001_0⟩ : ∃ v, nb2v M176 = v := ⟨_, rfl⟩
                  have bw179p176_9001_0 : 0 ≤ w179p176_9001_0 ∧ w179p176_9001_0 ≤ 1000000 := by rw [← ew179p176_9001_0]; exact (nb2v_b hS.1.2.1)
                  obtain ⟨w179p176_9002_0, ew179p176_9002_0⟩ : ∃ v, n4v M176 = v := ⟨_, rfl⟩
                  have bw179p176_9002_0 : 0 ≤ w179p176_9002_0 ∧ w179p176_9002_0 ≤ 20 := by rw [← ew179p176_9002_0]; exact (n4v_b hS.1.2.1)
                  obtain ⟨w179p176_9005_0, ew179p176_9005_0⟩ : ∃ v, fr0 M176 = v := ⟨_, rfl⟩
                  have bw179p176_9005_0 : 0 ≤ w179p176_9005_0 ∧ w179p176_9005_0 ≤ 5 := by rw [← ew179p176_9005_0]; exact (fr0_b hS.1.2.1)
                  obtain ⟨w179p176_9004_0, ew179p176_9004_0⟩ : ∃ v, Dv1 M176 = v := ⟨_, rfl⟩
                  have bw179p176_9004_0 : (-1000) ≤ w179p176_9004_0 ∧ w179p176_9004_0 ≤ 1000 := by rw [← ew179p176_9004_0]; exact (Dv1_b hS.1.2.1)
                  obtain ⟨w179p176_120_47, ew179p176_120_47⟩ : ∃ v, rd M176 120 47 = v := ⟨_, rfl⟩
                  have bw179p176_120_47 : 0 ≤ w179p176_120_47 ∧ w179p176_120_47 ≤ 1 := by rw [← ew179p176_120_47]; exact ir_120_47 hS.1.2.1
                  exact J179 _ _ _ _ _ _ _ _ _ _ _ _ _ _ _ _ _ hS (by and_intros <;> omega) (by and_intros <;> omega) (by and_intros <;> omega) (by and_intros <;> omega) (by omega) (by and_intros <;> omega) (by and_intros <;> omega) (by and_intros <;> omega) (by and_intros <;> omega) (by and_intros <;> omega) (by and_intros <;> omega) (by and_intros <;> omega) (by and_intros <;> omega) (by and_intros <;> omega) (by and_intros <;> omega) (by and_intros <;> omega) es176_120_3 es176_120_36 es176_120_4 ew179p176_120_43 es176_120_44 ew179p176_120_46 ew179p176_120_47 es176_120_5 ((kp_X12_reads_120_120_50 h176).trans k176_120_50) ew179p176_120_6 es176_120_7 es176_120_8 ((kp_X12_reads_120_129_1 h176).trans k176_129_1) ((kp_X12_reads_120_136_1 h176).trans k176_136_1) ((ka_X12_reads_120_137 h176 _).trans k176_137_r6810) ((ka_X12_reads_120_140 h176 _).trans k176_140_r6810) ew179p176_9001_0 ew179p176_9002_0 ew179p176_9004_0 ew179p176_9005_0 ((nwv_of (fun j => ((ka_X12_reads_120_151 h176 _).trans rfl)) ((kp_X12_reads_120_120_50 h176).trans rfl)).trans k176_9006_0) es176_9010_0 (by first | exact (hd_o z176_0) | exact (hd_o z176_0).elim (fun h1 => by omega) (fun h1 => by omega)) (by omega) (by first | exact (hd_o z176_2) | exact (hd_o z176_2).elim (fun h1 => by omega) (fun h1 => h1.elim (fun h1 => by omega) (fun h1 => by omega))) (by and_intros <;> omega) (by omega) (by exact (hd_o t176_5).elim (fun h1 => (hd_o z176_4).elim (fun h2 => by omega) (fun h2 => by omega)) (fun h1 => by omega)) (by omega) (by omega) (by omega) (by omega)
                refine Tr.icmp_lt (pc := 168) (tgt := 175) d_X12_statement_168 rfl (fun c168 => ?_) (fun c168 => ?_)
                · refine Tr.iconst (pc := 175) d_X12_statement_175 (by decide) ?_
                  refine Tr.pick [0, 1, 2] (ls2 := [(0, (2, 120)), (1, (0, r1)), (2, (0, r68))]) rfl ?_
                  exact J176 _ _ hS (by omega) ((Wr.b w153 rfl).trans k144_120_3) ((Wr.b w153 rfl).trans k144_120_36) ((Wr.b w153 rfl).trans k144_120_4) ((Wr.b w153 rfl).trans k144_120_43) ((Wr.b w153 rfl).trans k144_120_44) ((Wr.b w153 rfl).trans k144_120_46) ((Wr.b w153 rfl).trans k144_120_47) ((Wr.b w153 rfl).trans k144_120_5) ((Wr.b w153 rfl).trans k144_120_50) ((Wr.b w153 rfl).trans k144_120_6) ((Wr.b w153 rfl).trans k144_120_7) ((Wr.b w153 rfl).trans k144_120_8) ((Wr.b w153 rfl).trans k144_129_1) ((Wr.b w153 rfl).trans k144_136_1) ((Wr.b w153 rfl).trans k144_137_r6810) w153.1 ((nb2v_of (fun j => ((Wr.b w153 rfl).trans rfl)) ((Wr.b w153 rfl).trans rfl)).trans k144_9001_0) ((n4v_of (fun j => ((Wr.b w153 rfl).trans rfl)) ((Wr.b w153 rfl).trans rfl)).trans k144_9002_0) ev153_9004 ((fr0_of (fun j => ((Wr.b w153 rfl).trans rfl))).trans k144_9005_0) ((nwv_of (fun j => ((Wr.b w153 rfl).trans rfl)) ((Wr.b w153 rfl).trans rfl)).trans k144_9006_0) ((tav_of ((Wr.b w153 rfl).trans rfl) ((Wr.b w153 rfl).trans rfl)).trans k144_9010_0) (by first | exact (hd_o t144_0) | exact (hd_o t144_0).elim (fun h1 => by omega) (fun h1 => by omega)) (by omega) (by first | exact (hd_o t144_2) | exact (hd_o t144_2).elim (fun h1 => by omega) (fun h1 => h1.elim (fun h1 => by omega) (fun h1 => by omega))) (by and_intros <;> omega) (by first | exact (hd_o t144_4) | exact (hd_o t144_4).elim (fun h1 => by omega) (fun h1 => by omega)) (by first | exact (hd_o t144_5) | exact (hd_o t144_5).elim (fun h1 => by omega) (fun h1 => by omega)) (by omega) (by omega) (by omega) (by omega)
                · refine Tr.iconst (pc := 171) d_X12_statement_171 (by decide) ?_
                  refine Tr.goto (pc := 172) (tgt := 176) d_X12_statement_172 rfl ?_
                  refine Tr.pick [0, 1, 2] (ls2 := [(0, (2, 120)), (1, (0, r1)), (2, (0, r68))]) rfl ?_
                  exact J176 _ _ hS (by omega) ((Wr.b w153 rfl).trans k144_120_3) ((Wr.b w153 rfl).trans k144_120_36) ((Wr.b w153 rfl).trans k144_120_4) ((Wr.b w153 rfl).trans k144_120_43) ((Wr.b w153 rfl).trans k144_120_44) ((Wr.b w153 rfl).trans k144_120_46) ((Wr.b w153 rfl).trans k144_120_47) ((Wr.b w153 rfl).trans k144_120_5) ((Wr.b w153 rfl).trans k144_120_50) ((Wr.b w153 rfl).trans k144_120_6) ((Wr.b w153 rfl).trans k144_120_7) ((Wr.b w153 rfl).trans k144_120_8) ((Wr.b w153 rfl).trans k144_129_1) ((Wr.b w153 rfl).trans k144_136_1) ((Wr.b w153 rfl).trans k144_137_r6810) w153.1 ((nb2v_of (fun j => ((Wr.b w153 rfl).trans rfl)) ((Wr.b w153 rfl).trans rfl)).trans k144_9001_0) ((n4v_of (fun j => ((Wr.b w153 rfl).trans rfl)) ((Wr.b w153 rfl).trans rfl)).trans k144_9002_0) ev153_9004 ((fr0_of (fun j => ((Wr.b w153 rfl).trans rfl))).trans k144_9005_0) ((nwv_of (fun j => ((Wr.b w153 rfl).trans rfl)) ((Wr.b w153 rfl).trans rfl)).trans k144_9006_0) ((tav_of ((Wr.b w153 rfl).trans rfl) ((Wr.b w153 rfl).trans rfl)).trans k144_9010_0) (by first | exact (hd_o t144_0) | exact (hd_o t144_0).elim (fun h1 => by omega) (fun h1 => by omega)) (by omega) (by first | exact (hd_o t144_2) | exact (hd_o t144_2).elim (fun h1 => by omega) (fun h1 => h1.elim (fun h1 => by omega) (fun h1 => by omega))) (by and_intros <;> omega) (by first | exact (hd_o t144_4) | exact (hd_o t144_4).elim (fun h1 => by omega) (fun h1 => by omega)) (by first | exact (hd_o t144_5) | exact (hd_o t144_5).elim (fun h1 => by omega) (fun h1 => by omega)) (by omega) (by omega) (by omega) (by omega)
          have J133 : ∀ (M : Mem), St Pm1 ws_X12_statement_120 as_X12_statement_120 M0 M → (2 ≤ r1 ∧ r1 ≤ 4) → rd M 120 3 = u118_120_3 → rd M 120 36 = g120_36 → rd M 120 4 = u118_120_4 → rd M 120 43 = g120_43 → rd M 120 44 = g120_44 → rd M 120 46 = g120_46 → rd M 120 47 = g120_47 → rd M 120 5 = u118_120_5 → rd M 120 50 = g120_50 → rd M 120 6 = u118_120_6 → rd M 120 7 = u118_120_7 → rd M 120 8 = u118_120_8 → rd M 129 1 = (g129_1 + 1) → rd M 136 1 = s68_136_1 → rd M 137 r68 = r1 → nb2v M = g9001_0 → n4v M = g9002_0 → Dv1 M = u118_9004_0 → fr0 M = g9005_0 → nwv M = g9006_0 → tav M = u118_9010_0 → (u118_120_3 = 0 ∨ u118_120_4 + 1 ≤ u118_120_5) → (u118_120_4 ≤ u118_120_5) → (u118_120_3 ≠ 1 ∨ u118_120_4 + 2 ≤ u118_120_5 ∨ u118_120_7 < 256) → (g120_4 ≤ u118_120_4 ∧ g120_5 ≤ u118_120_5 ∧ g9010_0 ≤ u118_9010_0) → (g120_8 = 0 ∨ u118_120_8 = g120_8) → (1 ≤ u118_120_8 ∨ g9010_0 < u118_9010_0) → (g120_50 ≤ g120_44) → (g120_36 + g120_44 ≤ u118_120_4) → (s68_136_1 + g9006_0 + 1 ≤ 2 * (g129_1 + 1)) → (s68_136_1 = g136_1 + 1) → Tr l K 5 mX12_statement 133 [(0, (2, 120)), (1, (0, r1)), (2, (0, r68))] [] M (q_X12_statement_120 M0) := by
            intro M  hS z133r1 k133_120_3 k133_120_36 k133_120_4 k133_120_43 k133_120_44 k133_120_46 k133_120_47 k133_120_5 k133_120_50 k133_120_6 k133_120_7 k133_120_8 k133_129_1 k133_136_1 k133_137_r6810 k133_9001_0 k133_9002_0 k133_9004_0 k133_9005_0 k133_9006_0 k133_9010_0 t133_0 t133_1 t133_2 t133_3 t133_4 t133_5 t133_6 t133_7 t133_8 t133_9
            clear k118_120_3 k118_120_36 k118_120_4 k118_120_43 k118_120_44 k118_120_46 k118_120_47 k118_120_5 k118_120_50 k118_120_6 k118_120_7 k118_120_8 k118_129_1 k118_136_1 k118_137_r6810 k118_9001_0 k118_9002_0 k118_9004_0 k118_9005_0 k118_9006_0 k118_9010_0
            replace t133_0 := hd_i t133_0
            replace t133_2 := hd_i t133_2
            replace t133_4 := hd_i t133_4
            replace t133_5 := hd_i t133_5
            refine Tr.aload_n (pc := 133) (i := 0) d_X12_statement_133 rfl rfl ?_
            refine Tr.getf (pc := 134) d_X12_statement_134 f_12_103 (by decide) (by decide) (ty_120 hS.1.1) ?_
            refine Tr.tp 139 (fx_120_30 hS.1.1) ?_
            refine Tr.iload_n (pc := 137) (i := 2) d_X12_statement_137 rfl rfl ?_
            refine Tr.aload_n (pc := 138) (i := 0) d_X12_statement_138 rfl rfl ?_
            refine Tr.iconst (pc := 139) d_X12_statement_139 (by decide) ?_
            refine Tr.callV (pc := 140) (as := [_]) d_X12_statement_140 s_12_493 ok_X12_asked rfl rfl (Nat.le_of_ble_eq_true rfl) (Nat.le_of_ble_eq_true rfl) (by decide) (ty_120 hS.1.1) ?_
            refine Tr.imp (Tr.deep (by decide) (ns_X12_asked_120 (G120_3 := u118_120_3) (G120_4 := u118_120_4) (G120_5 := u118_120_5) (G120_7 := u118_120_7) (G120_8 := u118_120_8) (G9010_0 := u118_9010_0) hS.1 (k133_120_3) (k133_120_4) (k133_120_5) (k133_120_7) (k133_120_8) (k133_9010_0) ((kp_X12_statement_120_120_37 hS).trans en_120_37) 0 (by omega) (by first | exact (hd_o t133_0) | exact (hd_o t133_0).elim (fun h1 => by omega) (fun h1 => by omega)) (by omega) (by first | exact (hd_o t133_2) | exact (hd_o t133_2).elim (fun h1 => by omega) (fun h1 => h1.elim (fun h1 => by omega) (fun h1 => by omega))))) ?_
            rintro M140 _ ⟨h140, s140_120_3, s140_120_4, s140_120_5, s140_120_7, s140_120_8, s140_9010_0, es140_120_3, bs140_120_3, es140_120_4, bs140_120_4, es140_120_5, bs140_120_5, es140_120_7, bs140_120_7, es140_120_8, bs140_120_8, es140_9010_0, bs140_9010_0, r140, rfl, lr140, ur140, z140_0, z140_1, z140_2, z140_3, z140_4, z140_5, z140_6⟩
            have hS := St.tr hS h140 (by decide) (by decide)
            refine Tr.sc [(0, r140), (0, r68), (2, 139)] rfl ?_
            have kx_120_8 : rd M140 120 8 = s140_120_8 := es140_120_8
            refine Tr.iastS (pc := 143) (P := St Pm1 ws_X12_statement_120 as_X12_statement_120 M0) d_X12_statement_143 (ty_139 hS.1.1) (by omega) (by omega) (sa_139 hS (by decide) (by and_intros <;> omega) (Pm1_what hS.1.2.2.2.2 hS.1.2.1 (by omega) (by omega) (fun hf => by have hz : 1 ≤ s140_120_8 ∨ 0 ≤ r140 := (by exact (hd_o z140_6).elim (fun h1 => by omega) (fun h1 => by omega)); omega))) (fun M143 hS w143 => ?_)
            refine Tr.pick [0, 1, 2] (ls2 := [(0, (2, 120)), (1, (0, r1)), (2, (0, r68))]) rfl ?_
            obtain ⟨w144p143_120_6, ew144p143_120_6⟩ : ∃ v, rd M143 120 6 = v := ⟨_, rfl⟩
            have bw144p143_120_6 : (-2147483648) ≤ w144p143_120_6 ∧ w144p143_120_6 ≤ 2147483647 := by rw [← ew144p143_120_6]; exact ir_120_6 hS.1.2.1
            exact J144 _ _ _ _ _ _ _ _ hS (by and_intros <;> omega) (by and_intros <;> omega) (by and_intros <;> omega) (by and_intros <;> omega) (by omega) (by and_intros <;> omega) (by and_intros <;> omega) ((Wr.b w143 rfl).trans es140_120_3) ((Wr.b w143 rfl).trans ((kp_X12_asked_120_120_36 h140).trans k133_120_36)) ((Wr.b w143 rfl).trans es140_120_4) ((Wr.b w143 rfl).trans ((kp_X12_asked_120_120_43 h140).trans k133_120_43)) ((Wr.b w143 rfl).trans ((kp_X12_asked_120_120_44 h140).trans k133_120_44)) ((Wr.b w143 rfl).trans ((kp_X12_asked_120_120_46 h140).trans k133_120_46)) ((Wr.b w143 rfl).trans ((kp_X12_asked_120_120_47 h140).trans k133_120_47)) ((Wr.b w143 rfl).trans es140_120_5) ((Wr.b w143 rfl).trans ((kp_X12_asked_120_120_50 h140).trans k133_120_50)) ew144p143_120_6 ((Wr.b w143 rfl).trans es140_120_7) ((Wr.b w143 rfl).trans es140_120_8) ((Wr.b w143 rfl).trans ((kp_X12_asked_120_129_1 h140).trans k133_129_1)) ((Wr.b w143 rfl).trans ((kp_X12_asked_120_136_1 h140).trans k133_136_1)) ((Wr.b w143 rfl).trans ((ka_X12_asked_120_137 h140 _).trans k133_137_r6810)) ((nb2v_of (fun j => ((Wr.b w143 rfl).trans ((ka_X12_asked_120_150 h140 _).trans rfl))) ((Wr.b w143 rfl).trans ((kp_X12_asked_120_120_46 h140).trans rfl))).trans k133_9001_0) ((n4v_of (fun j => ((Wr.b w143 rfl).trans ((ka_X12_asked_120_145 h140 _).trans rfl))) ((Wr.b w143 rfl).trans ((kp_X12_asked_120_120_43 h140).trans rfl))).trans k133_9002_0) ((Dv1_of (fun j => ((Wr.b w143 rfl).trans ((ka_X12_asked_120_143 h140 _).trans rfl))) (fun j => ((Wr.b w143 rfl).trans ((ka_X12_asked_120_140 h140 _).trans rfl))) ((Wr.b w143 rfl).trans ((kp_X12_asked_120_136_1 h140).trans rfl)) ((Wr.b w143 rfl).trans ((kp_X12_asked_120_120_36 h140).trans rfl))).trans k133_9004_0) ((fr0_of (fun j => ((Wr.b w143 rfl).trans ((ka_X12_asked_120_145 h140 _).trans rfl)))).trans k133_9005_0) ((nwv_of (fun j => ((Wr.b w143 rfl).trans ((ka_X12_asked_120_151 h140 _).trans rfl))) ((Wr.b w143 rfl).trans ((kp_X12_asked_120_120_50 h140).trans rfl))).trans k133_9006_0) ((tav_of ((Wr.b w143 rfl).trans rfl) ((Wr.b w143 rfl).trans rfl)).trans es140_9010_0) (by first | exact (hd_o z140_0) | exact (hd_o z140_0).elim (fun h1 => by omega) (fun h1 => by omega)) (by omega) (by first | exact (hd_o z140_2) | exact (hd_o z140_2).elim (fun h1 => by omega) (fun h1 => h1.elim (fun h1 => by omega) (fun h1 => by omega))) (by and_intros <;> omega) (by omega) (by exact (hd_o z140_5).elim (fun h1 => by omega) (fun h1 => by omega)) (by omega) (by omega) (by omega) (by omega)
          refine Tr.icmp_eq (pc := 120) (tgt := 133) d_X12_statement_120 rfl (fun c120 => ?_) (fun c120 => ?_)
          · refine Tr.pick [0, 1, 2] (ls2 := [(0, (2, 120)), (1, (0, r1)), (2, (0, r68))]) rfl ?_
            exact J133 _ hS (by and_intros <;> omega) k118_120_3 k118_120_36 k118_120_4 k118_120_43 k118_120_44 k118_120_46 k118_120_47 k118_120_5 k118_120_50 k118_120_6 k118_120_7 k118_120_8 k118_129_1 k118_136_1 k118_137_r6810 k118_9001_0 k118_9002_0 k118_9004_0 k118_9005_0 k118_9006_0 k118_9010_0 (by first | exact (hd_o t118_0) | exact (hd_o t118_0).elim (fun h1 => by omega) (fun h1 => by omega)) (by omega) (by first | exact (hd_o t118_2) | exact (hd_o t118_2).elim (fun h1 => by omega) (fun h1 => h1.elim (fun h1 => by omega) (fun h1 => by omega))) (by and_intros <;> omega) (by first | exact (hd_o t118_4) | exact (hd_o t118_4).elim (fun h1 => by omega) (fun h1 => by omega)) (by first | exact (hd_o t118_5) | exact (hd_o t118_5).elim (fun h1 => by omega) (fun h1 => by omega)) (by omega) (by omega) (by omega) (by omega)
          · replace c120 := hd_i c120
            refine Tr.iload_n (pc := 123) (i := 1) d_X12_statement_123 rfl rfl ?_
            refine Tr.iconst (pc := 124) d_X12_statement_124 (by decide) ?_
            refine Tr.icmp_eq (pc := 125) (tgt := 133) d_X12_statement_125 rfl (fun c125 => ?_) (fun c125 => ?_)
            · refine Tr.pick [0, 1, 2] (ls2 := [(0, (2, 120)), (1, (0, r1)), (2, (0, r68))]) rfl ?_
              exact J133 _ hS (by and_intros <;> omega) k118_120_3 k118_120_36 k118_120_4 k118_120_43 k118_120_44 k118_120_46 k118_120_47 k118_120_5 k118_120_50 k118_120_6 k118_120_7 k118_120_8 k118_129_1 k118_136_1 k118_137_r6810 k118_9001_0 k118_9002_0 k118_9004_0 k118_9005_0 k118_9006_0 k118_9010_0 (by first | exact (hd_o t118_0) | exact (hd_o t118_0).elim (fun h1 => by omega) (fun h1 => by omega)) (by omega) (by first | exact (hd_o t118_2) | exact (hd_o t118_2).elim (fun h1 => by omega) (fun h1 => h1.elim (fun h1 => by omega) (fun h1 => by omega))) (by and_intros <;> omega) (by first | exact (hd_o t118_4) | exact (hd_o t118_4).elim (fun h1 => by omega) (fun h1 => by omega)) (by first | exact (hd_o t118_5) | exact (hd_o t118_5).elim (fun h1 => by omega) (fun h1 => by omega)) (by omega) (by omega) (by omega) (by omega)
            · replace c125 := hd_i c125
              refine Tr.iload_n (pc := 128) (i := 1) d_X12_statement_128 rfl rfl ?_
              refine Tr.iconst (pc := 129) d_X12_statement_129 (by decide) ?_
              refine Tr.icmp_ne (pc := 130) (tgt := 144) d_X12_statement_130 rfl (fun c130 => ?_) (fun c130 => ?_)
              · replace c130 := hd_i c130
                refine Tr.pick [0, 1, 2] (ls2 := [(0, (2, 120)), (1, (0, r1)), (2, (0, r68))]) rfl ?_
                exact J144 _ _ _ _ _ _ _ _ hS (by and_intros <;> omega) (by and_intros <;> omega) (by and_intros <;> omega) (by and_intros <;> omega) (by omega) (by and_intros <;> omega) (by and_intros <;> omega) k118_120_3 k118_120_36 k118_120_4 k118_120_43 k118_120_44 k118_120_46 k118_120_47 k118_120_5 k118_120_50 k118_120_6 k118_120_7 k118_120_8 k118_129_1 k118_136_1 k118_137_r6810 k118_9001_0 k118_9002_0 k118_9004_0 k118_9005_0 k118_9006_0 k118_9010_0 (by first | exact (hd_o t118_0) | exact (hd_o t118_0).elim (fun h1 => by omega) (fun h1 => by omega)) (by omega) (by first | exact (hd_o t118_2) | exact (hd_o t118_2).elim (fun h1 => by omega) (fun h1 => h1.elim (fun h1 => by omega) (fun h1 => by omega))) (by and_intros <;> omega) (by first | exact (hd_o t118_4) | exact (hd_o t118_4).elim (fun h1 => by omega) (fun h1 => by omega)) (by first | exact (hd_o t118_5) | exact (hd_o t118_5).elim (fun h1 => by omega) (fun h1 => by omega)) (by omega) (by omega) (by omega) (by omega)
              · refine Tr.pick [0, 1, 2] (ls2 := [(0, (2, 120)), (1, (0, r1)), (2, (0, r68))]) rfl ?_
                exact J133 _ hS (by and_intros <;> omega) k118_120_3 k118_120_36 k118_120_4 k118_120_43 k118_120_44 k118_120_46 k118_120_47 k118_120_5 k118_120_50 k118_120_6 k118_120_7 k118_120_8 k118_129_1 k118_136_1 k118_137_r6810 k118_9001_0 k118_9002_0 k118_9004_0 k118_9005_0 k118_9006_0 k118_9010_0 (by first | exact (hd_o t118_0) | exact (hd_o t118_0).elim (fun h1 => by omega) (fun h1 => by omega)) (by omega) (by first | exact (hd_o t118_2) | exact (hd_o t118_2).elim (fun h1 => by omega) (fun h1 => h1.elim (fun h1 => by omega) (fun h1 => by omega))) (by and_intros <;> omega) (by first | exact (hd_o t118_4) | exact (hd_o t118_4).elim (fun h1 => by omega) (fun h1 => by omega)) (by first | exact (hd_o t118_5) | exact (hd_o t118_5).elim (fun h1 => by omega) (fun h1 => by omega)) (by omega) (by omega) (by omega) (by omega)
        refine Tr.icmp_ne (pc := 91) (tgt := 118) d_X12_statement_91 rfl (fun c91 => ?_) (fun c91 => ?_)
        · replace c91 := hd_i c91
          refine Tr.pick [1, 2, 0] (ls2 := [(0, (2, 120)), (1, (0, r1)), (2, (0, r68))]) rfl ?_
          obtain ⟨w118p91_120_6, ew118p91_120_6⟩ : ∃ v, rd M86 120 6 = v := ⟨_, rfl⟩
          have bw118p91_120_6 : (-2147483648) ≤ w118p91_120_6 ∧ w118p91_120_6 ≤ 2147483647 := by rw [← ew118p91_120_6]; exact ir_120_6 hS.1.2.1
          obtain ⟨w118p91_9004_0, ew118p91_9004_0⟩ : ∃ v, Dv1 M86 = v := ⟨_, rfl⟩
          have bw118p91_9004_0 : (-1000) ≤ w118p91_9004_0 ∧ w118p91_9004_0 ≤ 1000 := by rw [← ew118p91_9004_0]; exact (Dv1_b hS.1.2.1)
          exact J118 _ _ _ _ _ _ _ _ _ hS (by and_intros <;> omega) (by and_intros <;> omega) (by and_intros <;> omega) (by and_intros <;> omega) (by omega) (by and_intros <;> omega) (by and_intros <;> omega) (by and_intros <;> omega) es86_120_3 ((kp_X12_next_120_120_36 h86).trans ((Wr.b w84 rfl).trans ((kp_X12_spot_120_120_36 h68).trans k49_120_36))) es86_120_4 ((kp_X12_next_120_120_43 h86).trans ((Wr.b w84 rfl).trans ((kp_X12_spot_120_120_43 h68).trans k49_120_43))) ((kp_X12_next_120_120_44 h86).trans ((Wr.b w84 rfl).trans ((kp_X12_spot_120_120_44 h68).trans k49_120_44))) ((kp_X12_next_120_120_46 h86).trans ((Wr.b w84 rfl).trans ((kp_X12_spot_120_120_46 h68).trans k49_120_46))) ((kp_X12_next_120_120_47 h86).trans ((Wr.b w84 rfl).trans ((kp_X12_spot_120_120_47 h68).trans k49_120_47))) es86_120_5 ((kp_X12_next_120_120_50 h86).trans ((Wr.b w84 rfl).trans ((kp_X12_spot_120_120_50 h68).trans k49_120_50))) ew118p91_120_6 es86_120_7 es86_120_8 ((kp_X12_next_120_129_1 h86).trans w84.1) ((kp_X12_next_120_136_1 h86).trans ((Wr.b w84 rfl).trans es68_136_1)) ((ka_X12_next_120_137 h86 _).trans ((Wr.b w84 rfl).trans eds)) ((nb2v_of (fun j => ((ka_X12_next_120_150 h86 _).trans ((Wr.b w84 rfl).trans ((ka_X12_spot_120_150 h68 _).trans rfl)))) ((kp_X12_next_120_120_46 h86).trans ((Wr.b w84 rfl).trans ((kp_X12_spot_120_120_46 h68).trans rfl)))).trans k49_9001_0) ((n4v_of (fun j => ((ka_X12_next_120_145 h86 _).trans ((Wr.b w84 rfl).trans ((ka_X12_spot_120_145 h68 _).trans rfl)))) ((kp_X12_next_120_120_43 h86).trans ((Wr.b w84 rfl).trans ((kp_X12_spot_120_120_43 h68).trans rfl)))).trans k49_9002_0) ew118p91_9004_0 ((fr0_of (fun j => ((ka_X12_next_120_145 h86 _).trans ((Wr.b w84 rfl).trans ((ka_X12_spot_120_145 h68 _).trans rfl))))).trans k49_9005_0) ((nwv_of (fun j => ((ka_X12_next_120_151 h86 _).trans ((Wr.b w84 rfl).trans ((ka_X12_spot_120_151 h68 _).trans rfl)))) ((kp_X12_next_120_120_50 h86).trans ((Wr.b w84 rfl).trans ((kp_X12_spot_120_120_50 h68).trans rfl)))).trans k49_9006_0) es86_9010_0 (by first | exact (hd_o z86_0) | exact (hd_o z86_0).elim (fun h1 => by omega) (fun h1 => by omega)) (by omega) (by first | exact (hd_o z86_2) | exact (hd_o z86_2).elim (fun h1 => by omega) (fun h1 => h1.elim (fun h1 => by omega) (fun h1 => by omega))) (by and_intros <;> omega) (by omega) (by exact (hd_o t49_0).elim (fun h1 => by omega) (fun h1 => (hd_o z86_5).elim (fun h2 => by omega) (fun h2 => by omega))) (by omega) (by omega) (by omega) (by omega)
        · refine Tr.aload_n (pc := 94) (i := 0) d_X12_statement_94 rfl rfl ?_
          refine Tr.getf (pc := 95) d_X12_statement_95 f_12_103 (by decide) (by decide) (ty_120 hS.1.1) ?_
          refine Tr.tp 139 (fx_120_30 hS.1.1) ?_
          refine Tr.iload_n (pc := 98) (i := 2) d_X12_statement_98 rfl rfl ?_
          refine Tr.aload_n (pc := 99) (i := 0) d_X12_statement_99 rfl rfl ?_
          refine Tr.iconst (pc := 100) d_X12_statement_100 (by decide) ?_
          refine Tr.callV (pc := 101) (as := [_]) d_X12_statement_101 s_12_493 ok_X12_asked rfl rfl (Nat.le_of_ble_eq_true rfl) (Nat.le_of_ble_eq_true rfl) (by decide) (ty_120 hS.1.1) ?_
          refine Tr.imp (Tr.deep (by decide) (ns_X12_asked_120 (G120_3 := s86_120_3) (G120_4 := s86_120_4) (G120_5 := s86_120_5) (G120_7 := s86_120_7) (G120_8 := s86_120_8) (G9010_0 := s86_9010_0) hS.1 (es86_120_3) (es86_120_4) (es86_120_5) (es86_120_7) (es86_120_8) (es86_9010_0) ((kp_X12_statement_120_120_37 hS).trans en_120_37) 1 (by omega) (by first | exact (hd_o z86_0) | exact (hd_o z86_0).elim (fun h1 => by omega) (fun h1 => by omega)) (by omega) (by first | exact (hd_o z86_2) | exact (hd_o z86_2).elim (fun h1 => by omega) (fun h1 => h1.elim (fun h1 => by omega) (fun h1 => by omega))))) ?_
          rintro M101 _ ⟨h101, s101_120_3, s101_120_4, s101_120_5, s101_120_7, s101_120_8, s101_9010_0, es101_120_3, bs101_120_3, es101_120_4, bs101_120_4, es101_120_5, bs101_120_5, es101_120_7, bs101_120_7, es101_120_8, bs101_120_8, es101_9010_0, bs101_9010_0, r101, rfl, lr101, ur101, z101_0, z101_1, z101_2, z101_3, z101_4, z101_5, z101_6⟩
          have hS := St.tr hS h101 (by decide) (by decide)
          refine Tr.sc [(0, r101), (0, r68), (2, 139)] rfl ?_
          have kx_120_8 : rd M101 120 8 = s101_120_8 := es101_120_8
          refine Tr.iastS (pc := 104) (P := St Pm1 ws_X12_statement_120 as_X12_statement_120 M0) d_X12_statement_104 (ty_139 hS.1.1) (by omega) (by omega) (sa_139 hS (by decide) (by and_intros <;> omega) (Pm1_what hS.1.2.2.2.2 hS.1.2.1 (by omega) (by omega) (fun hf => by have hz : 1 ≤ s101_120_8 ∨ 0 ≤ r101 := (by exact (hd_o z101_6).elim (fun h1 => by omega) (fun h1 => by omega)); omega))) (fun M104 hS w104 => ?_)
          refine Tr.aload_n (pc := 105) (i := 0) d_X12_statement_105 rfl rfl ?_
          refine Tr.getf (pc := 106) d_X12_statement_106 f_12_36 (by decide) (by decide) (ty_120 hS.1.1) ?_
          refine Tr.tp s101_120_8 ((Wr.b w104 rfl).trans es101_120_8) ?_
          refine Tr.if_ne (pc := 109) (tgt := 118) d_X12_statement_109 rfl (fun c109 => ?_) (fun c109 => ?_)
          · have c109b : 1 ≤ s101_120_8 ∧ s101_120_8 ≤ 5 := by omega
            replace c109 := hd_i c109
            refine Tr.pick [1, 2, 0] (ls2 := [(0, (2, 120)), (1, (0, r1)), (2, (0, r68))]) rfl ?_
            obtain ⟨w118p109_120_6, ew118p109_120_6⟩ : ∃ v, rd M104 120 6 = v := ⟨_, rfl⟩
            have bw118p109_120_6 : (-2147483648) ≤ w118p109_120_6 ∧ w118p109_120_6 ≤ 2147483647 := by rw [← ew118p109_120_6]; exact ir_120_6 hS.1.2.1
            obtain ⟨w118p109_9004_0, ew118p109_9004_0⟩ : ∃ v, Dv1 M104 = v := ⟨_, rfl⟩
            have bw118p109_9004_0 : (-1000) ≤ w118p109_9004_0 ∧ w118p109_9004_0 ≤ 1000 := by rw [← ew118p109_9004_0]; exact (Dv1_b hS.1.2.1)
            exact J118 _ _ _ _ _ _ _ _ _ hS (by and_intros <;> omega) (by and_intros <;> omega) (by and_intros <;> omega) (by and_intros <;> omega) (by omega) (by and_intros <;> omega) (by and_intros <;> omega) (by and_intros <;> omega) ((Wr.b w104 rfl).trans es101_120_3) ((Wr.b w104 rfl).trans ((kp_X12_asked_120_120_36 h101).trans ((kp_X12_next_120_120_36 h86).trans ((Wr.b w84 rfl).trans ((kp_X12_spot_120_120_36 h68).trans k49_120_36))))) ((Wr.b w104 rfl).trans es101_120_4) ((Wr.b w104 rfl).trans ((kp_X12_asked_120_120_43 h101).trans ((kp_X12_next_120_120_43 h86).trans ((Wr.b w84 rfl).trans ((kp_X12_spot_120_120_43 h68).trans k49_120_43))))) ((Wr.b w104 rfl).trans ((kp_X12_asked_120_120_44 h101).trans ((kp_X12_next_120_120_44 h86).trans ((Wr.b w84 rfl).trans ((kp_X12_spot_120_120_44 h68).trans k49_120_44))))) ((Wr.b w104 rfl).trans ((kp_X12_asked_120_120_46 h101).trans ((kp_X12_next_120_120_46 h86).trans ((Wr.b w84 rfl).trans ((kp_X12_spot_120_120_46 h68).trans k49_120_46))))) ((Wr.b w104 rfl).trans ((kp_X12_asked_120_120_47 h101).trans ((kp_X12_next_120_120_47 h86).trans ((Wr.b w84 rfl).trans ((kp_X12_spot_120_120_47 h68).trans k49_120_47))))) ((Wr.b w104 rfl).trans es101_120_5) ((Wr.b w104 rfl).trans ((kp_X12_asked_120_120_50 h101).trans ((kp_X12_next_120_120_50 h86).trans ((Wr.b w84 rfl).trans ((kp_X12_spot_120_120_50 h68).trans k49_120_50))))) ew118p109_120_6 ((Wr.b w104 rfl).trans es101_120_7) ((Wr.b w104 rfl).trans es101_120_8) ((Wr.b w104 rfl).trans ((kp_X12_asked_120_129_1 h101).trans ((kp_X12_next_120_129_1 h86).trans w84.1))) ((Wr.b w104 rfl).trans ((kp_X12_asked_120_136_1 h101).trans ((kp_X12_next_120_136_1 h86).trans ((Wr.b w84 rfl).trans es68_136_1)))) ((Wr.b w104 rfl).trans ((ka_X12_asked_120_137 h101 _).trans ((ka_X12_next_120_137 h86 _).trans ((Wr.b w84 rfl).trans eds)))) ((nb2v_of (fun j => ((Wr.b w104 rfl).trans ((ka_X12_asked_120_150 h101 _).trans ((ka_X12_next_120_150 h86 _).trans ((Wr.b w84 rfl).trans ((ka_X12_spot_120_150 h68 _).trans rfl)))))) ((Wr.b w104 rfl).trans ((kp_X12_asked_120_120_46 h101).trans ((kp_X12_next_120_120_46 h86).trans ((Wr.b w84 rfl).trans ((kp_X12_spot_120_120_46 h68).trans rfl)))))).trans k49_9001_0) ((n4v_of (fun j => ((Wr.b w104 rfl).trans ((ka_X12_asked_120_145 h101 _).trans ((ka_X12_next_120_145 h86 _).trans ((Wr.b w84 rfl).trans ((ka_X12_spot_120_145 h68 _).trans rfl)))))) ((Wr.b w104 rfl).trans ((kp_X12_asked_120_120_43 h101).trans ((kp_X12_next_120_120_43 h86).trans ((Wr.b w84 rfl).trans ((kp_X12_spot_120_120_43 h68).trans rfl)))))).trans k49_9002_0) ew118p109_9004_0 ((fr0_of (fun j => ((Wr.b w104 rfl).trans ((ka_X12_asked_120_145 h101 _).trans ((ka_X12_next_120_145 h86 _).trans ((Wr.b w84 rfl).trans ((ka_X12_spot_120_145 h68 _).trans rfl))))))).trans k49_9005_0) ((nwv_of (fun j => ((Wr.b w104 rfl).trans ((ka_X12_asked_120_151 h101 _).trans ((ka_X12_next_120_151 h86 _).trans ((Wr.b w84 rfl).trans ((ka_X12_spot_120_151 h68 _).trans rfl)))))) ((Wr.b w104 rfl).trans ((kp_X12_asked_120_120_50 h101).trans ((kp_X12_next_120_120_50 h86).trans ((Wr.b w84 rfl).trans ((kp_X12_spot_120_120_50 h68).trans rfl)))))).trans k49_9006_0) ((tav_of ((Wr.b w104 rfl).trans rfl) ((Wr.b w104 rfl).trans rfl)).trans es101_9010_0) (by first | exact (hd_o z101_0) | exact (hd_o z101_0).elim (fun h1 => by omega) (fun h1 => by omega)) (by omega) (by first | exact (hd_o z101_2) | exact (hd_o z101_2).elim (fun h1 => by omega) (fun h1 => h1.elim (fun h1 => by omega) (fun h1 => by omega))) (by and_intros <;> omega) (by omega) (by omega) (by omega) (by omega) (by omega) (by omega)
          · refine Tr.aload_n (pc := 112) (i := 0) d_X12_statement_112 rfl rfl ?_
            refine Tr.bipush (pc := 113) d_X12_statement_113 rfl (by decide) ?_
            refine Tr.callV (pc := 115) (as := [_]) d_X12_statement_115 s_12_529 ok_X12_must rfl rfl (Nat.le_of_ble_eq_true rfl) (Nat.le_of_ble_eq_true rfl) (by decide) (ty_120 hS.1.1) ?_
            refine Tr.imp (Tr.deep (by decide) (ns_X12_must_120 (G120_3 := s101_120_3) (G120_4 := s101_120_4) (G120_5 := s101_120_5) (G120_7 := s101_120_7) (G120_8 := s101_120_8) (G9010_0 := s101_9010_0) hS.1 (((Wr.b w104 rfl).trans es101_120_3)) (((Wr.b w104 rfl).trans es101_120_4)) (((Wr.b w104 rfl).trans es101_120_5)) (((Wr.b w104 rfl).trans es101_120_7)) (((Wr.b w104 rfl).trans es101_120_8)) (((tav_of ((Wr.b w104 rfl).trans rfl) ((Wr.b w104 rfl).trans rfl)).trans es101_9010_0)) 61 (by omega) (by first | exact (hd_o z101_0) | exact (hd_o z101_0).elim (fun h1 => by omega) (fun h1 => by omega)) (by omega) (by first | exact (hd_o z101_2) | exact (hd_o z101_2).elim (fun h1 => by omega) (fun h1 => h1.elim (fun h1 => by omega) (fun h1 => by omega))))) ?_
            rintro M115 _ ⟨h115, s115_120_3, s115_120_4, s115_120_5, s115_120_7, s115_120_8, s115_9010_0, es115_120_3, bs115_120_3, es115_120_4, bs115_120_4, es115_120_5, bs115_120_5, es115_120_7, bs115_120_7, es115_120_8, bs115_120_8, es115_9010_0, bs115_9010_0, rfl, z115_0, z115_1, z115_2, z115_3, z115_4, z115_5⟩
            have hS := St.tr hS h115 (by decide) (by decide)
            refine Tr.sc [] rfl ?_
            refine Tr.pick [1, 2, 0] (ls2 := [(0, (2, 120)), (1, (0, r1)), (2, (0, r68))]) rfl ?_
            obtain ⟨w118p115_120_6, ew118p115_120_6⟩ : ∃ v, rd M115 120 6 = v := ⟨_, rfl⟩
            have bw118p115_120_6 : (-2147483648) ≤ w118p115_120_6 ∧ w118p115_120_6 ≤ 2147483647 := by rw [← ew118p115_120_6]; exact ir_120_6 hS.1.2.1
            obtain ⟨w118p115_9004_0, ew118p115_9004_0⟩ : ∃ v, Dv1 M115 = v := ⟨_, rfl⟩
            have bw118p115_9004_0 : (-1000) ≤ w118p115_9004_0 ∧ w118p115_9004_0 ≤ 1000 := by rw [← ew118p115_9004_0]; exact (Dv1_b hS.1.2.1)
            exact J118 _ _ _ _ _ _ _ _ _ hS (by and_intros <;> omega) (by and_intros <;> omega) (by and_intros <;> omega) (by and_intros <;> omega) (by omega) (by and_intros <;> omega) (by and_intros <;> omega) (by and_intros <;> omega) es115_120_3 ((kp_X12_must_120_120_36 h115).trans ((Wr.b w104 rfl).trans ((kp_X12_asked_120_120_36 h101).trans ((kp_X12_next_120_120_36 h86).trans ((Wr.b w84 rfl).trans ((kp_X12_spot_120_120_36 h68).trans k49_120_36)))))) es115_120_4 ((kp_X12_must_120_120_43 h115).trans ((Wr.b w104 rfl).trans ((kp_X12_asked_120_120_43 h101).trans ((kp_X12_next_120_120_43 h86).trans ((Wr.b w84 rfl).trans ((kp_X12_spot_120_120_43 h68).trans k49_120_43)))))) ((kp_X12_must_120_120_44 h115).trans ((Wr.b w104 rfl).trans ((kp_X12_asked_120_120_44 h101).trans ((kp_X12_next_120_120_44 h86).trans ((Wr.b w84 rfl).trans ((kp_X12_spot_120_120_44 h68).trans k49_120_44)))))) ((kp_X12_must_120_120_46 h115).trans ((Wr.b w104 rfl).trans ((kp_X12_asked_120_120_46 h101).trans ((kp_X12_next_120_120_46 h86).trans ((Wr.b w84 rfl).trans ((kp_X12_spot_120_120_46 h68).trans k49_120_46)))))) ((kp_X12_must_120_120_47 h115).trans ((Wr.b w104 rfl).trans ((kp_X12_asked_120_120_47 h101).trans ((kp_X12_next_120_120_47 h86).trans ((Wr.b w84 rfl).trans ((kp_X12_spot_120_120_47 h68).trans k49_120_47)))))) es115_120_5 ((kp_X12_must_120_120_50 h115).trans ((Wr.b w104 rfl).trans ((kp_X12_asked_120_120_50 h101).trans ((kp_X12_next_120_120_50 h86).trans ((Wr.b w84 rfl).trans ((kp_X12_spot_120_120_50 h68).trans k49_120_50)))))) ew118p115_120_6 es115_120_7 es115_120_8 ((kp_X12_must_120_129_1 h115).trans ((Wr.b w104 rfl).trans ((kp_X12_asked_120_129_1 h101).trans ((kp_X12_next_120_129_1 h86).trans w84.1)))) ((kp_X12_must_120_136_1 h115).trans ((Wr.b w104 rfl).trans ((kp_X12_asked_120_136_1 h101).trans ((kp_X12_next_120_136_1 h86).trans ((Wr.b w84 rfl).trans es68_136_1))))) ((ka_X12_must_120_137 h115 _).trans ((Wr.b w104 rfl).trans ((ka_X12_asked_120_137 h101 _).trans ((ka_X12_next_120_137 h86 _).trans ((Wr.b w84 rfl).trans eds))))) ((nb2v_of (fun j => ((ka_X12_must_120_150 h115 _).trans ((Wr.b w104 rfl).trans ((ka_X12_asked_120_150 h101 _).trans ((ka_X12_next_120_150 h86 _).trans ((Wr.b w84 rfl).trans ((ka_X12_spot_120_150 h68 _).trans rfl))))))) ((kp_X12_must_120_120_46 h115).trans ((Wr.b w104 rfl).trans ((kp_X12_asked_120_120_46 h101).trans ((kp_X12_next_120_120_46 h86).trans ((Wr.b w84 rfl).trans ((kp_X12_spot_120_120_46 h68).trans rfl))))))).trans k49_9001_0) ((n4v_of (fun j => ((ka_X12_must_120_145 h115 _).trans ((Wr.b w104 rfl).trans ((ka_X12_asked_120_145 h101 _).trans ((ka_X12_next_120_145 h86 _).trans ((Wr.b w84 rfl).trans ((ka_X12_spot_120_145 h68 _).trans rfl))))))) ((kp_X12_must_120_120_43 h115).trans ((Wr.b w104 rfl).trans ((kp_X12_asked_120_120_43 h101).trans ((kp_X12_next_120_120_43 h86).trans ((Wr.b w84 rfl).trans ((kp_X12_spot_120_120_43 h68).trans rfl))))))).trans k49_9002_0) ew118p115_9004_0 ((fr0_of (fun j => ((ka_X12_must_120_145 h115 _).trans ((Wr.b w104 rfl).trans ((ka_X12_asked_120_145 h101 _).trans ((ka_X12_next_120_145 h86 _).trans ((Wr.b w84 rfl).trans ((ka_X12_spot_120_145 h68 _).trans rfl)))))))).trans k49_9005_0) ((nwv_of (fun j => ((ka_X12_must_120_151 h115 _).trans ((Wr.b w104 rfl).trans ((ka_X12_asked_120_151 h101 _).trans ((ka_X12_next_120_151 h86 _).trans ((Wr.b w84 rfl).trans ((ka_X12_spot_120_151 h68 _).trans rfl))))))) ((kp_X12_must_120_120_50 h115).trans ((Wr.b w104 rfl).trans ((kp_X12_asked_120_120_50 h101).trans ((kp_X12_next_120_120_50 h86).trans ((Wr.b w84 rfl).trans ((kp_X12_spot_120_120_50 h68).trans rfl))))))).trans k49_9006_0) es115_9010_0 (by first | exact (hd_o z115_0) | exact (hd_o z115_0).elim (fun h1 => by omega) (fun h1 => by omega)) (by omega) (by first | exact (hd_o z115_2) | exact (hd_o z115_2).elim (fun h1 => by omega) (fun h1 => h1.elim (fun h1 => by omega) (fun h1 => by omega))) (by and_intros <;> omega) (by omega) (by exact (hd_o z115_5).elim (fun h1 => by omega) (fun h1 => by omega)) (by omega) (by omega) (by omega) (by omega)
      · have kr_120_3 : rd M 120 3 = g120_3 := k49_120_3
        have kr_120_4 : rd M 120 4 = g120_4 := k49_120_4
        have kr_120_5 : rd M 120 5 = g120_5 := k49_120_5
        have kr_120_7 : rd M 120 7 = g120_7 := k49_120_7
        have kr_120_8 : rd M 120 8 = u49_120_8 := k49_120_8
        have kr_120_36 : rd M 120 36 = g120_36 := k49_120_36
        have kr_120_44 : rd M 120 44 = g120_44 := k49_120_44
        have kr_120_50 : rd M 120 50 = g120_50 := k49_120_50
        have kr_129_1 : rd M 129 1 = g129_1 := k49_129_1
        have kr_136_1 : rd M 136 1 = g136_1 := k49_136_1
        have kr_9006_0 : nwv M = g9006_0 := k49_9006_0
        have kr_9010_0 : tav M = g9010_0 := k49_9010_0
        exact Tr.vret (pc := 56) d_X12_statement_56 rfl ⟨hS, rfl, (by first | exact (hd_o hq0) | exact (hd_o hq0).elim (fun h1 => by omega) (fun h1 => by omega)), (by omega), (by first | exact (hd_o hq2) | exact (hd_o hq2).elim (fun h1 => by omega) (fun h1 => h1.elim (fun h1 => by omega) (fun h1 => by omega))), (by and_intros <;> omega), (by omega), (by omega), (by omega), (by omega), (by omega)⟩
    refine Tr.if_ne (pc := 23) (tgt := 49) d_X12_statement_23 rfl (fun c23 => ?_) (fun c23 => ?_)
    · have c23b : 1 ≤ u19_120_8 ∧ u19_120_8 ≤ 5 := by omega
      replace c23 := hd_i c23
      refine Tr.pick [0, 1] (ls2 := [(0, (2, 120)), (1, (0, r1))]) rfl ?_
      exact J49 _ _ hS (by and_intros <;> omega) k19_120_3 k19_120_36 k19_120_4 k19_120_43 k19_120_44 k19_120_46 k19_120_47 k19_120_5 k19_120_50 k19_120_6 k19_120_7 k19_120_8 k19_129_1 k19_136_1 k19_9001_0 k19_9002_0 k19_9004_0 k19_9005_0 k19_9006_0 k19_9010_0 (by first | exact (hd_o t19_0) | exact (hd_o t19_0).elim (fun h1 => by omega) (fun h1 => by omega)) (by omega)
    · refine Tr.aload_n (pc := 26) (i := 0) d_X12_statement_26 rfl rfl ?_
      refine Tr.getf (pc := 27) d_X12_statement_27 f_12_72 (by decide) (by decide) (ty_120 hS.1.1) ?_
      refine Tr.tp 129 (fx_120_20 hS.1.1) ?_
      refine Tr.aload_n (pc := 30) (i := 0) d_X12_statement_30 rfl rfl ?_
      refine Tr.getf (pc := 31) d_X12_statement_31 f_12_124 (by decide) (by decide) (ty_120 hS.1.1) ?_
      refine Tr.tp 1 ((kp_X12_statement_120_120_37 hS).trans en_120_37) ?_
      refine Tr.iald (pc := 34) d_X12_statement_34 (ty_129 hS.1.1) (by omega) (by omega) ?_
      refine Tr.tp g129_1 k19_129_1 ?_
      refine Tr.bipush (pc := 35) d_X12_statement_35 rfl (by decide) ?_
      refine Tr.icmp_ne (pc := 37) (tgt := 49) d_X12_statement_37 rfl (fun c37 => ?_) (fun c37 => ?_)
      · have c37b : 0 ≤ g129_1 ∧ g129_1 ≤ 59 := by omega
        replace c37 := hd_i c37
        refine Tr.pick [0, 1] (ls2 := [(0, (2, 120)), (1, (0, r1))]) rfl ?_
        exact J49 _ _ hS (by and_intros <;> omega) k19_120_3 k19_120_36 k19_120_4 k19_120_43 k19_120_44 k19_120_46 k19_120_47 k19_120_5 k19_120_50 k19_120_6 k19_120_7 k19_120_8 k19_129_1 k19_136_1 k19_9001_0 k19_9002_0 k19_9004_0 k19_9005_0 k19_9006_0 k19_9010_0 (by first | exact (hd_o t19_0) | exact (hd_o t19_0).elim (fun h1 => by omega) (fun h1 => by omega)) (by omega)
      · refine Tr.aload_n (pc := 40) (i := 0) d_X12_statement_40 rfl rfl ?_
        refine Tr.iconst (pc := 41) d_X12_statement_41 (by decide) ?_
        refine Tr.aload_n (pc := 42) (i := 0) d_X12_statement_42 rfl rfl ?_
        refine Tr.getf (pc := 43) d_X12_statement_43 f_12_23 (by decide) (by decide) (ty_120 hS.1.1) ?_
        refine Tr.tp g120_4 k19_120_4 ?_
        refine Tr.callV (pc := 46) (as := [_, _]) d_X12_statement_46 s_12_389 ok_X12_blame rfl rfl (Nat.le_of_ble_eq_true rfl) (Nat.le_of_ble_eq_true rfl) (by decide) (ty_120 hS.1.1) ?_
        refine Tr.imp (Tr.deep (by decide) (ns_X12_blame_120 (G120_8 := u19_120_8) hS.1 (k19_120_8) 5 (by omega) g120_4 (by and_intros <;> omega))) ?_
        rintro M46 _ ⟨h46, s46_120_8, es46_120_8, bs46_120_8, rfl, z46_0⟩
        have hS := St.tr hS h46 (by decide) (by decide)
        refine Tr.sc [] rfl ?_
        refine Tr.pick [0, 1] (ls2 := [(0, (2, 120)), (1, (0, r1))]) rfl ?_
        exact J49 _ _ hS (by and_intros <;> omega) ((kp_X12_blame_120_120_3 h46).trans k19_120_3) ((kp_X12_blame_120_120_36 h46).trans k19_120_36) ((kp_X12_blame_120_120_4 h46).trans k19_120_4) ((kp_X12_blame_120_120_43 h46).trans k19_120_43) ((kp_X12_blame_120_120_44 h46).trans k19_120_44) ((kp_X12_blame_120_120_46 h46).trans k19_120_46) ((kp_X12_blame_120_120_47 h46).trans k19_120_47) ((kp_X12_blame_120_120_5 h46).trans k19_120_5) ((kp_X12_blame_120_120_50 h46).trans k19_120_50) ((kp_X12_blame_120_120_6 h46).trans k19_120_6) ((kp_X12_blame_120_120_7 h46).trans k19_120_7) es46_120_8 ((kp_X12_blame_120_129_1 h46).trans k19_129_1) ((kp_X12_blame_120_136_1 h46).trans k19_136_1) ((nb2v_of (fun j => ((ka_X12_blame_120_150 h46 _).trans rfl)) ((kp_X12_blame_120_120_46 h46).trans rfl)).trans k19_9001_0) ((n4v_of (fun j => ((ka_X12_blame_120_145 h46 _).trans rfl)) ((kp_X12_blame_120_120_43 h46).trans rfl)).trans k19_9002_0) ((Dv1_of (fun j => ((ka_X12_blame_120_143 h46 _).trans rfl)) (fun j => ((ka_X12_blame_120_140 h46 _).trans rfl)) ((kp_X12_blame_120_136_1 h46).trans rfl) ((kp_X12_blame_120_120_36 h46).trans rfl)).trans k19_9004_0) ((fr0_of (fun j => ((ka_X12_blame_120_145 h46 _).trans rfl))).trans k19_9005_0) ((nwv_of (fun j => ((ka_X12_blame_120_151 h46 _).trans rfl)) ((kp_X12_blame_120_120_50 h46).trans rfl)).trans k19_9006_0) ((tav_of ((kp_X12_blame_120_120_5 h46).trans rfl) ((kp_X12_blame_120_120_3 h46).trans rfl)).trans k19_9010_0) (by exact (hd_o z46_0).elim (fun h1 => by omega) (fun h1 => by omega)) (by exact (hd_o z46_0).elim (fun h1 => by omega) (fun h1 => by omega))
  refine Tr.icmp_ne (pc := 7) (tgt := 19) d_X12_statement_7 rfl (fun c7 => ?_) (fun c7 => ?_)
  · have c7b : 0 ≤ r1 ∧ r1 ≤ 8 := by omega
    replace c7 := hd_i c7
    refine Tr.pick [1, 0] (ls2 := [(0, (2, 120)), (1, (0, r1))]) rfl ?_
    exact J19 _ _ hS (by and_intros <;> omega) ((kp_X12_order_120_120_3 h1).trans eg120_3) ((kp_X12_order_120_120_36 h1).trans eg120_36) ((kp_X12_order_120_120_4 h1).trans eg120_4) ((kp_X12_order_120_120_43 h1).trans eg120_43) ((kp_X12_order_120_120_44 h1).trans eg120_44) ((kp_X12_order_120_120_46 h1).trans eg120_46) ((kp_X12_order_120_120_47 h1).trans eg120_47) ((kp_X12_order_120_120_5 h1).trans eg120_5) ((kp_X12_order_120_120_50 h1).trans eg120_50) ((kp_X12_order_120_120_6 h1).trans eg120_6) ((kp_X12_order_120_120_7 h1).trans eg120_7) ((kp_X12_order_120_120_8 h1).trans eg120_8) ((kp_X12_order_120_129_1 h1).trans eg129_1) ((kp_X12_order_120_136_1 h1).trans eg136_1) ((nb2v_of (fun j => ((ka_X12_order_120_150 h1 _).trans rfl)) ((kp_X12_order_120_120_46 h1).trans rfl)).trans eg9001_0) ((n4v_of (fun j => ((ka_X12_order_120_145 h1 _).trans rfl)) ((kp_X12_order_120_120_43 h1).trans rfl)).trans eg9002_0) ((Dv1_of (fun j => ((ka_X12_order_120_143 h1 _).trans rfl)) (fun j => ((ka_X12_order_120_140 h1 _).trans rfl)) ((kp_X12_order_120_136_1 h1).trans rfl) ((kp_X12_order_120_120_36 h1).trans rfl)).trans eg9004_0) ((fr0_of (fun j => ((ka_X12_order_120_145 h1 _).trans rfl))).trans eg9005_0) ((nwv_of (fun j => ((ka_X12_order_120_151 h1 _).trans rfl)) ((kp_X12_order_120_120_50 h1).trans rfl)).trans eg9006_0) ((tav_of ((kp_X12_order_120_120_5 h1).trans rfl) ((kp_X12_order_120_120_3 h1).trans rfl)).trans eg9010_0) (by exact (hd_o z1_0).elim (fun h1 => by omega) (fun h1 => by omega))
  · refine Tr.aload_n (pc := 10) (i := 0) d_X12_statement_10 rfl rfl ?_
    refine Tr.iconst (pc := 11) d_X12_statement_11 (by decide) ?_
    refine Tr.aload_n (pc := 12) (i := 0) d_X12_statement_12 rfl rfl ?_
    refine Tr.getf (pc := 13) d_X12_statement_13 f_12_23 (by decide) (by decide) (ty_120 hS.1.1) ?_
    refine Tr.tp g120_4 ((kp_X12_order_120_120_4 h1).trans eg120_4) ?_
    refine Tr.callV (pc := 16) (as := [_, _]) d_X12_statement_16 s_12_389 ok_X12_blame rfl rfl (Nat.le_of_ble_eq_true rfl) (Nat.le_of_ble_eq_true rfl) (by decide) (ty_120 hS.1.1) ?_
    refine Tr.imp (Tr.deep (by decide) (ns_X12_blame_120 (G120_8 := g120_8) hS.1 (((kp_X12_order_120_120_8 h1).trans eg120_8)) 1 (by omega) g120_4 (by and_intros <;> omega))) ?_
    rintro M16 _ ⟨h16, s16_120_8, es16_120_8, bs16_120_8, rfl, z16_0⟩
    have hS := St.tr hS h16 (by decide) (by decide)
    refine Tr.sc [] rfl ?_
    refine Tr.pick [1, 0] (ls2 := [(0, (2, 120)), (1, (0, r1))]) rfl ?_
    exact J19 _ _ hS (by and_intros <;> omega) ((kp_X12_blame_120_120_3 h16).trans ((kp_X12_order_120_120_3 h1).trans eg120_3)) ((kp_X12_blame_120_120_36 h16).trans ((kp_X12_order_120_120_36 h1).trans eg120_36)) ((kp_X12_blame_120_120_4 h16).trans ((kp_X12_order_120_120_4 h1).trans eg120_4)) ((kp_X12_blame_120_120_43 h16).trans ((kp_X12_order_120_120_43 h1).trans eg120_43)) ((kp_X12_blame_120_120_44 h16).trans ((kp_X12_order_120_120_44 h1).trans eg120_44)) ((kp_X12_blame_120_120_46 h16).trans ((kp_X12_order_120_120_46 h1).trans eg120_46)) ((kp_X12_blame_120_120_47 h16).trans ((kp_X12_order_120_120_47 h1).trans eg120_47)) ((kp_X12_blame_120_120_5 h16).trans ((kp_X12_order_120_120_5 h1).trans eg120_5)) ((kp_X12_blame_120_120_50 h16).trans ((kp_X12_order_120_120_50 h1).trans eg120_50)) ((kp_X12_blame_120_120_6 h16).trans ((kp_X12_order_120_120_6 h1).trans eg120_6)) ((kp_X12_blame_120_120_7 h16).trans ((kp_X12_order_120_120_7 h1).trans eg120_7)) es16_120_8 ((kp_X12_blame_120_129_1 h16).trans ((kp_X12_order_120_129_1 h1).trans eg129_1)) ((kp_X12_blame_120_136_1 h16).trans ((kp_X12_order_120_136_1 h1).trans eg136_1)) ((nb2v_of (fun j => ((ka_X12_blame_120_150 h16 _).trans ((ka_X12_order_120_150 h1 _).trans rfl))) ((kp_X12_blame_120_120_46 h16).trans ((kp_X12_order_120_120_46 h1).trans rfl))).trans eg9001_0) ((n4v_of (fun j => ((ka_X12_blame_120_145 h16 _).trans ((ka_X12_order_120_145 h1 _).trans rfl))) ((kp_X12_blame_120_120_43 h16).trans ((kp_X12_order_120_120_43 h1).trans rfl))).trans eg9002_0) ((Dv1_of (fun j => ((ka_X12_blame_120_143 h16 _).trans ((ka_X12_order_120_143 h1 _).trans rfl))) (fun j => ((ka_X12_blame_120_140 h16 _).trans ((ka_X12_order_120_140 h1 _).trans rfl))) ((kp_X12_blame_120_136_1 h16).trans ((kp_X12_order_120_136_1 h1).trans rfl)) ((kp_X12_blame_120_120_36 h16).trans ((kp_X12_order_120_120_36 h1).trans rfl))).trans eg9004_0) ((fr0_of (fun j => ((ka_X12_blame_120_145 h16 _).trans ((ka_X12_order_120_145 h1 _).trans rfl)))).trans eg9005_0) ((nwv_of (fun j => ((ka_X12_blame_120_151 h16 _).trans ((ka_X12_order_120_151 h1 _).trans rfl))) ((kp_X12_blame_120_120_50 h16).trans ((kp_X12_order_120_120_50 h1).trans rfl))).trans eg9006_0) ((tav_of ((kp_X12_blame_120_120_5 h16).trans ((kp_X12_order_120_120_5 h1).trans rfl)) ((kp_X12_blame_120_120_3 h16).trans ((kp_X12_order_120_120_3 h1).trans rfl))).trans eg9010_0) (by exact (hd_o z16_0).elim (fun h1 => by omega) (fun h1 => by omega))
end
/-! 38.07 -/
section
set_option maxRecDepth 100000 in
set_option maxHeartbeats 4000000 in
theorem ns_X12_statement_120 {l : Launch} {K : EC} {M0 : Mem} {G120_3 G120_4 G120_5 G120_7 G120_8 G120_36 G120_44 G120_50 G129_1 G136_1 G9006_0 G9010_0 : Int} (hI : In Pm1 M0) (k120_3 : rd M0 120 3 = G120_3) (k120_4 : rd M0 120 4 = G120_4) (k120_5 : rd M0 120 5 = G120_5) (k120_7 : rd M0 120 7 = G120_7) (k120_8 : rd M0 120 8 = G120_8) (k120_36 : rd M0 120 36 = G120_36) (k120_44 : rd M0 120 44 = G120_44) (k120_50 : rd M0 120 50 = G120_50) (k129_1 : rd M0 129 1 = G129_1) (k136_1 : rd M0 136 1 = G136_1) (k9006_0 : nwv M0 = G9006_0) (k9010_0 : tav M0 = G9010_0) (en_120_37 : rd M0 120 37 = 1)   (hq0 : G120_3 = 0 ∨ G120_4 + 1 ≤ G120_5) (hq1 : G120_4 ≤ G120_5) (hq2 : G120_3 ≠ 1 ∨ G120_4 + 2 ≤ G120_5 ∨ G120_7 < 256) (hq3 : G120_8 = 0) (hq4 : G120_50 ≤ G120_44) (hq5 : G136_1 + G9006_0 ≤ 2 * G129_1) (hq6 : G120_36 + G120_44 ≤ G120_4) : Tr l K 5 mX12_statement 0 [(0, (2, 120))] [] M0 (fun M' r => St Pm1 ws_X12_statement_120 as_X12_statement_120 M0 M' ∧ ∃ S120_3 S120_4 S120_5 S120_7 S120_8 S120_36 S120_44 S120_50 S129_1 S136_1 S9006_0 S9010_0 : Int, rd M' 120 3 = S120_3 ∧ (0 ≤ S120_3 ∧ S120_3 ≤ 3) ∧ rd M' 120 4 = S120_4 ∧ (0 ≤ S120_4 ∧ S120_4 ≤ 900) ∧ rd M' 120 5 = S120_5 ∧ (0 ≤ S120_5 ∧ S120_5 ≤ 900) ∧ rd M' 120 7 = S120_7 ∧ ((-9223372036854775808) ≤ S120_7 ∧ S120_7 ≤ 9223372036854775807) ∧ rd M' 120 8 = S120_8 ∧ (0 ≤ S120_8 ∧ S120_8 ≤ 5) ∧ rd M' 120 36 = S120_36 ∧ (0 ≤ S120_36 ∧ S120_36 ≤ 900) ∧ rd M' 120 44 = S120_44 ∧ (0 ≤ S120_44 ∧ S120_44 ≤ 8) ∧ rd M' 120 50 = S120_50 ∧ (0 ≤ S120_50 ∧ S120_50 ≤ 20) ∧ rd M' 129 1 = S129_1 ∧ (0 ≤ S129_1 ∧ S129_1 ≤ 60) ∧ rd M' 136 1 = S136_1 ∧ (0 ≤ S136_1 ∧ S136_1 ≤ 200) ∧ nwv M' = S9006_0 ∧ (0 ≤ S9006_0 ∧ S9006_0 ≤ 20) ∧ tav M' = S9010_0 ∧ ((-1) ≤ S9010_0 ∧ S9010_0 ≤ 1800) ∧ r = none ∧ Hd (S120_3 = 0 ∨ S120_4 + 1 ≤ S120_5) ∧ (S120_4 ≤ S120_5) ∧ Hd (S120_3 ≠ 1 ∨ S120_4 + 2 ≤ S120_5 ∨ S120_7 < 256) ∧ (G120_4 ≤ S120_4 ∧ G120_5 ≤ S120_5 ∧ G9010_0 ≤ S9010_0) ∧ Hd (G120_8 = 0 ∨ S120_8 = G120_8) ∧ Hd (1 ≤ S120_8 ∨ G9010_0 < S9010_0) ∧ Hd (1 ≤ S120_8 ∨ S136_1 + S9006_0 ≤ 2 * S129_1) ∧ (S120_50 ≤ S120_44) ∧ (S120_36 + S120_44 ≤ S120_4)) := by
  subst k120_3
  subst k120_4
  subst k120_5
  subst k120_7
  subst k120_8
  subst k120_36
  subst k120_44
  subst k120_50
  subst k129_1
  subst k136_1
  subst k9006_0
  subst k9010_0
  refine Tr.imp (sp_X12_statement_120 hI en_120_37 hq0 hq1 hq2 hq3 hq4 hq5 hq6) ?_
  rintro M' _ ⟨hS, rfl, z0, z1, z2, z3, z4, z5, z6, z7, z8⟩
  exact ⟨hS, _, _, _, _, _, _, _, _, _, _, _, _, rfl, ir_120_3 hS.1.2.1, rfl, ir_120_4 hS.1.2.1, rfl, ir_120_5 hS.1.2.1, rfl, ir_120_7 hS.1.2.1, rfl, ir_120_8 hS.1.2.1, rfl, ir_120_36 hS.1.2.1, rfl, ir_120_44 hS.1.2.1, rfl, ir_120_50 hS.1.2.1, rfl, ir_129_1 hS.1.2.1, rfl, ir_136_1 hS.1.2.1, rfl, (nwv_b hS.1.2.1), rfl, (tav_b hS.1.2.1), rfl, hd_i z0, z1, hd_i z2, z3, hd_i z4, hd_i z5, hd_i z6, z7, z8⟩

def ws_X12_closesBlock_120 : List (Int × Int) := [(120, 3), (120, 4), (120, 5), (120, 6), (120, 7), (120, 8), (120, 9), (120, 44), (120, 50), (136, 1)]
def as_X12_closesBlock_120 : List Int := [137, 138, 139, 140, 141, 142, 151, 152]
def q_X12_closesBlock_120 (M0 M' : Mem) (r : Option PV) : Prop := St Pm1 ws_X12_closesBlock_120 as_X12_closesBlock_120 M0 M' ∧ r = none ∧ (rd M' 120 3 = 0 ∨ rd M' 120 4 + 1 ≤ rd M' 120 5) ∧ (rd M' 120 4 ≤ rd M' 120 5) ∧ (rd M' 120 3 ≠ 1 ∨ rd M' 120 4 + 2 ≤ rd M' 120 5 ∨ rd M' 120 7 < 256) ∧ (rd M0 120 4 ≤ rd M' 120 4 ∧ rd M0 120 5 ≤ rd M' 120 5 ∧ tav M0 ≤ tav M') ∧ (rd M0 120 8 = 0 ∨ rd M' 120 8 = rd M0 120 8) ∧ (1 ≤ rd M' 120 8 ∨ tav M0 < tav M') ∧ (rd M' 120 50 ≤ rd M' 120 44) ∧ (rd M' 136 1 + nwv M' ≤ 2 * rd M' 129 1) ∧ (rd M' 120 36 + rd M' 120 44 ≤ rd M' 120 4)
theorem kp_X12_closesBlock_120_120_37 {q : Mem → Prop} {M0 M : Mem} (h : St q ws_X12_closesBlock_120 as_X12_closesBlock_120 M0 M) : rd M 120 37 = rd M0 120 37 := St.kp h (by decide) (by decide) (by decide)
theorem kp_X12_isWord_120_129_1 {q : Mem → Prop} {M0 M : Mem} (h : St q ws_X12_isWord_120 as_X12_isWord_120 M0 M) : rd M 129 1 = rd M0 129 1 := St.kp h (by decide) (by decide) (by decide)
theorem ka_X12_next_120_152 {q : Mem → Prop} {M0 M : Mem} (h : St q ws_X12_next_120 as_X12_next_120 M0 M) (j : Int) : rd M 152 j = rd M0 152 j := St.ka h (by decide) (by decide) (by decide)
theorem kp_X12_spot_120_120_4 {q : Mem → Prop} {M0 M : Mem} (h : St q ws_X12_spot_120 as_X12_spot_120 M0 M) : rd M 120 4 = rd M0 120 4 := St.kp h (by decide) (by decide) (by decide)
theorem kp_X12_spot_120_120_7 {q : Mem → Prop} {M0 M : Mem} (h : St q ws_X12_spot_120 as_X12_spot_120 M0 M) : rd M 120 7 = rd M0 120 7 := St.kp h (by decide) (by decide) (by decide)
theorem ka_X12_spot_120_152 {q : Mem → Prop} {M0 M : Mem} (h : St q ws_X12_spot_120 as_X12_spot_120 M0 M) (j : Int) : rd M 152 j = rd M0 152 j := St.ka h (by decide) (by decide) (by decide)
set_option maxRecDepth 100000 in
set_option maxHeartbeats 4000000 in
theorem sp_X12_closesBlock_120 {l : Launch} {K : EC} {M0 : Mem} (hI : In Pm1 M0) (en_120_37 : rd M0 120 37 = 1)   (hq0 : rd M0 120 3 = 0 ∨ rd M0 120 4 + 1 ≤ rd M0 120 5) (hq1 : rd M0 120 4 ≤ rd M0 120 5) (hq2 : rd M0 120 3 ≠ 1 ∨ rd M0 120 4 + 2 ≤ rd M0 120 5 ∨ rd M0 120 7 < 256) (hq3 : 1 ≤ rd M0 120 50) (hq4 : rd M0 120 50 ≤ rd M0 120 44) (hq5 : rd M0 136 1 + nwv M0 ≤ 2 * rd M0 129 1) (hq6 : rd M0 120 3 ≠ 0) (hq7 : rd M0 120 36 + rd M0 120 44 ≤ rd M0 120 4) (hq8 : rd M0 120 8 = 0) : Tr l K 3 mX12_closesBlock 0 [(0, (2, 120))] [] M0 (q_X12_closesBlock_120 M0) := by
  have hS : St Pm1 ws_X12_closesBlock_120 as_X12_closesBlock_120 M0 M0 := St.rf hI
  obtain ⟨g120_8, eg120_8⟩ : ∃ v, rd M0 120 8 = v := ⟨_, rfl⟩
  have bg120_8 : 0 ≤ g120_8 ∧ g120_8 ≤ 5 := by rw [← eg120_8]; exact ir_120_8 hI.2.1
  obtain ⟨g120_3, eg120_3⟩ : ∃ v, rd M0 120 3 = v := ⟨_, rfl⟩
  have bg120_3 : 0 ≤ g120_3 ∧ g120_3 ≤ 3 := by rw [← eg120_3]; exact ir_120_3 hI.2.1
  obtain ⟨g120_4, eg120_4⟩ : ∃ v, rd M0 120 4 = v := ⟨_, rfl⟩
  have bg120_4 : 0 ≤ g120_4 ∧ g120_4 ≤ 900 := by rw [← eg120_4]; exact ir_120_4 hI.2.1
  obtain ⟨g120_5, eg120_5⟩ : ∃ v, rd M0 120 5 = v := ⟨_, rfl⟩
  have bg120_5 : 0 ≤ g120_5 ∧ g120_5 ≤ 900 := by rw [← eg120_5]; exact ir_120_5 hI.2.1
  obtain ⟨g120_7, eg120_7⟩ : ∃ v, rd M0 120 7 = v := ⟨_, rfl⟩
  have bg120_7 : (-9223372036854775808) ≤ g120_7 ∧ g120_7 ≤ 9223372036854775807 := by rw [← eg120_7]; exact ir_120_7 hI.2.1
  obtain ⟨g9010_0, eg9010_0⟩ : ∃ v, tav M0 = v := ⟨_, rfl⟩
  have bg9010_0 : (-1) ≤ g9010_0 ∧ g9010_0 ≤ 1800 := by rw [← eg9010_0]; exact (tav_b hI.2.1)
  obtain ⟨g120_44, eg120_44⟩ : ∃ v, rd M0 120 44 = v := ⟨_, rfl⟩
  have bg120_44 : 0 ≤ g120_44 ∧ g120_44 ≤ 8 := by rw [← eg120_44]; exact ir_120_44 hI.2.1
  obtain ⟨g120_50, eg120_50⟩ : ∃ v, rd M0 120 50 = v := ⟨_, rfl⟩
  have bg120_50 : 0 ≤ g120_50 ∧ g120_50 ≤ 20 := by rw [← eg120_50]; exact ir_120_50 hI.2.1
  obtain ⟨g136_1, eg136_1⟩ : ∃ v, rd M0 136 1 = v := ⟨_, rfl⟩
  have bg136_1 : 0 ≤ g136_1 ∧ g136_1 ≤ 200 := by rw [← eg136_1]; exact ir_136_1 hI.2.1
  obtain ⟨g9006_0, eg9006_0⟩ : ∃ v, nwv M0 = v := ⟨_, rfl⟩
  have bg9006_0 : 0 ≤ g9006_0 ∧ g9006_0 ≤ 20 := by rw [← eg9006_0]; exact (nwv_b hI.2.1)
  obtain ⟨g120_36, eg120_36⟩ : ∃ v, rd M0 120 36 = v := ⟨_, rfl⟩
  have bg120_36 : 0 ≤ g120_36 ∧ g120_36 ≤ 900 := by rw [← eg120_36]; exact ir_120_36 hI.2.1
  obtain ⟨g129_1, eg129_1⟩ : ∃ v, rd M0 129 1 = v := ⟨_, rfl⟩
  have bg129_1 : 0 ≤ g129_1 ∧ g129_1 ≤ 60 := by rw [← eg129_1]; exact ir_129_1 hI.2.1
  replace hq0 := hd_i hq0
  replace hq2 := hd_i hq2
  replace hq6 := hd_i hq6
  refine Tr.aload_n (pc := 0) (i := 0) d_X12_closesBlock_0 rfl rfl ?_
  refine Tr.dup (pc := 1) d_X12_closesBlock_1 ne21 ?_
  refine Tr.getf (pc := 2) d_X12_closesBlock_2 f_12_146 (by decide) (by decide) (ty_120 hS.1.1) ?_
  refine Tr.tp g120_44 eg120_44 ?_
  refine Tr.iconst (pc := 5) d_X12_closesBlock_5 (by decide) ?_
  refine Tr.isub (pc := 6) d_X12_closesBlock_6 ?_
  refine Tr.tp (g120_44 - 1) ((w32_id (by and_intros <;> omega)).trans (by omega)) ?_
  refine Tr.putfS (pc := 7) (P := St Pm1 ws_X12_closesBlock_120 as_X12_closesBlock_120 M0) d_X12_closesBlock_7 f_12_146 (by decide) (by decide) (ty_120 hS.1.1) (st_120_44 hS (by decide) (by and_intros <;> omega) (Pm1.of hS.1.2.2.2.2 (fun _ => rd_wb _ rfl) (fun _ => rd_wb _ rfl) (fun _ => rd_wb _ rfl) (fun _ => rd_wb _ rfl) (fun _ => rd_wb _ rfl) (fun _ => rd_wb _ rfl) (fun _ => rd_wb _ rfl) (fun _ => rd_wb _ rfl) (fun _ => rd_wb _ rfl) (fun _ => rd_wb _ rfl) (rd_wb _ rfl) (rd_wb _ rfl) (rd_wb _ rfl) (rd_wb _ rfl) (rd_wb _ rfl) (rd_wb _ rfl) (rd_wb _ rfl) (rd_wb _ rfl) (rd_wb _ rfl) (rd_wb _ rfl) (rd_wb _ rfl))) (fun M7 hS w7 => ?_)
  refine Tr.aload_n (pc := 10) (i := 0) d_X12_closesBlock_10 rfl rfl ?_
  refine Tr.dup (pc := 11) d_X12_closesBlock_11 ne21 ?_
  refine Tr.getf (pc := 12) d_X12_closesBlock_12 f_12_165 (by decide) (by decide) (ty_120 hS.1.1) ?_
  refine Tr.tp g120_50 ((Wr.b w7 rfl).trans eg120_50) ?_
  refine Tr.iconst (pc := 15) d_X12_closesBlock_15 (by decide) ?_
  refine Tr.isub (pc := 16) d_X12_closesBlock_16 ?_
  refine Tr.tp (g120_50 - 1) ((w32_id (by and_intros <;> omega)).trans (by omega)) ?_
  have kb17_120_50 : rd M7 120 50 = g120_50 := ((Wr.b w7 rfl).trans eg120_50)
  have kb17_136_1 : rd M7 136 1 = g136_1 := ((Wr.b w7 rfl).trans eg136_1)
  have hp9 := hS.1.2.2.2.2.2.2.2.2.2.2.2.2.2 (g120_50 - 1) (by omega) (by omega)
  rewrite [kb17_136_1] at hp9
  have kx_120_50 : rd M7 120 50 = g120_50 := ((Wr.b w7 rfl).trans eg120_50)
  refine Tr.putfS (pc := 17) (P := St Pm1 ws_X12_closesBlock_120 as_X12_closesBlock_120 M0) d_X12_closesBlock_17 f_12_165 (by decide) (by decide) (ty_120 hS.1.1) (st_120_50 hS (by decide) (by and_intros <;> omega) (Pm1_blm hS.1.2.2.2.2 hS.1.2.1 (by omega) (by omega))) (fun M17 hS w17 => ?_)
  obtain ⟨v17_9006, ev17_9006⟩ : ∃ v, nwv M17 = v := ⟨_, rfl⟩
  have bv17_9006 : 0 ≤ v17_9006 ∧ v17_9006 ≤ 20 := by rw [← ev17_9006]; exact (nwv_b hS.1.2.1)
  have fv17_9006 : (rd M17 151 (g120_50 - 1) = 1 ∧ g9006_0 = v17_9006) ∨ (rd M17 151 (g120_50 - 1) ≠ 1 ∧ g9006_0 = v17_9006 + 1) := by have h8 := ct_pop (x := 151) (j := 50) (e := 1) (a := 0) (b := 1) (M := M7) (M2 := M17) (n := g120_50) (((Wr.b w7 rfl).trans eg120_50)) w17.1 (fun i => Wr.b w17 rfl) (by omega); have h7 : ctV 151 50 1 0 1 M17 = v17_9006 := ev17_9006; have h6 : ctV 151 50 1 0 1 M7 = g9006_0 := ((nwv_of (fun j => ((Wr.b w7 rfl).trans rfl)) ((Wr.b w7 rfl).trans rfl)).trans eg9006_0); omega
  replace fv17_9006 := hd_i fv17_9006
  refine Tr.aload_n (pc := 20) (i := 0) d_X12_closesBlock_20 rfl rfl ?_
  refine Tr.getf (pc := 21) d_X12_closesBlock_21 f_12_159 (by decide) (by decide) (ty_120 hS.1.1) ?_
  refine Tr.tp 151 (fx_120_48 hS.1.1) ?_
  refine Tr.aload_n (pc := 24) (i := 0) d_X12_closesBlock_24 rfl rfl ?_
  refine Tr.getf (pc := 25) d_X12_closesBlock_25 f_12_165 (by decide) (by decide) (ty_120 hS.1.1) ?_
  refine Tr.tp (g120_50 - 1) w17.1 ?_
  refine Tr.iald (pc := 28) d_X12_closesBlock_28 (ty_151 hS.1.1) (by omega) (by omega) ?_
  refine Tr.gen (P := fun v => 0 ≤ v ∧ v ≤ 2) (ar_151 hS.1.2.1 _) (fun r28 er28 br28 => ?_)
  refine Tr.istore_n (pc := 29) (i := 1) (ls2 := [(1, (0, r28)), (0, (2, 120))]) d_X12_closesBlock_29 rfl (by decide) rfl ?_
  refine Tr.aload_n (pc := 30) (i := 0) d_X12_closesBlock_30 rfl rfl ?_
  refine Tr.getf (pc := 31) d_X12_closesBlock_31 f_12_162 (by decide) (by decide) (ty_120 hS.1.1) ?_
  refine Tr.tp 152 (fx_120_49 hS.1.1) ?_
  refine Tr.aload_n (pc := 34) (i := 0) d_X12_closesBlock_34 rfl rfl ?_
  refine Tr.getf (pc := 35) d_X12_closesBlock_35 f_12_165 (by decide) (by decide) (ty_120 hS.1.1) ?_
  refine Tr.tp (g120_50 - 1) w17.1 ?_
  refine Tr.iald (pc := 38) d_X12_closesBlock_38 (ty_152 hS.1.1) (by omega) (by omega) ?_
  refine Tr.gen (P := fun v => 0 ≤ v ∧ v ≤ 399) (ar_152 hS.1.2.1 _) (fun r38 er38 br38 => ?_)
  have q151 : rd M7 151 (g120_50 - 1) = r28 := (Wr.b w17 rfl).symm.trans er28
  have q152 : rd M7 152 (g120_50 - 1) = r38 := (Wr.b w17 rfl).symm.trans er38
  rw [q151, q152] at hp9
  have f39 := hd_o fv17_9006
  rewrite [er28] at f39
  replace f39 := hd_i f39
  obtain ⟨d38, ed38⟩ : ∃ v, rd M17 137 r38 = v := ⟨_, rfl⟩
  have e137 : rd M7 137 r38 = d38 := (Wr.b w17 rfl).symm.trans ed38
  rw [e137] at hp9
  have hp9d0 := hd_i hp9.2.2
  replace hp9 := And.intro hp9.1  (hp9.2.1)
  have bd38 : 0 ≤ d38 ∧ d38 ≤ 8 := by rw [← ed38]; have := ar_137 hS.1.2.1 r38; omega
  refine Tr.istore_n (pc := 39) (i := 2) (ls2 := [(2, (0, r38)), (1, (0, r28)), (0, (2, 120))]) d_X12_closesBlock_39 rfl (by decide) rfl ?_
  refine Tr.aload_n (pc := 40) (i := 0) d_X12_closesBlock_40 rfl rfl ?_
  refine Tr.callV (pc := 41) (as := []) d_X12_closesBlock_41 s_12_396 ok_X12_next rfl rfl (Nat.le_of_ble_eq_true rfl) (Nat.le_of_ble_eq_true rfl) (by decide) (ty_120 hS.1.1) ?_
  refine Tr.imp (Tr.deep (by decide) (ns_X12_next_120 (G120_3 := g120_3) (G120_5 := g120_5) (G120_8 := g120_8) (G9010_0 := g9010_0) hS.1 (((Wr.b w17 rfl).trans ((Wr.b w7 rfl).trans eg120_3))) (((Wr.b w17 rfl).trans ((Wr.b w7 rfl).trans eg120_5))) (((Wr.b w17 rfl).trans ((Wr.b w7 rfl).trans eg120_8))) (((tav_of ((Wr.b w17 rfl).trans ((Wr.b w7 rfl).trans rfl)) ((Wr.b w17 rfl).trans ((Wr.b w7 rfl).trans rfl))).trans eg9010_0)))) ?_
  rintro M41 _ ⟨h41, s41_120_3, s41_120_4, s41_120_5, s41_120_7, s41_120_8, s41_9010_0, es41_120_3, bs41_120_3, es41_120_4, bs41_120_4, es41_120_5, bs41_120_5, es41_120_7, bs41_120_7, es41_120_8, bs41_120_8, es41_9010_0, bs41_9010_0, rfl, z41_0, z41_1, z41_2, z41_3, z41_4, z41_5, z41_6⟩
  have hS := St.tr hS h41 (by decide) (by decide)
  refine Tr.sc [] rfl ?_
  refine Tr.aload_n (pc := 44) (i := 0) d_X12_closesBlock_44 rfl rfl ?_
  refine Tr.getf (pc := 45) d_X12_closesBlock_45 f_12_36 (by decide) (by decide) (ty_120 hS.1.1) ?_
  refine Tr.tp s41_120_8 es41_120_8 ?_
  refine Tr.if_le (pc := 48) (tgt := 52) d_X12_closesBlock_48 rfl (fun c48 => ?_) (fun c48 => ?_)
  · refine Tr.iload_n (pc := 52) (i := 1) d_X12_closesBlock_52 rfl rfl ?_
    refine Tr.iconst (pc := 53) d_X12_closesBlock_53 (by decide) ?_
    have J78 : ∀ (M : Mem) (u78_136_1 : Int), St Pm1 ws_X12_closesBlock_120 as_X12_closesBlock_120 M0 M → (0 ≤ u78_136_1 ∧ u78_136_1 ≤ 200) → rd M 120 3 = s41_120_3 → rd M 120 36 = g120_36 → rd M 120 4 = s41_120_4 → rd M 120 44 = (g120_44 - 1) → rd M 120 5 = s41_120_5 → rd M 120 50 = (g120_50 - 1) → rd M 120 7 = s41_120_7 → rd M 120 8 = s41_120_8 → rd M 129 1 = g129_1 → rd M 136 1 = u78_136_1 → rd M 137 r38 = d38 → rd M 151 (g120_50 - 1) = r28 → rd M 152 (g120_50 - 1) = r38 → nwv M = v17_9006 → tav M = s41_9010_0 → ((r28 = 2 ∧ u78_136_1 + v17_9006 ≤ 2 * g129_1) ∨ (r28 ≠ 2 ∧ u78_136_1 = g136_1)) → (g136_1 ≤ u78_136_1) → Tr l K 3 mX12_closesBlock 78 [(0, (2, 120)), (1, (0, r28)), (2, (0, r38))] [] M (q_X12_closesBlock_120 M0) := by
      intro M u78_136_1 hS bu78_136_1 k78_120_3 k78_120_36 k78_120_4 k78_120_44 k78_120_5 k78_120_50 k78_120_7 k78_120_8 k78_129_1 k78_136_1 k78_137_r3810 k78_151_g120_501n1 k78_152_g120_501n1 k78_9006_0 k78_9010_0 t78_0 t78_1
      clear w7 kb17_120_50 kb17_136_1 kx_120_50 w17 ev17_9006 er28 er38 ed38 es41_120_3 es41_120_4 es41_120_5 es41_120_7 es41_120_8 es41_9010_0
      replace t78_0 := hd_i t78_0
      refine Tr.iload_n (pc := 78) (i := 1) d_X12_closesBlock_78 rfl rfl ?_
      have J125 : ∀ (M : Mem), St Pm1 ws_X12_closesBlock_120 as_X12_closesBlock_120 M0 M → rd M 120 3 = s41_120_3 → rd M 120 36 = g120_36 → rd M 120 4 = s41_120_4 → rd M 120 44 = (g120_44 - 1) → rd M 120 5 = s41_120_5 → rd M 120 50 = (g120_50 - 1) → rd M 120 7 = s41_120_7 → rd M 120 8 = s41_120_8 → rd M 129 1 = g129_1 → rd M 136 1 = u78_136_1 → rd M 137 r38 = d38 → rd M 151 (g120_50 - 1) = r28 → rd M 152 (g120_50 - 1) = r38 → nwv M = v17_9006 → tav M = s41_9010_0 → (g136_1 ≤ u78_136_1 ∧ u78_136_1 + v17_9006 ≤ 2 * g129_1) → Tr l K 3 mX12_closesBlock 125 [(0, (2, 120)), (2, (0, r38))] [] M (q_X12_closesBlock_120 M0) := by
        intro M  hS  k125_120_3 k125_120_36 k125_120_4 k125_120_44 k125_120_5 k125_120_50 k125_120_7 k125_120_8 k125_129_1 k125_136_1 k125_137_r3810 k125_151_g120_501n1 k125_152_g120_501n1 k125_9006_0 k125_9010_0 t125_0
        clear k78_120_3 k78_120_36 k78_120_4 k78_120_44 k78_120_5 k78_120_50 k78_120_7 k78_120_8 k78_129_1 k78_136_1 k78_137_r3810 k78_151_g120_501n1 k78_152_g120_501n1 k78_9006_0 k78_9010_0
        refine Tr.aload_n (pc := 125) (i := 0) d_X12_closesBlock_125 rfl rfl ?_
        refine Tr.getf (pc := 126) d_X12_closesBlock_126 f_12_112 (by decide) (by decide) (ty_120 hS.1.1) ?_
        refine Tr.tp 142 (fx_120_33 hS.1.1) ?_
        refine Tr.iload_n (pc := 129) (i := 2) d_X12_closesBlock_129 rfl rfl ?_
        refine Tr.aload_n (pc := 130) (i := 0) d_X12_closesBlock_130 rfl rfl ?_
        refine Tr.getf (pc := 131) d_X12_closesBlock_131 f_12_94 (by decide) (by decide) (ty_120 hS.1.1) ?_
        refine Tr.tp 136 (fx_120_27 hS.1.1) ?_
        refine Tr.aload_n (pc := 134) (i := 0) d_X12_closesBlock_134 rfl rfl ?_
        refine Tr.getf (pc := 135) d_X12_closesBlock_135 f_12_124 (by decide) (by decide) (ty_120 hS.1.1) ?_
        refine Tr.tp 1 ((kp_X12_closesBlock_120_120_37 hS).trans en_120_37) ?_
        refine Tr.iald (pc := 138) d_X12_closesBlock_138 (ty_136 hS.1.1) (by omega) (by omega) ?_
        refine Tr.tp u78_136_1 k125_136_1 ?_
        refine Tr.iastS (pc := 139) (P := St Pm1 ws_X12_closesBlock_120 as_X12_closesBlock_120 M0) d_X12_closesBlock_139 (ty_142 hS.1.1) (by omega) (by omega) (sa_142 hS (by decide) (by and_intros <;> omega) (Pm1_goes hS.1.2.2.2.2 hS.1.2.1 (by omega) (by omega) (Or.inl (by omega)))) (fun M139 hS w139 => ?_)
        have kr_120_3 : rd M139 120 3 = s41_120_3 := ((Wr.b w139 rfl).trans k125_120_3)
        have kr_120_4 : rd M139 120 4 = s41_120_4 := ((Wr.b w139 rfl).trans k125_120_4)
        have kr_120_5 : rd M139 120 5 = s41_120_5 := ((Wr.b w139 rfl).trans k125_120_5)
        have kr_120_7 : rd M139 120 7 = s41_120_7 := ((Wr.b w139 rfl).trans k125_120_7)
        have kr_120_8 : rd M139 120 8 = s41_120_8 := ((Wr.b w139 rfl).trans k125_120_8)
        have kr_120_36 : rd M139 120 36 = g120_36 := ((Wr.b w139 rfl).trans k125_120_36)
        have kr_120_44 : rd M139 120 44 = (g120_44 - 1) := ((Wr.b w139 rfl).trans k125_120_44)
        have kr_120_50 : rd M139 120 50 = (g120_50 - 1) := ((Wr.b w139 rfl).trans k125_120_50)
        have kr_129_1 : rd M139 129 1 = g129_1 := ((Wr.b w139 rfl).trans k125_129_1)
        have kr_136_1 : rd M139 136 1 = u78_136_1 := ((Wr.b w139 rfl).trans k125_136_1)
        have kr_9006_0 : nwv M139 = v17_9006 := ((nwv_of (fun j => ((Wr.b w139 rfl).trans rfl)) ((Wr.b w139 rfl).trans rfl)).trans k125_9006_0)
        have kr_9010_0 : tav M139 = s41_9010_0 := ((tav_of ((Wr.b w139 rfl).trans rfl) ((Wr.b w139 rfl).trans rfl)).trans k125_9010_0)
        exact Tr.vret (pc := 140) d_X12_closesBlock_140 rfl ⟨hS, rfl, (by first | exact (hd_o z41_0) | exact (hd_o z41_0).elim (fun h1 => by omega) (fun h1 => by omega)), (by omega), (by first | exact (hd_o z41_2) | exact (hd_o z41_2).elim (fun h1 => by omega) (fun h1 => h1.elim (fun h1 => by omega) (fun h1 => by omega))), (by and_intros <;> omega), (by first | exact (hd_o z41_6) | exact (hd_o z41_6).elim (fun h1 => by omega) (fun h1 => by omega)), (by exact (ne_o (hd_o hq6)).elim (fun h1 => by omega) (fun h1 => (hd_o z41_5).elim (fun h2 => by omega) (fun h2 => by omega))), (by omega), (by omega), (by omega)⟩
      refine Tr.if_ne (pc := 79) (tgt := 125) d_X12_closesBlock_79 rfl (fun c79 => ?_) (fun c79 => ?_)
      · have c79b : 1 ≤ r28 ∧ r28 ≤ 2 := by omega
        replace c79 := hd_i c79
        refine Tr.pick [0, 2] (ls2 := [(0, (2, 120)), (2, (0, r38))]) rfl ?_
        exact J125 _ hS k78_120_3 k78_120_36 k78_120_4 k78_120_44 k78_120_5 k78_120_50 k78_120_7 k78_120_8 k78_129_1 k78_136_1 k78_137_r3810 k78_151_g120_501n1 k78_152_g120_501n1 k78_9006_0 k78_9010_0 (by exact (hd_o t78_0).elim (fun h1 => by omega) (fun h1 => (hd_o f39).elim (fun h2 => by omega) (fun h2 => by omega)))
      · refine Tr.aload_n (pc := 82) (i := 0) d_X12_closesBlock_82 rfl rfl ?_
        refine Tr.ldc2 (pc := 83) d_X12_closesBlock_83 kl_12_433 (by decide) ?_
        refine Tr.callV (pc := 86) (as := [_]) d_X12_closesBlock_86 s_12_484 ok_X12_isWord rfl rfl (Nat.le_of_ble_eq_true rfl) (Nat.le_of_ble_eq_true rfl) (by decide) (ty_120 hS.1.1) ?_
        refine Tr.imp (Tr.deep (by decide) (ns_X12_isWord_120 (G120_3 := s41_120_3) (G120_7 := s41_120_7) hS.1.wk (k78_120_3) (k78_120_7) 1701606245 (by omega))) ?_
        rintro M86 _ ⟨h86, r86, rfl, lr86, ur86, z86_0⟩
        have h86 := St.rn h86 (Pm1.of hS.1.2.2.2.2 (fun _ => (ka_X12_isWord_120_131 h86 _)) (fun _ => (ka_X12_isWord_120_137 h86 _)) (fun _ => (ka_X12_isWord_120_138 h86 _)) (fun _ => (ka_X12_isWord_120_139 h86 _)) (fun _ => (ka_X12_isWord_120_140 h86 _)) (fun _ => (ka_X12_isWord_120_141 h86 _)) (fun _ => (ka_X12_isWord_120_142 h86 _)) (fun _ => (ka_X12_isWord_120_143 h86 _)) (fun _ => (ka_X12_isWord_120_151 h86 _)) (fun _ => (ka_X12_isWord_120_152 h86 _)) (kp_X12_isWord_120_126_0 h86) (kp_X12_isWord_120_126_1 h86) (kp_X12_isWord_120_136_0 h86) (kp_X12_isWord_120_136_1 h86) (kp_X12_isWord_120_123_0 h86) (kp_X12_isWord_120_123_1 h86) (kp_X12_isWord_120_124_0 h86) (kp_X12_isWord_120_124_1 h86) (kp_X12_isWord_120_120_8 h86) (kp_X12_isWord_120_120_36 h86) (kp_X12_isWord_120_120_50 h86))
        have hS := St.tr hS h86 (by decide) (by decide)
        refine Tr.sc [(0, r86)] rfl ?_
        refine Tr.if_eq (pc := 89) (tgt := 125) d_X12_closesBlock_89 rfl (fun c89 => ?_) (fun c89 => ?_)
        · refine Tr.pick [0, 2] (ls2 := [(0, (2, 120)), (2, (0, r38))]) rfl ?_
          exact J125 _ hS ((kp_X12_isWord_120_120_3 h86).trans k78_120_3) ((kp_X12_isWord_120_120_36 h86).trans k78_120_36) ((kp_X12_isWord_120_120_4 h86).trans k78_120_4) ((kp_X12_isWord_120_120_44 h86).trans k78_120_44) ((kp_X12_isWord_120_120_5 h86).trans k78_120_5) ((kp_X12_isWord_120_120_50 h86).trans k78_120_50) ((kp_X12_isWord_120_120_7 h86).trans k78_120_7) ((kp_X12_isWord_120_120_8 h86).trans k78_120_8) ((kp_X12_isWord_120_129_1 h86).trans k78_129_1) ((kp_X12_isWord_120_136_1 h86).trans k78_136_1) ((ka_X12_isWord_120_137 h86 _).trans k78_137_r3810) ((ka_X12_isWord_120_151 h86 _).trans k78_151_g120_501n1) ((ka_X12_isWord_120_152 h86 _).trans k78_152_g120_501n1) ((nwv_of (fun j => ((ka_X12_isWord_120_151 h86 _).trans rfl)) ((kp_X12_isWord_120_120_50 h86).trans rfl)).trans k78_9006_0) ((tav_of ((kp_X12_isWord_120_120_5 h86).trans rfl) ((kp_X12_isWord_120_120_3 h86).trans rfl)).trans k78_9010_0) (by exact (hd_o t78_0).elim (fun h1 => by omega) (fun h1 => (hd_o f39).elim (fun h2 => by omega) (fun h2 => by omega)))
        · have c89b : 1 ≤ r86 ∧ r86 ≤ 1 := by omega
          replace c89 := hd_i c89
          refine Tr.aload_n (pc := 92) (i := 0) d_X12_closesBlock_92 rfl rfl ?_
          refine Tr.iconst (pc := 93) d_X12_closesBlock_93 (by decide) ?_
          refine Tr.iconst (pc := 94) d_X12_closesBlock_94 (by decide) ?_
          refine Tr.callV (pc := 95) (as := [_, _]) d_X12_closesBlock_95 s_12_531 ok_X12_spot rfl rfl (Nat.le_of_ble_eq_true rfl) (Nat.le_of_ble_eq_true rfl) (by decide) (ty_120 hS.1.1) ?_
          refine Tr.imp (Tr.deep (by decide) (ns_X12_spot_120 (G136_1 := u78_136_1) hS.1 (((kp_X12_isWord_120_136_1 h86).trans k78_136_1)) ((kp_X12_closesBlock_120_120_37 hS).trans en_120_37) 0 (by omega) (-1) (by omega) (by exact (hd_o t78_0).elim (fun h1 => by omega) (fun h1 => by omega)) (by omega) (by omega))) ?_
          rintro M95 _ ⟨h95, s95_136_1, es95_136_1, bs95_136_1, r95, rfl, lr95, ur95, z95_0, z95_1, z95_2, z95_3⟩
          have hS := St.tr hS h95 (by decide) (by decide)
          refine Tr.sc [(0, r95)] rfl ?_
          have kz95 : rd M86 136 1 = u78_136_1 := ((kp_X12_isWord_120_136_1 h86).trans k78_136_1)
          have ed95 : rd M95 137 r38 = d38 := (z95_2 r38 (by omega)).trans (((ka_X12_isWord_120_137 h86 _).trans k78_137_r3810))
          refine Tr.istore_n (pc := 98) (i := 3) (ls2 := [(3, (0, r95)), (0, (2, 120)), (1, (0, r28)), (2, (0, r38))]) d_X12_closesBlock_98 rfl (by decide) rfl ?_
          refine Tr.aload_n (pc := 99) (i := 0) d_X12_closesBlock_99 rfl rfl ?_
          refine Tr.getf (pc := 100) d_X12_closesBlock_100 f_12_112 (by decide) (by decide) (ty_120 hS.1.1) ?_
          refine Tr.tp 142 (fx_120_33 hS.1.1) ?_
          refine Tr.iload_n (pc := 103) (i := 2) d_X12_closesBlock_103 rfl rfl ?_
          refine Tr.aload_n (pc := 104) (i := 0) d_X12_closesBlock_104 rfl rfl ?_
          refine Tr.getf (pc := 105) d_X12_closesBlock_105 f_12_94 (by decide) (by decide) (ty_120 hS.1.1) ?_
          refine Tr.tp 136 (fx_120_27 hS.1.1) ?_
          refine Tr.aload_n (pc := 108) (i := 0) d_X12_closesBlock_108 rfl rfl ?_
          refine Tr.getf (pc := 109) d_X12_closesBlock_109 f_12_124 (by decide) (by decide) (ty_120 hS.1.1) ?_
          refine Tr.tp 1 ((kp_X12_closesBlock_120_120_37 hS).trans en_120_37) ?_
          refine Tr.iald (pc := 112) d_X12_closesBlock_112 (ty_136 hS.1.1) (by omega) (by omega) ?_
          refine Tr.tp s95_136_1 es95_136_1 ?_
          refine Tr.iastS (pc := 113) (P := St Pm1 ws_X12_closesBlock_120 as_X12_closesBlock_120 M0) d_X12_closesBlock_113 (ty_142 hS.1.1) (by omega) (by omega) (sa_142 hS (by decide) (by and_intros <;> omega) (Pm1_goes hS.1.2.2.2.2 hS.1.2.1 (by omega) (by omega) (Or.inl (by omega)))) (fun M113 hS w113 => ?_)
          refine Tr.aload_n (pc := 114) (i := 0) d_X12_closesBlock_114 rfl rfl ?_
          refine Tr.callV (pc := 115) (as := []) d_X12_closesBlock_115 s_12_396 ok_X12_next rfl rfl (Nat.le_of_ble_eq_true rfl) (Nat.le_of_ble_eq_true rfl) (by decide) (ty_120 hS.1.1) ?_
          refine Tr.imp (Tr.deep (by decide) (ns_X12_next_120 (G120_3 := s41_120_3) (G120_5 := s41_120_5) (G120_8 := s41_120_8) (G9010_0 := s41_9010_0) hS.1 (((Wr.b w113 rfl).trans ((kp_X12_spot_120_120_3 h95).trans ((kp_X12_isWord_120_120_3 h86).trans k78_120_3)))) (((Wr.b w113 rfl).trans ((kp_X12_spot_120_120_5 h95).trans ((kp_X12_isWord_120_120_5 h86).trans k78_120_5)))) (((Wr.b w113 rfl).trans ((kp_X12_spot_120_120_8 h95).trans ((kp_X12_isWord_120_120_8 h86).trans k78_120_8)))) (((tav_of ((Wr.b w113 rfl).trans ((kp_X12_spot_120_120_5 h95).trans ((kp_X12_isWord_120_120_5 h86).trans rfl))) ((Wr.b w113 rfl).trans ((kp_X12_spot_120_120_3 h95).trans ((kp_X12_isWord_120_120_3 h86).trans rfl)))).trans k78_9010_0)))) ?_
          rintro M115 _ ⟨h115, s115_120_3, s115_120_4, s115_120_5, s115_120_7, s115_120_8, s115_9010_0, es115_120_3, bs115_120_3, es115_120_4, bs115_120_4, es115_120_5, bs115_120_5, es115_120_7, bs115_120_7, es115_120_8, bs115_120_8, es115_9010_0, bs115_9010_0, rfl, z115_0, z115_1, z115_2, z115_3, z115_4, z115_5, z115_6⟩
          have hS := St.tr hS h115 (by decide) (by decide)
          refine Tr.sc [] rfl ?_
          refine Tr.aload_n (pc := 118) (i := 0) d_X12_closesBlock_118 rfl rfl ?_
          refine Tr.iconst (pc := 119) d_X12_closesBlock_119 (by decide) ?_
          refine Tr.iload_n (pc := 120) (i := 3) d_X12_closesBlock_120 rfl rfl ?_
          refine Tr.callV (pc := 121) (as := [_, _]) d_X12_closesBlock_121 s_12_534 ok_X12_opensBlock rfl rfl (Nat.le_of_ble_eq_true rfl) (Nat.le_of_ble_eq_true rfl) (by decide) (ty_120 hS.1.1) ?_
          refine Tr.imp (Tr.deep (by decide) (ns_X12_opensBlock_120 (G120_3 := s115_120_3) (G120_4 := s115_120_4) (G120_5 := s115_120_5) (G120_7 := s115_120_7) (G120_8 := s115_120_8) (G120_36 := g120_36) (G120_44 := (g120_44 - 1)) (G120_50 := (g120_50 - 1)) (G136_1 := s95_136_1) (G9006_0 := v17_9006) (G9010_0 := s115_9010_0) hS.1 (es115_120_3) (es115_120_4) (es115_120_5) (es115_120_7) (es115_120_8) (((kp_X12_next_120_120_36 h115).trans ((Wr.b w113 rfl).trans ((kp_X12_spot_120_120_36 h95).trans ((kp_X12_isWord_120_120_36 h86).trans k78_120_36))))) (((kp_X12_next_120_120_44 h115).trans ((Wr.b w113 rfl).trans ((kp_X12_spot_120_120_44 h95).trans ((kp_X12_isWord_120_120_44 h86).trans k78_120_44))))) (((kp_X12_next_120_120_50 h115).trans ((Wr.b w113 rfl).trans ((kp_X12_spot_120_120_50 h95).trans ((kp_X12_isWord_120_120_50 h86).trans k78_120_50))))) (((kp_X12_next_120_136_1 h115).trans ((Wr.b w113 rfl).trans es95_136_1))) (((nwv_of (fun j => ((ka_X12_next_120_151 h115 _).trans ((Wr.b w113 rfl).trans ((ka_X12_spot_120_151 h95 _).trans ((ka_X12_isWord_120_151 h86 _).trans rfl))))) ((kp_X12_next_120_120_50 h115).trans ((Wr.b w113 rfl).trans ((kp_X12_spot_120_120_50 h95).trans ((kp_X12_isWord_120_120_50 h86).trans rfl))))).trans k78_9006_0)) (es115_9010_0) 1 (by omega) r95 (by and_intros <;> omega) (by first | exact (hd_o z115_0) | exact (hd_o z115_0).elim (fun h1 => by omega) (fun h1 => by omega)) (by omega) (by first | exact (hd_o z115_2) | exact (hd_o z115_2).elim (fun h1 => by omega) (fun h1 => h1.elim (fun h1 => by omega) (fun h1 => by omega))) (by omega) (by omega) (by and_intros <;> omega) (by omega))) ?_
          rintro M121 _ ⟨h121, s121_120_3, s121_120_4, s121_120_5, s121_120_7, s121_120_8, s121_120_44, s121_120_50, s121_9006_0, s121_9010_0, es121_120_3, bs121_120_3, es121_120_4, bs121_120_4, es121_120_5, bs121_120_5, es121_120_7, bs121_120_7, es121_120_8, bs121_120_8, es121_120_44, bs121_120_44, es121_120_50, bs121_120_50, es121_9006_0, bs121_9006_0, es121_9010_0, bs121_9010_0, rfl, z121_0, z121_1, z121_2, z121_3, z121_4, z121_5, z121_6, z121_7, z121_8⟩
          have hS := St.tr hS h121 (by decide) (by decide)
          refine Tr.sc [] rfl ?_
          have kr_120_3 : rd M121 120 3 = s121_120_3 := es121_120_3
          have kr_120_4 : rd M121 120 4 = s121_120_4 := es121_120_4
          have kr_120_5 : rd M121 120 5 = s121_120_5 := es121_120_5
          have kr_120_7 : rd M121 120 7 = s121_120_7 := es121_120_7
          have kr_120_8 : rd M121 120 8 = s121_120_8 := es121_120_8
          have kr_120_36 : rd M121 120 36 = g120_36 := ((kp_X12_opensBlock_120_120_36 h121).trans ((kp_X12_next_120_120_36 h115).trans ((Wr.b w113 rfl).trans ((kp_X12_spot_120_120_36 h95).trans ((kp_X12_isWord_120_120_36 h86).trans k78_120_36)))))
          have kr_120_44 : rd M121 120 44 = s121_120_44 := es121_120_44
          have kr_120_50 : rd M121 120 50 = s121_120_50 := es121_120_50
          have kr_129_1 : rd M121 129 1 = g129_1 := ((kp_X12_opensBlock_120_129_1 h121).trans ((kp_X12_next_120_129_1 h115).trans ((Wr.b w113 rfl).trans ((kp_X12_spot_120_129_1 h95).trans ((kp_X12_isWord_120_129_1 h86).trans k78_129_1)))))
          have kr_136_1 : rd M121 136 1 = s95_136_1 := ((kp_X12_opensBlock_120_136_1 h121).trans ((kp_X12_next_120_136_1 h115).trans ((Wr.b w113 rfl).trans es95_136_1)))
          have kr_9006_0 : nwv M121 = s121_9006_0 := es121_9006_0
          have kr_9010_0 : tav M121 = s121_9010_0 := es121_9010_0
          exact Tr.vret (pc := 124) d_X12_closesBlock_124 rfl ⟨hS, rfl, (by first | exact (hd_o z121_0) | exact (hd_o z121_0).elim (fun h1 => by omega) (fun h1 => by omega)), (by omega), (by first | exact (hd_o z121_2) | exact (hd_o z121_2).elim (fun h1 => by omega) (fun h1 => h1.elim (fun h1 => by omega) (fun h1 => by omega))), (by and_intros <;> omega), (by omega), (by exact (hd_o z121_5).elim (fun h1 => by omega) (fun h1 => by omega)), (by omega), (by exact (hd_o t78_0).elim (fun h1 => by omega) (fun h1 => (hd_o f39).elim (fun h2 => by omega) (fun h2 => (hd_o z121_8).elim (fun h3 => by omega) (fun h3 => (ne_o h3.1).elim (fun h4 => by omega) (fun h4 => by omega))))), (by omega)⟩
    refine Tr.icmp_ne (pc := 54) (tgt := 78) d_X12_closesBlock_54 rfl (fun c54 => ?_) (fun c54 => ?_)
    · have c54b : 0 ≤ r28 ∧ r28 ≤ 1 := by omega
      replace c54 := hd_i c54
      refine Tr.pick [2, 1, 0] (ls2 := [(0, (2, 120)), (1, (0, r28)), (2, (0, r38))]) rfl ?_
      exact J78 _ _ hS (by and_intros <;> omega) es41_120_3 ((kp_X12_next_120_120_36 h41).trans ((Wr.b w17 rfl).trans ((Wr.b w7 rfl).trans eg120_36))) es41_120_4 ((kp_X12_next_120_120_44 h41).trans ((Wr.b w17 rfl).trans w7.1)) es41_120_5 ((kp_X12_next_120_120_50 h41).trans w17.1) es41_120_7 es41_120_8 ((kp_X12_next_120_129_1 h41).trans ((Wr.b w17 rfl).trans ((Wr.b w7 rfl).trans eg129_1))) ((kp_X12_next_120_136_1 h41).trans ((Wr.b w17 rfl).trans ((Wr.b w7 rfl).trans eg136_1))) ((ka_X12_next_120_137 h41 _).trans ed38) ((ka_X12_next_120_151 h41 _).trans er28) ((ka_X12_next_120_152 h41 _).trans er38) ((nwv_of (fun j => ((ka_X12_next_120_151 h41 _).trans rfl)) ((kp_X12_next_120_120_50 h41).trans rfl)).trans ev17_9006) es41_9010_0 (by omega) (by omega)
    · refine Tr.aload_n (pc := 57) (i := 0) d_X12_closesBlock_57 rfl rfl ?_
      refine Tr.getf (pc := 58) d_X12_closesBlock_58 f_12_112 (by decide) (by decide) (ty_120 hS.1.1) ?_
      refine Tr.tp 142 (fx_120_33 hS.1.1) ?_
      refine Tr.aload_n (pc := 61) (i := 0) d_X12_closesBlock_61 rfl rfl ?_
      refine Tr.iconst (pc := 62) d_X12_closesBlock_62 (by decide) ?_
      refine Tr.iconst (pc := 63) d_X12_closesBlock_63 (by decide) ?_
      refine Tr.callV (pc := 64) (as := [_, _]) d_X12_closesBlock_64 s_12_531 ok_X12_spot rfl rfl (Nat.le_of_ble_eq_true rfl) (Nat.le_of_ble_eq_true rfl) (by decide) (ty_120 hS.1.1) ?_
      refine Tr.imp (Tr.deep (by decide) (ns_X12_spot_120 (G136_1 := g136_1) hS.1 (((kp_X12_next_120_136_1 h41).trans ((Wr.b w17 rfl).trans ((Wr.b w7 rfl).trans eg136_1)))) ((kp_X12_closesBlock_120_120_37 hS).trans en_120_37) 0 (by omega) (-1) (by omega) (by omega) (by omega) (by omega))) ?_
      rintro M64 _ ⟨h64, s64_136_1, es64_136_1, bs64_136_1, r64, rfl, lr64, ur64, z64_0, z64_1, z64_2, z64_3⟩
      have hS := St.tr hS h64 (by decide) (by decide)
      refine Tr.sc [(0, r64), (2, 142)] rfl ?_
      have kz64 : rd M41 136 1 = g136_1 := ((kp_X12_next_120_136_1 h41).trans ((Wr.b w17 rfl).trans ((Wr.b w7 rfl).trans eg136_1)))
      have ed64 : rd M64 137 r38 = d38 := (z64_2 r38 (by omega)).trans (((ka_X12_next_120_137 h41 _).trans ed38))
      refine Tr.iload_n (pc := 67) (i := 2) d_X12_closesBlock_67 rfl rfl ?_
      refine Tr.sipush (pc := 68) d_X12_closesBlock_68 rfl (by decide) ?_
      refine Tr.aload_n (pc := 71) (i := 0) d_X12_closesBlock_71 rfl rfl ?_
      refine Tr.getf (pc := 72) d_X12_closesBlock_72 f_12_124 (by decide) (by decide) (ty_120 hS.1.1) ?_
      refine Tr.tp 1 ((kp_X12_closesBlock_120_120_37 hS).trans en_120_37) ?_
      refine Tr.imul (pc := 75) d_X12_closesBlock_75 ?_
      refine Tr.tp 200 (by decide) ?_
      refine Tr.isub (pc := 76) d_X12_closesBlock_76 ?_
      refine Tr.tp (r38 - 200) ((w32_id (by and_intros <;> omega)).trans (by omega)) ?_
      refine Tr.iastS (pc := 77) (P := St Pm1 ws_X12_closesBlock_120 as_X12_closesBlock_120 M0) d_X12_closesBlock_77 (ty_142 hS.1.1) (by omega) (by omega) (sa_142 hS (by decide) (by and_intros <;> omega) (Pm1_goes hS.1.2.2.2.2 hS.1.2.1 (by omega) (by omega) (Or.inr (Or.inl (by rw [show 200 + (r38 - 200) = r38 by omega, show rd M64 137 r38 = d38 from ed64]; exact (by exact (Decidable.not_or_of_imp (hd_o hp9d0)).elim (fun h1 => by omega) (fun h1 => (ne_o h1).elim (fun h2 => by omega) (fun h2 => by omega)))))))) (fun M77 hS w77 => ?_)
      refine Tr.pick [2, 1, 0] (ls2 := [(0, (2, 120)), (1, (0, r28)), (2, (0, r38))]) rfl ?_
      exact J78 _ _ hS (by and_intros <;> omega) ((Wr.b w77 rfl).trans ((kp_X12_spot_120_120_3 h64).trans es41_120_3)) ((Wr.b w77 rfl).trans ((kp_X12_spot_120_120_36 h64).trans ((kp_X12_next_120_120_36 h41).trans ((Wr.b w17 rfl).trans ((Wr.b w7 rfl).trans eg120_36))))) ((Wr.b w77 rfl).trans ((kp_X12_spot_120_120_4 h64).trans es41_120_4)) ((Wr.b w77 rfl).trans ((kp_X12_spot_120_120_44 h64).trans ((kp_X12_next_120_120_44 h41).trans ((Wr.b w17 rfl).trans w7.1)))) ((Wr.b w77 rfl).trans ((kp_X12_spot_120_120_5 h64).trans es41_120_5)) ((Wr.b w77 rfl).trans ((kp_X12_spot_120_120_50 h64).trans ((kp_X12_next_120_120_50 h41).trans w17.1))) ((Wr.b w77 rfl).trans ((kp_X12_spot_120_120_7 h64).trans es41_120_7)) ((Wr.b w77 rfl).trans ((kp_X12_spot_120_120_8 h64).trans es41_120_8)) ((Wr.b w77 rfl).trans ((kp_X12_spot_120_129_1 h64).trans ((kp_X12_next_120_129_1 h41).trans ((Wr.b w17 rfl).trans ((Wr.b w7 rfl).trans eg129_1))))) ((Wr.b w77 rfl).trans es64_136_1) ((Wr.b w77 rfl).trans ed64) ((Wr.b w77 rfl).trans ((ka_X12_spot_120_151 h64 _).trans ((ka_X12_next_120_151 h41 _).trans er28))) ((Wr.b w77 rfl).trans ((ka_X12_spot_120_152 h64 _).trans ((ka_X12_next_120_152 h41 _).trans er38))) ((nwv_of (fun j => ((Wr.b w77 rfl).trans ((ka_X12_spot_120_151 h64 _).trans ((ka_X12_next_120_151 h41 _).trans rfl)))) ((Wr.b w77 rfl).trans ((kp_X12_spot_120_120_50 h64).trans ((kp_X12_next_120_120_50 h41).trans rfl)))).trans ev17_9006) ((tav_of ((Wr.b w77 rfl).trans ((kp_X12_spot_120_120_5 h64).trans rfl)) ((Wr.b w77 rfl).trans ((kp_X12_spot_120_120_3 h64).trans rfl))).trans es41_9010_0) (by exact (hd_o f39).elim (fun h1 => by omega) (fun h1 => by omega)) (by omega)
  · have kr_120_3 : rd M41 120 3 = s41_120_3 := es41_120_3
    have kr_120_4 : rd M41 120 4 = s41_120_4 := es41_120_4
    have kr_120_5 : rd M41 120 5 = s41_120_5 := es41_120_5
    have kr_120_7 : rd M41 120 7 = s41_120_7 := es41_120_7
    have kr_120_8 : rd M41 120 8 = s41_120_8 := es41_120_8
    have kr_120_36 : rd M41 120 36 = g120_36 := ((kp_X12_next_120_120_36 h41).trans ((Wr.b w17 rfl).trans ((Wr.b w7 rfl).trans eg120_36)))
    have kr_120_44 : rd M41 120 44 = (g120_44 - 1) := ((kp_X12_next_120_120_44 h41).trans ((Wr.b w17 rfl).trans w7.1))
    have kr_120_50 : rd M41 120 50 = (g120_50 - 1) := ((kp_X12_next_120_120_50 h41).trans w17.1)
    have kr_129_1 : rd M41 129 1 = g129_1 := ((kp_X12_next_120_129_1 h41).trans ((Wr.b w17 rfl).trans ((Wr.b w7 rfl).trans eg129_1)))
    have kr_136_1 : rd M41 136 1 = g136_1 := ((kp_X12_next_120_136_1 h41).trans ((Wr.b w17 rfl).trans ((Wr.b w7 rfl).trans eg136_1)))
    have kr_9006_0 : nwv M41 = v17_9006 := ((nwv_of (fun j => ((ka_X12_next_120_151 h41 _).trans rfl)) ((kp_X12_next_120_120_50 h41).trans rfl)).trans ev17_9006)
    have kr_9010_0 : tav M41 = s41_9010_0 := es41_9010_0
    exact Tr.vret (pc := 51) d_X12_closesBlock_51 rfl ⟨hS, rfl, (by first | exact (hd_o z41_0) | exact (hd_o z41_0).elim (fun h1 => by omega) (fun h1 => by omega)), (by omega), (by first | exact (hd_o z41_2) | exact (hd_o z41_2).elim (fun h1 => by omega) (fun h1 => h1.elim (fun h1 => by omega) (fun h1 => by omega))), (by and_intros <;> omega), (by first | exact (hd_o z41_6) | exact (hd_o z41_6).elim (fun h1 => by omega) (fun h1 => by omega)), (by omega), (by omega), (by exact (hd_o f39).elim (fun h1 => by omega) (fun h1 => by omega)), (by omega)⟩

set_option maxRecDepth 100000 in
set_option maxHeartbeats 4000000 in
theorem ns_X12_closesBlock_120 {l : Launch} {K : EC} {M0 : Mem} {G120_3 G120_4 G120_5 G120_7 G120_8 G120_36 G120_44 G120_50 G129_1 G136_1 G9006_0 G9010_0 : Int} (hI : In Pm1 M0) (k120_3 : rd M0 120 3 = G120_3) (k120_4 : rd M0 120 4 = G120_4) (k120_5 : rd M0 120 5 = G120_5) (k120_7 : rd M0 120 7 = G120_7) (k120_8 : rd M0 120 8 = G120_8) (k120_36 : rd M0 120 36 = G120_36) (k120_44 : rd M0 120 44 = G120_44) (k120_50 : rd M0 120 50 = G120_50) (k129_1 : rd M0 129 1 = G129_1) (k136_1 : rd M0 136 1 = G136_1) (k9006_0 : nwv M0 = G9006_0) (k9010_0 : tav M0 = G9010_0) (en_120_37 : rd M0 120 37 = 1)   (hq0 : G120_3 = 0 ∨ G120_4 + 1 ≤ G120_5) (hq1 : G120_4 ≤ G120_5) (hq2 : G120_3 ≠ 1 ∨ G120_4 + 2 ≤ G120_5 ∨ G120_7 < 256) (hq3 : 1 ≤ G120_50) (hq4 : G120_50 ≤ G120_44) (hq5 : G136_1 + G9006_0 ≤ 2 * G129_1) (hq6 : G120_3 ≠ 0) (hq7 : G120_36 + G120_44 ≤ G120_4) (hq8 : G120_8 = 0) : Tr l K 3 mX12_closesBlock 0 [(0, (2, 120))] [] M0 (fun M' r => St Pm1 ws_X12_closesBlock_120 as_X12_closesBlock_120 M0 M' ∧ ∃ S120_3 S120_4 S120_5 S120_7 S120_8 S120_44 S120_50 S136_1 S9006_0 S9010_0 : Int, rd M' 120 3 = S120_3 ∧ (0 ≤ S120_3 ∧ S120_3 ≤ 3) ∧ rd M' 120 4 = S120_4 ∧ (0 ≤ S120_4 ∧ S120_4 ≤ 900) ∧ rd M' 120 5 = S120_5 ∧ (0 ≤ S120_5 ∧ S120_5 ≤ 900) ∧ rd M' 120 7 = S120_7 ∧ ((-9223372036854775808) ≤ S120_7 ∧ S120_7 ≤ 9223372036854775807) ∧ rd M' 120 8 = S120_8 ∧ (0 ≤ S120_8 ∧ S120_8 ≤ 5) ∧ rd M' 120 44 = S120_44 ∧ (0 ≤ S120_44 ∧ S120_44 ≤ 8) ∧ rd M' 120 50 = S120_50 ∧ (0 ≤ S120_50 ∧ S120_50 ≤ 20) ∧ rd M' 136 1 = S136_1 ∧ (0 ≤ S136_1 ∧ S136_1 ≤ 200) ∧ nwv M' = S9006_0 ∧ (0 ≤ S9006_0 ∧ S9006_0 ≤ 20) ∧ tav M' = S9010_0 ∧ ((-1) ≤ S9010_0 ∧ S9010_0 ≤ 1800) ∧ r = none ∧ Hd (S120_3 = 0 ∨ S120_4 + 1 ≤ S120_5) ∧ (S120_4 ≤ S120_5) ∧ Hd (S120_3 ≠ 1 ∨ S120_4 + 2 ≤ S120_5 ∨ S120_7 < 256) ∧ (G120_4 ≤ S120_4 ∧ G120_5 ≤ S120_5 ∧ G9010_0 ≤ S9010_0) ∧ Hd (G120_8 = 0 ∨ S120_8 = G120_8) ∧ Hd (1 ≤ S120_8 ∨ G9010_0 < S9010_0) ∧ (S120_50 ≤ S120_44) ∧ (S136_1 + S9006_0 ≤ 2 * G129_1) ∧ (G120_36 + S120_44 ≤ S120_4)) := by
  subst k120_3
  subst k120_4
  subst k120_5
  subst k120_7
  subst k120_8
  subst k120_36
  subst k120_44
  subst k120_50
  subst k129_1
  subst k136_1
  subst k9006_0
  subst k9010_0
  refine Tr.imp (sp_X12_closesBlock_120 hI en_120_37 hq0 hq1 hq2 hq3 hq4 hq5 hq6 hq7 hq8) ?_
  rintro M' _ ⟨hS, rfl, z0, z1, z2, z3, z4, z5, z6, z7, z8⟩
  rewrite [show rd M' 129 1 = rd M0 129 1 from ((St.kp hS (by decide) (by decide) (by decide)).trans rfl)] at z7
  rewrite [show rd M' 120 36 = rd M0 120 36 from ((St.kp hS (by decide) (by decide) (by decide)).trans rfl)] at z8
  exact ⟨hS, _, _, _, _, _, _, _, _, _, _, rfl, ir_120_3 hS.1.2.1, rfl, ir_120_4 hS.1.2.1, rfl, ir_120_5 hS.1.2.1, rfl, ir_120_7 hS.1.2.1, rfl, ir_120_8 hS.1.2.1, rfl, ir_120_44 hS.1.2.1, rfl, ir_120_50 hS.1.2.1, rfl, ir_136_1 hS.1.2.1, rfl, (nwv_b hS.1.2.1), rfl, (tav_b hS.1.2.1), rfl, hd_i z0, z1, hd_i z2, z3, hd_i z4, hd_i z5, z6, z7, z8⟩

def ws_X12_text_120 : List (Int × Int) := [(120, 1), (120, 2), (120, 3), (120, 4), (120, 5), (120, 6), (120, 7), (120, 8), (120, 9), (120, 10), (120, 11), (120, 12), (120, 36), (120, 37), (120, 43), (120, 44), (120, 46), (120, 47), (120, 50), (120, 85), (120, 104), (120, 106), (120, 109), (122, 1), (123, 1), (124, 1), (125, 1), (126, 1), (127, 1), (128, 1), (129, 1), (136, 1)]
def as_X12_text_120 : List Int := [130, 131, 132, 133, 134, 135, 137, 138, 139, 140, 141, 142, 143, 144, 145, 146, 147, 148, 149, 150, 151, 152, 153]
def q_X12_text_120 (M0 M' : Mem) (r : Option PV) : Prop := St Tru ws_X12_text_120 as_X12_text_120 M0 M' ∧ ∃ v : Int, r = some (0, v) ∧ (-1) ≤ v ∧ v ≤ 60 ∧ (rd M' 120 1 = 0) ∧ ((v = -1 ∧ rd M' 120 12 = 0 ∧ Bk0 M') ∨ (0 ≤ v ∧ rd M' 120 12 = 1 ∧ Bk1 M'))
theorem kp_X12_statement_120_120_1 {q : Mem → Prop} {M0 M : Mem} (h : St q ws_X12_statement_120 as_X12_statement_120 M0 M) : rd M 120 1 = rd M0 120 1 := St.kp h (by decide) (by decide) (by decide)
theorem kp_X12_statement_120_120_12 {q : Mem → Prop} {M0 M : Mem} (h : St q ws_X12_statement_120 as_X12_statement_120 M0 M) : rd M 120 12 = rd M0 120 12 := St.kp h (by decide) (by decide) (by decide)
theorem kp_X12_statement_120_120_2 {q : Mem → Prop} {M0 M : Mem} (h : St q ws_X12_statement_120 as_X12_statement_120 M0 M) : rd M 120 2 = rd M0 120 2 := St.kp h (by decide) (by decide) (by decide)
theorem kp_X12_isSign_120_120_1 {q : Mem → Prop} {M0 M : Mem} (h : St q ws_X12_isSign_120 as_X12_isSign_120 M0 M) : rd M 120 1 = rd M0 120 1 := St.kp h (by decide) (by decide) (by decide)
theorem kp_X12_isSign_120_120_12 {q : Mem → Prop} {M0 M : Mem} (h : St q ws_X12_isSign_120 as_X12_isSign_120 M0 M) : rd M 120 12 = rd M0 120 12 := St.kp h (by decide) (by decide) (by decide)
theorem kp_X12_isSign_120_120_2 {q : Mem → Prop} {M0 M : Mem} (h : St q ws_X12_isSign_120 as_X12_isSign_120 M0 M) : rd M 120 2 = rd M0 120 2 := St.kp h (by decide) (by decide) (by decide)
theorem kp_X12_isSign_120_120_37 {q : Mem → Prop} {M0 M : Mem} (h : St q ws_X12_isSign_120 as_X12_isSign_120 M0 M) : rd M 120 37 = rd M0 120 37 := St.kp h (by decide) (by decide) (by decide)
theorem kp_X12_isSign_120_129_1 {q : Mem → Prop} {M0 M : Mem} (h : St q ws_X12_isSign_120 as_X12_isSign_120 M0 M) : rd M 129 1 = rd M0 129 1 := St.kp h (by decide) (by decide) (by decide)
theorem kp_X12_closesBlock_120_120_1 {q : Mem → Prop} {M0 M : Mem} (h : St q ws_X12_closesBlock_120 as_X12_closesBlock_120 M0 M) : rd M 120 1 = rd M0 120 1 := St.kp h (by decide) (by decide) (by decide)
theorem kp_X12_closesBlock_120_120_12 {q : Mem → Prop} {M0 M : Mem} (h : St q ws_X12_closesBlock_120 as_X12_closesBlock_120 M0 M) : rd M 120 12 = rd M0 120 12 := St.kp h (by decide) (by decide) (by decide)
theorem kp_X12_closesBlock_120_120_2 {q : Mem → Prop} {M0 M : Mem} (h : St q ws_X12_closesBlock_120 as_X12_closesBlock_120 M0 M) : rd M 120 2 = rd M0 120 2 := St.kp h (by decide) (by decide) (by decide)
theorem kp_X12_closesBlock_120_120_36 {q : Mem → Prop} {M0 M : Mem} (h : St q ws_X12_closesBlock_120 as_X12_closesBlock_120 M0 M) : rd M 120 36 = rd M0 120 36 := St.kp h (by decide) (by decide) (by decide)
theorem kp_X12_closesBlock_120_129_1 {q : Mem → Prop} {M0 M : Mem} (h : St q ws_X12_closesBlock_120 as_X12_closesBlock_120 M0 M) : rd M 129 1 = rd M0 129 1 := St.kp h (by decide) (by decide) (by decide)
theorem kp_X12_declares_120_120_1 {q : Mem → Prop} {M0 M : Mem} (h : St q ws_X12_declares_120 as_X12_declares_120 M0 M) : rd M 120 1 = rd M0 120 1 := St.kp h (by decide) (by decide) (by decide)
theorem kp_X12_declares_120_120_12 {q : Mem → Prop} {M0 M : Mem} (h : St q ws_X12_declares_120 as_X12_declares_120 M0 M) : rd M 120 12 = rd M0 120 12 := St.kp h (by decide) (by decide) (by decide)
theorem kp_X12_declares_120_120_2 {q : Mem → Prop} {M0 M : Mem} (h : St q ws_X12_declares_120 as_X12_declares_120 M0 M) : rd M 120 2 = rd M0 120 2 := St.kp h (by decide) (by decide) (by decide)
theorem kp_X12_declares_120_120_36 {q : Mem → Prop} {M0 M : Mem} (h : St q ws_X12_declares_120 as_X12_declares_120 M0 M) : rd M 120 36 = rd M0 120 36 := St.kp h (by decide) (by decide) (by decide)
theorem kp_X12_declares_120_120_44 {q : Mem → Prop} {M0 M : Mem} (h : St q ws_X12_declares_120 as_X12_declares_120 M0 M) : rd M 120 44 = rd M0 120 44 := St.kp h (by decide) (by decide) (by decide)
theorem kp_X12_declares_120_120_50 {q : Mem → Prop} {M0 M : Mem} (h : St q ws_X12_declares_120 as_X12_declares_120 M0 M) : rd M 120 50 = rd M0 120 50 := St.kp h (by decide) (by decide) (by decide)
theorem kp_X12_declares_120_129_1 {q : Mem → Prop} {M0 M : Mem} (h : St q ws_X12_declares_120 as_X12_declares_120 M0 M) : rd M 129 1 = rd M0 129 1 := St.kp h (by decide) (by decide) (by decide)
theorem kp_X12_declares_120_136_1 {q : Mem → Prop} {M0 M : Mem} (h : St q ws_X12_declares_120 as_X12_declares_120 M0 M) : rd M 136 1 = rd M0 136 1 := St.kp h (by decide) (by decide) (by decide)
theorem ka_X12_declares_120_151 {q : Mem → Prop} {M0 M : Mem} (h : St q ws_X12_declares_120 as_X12_declares_120 M0 M) (j : Int) : rd M 151 j = rd M0 151 j := St.ka h (by decide) (by decide) (by decide)
theorem kp_X12_next_120_120_1 {q : Mem → Prop} {M0 M : Mem} (h : St q ws_X12_next_120 as_X12_next_120 M0 M) : rd M 120 1 = rd M0 120 1 := St.kp h (by decide) (by decide) (by decide)
theorem kp_X12_next_120_120_12 {q : Mem → Prop} {M0 M : Mem} (h : St q ws_X12_next_120 as_X12_next_120 M0 M) : rd M 120 12 = rd M0 120 12 := St.kp h (by decide) (by decide) (by decide)
theorem kp_X12_next_120_120_2 {q : Mem → Prop} {M0 M : Mem} (h : St q ws_X12_next_120 as_X12_next_120 M0 M) : rd M 120 2 = rd M0 120 2 := St.kp h (by decide) (by decide) (by decide)
theorem kp_X12_next_120_120_37 {q : Mem → Prop} {M0 M : Mem} (h : St q ws_X12_next_120 as_X12_next_120 M0 M) : rd M 120 37 = rd M0 120 37 := St.kp h (by decide) (by decide) (by decide)
set_option maxRecDepth 100000 in
set_option maxHeartbeats 4000000 in
theorem sp_X12_text_120 {l : Launch} {K : EC} {M0 : Mem} (hI : In Tru M0) (en_120_12 : rd M0 120 12 = 0)   (hF_Bk0 : Bk0 M0) : Tr l K 6 mX12_text 0 [(0, (2, 120))] [] M0 (q_X12_text_120 M0) := by
  have hS : St Tru ws_X12_text_120 as_X12_text_120 M0 M0 := St.rf hI
  obtain ⟨g120_8, eg120_8⟩ : ∃ v, rd M0 120 8 = v := ⟨_, rfl⟩
  have bg120_8 : 0 ≤ g120_8 ∧ g120_8 ≤ 5 := by rw [← eg120_8]; exact ir_120_8 hI.2.1
  obtain ⟨g120_3, eg120_3⟩ : ∃ v, rd M0 120 3 = v := ⟨_, rfl⟩
  have bg120_3 : 0 ≤ g120_3 ∧ g120_3 ≤ 3 := by rw [← eg120_3]; exact ir_120_3 hI.2.1
  obtain ⟨g120_4, eg120_4⟩ : ∃ v, rd M0 120 4 = v := ⟨_, rfl⟩
  have bg120_4 : 0 ≤ g120_4 ∧ g120_4 ≤ 900 := by rw [← eg120_4]; exact ir_120_4 hI.2.1
  obtain ⟨g120_5, eg120_5⟩ : ∃ v, rd M0 120 5 = v := ⟨_, rfl⟩
  have bg120_5 : 0 ≤ g120_5 ∧ g120_5 ≤ 900 := by rw [← eg120_5]; exact ir_120_5 hI.2.1
  obtain ⟨g120_7, eg120_7⟩ : ∃ v, rd M0 120 7 = v := ⟨_, rfl⟩
  have bg120_7 : (-9223372036854775808) ≤ g120_7 ∧ g120_7 ≤ 9223372036854775807 := by rw [← eg120_7]; exact ir_120_7 hI.2.1
  obtain ⟨g9010_0, eg9010_0⟩ : ∃ v, tav M0 = v := ⟨_, rfl⟩
  have bg9010_0 : (-1) ≤ g9010_0 ∧ g9010_0 ≤ 1800 := by rw [← eg9010_0]; exact (tav_b hI.2.1)
  obtain ⟨g120_6, eg120_6⟩ : ∃ v, rd M0 120 6 = v := ⟨_, rfl⟩
  have bg120_6 : (-2147483648) ≤ g120_6 ∧ g120_6 ≤ 2147483647 := by rw [← eg120_6]; exact ir_120_6 hI.2.1
  obtain ⟨g120_36, eg120_36⟩ : ∃ v, rd M0 120 36 = v := ⟨_, rfl⟩
  have bg120_36 : 0 ≤ g120_36 ∧ g120_36 ≤ 900 := by rw [← eg120_36]; exact ir_120_36 hI.2.1
  obtain ⟨g120_44, eg120_44⟩ : ∃ v, rd M0 120 44 = v := ⟨_, rfl⟩
  have bg120_44 : 0 ≤ g120_44 ∧ g120_44 ≤ 8 := by rw [← eg120_44]; exact ir_120_44 hI.2.1
  obtain ⟨g120_50, eg120_50⟩ : ∃ v, rd M0 120 50 = v := ⟨_, rfl⟩
  have bg120_50 : 0 ≤ g120_50 ∧ g120_50 ≤ 20 := by rw [← eg120_50]; exact ir_120_50 hI.2.1
  obtain ⟨g136_1, eg136_1⟩ : ∃ v, rd M0 136 1 = v := ⟨_, rfl⟩
  have bg136_1 : 0 ≤ g136_1 ∧ g136_1 ≤ 200 := by rw [← eg136_1]; exact ir_136_1 hI.2.1
  obtain ⟨g9006_0, eg9006_0⟩ : ∃ v, nwv M0 = v := ⟨_, rfl⟩
  have bg9006_0 : 0 ≤ g9006_0 ∧ g9006_0 ≤ 20 := by rw [← eg9006_0]; exact (nwv_b hI.2.1)
  obtain ⟨g129_1, eg129_1⟩ : ∃ v, rd M0 129 1 = v := ⟨_, rfl⟩
  have bg129_1 : 0 ≤ g129_1 ∧ g129_1 ≤ 60 := by rw [← eg129_1]; exact ir_129_1 hI.2.1
  refine Tr.aload_n (pc := 0) (i := 0) d_X12_text_0 rfl rfl ?_
  refine Tr.aload_n (pc := 1) (i := 0) d_X12_text_1 rfl rfl ?_
  refine Tr.getf (pc := 2) d_X12_text_2 f_12_13 (by decide) (by decide) (ty_120 hS.1.1) ?_
  refine Tr.gen (P := fun v => 0 ≤ v ∧ v ≤ 900) (ir_120_1 hS.1.2.1) (fun r2 er2 br2 => ?_)
  refine Tr.putfS (pc := 5) (P := St Tru ws_X12_text_120 as_X12_text_120 M0) d_X12_text_5 f_12_17 (by decide) (by decide) (ty_120 hS.1.1) (st_120_2 hS (by decide) (by and_intros <;> omega) trivial) (fun M5 hS w5 => ?_)
  refine Tr.aload_n (pc := 8) (i := 0) d_X12_text_8 rfl rfl ?_
  refine Tr.iconst (pc := 9) d_X12_text_9 (by decide) ?_
  refine Tr.putfS (pc := 10) (P := St Tru ws_X12_text_120 as_X12_text_120 M0) d_X12_text_10 f_12_13 (by decide) (by decide) (ty_120 hS.1.1) (st_120_1 hS (by decide) (by omega) trivial) (fun M10 hS w10 => ?_)
  refine Tr.aload_n (pc := 13) (i := 0) d_X12_text_13 rfl rfl ?_
  refine Tr.iconst (pc := 14) d_X12_text_14 (by decide) ?_
  refine Tr.putfS (pc := 15) (P := St Tru ws_X12_text_120 as_X12_text_120 M0) d_X12_text_15 f_12_26 (by decide) (by decide) (ty_120 hS.1.1) (st_120_5 hS (by decide) (by omega) trivial) (fun M15 hS w15 => ?_)
  refine Tr.aload_n (pc := 18) (i := 0) d_X12_text_18 rfl rfl ?_
  refine Tr.iconst (pc := 19) d_X12_text_19 (by decide) ?_
  refine Tr.putfS (pc := 20) (P := St Tru ws_X12_text_120 as_X12_text_120 M0) d_X12_text_20 f_12_36 (by decide) (by decide) (ty_120 hS.1.1) (st_120_8 hS (by decide) (by omega) trivial) (fun M20 hS w20 => ?_)
  refine Tr.aload_n (pc := 23) (i := 0) d_X12_text_23 rfl rfl ?_
  refine Tr.iconst (pc := 24) d_X12_text_24 (by decide) ?_
  refine Tr.putfS (pc := 25) (P := St Tru ws_X12_text_120 as_X12_text_120 M0) d_X12_text_25 f_12_39 (by decide) (by decide) (ty_120 hS.1.1) (st_120_9 hS (by decide) (by omega) trivial) (fun M25 hS w25 => ?_)
  refine Tr.aload_n (pc := 28) (i := 0) d_X12_text_28 rfl rfl ?_
  refine Tr.iconst (pc := 29) d_X12_text_29 (by decide) ?_
  refine Tr.aload_n (pc := 30) (i := 0) d_X12_text_30 rfl rfl ?_
  refine Tr.getf (pc := 31) d_X12_text_31 f_12_48 (by decide) (by decide) (ty_120 hS.1.1) ?_
  refine Tr.tp 0 ((Wr.b w25 rfl).trans ((Wr.b w20 rfl).trans ((Wr.b w15 rfl).trans ((Wr.b w10 rfl).trans ((Wr.b w5 rfl).trans en_120_12))))) ?_
  refine Tr.isub (pc := 34) d_X12_text_34 ?_
  refine Tr.tp 1 (by decide) ?_
  refine Tr.putfS (pc := 35) (P := St Tru ws_X12_text_120 as_X12_text_120 M0) d_X12_text_35 f_12_124 (by decide) (by decide) (ty_120 hS.1.1) (st_120_37 hS (by decide) (by omega) trivial) (fun M35 hS w35 => ?_)
  refine Tr.aload_n (pc := 38) (i := 0) d_X12_text_38 rfl rfl ?_
  refine Tr.getf (pc := 39) d_X12_text_39 f_12_51 (by decide) (by decide) (ty_120 hS.1.1) ?_
  refine Tr.tp 122 (fx_120_13 hS.1.1) ?_
  refine Tr.aload_n (pc := 42) (i := 0) d_X12_text_42 rfl rfl ?_
  refine Tr.getf (pc := 43) d_X12_text_43 f_12_124 (by decide) (by decide) (ty_120 hS.1.1) ?_
  refine Tr.tp 1 w35.1 ?_
  refine Tr.iconst (pc := 46) d_X12_text_46 (by decide) ?_
  refine Tr.iastS (pc := 47) (P := St Tru ws_X12_text_120 as_X12_text_120 M0) d_X12_text_47 (ty_122 hS.1.1) (by omega) (by omega) (st_122_1 hS (by decide) (by omega) trivial) (fun M47 hS w47 => ?_)
  refine Tr.aload_n (pc := 48) (i := 0) d_X12_text_48 rfl rfl ?_
  refine Tr.getf (pc := 49) d_X12_text_49 f_12_54 (by decide) (by decide) (ty_120 hS.1.1) ?_
  refine Tr.tp 123 (fx_120_14 hS.1.1) ?_
  refine Tr.aload_n (pc := 52) (i := 0) d_X12_text_52 rfl rfl ?_
  refine Tr.getf (pc := 53) d_X12_text_53 f_12_124 (by decide) (by decide) (ty_120 hS.1.1) ?_
  refine Tr.tp 1 ((Wr.b w47 rfl).trans w35.1) ?_
  refine Tr.iconst (pc := 56) d_X12_text_56 (by decide) ?_
  refine Tr.iastS (pc := 57) (P := St Tru ws_X12_text_120 as_X12_text_120 M0) d_X12_text_57 (ty_123 hS.1.1) (by omega) (by omega) (st_123_1 hS (by decide) (by omega) trivial) (fun M57 hS w57 => ?_)
  refine Tr.aload_n (pc := 58) (i := 0) d_X12_text_58 rfl rfl ?_
  refine Tr.getf (pc := 59) d_X12_text_59 f_12_57 (by decide) (by decide) (ty_120 hS.1.1) ?_
  refine Tr.tp 124 (fx_120_15 hS.1.1) ?_
  refine Tr.aload_n (pc := 62) (i := 0) d_X12_text_62 rfl rfl ?_
  refine Tr.getf (pc := 63) d_X12_text_63 f_12_124 (by decide) (by decide) (ty_120 hS.1.1) ?_
  refine Tr.tp 1 ((Wr.b w57 rfl).trans ((Wr.b w47 rfl).trans w35.1)) ?_
  refine Tr.iconst (pc := 66) d_X12_text_66 (by decide) ?_
  refine Tr.iastS (pc := 67) (P := St Tru ws_X12_text_120 as_X12_text_120 M0) d_X12_text_67 (ty_124 hS.1.1) (by omega) (by omega) (st_124_1 hS (by decide) (by omega) trivial) (fun M67 hS w67 => ?_)
  refine Tr.aload_n (pc := 68) (i := 0) d_X12_text_68 rfl rfl ?_
  refine Tr.getf (pc := 69) d_X12_text_69 f_12_60 (by decide) (by decide) (ty_120 hS.1.1) ?_
  refine Tr.tp 125 (fx_120_16 hS.1.1) ?_
  refine Tr.aload_n (pc := 72) (i := 0) d_X12_text_72 rfl rfl ?_
  refine Tr.getf (pc := 73) d_X12_text_73 f_12_124 (by decide) (by decide) (ty_120 hS.1.1) ?_
  refine Tr.tp 1 ((Wr.b w67 rfl).trans ((Wr.b w57 rfl).trans ((Wr.b w47 rfl).trans w35.1))) ?_
  refine Tr.iconst (pc := 76) d_X12_text_76 (by decide) ?_
  refine Tr.iastS (pc := 77) (P := St Tru ws_X12_text_120 as_X12_text_120 M0) d_X12_text_77 (ty_125 hS.1.1) (by omega) (by omega) (st_125_1 hS (by decide) (by omega) trivial) (fun M77 hS w77 => ?_)
  refine Tr.aload_n (pc := 78) (i := 0) d_X12_text_78 rfl rfl ?_
  refine Tr.getf (pc := 79) d_X12_text_79 f_12_63 (by decide) (by decide) (ty_120 hS.1.1) ?_
  refine Tr.tp 126 (fx_120_17 hS.1.1) ?_
  refine Tr.aload_n (pc := 82) (i := 0) d_X12_text_82 rfl rfl ?_
  refine Tr.getf (pc := 83) d_X12_text_83 f_12_124 (by decide) (by decide) (ty_120 hS.1.1) ?_
  refine Tr.tp 1 ((Wr.b w77 rfl).trans ((Wr.b w67 rfl).trans ((Wr.b w57 rfl).trans ((Wr.b w47 rfl).trans w35.1)))) ?_
  refine Tr.iconst (pc := 86) d_X12_text_86 (by decide) ?_
  refine Tr.iastS (pc := 87) (P := St Tru ws_X12_text_120 as_X12_text_120 M0) d_X12_text_87 (ty_126 hS.1.1) (by omega) (by omega) (st_126_1 hS (by decide) (by omega) trivial) (fun M87 hS w87 => ?_)
  refine Tr.aload_n (pc := 88) (i := 0) d_X12_text_88 rfl rfl ?_
  refine Tr.getf (pc := 89) d_X12_text_89 f_12_66 (by decide) (by decide) (ty_120 hS.1.1) ?_
  refine Tr.tp 127 (fx_120_18 hS.1.1) ?_
  refine Tr.aload_n (pc := 92) (i := 0) d_X12_text_92 rfl rfl ?_
  refine Tr.getf (pc := 93) d_X12_text_93 f_12_124 (by decide) (by decide) (ty_120 hS.1.1) ?_
  refine Tr.tp 1 ((Wr.b w87 rfl).trans ((Wr.b w77 rfl).trans ((Wr.b w67 rfl).trans ((Wr.b w57 rfl).trans ((Wr.b w47 rfl).trans w35.1))))) ?_
  refine Tr.iconst (pc := 96) d_X12_text_96 (by decide) ?_
  refine Tr.iastS (pc := 97) (P := St Tru ws_X12_text_120 as_X12_text_120 M0) d_X12_text_97 (ty_127 hS.1.1) (by omega) (by omega) (st_127_1 hS (by decide) (by omega) trivial) (fun M97 hS w97 => ?_)
  refine Tr.aload_n (pc := 98) (i := 0) d_X12_text_98 rfl rfl ?_
  refine Tr.getf (pc := 99) d_X12_text_99 f_12_69 (by decide) (by decide) (ty_120 hS.1.1) ?_
  refine Tr.tp 128 (fx_120_19 hS.1.1) ?_
  refine Tr.aload_n (pc := 102) (i := 0) d_X12_text_102 rfl rfl ?_
  refine Tr.getf (pc := 103) d_X12_text_103 f_12_124 (by decide) (by decide) (ty_120 hS.1.1) ?_
  refine Tr.tp 1 ((Wr.b w97 rfl).trans ((Wr.b w87 rfl).trans ((Wr.b w77 rfl).trans ((Wr.b w67 rfl).trans ((Wr.b w57 rfl).trans ((Wr.b w47 rfl).trans w35.1)))))) ?_
  refine Tr.iconst (pc := 106) d_X12_text_106 (by decide) ?_
  refine Tr.iastS (pc := 107) (P := St Tru ws_X12_text_120 as_X12_text_120 M0) d_X12_text_107 (ty_128 hS.1.1) (by omega) (by omega) (st_128_1 hS (by decide) (by omega) trivial) (fun M107 hS w107 => ?_)
  refine Tr.aload_n (pc := 108) (i := 0) d_X12_text_108 rfl rfl ?_
  refine Tr.getf (pc := 109) d_X12_text_109 f_12_72 (by decide) (by decide) (ty_120 hS.1.1) ?_
  refine Tr.tp 129 (fx_120_20 hS.1.1) ?_
  refine Tr.aload_n (pc := 112) (i := 0) d_X12_text_112 rfl rfl ?_
  refine Tr.getf (pc := 113) d_X12_text_113 f_12_124 (by decide) (by decide) (ty_120 hS.1.1) ?_
  refine Tr.tp 1 ((Wr.b w107 rfl).trans ((Wr.b w97 rfl).trans ((Wr.b w87 rfl).trans ((Wr.b w77 rfl).trans ((Wr.b w67 rfl).trans ((Wr.b w57 rfl).trans ((Wr.b w47 rfl).trans w35.1))))))) ?_
  refine Tr.iconst (pc := 116) d_X12_text_116 (by decide) ?_
  refine Tr.iastS (pc := 117) (P := St Tru ws_X12_text_120 as_X12_text_120 M0) d_X12_text_117 (ty_129 hS.1.1) (by omega) (by omega) (st_129_1 hS (by decide) (by omega) trivial) (fun M117 hS w117 => ?_)
  refine Tr.aload_n (pc := 118) (i := 0) d_X12_text_118 rfl rfl ?_
  refine Tr.getf (pc := 119) d_X12_text_119 f_12_94 (by decide) (by decide) (ty_120 hS.1.1) ?_
  refine Tr.tp 136 (fx_120_27 hS.1.1) ?_
  refine Tr.aload_n (pc := 122) (i := 0) d_X12_text_122 rfl rfl ?_
  refine Tr.getf (pc := 123) d_X12_text_123 f_12_124 (by decide) (by decide) (ty_120 hS.1.1) ?_
  refine Tr.tp 1 ((Wr.b w117 rfl).trans ((Wr.b w107 rfl).trans ((Wr.b w97 rfl).trans ((Wr.b w87 rfl).trans ((Wr.b w77 rfl).trans ((Wr.b w67 rfl).trans ((Wr.b w57 rfl).trans ((Wr.b w47 rfl).trans w35.1)))))))) ?_
  refine Tr.iconst (pc := 126) d_X12_text_126 (by decide) ?_
  refine Tr.iastS (pc := 127) (P := St Tru ws_X12_text_120 as_X12_text_120 M0) d_X12_text_127 (ty_136 hS.1.1) (by omega) (by omega) (st_136_1 hS (by decide) (by omega) trivial) (fun M127 hS w127 => ?_)
  refine Tr.aload_n (pc := 128) (i := 0) d_X12_text_128 rfl rfl ?_
  refine Tr.iconst (pc := 129) d_X12_text_129 (by decide) ?_
  refine Tr.putfS (pc := 130) (P := St Tru ws_X12_text_120 as_X12_text_120 M0) d_X12_text_130 f_12_121 (by decide) (by decide) (ty_120 hS.1.1) (st_120_36 hS (by decide) (by omega) trivial) (fun M130 hS w130 => ?_)
  refine Tr.aload_n (pc := 133) (i := 0) d_X12_text_133 rfl rfl ?_
  refine Tr.iconst (pc := 134) d_X12_text_134 (by decide) ?_
  refine Tr.putfS (pc := 135) (P := St Tru ws_X12_text_120 as_X12_text_120 M0) d_X12_text_135 f_12_146 (by decide) (by decide) (ty_120 hS.1.1) (st_120_44 hS (by decide) (by omega) trivial) (fun M135 hS w135 => ?_)
  refine Tr.aload_n (pc := 138) (i := 0) d_X12_text_138 rfl rfl ?_
  refine Tr.iconst (pc := 139) d_X12_text_139 (by decide) ?_
  refine Tr.putfS (pc := 140) (P := St Tru ws_X12_text_120 as_X12_text_120 M0) d_X12_text_140 f_12_165 (by decide) (by decide) (ty_120 hS.1.1) (st_120_50 hS (by decide) (by omega) trivial) (fun M140 hS w140 => ?_)
  obtain ⟨v140_9006, ev140_9006⟩ : ∃ v, nwv M140 = v := ⟨_, rfl⟩
  have bv140_9006 : 0 ≤ v140_9006 ∧ v140_9006 ≤ 20 := by rw [← ev140_9006]; exact (nwv_b hS.1.2.1)
  have fv140_9006 : v140_9006 = 0 := by have h8 := ct_zero (x := 151) (j := 50) (e := 1) (a := 0) (b := 1) (M := M140) w140.1; have h7 : ctV 151 50 1 0 1 M140 = v140_9006 := ev140_9006; omega
  have hS := St.rn (r := Pm1) hS (Pm1_new (Bk0.of hF_Bk0 (fun j => ((Wr.b w140 rfl).trans ((Wr.b w135 rfl).trans ((Wr.b w130 rfl).trans ((Wr.b w127 rfl).trans ((Wr.b w117 rfl).trans ((Wr.b w107 rfl).trans ((Wr.b w97 rfl).trans ((Wr.b w87 rfl).trans ((Wr.b w77 rfl).trans ((Wr.b w67 rfl).trans ((Wr.b w57 rfl).trans ((Wr.b w47 rfl).trans ((Wr.b w35 rfl).trans ((Wr.b w25 rfl).trans ((Wr.b w20 rfl).trans ((Wr.b w15 rfl).trans ((Wr.b w10 rfl).trans ((Wr.b w5 rfl).trans rfl))))))))))))))))))) (fun j => ((Wr.b w140 rfl).trans ((Wr.b w135 rfl).trans ((Wr.b w130 rfl).trans ((Wr.b w127 rfl).trans ((Wr.b w117 rfl).trans ((Wr.b w107 rfl).trans ((Wr.b w97 rfl).trans ((Wr.b w87 rfl).trans ((Wr.b w77 rfl).trans ((Wr.b w67 rfl).trans ((Wr.b w57 rfl).trans ((Wr.b w47 rfl).trans ((Wr.b w35 rfl).trans ((Wr.b w25 rfl).trans ((Wr.b w20 rfl).trans ((Wr.b w15 rfl).trans ((Wr.b w10 rfl).trans ((Wr.b w5 rfl).trans rfl))))))))))))))))))) (fun j => ((Wr.b w140 rfl).trans ((Wr.b w135 rfl).trans ((Wr.b w130 rfl).trans ((Wr.b w127 rfl).trans ((Wr.b w117 rfl).trans ((Wr.b w107 rfl).trans ((Wr.b w97 rfl).trans ((Wr.b w87 rfl).trans ((Wr.b w77 rfl).trans ((Wr.b w67 rfl).trans ((Wr.b w57 rfl).trans ((Wr.b w47 rfl).trans ((Wr.b w35 rfl).trans ((Wr.b w25 rfl).trans ((Wr.b w20 rfl).trans ((Wr.b w15 rfl).trans ((Wr.b w10 rfl).trans ((Wr.b w5 rfl).trans rfl))))))))))))))))))) (fun j => ((Wr.b w140 rfl).trans ((Wr.b w135 rfl).trans ((Wr.b w130 rfl).trans ((Wr.b w127 rfl).trans ((Wr.b w117 rfl).trans ((Wr.b w107 rfl).trans ((Wr.b w97 rfl).trans ((Wr.b w87 rfl).trans ((Wr.b w77 rfl).trans ((Wr.b w67 rfl).trans ((Wr.b w57 rfl).trans ((Wr.b w47 rfl).trans ((Wr.b w35 rfl).trans ((Wr.b w25 rfl).trans ((Wr.b w20 rfl).trans ((Wr.b w15 rfl).trans ((Wr.b w10 rfl).trans ((Wr.b w5 rfl).trans rfl))))))))))))))))))) (fun j => ((Wr.b w140 rfl).trans ((Wr.b w135 rfl).trans ((Wr.b w130 rfl).trans ((Wr.b w127 rfl).trans ((Wr.b w117 rfl).trans ((Wr.b w107 rfl).trans ((Wr.b w97 rfl).trans ((Wr.b w87 rfl).trans ((Wr.b w77 rfl).trans ((Wr.b w67 rfl).trans ((Wr.b w57 rfl).trans ((Wr.b w47 rfl).trans ((Wr.b w35 rfl).trans ((Wr.b w25 rfl).trans ((Wr.b w20 rfl).trans ((Wr.b w15 rfl).trans ((Wr.b w10 rfl).trans ((Wr.b w5 rfl).trans rfl))))))))))))))))))) (fun j => ((Wr.b w140 rfl).trans ((Wr.b w135 rfl).trans ((Wr.b w130 rfl).trans ((Wr.b w127 rfl).trans ((Wr.b w117 rfl).trans ((Wr.b w107 rfl).trans ((Wr.b w97 rfl).trans ((Wr.b w87 rfl).trans ((Wr.b w77 rfl).trans ((Wr.b w67 rfl).trans ((Wr.b w57 rfl).trans ((Wr.b w47 rfl).trans ((Wr.b w35 rfl).trans ((Wr.b w25 rfl).trans ((Wr.b w20 rfl).trans ((Wr.b w15 rfl).trans ((Wr.b w10 rfl).trans ((Wr.b w5 rfl).trans rfl))))))))))))))))))) (fun j => ((Wr.b w140 rfl).trans ((Wr.b w135 rfl).trans ((Wr.b w130 rfl).trans ((Wr.b w127 rfl).trans ((Wr.b w117 rfl).trans ((Wr.b w107 rfl).trans ((Wr.b w97 rfl).trans ((Wr.b w87 rfl).trans ((Wr.b w77 rfl).trans ((Wr.b w67 rfl).trans ((Wr.b w57 rfl).trans ((Wr.b w47 rfl).trans ((Wr.b w35 rfl).trans ((Wr.b w25 rfl).trans ((Wr.b w20 rfl).trans ((Wr.b w15 rfl).trans ((Wr.b w10 rfl).trans ((Wr.b w5 rfl).trans rfl))))))))))))))))))) (fun j => ((Wr.b w140 rfl).trans ((Wr.b w135 rfl).trans ((Wr.b w130 rfl).trans ((Wr.b w127 rfl).trans ((Wr.b w117 rfl).trans ((Wr.b w107 rfl).trans ((Wr.b w97 rfl).trans ((Wr.b w87 rfl).trans ((Wr.b w77 rfl).trans ((Wr.b w67 rfl).trans ((Wr.b w57 rfl).trans ((Wr.b w47 rfl).trans ((Wr.b w35 rfl).trans ((Wr.b w25 rfl).trans ((Wr.b w20 rfl).trans ((Wr.b w15 rfl).trans ((Wr.b w10 rfl).trans ((Wr.b w5 rfl).trans rfl))))))))))))))))))) ((Wr.b w140 rfl).trans ((Wr.b w135 rfl).trans ((Wr.b w130 rfl).trans ((Wr.b w127 rfl).trans ((Wr.b w117 rfl).trans ((Wr.b w107 rfl).trans ((Wr.b w97 rfl).trans ((Wr.b w87 rfl).trans ((Wr.b w77 rfl).trans ((Wr.b w67 rfl).trans ((Wr.b w57 rfl).trans ((Wr.b w47 rfl).trans ((Wr.b w35 rfl).trans ((Wr.b w25 rfl).trans ((Wr.b w20 rfl).trans ((Wr.b w15 rfl).trans ((Wr.b w10 rfl).trans ((Wr.b w5 rfl).trans rfl)))))))))))))))))) ((Wr.b w140 rfl).trans ((Wr.b w135 rfl).trans ((Wr.b w130 rfl).trans ((Wr.b w127 rfl).trans ((Wr.b w117 rfl).trans ((Wr.b w107 rfl).trans ((Wr.b w97 rfl).trans ((Wr.b w87 rfl).trans ((Wr.b w77 rfl).trans ((Wr.b w67 rfl).trans ((Wr.b w57 rfl).trans ((Wr.b w47 rfl).trans ((Wr.b w35 rfl).trans ((Wr.b w25 rfl).trans ((Wr.b w20 rfl).trans ((Wr.b w15 rfl).trans ((Wr.b w10 rfl).trans ((Wr.b w5 rfl).trans rfl)))))))))))))))))) ((Wr.b w140 rfl).trans ((Wr.b w135 rfl).trans ((Wr.b w130 rfl).trans ((Wr.b w127 rfl).trans ((Wr.b w117 rfl).trans ((Wr.b w107 rfl).trans ((Wr.b w97 rfl).trans ((Wr.b w87 rfl).trans ((Wr.b w77 rfl).trans ((Wr.b w67 rfl).trans ((Wr.b w57 rfl).trans ((Wr.b w47 rfl).trans ((Wr.b w35 rfl).trans ((Wr.b w25 rfl).trans ((Wr.b w20 rfl).trans ((Wr.b w15 rfl).trans ((Wr.b w10 rfl).trans ((Wr.b w5 rfl).trans rfl)))))))))))))))))) ((Wr.b w140 rfl).trans ((Wr.b w135 rfl).trans ((Wr.b w130 rfl).trans ((Wr.b w127 rfl).trans ((Wr.b w117 rfl).trans ((Wr.b w107 rfl).trans ((Wr.b w97 rfl).trans ((Wr.b w87 rfl).trans ((Wr.b w77 rfl).trans ((Wr.b w67 rfl).trans ((Wr.b w57 rfl).trans ((Wr.b w47 rfl).trans ((Wr.b w35 rfl).trans ((Wr.b w25 rfl).trans ((Wr.b w20 rfl).trans ((Wr.b w15 rfl).trans ((Wr.b w10 rfl).trans ((Wr.b w5 rfl).trans rfl))))))))))))))))))) (((Wr.b w140 rfl).trans ((Wr.b w135 rfl).trans ((Wr.b w130 rfl).trans ((Wr.b w127 rfl).trans ((Wr.b w117 rfl).trans ((Wr.b w107 rfl).trans ((Wr.b w97 rfl).trans w87.1)))))))) (((Wr.b w140 rfl).trans ((Wr.b w135 rfl).trans ((Wr.b w130 rfl).trans w127.1)))) (((Wr.b w140 rfl).trans ((Wr.b w135 rfl).trans ((Wr.b w130 rfl).trans ((Wr.b w127 rfl).trans ((Wr.b w117 rfl).trans ((Wr.b w107 rfl).trans ((Wr.b w97 rfl).trans ((Wr.b w87 rfl).trans ((Wr.b w77 rfl).trans ((Wr.b w67 rfl).trans w57.1))))))))))) (((Wr.b w140 rfl).trans ((Wr.b w135 rfl).trans ((Wr.b w130 rfl).trans ((Wr.b w127 rfl).trans ((Wr.b w117 rfl).trans ((Wr.b w107 rfl).trans ((Wr.b w97 rfl).trans ((Wr.b w87 rfl).trans ((Wr.b w77 rfl).trans w67.1)))))))))) (w140.1))
  refine Tr.aload_n (pc := 143) (i := 0) d_X12_text_143 rfl rfl ?_
  refine Tr.callV (pc := 144) (as := []) d_X12_text_144 s_12_396 ok_X12_next rfl rfl (Nat.le_of_ble_eq_true rfl) (Nat.le_of_ble_eq_true rfl) (by decide) (ty_120 hS.1.1) ?_
  obtain ⟨w144_9010_0, ew144_9010_0⟩ : ∃ v, tav M140 = v := ⟨_, rfl⟩
  have bw144_9010_0 : (-1) ≤ w144_9010_0 ∧ w144_9010_0 ≤ 1800 := by rw [← ew144_9010_0]; exact (tav_b hS.1.2.1)
  refine Tr.imp (Tr.deep (by decide) (ns_X12_next_120 (G120_3 := g120_3) (G120_5 := 0) (G120_8 := 0) (G9010_0 := w144_9010_0) hS.1 (((Wr.b w140 rfl).trans ((Wr.b w135 rfl).trans ((Wr.b w130 rfl).trans ((Wr.b w127 rfl).trans ((Wr.b w117 rfl).trans ((Wr.b w107 rfl).trans ((Wr.b w97 rfl).trans ((Wr.b w87 rfl).trans ((Wr.b w77 rfl).trans ((Wr.b w67 rfl).trans ((Wr.b w57 rfl).trans ((Wr.b w47 rfl).trans ((Wr.b w35 rfl).trans ((Wr.b w25 rfl).trans ((Wr.b w20 rfl).trans ((Wr.b w15 rfl).trans ((Wr.b w10 rfl).trans ((Wr.b w5 rfl).trans eg120_3))))))))))))))))))) (((Wr.b w140 rfl).trans ((Wr.b w135 rfl).trans ((Wr.b w130 rfl).trans ((Wr.b w127 rfl).trans ((Wr.b w117 rfl).trans ((Wr.b w107 rfl).trans ((Wr.b w97 rfl).trans ((Wr.b w87 rfl).trans ((Wr.b w77 rfl).trans ((Wr.b w67 rfl).trans ((Wr.b w57 rfl).trans ((Wr.b w47 rfl).trans ((Wr.b w35 rfl).trans ((Wr.b w25 rfl).trans ((Wr.b w20 rfl).trans w15.1)))))))))))))))) (((Wr.b w140 rfl).trans ((Wr.b w135 rfl).trans ((Wr.b w130 rfl).trans ((Wr.b w127 rfl).trans ((Wr.b w117 rfl).trans ((Wr.b w107 rfl).trans ((Wr.b w97 rfl).trans ((Wr.b w87 rfl).trans ((Wr.b w77 rfl).trans ((Wr.b w67 rfl).trans ((Wr.b w57 rfl).trans ((Wr.b w47 rfl).trans ((Wr.b w35 rfl).trans ((Wr.b w25 rfl).trans w20.1))))))))))))))) (ew144_9010_0))) ?_
  rintro M144 _ ⟨h144, s144_120_3, s144_120_4, s144_120_5, s144_120_7, s144_120_8, s144_9010_0, es144_120_3, bs144_120_3, es144_120_4, bs144_120_4, es144_120_5, bs144_120_5, es144_120_7, bs144_120_7, es144_120_8, bs144_120_8, es144_9010_0, bs144_9010_0, rfl, z144_0, z144_1, z144_2, z144_3, z144_4, z144_5, z144_6⟩
  have hS := St.tr hS h144 (by decide) (by decide)
  refine Tr.sc [] rfl ?_
  refine Tr.iconst (pc := 147) d_X12_text_147 (by decide) ?_
  refine Tr.istore_n (pc := 148) (i := 1) (ls2 := [(1, (0, 1)), (0, (2, 120))]) d_X12_text_148 rfl (by decide) rfl ?_
  have J149 : ∀ (n149 : Nat) (M : Mem) (p149_1 u149_120_3 u149_120_4 u149_120_5 u149_120_6 u149_120_7 u149_120_8 u149_9010_0 : Int), St Pm1 ws_X12_text_120 as_X12_text_120 M0 M → (0 ≤ p149_1 ∧ p149_1 ≤ 1) → (0 ≤ u149_120_3 ∧ u149_120_3 ≤ 3) → (0 ≤ u149_120_4 ∧ u149_120_4 ≤ 900) → (0 ≤ u149_120_5 ∧ u149_120_5 ≤ 900) → ((-2147483648) ≤ u149_120_6 ∧ u149_120_6 ≤ 2147483647) → ((-9223372036854775808) ≤ u149_120_7 ∧ u149_120_7 ≤ 9223372036854775807) → (0 ≤ u149_120_8 ∧ u149_120_8 ≤ 5) → ((-1) ≤ u149_9010_0 ∧ u149_9010_0 ≤ 1800) → rd M 120 1 = 0 → rd M 120 12 = 0 → rd M 120 2 = r2 → rd M 120 3 = u149_120_3 → rd M 120 36 = 0 → rd M 120 37 = 1 → rd M 120 4 = u149_120_4 → rd M 120 44 = 0 → rd M 120 5 = u149_120_5 → rd M 120 50 = 0 → rd M 120 6 = u149_120_6 → rd M 120 7 = u149_120_7 → rd M 120 8 = u149_120_8 → rd M 129 1 = 0 → rd M 136 1 = 0 → nwv M = v140_9006 → tav M = u149_9010_0 → (u149_120_3 = 0 ∨ u149_120_4 + 1 ≤ u149_120_5) → (u149_120_4 ≤ u149_120_5) → (u149_120_3 ≠ 1 ∨ u149_120_4 + 2 ≤ u149_120_5 ∨ u149_120_7 < 256) → (0 ≤ 0) → (0 + 0 ≤ u149_120_4) → (1 ≤ u149_120_8 ∨ 0 + v140_9006 ≤ 2 * 0) → (4 * (1802 - u149_9010_0) + 2 * (5 - u149_120_8) + p149_1).toNat < n149 → Tr l K 6 mX12_text 149 [(0, (2, 120)), (1, (0, p149_1))] [] M (q_X12_text_120 M0) := by
    intro n149
    induction n149 with
    | zero => intro M p149_1 u149_120_3 u149_120_4 u149_120_5 u149_120_6 u149_120_7 u149_120_8 u149_9010_0 hS bp149_1 bu149_120_3 bu149_120_4 bu149_120_5 bu149_120_6 bu149_120_7 bu149_120_8 bu149_9010_0 k149_120_1 k149_120_12 k149_120_2 k149_120_3 k149_120_36 k149_120_37 k149_120_4 k149_120_44 k149_120_5 k149_120_50 k149_120_6 k149_120_7 k149_120_8 k149_129_1 k149_136_1 k149_9006_0 k149_9010_0 t149_0 t149_1 t149_2 t149_3 t149_4 t149_5 hm149; exact absurd hm149 (Nat.not_lt_zero _)
    | succ n149 J149 =>
      intro M p149_1 u149_120_3 u149_120_4 u149_120_5 u149_120_6 u149_120_7 u149_120_8 u149_9010_0 hS bp149_1 bu149_120_3 bu149_120_4 bu149_120_5 bu149_120_6 bu149_120_7 bu149_120_8 bu149_9010_0 k149_120_1 k149_120_12 k149_120_2 k149_120_3 k149_120_36 k149_120_37 k149_120_4 k149_120_44 k149_120_5 k149_120_50 k149_120_6 k149_120_7 k149_120_8 k149_129_1 k149_136_1 k149_9006_0 k149_9010_0 t149_0 t149_1 t149_2 t149_3 t149_4 t149_5 hm149
      clear er2 w5 w10 w15 w20 w25 w35 w47 w57 w67 w77 w87 w97 w107 w117 w127 w130 w135 w140 ev140_9006 ew144_9010_0 es144_120_3 es144_120_4 es144_120_5 es144_120_7 es144_120_8 es144_9010_0
      replace t149_0 := hd_i t149_0
      replace t149_2 := hd_i t149_2
      replace t149_5 := hd_i t149_5
      refine Tr.aload_n (pc := 149) (i := 0) d_X12_text_149 rfl rfl ?_
      refine Tr.getf (pc := 150) d_X12_text_150 f_12_36 (by decide) (by decide) (ty_120 hS.1.1) ?_
      refine Tr.tp u149_120_8 k149_120_8 ?_
      have J183 : ∀ (n183 : Nat) (M : Mem) (u183_120_3 u183_120_4 u183_120_5 u183_120_6 u183_120_7 u183_120_8 u183_120_36 u183_120_44 u183_120_50 u183_129_1 u183_136_1 u183_9006_0 u183_9010_0 : Int), St Pm1 ws_X12_text_120 as_X12_text_120 M0 M → (0 ≤ u183_120_3 ∧ u183_120_3 ≤ 3) → (0 ≤ u183_120_4 ∧ u183_120_4 ≤ 900) → (0 ≤ u183_120_5 ∧ u183_120_5 ≤ 900) → ((-2147483648) ≤ u183_120_6 ∧ u183_120_6 ≤ 2147483647) → ((-9223372036854775808) ≤ u183_120_7 ∧ u183_120_7 ≤ 9223372036854775807) → (0 ≤ u183_120_8 ∧ u183_120_8 ≤ 5) → (0 ≤ u183_120_36 ∧ u183_120_36 ≤ 900) → (0 ≤ u183_120_44 ∧ u183_120_44 ≤ 8) → (0 ≤ u183_120_50 ∧ u183_120_50 ≤ 20) → (0 ≤ u183_129_1 ∧ u183_129_1 ≤ 60) → (0 ≤ u183_136_1 ∧ u183_136_1 ≤ 200) → (0 ≤ u183_9006_0 ∧ u183_9006_0 ≤ 20) → ((-1) ≤ u183_9010_0 ∧ u183_9010_0 ≤ 1800) → rd M 120 1 = 0 → rd M 120 12 = 0 → rd M 120 2 = r2 → rd M 120 3 = u183_120_3 → rd M 120 36 = u183_120_36 → rd M 120 37 = 1 → rd M 120 4 = u183_120_4 → rd M 120 44 = u183_120_44 → rd M 120 5 = u183_120_5 → rd M 120 50 = u183_120_50 → rd M 120 6 = u183_120_6 → rd M 120 7 = u183_120_7 → rd M 120 8 = u183_120_8 → rd M 129 1 = u183_129_1 → rd M 136 1 = u183_136_1 → nwv M = u183_9006_0 → tav M = u183_9010_0 → (u183_120_3 = 0 ∨ u183_120_4 + 1 ≤ u183_120_5) → (u183_120_4 ≤ u183_120_5) → (u183_120_3 ≠ 1 ∨ u183_120_4 + 2 ≤ u183_120_5 ∨ u183_120_7 < 256) → (u183_120_50 ≤ u183_120_44) → (u183_120_36 + u183_120_44 ≤ u183_120_4) → (1 ≤ u183_120_8 ∨ u183_136_1 + u183_9006_0 ≤ 2 * u183_129_1) → (2 * (1802 - u183_9010_0) + (5 - u183_120_8)).toNat < n183 → Tr l K 6 mX12_text 183 [(0, (2, 120))] [] M (q_X12_text_120 M0) := by
        intro n183
        induction n183 with
        | zero => intro M u183_120_3 u183_120_4 u183_120_5 u183_120_6 u183_120_7 u183_120_8 u183_120_36 u183_120_44 u183_120_50 u183_129_1 u183_136_1 u183_9006_0 u183_9010_0 hS bu183_120_3 bu183_120_4 bu183_120_5 bu183_120_6 bu183_120_7 bu183_120_8 bu183_120_36 bu183_120_44 bu183_120_50 bu183_129_1 bu183_136_1 bu183_9006_0 bu183_9010_0 k183_120_1 k183_120_12 k183_120_2 k183_120_3 k183_120_36 k183_120_37 k183_120_4 k183_120_44 k183_120_5 k183_120_50 k183_120_6 k183_120_7 k183_120_8 k183_129_1 k183_136_1 k183_9006_0 k183_9010_0 t183_0 t183_1 t183_2 t183_3 t183_4 t183_5 hm183; exact absurd hm183 (Nat.not_lt_zero _)
        | succ n183 J183 =>
          intro M u183_120_3 u183_120_4 u183_120_5 u183_120_6 u183_120_7 u183_120_8 u183_120_36 u183_120_44 u183_120_50 u183_129_1 u183_136_1 u183_9006_0 u183_9010_0 hS bu183_120_3 bu183_120_4 bu183_120_5 bu183_120_6 bu183_120_7 bu183_120_8 bu183_120_36 bu183_120_44 bu183_120_50 bu183_129_1 bu183_136_1 bu183_9006_0 bu183_9010_0 k183_120_1 k183_120_12 k183_120_2 k183_120_3 k183_120_36 k183_120_37 k183_120_4 k183_120_44 k183_120_5 k183_120_50 k183_120_6 k183_120_7 k183_120_8 k183_129_1 k183_136_1 k183_9006_0 k183_9010_0 t183_0 t183_1 t183_2 t183_3 t183_4 t183_5 hm183
          clear k149_120_1 k149_120_12 k149_120_2 k149_120_3 k149_120_36 k149_120_37 k149_120_4 k149_120_44 k149_120_5 k149_120_50 k149_120_6 k149_120_7 k149_120_8 k149_129_1 k149_136_1 k149_9006_0 k149_9010_0
          replace t183_0 := hd_i t183_0
          replace t183_2 := hd_i t183_2
          replace t183_5 := hd_i t183_5
          refine Tr.aload_n (pc := 183) (i := 0) d_X12_text_183 rfl rfl ?_
          refine Tr.getf (pc := 184) d_X12_text_184 f_12_36 (by decide) (by decide) (ty_120 hS.1.1) ?_
          refine Tr.tp u183_120_8 k183_120_8 ?_
          have J234 : ∀ (M : Mem), St Pm1 ws_X12_text_120 as_X12_text_120 M0 M → rd M 120 1 = 0 → rd M 120 12 = 0 → rd M 120 2 = r2 → rd M 120 3 = u183_120_3 → rd M 120 36 = u183_120_36 → rd M 120 37 = 1 → rd M 120 4 = u183_120_4 → rd M 120 44 = u183_120_44 → rd M 120 5 = u183_120_5 → rd M 120 50 = u183_120_50 → rd M 120 6 = u183_120_6 → rd M 120 7 = u183_120_7 → rd M 120 8 = u183_120_8 → rd M 129 1 = u183_129_1 → rd M 136 1 = u183_136_1 → nwv M = u183_9006_0 → tav M = u183_9010_0 → Tr l K 6 mX12_text 234 [(0, (2, 120))] [] M (q_X12_text_120 M0) := by
            intro M  hS  k234_120_1 k234_120_12 k234_120_2 k234_120_3 k234_120_36 k234_120_37 k234_120_4 k234_120_44 k234_120_5 k234_120_50 k234_120_6 k234_120_7 k234_120_8 k234_129_1 k234_136_1 k234_9006_0 k234_9010_0
            clear k183_120_1 k183_120_12 k183_120_2 k183_120_3 k183_120_36 k183_120_37 k183_120_4 k183_120_44 k183_120_5 k183_120_50 k183_120_6 k183_120_7 k183_120_8 k183_129_1 k183_136_1 k183_9006_0 k183_9010_0
            refine Tr.aload_n (pc := 234) (i := 0) d_X12_text_234 rfl rfl ?_
            refine Tr.aload_n (pc := 235) (i := 0) d_X12_text_235 rfl rfl ?_
            refine Tr.getf (pc := 236) d_X12_text_236 f_12_36 (by decide) (by decide) (ty_120 hS.1.1) ?_
            refine Tr.tp u183_120_8 k234_120_8 ?_
            refine Tr.putfS (pc := 239) (P := St Pm1 ws_X12_text_120 as_X12_text_120 M0) d_X12_text_239 f_12_42 (by decide) (by decide) (ty_120 hS.1.1) (st_120_10 hS (by decide) (by and_intros <;> omega) (Pm1.of hS.1.2.2.2.2 (fun _ => rd_wb _ rfl) (fun _ => rd_wb _ rfl) (fun _ => rd_wb _ rfl) (fun _ => rd_wb _ rfl) (fun _ => rd_wb _ rfl) (fun _ => rd_wb _ rfl) (fun _ => rd_wb _ rfl) (fun _ => rd_wb _ rfl) (fun _ => rd_wb _ rfl) (fun _ => rd_wb _ rfl) (rd_wb _ rfl) (rd_wb _ rfl) (rd_wb _ rfl) (rd_wb _ rfl) (rd_wb _ rfl) (rd_wb _ rfl) (rd_wb _ rfl) (rd_wb _ rfl) (rd_wb _ rfl) (rd_wb _ rfl) (rd_wb _ rfl))) (fun M239 hS w239 => ?_)
            refine Tr.aload_n (pc := 242) (i := 0) d_X12_text_242 rfl rfl ?_
            refine Tr.aload_n (pc := 243) (i := 0) d_X12_text_243 rfl rfl ?_
            refine Tr.getf (pc := 244) d_X12_text_244 f_12_39 (by decide) (by decide) (ty_120 hS.1.1) ?_
            refine Tr.gen (P := fun v => (-2147483648) ≤ v ∧ v ≤ 2147483647) (ir_120_9 hS.1.2.1) (fun r244 er244 br244 => ?_)
            refine Tr.putfS (pc := 247) (P := St Pm1 ws_X12_text_120 as_X12_text_120 M0) d_X12_text_247 f_12_45 (by decide) (by decide) (ty_120 hS.1.1) (st_120_11 hS (by decide) (by and_intros <;> omega) (Pm1.of hS.1.2.2.2.2 (fun _ => rd_wb _ rfl) (fun _ => rd_wb _ rfl) (fun _ => rd_wb _ rfl) (fun _ => rd_wb _ rfl) (fun _ => rd_wb _ rfl) (fun _ => rd_wb _ rfl) (fun _ => rd_wb _ rfl) (fun _ => rd_wb _ rfl) (fun _ => rd_wb _ rfl) (fun _ => rd_wb _ rfl) (rd_wb _ rfl) (rd_wb _ rfl) (rd_wb _ rfl) (rd_wb _ rfl) (rd_wb _ rfl) (rd_wb _ rfl) (rd_wb _ rfl) (rd_wb _ rfl) (rd_wb _ rfl) (rd_wb _ rfl) (rd_wb _ rfl))) (fun M247 hS w247 => ?_)
            refine Tr.aload_n (pc := 250) (i := 0) d_X12_text_250 rfl rfl ?_
            refine Tr.getf (pc := 251) d_X12_text_251 f_12_36 (by decide) (by decide) (ty_120 hS.1.1) ?_
            refine Tr.tp u183_120_8 ((Wr.b w247 rfl).trans ((Wr.b w239 rfl).trans k234_120_8)) ?_
            refine Tr.if_le (pc := 254) (tgt := 259) d_X12_text_254 rfl (fun c254 => ?_) (fun c254 => ?_)
            · refine Tr.aload_n (pc := 259) (i := 0) d_X12_text_259 rfl rfl ?_
              refine Tr.aload_n (pc := 260) (i := 0) d_X12_text_260 rfl rfl ?_
              refine Tr.getf (pc := 261) d_X12_text_261 f_12_124 (by decide) (by decide) (ty_120 hS.1.1) ?_
              refine Tr.tp 1 ((Wr.b w247 rfl).trans ((Wr.b w239 rfl).trans k234_120_37)) ?_
              refine Tr.putfS (pc := 264) (P := St Pm1 ws_X12_text_120 as_X12_text_120 M0) d_X12_text_264 f_12_48 (by decide) (by decide) (ty_120 hS.1.1) (st_120_12 hS (by decide) (by omega) (Pm1.of hS.1.2.2.2.2 (fun _ => rd_wb _ rfl) (fun _ => rd_wb _ rfl) (fun _ => rd_wb _ rfl) (fun _ => rd_wb _ rfl) (fun _ => rd_wb _ rfl) (fun _ => rd_wb _ rfl) (fun _ => rd_wb _ rfl) (fun _ => rd_wb _ rfl) (fun _ => rd_wb _ rfl) (fun _ => rd_wb _ rfl) (rd_wb _ rfl) (rd_wb _ rfl) (rd_wb _ rfl) (rd_wb _ rfl) (rd_wb _ rfl) (rd_wb _ rfl) (rd_wb _ rfl) (rd_wb _ rfl) (rd_wb _ rfl) (rd_wb _ rfl) (rd_wb _ rfl))) (fun M264 hS w264 => ?_)
              refine Tr.iconst (pc := 267) d_X12_text_267 (by decide) ?_
              refine Tr.istore_n (pc := 268) (i := 2) (ls2 := [(2, (0, 0)), (0, (2, 120))]) d_X12_text_268 rfl (by decide) rfl ?_
              have J269 : ∀ (n269 : Nat) (M : Mem) (p269_2 : Int), St Pm1 ws_X12_text_120 as_X12_text_120 M0 M → (0 ≤ p269_2 ∧ p269_2 ≤ 3) → rd M 120 1 = 0 → rd M 120 10 = u183_120_8 → rd M 120 11 = r244 → rd M 120 12 = 1 → rd M 120 2 = r2 → rd M 120 3 = u183_120_3 → rd M 120 36 = u183_120_36 → rd M 120 37 = 1 → rd M 120 4 = u183_120_4 → rd M 120 44 = u183_120_44 → rd M 120 5 = u183_120_5 → rd M 120 50 = u183_120_50 → rd M 120 6 = u183_120_6 → rd M 120 7 = u183_120_7 → rd M 120 8 = u183_120_8 → rd M 120 9 = r244 → rd M 129 1 = u183_129_1 → rd M 136 1 = u183_136_1 → nwv M = u183_9006_0 → tav M = u183_9010_0 → (3 - p269_2).toNat < n269 → Tr l K 6 mX12_text 269 [(0, (2, 120)), (2, (0, p269_2))] [] M (q_X12_text_120 M0) := by
                intro n269
                induction n269 with
                | zero => intro M p269_2 hS bp269_2 k269_120_1 k269_120_10 k269_120_11 k269_120_12 k269_120_2 k269_120_3 k269_120_36 k269_120_37 k269_120_4 k269_120_44 k269_120_5 k269_120_50 k269_120_6 k269_120_7 k269_120_8 k269_120_9 k269_129_1 k269_136_1 k269_9006_0 k269_9010_0 hm269; exact absurd hm269 (Nat.not_lt_zero _)
                | succ n269 J269 =>
                  intro M p269_2 hS bp269_2 k269_120_1 k269_120_10 k269_120_11 k269_120_12 k269_120_2 k269_120_3 k269_120_36 k269_120_37 k269_120_4 k269_120_44 k269_120_5 k269_120_50 k269_120_6 k269_120_7 k269_120_8 k269_120_9 k269_129_1 k269_136_1 k269_9006_0 k269_9010_0 hm269
                  clear k234_120_1 k234_120_12 k234_120_2 k234_120_3 k234_120_36 k234_120_37 k234_120_4 k234_120_44 k234_120_5 k234_120_50 k234_120_6 k234_120_7 k234_120_8 k234_129_1 k234_136_1 k234_9006_0 k234_9010_0 w239 er244 w247 w264
                  refine Tr.iload_n (pc := 269) (i := 2) d_X12_text_269 rfl rfl ?_
                  refine Tr.iconst (pc := 270) d_X12_text_270 (by decide) ?_
                  refine Tr.icmp_ge (pc := 271) (tgt := 316) d_X12_text_271 rfl (fun c271 => ?_) (fun c271 => ?_)
                  · refine Tr.aload_n (pc := 316) (i := 0) d_X12_text_316 rfl rfl ?_
                    refine Tr.iconst (pc := 317) d_X12_text_317 (by decide) ?_
                    refine Tr.putzS (pc := 318) (P := St Pm1 ws_X12_text_120 as_X12_text_120 M0) d_X12_text_318 f_12_270 (by decide) (ty_120 hS.1.1) (by omega) (st_120_85 hS (by decide) (by omega) (Pm1.of hS.1.2.2.2.2 (fun _ => rd_wb _ rfl) (fun _ => rd_wb _ rfl) (fun _ => rd_wb _ rfl) (fun _ => rd_wb _ rfl) (fun _ => rd_wb _ rfl) (fun _ => rd_wb _ rfl) (fun _ => rd_wb _ rfl) (fun _ => rd_wb _ rfl) (fun _ => rd_wb _ rfl) (fun _ => rd_wb _ rfl) (rd_wb _ rfl) (rd_wb _ rfl) (rd_wb _ rfl) (rd_wb _ rfl) (rd_wb _ rfl) (rd_wb _ rfl) (rd_wb _ rfl) (rd_wb _ rfl) (rd_wb _ rfl) (rd_wb _ rfl) (rd_wb _ rfl))) (fun M318 hS w318 => ?_)
                    refine Tr.aload_n (pc := 321) (i := 0) d_X12_text_321 rfl rfl ?_
                    refine Tr.iconst (pc := 322) d_X12_text_322 (by decide) ?_
                    refine Tr.putzS (pc := 323) (P := St Pm1 ws_X12_text_120 as_X12_text_120 M0) d_X12_text_323 f_12_327 (by decide) (ty_120 hS.1.1) (by omega) (st_120_104 hS (by decide) (by omega) (Pm1.of hS.1.2.2.2.2 (fun _ => rd_wb _ rfl) (fun _ => rd_wb _ rfl) (fun _ => rd_wb _ rfl) (fun _ => rd_wb _ rfl) (fun _ => rd_wb _ rfl) (fun _ => rd_wb _ rfl) (fun _ => rd_wb _ rfl) (fun _ => rd_wb _ rfl) (fun _ => rd_wb _ rfl) (fun _ => rd_wb _ rfl) (rd_wb _ rfl) (rd_wb _ rfl) (rd_wb _ rfl) (rd_wb _ rfl) (rd_wb _ rfl) (rd_wb _ rfl) (rd_wb _ rfl) (rd_wb _ rfl) (rd_wb _ rfl) (rd_wb _ rfl) (rd_wb _ rfl))) (fun M323 hS w323 => ?_)
                    refine Tr.aload_n (pc := 326) (i := 0) d_X12_text_326 rfl rfl ?_
                    refine Tr.iconst (pc := 327) d_X12_text_327 (by decide) ?_
                    refine Tr.putfS (pc := 328) (P := St Pm1 ws_X12_text_120 as_X12_text_120 M0) d_X12_text_328 f_12_333 (by decide) (by decide) (ty_120 hS.1.1) (st_120_106 hS (by decide) (by omega) (Pm1.of hS.1.2.2.2.2 (fun _ => rd_wb _ rfl) (fun _ => rd_wb _ rfl) (fun _ => rd_wb _ rfl) (fun _ => rd_wb _ rfl) (fun _ => rd_wb _ rfl) (fun _ => rd_wb _ rfl) (fun _ => rd_wb _ rfl) (fun _ => rd_wb _ rfl) (fun _ => rd_wb _ rfl) (fun _ => rd_wb _ rfl) (rd_wb _ rfl) (rd_wb _ rfl) (rd_wb _ rfl) (rd_wb _ rfl) (rd_wb _ rfl) (rd_wb _ rfl) (rd_wb _ rfl) (rd_wb _ rfl) (rd_wb _ rfl) (rd_wb _ rfl) (rd_wb _ rfl))) (fun M328 hS w328 => ?_)
                    refine Tr.aload_n (pc := 331) (i := 0) d_X12_text_331 rfl rfl ?_
                    refine Tr.iconst (pc := 332) d_X12_text_332 (by decide) ?_
                    refine Tr.putzS (pc := 333) (P := St Pm1 ws_X12_text_120 as_X12_text_120 M0) d_X12_text_333 f_12_342 (by decide) (ty_120 hS.1.1) (by omega) (st_120_109 hS (by decide) (by omega) (Pm1.of hS.1.2.2.2.2 (fun _ => rd_wb _ rfl) (fun _ => rd_wb _ rfl) (fun _ => rd_wb _ rfl) (fun _ => rd_wb _ rfl) (fun _ => rd_wb _ rfl) (fun _ => rd_wb _ rfl) (fun _ => rd_wb _ rfl) (fun _ => rd_wb _ rfl) (fun _ => rd_wb _ rfl) (fun _ => rd_wb _ rfl) (rd_wb _ rfl) (rd_wb _ rfl) (rd_wb _ rfl) (rd_wb _ rfl) (rd_wb _ rfl) (rd_wb _ rfl) (rd_wb _ rfl) (rd_wb _ rfl) (rd_wb _ rfl) (rd_wb _ rfl) (rd_wb _ rfl))) (fun M333 hS w333 => ?_)
                    refine Tr.aload_n (pc := 336) (i := 0) d_X12_text_336 rfl rfl ?_
                    refine Tr.getf (pc := 337) d_X12_text_337 f_12_72 (by decide) (by decide) (ty_120 hS.1.1) ?_
                    refine Tr.tp 129 (fx_120_20 hS.1.1) ?_
                    refine Tr.aload_n (pc := 340) (i := 0) d_X12_text_340 rfl rfl ?_
                    refine Tr.getf (pc := 341) d_X12_text_341 f_12_48 (by decide) (by decide) (ty_120 hS.1.1) ?_
                    refine Tr.tp 1 ((Wr.b w333 rfl).trans ((Wr.b w328 rfl).trans ((Wr.b w323 rfl).trans ((Wr.b w318 rfl).trans k269_120_12)))) ?_
                    refine Tr.iald (pc := 344) d_X12_text_344 (ty_129 hS.1.1) (by omega) (by omega) ?_
                    refine Tr.tp u183_129_1 ((Wr.b w333 rfl).trans ((Wr.b w328 rfl).trans ((Wr.b w323 rfl).trans ((Wr.b w318 rfl).trans k269_129_1)))) ?_
                    have hPm := hS.1.2.2.2.2
                    have hfk : rd M333 120 8 = u183_120_8 := ((Wr.b w333 rfl).trans ((Wr.b w328 rfl).trans ((Wr.b w323 rfl).trans ((Wr.b w318 rfl).trans k269_120_8))))
                    have kr_120_1 : rd M333 120 1 = 0 := ((Wr.b w333 rfl).trans ((Wr.b w328 rfl).trans ((Wr.b w323 rfl).trans ((Wr.b w318 rfl).trans k269_120_1))))
                    have hS := hS.wk
                    exact Tr.iret (pc := 345) d_X12_text_345 rfl ⟨hS, _, rfl, (by omega), (by omega), (by omega), (Or.inr ⟨by omega, ((Wr.b w333 rfl).trans ((Wr.b w328 rfl).trans ((Wr.b w323 rfl).trans ((Wr.b w318 rfl).trans k269_120_12)))), Pm1_end hPm (by have e9 := hfk; omega)⟩)⟩
                  · refine Tr.aload_n (pc := 274) (i := 0) d_X12_text_274 rfl rfl ?_
                    refine Tr.getf (pc := 275) d_X12_text_275 f_12_168 (by decide) (by decide) (ty_120 hS.1.1) ?_
                    refine Tr.tp 153 (fx_120_51 hS.1.1) ?_
                    refine Tr.iload_n (pc := 278) (i := 2) d_X12_text_278 rfl rfl ?_
                    refine Tr.iload_n (pc := 279) (i := 2) d_X12_text_279 rfl rfl ?_
                    refine Tr.aload_n (pc := 280) (i := 0) d_X12_text_280 rfl rfl ?_
                    refine Tr.getf (pc := 281) d_X12_text_281 f_12_66 (by decide) (by decide) (ty_120 hS.1.1) ?_
                    refine Tr.tp 127 (fx_120_18 hS.1.1) ?_
                    refine Tr.aload_n (pc := 284) (i := 0) d_X12_text_284 rfl rfl ?_
                    refine Tr.getf (pc := 285) d_X12_text_285 f_12_48 (by decide) (by decide) (ty_120 hS.1.1) ?_
                    refine Tr.tp 1 k269_120_12 ?_
                    refine Tr.iald (pc := 288) d_X12_text_288 (ty_127 hS.1.1) (by omega) (by omega) ?_
                    refine Tr.gen (P := fun v => 0 ≤ v ∧ v ≤ 3) (ir_127_1 hS.1.2.1) (fun r288 er288 br288 => ?_)
                    have J309 : ∀ (M : Mem) (q309_2 : Int), St Pm1 ws_X12_text_120 as_X12_text_120 M0 M → ((-2147483648) ≤ q309_2 ∧ q309_2 ≤ 2147483647) → rd M 120 1 = 0 → rd M 120 10 = u183_120_8 → rd M 120 11 = r244 → rd M 120 12 = 1 → rd M 120 2 = r2 → rd M 120 3 = u183_120_3 → rd M 120 36 = u183_120_36 → rd M 120 37 = 1 → rd M 120 4 = u183_120_4 → rd M 120 44 = u183_120_44 → rd M 120 5 = u183_120_5 → rd M 120 50 = u183_120_50 → rd M 120 6 = u183_120_6 → rd M 120 7 = u183_120_7 → rd M 120 8 = u183_120_8 → rd M 120 9 = r244 → rd M 127 1 = r288 → rd M 129 1 = u183_129_1 → rd M 136 1 = u183_136_1 → nwv M = u183_9006_0 → tav M = u183_9010_0 → Tr l K 6 mX12_text 309 [(0, (2, 120)), (2, (0, p269_2))] [(0, q309_2), (0, p269_2), (2, 153)] M (q_X12_text_120 M0) := by
                      intro M q309_2 hS bq309_2 k309_120_1 k309_120_10 k309_120_11 k309_120_12 k309_120_2 k309_120_3 k309_120_36 k309_120_37 k309_120_4 k309_120_44 k309_120_5 k309_120_50 k309_120_6 k309_120_7 k309_120_8 k309_120_9 k309_127_1 k309_129_1 k309_136_1 k309_9006_0 k309_9010_0
                      clear k269_120_1 k269_120_10 k269_120_11 k269_120_12 k269_120_2 k269_120_3 k269_120_36 k269_120_37 k269_120_4 k269_120_44 k269_120_5 k269_120_50 k269_120_6 k269_120_7 k269_120_8 k269_120_9 k269_129_1 k269_136_1 k269_9006_0 k269_9010_0 er288
                      refine Tr.iastS (pc := 309) (P := St Pm1 ws_X12_text_120 as_X12_text_120 M0) d_X12_text_309 (ty_153 hS.1.1) (by omega) (by omega) (sa_153 hS (by decide) (by and_intros <;> omega) (Pm1.of hS.1.2.2.2.2 (fun _ => rd_wb _ rfl) (fun _ => rd_wb _ rfl) (fun _ => rd_wb _ rfl) (fun _ => rd_wb _ rfl) (fun _ => rd_wb _ rfl) (fun _ => rd_wb _ rfl) (fun _ => rd_wb _ rfl) (fun _ => rd_wb _ rfl) (fun _ => rd_wb _ rfl) (fun _ => rd_wb _ rfl) (rd_wb _ rfl) (rd_wb _ rfl) (rd_wb _ rfl) (rd_wb _ rfl) (rd_wb _ rfl) (rd_wb _ rfl) (rd_wb _ rfl) (rd_wb _ rfl) (rd_wb _ rfl) (rd_wb _ rfl) (rd_wb _ rfl))) (fun M309 hS w309 => ?_)
                      refine Tr.iincV (pc := 310) (n2 := (p269_2 + 1)) (ls2 := [(2, (0, (p269_2 + 1))), (0, (2, 120))]) d_X12_text_310 rfl (by decide) ((w32_id (by and_intros <;> omega)).trans (by omega)) rfl ?_
                      refine Tr.goto (pc := 313) (tgt := 269) d_X12_text_313 rfl ?_
                      refine Tr.pick [1, 0] (ls2 := [(0, (2, 120)), (2, (0, (p269_2 + 1)))]) rfl ?_
                      exact J269 _ _ hS (by and_intros <;> omega) ((Wr.b w309 rfl).trans k309_120_1) ((Wr.b w309 rfl).trans k309_120_10) ((Wr.b w309 rfl).trans k309_120_11) ((Wr.b w309 rfl).trans k309_120_12) ((Wr.b w309 rfl).trans k309_120_2) ((Wr.b w309 rfl).trans k309_120_3) ((Wr.b w309 rfl).trans k309_120_36) ((Wr.b w309 rfl).trans k309_120_37) ((Wr.b w309 rfl).trans k309_120_4) ((Wr.b w309 rfl).trans k309_120_44) ((Wr.b w309 rfl).trans k309_120_5) ((Wr.b w309 rfl).trans k309_120_50) ((Wr.b w309 rfl).trans k309_120_6) ((Wr.b w309 rfl).trans k309_120_7) ((Wr.b w309 rfl).trans k309_120_8) ((Wr.b w309 rfl).trans k309_120_9) ((Wr.b w309 rfl).trans k309_129_1) ((Wr.b w309 rfl).trans k309_136_1) ((nwv_of (fun j => ((Wr.b w309 rfl).trans rfl)) ((Wr.b w309 rfl).trans rfl)).trans k309_9006_0) ((tav_of ((Wr.b w309 rfl).trans rfl) ((Wr.b w309 rfl).trans rfl)).trans k309_9010_0) (me_lt hm269 (by omega) (by omega))
                    refine Tr.icmp_ge (pc := 289) (tgt := 308) d_X12_text_289 rfl (fun c289 => ?_) (fun c289 => ?_)
                    · refine Tr.iconst (pc := 308) d_X12_text_308 (by decide) ?_
                      refine Tr.pick [0, 1] (ls2 := [(0, (2, 120)), (2, (0, p269_2))]) rfl ?_
                      exact J309 _ _ hS (by omega) k269_120_1 k269_120_10 k269_120_11 k269_120_12 k269_120_2 k269_120_3 k269_120_36 k269_120_37 k269_120_4 k269_120_44 k269_120_5 k269_120_50 k269_120_6 k269_120_7 k269_120_8 k269_120_9 er288 k269_129_1 k269_136_1 k269_9006_0 k269_9010_0
                    · refine Tr.aload_n (pc := 292) (i := 0) d_X12_text_292 rfl rfl ?_
                      refine Tr.getf (pc := 293) d_X12_text_293 f_12_85 (by decide) (by decide) (ty_120 hS.1.1) ?_
                      refine Tr.tp 133 (fx_120_24 hS.1.1) ?_
                      refine Tr.iconst (pc := 296) d_X12_text_296 (by decide) ?_
                      refine Tr.aload_n (pc := 297) (i := 0) d_X12_text_297 rfl rfl ?_
                      refine Tr.getf (pc := 298) d_X12_text_298 f_12_48 (by decide) (by decide) (ty_120 hS.1.1) ?_
                      refine Tr.tp 1 k269_120_12 ?_
                      refine Tr.imul (pc := 301) d_X12_text_301 ?_
                      refine Tr.tp 3 (by decide) ?_
                      refine Tr.iload_n (pc := 302) (i := 2) d_X12_text_302 rfl rfl ?_
                      refine Tr.iadd (pc := 303) d_X12_text_303 ?_
                      refine Tr.tp (p269_2 + 3) ((w32_id (by and_intros <;> omega)).trans (by omega)) ?_
                      refine Tr.iald (pc := 304) d_X12_text_304 (ty_133 hS.1.1) (by omega) (by omega) ?_
                      refine Tr.gen (P := fun v => (-2147483648) ≤ v ∧ v ≤ 2147483647) (ar_133 hS.1.2.1 _) (fun r304 er304 br304 => ?_)
                      refine Tr.goto (pc := 305) (tgt := 309) d_X12_text_305 rfl ?_
                      refine Tr.pick [0, 1] (ls2 := [(0, (2, 120)), (2, (0, p269_2))]) rfl ?_
                      exact J309 _ _ hS (by and_intros <;> omega) k269_120_1 k269_120_10 k269_120_11 k269_120_12 k269_120_2 k269_120_3 k269_120_36 k269_120_37 k269_120_4 k269_120_44 k269_120_5 k269_120_50 k269_120_6 k269_120_7 k269_120_8 k269_120_9 er288 k269_129_1 k269_136_1 k269_9006_0 k269_9010_0
              refine Tr.pick [1, 0] (ls2 := [(0, (2, 120)), (2, (0, 0))]) rfl ?_
              exact J269 _ _ _ hS (by omega) ((Wr.b w264 rfl).trans ((Wr.b w247 rfl).trans ((Wr.b w239 rfl).trans k234_120_1))) ((Wr.b w264 rfl).trans ((Wr.b w247 rfl).trans w239.1)) ((Wr.b w264 rfl).trans w247.1) w264.1 ((Wr.b w264 rfl).trans ((Wr.b w247 rfl).trans ((Wr.b w239 rfl).trans k234_120_2))) ((Wr.b w264 rfl).trans ((Wr.b w247 rfl).trans ((Wr.b w239 rfl).trans k234_120_3))) ((Wr.b w264 rfl).trans ((Wr.b w247 rfl).trans ((Wr.b w239 rfl).trans k234_120_36))) ((Wr.b w264 rfl).trans ((Wr.b w247 rfl).trans ((Wr.b w239 rfl).trans k234_120_37))) ((Wr.b w264 rfl).trans ((Wr.b w247 rfl).trans ((Wr.b w239 rfl).trans k234_120_4))) ((Wr.b w264 rfl).trans ((Wr.b w247 rfl).trans ((Wr.b w239 rfl).trans k234_120_44))) ((Wr.b w264 rfl).trans ((Wr.b w247 rfl).trans ((Wr.b w239 rfl).trans k234_120_5))) ((Wr.b w264 rfl).trans ((Wr.b w247 rfl).trans ((Wr.b w239 rfl).trans k234_120_50))) ((Wr.b w264 rfl).trans ((Wr.b w247 rfl).trans ((Wr.b w239 rfl).trans k234_120_6))) ((Wr.b w264 rfl).trans ((Wr.b w247 rfl).trans ((Wr.b w239 rfl).trans k234_120_7))) ((Wr.b w264 rfl).trans ((Wr.b w247 rfl).trans ((Wr.b w239 rfl).trans k234_120_8))) ((Wr.b w264 rfl).trans ((Wr.b w247 rfl).trans er244)) ((Wr.b w264 rfl).trans ((Wr.b w247 rfl).trans ((Wr.b w239 rfl).trans k234_129_1))) ((Wr.b w264 rfl).trans ((Wr.b w247 rfl).trans ((Wr.b w239 rfl).trans k234_136_1))) ((nwv_of (fun j => ((Wr.b w264 rfl).trans ((Wr.b w247 rfl).trans ((Wr.b w239 rfl).trans rfl)))) ((Wr.b w264 rfl).trans ((Wr.b w247 rfl).trans ((Wr.b w239 rfl).trans rfl)))).trans k234_9006_0) ((tav_of ((Wr.b w264 rfl).trans ((Wr.b w247 rfl).trans ((Wr.b w239 rfl).trans rfl))) ((Wr.b w264 rfl).trans ((Wr.b w247 rfl).trans ((Wr.b w239 rfl).trans rfl)))).trans k234_9010_0) (Nat.lt_succ_self _)
            · refine Tr.iconst (pc := 257) d_X12_text_257 (by decide) ?_
              have hPm := hS.1.2.2.2.2
              have hfk : rd M247 120 8 = u183_120_8 := ((Wr.b w247 rfl).trans ((Wr.b w239 rfl).trans k234_120_8))
              have kr_120_1 : rd M247 120 1 = 0 := ((Wr.b w247 rfl).trans ((Wr.b w239 rfl).trans k234_120_1))
              have hS := hS.wk
              exact Tr.iret (pc := 258) d_X12_text_258 rfl ⟨hS, _, rfl, by omega, by omega, (by omega), (Or.inl ⟨rfl, ((Wr.b w247 rfl).trans ((Wr.b w239 rfl).trans k234_120_12)), hPm.1⟩)⟩
          refine Tr.if_ne (pc := 187) (tgt := 234) d_X12_text_187 rfl (fun c187 => ?_) (fun c187 => ?_)
          · have c187b : 1 ≤ u183_120_8 ∧ u183_120_8 ≤ 5 := by omega
            replace c187 := hd_i c187
            refine Tr.pick [0] (ls2 := [(0, (2, 120))]) rfl ?_
            exact J234 _ hS k183_120_1 k183_120_12 k183_120_2 k183_120_3 k183_120_36 k183_120_37 k183_120_4 k183_120_44 k183_120_5 k183_120_50 k183_120_6 k183_120_7 k183_120_8 k183_129_1 k183_136_1 k183_9006_0 k183_9010_0
          · refine Tr.aload_n (pc := 190) (i := 0) d_X12_text_190 rfl rfl ?_
            refine Tr.getf (pc := 191) d_X12_text_191 f_12_20 (by decide) (by decide) (ty_120 hS.1.1) ?_
            refine Tr.tp u183_120_3 k183_120_3 ?_
            have J204 : ∀ (M : Mem), St Pm1 ws_X12_text_120 as_X12_text_120 M0 M → rd M 120 1 = 0 → rd M 120 12 = 0 → rd M 120 2 = r2 → rd M 120 3 = u183_120_3 → rd M 120 36 = u183_120_36 → rd M 120 37 = 1 → rd M 120 4 = u183_120_4 → rd M 120 44 = u183_120_44 → rd M 120 5 = u183_120_5 → rd M 120 50 = u183_120_50 → rd M 120 6 = u183_120_6 → rd M 120 7 = u183_120_7 → rd M 120 8 = u183_120_8 → rd M 129 1 = u183_129_1 → rd M 136 1 = u183_136_1 → nwv M = u183_9006_0 → tav M = u183_9010_0 → (u183_120_3 ≠ 0 ∨ 1 ≤ u183_120_50) → Tr l K 6 mX12_text 204 [(0, (2, 120))] [] M (q_X12_text_120 M0) := by
              intro M  hS  k204_120_1 k204_120_12 k204_120_2 k204_120_3 k204_120_36 k204_120_37 k204_120_4 k204_120_44 k204_120_5 k204_120_50 k204_120_6 k204_120_7 k204_120_8 k204_129_1 k204_136_1 k204_9006_0 k204_9010_0 t204_0
              clear k183_120_1 k183_120_12 k183_120_2 k183_120_3 k183_120_36 k183_120_37 k183_120_4 k183_120_44 k183_120_5 k183_120_50 k183_120_6 k183_120_7 k183_120_8 k183_129_1 k183_136_1 k183_9006_0 k183_9010_0
              replace t204_0 := hd_i t204_0
              refine Tr.aload_n (pc := 204) (i := 0) d_X12_text_204 rfl rfl ?_
              refine Tr.getf (pc := 205) d_X12_text_205 f_12_165 (by decide) (by decide) (ty_120 hS.1.1) ?_
              refine Tr.tp u183_120_50 k204_120_50 ?_
              have J227 : ∀ (M : Mem), St Pm1 ws_X12_text_120 as_X12_text_120 M0 M → rd M 120 1 = 0 → rd M 120 12 = 0 → rd M 120 2 = r2 → rd M 120 3 = u183_120_3 → rd M 120 36 = u183_120_36 → rd M 120 37 = 1 → rd M 120 4 = u183_120_4 → rd M 120 44 = u183_120_44 → rd M 120 5 = u183_120_5 → rd M 120 50 = u183_120_50 → rd M 120 6 = u183_120_6 → rd M 120 7 = u183_120_7 → rd M 120 8 = u183_120_8 → rd M 129 1 = u183_129_1 → rd M 136 1 = u183_136_1 → nwv M = u183_9006_0 → tav M = u183_9010_0 → Tr l K 6 mX12_text 227 [(0, (2, 120))] [] M (q_X12_text_120 M0) := by
                intro M  hS  k227_120_1 k227_120_12 k227_120_2 k227_120_3 k227_120_36 k227_120_37 k227_120_4 k227_120_44 k227_120_5 k227_120_50 k227_120_6 k227_120_7 k227_120_8 k227_129_1 k227_136_1 k227_9006_0 k227_9010_0
                clear k204_120_1 k204_120_12 k204_120_2 k204_120_3 k204_120_36 k204_120_37 k204_120_4 k204_120_44 k204_120_5 k204_120_50 k204_120_6 k204_120_7 k204_120_8 k204_129_1 k204_136_1 k204_9006_0 k204_9010_0
                refine Tr.aload_n (pc := 227) (i := 0) d_X12_text_227 rfl rfl ?_
                refine Tr.callV (pc := 228) (as := []) d_X12_text_228 s_12_550 ok_X12_statement rfl rfl (Nat.le_of_ble_eq_true rfl) (Nat.le_of_ble_eq_true rfl) (by decide) (ty_120 hS.1.1) ?_
                refine Tr.imp (Tr.deep (by decide) (ns_X12_statement_120 (G120_3 := u183_120_3) (G120_4 := u183_120_4) (G120_5 := u183_120_5) (G120_7 := u183_120_7) (G120_8 := u183_120_8) (G120_36 := u183_120_36) (G120_44 := u183_120_44) (G120_50 := u183_120_50) (G129_1 := u183_129_1) (G136_1 := u183_136_1) (G9006_0 := u183_9006_0) (G9010_0 := u183_9010_0) hS.1 (k227_120_3) (k227_120_4) (k227_120_5) (k227_120_7) (k227_120_8) (k227_120_36) (k227_120_44) (k227_120_50) (k227_129_1) (k227_136_1) (k227_9006_0) (k227_9010_0) k227_120_37 (by first | exact (hd_o t183_0) | exact (hd_o t183_0).elim (fun h1 => by omega) (fun h1 => by omega)) (by omega) (by first | exact (hd_o t183_2) | exact (hd_o t183_2).elim (fun h1 => by omega) (fun h1 => h1.elim (fun h1 => by omega) (fun h1 => by omega))) (by omega) (by omega) (by exact (hd_o t183_5).elim (fun h1 => by omega) (fun h1 => by omega)) (by omega))) ?_
                rintro M228 _ ⟨h228, s228_120_3, s228_120_4, s228_120_5, s228_120_7, s228_120_8, s228_120_36, s228_120_44, s228_120_50, s228_129_1, s228_136_1, s228_9006_0, s228_9010_0, es228_120_3, bs228_120_3, es228_120_4, bs228_120_4, es228_120_5, bs228_120_5, es228_120_7, bs228_120_7, es228_120_8, bs228_120_8, es228_120_36, bs228_120_36, es228_120_44, bs228_120_44, es228_120_50, bs228_120_50, es228_129_1, bs228_129_1, es228_136_1, bs228_136_1, es228_9006_0, bs228_9006_0, es228_9010_0, bs228_9010_0, rfl, z228_0, z228_1, z228_2, z228_3, z228_4, z228_5, z228_6, z228_7, z228_8⟩
                have hS := St.tr hS h228 (by decide) (by decide)
                refine Tr.sc [] rfl ?_
                refine Tr.goto (pc := 231) (tgt := 183) d_X12_text_231 rfl ?_
                refine Tr.pick [0] (ls2 := [(0, (2, 120))]) rfl ?_
                obtain ⟨w183p231_120_6, ew183p231_120_6⟩ : ∃ v, rd M228 120 6 = v := ⟨_, rfl⟩
                have bw183p231_120_6 : (-2147483648) ≤ w183p231_120_6 ∧ w183p231_120_6 ≤ 2147483647 := by rw [← ew183p231_120_6]; exact ir_120_6 hS.1.2.1
                exact J183 _ _ _ _ _ _ _ _ _ _ _ _ _ _ hS (by and_intros <;> omega) (by and_intros <;> omega) (by and_intros <;> omega) (by and_intros <;> omega) (by omega) (by and_intros <;> omega) (by and_intros <;> omega) (by and_intros <;> omega) (by and_intros <;> omega) (by and_intros <;> omega) (by and_intros <;> omega) (by and_intros <;> omega) (by and_intros <;> omega) ((kp_X12_statement_120_120_1 h228).trans k227_120_1) ((kp_X12_statement_120_120_12 h228).trans k227_120_12) ((kp_X12_statement_120_120_2 h228).trans k227_120_2) es228_120_3 es228_120_36 ((kp_X12_statement_120_120_37 h228).trans k227_120_37) es228_120_4 es228_120_44 es228_120_5 es228_120_50 ew183p231_120_6 es228_120_7 es228_120_8 es228_129_1 es228_136_1 es228_9006_0 es228_9010_0 (by first | exact (hd_o z228_0) | exact (hd_o z228_0).elim (fun h1 => by omega) (fun h1 => by omega)) (by omega) (by first | exact (hd_o z228_2) | exact (hd_o z228_2).elim (fun h1 => by omega) (fun h1 => h1.elim (fun h1 => by omega) (fun h1 => by omega))) (by omega) (by omega) (by first | exact (hd_o z228_6) | exact (hd_o z228_6).elim (fun h1 => by omega) (fun h1 => by omega)) (me_lt hm183 (by exact (hd_o z228_5).elim (fun h1 => by omega) (fun h1 => by omega)) (by omega))
              refine Tr.if_le (pc := 208) (tgt := 227) d_X12_text_208 rfl (fun c208 => ?_) (fun c208 => ?_)
              · refine Tr.pick [0] (ls2 := [(0, (2, 120))]) rfl ?_
                exact J227 _ hS k204_120_1 k204_120_12 k204_120_2 k204_120_3 k204_120_36 k204_120_37 k204_120_4 k204_120_44 k204_120_5 k204_120_50 k204_120_6 k204_120_7 k204_120_8 k204_129_1 k204_136_1 k204_9006_0 k204_9010_0
              · refine Tr.aload_n (pc := 211) (i := 0) d_X12_text_211 rfl rfl ?_
                refine Tr.bipush (pc := 212) d_X12_text_212 rfl (by decide) ?_
                refine Tr.callV (pc := 214) (as := [_]) d_X12_text_214 s_12_393 ok_X12_isSign rfl rfl (Nat.le_of_ble_eq_true rfl) (Nat.le_of_ble_eq_true rfl) (by decide) (ty_120 hS.1.1) ?_
                refine Tr.imp (Tr.deep (by decide) (ns_X12_isSign_120 (G120_3 := u183_120_3) (G120_6 := u183_120_6) hS.1.wk (k204_120_3) (k204_120_6) 125 (by omega))) ?_
                rintro M214 _ ⟨h214, r214, rfl, lr214, ur214, z214_0⟩
                have h214 := St.rn h214 (Pm1.of hS.1.2.2.2.2 (fun _ => (ka_X12_isSign_120_131 h214 _)) (fun _ => (ka_X12_isSign_120_137 h214 _)) (fun _ => (ka_X12_isSign_120_138 h214 _)) (fun _ => (ka_X12_isSign_120_139 h214 _)) (fun _ => (ka_X12_isSign_120_140 h214 _)) (fun _ => (ka_X12_isSign_120_141 h214 _)) (fun _ => (ka_X12_isSign_120_142 h214 _)) (fun _ => (ka_X12_isSign_120_143 h214 _)) (fun _ => (ka_X12_isSign_120_151 h214 _)) (fun _ => (ka_X12_isSign_120_152 h214 _)) (kp_X12_isSign_120_126_0 h214) (kp_X12_isSign_120_126_1 h214) (kp_X12_isSign_120_136_0 h214) (kp_X12_isSign_120_136_1 h214) (kp_X12_isSign_120_123_0 h214) (kp_X12_isSign_120_123_1 h214) (kp_X12_isSign_120_124_0 h214) (kp_X12_isSign_120_124_1 h214) (kp_X12_isSign_120_120_8 h214) (kp_X12_isSign_120_120_36 h214) (kp_X12_isSign_120_120_50 h214))
                have hS := St.tr hS h214 (by decide) (by decide)
                refine Tr.sc [(0, r214)] rfl ?_
                refine Tr.if_eq (pc := 217) (tgt := 227) d_X12_text_217 rfl (fun c217 => ?_) (fun c217 => ?_)
                · refine Tr.pick [0] (ls2 := [(0, (2, 120))]) rfl ?_
                  exact J227 _ hS ((kp_X12_isSign_120_120_1 h214).trans k204_120_1) ((kp_X12_isSign_120_120_12 h214).trans k204_120_12) ((kp_X12_isSign_120_120_2 h214).trans k204_120_2) ((kp_X12_isSign_120_120_3 h214).trans k204_120_3) ((kp_X12_isSign_120_120_36 h214).trans k204_120_36) ((kp_X12_isSign_120_120_37 h214).trans k204_120_37) ((kp_X12_isSign_120_120_4 h214).trans k204_120_4) ((kp_X12_isSign_120_120_44 h214).trans k204_120_44) ((kp_X12_isSign_120_120_5 h214).trans k204_120_5) ((kp_X12_isSign_120_120_50 h214).trans k204_120_50) ((kp_X12_isSign_120_120_6 h214).trans k204_120_6) ((kp_X12_isSign_120_120_7 h214).trans k204_120_7) ((kp_X12_isSign_120_120_8 h214).trans k204_120_8) ((kp_X12_isSign_120_129_1 h214).trans k204_129_1) ((kp_X12_isSign_120_136_1 h214).trans k204_136_1) ((nwv_of (fun j => ((ka_X12_isSign_120_151 h214 _).trans rfl)) ((kp_X12_isSign_120_120_50 h214).trans rfl)).trans k204_9006_0) ((tav_of ((kp_X12_isSign_120_120_5 h214).trans rfl) ((kp_X12_isSign_120_120_3 h214).trans rfl)).trans k204_9010_0)
                · have c217b : 1 ≤ r214 ∧ r214 ≤ 1 := by omega
                  replace c217 := hd_i c217
                  refine Tr.aload_n (pc := 220) (i := 0) d_X12_text_220 rfl rfl ?_
                  refine Tr.callV (pc := 221) (as := []) d_X12_text_221 s_12_547 ok_X12_closesBlock rfl rfl (Nat.le_of_ble_eq_true rfl) (Nat.le_of_ble_eq_true rfl) (by decide) (ty_120 hS.1.1) ?_
                  refine Tr.imp (Tr.deep (by decide) (ns_X12_closesBlock_120 (G120_3 := u183_120_3) (G120_4 := u183_120_4) (G120_5 := u183_120_5) (G120_7 := u183_120_7) (G120_8 := u183_120_8) (G120_36 := u183_120_36) (G120_44 := u183_120_44) (G120_50 := u183_120_50) (G129_1 := u183_129_1) (G136_1 := u183_136_1) (G9006_0 := u183_9006_0) (G9010_0 := u183_9010_0) hS.1 (((kp_X12_isSign_120_120_3 h214).trans k204_120_3)) (((kp_X12_isSign_120_120_4 h214).trans k204_120_4)) (((kp_X12_isSign_120_120_5 h214).trans k204_120_5)) (((kp_X12_isSign_120_120_7 h214).trans k204_120_7)) (((kp_X12_isSign_120_120_8 h214).trans k204_120_8)) (((kp_X12_isSign_120_120_36 h214).trans k204_120_36)) (((kp_X12_isSign_120_120_44 h214).trans k204_120_44)) (((kp_X12_isSign_120_120_50 h214).trans k204_120_50)) (((kp_X12_isSign_120_129_1 h214).trans k204_129_1)) (((kp_X12_isSign_120_136_1 h214).trans k204_136_1)) (((nwv_of (fun j => ((ka_X12_isSign_120_151 h214 _).trans rfl)) ((kp_X12_isSign_120_120_50 h214).trans rfl)).trans k204_9006_0)) (((tav_of ((kp_X12_isSign_120_120_5 h214).trans rfl) ((kp_X12_isSign_120_120_3 h214).trans rfl)).trans k204_9010_0)) ((kp_X12_isSign_120_120_37 h214).trans k204_120_37) (by first | exact (hd_o t183_0) | exact (hd_o t183_0).elim (fun h1 => by omega) (fun h1 => by omega)) (by omega) (by first | exact (hd_o t183_2) | exact (hd_o t183_2).elim (fun h1 => by omega) (fun h1 => h1.elim (fun h1 => by omega) (fun h1 => by omega))) (by omega) (by omega) (by exact (hd_o t183_5).elim (fun h1 => by omega) (fun h1 => by omega)) (by exact (hd_o z214_0).elim (fun h1 => by omega) (fun h1 => by omega)) (by omega) (by omega))) ?_
                  rintro M221 _ ⟨h221, s221_120_3, s221_120_4, s221_120_5, s221_120_7, s221_120_8, s221_120_44, s221_120_50, s221_136_1, s221_9006_0, s221_9010_0, es221_120_3, bs221_120_3, es221_120_4, bs221_120_4, es221_120_5, bs221_120_5, es221_120_7, bs221_120_7, es221_120_8, bs221_120_8, es221_120_44, bs221_120_44, es221_120_50, bs221_120_50, es221_136_1, bs221_136_1, es221_9006_0, bs221_9006_0, es221_9010_0, bs221_9010_0, rfl, z221_0, z221_1, z221_2, z221_3, z221_4, z221_5, z221_6, z221_7, z221_8⟩
                  have hS := St.tr hS h221 (by decide) (by decide)
                  refine Tr.sc [] rfl ?_
                  refine Tr.goto (pc := 224) (tgt := 183) d_X12_text_224 rfl ?_
                  refine Tr.pick [0] (ls2 := [(0, (2, 120))]) rfl ?_
                  obtain ⟨w183p224_120_6, ew183p224_120_6⟩ : ∃ v, rd M221 120 6 = v := ⟨_, rfl⟩
                  have bw183p224_120_6 : (-2147483648) ≤ w183p224_120_6 ∧ w183p224_120_6 ≤ 2147483647 := by rw [← ew183p224_120_6]; exact ir_120_6 hS.1.2.1
                  exact J183 _ _ _ _ _ _ _ _ _ _ _ _ _ _ hS (by and_intros <;> omega) (by and_intros <;> omega) (by and_intros <;> omega) (by and_intros <;> omega) (by omega) (by and_intros <;> omega) (by and_intros <;> omega) (by and_intros <;> omega) (by and_intros <;> omega) (by and_intros <;> omega) (by and_intros <;> omega) (by and_intros <;> omega) (by and_intros <;> omega) ((kp_X12_closesBlock_120_120_1 h221).trans ((kp_X12_isSign_120_120_1 h214).trans k204_120_1)) ((kp_X12_closesBlock_120_120_12 h221).trans ((kp_X12_isSign_120_120_12 h214).trans k204_120_12)) ((kp_X12_closesBlock_120_120_2 h221).trans ((kp_X12_isSign_120_120_2 h214).trans k204_120_2)) es221_120_3 ((kp_X12_closesBlock_120_120_36 h221).trans ((kp_X12_isSign_120_120_36 h214).trans k204_120_36)) ((kp_X12_closesBlock_120_120_37 h221).trans ((kp_X12_isSign_120_120_37 h214).trans k204_120_37)) es221_120_4 es221_120_44 es221_120_5 es221_120_50 ew183p224_120_6 es221_120_7 es221_120_8 ((kp_X12_closesBlock_120_129_1 h221).trans ((kp_X12_isSign_120_129_1 h214).trans k204_129_1)) es221_136_1 es221_9006_0 es221_9010_0 (by first | exact (hd_o z221_0) | exact (hd_o z221_0).elim (fun h1 => by omega) (fun h1 => by omega)) (by omega) (by first | exact (hd_o z221_2) | exact (hd_o z221_2).elim (fun h1 => by omega) (fun h1 => h1.elim (fun h1 => by omega) (fun h1 => by omega))) (by omega) (by omega) (by omega) (me_lt hm183 (by exact (hd_o z221_5).elim (fun h1 => by omega) (fun h1 => by omega)) (by omega))
            refine Tr.if_ne (pc := 194) (tgt := 204) d_X12_text_194 rfl (fun c194 => ?_) (fun c194 => ?_)
            · have c194b : 1 ≤ u183_120_3 ∧ u183_120_3 ≤ 3 := by omega
              replace c194 := hd_i c194
              refine Tr.pick [0] (ls2 := [(0, (2, 120))]) rfl ?_
              exact J204 _ hS k183_120_1 k183_120_12 k183_120_2 k183_120_3 k183_120_36 k183_120_37 k183_120_4 k183_120_44 k183_120_5 k183_120_50 k183_120_6 k183_120_7 k183_120_8 k183_129_1 k183_136_1 k183_9006_0 k183_9010_0 (by omega)
            · refine Tr.aload_n (pc := 197) (i := 0) d_X12_text_197 rfl rfl ?_
              refine Tr.getf (pc := 198) d_X12_text_198 f_12_165 (by decide) (by decide) (ty_120 hS.1.1) ?_
              refine Tr.tp u183_120_50 k183_120_50 ?_
              refine Tr.if_le (pc := 201) (tgt := 234) d_X12_text_201 rfl (fun c201 => ?_) (fun c201 => ?_)
              · refine Tr.pick [0] (ls2 := [(0, (2, 120))]) rfl ?_
                exact J234 _ hS k183_120_1 k183_120_12 k183_120_2 k183_120_3 k183_120_36 k183_120_37 k183_120_4 k183_120_44 k183_120_5 k183_120_50 k183_120_6 k183_120_7 k183_120_8 k183_129_1 k183_136_1 k183_9006_0 k183_9010_0
              · refine Tr.pick [0] (ls2 := [(0, (2, 120))]) rfl ?_
                exact J204 _ hS k183_120_1 k183_120_12 k183_120_2 k183_120_3 k183_120_36 k183_120_37 k183_120_4 k183_120_44 k183_120_5 k183_120_50 k183_120_6 k183_120_7 k183_120_8 k183_129_1 k183_136_1 k183_9006_0 k183_9010_0 (by omega)
      refine Tr.if_ne (pc := 153) (tgt := 183) d_X12_text_153 rfl (fun c153 => ?_) (fun c153 => ?_)
      · have c153b : 1 ≤ u149_120_8 ∧ u149_120_8 ≤ 5 := by omega
        replace c153 := hd_i c153
        refine Tr.pick [0] (ls2 := [(0, (2, 120))]) rfl ?_
        exact J183 _ _ _ _ _ _ _ _ _ _ _ _ _ _ _ hS (by and_intros <;> omega) (by and_intros <;> omega) (by and_intros <;> omega) (by and_intros <;> omega) (by omega) (by and_intros <;> omega) (by omega) (by omega) (by omega) (by omega) (by omega) (by and_intros <;> omega) (by and_intros <;> omega) k149_120_1 k149_120_12 k149_120_2 k149_120_3 k149_120_36 k149_120_37 k149_120_4 k149_120_44 k149_120_5 k149_120_50 k149_120_6 k149_120_7 k149_120_8 k149_129_1 k149_136_1 k149_9006_0 k149_9010_0 (by first | exact (hd_o t149_0) | exact (hd_o t149_0).elim (fun h1 => by omega) (fun h1 => by omega)) (by omega) (by first | exact (hd_o t149_2) | exact (hd_o t149_2).elim (fun h1 => by omega) (fun h1 => h1.elim (fun h1 => by omega) (fun h1 => by omega))) (by omega) (by omega) (by first | exact (hd_o t149_5) | exact (hd_o t149_5).elim (fun h1 => by omega) (fun h1 => by omega)) (Nat.lt_succ_self _)
      · refine Tr.iload_n (pc := 156) (i := 1) d_X12_text_156 rfl rfl ?_
        refine Tr.if_eq (pc := 157) (tgt := 183) d_X12_text_157 rfl (fun c157 => ?_) (fun c157 => ?_)
        · refine Tr.pick [0] (ls2 := [(0, (2, 120))]) rfl ?_
          exact J183 _ _ _ _ _ _ _ _ _ _ _ _ _ _ _ hS (by and_intros <;> omega) (by and_intros <;> omega) (by and_intros <;> omega) (by and_intros <;> omega) (by omega) (by and_intros <;> omega) (by omega) (by omega) (by omega) (by omega) (by omega) (by and_intros <;> omega) (by and_intros <;> omega) k149_120_1 k149_120_12 k149_120_2 k149_120_3 k149_120_36 k149_120_37 k149_120_4 k149_120_44 k149_120_5 k149_120_50 k149_120_6 k149_120_7 k149_120_8 k149_129_1 k149_136_1 k149_9006_0 k149_9010_0 (by first | exact (hd_o t149_0) | exact (hd_o t149_0).elim (fun h1 => by omega) (fun h1 => by omega)) (by omega) (by first | exact (hd_o t149_2) | exact (hd_o t149_2).elim (fun h1 => by omega) (fun h1 => h1.elim (fun h1 => by omega) (fun h1 => by omega))) (by omega) (by omega) (by first | exact (hd_o t149_5) | exact (hd_o t149_5).elim (fun h1 => by omega) (fun h1 => by omega)) (Nat.lt_succ_self _)
        · have c157b : 1 ≤ p149_1 ∧ p149_1 ≤ 1 := by omega
          replace c157 := hd_i c157
          refine Tr.aload_n (pc := 160) (i := 0) d_X12_text_160 rfl rfl ?_
          refine Tr.getf (pc := 161) d_X12_text_161 f_12_20 (by decide) (by decide) (ty_120 hS.1.1) ?_
          refine Tr.tp u149_120_3 k149_120_3 ?_
          have J179 : ∀ (M : Mem) (q179_0 u179_120_3 u179_120_4 u179_120_5 u179_120_6 u179_120_7 u179_120_8 u179_9010_0 : Int), St Pm1 ws_X12_text_120 as_X12_text_120 M0 M → (0 ≤ q179_0 ∧ q179_0 ≤ 1) → (0 ≤ u179_120_3 ∧ u179_120_3 ≤ 3) → (0 ≤ u179_120_4 ∧ u179_120_4 ≤ 900) → (0 ≤ u179_120_5 ∧ u179_120_5 ≤ 900) → ((-2147483648) ≤ u179_120_6 ∧ u179_120_6 ≤ 2147483647) → ((-9223372036854775808) ≤ u179_120_7 ∧ u179_120_7 ≤ 9223372036854775807) → (0 ≤ u179_120_8 ∧ u179_120_8 ≤ 5) → ((-1) ≤ u179_9010_0 ∧ u179_9010_0 ≤ 1800) → rd M 120 1 = 0 → rd M 120 12 = 0 → rd M 120 2 = r2 → rd M 120 3 = u179_120_3 → rd M 120 36 = 0 → rd M 120 37 = 1 → rd M 120 4 = u179_120_4 → rd M 120 44 = 0 → rd M 120 5 = u179_120_5 → rd M 120 50 = 0 → rd M 120 6 = u179_120_6 → rd M 120 7 = u179_120_7 → rd M 120 8 = u179_120_8 → rd M 129 1 = 0 → rd M 136 1 = 0 → nwv M = v140_9006 → tav M = u179_9010_0 → (u179_120_3 = 0 ∨ u179_120_4 + 1 ≤ u179_120_5) → (u179_120_4 ≤ u179_120_5) → (u179_120_3 ≠ 1 ∨ u179_120_4 + 2 ≤ u179_120_5 ∨ u179_120_7 < 256) → (0 ≤ 0) → (0 + 0 ≤ u179_120_4) → (1 ≤ u179_120_8 ∨ 0 + v140_9006 ≤ 2 * 0) → ((u149_9010_0 ≤ u179_9010_0 ∧ q179_0 = 0) ∨ (u149_9010_0 < u179_9010_0) ∨ (1 ≤ u179_120_8 ∧ u149_9010_0 ≤ u179_9010_0)) → Tr l K 6 mX12_text 179 [(0, (2, 120))] [(0, q179_0)] M (q_X12_text_120 M0) := by
            intro M q179_0 u179_120_3 u179_120_4 u179_120_5 u179_120_6 u179_120_7 u179_120_8 u179_9010_0 hS bq179_0 bu179_120_3 bu179_120_4 bu179_120_5 bu179_120_6 bu179_120_7 bu179_120_8 bu179_9010_0 k179_120_1 k179_120_12 k179_120_2 k179_120_3 k179_120_36 k179_120_37 k179_120_4 k179_120_44 k179_120_5 k179_120_50 k179_120_6 k179_120_7 k179_120_8 k179_129_1 k179_136_1 k179_9006_0 k179_9010_0 t179_0 t179_1 t179_2 t179_3 t179_4 t179_5 t179_6
            clear k149_120_1 k149_120_12 k149_120_2 k149_120_3 k149_120_36 k149_120_37 k149_120_4 k149_120_44 k149_120_5 k149_120_50 k149_120_6 k149_120_7 k149_120_8 k149_129_1 k149_136_1 k149_9006_0 k149_9010_0
            replace t179_0 := hd_i t179_0
            replace t179_2 := hd_i t179_2
            replace t179_5 := hd_i t179_5
            replace t179_6 := hd_i t179_6
            refine Tr.istore_n (pc := 179) (i := 1) (ls2 := [(1, (0, q179_0)), (0, (2, 120))]) d_X12_text_179 rfl (by decide) rfl ?_
            refine Tr.goto (pc := 180) (tgt := 149) d_X12_text_180 rfl ?_
            refine Tr.pick [1, 0] (ls2 := [(0, (2, 120)), (1, (0, q179_0))]) rfl ?_
            exact J149 _ _ _ _ _ _ _ _ _ hS (by and_intros <;> omega) (by and_intros <;> omega) (by and_intros <;> omega) (by and_intros <;> omega) (by and_intros <;> omega) (by omega) (by and_intros <;> omega) (by and_intros <;> omega) k179_120_1 k179_120_12 k179_120_2 k179_120_3 k179_120_36 k179_120_37 k179_120_4 k179_120_44 k179_120_5 k179_120_50 k179_120_6 k179_120_7 k179_120_8 k179_129_1 k179_136_1 k179_9006_0 k179_9010_0 (by first | exact (hd_o t179_0) | exact (hd_o t179_0).elim (fun h1 => by omega) (fun h1 => by omega)) (by omega) (by first | exact (hd_o t179_2) | exact (hd_o t179_2).elim (fun h1 => by omega) (fun h1 => h1.elim (fun h1 => by omega) (fun h1 => by omega))) (by omega) (by omega) (by first | exact (hd_o t179_5) | exact (hd_o t179_5).elim (fun h1 => by omega) (fun h1 => by omega)) (me_lt hm149 (by exact (hd_o t179_6).elim (fun h1 => by omega) (fun h1 => h1.elim (fun h1 => by omega) (fun h1 => by omega))) (by omega))
          have J178 : ∀ (M : Mem) (u178_120_3 u178_120_4 u178_120_5 u178_120_6 u178_120_7 u178_120_8 u178_9010_0 : Int), St Pm1 ws_X12_text_120 as_X12_text_120 M0 M → (0 ≤ u178_120_3 ∧ u178_120_3 ≤ 3) → (0 ≤ u178_120_4 ∧ u178_120_4 ≤ 900) → (0 ≤ u178_120_5 ∧ u178_120_5 ≤ 900) → ((-2147483648) ≤ u178_120_6 ∧ u178_120_6 ≤ 2147483647) → ((-9223372036854775808) ≤ u178_120_7 ∧ u178_120_7 ≤ 9223372036854775807) → (0 ≤ u178_120_8 ∧ u178_120_8 ≤ 5) → ((-1) ≤ u178_9010_0 ∧ u178_9010_0 ≤ 1800) → rd M 120 1 = 0 → rd M 120 12 = 0 → rd M 120 2 = r2 → rd M 120 3 = u178_120_3 → rd M 120 36 = 0 → rd M 120 37 = 1 → rd M 120 4 = u178_120_4 → rd M 120 44 = 0 → rd M 120 5 = u178_120_5 → rd M 120 50 = 0 → rd M 120 6 = u178_120_6 → rd M 120 7 = u178_120_7 → rd M 120 8 = u178_120_8 → rd M 129 1 = 0 → rd M 136 1 = 0 → nwv M = v140_9006 → tav M = u178_9010_0 → (u178_120_3 = 0 ∨ u178_120_4 + 1 ≤ u178_120_5) → (u178_120_4 ≤ u178_120_5) → (u178_120_3 ≠ 1 ∨ u178_120_4 + 2 ≤ u178_120_5 ∨ u178_120_7 < 256) → (0 ≤ 0) → (0 + 0 ≤ u178_120_4) → (1 ≤ u178_120_8 ∨ 0 + v140_9006 ≤ 2 * 0) → (u149_9010_0 ≤ u178_9010_0) → Tr l K 6 mX12_text 178 [(0, (2, 120))] [] M (q_X12_text_120 M0) := by
            intro M u178_120_3 u178_120_4 u178_120_5 u178_120_6 u178_120_7 u178_120_8 u178_9010_0 hS bu178_120_3 bu178_120_4 bu178_120_5 bu178_120_6 bu178_120_7 bu178_120_8 bu178_9010_0 k178_120_1 k178_120_12 k178_120_2 k178_120_3 k178_120_36 k178_120_37 k178_120_4 k178_120_44 k178_120_5 k178_120_50 k178_120_6 k178_120_7 k178_120_8 k178_129_1 k178_136_1 k178_9006_0 k178_9010_0 t178_0 t178_1 t178_2 t178_3 t178_4 t178_5 t178_6
            clear k149_120_1 k149_120_12 k149_120_2 k149_120_3 k149_120_36 k149_120_37 k149_120_4 k149_120_44 k149_120_5 k149_120_50 k149_120_6 k149_120_7 k149_120_8 k149_129_1 k149_136_1 k149_9006_0 k149_9010_0
            replace t178_0 := hd_i t178_0
            replace t178_2 := hd_i t178_2
            replace t178_5 := hd_i t178_5
            refine Tr.iconst (pc := 178) d_X12_text_178 (by decide) ?_
            refine Tr.pick [0] (ls2 := [(0, (2, 120))]) rfl ?_
            exact J179 _ _ _ _ _ _ _ _ _ hS (by omega) (by and_intros <;> omega) (by and_intros <;> omega) (by and_intros <;> omega) (by and_intros <;> omega) (by omega) (by and_intros <;> omega) (by and_intros <;> omega) k178_120_1 k178_120_12 k178_120_2 k178_120_3 k178_120_36 k178_120_37 k178_120_4 k178_120_44 k178_120_5 k178_120_50 k178_120_6 k178_120_7 k178_120_8 k178_129_1 k178_136_1 k178_9006_0 k178_9010_0 (by first | exact (hd_o t178_0) | exact (hd_o t178_0).elim (fun h1 => by omega) (fun h1 => by omega)) (by omega) (by first | exact (hd_o t178_2) | exact (hd_o t178_2).elim (fun h1 => by omega) (fun h1 => h1.elim (fun h1 => by omega) (fun h1 => by omega))) (by omega) (by omega) (by first | exact (hd_o t178_5) | exact (hd_o t178_5).elim (fun h1 => by omega) (fun h1 => by omega)) (by omega)
          refine Tr.if_eq (pc := 164) (tgt := 178) d_X12_text_164 rfl (fun c164 => ?_) (fun c164 => ?_)
          · refine Tr.pick [0] (ls2 := [(0, (2, 120))]) rfl ?_
            exact J178 _ _ _ _ _ _ _ _ hS (by and_intros <;> omega) (by and_intros <;> omega) (by and_intros <;> omega) (by and_intros <;> omega) (by omega) (by and_intros <;> omega) (by and_intros <;> omega) k149_120_1 k149_120_12 k149_120_2 k149_120_3 k149_120_36 k149_120_37 k149_120_4 k149_120_44 k149_120_5 k149_120_50 k149_120_6 k149_120_7 k149_120_8 k149_129_1 k149_136_1 k149_9006_0 k149_9010_0 (by first | exact (hd_o t149_0) | exact (hd_o t149_0).elim (fun h1 => by omega) (fun h1 => by omega)) (by omega) (by first | exact (hd_o t149_2) | exact (hd_o t149_2).elim (fun h1 => by omega) (fun h1 => h1.elim (fun h1 => by omega) (fun h1 => by omega))) (by omega) (by omega) (by first | exact (hd_o t149_5) | exact (hd_o t149_5).elim (fun h1 => by omega) (fun h1 => by omega)) (by omega)
          · have c164b : 1 ≤ u149_120_3 ∧ u149_120_3 ≤ 3 := by omega
            replace c164 := hd_i c164
            refine Tr.aload_n (pc := 167) (i := 0) d_X12_text_167 rfl rfl ?_
            refine Tr.callV (pc := 168) (as := []) d_X12_text_168 s_12_544 ok_X12_declares rfl rfl (Nat.le_of_ble_eq_true rfl) (Nat.le_of_ble_eq_true rfl) (by decide) (ty_120 hS.1.1) ?_
            refine Tr.imp (Tr.deep (by decide) (ns_X12_declares_120 (G120_3 := u149_120_3) (G120_4 := u149_120_4) (G120_5 := u149_120_5) (G120_7 := u149_120_7) (G120_8 := u149_120_8) (G9010_0 := u149_9010_0) hS.1 (k149_120_3) (k149_120_4) (k149_120_5) (k149_120_7) (k149_120_8) (k149_9010_0) k149_120_37 (by first | exact (hd_o t149_0) | exact (hd_o t149_0).elim (fun h1 => by omega) (fun h1 => by omega)) (by omega) (by first | exact (hd_o t149_2) | exact (hd_o t149_2).elim (fun h1 => by omega) (fun h1 => h1.elim (fun h1 => by omega) (fun h1 => by omega))) (by have h1 := (hd_o c164); omega) (by omega))) ?_
            rintro M168 _ ⟨h168, s168_120_3, s168_120_4, s168_120_5, s168_120_7, s168_120_8, s168_9010_0, es168_120_3, bs168_120_3, es168_120_4, bs168_120_4, es168_120_5, bs168_120_5, es168_120_7, bs168_120_7, es168_120_8, bs168_120_8, es168_9010_0, bs168_9010_0, r168, rfl, lr168, ur168, z168_0, z168_1, z168_2, z168_3, z168_4, z168_5⟩
            have hS := St.tr hS h168 (by decide) (by decide)
            refine Tr.sc [(0, r168)] rfl ?_
            refine Tr.if_eq (pc := 171) (tgt := 178) d_X12_text_171 rfl (fun c171 => ?_) (fun c171 => ?_)
            · refine Tr.pick [0] (ls2 := [(0, (2, 120))]) rfl ?_
              obtain ⟨w178p171_120_6, ew178p171_120_6⟩ : ∃ v, rd M168 120 6 = v := ⟨_, rfl⟩
              have bw178p171_120_6 : (-2147483648) ≤ w178p171_120_6 ∧ w178p171_120_6 ≤ 2147483647 := by rw [← ew178p171_120_6]; exact ir_120_6 hS.1.2.1
              exact J178 _ _ _ _ _ _ _ _ hS (by and_intros <;> omega) (by and_intros <;> omega) (by and_intros <;> omega) (by and_intros <;> omega) (by omega) (by and_intros <;> omega) (by and_intros <;> omega) ((kp_X12_declares_120_120_1 h168).trans k149_120_1) ((kp_X12_declares_120_120_12 h168).trans k149_120_12) ((kp_X12_declares_120_120_2 h168).trans k149_120_2) es168_120_3 ((kp_X12_declares_120_120_36 h168).trans k149_120_36) ((kp_X12_declares_120_120_37 h168).trans k149_120_37) es168_120_4 ((kp_X12_declares_120_120_44 h168).trans k149_120_44) es168_120_5 ((kp_X12_declares_120_120_50 h168).trans k149_120_50) ew178p171_120_6 es168_120_7 es168_120_8 ((kp_X12_declares_120_129_1 h168).trans k149_129_1) ((kp_X12_declares_120_136_1 h168).trans k149_136_1) ((nwv_of (fun j => ((ka_X12_declares_120_151 h168 _).trans rfl)) ((kp_X12_declares_120_120_50 h168).trans rfl)).trans k149_9006_0) es168_9010_0 (by first | exact (hd_o z168_0) | exact (hd_o z168_0).elim (fun h1 => by omega) (fun h1 => by omega)) (by omega) (by first | exact (hd_o z168_2) | exact (hd_o z168_2).elim (fun h1 => by omega) (fun h1 => h1.elim (fun h1 => by omega) (fun h1 => by omega))) (by omega) (by omega) (by omega) (by omega)
            · have c171b : 1 ≤ r168 ∧ r168 ≤ 1 := by omega
              replace c171 := hd_i c171
              refine Tr.iconst (pc := 174) d_X12_text_174 (by decide) ?_
              refine Tr.goto (pc := 175) (tgt := 179) d_X12_text_175 rfl ?_
              refine Tr.pick [0] (ls2 := [(0, (2, 120))]) rfl ?_
              obtain ⟨w179p175_120_6, ew179p175_120_6⟩ : ∃ v, rd M168 120 6 = v := ⟨_, rfl⟩
              have bw179p175_120_6 : (-2147483648) ≤ w179p175_120_6 ∧ w179p175_120_6 ≤ 2147483647 := by rw [← ew179p175_120_6]; exact ir_120_6 hS.1.2.1
              exact J179 _ _ _ _ _ _ _ _ _ hS (by omega) (by and_intros <;> omega) (by and_intros <;> omega) (by and_intros <;> omega) (by and_intros <;> omega) (by omega) (by and_intros <;> omega) (by and_intros <;> omega) ((kp_X12_declares_120_120_1 h168).trans k149_120_1) ((kp_X12_declares_120_120_12 h168).trans k149_120_12) ((kp_X12_declares_120_120_2 h168).trans k149_120_2) es168_120_3 ((kp_X12_declares_120_120_36 h168).trans k149_120_36) ((kp_X12_declares_120_120_37 h168).trans k149_120_37) es168_120_4 ((kp_X12_declares_120_120_44 h168).trans k149_120_44) es168_120_5 ((kp_X12_declares_120_120_50 h168).trans k149_120_50) ew179p175_120_6 es168_120_7 es168_120_8 ((kp_X12_declares_120_129_1 h168).trans k149_129_1) ((kp_X12_declares_120_136_1 h168).trans k149_136_1) ((nwv_of (fun j => ((ka_X12_declares_120_151 h168 _).trans rfl)) ((kp_X12_declares_120_120_50 h168).trans rfl)).trans k149_9006_0) es168_9010_0 (by first | exact (hd_o z168_0) | exact (hd_o z168_0).elim (fun h1 => by omega) (fun h1 => by omega)) (by omega) (by first | exact (hd_o z168_2) | exact (hd_o z168_2).elim (fun h1 => by omega) (fun h1 => h1.elim (fun h1 => by omega) (fun h1 => by omega))) (by omega) (by omega) (by omega) (by exact (hd_o z168_5).elim (fun h1 => by omega) (fun h1 => h1.elim (fun h1 => by omega) (fun h1 => by omega)))
  refine Tr.pick [1, 0] (ls2 := [(0, (2, 120)), (1, (0, 1))]) rfl ?_
  obtain ⟨w149p148_120_6, ew149p148_120_6⟩ : ∃ v, rd M144 120 6 = v := ⟨_, rfl⟩
  have bw149p148_120_6 : (-2147483648) ≤ w149p148_120_6 ∧ w149p148_120_6 ≤ 2147483647 := by rw [← ew149p148_120_6]; exact ir_120_6 hS.1.2.1
  exact J149 _ _ _ _ _ _ _ _ _ _ hS (by omega) (by and_intros <;> omega) (by and_intros <;> omega) (by and_intros <;> omega) (by and_intros <;> omega) (by omega) (by and_intros <;> omega) (by and_intros <;> omega) ((kp_X12_next_120_120_1 h144).trans ((Wr.b w140 rfl).trans ((Wr.b w135 rfl).trans ((Wr.b w130 rfl).trans ((Wr.b w127 rfl).trans ((Wr.b w117 rfl).trans ((Wr.b w107 rfl).trans ((Wr.b w97 rfl).trans ((Wr.b w87 rfl).trans ((Wr.b w77 rfl).trans ((Wr.b w67 rfl).trans ((Wr.b w57 rfl).trans ((Wr.b w47 rfl).trans ((Wr.b w35 rfl).trans ((Wr.b w25 rfl).trans ((Wr.b w20 rfl).trans ((Wr.b w15 rfl).trans w10.1))))))))))))))))) ((kp_X12_next_120_120_12 h144).trans ((Wr.b w140 rfl).trans ((Wr.b w135 rfl).trans ((Wr.b w130 rfl).trans ((Wr.b w127 rfl).trans ((Wr.b w117 rfl).trans ((Wr.b w107 rfl).trans ((Wr.b w97 rfl).trans ((Wr.b w87 rfl).trans ((Wr.b w77 rfl).trans ((Wr.b w67 rfl).trans ((Wr.b w57 rfl).trans ((Wr.b w47 rfl).trans ((Wr.b w35 rfl).trans ((Wr.b w25 rfl).trans ((Wr.b w20 rfl).trans ((Wr.b w15 rfl).trans ((Wr.b w10 rfl).trans ((Wr.b w5 rfl).trans en_120_12))))))))))))))))))) ((kp_X12_next_120_120_2 h144).trans ((Wr.b w140 rfl).trans ((Wr.b w135 rfl).trans ((Wr.b w130 rfl).trans ((Wr.b w127 rfl).trans ((Wr.b w117 rfl).trans ((Wr.b w107 rfl).trans ((Wr.b w97 rfl).trans ((Wr.b w87 rfl).trans ((Wr.b w77 rfl).trans ((Wr.b w67 rfl).trans ((Wr.b w57 rfl).trans ((Wr.b w47 rfl).trans ((Wr.b w35 rfl).trans ((Wr.b w25 rfl).trans ((Wr.b w20 rfl).trans ((Wr.b w15 rfl).trans ((Wr.b w10 rfl).trans w5.1)))))))))))))))))) es144_120_3 ((kp_X12_next_120_120_36 h144).trans ((Wr.b w140 rfl).trans ((Wr.b w135 rfl).trans w130.1))) ((kp_X12_next_120_120_37 h144).trans ((Wr.b w140 rfl).trans ((Wr.b w135 rfl).trans ((Wr.b w130 rfl).trans ((Wr.b w127 rfl).trans ((Wr.b w117 rfl).trans ((Wr.b w107 rfl).trans ((Wr.b w97 rfl).trans ((Wr.b w87 rfl).trans ((Wr.b w77 rfl).trans ((Wr.b w67 rfl).trans ((Wr.b w57 rfl).trans ((Wr.b w47 rfl).trans w35.1))))))))))))) es144_120_4 ((kp_X12_next_120_120_44 h144).trans ((Wr.b w140 rfl).trans w135.1)) es144_120_5 ((kp_X12_next_120_120_50 h144).trans w140.1) ew149p148_120_6 es144_120_7 es144_120_8 ((kp_X12_next_120_129_1 h144).trans ((Wr.b w140 rfl).trans ((Wr.b w135 rfl).trans ((Wr.b w130 rfl).trans ((Wr.b w127 rfl).trans w117.1))))) ((kp_X12_next_120_136_1 h144).trans ((Wr.b w140 rfl).trans ((Wr.b w135 rfl).trans ((Wr.b w130 rfl).trans w127.1)))) ((nwv_of (fun j => ((ka_X12_next_120_151 h144 _).trans rfl)) ((kp_X12_next_120_120_50 h144).trans rfl)).trans ev140_9006) es144_9010_0 (by first | exact (hd_o z144_0) | exact (hd_o z144_0).elim (fun h1 => by omega) (fun h1 => by omega)) (by omega) (by first | exact (hd_o z144_2) | exact (hd_o z144_2).elim (fun h1 => by omega) (fun h1 => h1.elim (fun h1 => by omega) (fun h1 => by omega))) (by omega) (by omega) (by omega) (Nat.lt_succ_self _)
end
/-! 38w.00 -/
section
def mX12_together : MD := (12, yX12_together, cX12_together, 10, some .int)
theorem d_X12_together_0 : decode mX12_together.2.2.1 0 = .ok (.aload_n 0, 1) := by decide +kernel
theorem d_X12_together_1 : decode mX12_together.2.2.1 1 = .ok (.iload_n 1, 1) := by decide +kernel
theorem d_X12_together_2 : decode mX12_together.2.2.1 2 = .ok (.invokevirtual 555, 3) := by decide +kernel
theorem d_X12_together_5 : decode mX12_together.2.2.1 5 = .ok (.ifCond .eq 10, 3) := by decide +kernel
theorem d_X12_together_15 : decode mX12_together.2.2.1 15 = .ok (.iconst (-1), 1) := by decide +kernel
theorem d_X12_together_16 : decode mX12_together.2.2.1 16 = .ok (.ireturn, 1) := by decide +kernel
theorem d_X12_together_8 : decode mX12_together.2.2.1 8 = .ok (.aload_n 0, 1) := by decide +kernel
theorem d_X12_together_9 : decode mX12_together.2.2.1 9 = .ok (.getfield 354, 3) := by decide +kernel
theorem d_X12_together_12 : decode mX12_together.2.2.1 12 = .ok (.ifCond .ne 5, 3) := by decide +kernel
theorem d_X12_together_17 : decode mX12_together.2.2.1 17 = .ok (.iconst 0, 1) := by decide +kernel
theorem d_X12_together_18 : decode mX12_together.2.2.1 18 = .ok (.istore_n 2, 1) := by decide +kernel
theorem d_X12_together_19 : decode mX12_together.2.2.1 19 = .ok (.iload_n 2, 1) := by decide +kernel
theorem d_X12_together_20 : decode mX12_together.2.2.1 20 = .ok (.bipush 6, 2) := by decide +kernel
theorem d_X12_together_22 : decode mX12_together.2.2.1 22 = .ok (.if_icmp .ge 16, 3) := by decide +kernel
theorem d_X12_together_25 : decode mX12_together.2.2.1 25 = .ok (.aload_n 0, 1) := by decide +kernel
theorem d_X12_together_26 : decode mX12_together.2.2.1 26 = .ok (.getfield 372, 3) := by decide +kernel
theorem d_X12_together_29 : decode mX12_together.2.2.1 29 = .ok (.iload_n 2, 1) := by decide +kernel
theorem d_X12_together_30 : decode mX12_together.2.2.1 30 = .ok (.iconst 0, 1) := by decide +kernel
theorem d_X12_together_31 : decode mX12_together.2.2.1 31 = .ok (.iastore, 1) := by decide +kernel
theorem d_X12_together_32 : decode mX12_together.2.2.1 32 = .ok (.iinc 2 1, 3) := by decide +kernel
theorem d_X12_together_35 : decode mX12_together.2.2.1 35 = .ok (.goto (-16), 3) := by decide +kernel
theorem d_X12_together_38 : decode mX12_together.2.2.1 38 = .ok (.ldc2_w 686, 3) := by decide +kernel
theorem d_X12_together_41 : decode mX12_together.2.2.1 41 = .ok (.lstore_n 2, 1) := by decide +kernel
theorem d_X12_together_42 : decode mX12_together.2.2.1 42 = .ok (.iconst 0, 1) := by decide +kernel
theorem d_X12_together_43 : decode mX12_together.2.2.1 43 = .ok (.istore 4, 2) := by decide +kernel
theorem d_X12_together_45 : decode mX12_together.2.2.1 45 = .ok (.iconst 1, 1) := by decide +kernel
theorem d_X12_together_46 : decode mX12_together.2.2.1 46 = .ok (.istore 5, 2) := by decide +kernel
theorem d_X12_together_48 : decode mX12_together.2.2.1 48 = .ok (.iload 5, 2) := by decide +kernel
theorem d_X12_together_50 : decode mX12_together.2.2.1 50 = .ok (.ifCond .eq 186, 3) := by decide +kernel
theorem d_X12_together_53 : decode mX12_together.2.2.1 53 = .ok (.aload_n 0, 1) := by decide +kernel
theorem d_X12_together_54 : decode mX12_together.2.2.1 54 = .ok (.iload_n 1, 1) := by decide +kernel
theorem d_X12_together_55 : decode mX12_together.2.2.1 55 = .ok (.invokevirtual 689, 3) := by decide +kernel
def mX12_asksCost : MD := (12, yX12_asksCost, cX12_asksCost, 5, some .long)
theorem sel_X12_asksCost : Cond.instanceMethod mX12_asksCost.2.1 ∈ tblG ∧ Cond.selects mX12_asksCost.2.1.cls mX12_asksCost.2.1 mX12_asksCost.2.1 ∈ tblG := ⟨tblG_in (inT10 (List.mem_of_getElem? (i := 20) rfl)) rfl, tblG_in (inP9 (q := (mX12_asksCost.2.1, 121)) (List.mem_of_getElem? (i := 6) rfl)) rfl⟩
theorem s_12_689 : e_siteV 12 689 mX12_asksCost 12 := ⟨tblG_in (inT10 (List.mem_of_getElem? (i := 18) rfl)) rfl, sel_X12_asksCost.1, sel_X12_asksCost.2, rfl⟩
theorem d_X12_asksCost_0 : decode mX12_asksCost.2.2.1 0 = .ok (.iconst 0, 1) := by decide +kernel
theorem d_X12_asksCost_1 : decode mX12_asksCost.2.2.1 1 = .ok (.istore_n 2, 1) := by decide +kernel
theorem d_X12_asksCost_2 : decode mX12_asksCost.2.2.1 2 = .ok (.iload_n 2, 1) := by decide +kernel
theorem d_X12_asksCost_3 : decode mX12_asksCost.2.2.1 3 = .ok (.sipush 300, 3) := by decide +kernel
theorem d_X12_asksCost_6 : decode mX12_asksCost.2.2.1 6 = .ok (.if_icmp .ge 16, 3) := by decide +kernel
theorem d_X12_asksCost_9 : decode mX12_asksCost.2.2.1 9 = .ok (.aload_n 0, 1) := by decide +kernel
theorem d_X12_asksCost_10 : decode mX12_asksCost.2.2.1 10 = .ok (.getfield 321, 3) := by decide +kernel
theorem d_X12_asksCost_13 : decode mX12_asksCost.2.2.1 13 = .ok (.iload_n 2, 1) := by decide +kernel
theorem d_X12_asksCost_14 : decode mX12_asksCost.2.2.1 14 = .ok (.iconst 0, 1) := by decide +kernel
theorem d_X12_asksCost_15 : decode mX12_asksCost.2.2.1 15 = .ok (.bastore, 1) := by decide +kernel
theorem d_X12_asksCost_16 : decode mX12_asksCost.2.2.1 16 = .ok (.iinc 2 1, 3) := by decide +kernel
theorem d_X12_asksCost_19 : decode mX12_asksCost.2.2.1 19 = .ok (.goto (-17), 3) := by decide +kernel
theorem d_X12_asksCost_22 : decode mX12_asksCost.2.2.1 22 = .ok (.iconst 0, 1) := by decide +kernel
theorem d_X12_asksCost_23 : decode mX12_asksCost.2.2.1 23 = .ok (.istore_n 2, 1) := by decide +kernel
theorem d_X12_asksCost_24 : decode mX12_asksCost.2.2.1 24 = .ok (.iload_n 2, 1) := by decide +kernel
theorem d_X12_asksCost_25 : decode mX12_asksCost.2.2.1 25 = .ok (.aload_n 0, 1) := by decide +kernel
theorem d_X12_asksCost_26 : decode mX12_asksCost.2.2.1 26 = .ok (.getfield 354, 3) := by decide +kernel
theorem d_X12_asksCost_29 : decode mX12_asksCost.2.2.1 29 = .ok (.if_icmp .ge 71, 3) := by decide +kernel
theorem d_X12_asksCost_100 : decode mX12_asksCost.2.2.1 100 = .ok (.aload_n 0, 1) := by decide +kernel
theorem d_X12_asksCost_101 : decode mX12_asksCost.2.2.1 101 = .ok (.iload_n 1, 1) := by decide +kernel
theorem d_X12_asksCost_102 : decode mX12_asksCost.2.2.1 102 = .ok (.iconst 0, 1) := by decide +kernel
theorem d_X12_asksCost_103 : decode mX12_asksCost.2.2.1 103 = .ok (.sipush 300, 3) := by decide +kernel
theorem d_X12_asksCost_106 : decode mX12_asksCost.2.2.1 106 = .ok (.invokevirtual 665, 3) := by decide +kernel
def mX12_rows : MD := (12, yX12_rows, cX12_rows, 7, some .long)
theorem sel_X12_rows : Cond.instanceMethod mX12_rows.2.1 ∈ tblG ∧ Cond.selects mX12_rows.2.1.cls mX12_rows.2.1 mX12_rows.2.1 ∈ tblG := ⟨tblG_in (inT9 (List.mem_of_getElem? (i := 208) rfl)) rfl, tblG_in (inP9 (q := (mX12_rows.2.1, 121)) (List.mem_of_getElem? (i := 3) rfl)) rfl⟩
theorem s_12_665 : e_siteV 12 665 mX12_rows 12 := ⟨tblG_in (inT9 (List.mem_of_getElem? (i := 206) rfl)) rfl, sel_X12_rows.1, sel_X12_rows.2, rfl⟩
theorem d_X12_rows_0 : decode mX12_rows.2.2.1 0 = .ok (.lconst 0, 1) := by decide +kernel
theorem d_X12_rows_1 : decode mX12_rows.2.2.1 1 = .ok (.lstore 4, 2) := by decide +kernel
theorem d_X12_rows_3 : decode mX12_rows.2.2.1 3 = .ok (.iload_n 2, 1) := by decide +kernel
theorem d_X12_rows_4 : decode mX12_rows.2.2.1 4 = .ok (.istore 6, 2) := by decide +kernel
theorem d_X12_rows_6 : decode mX12_rows.2.2.1 6 = .ok (.iload 6, 2) := by decide +kernel
theorem d_X12_rows_8 : decode mX12_rows.2.2.1 8 = .ok (.iload_n 3, 1) := by decide +kernel
theorem d_X12_rows_9 : decode mX12_rows.2.2.1 9 = .ok (.if_icmp .ge 71, 3) := by decide +kernel
theorem d_X12_rows_80 : decode mX12_rows.2.2.1 80 = .ok (.lload 4, 2) := by decide +kernel
theorem d_X12_rows_82 : decode mX12_rows.2.2.1 82 = .ok (.lreturn, 1) := by decide +kernel
theorem d_X12_rows_12 : decode mX12_rows.2.2.1 12 = .ok (.aload_n 0, 1) := by decide +kernel
theorem d_X12_rows_13 : decode mX12_rows.2.2.1 13 = .ok (.getfield 321, 3) := by decide +kernel
theorem d_X12_rows_16 : decode mX12_rows.2.2.1 16 = .ok (.iload 6, 2) := by decide +kernel
theorem d_X12_rows_18 : decode mX12_rows.2.2.1 18 = .ok (.baload, 1) := by decide +kernel
theorem d_X12_rows_19 : decode mX12_rows.2.2.1 19 = .ok (.ifCond .ne 6, 3) := by decide +kernel
theorem d_X12_rows_25 : decode mX12_rows.2.2.1 25 = .ok (.lload 4, 2) := by decide +kernel
theorem d_X12_rows_27 : decode mX12_rows.2.2.1 27 = .ok (.aload_n 0, 1) := by decide +kernel
theorem d_X12_rows_28 : decode mX12_rows.2.2.1 28 = .ok (.iload_n 1, 1) := by decide +kernel
theorem d_X12_rows_29 : decode mX12_rows.2.2.1 29 = .ok (.iconst 3, 1) := by decide +kernel
theorem d_X12_rows_30 : decode mX12_rows.2.2.1 30 = .ok (.invokevirtual 565, 3) := by decide +kernel
theorem d_X12_rows_33 : decode mX12_rows.2.2.1 33 = .ok (.i2l, 1) := by decide +kernel
theorem d_X12_rows_34 : decode mX12_rows.2.2.1 34 = .ok (.ladd, 1) := by decide +kernel
theorem d_X12_rows_35 : decode mX12_rows.2.2.1 35 = .ok (.lstore 4, 2) := by decide +kernel
theorem d_X12_rows_37 : decode mX12_rows.2.2.1 37 = .ok (.iload 6, 2) := by decide +kernel
theorem d_X12_rows_39 : decode mX12_rows.2.2.1 39 = .ok (.iload_n 2, 1) := by decide +kernel
theorem d_X12_rows_40 : decode mX12_rows.2.2.1 40 = .ok (.if_icmp .eq 15, 3) := by decide +kernel
theorem d_X12_rows_22 : decode mX12_rows.2.2.1 22 = .ok (.goto 52, 3) := by decide +kernel
theorem d_X12_rows_55 : decode mX12_rows.2.2.1 55 = .ok (.lload 4, 2) := by decide +kernel
theorem d_X12_rows_57 : decode mX12_rows.2.2.1 57 = .ok (.aload_n 0, 1) := by decide +kernel
theorem d_X12_rows_58 : decode mX12_rows.2.2.1 58 = .ok (.iload_n 1, 1) := by decide +kernel
theorem d_X12_rows_59 : decode mX12_rows.2.2.1 59 = .ok (.invokevirtual 584, 3) := by decide +kernel
theorem d_X12_rows_62 : decode mX12_rows.2.2.1 62 = .ok (.i2l, 1) := by decide +kernel
theorem d_X12_rows_63 : decode mX12_rows.2.2.1 63 = .ok (.aload_n 0, 1) := by decide +kernel
theorem d_X12_rows_64 : decode mX12_rows.2.2.1 64 = .ok (.iload_n 1, 1) := by decide +kernel
theorem d_X12_rows_65 : decode mX12_rows.2.2.1 65 = .ok (.iconst 2, 1) := by decide +kernel
theorem d_X12_rows_66 : decode mX12_rows.2.2.1 66 = .ok (.invokevirtual 565, 3) := by decide +kernel
theorem d_X12_rows_69 : decode mX12_rows.2.2.1 69 = .ok (.i2l, 1) := by decide +kernel
theorem d_X12_rows_70 : decode mX12_rows.2.2.1 70 = .ok (.lmul, 1) := by decide +kernel
theorem d_X12_rows_71 : decode mX12_rows.2.2.1 71 = .ok (.ladd, 1) := by decide +kernel
theorem d_X12_rows_72 : decode mX12_rows.2.2.1 72 = .ok (.lstore 4, 2) := by decide +kernel
theorem d_X12_rows_74 : decode mX12_rows.2.2.1 74 = .ok (.iinc 6 1, 3) := by decide +kernel
theorem d_X12_rows_77 : decode mX12_rows.2.2.1 77 = .ok (.goto (-71), 3) := by decide +kernel
theorem d_X12_rows_43 : decode mX12_rows.2.2.1 43 = .ok (.aload_n 0, 1) := by decide +kernel
theorem d_X12_rows_44 : decode mX12_rows.2.2.1 44 = .ok (.getfield 321, 3) := by decide +kernel
theorem d_X12_rows_47 : decode mX12_rows.2.2.1 47 = .ok (.iload 6, 2) := by decide +kernel
theorem d_X12_rows_49 : decode mX12_rows.2.2.1 49 = .ok (.iconst 1, 1) := by decide +kernel
theorem d_X12_rows_50 : decode mX12_rows.2.2.1 50 = .ok (.isub, 1) := by decide +kernel
theorem d_X12_rows_51 : decode mX12_rows.2.2.1 51 = .ok (.baload, 1) := by decide +kernel
theorem d_X12_rows_52 : decode mX12_rows.2.2.1 52 = .ok (.ifCond .ne 22, 3) := by decide +kernel
theorem ok_X12_rows : e_m mX12_rows 3 := ⟨tblG_in (inT9 (List.mem_of_getElem? (i := 209) rfl)) rfl, plainFor_of_name (by decide), rfl, ini_12, by decide +kernel, by decide⟩
theorem d_X12_asksCost_109 : decode mX12_asksCost.2.2.1 109 = .ok (.lreturn, 1) := by decide +kernel
theorem d_X12_asksCost_32 : decode mX12_asksCost.2.2.1 32 = .ok (.aload_n 0, 1) := by decide +kernel
theorem d_X12_asksCost_33 : decode mX12_asksCost.2.2.1 33 = .ok (.getfield 357, 3) := by decide +kernel
theorem d_X12_asksCost_36 : decode mX12_asksCost.2.2.1 36 = .ok (.iload_n 2, 1) := by decide +kernel
theorem d_X12_asksCost_37 : decode mX12_asksCost.2.2.1 37 = .ok (.iaload, 1) := by decide +kernel
theorem d_X12_asksCost_38 : decode mX12_asksCost.2.2.1 38 = .ok (.aload_n 0, 1) := by decide +kernel
theorem d_X12_asksCost_39 : decode mX12_asksCost.2.2.1 39 = .ok (.getfield 372, 3) := by decide +kernel
theorem d_X12_asksCost_42 : decode mX12_asksCost.2.2.1 42 = .ok (.iload_n 2, 1) := by decide +kernel
theorem d_X12_asksCost_43 : decode mX12_asksCost.2.2.1 43 = .ok (.iaload, 1) := by decide +kernel
theorem d_X12_asksCost_44 : decode mX12_asksCost.2.2.1 44 = .ok (.iadd, 1) := by decide +kernel
theorem d_X12_asksCost_45 : decode mX12_asksCost.2.2.1 45 = .ok (.aload_n 0, 1) := by decide +kernel
theorem d_X12_asksCost_46 : decode mX12_asksCost.2.2.1 46 = .ok (.getfield 360, 3) := by decide +kernel
theorem d_X12_asksCost_49 : decode mX12_asksCost.2.2.1 49 = .ok (.iload_n 2, 1) := by decide +kernel
theorem d_X12_asksCost_50 : decode mX12_asksCost.2.2.1 50 = .ok (.iaload, 1) := by decide +kernel
theorem d_X12_asksCost_51 : decode mX12_asksCost.2.2.1 51 = .ok (.iadd, 1) := by decide +kernel
theorem d_X12_asksCost_52 : decode mX12_asksCost.2.2.1 52 = .ok (.aload_n 0, 1) := by decide +kernel
theorem d_X12_asksCost_53 : decode mX12_asksCost.2.2.1 53 = .ok (.iload_n 1, 1) := by decide +kernel
theorem d_X12_asksCost_54 : decode mX12_asksCost.2.2.1 54 = .ok (.invokevirtual 591, 3) := by decide +kernel
theorem d_X12_asksCost_57 : decode mX12_asksCost.2.2.1 57 = .ok (.iadd, 1) := by decide +kernel
theorem d_X12_asksCost_58 : decode mX12_asksCost.2.2.1 58 = .ok (.istore_n 3, 1) := by decide +kernel
theorem d_X12_asksCost_59 : decode mX12_asksCost.2.2.1 59 = .ok (.aload_n 0, 1) := by decide +kernel
theorem d_X12_asksCost_60 : decode mX12_asksCost.2.2.1 60 = .ok (.getfield 357, 3) := by decide +kernel
theorem d_X12_asksCost_63 : decode mX12_asksCost.2.2.1 63 = .ok (.iload_n 2, 1) := by decide +kernel
theorem d_X12_asksCost_64 : decode mX12_asksCost.2.2.1 64 = .ok (.iaload, 1) := by decide +kernel
theorem d_X12_asksCost_65 : decode mX12_asksCost.2.2.1 65 = .ok (.aload_n 0, 1) := by decide +kernel
theorem d_X12_asksCost_66 : decode mX12_asksCost.2.2.1 66 = .ok (.getfield 372, 3) := by decide +kernel
theorem d_X12_asksCost_69 : decode mX12_asksCost.2.2.1 69 = .ok (.iload_n 2, 1) := by decide +kernel
theorem d_X12_asksCost_70 : decode mX12_asksCost.2.2.1 70 = .ok (.iaload, 1) := by decide +kernel
theorem d_X12_asksCost_71 : decode mX12_asksCost.2.2.1 71 = .ok (.iadd, 1) := by decide +kernel
theorem d_X12_asksCost_72 : decode mX12_asksCost.2.2.1 72 = .ok (.istore 4, 2) := by decide +kernel
theorem d_X12_asksCost_74 : decode mX12_asksCost.2.2.1 74 = .ok (.iload 4, 2) := by decide +kernel
theorem d_X12_asksCost_76 : decode mX12_asksCost.2.2.1 76 = .ok (.iload_n 3, 1) := by decide +kernel
theorem d_X12_asksCost_77 : decode mX12_asksCost.2.2.1 77 = .ok (.if_icmp .ge 17, 3) := by decide +kernel
theorem d_X12_asksCost_94 : decode mX12_asksCost.2.2.1 94 = .ok (.iinc 2 1, 3) := by decide +kernel
theorem d_X12_asksCost_97 : decode mX12_asksCost.2.2.1 97 = .ok (.goto (-73), 3) := by decide +kernel
theorem d_X12_asksCost_80 : decode mX12_asksCost.2.2.1 80 = .ok (.aload_n 0, 1) := by decide +kernel
theorem d_X12_asksCost_81 : decode mX12_asksCost.2.2.1 81 = .ok (.getfield 321, 3) := by decide +kernel
theorem d_X12_asksCost_84 : decode mX12_asksCost.2.2.1 84 = .ok (.iload 4, 2) := by decide +kernel
theorem d_X12_asksCost_86 : decode mX12_asksCost.2.2.1 86 = .ok (.iconst 1, 1) := by decide +kernel
theorem d_X12_asksCost_87 : decode mX12_asksCost.2.2.1 87 = .ok (.bastore, 1) := by decide +kernel
theorem d_X12_asksCost_88 : decode mX12_asksCost.2.2.1 88 = .ok (.iinc 4 1, 3) := by decide +kernel
theorem d_X12_asksCost_91 : decode mX12_asksCost.2.2.1 91 = .ok (.goto (-17), 3) := by decide +kernel
theorem ok_X12_asksCost : e_m mX12_asksCost 1 := ⟨tblG_in (inT10 (List.mem_of_getElem? (i := 21) rfl)) rfl, plainFor_of_name (by decide), rfl, ini_12, by decide +kernel, by decide⟩
theorem d_X12_together_58 : decode mX12_together.2.2.1 58 = .ok (.lstore 6, 2) := by decide +kernel
theorem d_X12_together_60 : decode mX12_together.2.2.1 60 = .ok (.iconst 0, 1) := by decide +kernel
theorem d_X12_together_61 : decode mX12_together.2.2.1 61 = .ok (.istore 8, 2) := by decide +kernel
theorem d_X12_together_63 : decode mX12_together.2.2.1 63 = .ok (.iconst 0, 1) := by decide +kernel
theorem d_X12_together_64 : decode mX12_together.2.2.1 64 = .ok (.istore 9, 2) := by decide +kernel
theorem d_X12_together_66 : decode mX12_together.2.2.1 66 = .ok (.iload 9, 2) := by decide +kernel
theorem d_X12_together_68 : decode mX12_together.2.2.1 68 = .ok (.aload_n 0, 1) := by decide +kernel
theorem d_X12_together_69 : decode mX12_together.2.2.1 69 = .ok (.getfield 354, 3) := by decide +kernel
theorem d_X12_together_72 : decode mX12_together.2.2.1 72 = .ok (.if_icmp .ge 21, 3) := by decide +kernel
theorem d_X12_together_75 : decode mX12_together.2.2.1 75 = .ok (.iload 8, 2) := by decide +kernel
theorem d_X12_together_77 : decode mX12_together.2.2.1 77 = .ok (.aload_n 0, 1) := by decide +kernel
theorem d_X12_together_78 : decode mX12_together.2.2.1 78 = .ok (.getfield 372, 3) := by decide +kernel
theorem d_X12_together_81 : decode mX12_together.2.2.1 81 = .ok (.iload 9, 2) := by decide +kernel
theorem d_X12_together_83 : decode mX12_together.2.2.1 83 = .ok (.iaload, 1) := by decide +kernel
theorem d_X12_together_84 : decode mX12_together.2.2.1 84 = .ok (.iadd, 1) := by decide +kernel
theorem d_X12_together_85 : decode mX12_together.2.2.1 85 = .ok (.istore 8, 2) := by decide +kernel
theorem d_X12_together_87 : decode mX12_together.2.2.1 87 = .ok (.iinc 9 1, 3) := by decide +kernel
theorem d_X12_together_90 : decode mX12_together.2.2.1 90 = .ok (.goto (-24), 3) := by decide +kernel
theorem d_X12_together_93 : decode mX12_together.2.2.1 93 = .ok (.lload_n 2, 1) := by decide +kernel
theorem d_X12_together_94 : decode mX12_together.2.2.1 94 = .ok (.ldc2_w 686, 3) := by decide +kernel
theorem d_X12_together_97 : decode mX12_together.2.2.1 97 = .ok (.lcmp, 1) := by decide +kernel
theorem d_X12_together_98 : decode mX12_together.2.2.1 98 = .ok (.ifCond .eq 24, 3) := by decide +kernel
theorem d_X12_together_101 : decode mX12_together.2.2.1 101 = .ok (.lload 6, 2) := by decide +kernel
theorem d_X12_together_103 : decode mX12_together.2.2.1 103 = .ok (.lload_n 2, 1) := by decide +kernel
theorem d_X12_together_104 : decode mX12_together.2.2.1 104 = .ok (.lcmp, 1) := by decide +kernel
theorem d_X12_together_105 : decode mX12_together.2.2.1 105 = .ok (.ifCond .lt 17, 3) := by decide +kernel
theorem d_X12_together_108 : decode mX12_together.2.2.1 108 = .ok (.lload 6, 2) := by decide +kernel
theorem d_X12_together_110 : decode mX12_together.2.2.1 110 = .ok (.lload_n 2, 1) := by decide +kernel
theorem d_X12_together_111 : decode mX12_together.2.2.1 111 = .ok (.lcmp, 1) := by decide +kernel
theorem d_X12_together_112 : decode mX12_together.2.2.1 112 = .ok (.ifCond .ne 49, 3) := by decide +kernel
theorem d_X12_together_115 : decode mX12_together.2.2.1 115 = .ok (.iload 8, 2) := by decide +kernel
theorem d_X12_together_117 : decode mX12_together.2.2.1 117 = .ok (.iload 4, 2) := by decide +kernel
theorem d_X12_together_119 : decode mX12_together.2.2.1 119 = .ok (.if_icmp .ge 42, 3) := by decide +kernel
theorem d_X12_together_122 : decode mX12_together.2.2.1 122 = .ok (.lload 6, 2) := by decide +kernel
theorem d_X12_together_124 : decode mX12_together.2.2.1 124 = .ok (.lstore_n 2, 1) := by decide +kernel
theorem d_X12_together_125 : decode mX12_together.2.2.1 125 = .ok (.iload 8, 2) := by decide +kernel
theorem d_X12_together_127 : decode mX12_together.2.2.1 127 = .ok (.istore 4, 2) := by decide +kernel
theorem d_X12_together_129 : decode mX12_together.2.2.1 129 = .ok (.iconst 0, 1) := by decide +kernel
theorem d_X12_together_130 : decode mX12_together.2.2.1 130 = .ok (.istore 9, 2) := by decide +kernel
theorem d_X12_together_132 : decode mX12_together.2.2.1 132 = .ok (.iload 9, 2) := by decide +kernel
theorem d_X12_together_134 : decode mX12_together.2.2.1 134 = .ok (.aload_n 0, 1) := by decide +kernel
theorem d_X12_together_135 : decode mX12_together.2.2.1 135 = .ok (.getfield 354, 3) := by decide +kernel
theorem d_X12_together_138 : decode mX12_together.2.2.1 138 = .ok (.if_icmp .ge 23, 3) := by decide +kernel
theorem d_X12_together_141 : decode mX12_together.2.2.1 141 = .ok (.aload_n 0, 1) := by decide +kernel
theorem d_X12_together_142 : decode mX12_together.2.2.1 142 = .ok (.getfield 369, 3) := by decide +kernel
theorem d_X12_together_145 : decode mX12_together.2.2.1 145 = .ok (.iload 9, 2) := by decide +kernel
theorem d_X12_together_147 : decode mX12_together.2.2.1 147 = .ok (.aload_n 0, 1) := by decide +kernel
theorem d_X12_together_148 : decode mX12_together.2.2.1 148 = .ok (.getfield 372, 3) := by decide +kernel
theorem d_X12_together_151 : decode mX12_together.2.2.1 151 = .ok (.iload 9, 2) := by decide +kernel
theorem d_X12_together_153 : decode mX12_together.2.2.1 153 = .ok (.iaload, 1) := by decide +kernel
theorem d_X12_together_154 : decode mX12_together.2.2.1 154 = .ok (.iastore, 1) := by decide +kernel
theorem d_X12_together_155 : decode mX12_together.2.2.1 155 = .ok (.iinc 9 1, 3) := by decide +kernel
theorem d_X12_together_158 : decode mX12_together.2.2.1 158 = .ok (.goto (-26), 3) := by decide +kernel
theorem d_X12_together_161 : decode mX12_together.2.2.1 161 = .ok (.aload_n 0, 1) := by decide +kernel
theorem d_X12_together_162 : decode mX12_together.2.2.1 162 = .ok (.getfield 354, 3) := by decide +kernel
theorem d_X12_together_165 : decode mX12_together.2.2.1 165 = .ok (.iconst 1, 1) := by decide +kernel
theorem d_X12_together_166 : decode mX12_together.2.2.1 166 = .ok (.isub, 1) := by decide +kernel
theorem d_X12_together_167 : decode mX12_together.2.2.1 167 = .ok (.istore 9, 2) := by decide +kernel
theorem d_X12_together_169 : decode mX12_together.2.2.1 169 = .ok (.iload 9, 2) := by decide +kernel
theorem d_X12_together_171 : decode mX12_together.2.2.1 171 = .ok (.ifCond .lt 34, 3) := by decide +kernel
theorem d_X12_together_174 : decode mX12_together.2.2.1 174 = .ok (.aload_n 0, 1) := by decide +kernel
theorem d_X12_together_175 : decode mX12_together.2.2.1 175 = .ok (.getfield 372, 3) := by decide +kernel
theorem d_X12_together_178 : decode mX12_together.2.2.1 178 = .ok (.iload 9, 2) := by decide +kernel
theorem d_X12_together_180 : decode mX12_together.2.2.1 180 = .ok (.iaload, 1) := by decide +kernel
theorem d_X12_together_181 : decode mX12_together.2.2.1 181 = .ok (.aload_n 0, 1) := by decide +kernel
theorem d_X12_together_182 : decode mX12_together.2.2.1 182 = .ok (.getfield 363, 3) := by decide +kernel
theorem d_X12_together_185 : decode mX12_together.2.2.1 185 = .ok (.iload 9, 2) := by decide +kernel
theorem d_X12_together_187 : decode mX12_together.2.2.1 187 = .ok (.iaload, 1) := by decide +kernel
theorem d_X12_together_188 : decode mX12_together.2.2.1 188 = .ok (.if_icmp .ne 17, 3) := by decide +kernel
theorem d_X12_together_191 : decode mX12_together.2.2.1 191 = .ok (.aload_n 0, 1) := by decide +kernel
theorem d_X12_together_192 : decode mX12_together.2.2.1 192 = .ok (.getfield 372, 3) := by decide +kernel
theorem d_X12_together_195 : decode mX12_together.2.2.1 195 = .ok (.iload 9, 2) := by decide +kernel
theorem d_X12_together_197 : decode mX12_together.2.2.1 197 = .ok (.iconst 0, 1) := by decide +kernel
theorem d_X12_together_198 : decode mX12_together.2.2.1 198 = .ok (.iastore, 1) := by decide +kernel
theorem d_X12_together_199 : decode mX12_together.2.2.1 199 = .ok (.iinc 9 (-1), 3) := by decide +kernel
theorem d_X12_together_202 : decode mX12_together.2.2.1 202 = .ok (.goto (-33), 3) := by decide +kernel
end
/-! 38w.01 -/
section
theorem d_X12_together_205 : decode mX12_together.2.2.1 205 = .ok (.iload 9, 2) := by decide +kernel
theorem d_X12_together_207 : decode mX12_together.2.2.1 207 = .ok (.ifCond .lt 7, 3) := by decide +kernel
theorem d_X12_together_214 : decode mX12_together.2.2.1 214 = .ok (.iconst 0, 1) := by decide +kernel
theorem d_X12_together_210 : decode mX12_together.2.2.1 210 = .ok (.iconst 1, 1) := by decide +kernel
theorem d_X12_together_211 : decode mX12_together.2.2.1 211 = .ok (.goto 4, 3) := by decide +kernel
theorem d_X12_together_215 : decode mX12_together.2.2.1 215 = .ok (.istore 5, 2) := by decide +kernel
theorem d_X12_together_217 : decode mX12_together.2.2.1 217 = .ok (.iload 5, 2) := by decide +kernel
theorem d_X12_together_219 : decode mX12_together.2.2.1 219 = .ok (.ifCond .eq 14, 3) := by decide +kernel
theorem d_X12_together_222 : decode mX12_together.2.2.1 222 = .ok (.aload_n 0, 1) := by decide +kernel
theorem d_X12_together_223 : decode mX12_together.2.2.1 223 = .ok (.getfield 372, 3) := by decide +kernel
theorem d_X12_together_226 : decode mX12_together.2.2.1 226 = .ok (.iload 9, 2) := by decide +kernel
theorem d_X12_together_228 : decode mX12_together.2.2.1 228 = .ok (.dup2, 1) := by decide +kernel
theorem d_X12_together_229 : decode mX12_together.2.2.1 229 = .ok (.iaload, 1) := by decide +kernel
theorem d_X12_together_230 : decode mX12_together.2.2.1 230 = .ok (.iconst 1, 1) := by decide +kernel
theorem d_X12_together_231 : decode mX12_together.2.2.1 231 = .ok (.iadd, 1) := by decide +kernel
theorem d_X12_together_232 : decode mX12_together.2.2.1 232 = .ok (.iastore, 1) := by decide +kernel
theorem d_X12_together_233 : decode mX12_together.2.2.1 233 = .ok (.goto (-185), 3) := by decide +kernel
theorem d_X12_together_236 : decode mX12_together.2.2.1 236 = .ok (.aload_n 0, 1) := by decide +kernel
theorem d_X12_together_237 : decode mX12_together.2.2.1 237 = .ok (.aload_n 0, 1) := by decide +kernel
theorem d_X12_together_238 : decode mX12_together.2.2.1 238 = .ok (.getfield 354, 3) := by decide +kernel
theorem d_X12_together_241 : decode mX12_together.2.2.1 241 = .ok (.putfield 366, 3) := by decide +kernel
theorem d_X12_together_244 : decode mX12_together.2.2.1 244 = .ok (.lload_n 2, 1) := by decide +kernel
theorem d_X12_together_245 : decode mX12_together.2.2.1 245 = .ok (.l2i, 1) := by decide +kernel
theorem d_X12_together_246 : decode mX12_together.2.2.1 246 = .ok (.ireturn, 1) := by decide +kernel
def mX12_never : MD := (12, yX12_never, cX12_never, 9, some .int)
theorem d_X12_never_0 : decode mX12_never.2.2.1 0 = .ok (.aload_n 0, 1) := by decide +kernel
theorem d_X12_never_1 : decode mX12_never.2.2.1 1 = .ok (.getfield 94, 3) := by decide +kernel
theorem d_X12_never_4 : decode mX12_never.2.2.1 4 = .ok (.aload_n 0, 1) := by decide +kernel
theorem d_X12_never_5 : decode mX12_never.2.2.1 5 = .ok (.getfield 48, 3) := by decide +kernel
theorem d_X12_never_8 : decode mX12_never.2.2.1 8 = .ok (.iaload, 1) := by decide +kernel
theorem d_X12_never_9 : decode mX12_never.2.2.1 9 = .ok (.istore_n 1, 1) := by decide +kernel
theorem d_X12_never_10 : decode mX12_never.2.2.1 10 = .ok (.iconst 0, 1) := by decide +kernel
theorem d_X12_never_11 : decode mX12_never.2.2.1 11 = .ok (.istore_n 2, 1) := by decide +kernel
theorem d_X12_never_12 : decode mX12_never.2.2.1 12 = .ok (.iload_n 2, 1) := by decide +kernel
theorem d_X12_never_13 : decode mX12_never.2.2.1 13 = .ok (.iload_n 1, 1) := by decide +kernel
theorem d_X12_never_14 : decode mX12_never.2.2.1 14 = .ok (.if_icmp .gt 24, 3) := by decide +kernel
theorem d_X12_never_17 : decode mX12_never.2.2.1 17 = .ok (.aload_n 0, 1) := by decide +kernel
theorem d_X12_never_18 : decode mX12_never.2.2.1 18 = .ok (.getfield 375, 3) := by decide +kernel
theorem d_X12_never_21 : decode mX12_never.2.2.1 21 = .ok (.iload_n 2, 1) := by decide +kernel
theorem d_X12_never_22 : decode mX12_never.2.2.1 22 = .ok (.iload_n 2, 1) := by decide +kernel
theorem d_X12_never_23 : decode mX12_never.2.2.1 23 = .ok (.ifCond .ne 7, 3) := by decide +kernel
theorem d_X12_never_26 : decode mX12_never.2.2.1 26 = .ok (.lconst 1, 1) := by decide +kernel
theorem d_X12_never_27 : decode mX12_never.2.2.1 27 = .ok (.goto 4, 3) := by decide +kernel
theorem d_X12_never_31 : decode mX12_never.2.2.1 31 = .ok (.lastore, 1) := by decide +kernel
theorem d_X12_never_32 : decode mX12_never.2.2.1 32 = .ok (.iinc 2 1, 3) := by decide +kernel
theorem d_X12_never_35 : decode mX12_never.2.2.1 35 = .ok (.goto (-23), 3) := by decide +kernel
theorem d_X12_never_38 : decode mX12_never.2.2.1 38 = .ok (.iconst 1, 1) := by decide +kernel
theorem d_X12_never_39 : decode mX12_never.2.2.1 39 = .ok (.istore_n 2, 1) := by decide +kernel
theorem d_X12_never_30 : decode mX12_never.2.2.1 30 = .ok (.lconst 0, 1) := by decide +kernel
theorem d_X12_never_40 : decode mX12_never.2.2.1 40 = .ok (.iload_n 2, 1) := by decide +kernel
theorem d_X12_never_41 : decode mX12_never.2.2.1 41 = .ok (.ifCond .eq 220, 3) := by decide +kernel
theorem d_X12_never_44 : decode mX12_never.2.2.1 44 = .ok (.iconst 0, 1) := by decide +kernel
theorem d_X12_never_45 : decode mX12_never.2.2.1 45 = .ok (.istore_n 2, 1) := by decide +kernel
theorem d_X12_never_46 : decode mX12_never.2.2.1 46 = .ok (.iconst 0, 1) := by decide +kernel
theorem d_X12_never_47 : decode mX12_never.2.2.1 47 = .ok (.istore_n 3, 1) := by decide +kernel
theorem d_X12_never_48 : decode mX12_never.2.2.1 48 = .ok (.iload_n 3, 1) := by decide +kernel
theorem d_X12_never_49 : decode mX12_never.2.2.1 49 = .ok (.iload_n 1, 1) := by decide +kernel
theorem d_X12_never_50 : decode mX12_never.2.2.1 50 = .ok (.if_icmp .ge 208, 3) := by decide +kernel
theorem d_X12_never_258 : decode mX12_never.2.2.1 258 = .ok (.goto (-218), 3) := by decide +kernel
theorem d_X12_never_261 : decode mX12_never.2.2.1 261 = .ok (.iconst 0, 1) := by decide +kernel
theorem d_X12_never_262 : decode mX12_never.2.2.1 262 = .ok (.istore_n 3, 1) := by decide +kernel
theorem d_X12_never_263 : decode mX12_never.2.2.1 263 = .ok (.iconst 0, 1) := by decide +kernel
theorem d_X12_never_264 : decode mX12_never.2.2.1 264 = .ok (.istore 4, 2) := by decide +kernel
theorem d_X12_never_266 : decode mX12_never.2.2.1 266 = .ok (.iload 4, 2) := by decide +kernel
theorem d_X12_never_268 : decode mX12_never.2.2.1 268 = .ok (.bipush 64, 2) := by decide +kernel
theorem d_X12_never_270 : decode mX12_never.2.2.1 270 = .ok (.if_icmp .ge 30, 3) := by decide +kernel
theorem d_X12_never_273 : decode mX12_never.2.2.1 273 = .ok (.aload_n 0, 1) := by decide +kernel
theorem d_X12_never_274 : decode mX12_never.2.2.1 274 = .ok (.getfield 375, 3) := by decide +kernel
theorem d_X12_never_277 : decode mX12_never.2.2.1 277 = .ok (.iload_n 1, 1) := by decide +kernel
theorem d_X12_never_278 : decode mX12_never.2.2.1 278 = .ok (.laload, 1) := by decide +kernel
theorem d_X12_never_279 : decode mX12_never.2.2.1 279 = .ok (.iload 4, 2) := by decide +kernel
theorem d_X12_never_281 : decode mX12_never.2.2.1 281 = .ok (.lshr, 1) := by decide +kernel
theorem d_X12_never_282 : decode mX12_never.2.2.1 282 = .ok (.lconst 1, 1) := by decide +kernel
theorem d_X12_never_283 : decode mX12_never.2.2.1 283 = .ok (.land, 1) := by decide +kernel
theorem d_X12_never_284 : decode mX12_never.2.2.1 284 = .ok (.lconst 1, 1) := by decide +kernel
theorem d_X12_never_285 : decode mX12_never.2.2.1 285 = .ok (.lcmp, 1) := by decide +kernel
theorem d_X12_never_286 : decode mX12_never.2.2.1 286 = .ok (.ifCond .ne 8, 3) := by decide +kernel
theorem d_X12_never_289 : decode mX12_never.2.2.1 289 = .ok (.iload_n 3, 1) := by decide +kernel
theorem d_X12_never_290 : decode mX12_never.2.2.1 290 = .ok (.iload 4, 2) := by decide +kernel
theorem d_X12_never_292 : decode mX12_never.2.2.1 292 = .ok (.ior, 1) := by decide +kernel
theorem d_X12_never_293 : decode mX12_never.2.2.1 293 = .ok (.istore_n 3, 1) := by decide +kernel
theorem d_X12_never_294 : decode mX12_never.2.2.1 294 = .ok (.iinc 4 1, 3) := by decide +kernel
theorem d_X12_never_297 : decode mX12_never.2.2.1 297 = .ok (.goto (-31), 3) := by decide +kernel
theorem d_X12_never_300 : decode mX12_never.2.2.1 300 = .ok (.iload_n 3, 1) := by decide +kernel
theorem d_X12_never_301 : decode mX12_never.2.2.1 301 = .ok (.ireturn, 1) := by decide +kernel
theorem d_X12_never_53 : decode mX12_never.2.2.1 53 = .ok (.sipush 200, 3) := by decide +kernel
theorem d_X12_never_56 : decode mX12_never.2.2.1 56 = .ok (.aload_n 0, 1) := by decide +kernel
theorem d_X12_never_57 : decode mX12_never.2.2.1 57 = .ok (.getfield 48, 3) := by decide +kernel
theorem d_X12_never_60 : decode mX12_never.2.2.1 60 = .ok (.imul, 1) := by decide +kernel
theorem d_X12_never_61 : decode mX12_never.2.2.1 61 = .ok (.iload_n 3, 1) := by decide +kernel
theorem d_X12_never_62 : decode mX12_never.2.2.1 62 = .ok (.iadd, 1) := by decide +kernel
theorem d_X12_never_63 : decode mX12_never.2.2.1 63 = .ok (.istore 4, 2) := by decide +kernel
theorem d_X12_never_65 : decode mX12_never.2.2.1 65 = .ok (.aload_n 0, 1) := by decide +kernel
theorem d_X12_never_66 : decode mX12_never.2.2.1 66 = .ok (.getfield 375, 3) := by decide +kernel
theorem d_X12_never_69 : decode mX12_never.2.2.1 69 = .ok (.iload_n 3, 1) := by decide +kernel
theorem d_X12_never_70 : decode mX12_never.2.2.1 70 = .ok (.laload, 1) := by decide +kernel
theorem d_X12_never_71 : decode mX12_never.2.2.1 71 = .ok (.lstore 5, 2) := by decide +kernel
theorem d_X12_never_73 : decode mX12_never.2.2.1 73 = .ok (.aload_n 0, 1) := by decide +kernel
theorem d_X12_never_74 : decode mX12_never.2.2.1 74 = .ok (.getfield 97, 3) := by decide +kernel
theorem d_X12_never_77 : decode mX12_never.2.2.1 77 = .ok (.iload 4, 2) := by decide +kernel
theorem d_X12_never_79 : decode mX12_never.2.2.1 79 = .ok (.iaload, 1) := by decide +kernel
theorem d_X12_never_80 : decode mX12_never.2.2.1 80 = .ok (.iconst 3, 1) := by decide +kernel
theorem d_X12_never_81 : decode mX12_never.2.2.1 81 = .ok (.if_icmp .eq 14, 3) := by decide +kernel
theorem d_X12_never_84 : decode mX12_never.2.2.1 84 = .ok (.aload_n 0, 1) := by decide +kernel
theorem d_X12_never_85 : decode mX12_never.2.2.1 85 = .ok (.getfield 97, 3) := by decide +kernel
theorem d_X12_never_88 : decode mX12_never.2.2.1 88 = .ok (.iload 4, 2) := by decide +kernel
theorem d_X12_never_90 : decode mX12_never.2.2.1 90 = .ok (.iaload, 1) := by decide +kernel
theorem d_X12_never_91 : decode mX12_never.2.2.1 91 = .ok (.iconst 4, 1) := by decide +kernel
theorem d_X12_never_92 : decode mX12_never.2.2.1 92 = .ok (.if_icmp .ne 33, 3) := by decide +kernel
theorem d_X12_never_95 : decode mX12_never.2.2.1 95 = .ok (.lload 5, 2) := by decide +kernel
theorem d_X12_never_97 : decode mX12_never.2.2.1 97 = .ok (.aload_n 0, 1) := by decide +kernel
theorem d_X12_never_98 : decode mX12_never.2.2.1 98 = .ok (.getfield 103, 3) := by decide +kernel
theorem d_X12_never_101 : decode mX12_never.2.2.1 101 = .ok (.iload 4, 2) := by decide +kernel
theorem d_X12_never_103 : decode mX12_never.2.2.1 103 = .ok (.iaload, 1) := by decide +kernel
theorem d_X12_never_104 : decode mX12_never.2.2.1 104 = .ok (.aload_n 0, 1) := by decide +kernel
theorem d_X12_never_105 : decode mX12_never.2.2.1 105 = .ok (.getfield 97, 3) := by decide +kernel
theorem d_X12_never_108 : decode mX12_never.2.2.1 108 = .ok (.iload 4, 2) := by decide +kernel
theorem d_X12_never_110 : decode mX12_never.2.2.1 110 = .ok (.iaload, 1) := by decide +kernel
theorem d_X12_never_111 : decode mX12_never.2.2.1 111 = .ok (.iconst 3, 1) := by decide +kernel
theorem d_X12_never_112 : decode mX12_never.2.2.1 112 = .ok (.if_icmp .ne 7, 3) := by decide +kernel
theorem d_X12_never_119 : decode mX12_never.2.2.1 119 = .ok (.iconst 0, 1) := by decide +kernel
theorem d_X12_never_115 : decode mX12_never.2.2.1 115 = .ok (.iconst 1, 1) := by decide +kernel
theorem d_X12_never_116 : decode mX12_never.2.2.1 116 = .ok (.goto 4, 3) := by decide +kernel
theorem d_X12_never_120 : decode mX12_never.2.2.1 120 = .ok (.invokestatic 692, 3) := by decide +kernel
def mX12_moved : MD := (12, yX12_moved, cX12_moved, 7, some .long)
theorem s_12_692 : e_siteS 12 692 mX12_moved := ⟨tblG_in (inT10 (List.mem_of_getElem? (i := 30) rfl)) rfl, tblG_in (inT10 (List.mem_of_getElem? (i := 31) rfl)) rfl⟩
theorem d_X12_moved_0 : decode mX12_moved.2.2.1 0 = .ok (.lconst 0, 1) := by decide +kernel
theorem d_X12_moved_1 : decode mX12_moved.2.2.1 1 = .ok (.lstore 4, 2) := by decide +kernel
theorem d_X12_moved_3 : decode mX12_moved.2.2.1 3 = .ok (.iconst 0, 1) := by decide +kernel
theorem d_X12_moved_4 : decode mX12_moved.2.2.1 4 = .ok (.istore 6, 2) := by decide +kernel
theorem d_X12_moved_6 : decode mX12_moved.2.2.1 6 = .ok (.iload 6, 2) := by decide +kernel
theorem d_X12_moved_8 : decode mX12_moved.2.2.1 8 = .ok (.bipush 64, 2) := by decide +kernel
theorem d_X12_moved_10 : decode mX12_moved.2.2.1 10 = .ok (.if_icmp .ge 48, 3) := by decide +kernel
theorem d_X12_moved_13 : decode mX12_moved.2.2.1 13 = .ok (.lload_n 0, 1) := by decide +kernel
theorem d_X12_moved_14 : decode mX12_moved.2.2.1 14 = .ok (.iload 6, 2) := by decide +kernel
theorem d_X12_moved_16 : decode mX12_moved.2.2.1 16 = .ok (.lshr, 1) := by decide +kernel
theorem d_X12_moved_17 : decode mX12_moved.2.2.1 17 = .ok (.lconst 1, 1) := by decide +kernel
theorem d_X12_moved_18 : decode mX12_moved.2.2.1 18 = .ok (.land, 1) := by decide +kernel
theorem d_X12_moved_19 : decode mX12_moved.2.2.1 19 = .ok (.lconst 1, 1) := by decide +kernel
theorem d_X12_moved_20 : decode mX12_moved.2.2.1 20 = .ok (.lcmp, 1) := by decide +kernel
theorem d_X12_moved_21 : decode mX12_moved.2.2.1 21 = .ok (.ifCond .ne 31, 3) := by decide +kernel
theorem d_X12_moved_24 : decode mX12_moved.2.2.1 24 = .ok (.lload 4, 2) := by decide +kernel
theorem d_X12_moved_26 : decode mX12_moved.2.2.1 26 = .ok (.lconst 1, 1) := by decide +kernel
theorem d_X12_moved_27 : decode mX12_moved.2.2.1 27 = .ok (.iload_n 3, 1) := by decide +kernel
theorem d_X12_moved_28 : decode mX12_moved.2.2.1 28 = .ok (.ifCond .eq 12, 3) := by decide +kernel
theorem d_X12_moved_40 : decode mX12_moved.2.2.1 40 = .ok (.iload 6, 2) := by decide +kernel
theorem d_X12_moved_42 : decode mX12_moved.2.2.1 42 = .ok (.iconst 1, 1) := by decide +kernel
theorem d_X12_moved_43 : decode mX12_moved.2.2.1 43 = .ok (.iload_n 2, 1) := by decide +kernel
theorem d_X12_moved_44 : decode mX12_moved.2.2.1 44 = .ok (.ishl, 1) := by decide +kernel
theorem d_X12_moved_45 : decode mX12_moved.2.2.1 45 = .ok (.iconst (-1), 1) := by decide +kernel
theorem d_X12_moved_46 : decode mX12_moved.2.2.1 46 = .ok (.ixor, 1) := by decide +kernel
theorem d_X12_moved_47 : decode mX12_moved.2.2.1 47 = .ok (.iand, 1) := by decide +kernel
theorem d_X12_moved_31 : decode mX12_moved.2.2.1 31 = .ok (.iload 6, 2) := by decide +kernel
theorem d_X12_moved_33 : decode mX12_moved.2.2.1 33 = .ok (.iconst 1, 1) := by decide +kernel
theorem d_X12_moved_34 : decode mX12_moved.2.2.1 34 = .ok (.iload_n 2, 1) := by decide +kernel
theorem d_X12_moved_35 : decode mX12_moved.2.2.1 35 = .ok (.ishl, 1) := by decide +kernel
theorem d_X12_moved_36 : decode mX12_moved.2.2.1 36 = .ok (.ior, 1) := by decide +kernel
theorem d_X12_moved_37 : decode mX12_moved.2.2.1 37 = .ok (.goto 11, 3) := by decide +kernel
theorem d_X12_moved_48 : decode mX12_moved.2.2.1 48 = .ok (.lshl, 1) := by decide +kernel
theorem d_X12_moved_49 : decode mX12_moved.2.2.1 49 = .ok (.lor, 1) := by decide +kernel
theorem d_X12_moved_50 : decode mX12_moved.2.2.1 50 = .ok (.lstore 4, 2) := by decide +kernel
theorem d_X12_moved_52 : decode mX12_moved.2.2.1 52 = .ok (.iinc 6 1, 3) := by decide +kernel
theorem d_X12_moved_55 : decode mX12_moved.2.2.1 55 = .ok (.goto (-49), 3) := by decide +kernel
theorem d_X12_moved_58 : decode mX12_moved.2.2.1 58 = .ok (.lload 4, 2) := by decide +kernel
theorem d_X12_moved_60 : decode mX12_moved.2.2.1 60 = .ok (.lreturn, 1) := by decide +kernel
theorem ok_X12_moved : e_m mX12_moved 3 := ⟨tblG_in (inT10 (List.mem_of_getElem? (i := 32) rfl)) rfl, plainFor_of_name (by decide), rfl, ini_12, by decide +kernel, by decide⟩
theorem d_X12_never_123 : decode mX12_never.2.2.1 123 = .ok (.lstore 5, 2) := by decide +kernel
theorem d_X12_never_125 : decode mX12_never.2.2.1 125 = .ok (.aload_n 0, 1) := by decide +kernel
theorem d_X12_never_126 : decode mX12_never.2.2.1 126 = .ok (.getfield 97, 3) := by decide +kernel
theorem d_X12_never_129 : decode mX12_never.2.2.1 129 = .ok (.iload 4, 2) := by decide +kernel
theorem d_X12_never_131 : decode mX12_never.2.2.1 131 = .ok (.iaload, 1) := by decide +kernel
theorem d_X12_never_132 : decode mX12_never.2.2.1 132 = .ok (.ifCond .ne 13, 3) := by decide +kernel
theorem d_X12_never_145 : decode mX12_never.2.2.1 145 = .ok (.iload_n 3, 1) := by decide +kernel
theorem d_X12_never_146 : decode mX12_never.2.2.1 146 = .ok (.iconst 1, 1) := by decide +kernel
theorem d_X12_never_147 : decode mX12_never.2.2.1 147 = .ok (.iadd, 1) := by decide +kernel
theorem d_X12_never_135 : decode mX12_never.2.2.1 135 = .ok (.aload_n 0, 1) := by decide +kernel
theorem d_X12_never_136 : decode mX12_never.2.2.1 136 = .ok (.getfield 112, 3) := by decide +kernel
theorem d_X12_never_139 : decode mX12_never.2.2.1 139 = .ok (.iload 4, 2) := by decide +kernel
theorem d_X12_never_141 : decode mX12_never.2.2.1 141 = .ok (.iaload, 1) := by decide +kernel
theorem d_X12_never_142 : decode mX12_never.2.2.1 142 = .ok (.goto 6, 3) := by decide +kernel
theorem d_X12_never_148 : decode mX12_never.2.2.1 148 = .ok (.istore 7, 2) := by decide +kernel
theorem d_X12_never_150 : decode mX12_never.2.2.1 150 = .ok (.aload_n 0, 1) := by decide +kernel
theorem d_X12_never_151 : decode mX12_never.2.2.1 151 = .ok (.getfield 97, 3) := by decide +kernel
theorem d_X12_never_154 : decode mX12_never.2.2.1 154 = .ok (.iload 4, 2) := by decide +kernel
theorem d_X12_never_156 : decode mX12_never.2.2.1 156 = .ok (.iaload, 1) := by decide +kernel
theorem d_X12_never_157 : decode mX12_never.2.2.1 157 = .ok (.bipush 7, 2) := by decide +kernel
theorem d_X12_never_159 : decode mX12_never.2.2.1 159 = .ok (.if_icmp .lt 13, 3) := by decide +kernel
theorem d_X12_never_172 : decode mX12_never.2.2.1 172 = .ok (.iload 7, 2) := by decide +kernel
theorem d_X12_never_162 : decode mX12_never.2.2.1 162 = .ok (.aload_n 0, 1) := by decide +kernel
theorem d_X12_never_163 : decode mX12_never.2.2.1 163 = .ok (.getfield 112, 3) := by decide +kernel
theorem d_X12_never_166 : decode mX12_never.2.2.1 166 = .ok (.iload 4, 2) := by decide +kernel
theorem d_X12_never_168 : decode mX12_never.2.2.1 168 = .ok (.iaload, 1) := by decide +kernel
theorem d_X12_never_169 : decode mX12_never.2.2.1 169 = .ok (.goto 5, 3) := by decide +kernel
theorem d_X12_never_174 : decode mX12_never.2.2.1 174 = .ok (.istore 8, 2) := by decide +kernel
theorem d_X12_never_176 : decode mX12_never.2.2.1 176 = .ok (.iload_n 2, 1) := by decide +kernel
theorem d_X12_never_177 : decode mX12_never.2.2.1 177 = .ok (.ifCond .ne 45, 3) := by decide +kernel
theorem d_X12_never_180 : decode mX12_never.2.2.1 180 = .ok (.aload_n 0, 1) := by decide +kernel
theorem d_X12_never_181 : decode mX12_never.2.2.1 181 = .ok (.getfield 375, 3) := by decide +kernel
theorem d_X12_never_184 : decode mX12_never.2.2.1 184 = .ok (.iload 7, 2) := by decide +kernel
theorem d_X12_never_186 : decode mX12_never.2.2.1 186 = .ok (.laload, 1) := by decide +kernel
theorem d_X12_never_187 : decode mX12_never.2.2.1 187 = .ok (.lload 5, 2) := by decide +kernel
theorem d_X12_never_189 : decode mX12_never.2.2.1 189 = .ok (.lor, 1) := by decide +kernel
theorem d_X12_never_190 : decode mX12_never.2.2.1 190 = .ok (.aload_n 0, 1) := by decide +kernel
theorem d_X12_never_191 : decode mX12_never.2.2.1 191 = .ok (.getfield 375, 3) := by decide +kernel
theorem d_X12_never_194 : decode mX12_never.2.2.1 194 = .ok (.iload 7, 2) := by decide +kernel
theorem d_X12_never_196 : decode mX12_never.2.2.1 196 = .ok (.laload, 1) := by decide +kernel
theorem d_X12_never_197 : decode mX12_never.2.2.1 197 = .ok (.lcmp, 1) := by decide +kernel
theorem d_X12_never_198 : decode mX12_never.2.2.1 198 = .ok (.ifCond .ne 24, 3) := by decide +kernel
theorem d_X12_never_201 : decode mX12_never.2.2.1 201 = .ok (.aload_n 0, 1) := by decide +kernel
theorem d_X12_never_202 : decode mX12_never.2.2.1 202 = .ok (.getfield 375, 3) := by decide +kernel
theorem d_X12_never_205 : decode mX12_never.2.2.1 205 = .ok (.iload 8, 2) := by decide +kernel
theorem d_X12_never_207 : decode mX12_never.2.2.1 207 = .ok (.laload, 1) := by decide +kernel
theorem d_X12_never_208 : decode mX12_never.2.2.1 208 = .ok (.lload 5, 2) := by decide +kernel
theorem d_X12_never_210 : decode mX12_never.2.2.1 210 = .ok (.lor, 1) := by decide +kernel
theorem d_X12_never_211 : decode mX12_never.2.2.1 211 = .ok (.aload_n 0, 1) := by decide +kernel
theorem d_X12_never_212 : decode mX12_never.2.2.1 212 = .ok (.getfield 375, 3) := by decide +kernel
theorem d_X12_never_215 : decode mX12_never.2.2.1 215 = .ok (.iload 8, 2) := by decide +kernel
theorem d_X12_never_217 : decode mX12_never.2.2.1 217 = .ok (.laload, 1) := by decide +kernel
theorem d_X12_never_218 : decode mX12_never.2.2.1 218 = .ok (.lcmp, 1) := by decide +kernel
theorem d_X12_never_219 : decode mX12_never.2.2.1 219 = .ok (.ifCond .eq 7, 3) := by decide +kernel
theorem d_X12_never_226 : decode mX12_never.2.2.1 226 = .ok (.iconst 0, 1) := by decide +kernel
theorem d_X12_never_222 : decode mX12_never.2.2.1 222 = .ok (.iconst 1, 1) := by decide +kernel
theorem d_X12_never_223 : decode mX12_never.2.2.1 223 = .ok (.goto 4, 3) := by decide +kernel
theorem d_X12_never_227 : decode mX12_never.2.2.1 227 = .ok (.istore_n 2, 1) := by decide +kernel
theorem d_X12_never_228 : decode mX12_never.2.2.1 228 = .ok (.aload_n 0, 1) := by decide +kernel
theorem d_X12_never_229 : decode mX12_never.2.2.1 229 = .ok (.getfield 375, 3) := by decide +kernel
theorem d_X12_never_232 : decode mX12_never.2.2.1 232 = .ok (.iload 7, 2) := by decide +kernel
theorem d_X12_never_234 : decode mX12_never.2.2.1 234 = .ok (.dup2, 1) := by decide +kernel
theorem d_X12_never_235 : decode mX12_never.2.2.1 235 = .ok (.laload, 1) := by decide +kernel
theorem d_X12_never_236 : decode mX12_never.2.2.1 236 = .ok (.lload 5, 2) := by decide +kernel
end
/-! 38w.02 -/
section
theorem d_X12_never_238 : decode mX12_never.2.2.1 238 = .ok (.lor, 1) := by decide +kernel
theorem d_X12_never_239 : decode mX12_never.2.2.1 239 = .ok (.lastore, 1) := by decide +kernel
theorem d_X12_never_240 : decode mX12_never.2.2.1 240 = .ok (.aload_n 0, 1) := by decide +kernel
theorem d_X12_never_241 : decode mX12_never.2.2.1 241 = .ok (.getfield 375, 3) := by decide +kernel
theorem d_X12_never_244 : decode mX12_never.2.2.1 244 = .ok (.iload 8, 2) := by decide +kernel
theorem d_X12_never_246 : decode mX12_never.2.2.1 246 = .ok (.dup2, 1) := by decide +kernel
theorem d_X12_never_247 : decode mX12_never.2.2.1 247 = .ok (.laload, 1) := by decide +kernel
theorem d_X12_never_248 : decode mX12_never.2.2.1 248 = .ok (.lload 5, 2) := by decide +kernel
theorem d_X12_never_250 : decode mX12_never.2.2.1 250 = .ok (.lor, 1) := by decide +kernel
theorem d_X12_never_251 : decode mX12_never.2.2.1 251 = .ok (.lastore, 1) := by decide +kernel
theorem d_X12_never_252 : decode mX12_never.2.2.1 252 = .ok (.iinc 3 1, 3) := by decide +kernel
theorem d_X12_never_255 : decode mX12_never.2.2.1 255 = .ok (.goto (-207), 3) := by decide +kernel
def mX12_byTurns : MD := (12, yX12_byTurns, cX12_byTurns, 14, some .long)
theorem d_X12_byTurns_0 : decode mX12_byTurns.2.2.1 0 = .ok (.aload_n 0, 1) := by decide +kernel
theorem d_X12_byTurns_1 : decode mX12_byTurns.2.2.1 1 = .ok (.getfield 270, 3) := by decide +kernel
theorem d_X12_byTurns_4 : decode mX12_byTurns.2.2.1 4 = .ok (.ifCond .eq 32, 3) := by decide +kernel
theorem d_X12_byTurns_36 : decode mX12_byTurns.2.2.1 36 = .ok (.ldc2_w 669, 3) := by decide +kernel
theorem kl_12_669 : Jvm.Cond.constantLong (e_cn 12) 669 (Int64.ofInt (-1000000000000000)) ∈ tblG := tblG_in (inT9 (List.mem_of_getElem? (i := 197) rfl)) rfl
theorem d_X12_byTurns_39 : decode mX12_byTurns.2.2.1 39 = .ok (.lreturn, 1) := by decide +kernel
theorem d_X12_byTurns_7 : decode mX12_byTurns.2.2.1 7 = .ok (.aload_n 0, 1) := by decide +kernel
theorem d_X12_byTurns_8 : decode mX12_byTurns.2.2.1 8 = .ok (.iload_n 1, 1) := by decide +kernel
theorem d_X12_byTurns_9 : decode mX12_byTurns.2.2.1 9 = .ok (.invokevirtual 555, 3) := by decide +kernel
theorem d_X12_byTurns_12 : decode mX12_byTurns.2.2.1 12 = .ok (.ifCond .eq 24, 3) := by decide +kernel
theorem d_X12_byTurns_15 : decode mX12_byTurns.2.2.1 15 = .ok (.iload_n 2, 1) := by decide +kernel
theorem d_X12_byTurns_16 : decode mX12_byTurns.2.2.1 16 = .ok (.ifCond .lt 20, 3) := by decide +kernel
theorem d_X12_byTurns_19 : decode mX12_byTurns.2.2.1 19 = .ok (.aload_n 0, 1) := by decide +kernel
theorem d_X12_byTurns_20 : decode mX12_byTurns.2.2.1 20 = .ok (.iload_n 3, 1) := by decide +kernel
theorem d_X12_byTurns_21 : decode mX12_byTurns.2.2.1 21 = .ok (.invokevirtual 656, 3) := by decide +kernel
theorem d_X12_byTurns_24 : decode mX12_byTurns.2.2.1 24 = .ok (.ifCond .eq 12, 3) := by decide +kernel
theorem d_X12_byTurns_27 : decode mX12_byTurns.2.2.1 27 = .ok (.aload_n 0, 1) := by decide +kernel
theorem d_X12_byTurns_28 : decode mX12_byTurns.2.2.1 28 = .ok (.iload_n 1, 1) := by decide +kernel
theorem d_X12_byTurns_29 : decode mX12_byTurns.2.2.1 29 = .ok (.iload_n 2, 1) := by decide +kernel
theorem d_X12_byTurns_30 : decode mX12_byTurns.2.2.1 30 = .ok (.invokevirtual 644, 3) := by decide +kernel
theorem d_X12_byTurns_33 : decode mX12_byTurns.2.2.1 33 = .ok (.ifCond .ne 7, 3) := by decide +kernel
theorem d_X12_byTurns_40 : decode mX12_byTurns.2.2.1 40 = .ok (.aload_n 0, 1) := by decide +kernel
theorem d_X12_byTurns_41 : decode mX12_byTurns.2.2.1 41 = .ok (.iload_n 1, 1) := by decide +kernel
theorem d_X12_byTurns_42 : decode mX12_byTurns.2.2.1 42 = .ok (.invokevirtual 650, 3) := by decide +kernel
theorem d_X12_byTurns_45 : decode mX12_byTurns.2.2.1 45 = .ok (.lstore 5, 2) := by decide +kernel
theorem d_X12_byTurns_47 : decode mX12_byTurns.2.2.1 47 = .ok (.lload 5, 2) := by decide +kernel
theorem d_X12_byTurns_49 : decode mX12_byTurns.2.2.1 49 = .ok (.invokestatic 653, 3) := by decide +kernel
theorem d_X12_byTurns_52 : decode mX12_byTurns.2.2.1 52 = .ok (.bipush 8, 2) := by decide +kernel
theorem d_X12_byTurns_54 : decode mX12_byTurns.2.2.1 54 = .ok (.if_icmp .gt 14, 3) := by decide +kernel
theorem d_X12_byTurns_68 : decode mX12_byTurns.2.2.1 68 = .ok (.ldc2_w 669, 3) := by decide +kernel
theorem d_X12_byTurns_71 : decode mX12_byTurns.2.2.1 71 = .ok (.lreturn, 1) := by decide +kernel
theorem d_X12_byTurns_57 : decode mX12_byTurns.2.2.1 57 = .ok (.lload 5, 2) := by decide +kernel
theorem d_X12_byTurns_59 : decode mX12_byTurns.2.2.1 59 = .ok (.iload_n 3, 1) := by decide +kernel
theorem d_X12_byTurns_60 : decode mX12_byTurns.2.2.1 60 = .ok (.lshr, 1) := by decide +kernel
theorem d_X12_byTurns_61 : decode mX12_byTurns.2.2.1 61 = .ok (.lconst 1, 1) := by decide +kernel
theorem d_X12_byTurns_62 : decode mX12_byTurns.2.2.1 62 = .ok (.land, 1) := by decide +kernel
theorem d_X12_byTurns_63 : decode mX12_byTurns.2.2.1 63 = .ok (.lconst 0, 1) := by decide +kernel
theorem d_X12_byTurns_64 : decode mX12_byTurns.2.2.1 64 = .ok (.lcmp, 1) := by decide +kernel
theorem d_X12_byTurns_65 : decode mX12_byTurns.2.2.1 65 = .ok (.ifCond .ne 7, 3) := by decide +kernel
theorem d_X12_byTurns_72 : decode mX12_byTurns.2.2.1 72 = .ok (.aload_n 0, 1) := by decide +kernel
theorem d_X12_byTurns_73 : decode mX12_byTurns.2.2.1 73 = .ok (.iconst 0, 1) := by decide +kernel
theorem d_X12_byTurns_74 : decode mX12_byTurns.2.2.1 74 = .ok (.putfield 318, 3) := by decide +kernel
theorem d_X12_byTurns_77 : decode mX12_byTurns.2.2.1 77 = .ok (.iconst 0, 1) := by decide +kernel
theorem d_X12_byTurns_78 : decode mX12_byTurns.2.2.1 78 = .ok (.istore 7, 2) := by decide +kernel
theorem d_X12_byTurns_80 : decode mX12_byTurns.2.2.1 80 = .ok (.iconst 0, 1) := by decide +kernel
theorem d_X12_byTurns_81 : decode mX12_byTurns.2.2.1 81 = .ok (.istore 8, 2) := by decide +kernel
theorem d_X12_byTurns_83 : decode mX12_byTurns.2.2.1 83 = .ok (.iload 8, 2) := by decide +kernel
theorem d_X12_byTurns_85 : decode mX12_byTurns.2.2.1 85 = .ok (.aload_n 0, 1) := by decide +kernel
theorem d_X12_byTurns_86 : decode mX12_byTurns.2.2.1 86 = .ok (.getfield 72, 3) := by decide +kernel
theorem d_X12_byTurns_89 : decode mX12_byTurns.2.2.1 89 = .ok (.aload_n 0, 1) := by decide +kernel
theorem d_X12_byTurns_90 : decode mX12_byTurns.2.2.1 90 = .ok (.getfield 48, 3) := by decide +kernel
theorem d_X12_byTurns_93 : decode mX12_byTurns.2.2.1 93 = .ok (.iaload, 1) := by decide +kernel
theorem d_X12_byTurns_94 : decode mX12_byTurns.2.2.1 94 = .ok (.if_icmp .ge 57, 3) := by decide +kernel
theorem d_X12_byTurns_151 : decode mX12_byTurns.2.2.1 151 = .ok (.iconst 0, 1) := by decide +kernel
theorem d_X12_byTurns_152 : decode mX12_byTurns.2.2.1 152 = .ok (.istore 8, 2) := by decide +kernel
theorem d_X12_byTurns_97 : decode mX12_byTurns.2.2.1 97 = .ok (.lload 5, 2) := by decide +kernel
theorem d_X12_byTurns_99 : decode mX12_byTurns.2.2.1 99 = .ok (.iload 8, 2) := by decide +kernel
theorem d_X12_byTurns_101 : decode mX12_byTurns.2.2.1 101 = .ok (.lshr, 1) := by decide +kernel
theorem d_X12_byTurns_102 : decode mX12_byTurns.2.2.1 102 = .ok (.lconst 1, 1) := by decide +kernel
theorem d_X12_byTurns_103 : decode mX12_byTurns.2.2.1 103 = .ok (.land, 1) := by decide +kernel
theorem d_X12_byTurns_104 : decode mX12_byTurns.2.2.1 104 = .ok (.lconst 0, 1) := by decide +kernel
theorem d_X12_byTurns_105 : decode mX12_byTurns.2.2.1 105 = .ok (.lcmp, 1) := by decide +kernel
theorem d_X12_byTurns_106 : decode mX12_byTurns.2.2.1 106 = .ok (.ifCond .ne 6, 3) := by decide +kernel
theorem d_X12_byTurns_112 : decode mX12_byTurns.2.2.1 112 = .ok (.iload 8, 2) := by decide +kernel
theorem d_X12_byTurns_114 : decode mX12_byTurns.2.2.1 114 = .ok (.iload_n 3, 1) := by decide +kernel
theorem d_X12_byTurns_115 : decode mX12_byTurns.2.2.1 115 = .ok (.if_icmp .ne 9, 3) := by decide +kernel
theorem d_X12_byTurns_118 : decode mX12_byTurns.2.2.1 118 = .ok (.aload_n 0, 1) := by decide +kernel
theorem d_X12_byTurns_119 : decode mX12_byTurns.2.2.1 119 = .ok (.getfield 318, 3) := by decide +kernel
theorem d_X12_byTurns_122 : decode mX12_byTurns.2.2.1 122 = .ok (.istore 7, 2) := by decide +kernel
theorem d_X12_byTurns_109 : decode mX12_byTurns.2.2.1 109 = .ok (.goto 36, 3) := by decide +kernel
theorem d_X12_byTurns_154 : decode mX12_byTurns.2.2.1 154 = .ok (.iload 8, 2) := by decide +kernel
theorem d_X12_byTurns_156 : decode mX12_byTurns.2.2.1 156 = .ok (.iconst 1, 1) := by decide +kernel
theorem d_X12_byTurns_157 : decode mX12_byTurns.2.2.1 157 = .ok (.aload_n 0, 1) := by decide +kernel
theorem d_X12_byTurns_158 : decode mX12_byTurns.2.2.1 158 = .ok (.getfield 318, 3) := by decide +kernel
theorem d_X12_byTurns_161 : decode mX12_byTurns.2.2.1 161 = .ok (.ishl, 1) := by decide +kernel
theorem d_X12_byTurns_162 : decode mX12_byTurns.2.2.1 162 = .ok (.if_icmp .ge 23, 3) := by decide +kernel
theorem d_X12_byTurns_165 : decode mX12_byTurns.2.2.1 165 = .ok (.aload_n 0, 1) := by decide +kernel
theorem d_X12_byTurns_166 : decode mX12_byTurns.2.2.1 166 = .ok (.getfield 324, 3) := by decide +kernel
theorem d_X12_byTurns_169 : decode mX12_byTurns.2.2.1 169 = .ok (.iload 8, 2) := by decide +kernel
theorem d_X12_byTurns_171 : decode mX12_byTurns.2.2.1 171 = .ok (.aload_n 0, 1) := by decide +kernel
theorem d_X12_byTurns_172 : decode mX12_byTurns.2.2.1 172 = .ok (.iload_n 1, 1) := by decide +kernel
theorem d_X12_byTurns_173 : decode mX12_byTurns.2.2.1 173 = .ok (.iload 8, 2) := by decide +kernel
theorem d_X12_byTurns_175 : decode mX12_byTurns.2.2.1 175 = .ok (.invokevirtual 671, 3) := by decide +kernel
def mX12_costOf : MD := (12, yX12_costOf, cX12_costOf, 7, some .long)
theorem sel_X12_costOf : Cond.instanceMethod mX12_costOf.2.1 ∈ tblG ∧ Cond.selects mX12_costOf.2.1.cls mX12_costOf.2.1 mX12_costOf.2.1 ∈ tblG := ⟨tblG_in (inT9 (List.mem_of_getElem? (i := 200) rfl)) rfl, tblG_in (inP9 (q := (mX12_costOf.2.1, 121)) (List.mem_of_getElem? (i := 1) rfl)) rfl⟩
theorem s_12_671 : e_siteV 12 671 mX12_costOf 12 := ⟨tblG_in (inT9 (List.mem_of_getElem? (i := 198) rfl)) rfl, sel_X12_costOf.1, sel_X12_costOf.2, rfl⟩
theorem d_X12_costOf_0 : decode mX12_costOf.2.2.1 0 = .ok (.iconst 0, 1) := by decide +kernel
theorem d_X12_costOf_1 : decode mX12_costOf.2.2.1 1 = .ok (.istore_n 3, 1) := by decide +kernel
theorem d_X12_costOf_2 : decode mX12_costOf.2.2.1 2 = .ok (.aload_n 0, 1) := by decide +kernel
theorem d_X12_costOf_3 : decode mX12_costOf.2.2.1 3 = .ok (.getfield 306, 3) := by decide +kernel
theorem d_X12_costOf_6 : decode mX12_costOf.2.2.1 6 = .ok (.istore 4, 2) := by decide +kernel
theorem d_X12_costOf_8 : decode mX12_costOf.2.2.1 8 = .ok (.iload 4, 2) := by decide +kernel
theorem d_X12_costOf_10 : decode mX12_costOf.2.2.1 10 = .ok (.aload_n 0, 1) := by decide +kernel
theorem d_X12_costOf_11 : decode mX12_costOf.2.2.1 11 = .ok (.getfield 309, 3) := by decide +kernel
theorem d_X12_costOf_14 : decode mX12_costOf.2.2.1 14 = .ok (.if_icmp .ge 144, 3) := by decide +kernel
theorem d_X12_costOf_158 : decode mX12_costOf.2.2.1 158 = .ok (.iconst 0, 1) := by decide +kernel
theorem d_X12_costOf_159 : decode mX12_costOf.2.2.1 159 = .ok (.istore 4, 2) := by decide +kernel
theorem d_X12_costOf_17 : decode mX12_costOf.2.2.1 17 = .ok (.aload_n 0, 1) := by decide +kernel
theorem d_X12_costOf_18 : decode mX12_costOf.2.2.1 18 = .ok (.iload_n 1, 1) := by decide +kernel
theorem d_X12_costOf_19 : decode mX12_costOf.2.2.1 19 = .ok (.iload 4, 2) := by decide +kernel
theorem d_X12_costOf_21 : decode mX12_costOf.2.2.1 21 = .ok (.invokevirtual 641, 3) := by decide +kernel
theorem d_X12_costOf_24 : decode mX12_costOf.2.2.1 24 = .ok (.iconst 3, 1) := by decide +kernel
theorem d_X12_costOf_25 : decode mX12_costOf.2.2.1 25 = .ok (.if_icmp .ne 24, 3) := by decide +kernel
theorem d_X12_costOf_28 : decode mX12_costOf.2.2.1 28 = .ok (.aload_n 0, 1) := by decide +kernel
theorem d_X12_costOf_29 : decode mX12_costOf.2.2.1 29 = .ok (.aload_n 0, 1) := by decide +kernel
theorem d_X12_costOf_30 : decode mX12_costOf.2.2.1 30 = .ok (.getfield 234, 3) := by decide +kernel
theorem d_X12_costOf_33 : decode mX12_costOf.2.2.1 33 = .ok (.sipush 2100, 3) := by decide +kernel
theorem d_X12_costOf_36 : decode mX12_costOf.2.2.1 36 = .ok (.iload_n 1, 1) := by decide +kernel
theorem d_X12_costOf_37 : decode mX12_costOf.2.2.1 37 = .ok (.imul, 1) := by decide +kernel
theorem d_X12_costOf_38 : decode mX12_costOf.2.2.1 38 = .ok (.iload 4, 2) := by decide +kernel
theorem d_X12_costOf_40 : decode mX12_costOf.2.2.1 40 = .ok (.iadd, 1) := by decide +kernel
theorem d_X12_costOf_41 : decode mX12_costOf.2.2.1 41 = .ok (.iaload, 1) := by decide +kernel
theorem d_X12_costOf_42 : decode mX12_costOf.2.2.1 42 = .ok (.iload_n 2, 1) := by decide +kernel
theorem d_X12_costOf_43 : decode mX12_costOf.2.2.1 43 = .ok (.invokevirtual 662, 3) := by decide +kernel
def mX12_isAmong : MD := (12, yX12_isAmong, cX12_isAmong, 4, some .boolean)
theorem sel_X12_isAmong : Cond.instanceMethod mX12_isAmong.2.1 ∈ tblG ∧ Cond.selects mX12_isAmong.2.1.cls mX12_isAmong.2.1 mX12_isAmong.2.1 ∈ tblG := ⟨tblG_in (inT9 (List.mem_of_getElem? (i := 204) rfl)) rfl, tblG_in (inP9 (q := (mX12_isAmong.2.1, 121)) (List.mem_of_getElem? (i := 2) rfl)) rfl⟩
theorem s_12_662 : e_siteV 12 662 mX12_isAmong 12 := ⟨tblG_in (inT9 (List.mem_of_getElem? (i := 202) rfl)) rfl, sel_X12_isAmong.1, sel_X12_isAmong.2, rfl⟩
theorem d_X12_isAmong_0 : decode mX12_isAmong.2.2.1 0 = .ok (.iconst 0, 1) := by decide +kernel
theorem d_X12_isAmong_1 : decode mX12_isAmong.2.2.1 1 = .ok (.istore_n 3, 1) := by decide +kernel
theorem d_X12_isAmong_2 : decode mX12_isAmong.2.2.1 2 = .ok (.iload_n 3, 1) := by decide +kernel
theorem d_X12_isAmong_3 : decode mX12_isAmong.2.2.1 3 = .ok (.aload_n 0, 1) := by decide +kernel
theorem d_X12_isAmong_4 : decode mX12_isAmong.2.2.1 4 = .ok (.getfield 318, 3) := by decide +kernel
theorem d_X12_isAmong_7 : decode mX12_isAmong.2.2.1 7 = .ok (.if_icmp .ge 30, 3) := by decide +kernel
theorem d_X12_isAmong_37 : decode mX12_isAmong.2.2.1 37 = .ok (.iconst 0, 1) := by decide +kernel
theorem d_X12_isAmong_38 : decode mX12_isAmong.2.2.1 38 = .ok (.ireturn, 1) := by decide +kernel
theorem d_X12_isAmong_10 : decode mX12_isAmong.2.2.1 10 = .ok (.aload_n 0, 1) := by decide +kernel
theorem d_X12_isAmong_11 : decode mX12_isAmong.2.2.1 11 = .ok (.getfield 315, 3) := by decide +kernel
theorem d_X12_isAmong_14 : decode mX12_isAmong.2.2.1 14 = .ok (.iload_n 3, 1) := by decide +kernel
theorem d_X12_isAmong_15 : decode mX12_isAmong.2.2.1 15 = .ok (.iaload, 1) := by decide +kernel
theorem d_X12_isAmong_16 : decode mX12_isAmong.2.2.1 16 = .ok (.iload_n 1, 1) := by decide +kernel
theorem d_X12_isAmong_17 : decode mX12_isAmong.2.2.1 17 = .ok (.if_icmp .ne 14, 3) := by decide +kernel
theorem d_X12_isAmong_20 : decode mX12_isAmong.2.2.1 20 = .ok (.iload_n 2, 1) := by decide +kernel
theorem d_X12_isAmong_21 : decode mX12_isAmong.2.2.1 21 = .ok (.iload_n 3, 1) := by decide +kernel
theorem d_X12_isAmong_22 : decode mX12_isAmong.2.2.1 22 = .ok (.ishr, 1) := by decide +kernel
theorem d_X12_isAmong_23 : decode mX12_isAmong.2.2.1 23 = .ok (.iconst 1, 1) := by decide +kernel
theorem d_X12_isAmong_24 : decode mX12_isAmong.2.2.1 24 = .ok (.iand, 1) := by decide +kernel
theorem d_X12_isAmong_25 : decode mX12_isAmong.2.2.1 25 = .ok (.iconst 1, 1) := by decide +kernel
theorem d_X12_isAmong_26 : decode mX12_isAmong.2.2.1 26 = .ok (.if_icmp .ne 5, 3) := by decide +kernel
theorem d_X12_isAmong_29 : decode mX12_isAmong.2.2.1 29 = .ok (.iconst 1, 1) := by decide +kernel
theorem d_X12_isAmong_30 : decode mX12_isAmong.2.2.1 30 = .ok (.ireturn, 1) := by decide +kernel
theorem d_X12_isAmong_31 : decode mX12_isAmong.2.2.1 31 = .ok (.iinc 3 1, 3) := by decide +kernel
theorem d_X12_isAmong_34 : decode mX12_isAmong.2.2.1 34 = .ok (.goto (-32), 3) := by decide +kernel
theorem ok_X12_isAmong : e_m mX12_isAmong 2 := ⟨tblG_in (inT9 (List.mem_of_getElem? (i := 205) rfl)) rfl, plainFor_of_name (by decide), rfl, ini_12, by decide +kernel, by decide⟩
theorem d_X12_costOf_46 : decode mX12_costOf.2.2.1 46 = .ok (.ifCond .ne 41, 3) := by decide +kernel
theorem d_X12_costOf_161 : decode mX12_costOf.2.2.1 161 = .ok (.iload 4, 2) := by decide +kernel
theorem d_X12_costOf_163 : decode mX12_costOf.2.2.1 163 = .ok (.aload_n 0, 1) := by decide +kernel
theorem d_X12_costOf_164 : decode mX12_costOf.2.2.1 164 = .ok (.getfield 303, 3) := by decide +kernel
theorem d_X12_costOf_167 : decode mX12_costOf.2.2.1 167 = .ok (.if_icmp .ge 116, 3) := by decide +kernel
theorem d_X12_costOf_283 : decode mX12_costOf.2.2.1 283 = .ok (.aload_n 0, 1) := by decide +kernel
theorem d_X12_costOf_284 : decode mX12_costOf.2.2.1 284 = .ok (.iload_n 1, 1) := by decide +kernel
theorem d_X12_costOf_285 : decode mX12_costOf.2.2.1 285 = .ok (.aload_n 0, 1) := by decide +kernel
theorem d_X12_costOf_286 : decode mX12_costOf.2.2.1 286 = .ok (.getfield 306, 3) := by decide +kernel
theorem d_X12_costOf_289 : decode mX12_costOf.2.2.1 289 = .ok (.aload_n 0, 1) := by decide +kernel
theorem d_X12_costOf_290 : decode mX12_costOf.2.2.1 290 = .ok (.getfield 309, 3) := by decide +kernel
theorem d_X12_costOf_293 : decode mX12_costOf.2.2.1 293 = .ok (.invokevirtual 665, 3) := by decide +kernel
theorem d_X12_costOf_296 : decode mX12_costOf.2.2.1 296 = .ok (.lreturn, 1) := by decide +kernel
theorem d_X12_costOf_170 : decode mX12_costOf.2.2.1 170 = .ok (.aload_n 0, 1) := by decide +kernel
theorem d_X12_costOf_171 : decode mX12_costOf.2.2.1 171 = .ok (.getfield 255, 3) := by decide +kernel
theorem d_X12_costOf_174 : decode mX12_costOf.2.2.1 174 = .ok (.iload 4, 2) := by decide +kernel
theorem d_X12_costOf_176 : decode mX12_costOf.2.2.1 176 = .ok (.iaload, 1) := by decide +kernel
theorem d_X12_costOf_177 : decode mX12_costOf.2.2.1 177 = .ok (.iload_n 1, 1) := by decide +kernel
theorem d_X12_costOf_178 : decode mX12_costOf.2.2.1 178 = .ok (.if_icmp .ne 99, 3) := by decide +kernel
theorem d_X12_costOf_181 : decode mX12_costOf.2.2.1 181 = .ok (.aload_n 0, 1) := by decide +kernel
theorem d_X12_costOf_182 : decode mX12_costOf.2.2.1 182 = .ok (.getfield 261, 3) := by decide +kernel
theorem d_X12_costOf_185 : decode mX12_costOf.2.2.1 185 = .ok (.iload 4, 2) := by decide +kernel
theorem d_X12_costOf_187 : decode mX12_costOf.2.2.1 187 = .ok (.iaload, 1) := by decide +kernel
theorem d_X12_costOf_188 : decode mX12_costOf.2.2.1 188 = .ok (.aload_n 0, 1) := by decide +kernel
theorem d_X12_costOf_189 : decode mX12_costOf.2.2.1 189 = .ok (.getfield 306, 3) := by decide +kernel
theorem d_X12_costOf_192 : decode mX12_costOf.2.2.1 192 = .ok (.if_icmp .lt 85, 3) := by decide +kernel
theorem d_X12_costOf_195 : decode mX12_costOf.2.2.1 195 = .ok (.aload_n 0, 1) := by decide +kernel
theorem d_X12_costOf_196 : decode mX12_costOf.2.2.1 196 = .ok (.getfield 261, 3) := by decide +kernel
theorem d_X12_costOf_199 : decode mX12_costOf.2.2.1 199 = .ok (.iload 4, 2) := by decide +kernel
theorem d_X12_costOf_201 : decode mX12_costOf.2.2.1 201 = .ok (.iaload, 1) := by decide +kernel
theorem d_X12_costOf_202 : decode mX12_costOf.2.2.1 202 = .ok (.aload_n 0, 1) := by decide +kernel
theorem d_X12_costOf_203 : decode mX12_costOf.2.2.1 203 = .ok (.getfield 309, 3) := by decide +kernel
theorem d_X12_costOf_206 : decode mX12_costOf.2.2.1 206 = .ok (.if_icmp .ge 71, 3) := by decide +kernel
theorem d_X12_costOf_209 : decode mX12_costOf.2.2.1 209 = .ok (.aload_n 0, 1) := by decide +kernel
theorem d_X12_costOf_210 : decode mX12_costOf.2.2.1 210 = .ok (.aload_n 0, 1) := by decide +kernel
theorem d_X12_costOf_211 : decode mX12_costOf.2.2.1 211 = .ok (.getfield 258, 3) := by decide +kernel
theorem d_X12_costOf_214 : decode mX12_costOf.2.2.1 214 = .ok (.iload 4, 2) := by decide +kernel
theorem d_X12_costOf_216 : decode mX12_costOf.2.2.1 216 = .ok (.iaload, 1) := by decide +kernel
theorem d_X12_costOf_217 : decode mX12_costOf.2.2.1 217 = .ok (.iload_n 2, 1) := by decide +kernel
theorem d_X12_costOf_218 : decode mX12_costOf.2.2.1 218 = .ok (.invokevirtual 662, 3) := by decide +kernel
theorem d_X12_costOf_221 : decode mX12_costOf.2.2.1 221 = .ok (.ifCond .ne 6, 3) := by decide +kernel
theorem d_X12_costOf_227 : decode mX12_costOf.2.2.1 227 = .ok (.aload_n 0, 1) := by decide +kernel
theorem d_X12_costOf_228 : decode mX12_costOf.2.2.1 228 = .ok (.getfield 261, 3) := by decide +kernel
theorem d_X12_costOf_231 : decode mX12_costOf.2.2.1 231 = .ok (.iload 4, 2) := by decide +kernel
theorem d_X12_costOf_233 : decode mX12_costOf.2.2.1 233 = .ok (.iaload, 1) := by decide +kernel
theorem d_X12_costOf_234 : decode mX12_costOf.2.2.1 234 = .ok (.istore 5, 2) := by decide +kernel
theorem d_X12_costOf_224 : decode mX12_costOf.2.2.1 224 = .ok (.goto 53, 3) := by decide +kernel
theorem d_X12_costOf_236 : decode mX12_costOf.2.2.1 236 = .ok (.iload 5, 2) := by decide +kernel
theorem d_X12_costOf_238 : decode mX12_costOf.2.2.1 238 = .ok (.aload_n 0, 1) := by decide +kernel
theorem d_X12_costOf_239 : decode mX12_costOf.2.2.1 239 = .ok (.getfield 261, 3) := by decide +kernel
theorem d_X12_costOf_242 : decode mX12_costOf.2.2.1 242 = .ok (.iload 4, 2) := by decide +kernel
theorem d_X12_costOf_244 : decode mX12_costOf.2.2.1 244 = .ok (.iaload, 1) := by decide +kernel
theorem d_X12_costOf_245 : decode mX12_costOf.2.2.1 245 = .ok (.aload_n 0, 1) := by decide +kernel
theorem d_X12_costOf_246 : decode mX12_costOf.2.2.1 246 = .ok (.iload_n 1, 1) := by decide +kernel
theorem d_X12_costOf_247 : decode mX12_costOf.2.2.1 247 = .ok (.invokevirtual 591, 3) := by decide +kernel
theorem d_X12_costOf_250 : decode mX12_costOf.2.2.1 250 = .ok (.iadd, 1) := by decide +kernel
theorem d_X12_costOf_251 : decode mX12_costOf.2.2.1 251 = .ok (.if_icmp .ge 26, 3) := by decide +kernel
theorem d_X12_costOf_254 : decode mX12_costOf.2.2.1 254 = .ok (.iload 5, 2) := by decide +kernel
theorem d_X12_costOf_256 : decode mX12_costOf.2.2.1 256 = .ok (.aload_n 0, 1) := by decide +kernel
theorem d_X12_costOf_257 : decode mX12_costOf.2.2.1 257 = .ok (.getfield 309, 3) := by decide +kernel
theorem d_X12_costOf_260 : decode mX12_costOf.2.2.1 260 = .ok (.if_icmp .ge 17, 3) := by decide +kernel
theorem d_X12_costOf_263 : decode mX12_costOf.2.2.1 263 = .ok (.aload_n 0, 1) := by decide +kernel
theorem d_X12_costOf_264 : decode mX12_costOf.2.2.1 264 = .ok (.getfield 321, 3) := by decide +kernel
theorem d_X12_costOf_267 : decode mX12_costOf.2.2.1 267 = .ok (.iload 5, 2) := by decide +kernel
theorem d_X12_costOf_269 : decode mX12_costOf.2.2.1 269 = .ok (.iconst 1, 1) := by decide +kernel
theorem d_X12_costOf_270 : decode mX12_costOf.2.2.1 270 = .ok (.bastore, 1) := by decide +kernel
theorem d_X12_costOf_271 : decode mX12_costOf.2.2.1 271 = .ok (.iinc 5 1, 3) := by decide +kernel
theorem d_X12_costOf_274 : decode mX12_costOf.2.2.1 274 = .ok (.goto (-38), 3) := by decide +kernel
theorem d_X12_costOf_277 : decode mX12_costOf.2.2.1 277 = .ok (.iinc 4 1, 3) := by decide +kernel
theorem d_X12_costOf_280 : decode mX12_costOf.2.2.1 280 = .ok (.goto (-119), 3) := by decide +kernel
theorem d_X12_costOf_49 : decode mX12_costOf.2.2.1 49 = .ok (.aload_n 0, 1) := by decide +kernel
theorem d_X12_costOf_50 : decode mX12_costOf.2.2.1 50 = .ok (.getfield 237, 3) := by decide +kernel
theorem d_X12_costOf_53 : decode mX12_costOf.2.2.1 53 = .ok (.sipush 2100, 3) := by decide +kernel
theorem d_X12_costOf_56 : decode mX12_costOf.2.2.1 56 = .ok (.iload_n 1, 1) := by decide +kernel
end
/-! 38w.03 -/
section
theorem d_X12_costOf_57 : decode mX12_costOf.2.2.1 57 = .ok (.imul, 1) := by decide +kernel
theorem d_X12_costOf_58 : decode mX12_costOf.2.2.1 58 = .ok (.iload 4, 2) := by decide +kernel
theorem d_X12_costOf_60 : decode mX12_costOf.2.2.1 60 = .ok (.iadd, 1) := by decide +kernel
theorem d_X12_costOf_61 : decode mX12_costOf.2.2.1 61 = .ok (.iaload, 1) := by decide +kernel
theorem d_X12_costOf_62 : decode mX12_costOf.2.2.1 62 = .ok (.iconst (-1), 1) := by decide +kernel
theorem d_X12_costOf_63 : decode mX12_costOf.2.2.1 63 = .ok (.if_icmp .eq 28, 3) := by decide +kernel
theorem d_X12_costOf_66 : decode mX12_costOf.2.2.1 66 = .ok (.aload_n 0, 1) := by decide +kernel
theorem d_X12_costOf_67 : decode mX12_costOf.2.2.1 67 = .ok (.aload_n 0, 1) := by decide +kernel
theorem d_X12_costOf_68 : decode mX12_costOf.2.2.1 68 = .ok (.getfield 237, 3) := by decide +kernel
theorem d_X12_costOf_71 : decode mX12_costOf.2.2.1 71 = .ok (.sipush 2100, 3) := by decide +kernel
theorem d_X12_costOf_74 : decode mX12_costOf.2.2.1 74 = .ok (.iload_n 1, 1) := by decide +kernel
theorem d_X12_costOf_75 : decode mX12_costOf.2.2.1 75 = .ok (.imul, 1) := by decide +kernel
theorem d_X12_costOf_76 : decode mX12_costOf.2.2.1 76 = .ok (.iload 4, 2) := by decide +kernel
theorem d_X12_costOf_78 : decode mX12_costOf.2.2.1 78 = .ok (.iadd, 1) := by decide +kernel
theorem d_X12_costOf_79 : decode mX12_costOf.2.2.1 79 = .ok (.iaload, 1) := by decide +kernel
theorem d_X12_costOf_80 : decode mX12_costOf.2.2.1 80 = .ok (.iload_n 2, 1) := by decide +kernel
theorem d_X12_costOf_81 : decode mX12_costOf.2.2.1 81 = .ok (.invokevirtual 662, 3) := by decide +kernel
theorem d_X12_costOf_84 : decode mX12_costOf.2.2.1 84 = .ok (.ifCond .eq 7, 3) := by decide +kernel
theorem d_X12_costOf_91 : decode mX12_costOf.2.2.1 91 = .ok (.iconst 0, 1) := by decide +kernel
theorem d_X12_costOf_87 : decode mX12_costOf.2.2.1 87 = .ok (.iconst 1, 1) := by decide +kernel
theorem d_X12_costOf_88 : decode mX12_costOf.2.2.1 88 = .ok (.goto 4, 3) := by decide +kernel
theorem d_X12_costOf_92 : decode mX12_costOf.2.2.1 92 = .ok (.istore 5, 2) := by decide +kernel
theorem d_X12_costOf_94 : decode mX12_costOf.2.2.1 94 = .ok (.iload_n 3, 1) := by decide +kernel
theorem d_X12_costOf_95 : decode mX12_costOf.2.2.1 95 = .ok (.ifCond .le 7, 3) := by decide +kernel
theorem d_X12_costOf_102 : decode mX12_costOf.2.2.1 102 = .ok (.iconst 0, 1) := by decide +kernel
theorem d_X12_costOf_103 : decode mX12_costOf.2.2.1 103 = .ok (.istore 6, 2) := by decide +kernel
theorem d_X12_costOf_105 : decode mX12_costOf.2.2.1 105 = .ok (.iload 5, 2) := by decide +kernel
theorem d_X12_costOf_107 : decode mX12_costOf.2.2.1 107 = .ok (.ifCond .eq 11, 3) := by decide +kernel
theorem d_X12_costOf_118 : decode mX12_costOf.2.2.1 118 = .ok (.iload_n 3, 1) := by decide +kernel
theorem d_X12_costOf_119 : decode mX12_costOf.2.2.1 119 = .ok (.ifCond .le 9, 3) := by decide +kernel
theorem d_X12_costOf_128 : decode mX12_costOf.2.2.1 128 = .ok (.iconst 0, 1) := by decide +kernel
theorem d_X12_costOf_110 : decode mX12_costOf.2.2.1 110 = .ok (.aload_n 0, 1) := by decide +kernel
theorem d_X12_costOf_111 : decode mX12_costOf.2.2.1 111 = .ok (.iload_n 1, 1) := by decide +kernel
theorem d_X12_costOf_112 : decode mX12_costOf.2.2.1 112 = .ok (.invokevirtual 591, 3) := by decide +kernel
theorem d_X12_costOf_115 : decode mX12_costOf.2.2.1 115 = .ok (.goto 14, 3) := by decide +kernel
theorem d_X12_costOf_129 : decode mX12_costOf.2.2.1 129 = .ok (.istore_n 3, 1) := by decide +kernel
theorem d_X12_costOf_130 : decode mX12_costOf.2.2.1 130 = .ok (.aload_n 0, 1) := by decide +kernel
theorem d_X12_costOf_131 : decode mX12_costOf.2.2.1 131 = .ok (.getfield 321, 3) := by decide +kernel
theorem d_X12_costOf_134 : decode mX12_costOf.2.2.1 134 = .ok (.iload 4, 2) := by decide +kernel
theorem d_X12_costOf_136 : decode mX12_costOf.2.2.1 136 = .ok (.iload 5, 2) := by decide +kernel
theorem d_X12_costOf_138 : decode mX12_costOf.2.2.1 138 = .ok (.ifCond .ne 8, 3) := by decide +kernel
theorem d_X12_costOf_141 : decode mX12_costOf.2.2.1 141 = .ok (.iload 6, 2) := by decide +kernel
theorem d_X12_costOf_143 : decode mX12_costOf.2.2.1 143 = .ok (.ifCond .eq 7, 3) := by decide +kernel
theorem d_X12_costOf_150 : decode mX12_costOf.2.2.1 150 = .ok (.iconst 0, 1) := by decide +kernel
theorem d_X12_costOf_146 : decode mX12_costOf.2.2.1 146 = .ok (.iconst 1, 1) := by decide +kernel
theorem d_X12_costOf_147 : decode mX12_costOf.2.2.1 147 = .ok (.goto 4, 3) := by decide +kernel
theorem d_X12_costOf_151 : decode mX12_costOf.2.2.1 151 = .ok (.bastore, 1) := by decide +kernel
theorem d_X12_costOf_152 : decode mX12_costOf.2.2.1 152 = .ok (.iinc 4 1, 3) := by decide +kernel
theorem d_X12_costOf_155 : decode mX12_costOf.2.2.1 155 = .ok (.goto (-147), 3) := by decide +kernel
theorem d_X12_costOf_98 : decode mX12_costOf.2.2.1 98 = .ok (.iconst 1, 1) := by decide +kernel
theorem d_X12_costOf_99 : decode mX12_costOf.2.2.1 99 = .ok (.goto 4, 3) := by decide +kernel
theorem d_X12_costOf_122 : decode mX12_costOf.2.2.1 122 = .ok (.iload_n 3, 1) := by decide +kernel
theorem d_X12_costOf_123 : decode mX12_costOf.2.2.1 123 = .ok (.iconst 1, 1) := by decide +kernel
theorem d_X12_costOf_124 : decode mX12_costOf.2.2.1 124 = .ok (.isub, 1) := by decide +kernel
theorem d_X12_costOf_125 : decode mX12_costOf.2.2.1 125 = .ok (.goto 4, 3) := by decide +kernel
theorem ok_X12_costOf : e_m mX12_costOf 2 := ⟨tblG_in (inT9 (List.mem_of_getElem? (i := 201) rfl)) rfl, plainFor_of_name (by decide), rfl, ini_12, by decide +kernel, by decide⟩
theorem d_X12_byTurns_178 : decode mX12_byTurns.2.2.1 178 = .ok (.lastore, 1) := by decide +kernel
theorem d_X12_byTurns_179 : decode mX12_byTurns.2.2.1 179 = .ok (.iinc 8 1, 3) := by decide +kernel
theorem d_X12_byTurns_182 : decode mX12_byTurns.2.2.1 182 = .ok (.goto (-28), 3) := by decide +kernel
theorem d_X12_byTurns_185 : decode mX12_byTurns.2.2.1 185 = .ok (.lconst 0, 1) := by decide +kernel
theorem d_X12_byTurns_186 : decode mX12_byTurns.2.2.1 186 = .ok (.lstore 8, 2) := by decide +kernel
theorem d_X12_byTurns_188 : decode mX12_byTurns.2.2.1 188 = .ok (.iconst 0, 1) := by decide +kernel
theorem d_X12_byTurns_189 : decode mX12_byTurns.2.2.1 189 = .ok (.istore 10, 2) := by decide +kernel
theorem d_X12_byTurns_191 : decode mX12_byTurns.2.2.1 191 = .ok (.iload 10, 2) := by decide +kernel
theorem d_X12_byTurns_193 : decode mX12_byTurns.2.2.1 193 = .ok (.iconst 1, 1) := by decide +kernel
theorem d_X12_byTurns_194 : decode mX12_byTurns.2.2.1 194 = .ok (.aload_n 0, 1) := by decide +kernel
theorem d_X12_byTurns_195 : decode mX12_byTurns.2.2.1 195 = .ok (.getfield 318, 3) := by decide +kernel
theorem d_X12_byTurns_198 : decode mX12_byTurns.2.2.1 198 = .ok (.ishl, 1) := by decide +kernel
theorem d_X12_byTurns_199 : decode mX12_byTurns.2.2.1 199 = .ok (.if_icmp .ge 75, 3) := by decide +kernel
theorem d_X12_byTurns_202 : decode mX12_byTurns.2.2.1 202 = .ok (.iload 10, 2) := by decide +kernel
theorem d_X12_byTurns_204 : decode mX12_byTurns.2.2.1 204 = .ok (.iload 7, 2) := by decide +kernel
theorem d_X12_byTurns_206 : decode mX12_byTurns.2.2.1 206 = .ok (.ishr, 1) := by decide +kernel
theorem d_X12_byTurns_207 : decode mX12_byTurns.2.2.1 207 = .ok (.iconst 1, 1) := by decide +kernel
theorem d_X12_byTurns_208 : decode mX12_byTurns.2.2.1 208 = .ok (.iand, 1) := by decide +kernel
theorem d_X12_byTurns_209 : decode mX12_byTurns.2.2.1 209 = .ok (.iconst 1, 1) := by decide +kernel
theorem d_X12_byTurns_210 : decode mX12_byTurns.2.2.1 210 = .ok (.if_icmp .ne 6, 3) := by decide +kernel
theorem d_X12_byTurns_216 : decode mX12_byTurns.2.2.1 216 = .ok (.iload 10, 2) := by decide +kernel
theorem d_X12_byTurns_218 : decode mX12_byTurns.2.2.1 218 = .ok (.i2l, 1) := by decide +kernel
theorem d_X12_byTurns_219 : decode mX12_byTurns.2.2.1 219 = .ok (.invokestatic 653, 3) := by decide +kernel
theorem d_X12_byTurns_222 : decode mX12_byTurns.2.2.1 222 = .ok (.istore 11, 2) := by decide +kernel
theorem d_X12_byTurns_224 : decode mX12_byTurns.2.2.1 224 = .ok (.lload 8, 2) := by decide +kernel
theorem d_X12_byTurns_226 : decode mX12_byTurns.2.2.1 226 = .ok (.iload 11, 2) := by decide +kernel
theorem d_X12_byTurns_228 : decode mX12_byTurns.2.2.1 228 = .ok (.invokestatic 674, 3) := by decide +kernel
def mX12_orders : MD := (12, yX12_orders, cX12_orders, 4, some .long)
theorem s_12_674 : e_siteS 12 674 mX12_orders := ⟨tblG_in (inT9 (List.mem_of_getElem? (i := 210) rfl)) rfl, tblG_in (inT9 (List.mem_of_getElem? (i := 211) rfl)) rfl⟩
theorem d_X12_orders_0 : decode mX12_orders.2.2.1 0 = .ok (.lconst 1, 1) := by decide +kernel
theorem d_X12_orders_1 : decode mX12_orders.2.2.1 1 = .ok (.lstore_n 1, 1) := by decide +kernel
theorem d_X12_orders_2 : decode mX12_orders.2.2.1 2 = .ok (.iconst 2, 1) := by decide +kernel
theorem d_X12_orders_3 : decode mX12_orders.2.2.1 3 = .ok (.istore_n 3, 1) := by decide +kernel
theorem d_X12_orders_4 : decode mX12_orders.2.2.1 4 = .ok (.iload_n 3, 1) := by decide +kernel
theorem d_X12_orders_5 : decode mX12_orders.2.2.1 5 = .ok (.iload_n 0, 1) := by decide +kernel
theorem d_X12_orders_6 : decode mX12_orders.2.2.1 6 = .ok (.if_icmp .gt 14, 3) := by decide +kernel
theorem d_X12_orders_20 : decode mX12_orders.2.2.1 20 = .ok (.lload_n 1, 1) := by decide +kernel
theorem d_X12_orders_21 : decode mX12_orders.2.2.1 21 = .ok (.lreturn, 1) := by decide +kernel
theorem d_X12_orders_9 : decode mX12_orders.2.2.1 9 = .ok (.lload_n 1, 1) := by decide +kernel
theorem d_X12_orders_10 : decode mX12_orders.2.2.1 10 = .ok (.iload_n 3, 1) := by decide +kernel
theorem d_X12_orders_11 : decode mX12_orders.2.2.1 11 = .ok (.i2l, 1) := by decide +kernel
theorem d_X12_orders_12 : decode mX12_orders.2.2.1 12 = .ok (.lmul, 1) := by decide +kernel
theorem d_X12_orders_13 : decode mX12_orders.2.2.1 13 = .ok (.lstore_n 1, 1) := by decide +kernel
theorem d_X12_orders_14 : decode mX12_orders.2.2.1 14 = .ok (.iinc 3 1, 3) := by decide +kernel
theorem d_X12_orders_17 : decode mX12_orders.2.2.1 17 = .ok (.goto (-13), 3) := by decide +kernel
theorem ok_X12_orders : e_m mX12_orders 1 := ⟨tblG_in (inT9 (List.mem_of_getElem? (i := 212) rfl)) rfl, plainFor_of_name (by decide), rfl, ini_12, by decide +kernel, by decide⟩
theorem d_X12_byTurns_231 : decode mX12_byTurns.2.2.1 231 = .ok (.aload_n 0, 1) := by decide +kernel
theorem d_X12_byTurns_232 : decode mX12_byTurns.2.2.1 232 = .ok (.getfield 318, 3) := by decide +kernel
theorem d_X12_byTurns_235 : decode mX12_byTurns.2.2.1 235 = .ok (.iload 11, 2) := by decide +kernel
theorem d_X12_byTurns_237 : decode mX12_byTurns.2.2.1 237 = .ok (.isub, 1) := by decide +kernel
theorem d_X12_byTurns_238 : decode mX12_byTurns.2.2.1 238 = .ok (.iconst 1, 1) := by decide +kernel
theorem d_X12_byTurns_239 : decode mX12_byTurns.2.2.1 239 = .ok (.isub, 1) := by decide +kernel
theorem d_X12_byTurns_240 : decode mX12_byTurns.2.2.1 240 = .ok (.invokestatic 674, 3) := by decide +kernel
theorem d_X12_byTurns_243 : decode mX12_byTurns.2.2.1 243 = .ok (.lmul, 1) := by decide +kernel
theorem d_X12_byTurns_244 : decode mX12_byTurns.2.2.1 244 = .ok (.aload_n 0, 1) := by decide +kernel
theorem d_X12_byTurns_245 : decode mX12_byTurns.2.2.1 245 = .ok (.getfield 324, 3) := by decide +kernel
theorem d_X12_byTurns_248 : decode mX12_byTurns.2.2.1 248 = .ok (.iload 10, 2) := by decide +kernel
theorem d_X12_byTurns_250 : decode mX12_byTurns.2.2.1 250 = .ok (.iconst 1, 1) := by decide +kernel
theorem d_X12_byTurns_251 : decode mX12_byTurns.2.2.1 251 = .ok (.iload 7, 2) := by decide +kernel
theorem d_X12_byTurns_253 : decode mX12_byTurns.2.2.1 253 = .ok (.ishl, 1) := by decide +kernel
theorem d_X12_byTurns_254 : decode mX12_byTurns.2.2.1 254 = .ok (.ior, 1) := by decide +kernel
theorem d_X12_byTurns_255 : decode mX12_byTurns.2.2.1 255 = .ok (.laload, 1) := by decide +kernel
theorem d_X12_byTurns_256 : decode mX12_byTurns.2.2.1 256 = .ok (.aload_n 0, 1) := by decide +kernel
theorem d_X12_byTurns_257 : decode mX12_byTurns.2.2.1 257 = .ok (.getfield 324, 3) := by decide +kernel
theorem d_X12_byTurns_260 : decode mX12_byTurns.2.2.1 260 = .ok (.iload 10, 2) := by decide +kernel
theorem d_X12_byTurns_262 : decode mX12_byTurns.2.2.1 262 = .ok (.laload, 1) := by decide +kernel
theorem d_X12_byTurns_263 : decode mX12_byTurns.2.2.1 263 = .ok (.lsub, 1) := by decide +kernel
theorem d_X12_byTurns_264 : decode mX12_byTurns.2.2.1 264 = .ok (.lmul, 1) := by decide +kernel
theorem d_X12_byTurns_265 : decode mX12_byTurns.2.2.1 265 = .ok (.ladd, 1) := by decide +kernel
theorem d_X12_byTurns_266 : decode mX12_byTurns.2.2.1 266 = .ok (.lstore 8, 2) := by decide +kernel
theorem d_X12_byTurns_268 : decode mX12_byTurns.2.2.1 268 = .ok (.iinc 10 1, 3) := by decide +kernel
theorem d_X12_byTurns_271 : decode mX12_byTurns.2.2.1 271 = .ok (.goto (-80), 3) := by decide +kernel
theorem d_X12_byTurns_213 : decode mX12_byTurns.2.2.1 213 = .ok (.goto 55, 3) := by decide +kernel
theorem d_X12_byTurns_274 : decode mX12_byTurns.2.2.1 274 = .ok (.aload_n 0, 1) := by decide +kernel
theorem d_X12_byTurns_275 : decode mX12_byTurns.2.2.1 275 = .ok (.getfield 318, 3) := by decide +kernel
theorem d_X12_byTurns_278 : decode mX12_byTurns.2.2.1 278 = .ok (.invokestatic 674, 3) := by decide +kernel
theorem d_X12_byTurns_281 : decode mX12_byTurns.2.2.1 281 = .ok (.lstore 10, 2) := by decide +kernel
theorem d_X12_byTurns_283 : decode mX12_byTurns.2.2.1 283 = .ok (.lload 8, 2) := by decide +kernel
theorem d_X12_byTurns_285 : decode mX12_byTurns.2.2.1 285 = .ok (.lload 10, 2) := by decide +kernel
theorem d_X12_byTurns_287 : decode mX12_byTurns.2.2.1 287 = .ok (.invokestatic 677, 3) := by decide +kernel
def mX12_common : MD := (12, yX12_common, cX12_common, 10, some .long)
theorem s_12_677 : e_siteS 12 677 mX12_common := ⟨tblG_in (inT9 (List.mem_of_getElem? (i := 213) rfl)) rfl, tblG_in (inT9 (List.mem_of_getElem? (i := 214) rfl)) rfl⟩
theorem d_X12_common_0 : decode mX12_common.2.2.1 0 = .ok (.lload_n 0, 1) := by decide +kernel
theorem d_X12_common_1 : decode mX12_common.2.2.1 1 = .ok (.lconst 0, 1) := by decide +kernel
theorem d_X12_common_2 : decode mX12_common.2.2.1 2 = .ok (.lcmp, 1) := by decide +kernel
theorem d_X12_common_3 : decode mX12_common.2.2.1 3 = .ok (.ifCond .ge 8, 3) := by decide +kernel
theorem d_X12_common_11 : decode mX12_common.2.2.1 11 = .ok (.lload_n 0, 1) := by decide +kernel
theorem d_X12_common_6 : decode mX12_common.2.2.1 6 = .ok (.lload_n 0, 1) := by decide +kernel
theorem d_X12_common_7 : decode mX12_common.2.2.1 7 = .ok (.lneg, 1) := by decide +kernel
theorem d_X12_common_8 : decode mX12_common.2.2.1 8 = .ok (.goto 4, 3) := by decide +kernel
theorem d_X12_common_12 : decode mX12_common.2.2.1 12 = .ok (.lstore 4, 2) := by decide +kernel
theorem d_X12_common_14 : decode mX12_common.2.2.1 14 = .ok (.lload_n 2, 1) := by decide +kernel
theorem d_X12_common_15 : decode mX12_common.2.2.1 15 = .ok (.lstore 6, 2) := by decide +kernel
theorem d_X12_common_17 : decode mX12_common.2.2.1 17 = .ok (.lload 6, 2) := by decide +kernel
theorem d_X12_common_19 : decode mX12_common.2.2.1 19 = .ok (.lconst 0, 1) := by decide +kernel
theorem d_X12_common_20 : decode mX12_common.2.2.1 20 = .ok (.lcmp, 1) := by decide +kernel
theorem d_X12_common_21 : decode mX12_common.2.2.1 21 = .ok (.ifCond .eq 21, 3) := by decide +kernel
theorem d_X12_common_42 : decode mX12_common.2.2.1 42 = .ok (.lload 4, 2) := by decide +kernel
theorem d_X12_common_44 : decode mX12_common.2.2.1 44 = .ok (.lreturn, 1) := by decide +kernel
theorem d_X12_common_24 : decode mX12_common.2.2.1 24 = .ok (.lload 4, 2) := by decide +kernel
theorem d_X12_common_26 : decode mX12_common.2.2.1 26 = .ok (.lload 6, 2) := by decide +kernel
theorem d_X12_common_28 : decode mX12_common.2.2.1 28 = .ok (.lrem, 1) := by decide +kernel
theorem d_X12_common_29 : decode mX12_common.2.2.1 29 = .ok (.lstore 8, 2) := by decide +kernel
theorem d_X12_common_31 : decode mX12_common.2.2.1 31 = .ok (.lload 6, 2) := by decide +kernel
theorem d_X12_common_33 : decode mX12_common.2.2.1 33 = .ok (.lstore 4, 2) := by decide +kernel
theorem d_X12_common_35 : decode mX12_common.2.2.1 35 = .ok (.lload 8, 2) := by decide +kernel
theorem d_X12_common_37 : decode mX12_common.2.2.1 37 = .ok (.lstore 6, 2) := by decide +kernel
theorem d_X12_common_39 : decode mX12_common.2.2.1 39 = .ok (.goto (-22), 3) := by decide +kernel
theorem ok_X12_common : e_m mX12_common 2 := ⟨tblG_in (inT9 (List.mem_of_getElem? (i := 215) rfl)) rfl, plainFor_of_name (by decide), rfl, ini_12, by decide +kernel, by decide⟩
theorem d_X12_byTurns_290 : decode mX12_byTurns.2.2.1 290 = .ok (.lstore 12, 2) := by decide +kernel
theorem d_X12_byTurns_292 : decode mX12_byTurns.2.2.1 292 = .ok (.iload 4, 2) := by decide +kernel
theorem d_X12_byTurns_294 : decode mX12_byTurns.2.2.1 294 = .ok (.ifCond .eq 11, 3) := by decide +kernel
theorem d_X12_byTurns_305 : decode mX12_byTurns.2.2.1 305 = .ok (.lload 10, 2) := by decide +kernel
theorem d_X12_byTurns_307 : decode mX12_byTurns.2.2.1 307 = .ok (.lload 12, 2) := by decide +kernel
theorem d_X12_byTurns_309 : decode mX12_byTurns.2.2.1 309 = .ok (.ldiv, 1) := by decide +kernel
theorem d_X12_byTurns_310 : decode mX12_byTurns.2.2.1 310 = .ok (.lreturn, 1) := by decide +kernel
theorem d_X12_byTurns_297 : decode mX12_byTurns.2.2.1 297 = .ok (.lload 8, 2) := by decide +kernel
theorem d_X12_byTurns_299 : decode mX12_byTurns.2.2.1 299 = .ok (.lload 12, 2) := by decide +kernel
theorem d_X12_byTurns_301 : decode mX12_byTurns.2.2.1 301 = .ok (.ldiv, 1) := by decide +kernel
theorem d_X12_byTurns_302 : decode mX12_byTurns.2.2.1 302 = .ok (.goto 8, 3) := by decide +kernel
theorem d_X12_byTurns_124 : decode mX12_byTurns.2.2.1 124 = .ok (.aload_n 0, 1) := by decide +kernel
theorem d_X12_byTurns_125 : decode mX12_byTurns.2.2.1 125 = .ok (.getfield 315, 3) := by decide +kernel
theorem d_X12_byTurns_128 : decode mX12_byTurns.2.2.1 128 = .ok (.aload_n 0, 1) := by decide +kernel
theorem d_X12_byTurns_129 : decode mX12_byTurns.2.2.1 129 = .ok (.getfield 318, 3) := by decide +kernel
theorem d_X12_byTurns_132 : decode mX12_byTurns.2.2.1 132 = .ok (.iload 8, 2) := by decide +kernel
theorem d_X12_byTurns_134 : decode mX12_byTurns.2.2.1 134 = .ok (.iastore, 1) := by decide +kernel
theorem d_X12_byTurns_135 : decode mX12_byTurns.2.2.1 135 = .ok (.aload_n 0, 1) := by decide +kernel
theorem d_X12_byTurns_136 : decode mX12_byTurns.2.2.1 136 = .ok (.dup, 1) := by decide +kernel
theorem d_X12_byTurns_137 : decode mX12_byTurns.2.2.1 137 = .ok (.getfield 318, 3) := by decide +kernel
theorem d_X12_byTurns_140 : decode mX12_byTurns.2.2.1 140 = .ok (.iconst 1, 1) := by decide +kernel
theorem d_X12_byTurns_141 : decode mX12_byTurns.2.2.1 141 = .ok (.iadd, 1) := by decide +kernel
theorem d_X12_byTurns_142 : decode mX12_byTurns.2.2.1 142 = .ok (.putfield 318, 3) := by decide +kernel
theorem d_X12_byTurns_145 : decode mX12_byTurns.2.2.1 145 = .ok (.iinc 8 1, 3) := by decide +kernel
theorem d_X12_byTurns_148 : decode mX12_byTurns.2.2.1 148 = .ok (.goto (-65), 3) := by decide +kernel
end
/-! 39.00 -/
section
set_option maxRecDepth 100000 in
set_option maxHeartbeats 4000000 in
theorem ns_X12_isPart_120 {l : Launch} {K : EC} {M0 : Mem} {G126_0 : Int} (hI : In Tru M0) (k126_0 : rd M0 126 0 = G126_0) (en_120_12 : rd M0 120 12 = 0) (a1 : Int) (ha1 : (-2147483648) ≤ a1 ∧ a1 ≤ 2147483647)  : Tr l K 1 mX12_isPart 0 [(0, (2, 120)), (1, (0, a1))] [] M0 (fun M' r => St Tru ws_X12_isPart_120 as_X12_isPart_120 M0 M' ∧ ∃ v : Int, r = some (0, v) ∧ 0 ≤ v ∧ v ≤ 1 ∧ Hd (v = 0 ∨ (0 ≤ a1 ∧ a1 < G126_0))) := by
  subst k126_0
  refine Tr.imp (sp_X12_isPart_120 hI en_120_12 a1 ha1) ?_
  rintro M' _ ⟨hS, v, rfl, lr, ur, z0⟩
  rewrite [show rd M' 126 0 = rd M0 126 0 from ((St.kp hS (by decide) (by decide) (by decide)).trans rfl)] at z0
  exact ⟨hS, v, rfl, lr, ur, hd_i z0⟩

set_option maxRecDepth 100000 in
set_option maxHeartbeats 4000000 in
theorem ns_X12_isLine_120 {l : Launch} {K : EC} {M0 : Mem} {G129_0 : Int} (hI : In Tru M0) (k129_0 : rd M0 129 0 = G129_0) (en_120_12 : rd M0 120 12 = 0) (a1 : Int) (ha1 : (-2147483648) ≤ a1 ∧ a1 ≤ 2147483647)  : Tr l K 1 mX12_isLine 0 [(0, (2, 120)), (1, (0, a1))] [] M0 (fun M' r => St Tru ws_X12_isLine_120 as_X12_isLine_120 M0 M' ∧ ∃ v : Int, r = some (0, v) ∧ 0 ≤ v ∧ v ≤ 1 ∧ Hd (v = 0 ∨ (0 ≤ a1 ∧ a1 < G129_0))) := by
  subst k129_0
  refine Tr.imp (sp_X12_isLine_120 hI en_120_12 a1 ha1) ?_
  rintro M' _ ⟨hS, v, rfl, lr, ur, z0⟩
  rewrite [show rd M' 129 0 = rd M0 129 0 from ((St.kp hS (by decide) (by decide) (by decide)).trans rfl)] at z0
  exact ⟨hS, v, rfl, lr, ur, hd_i z0⟩

set_option maxRecDepth 100000 in
set_option maxHeartbeats 4000000 in
theorem ns_X12_stateAt_120 {l : Launch} {K : EC} {M0 : Mem} (hI : In Tru M0)   (a1 : Int) (ha1 : 0 ≤ a1 ∧ a1 ≤ 5) (a2 : Int) (ha2 : 0 ≤ a2 ∧ a2 ≤ 2099)  : Tr l K 0 mX12_stateAt 0 [(0, (2, 120)), (1, (0, a1)), (2, (0, a2))] [] M0 (fun M' r => St Tru ws_X12_stateAt_120 as_X12_stateAt_120 M0 M' ∧ ∃ v : Int, r = some (0, v) ∧ 0 ≤ v ∧ v ≤ 3 ∧ (v = rd M0 163 (2100 * a1 + a2))) := by
  refine Tr.imp (sp_X12_stateAt_120 hI a1 ha1 a2 ha2) ?_
  rintro M' _ ⟨hS, v, rfl, lr, ur, z0⟩
  exact ⟨hS, v, rfl, lr, ur, z0⟩

set_option maxRecDepth 100000 in
set_option maxHeartbeats 4000000 in
theorem ns_X12_finds_120 {l : Launch} {K : EC} {M0 : Mem} (hI : In Tru M0)   (a1 : Int) (ha1 : 0 ≤ a1 ∧ a1 ≤ 5) (a2 : Int) (ha2 : (-2147483648) ≤ a2 ∧ a2 ≤ 2147483647)  : Tr l K 1 mX12_finds 0 [(0, (2, 120)), (1, (0, a1)), (2, (0, a2))] [] M0 (fun M' r => St Tru ws_X12_finds_120 as_X12_finds_120 M0 M' ∧ ∃ v : Int, r = some (0, v) ∧ 0 ≤ v ∧ v ≤ 1 ∧ Hd (v = 0 ∨ a2 ≤ 2100)) := by
  refine Tr.imp (sp_X12_finds_120 hI a1 ha1 a2 ha2) ?_
  rintro M' _ ⟨hS, v, rfl, lr, ur, z0⟩
  exact ⟨hS, v, rfl, lr, ur, hd_i z0⟩

set_option maxRecDepth 100000 in
set_option maxHeartbeats 4000000 in
theorem ns_X12_tails_120 {l : Launch} {K : EC} {M0 : Mem} {G126_0 : Int} (hI : In Tru M0) (k126_0 : rd M0 126 0 = G126_0) (en_120_12 : rd M0 120 12 = 0) (a1 : Int) (ha1 : 0 ≤ a1 ∧ a1 ≤ 5)  (hF_Bk0 : Bk0 M0) : Tr l K 1 mX12_tails 0 [(0, (2, 120)), (1, (0, a1))] [] M0 (fun M' r => St Tru ws_X12_tails_120 as_X12_tails_120 M0 M' ∧ ∃ v : Int, r = some (0, v) ∧ (-2147483648) ≤ v ∧ v ≤ 2147483647 ∧ Hd (G126_0 ≤ a1 ∨ v ≤ 50)) := by
  subst k126_0
  refine Tr.imp (sp_X12_tails_120 hI en_120_12 a1 ha1 hF_Bk0) ?_
  rintro M' _ ⟨hS, v, rfl, lr, ur, z0⟩
  rewrite [show rd M' 126 0 = rd M0 126 0 from ((St.kp hS (by decide) (by decide) (by decide)).trans rfl)] at z0
  exact ⟨hS, v, rfl, lr, ur, hd_i z0⟩

def ws_X12_rows_120 : List (Int × Int) := []
def as_X12_rows_120 : List Int := []
def q_X12_rows_120 (M0 M' : Mem) (r : Option PV) : Prop := St Tru ws_X12_rows_120 as_X12_rows_120 M0 M' ∧ ∃ v : Int, r = some (1, v) ∧ (-9223372036854775808) ≤ v ∧ v ≤ 9223372036854775807
set_option maxRecDepth 100000 in
set_option maxHeartbeats 4000000 in
theorem sp_X12_rows_120 {l : Launch} {K : EC} {M0 : Mem} (hI : In Tru M0) (en_120_12 : rd M0 120 12 = 0) (a1 : Int) (ha1 : 0 ≤ a1 ∧ a1 ≤ 5) (a2 : Int) (ha2 : 0 ≤ a2 ∧ a2 ≤ 2100) (a3 : Int) (ha3 : 0 ≤ a3 ∧ a3 ≤ 2100)  (hF_Bk0 : Bk0 M0) : Tr l K 2 mX12_rows 0 [(0, (2, 120)), (1, (0, a1)), (2, (0, a2)), (3, (0, a3))] [] M0 (q_X12_rows_120 M0) := by
  have hS : St Tru ws_X12_rows_120 as_X12_rows_120 M0 M0 := St.rf hI
  refine Tr.lconst (pc := 0) (v := 0) d_X12_rows_0 rfl (by decide) ?_
  refine Tr.lstore (pc := 1) (i := 4) (ls2 := [(4, (1, 0)), (0, (2, 120)), (1, (0, a1)), (2, (0, a2)), (3, (0, a3))]) d_X12_rows_1 (by decide) rfl ?_
  refine Tr.iload_n (pc := 3) (i := 2) d_X12_rows_3 rfl rfl ?_
  refine Tr.istore (pc := 4) (i := 6) (ls2 := [(6, (0, a2)), (4, (1, 0)), (0, (2, 120)), (1, (0, a1)), (2, (0, a2)), (3, (0, a3))]) d_X12_rows_4 (by decide) rfl ?_
  have J6 : ∀ (n6 : Nat) (M : Mem) (p6_4 p6_6 : Int), St Tru ws_X12_rows_120 as_X12_rows_120 M0 M → ((-9223372036854775808) ≤ p6_4 ∧ p6_4 ≤ 9223372036854775807) → (0 ≤ p6_6 ∧ p6_6 ≤ 2100) → (a2 ≤ p6_6) → (2100 - p6_6).toNat < n6 → Tr l K 2 mX12_rows 6 [(0, (2, 120)), (1, (0, a1)), (2, (0, a2)), (3, (0, a3)), (4, (1, p6_4)), (6, (0, p6_6))] [] M (q_X12_rows_120 M0) := by
    intro n6
    induction n6 with
    | zero => intro M p6_4 p6_6 hS bp6_4 bp6_6  t6_0 hm6; exact absurd hm6 (Nat.not_lt_zero _)
    | succ n6 J6 =>
      intro M p6_4 p6_6 hS bp6_4 bp6_6  t6_0 hm6
      refine Tr.iload (pc := 6) (i := 6) d_X12_rows_6 rfl ?_
      refine Tr.iload_n (pc := 8) (i := 3) d_X12_rows_8 rfl rfl ?_
      refine Tr.icmp_ge (pc := 9) (tgt := 80) d_X12_rows_9 rfl (fun c9 => ?_) (fun c9 => ?_)
      · refine Tr.lload (pc := 80) (i := 4) d_X12_rows_80 rfl ?_
        exact Tr.lret (pc := 82) d_X12_rows_82 rfl ⟨hS, _, rfl, by omega, by omega⟩
      · refine Tr.aload_n (pc := 12) (i := 0) d_X12_rows_12 rfl rfl ?_
        refine Tr.getf (pc := 13) d_X12_rows_13 f_12_321 (by decide) (by decide) (ty_120 hS.1.1) ?_
        refine Tr.tp 177 (fx_120_102 hS.1.1) ?_
        refine Tr.iload (pc := 16) (i := 6) d_X12_rows_16 rfl ?_
        refine Tr.zald (pc := 18) d_X12_rows_18 (ty_177 hS.1.1) (by omega) (by omega) ?_
        refine Tr.gen (P := fun v => 0 ≤ v ∧ v ≤ 1) (ar_177 hS.1.2.1 _) (fun r18 er18 br18 => ?_)
        have J74 : ∀ (M : Mem) (p74_4 : Int), St Tru ws_X12_rows_120 as_X12_rows_120 M0 M → ((-9223372036854775808) ≤ p74_4 ∧ p74_4 ≤ 9223372036854775807) → rd M 177 p6_6 = r18 → (a2 ≤ p6_6) → Tr l K 2 mX12_rows 74 [(0, (2, 120)), (1, (0, a1)), (2, (0, a2)), (3, (0, a3)), (4, (1, p74_4)), (6, (0, p6_6))] [] M (q_X12_rows_120 M0) := by
          intro M p74_4 hS bp74_4 k74_177_p6_610 t74_0
          refine Tr.iincV (pc := 74) (n2 := (p6_6 + 1)) (ls2 := [(6, (0, (p6_6 + 1))), (0, (2, 120)), (1, (0, a1)), (2, (0, a2)), (3, (0, a3)), (4, (1, p74_4))]) d_X12_rows_74 rfl (by decide) ((w32_id (by omega)).trans (by omega)) rfl ?_
          refine Tr.goto (pc := 77) (tgt := 6) d_X12_rows_77 rfl ?_
          refine Tr.pick [1, 2, 3, 4, 5, 0] (ls2 := [(0, (2, 120)), (1, (0, a1)), (2, (0, a2)), (3, (0, a3)), (4, (1, p74_4)), (6, (0, (p6_6 + 1)))]) rfl ?_
          exact J6 _ _ _ hS (by omega) (by omega) (by omega) (by omega)
        refine Tr.if_ne (pc := 19) (tgt := 25) d_X12_rows_19 rfl (fun c19 => ?_) (fun c19 => ?_)
        · refine Tr.lload (pc := 25) (i := 4) d_X12_rows_25 rfl ?_
          refine Tr.aload_n (pc := 27) (i := 0) d_X12_rows_27 rfl rfl ?_
          refine Tr.iload_n (pc := 28) (i := 1) d_X12_rows_28 rfl rfl ?_
          refine Tr.iconst (pc := 29) d_X12_rows_29 (by decide) ?_
          refine Tr.callV (pc := 30) (as := [_, _]) d_X12_rows_30 s_12_565 ok_X12_rate rfl rfl (Nat.le_of_ble_eq_true rfl) (Nat.le_of_ble_eq_true rfl) (by decide) (ty_120 hS.1.1) ?_
          refine Tr.imp (Tr.deep (by decide) (sp_X12_rate_120 hS.1 ((St.kp hS (by decide) (by decide) (by decide)).trans en_120_12) a1 (by omega) 3 (by omega) (Bk0.of hF_Bk0 (fun j => (St.ka hS (by decide) (by decide) (by decide))) (fun j => (St.ka hS (by decide) (by decide) (by decide))) (fun j => (St.ka hS (by decide) (by decide) (by decide))) (fun j => (St.ka hS (by decide) (by decide) (by decide))) (fun j => (St.ka hS (by decide) (by decide) (by decide))) (fun j => (St.ka hS (by decide) (by decide) (by decide))) (fun j => (St.ka hS (by decide) (by decide) (by decide))) (fun j => (St.ka hS (by decide) (by decide) (by decide))) (St.kp hS (by decide) (by decide) (by decide)) (St.kp hS (by decide) (by decide) (by decide)) (St.kp hS (by decide) (by decide) (by decide)) (St.kp hS (by decide) (by decide) (by decide))))) ?_
          rintro M30 _ ⟨h30, r30, rfl, lr30, ur30, z30_0⟩
          have hS := St.tr hS h30 (by decide) (by decide)
          obtain ⟨w30_126_0, ew30_126_0⟩ : ∃ v, rd M30 126 0 = v := ⟨_, rfl⟩
          have bw30_126_0 : 0 ≤ w30_126_0 ∧ w30_126_0 ≤ 6 := by rw [← ew30_126_0]; exact ir_126_0 hS.1.2.1
          have ka30_126_0 : rd M30 126 0 = w30_126_0 := ew30_126_0
          refine Tr.sc [(0, r30), (1, p6_4)] rfl ?_
          refine Tr.i2l (pc := 33) d_X12_rows_33 ?_
          refine Tr.ladd (pc := 34) d_X12_rows_34 ?_
          refine Tr.gen (P := fun v => (-9223372036854775808) ≤ v ∧ v ≤ 9223372036854775807) (w64_b _) (fun r34 er34 br34 => ?_)
          refine Tr.lstore (pc := 35) (i := 4) (ls2 := [(4, (1, r34)), (0, (2, 120)), (1, (0, a1)), (2, (0, a2)), (3, (0, a3)), (6, (0, p6_6))]) d_X12_rows_35 (by decide) rfl ?_
          refine Tr.iload (pc := 37) (i := 6) d_X12_rows_37 rfl ?_
          refine Tr.iload_n (pc := 39) (i := 2) d_X12_rows_39 rfl rfl ?_
          have J55 : ∀ (M : Mem) (p55_4 : Int), St Tru ws_X12_rows_120 as_X12_rows_120 M0 M → ((-9223372036854775808) ≤ p55_4 ∧ p55_4 ≤ 9223372036854775807) → rd M 126 0 = w30_126_0 → rd M 177 p6_6 = r18 → (a2 ≤ p6_6) → Tr l K 2 mX12_rows 55 [(0, (2, 120)), (1, (0, a1)), (2, (0, a2)), (3, (0, a3)), (4, (1, p55_4)), (6, (0, p6_6))] [] M (q_X12_rows_120 M0) := by
            intro M p55_4 hS bp55_4 k55_126_0 k55_177_p6_610 t55_0
            refine Tr.lload (pc := 55) (i := 4) d_X12_rows_55 rfl ?_
            refine Tr.aload_n (pc := 57) (i := 0) d_X12_rows_57 rfl rfl ?_
            refine Tr.iload_n (pc := 58) (i := 1) d_X12_rows_58 rfl rfl ?_
            refine Tr.callV (pc := 59) (as := [_]) d_X12_rows_59 s_12_584 ok_X12_wakes rfl rfl (Nat.le_of_ble_eq_true rfl) (Nat.le_of_ble_eq_true rfl) (by decide) (ty_120 hS.1.1) ?_
            refine Tr.imp (Tr.deep (by decide) (sp_X12_wakes_120 hS.1 ((St.kp hS (by decide) (by decide) (by decide)).trans en_120_12) a1 (by omega) (Bk0.of hF_Bk0 (fun j => (St.ka hS (by decide) (by decide) (by decide))) (fun j => (St.ka hS (by decide) (by decide) (by decide))) (fun j => (St.ka hS (by decide) (by decide) (by decide))) (fun j => (St.ka hS (by decide) (by decide) (by decide))) (fun j => (St.ka hS (by decide) (by decide) (by decide))) (fun j => (St.ka hS (by decide) (by decide) (by decide))) (fun j => (St.ka hS (by decide) (by decide) (by decide))) (fun j => (St.ka hS (by decide) (by decide) (by decide))) (St.kp hS (by decide) (by decide) (by decide)) (St.kp hS (by decide) (by decide) (by decide)) (St.kp hS (by decide) (by decide) (by decide)) (St.kp hS (by decide) (by decide) (by decide))))) ?_
            rintro M59 _ ⟨h59, r59, rfl, lr59, ur59⟩
            have hS := St.tr hS h59 (by decide) (by decide)
            refine Tr.sc [(0, r59), (1, p55_4)] rfl ?_
            refine Tr.i2l (pc := 62) d_X12_rows_62 ?_
            refine Tr.aload_n (pc := 63) (i := 0) d_X12_rows_63 rfl rfl ?_
            refine Tr.iload_n (pc := 64) (i := 1) d_X12_rows_64 rfl rfl ?_
            refine Tr.iconst (pc := 65) d_X12_rows_65 (by decide) ?_
            refine Tr.callV (pc := 66) (as := [_, _]) d_X12_rows_66 s_12_565 ok_X12_rate rfl rfl (Nat.le_of_ble_eq_true rfl) (Nat.le_of_ble_eq_true rfl) (by decide) (ty_120 hS.1.1) ?_
            refine Tr.imp (Tr.deep (by decide) (sp_X12_rate_120 hS.1 ((St.kp hS (by decide) (by decide) (by decide)).trans en_120_12) a1 (by omega) 2 (by omega) (Bk0.of hF_Bk0 (fun j => (St.ka hS (by decide) (by decide) (by decide))) (fun j => (St.ka hS (by decide) (by decide) (by decide))) (fun j => (St.ka hS (by decide) (by decide) (by decide))) (fun j => (St.ka hS (by decide) (by decide) (by decide))) (fun j => (St.ka hS (by decide) (by decide) (by decide))) (fun j => (St.ka hS (by decide) (by decide) (by decide))) (fun j => (St.ka hS (by decide) (by decide) (by decide))) (fun j => (St.ka hS (by decide) (by decide) (by decide))) (St.kp hS (by decide) (by decide) (by decide)) (St.kp hS (by decide) (by decide) (by decide)) (St.kp hS (by decide) (by decide) (by decide)) (St.kp hS (by decide) (by decide) (by decide))))) ?_
            rintro M66 _ ⟨h66, r66, rfl, lr66, ur66, z66_0⟩
            have hS := St.tr hS h66 (by decide) (by decide)
            have ka66_126_0 : rd M66 126 0 = w30_126_0 := ((St.kp h66 (by decide) (by decide) (by decide)).trans ((St.kp h59 (by decide) (by decide) (by decide)).trans k55_126_0))
            refine Tr.sc [(0, r66), (1, r59), (1, p55_4)] rfl ?_
            refine Tr.i2l (pc := 69) d_X12_rows_69 ?_
            refine Tr.lmul (pc := 70) d_X12_rows_70 ?_
            refine Tr.gen (P := fun v => (-9223372036854775808) ≤ v ∧ v ≤ 9223372036854775807) (w64_b _) (fun r70 er70 br70 => ?_)
            refine Tr.ladd (pc := 71) d_X12_rows_71 ?_
            refine Tr.gen (P := fun v => (-9223372036854775808) ≤ v ∧ v ≤ 9223372036854775807) (w64_b _) (fun r71 er71 br71 => ?_)
            refine Tr.lstore (pc := 72) (i := 4) (ls2 := [(4, (1, r71)), (0, (2, 120)), (1, (0, a1)), (2, (0, a2)), (3, (0, a3)), (6, (0, p6_6))]) d_X12_rows_72 (by decide) rfl ?_
            refine Tr.pick [1, 2, 3, 4, 0, 5] (ls2 := [(0, (2, 120)), (1, (0, a1)), (2, (0, a2)), (3, (0, a3)), (4, (1, r71)), (6, (0, p6_6))]) rfl ?_
            exact J74 _ _ hS (by omega) ((St.ka h66 (by decide) (by decide) (by decide)).trans ((St.ka h59 (by decide) (by decide) (by decide)).trans k55_177_p6_610)) (by omega)
          refine Tr.icmp_eq (pc := 40) (tgt := 55) d_X12_rows_40 rfl (fun c40 => ?_) (fun c40 => ?_)
          · refine Tr.pick [1, 2, 3, 4, 0, 5] (ls2 := [(0, (2, 120)), (1, (0, a1)), (2, (0, a2)), (3, (0, a3)), (4, (1, r34)), (6, (0, p6_6))]) rfl ?_
            exact J55 _ _ hS (by omega) ew30_126_0 ((St.ka h30 (by decide) (by decide) (by decide)).trans er18) (by omega)
          · refine Tr.aload_n (pc := 43) (i := 0) d_X12_rows_43 rfl rfl ?_
            refine Tr.getf (pc := 44) d_X12_rows_44 f_12_321 (by decide) (by decide) (ty_120 hS.1.1) ?_
            refine Tr.tp 177 (fx_120_102 hS.1.1) ?_
            refine Tr.iload (pc := 47) (i := 6) d_X12_rows_47 rfl ?_
            refine Tr.iconst (pc := 49) d_X12_rows_49 (by decide) ?_
            refine Tr.isub (pc := 50) d_X12_rows_50 ?_
            refine Tr.tp (p6_6 - 1) ((w32_id (by omega)).trans (by omega)) ?_
            refine Tr.zald (pc := 51) d_X12_rows_51 (ty_177 hS.1.1) (by omega) (by omega) ?_
            refine Tr.gen (P := fun v => 0 ≤ v ∧ v ≤ 1) (ar_177 hS.1.2.1 _) (fun r51 er51 br51 => ?_)
            refine Tr.if_ne (pc := 52) (tgt := 74) d_X12_rows_52 rfl (fun c52 => ?_) (fun c52 => ?_)
            · refine Tr.pick [1, 2, 3, 4, 0, 5] (ls2 := [(0, (2, 120)), (1, (0, a1)), (2, (0, a2)), (3, (0, a3)), (4, (1, r34)), (6, (0, p6_6))]) rfl ?_
              exact J74 _ _ hS (by omega) ((St.ka h30 (by decide) (by decide) (by decide)).trans er18) (by omega)
            · refine Tr.pick [1, 2, 3, 4, 0, 5] (ls2 := [(0, (2, 120)), (1, (0, a1)), (2, (0, a2)), (3, (0, a3)), (4, (1, r34)), (6, (0, p6_6))]) rfl ?_
              exact J55 _ _ hS (by omega) ew30_126_0 ((St.ka h30 (by decide) (by decide) (by decide)).trans er18) (by omega)
        · refine Tr.goto (pc := 22) (tgt := 74) d_X12_rows_22 rfl ?_
          refine Tr.pick [0, 1, 2, 3, 4, 5] (ls2 := [(0, (2, 120)), (1, (0, a1)), (2, (0, a2)), (3, (0, a3)), (4, (1, p6_4)), (6, (0, p6_6))]) rfl ?_
          exact J74 _ _ hS (by omega) er18 (by omega)
  refine Tr.pick [2, 3, 4, 5, 1, 0] (ls2 := [(0, (2, 120)), (1, (0, a1)), (2, (0, a2)), (3, (0, a3)), (4, (1, 0)), (6, (0, a2))]) rfl ?_
  exact J6 _ _ _ _ hS (by omega) (by omega) (by omega) (Nat.lt_succ_self _)

def ws_X12_asksCost_120 : List (Int × Int) := []
def as_X12_asksCost_120 : List Int := [177]
def q_X12_asksCost_120 (M0 M' : Mem) (r : Option PV) : Prop := St Tru ws_X12_asksCost_120 as_X12_asksCost_120 M0 M' ∧ ∃ v : Int, r = some (1, v) ∧ (-9223372036854775808) ≤ v ∧ v ≤ 9223372036854775807
theorem kp_X12_asksCost_120_120_12 {q : Mem → Prop} {M0 M : Mem} (h : St q ws_X12_asksCost_120 as_X12_asksCost_120 M0 M) : rd M 120 12 = rd M0 120 12 := St.kp h (by decide) (by decide) (by decide)
theorem ka_X12_asksCost_120_131 {q : Mem → Prop} {M0 M : Mem} (h : St q ws_X12_asksCost_120 as_X12_asksCost_120 M0 M) (j : Int) : rd M 131 j = rd M0 131 j := St.ka h (by decide) (by decide) (by decide)
theorem ka_X12_asksCost_120_137 {q : Mem → Prop} {M0 M : Mem} (h : St q ws_X12_asksCost_120 as_X12_asksCost_120 M0 M) (j : Int) : rd M 137 j = rd M0 137 j := St.ka h (by decide) (by decide) (by decide)
theorem ka_X12_asksCost_120_138 {q : Mem → Prop} {M0 M : Mem} (h : St q ws_X12_asksCost_120 as_X12_asksCost_120 M0 M) (j : Int) : rd M 138 j = rd M0 138 j := St.ka h (by decide) (by decide) (by decide)
theorem ka_X12_asksCost_120_139 {q : Mem → Prop} {M0 M : Mem} (h : St q ws_X12_asksCost_120 as_X12_asksCost_120 M0 M) (j : Int) : rd M 139 j = rd M0 139 j := St.ka h (by decide) (by decide) (by decide)
theorem ka_X12_asksCost_120_140 {q : Mem → Prop} {M0 M : Mem} (h : St q ws_X12_asksCost_120 as_X12_asksCost_120 M0 M) (j : Int) : rd M 140 j = rd M0 140 j := St.ka h (by decide) (by decide) (by decide)
theorem ka_X12_asksCost_120_141 {q : Mem → Prop} {M0 M : Mem} (h : St q ws_X12_asksCost_120 as_X12_asksCost_120 M0 M) (j : Int) : rd M 141 j = rd M0 141 j := St.ka h (by decide) (by decide) (by decide)
theorem ka_X12_asksCost_120_142 {q : Mem → Prop} {M0 M : Mem} (h : St q ws_X12_asksCost_120 as_X12_asksCost_120 M0 M) (j : Int) : rd M 142 j = rd M0 142 j := St.ka h (by decide) (by decide) (by decide)
theorem ka_X12_asksCost_120_143 {q : Mem → Prop} {M0 M : Mem} (h : St q ws_X12_asksCost_120 as_X12_asksCost_120 M0 M) (j : Int) : rd M 143 j = rd M0 143 j := St.ka h (by decide) (by decide) (by decide)
theorem kp_X12_asksCost_120_126_0 {q : Mem → Prop} {M0 M : Mem} (h : St q ws_X12_asksCost_120 as_X12_asksCost_120 M0 M) : rd M 126 0 = rd M0 126 0 := St.kp h (by decide) (by decide) (by decide)
theorem kp_X12_asksCost_120_136_0 {q : Mem → Prop} {M0 M : Mem} (h : St q ws_X12_asksCost_120 as_X12_asksCost_120 M0 M) : rd M 136 0 = rd M0 136 0 := St.kp h (by decide) (by decide) (by decide)
theorem kp_X12_asksCost_120_123_0 {q : Mem → Prop} {M0 M : Mem} (h : St q ws_X12_asksCost_120 as_X12_asksCost_120 M0 M) : rd M 123 0 = rd M0 123 0 := St.kp h (by decide) (by decide) (by decide)
theorem kp_X12_asksCost_120_124_0 {q : Mem → Prop} {M0 M : Mem} (h : St q ws_X12_asksCost_120 as_X12_asksCost_120 M0 M) : rd M 124 0 = rd M0 124 0 := St.kp h (by decide) (by decide) (by decide)
theorem ka_X12_tails_120_185 {q : Mem → Prop} {M0 M : Mem} (h : St q ws_X12_tails_120 as_X12_tails_120 M0 M) (j : Int) : rd M 185 j = rd M0 185 j := St.ka h (by decide) (by decide) (by decide)
theorem ka_X12_tails_120_189 {q : Mem → Prop} {M0 M : Mem} (h : St q ws_X12_tails_120 as_X12_tails_120 M0 M) (j : Int) : rd M 189 j = rd M0 189 j := St.ka h (by decide) (by decide) (by decide)
theorem kp_X12_tails_120_120_113 {q : Mem → Prop} {M0 M : Mem} (h : St q ws_X12_tails_120 as_X12_tails_120 M0 M) : rd M 120 113 = rd M0 120 113 := St.kp h (by decide) (by decide) (by decide)
theorem kp_X12_tails_120_126_0 {q : Mem → Prop} {M0 M : Mem} (h : St q ws_X12_tails_120 as_X12_tails_120 M0 M) : rd M 126 0 = rd M0 126 0 := St.kp h (by decide) (by decide) (by decide)
theorem ka_X12_tails_120_186 {q : Mem → Prop} {M0 M : Mem} (h : St q ws_X12_tails_120 as_X12_tails_120 M0 M) (j : Int) : rd M 186 j = rd M0 186 j := St.ka h (by decide) (by decide) (by decide)
set_option maxRecDepth 100000 in
set_option maxHeartbeats 4000000 in
theorem sp_X12_asksCost_120 {l : Launch} {K : EC} {M0 : Mem} (hI : In Tru M0) (en_120_12 : rd M0 120 12 = 0) (a1 : Int) (ha1 : 0 ≤ a1 ∧ a1 ≤ 5)  (hq0 : a1 < rd M0 126 0) (hF_Bk0 : Bk0 M0) : Tr l K 3 mX12_asksCost 0 [(0, (2, 120)), (1, (0, a1))] [] M0 (q_X12_asksCost_120 M0) := by
  have hS : St Tru ws_X12_asksCost_120 as_X12_asksCost_120 M0 M0 := St.rf hI
  obtain ⟨g126_0, eg126_0⟩ : ∃ v, rd M0 126 0 = v := ⟨_, rfl⟩
  have bg126_0 : 0 ≤ g126_0 ∧ g126_0 ≤ 6 := by rw [← eg126_0]; exact ir_126_0 hI.2.1
  refine Tr.iconst (pc := 0) d_X12_asksCost_0 (by decide) ?_
  refine Tr.istore_n (pc := 1) (i := 2) (ls2 := [(2, (0, 0)), (0, (2, 120)), (1, (0, a1))]) d_X12_asksCost_1 rfl (by decide) rfl ?_
  have J2 : ∀ (n2 : Nat) (M : Mem) (p2_2 : Int), St Tru ws_X12_asksCost_120 as_X12_asksCost_120 M0 M → (0 ≤ p2_2 ∧ p2_2 ≤ 300) → rd M 126 0 = g126_0 → (300 - p2_2).toNat < n2 → Tr l K 3 mX12_asksCost 2 [(0, (2, 120)), (1, (0, a1)), (2, (0, p2_2))] [] M (q_X12_asksCost_120 M0) := by
    intro n2
    induction n2 with
    | zero => intro M p2_2 hS bp2_2 k2_126_0 hm2; exact absurd hm2 (Nat.not_lt_zero _)
    | succ n2 J2 =>
      intro M p2_2 hS bp2_2 k2_126_0 hm2
      refine Tr.iload_n (pc := 2) (i := 2) d_X12_asksCost_2 rfl rfl ?_
      refine Tr.sipush (pc := 3) d_X12_asksCost_3 rfl (by decide) ?_
      refine Tr.icmp_ge (pc := 6) (tgt := 22) d_X12_asksCost_6 rfl (fun c6 => ?_) (fun c6 => ?_)
      · refine Tr.iconst (pc := 22) d_X12_asksCost_22 (by decide) ?_
        refine Tr.istore_n (pc := 23) (i := 2) (ls2 := [(2, (0, 0)), (0, (2, 120)), (1, (0, a1))]) d_X12_asksCost_23 rfl (by decide) rfl ?_
        have J24 : ∀ (n24 : Nat) (M : Mem) (p24_2 : Int), St Tru ws_X12_asksCost_120 as_X12_asksCost_120 M0 M → (0 ≤ p24_2 ∧ p24_2 ≤ 6) → rd M 126 0 = g126_0 → (6 - p24_2).toNat < n24 → Tr l K 3 mX12_asksCost 24 [(0, (2, 120)), (1, (0, a1)), (2, (0, p24_2))] [] M (q_X12_asksCost_120 M0) := by
          intro n24
          induction n24 with
          | zero => intro M p24_2 hS bp24_2 k24_126_0 hm24; exact absurd hm24 (Nat.not_lt_zero _)
          | succ n24 J24 =>
            intro M p24_2 hS bp24_2 k24_126_0 hm24
            clear k2_126_0
            refine Tr.iload_n (pc := 24) (i := 2) d_X12_asksCost_24 rfl rfl ?_
            refine Tr.aload_n (pc := 25) (i := 0) d_X12_asksCost_25 rfl rfl ?_
            refine Tr.getf (pc := 26) d_X12_asksCost_26 f_12_354 (by decide) (by decide) (ty_120 hS.1.1) ?_
            refine Tr.gen (P := fun v => 0 ≤ v ∧ v ≤ 6) (ir_120_113 hS.1.2.1) (fun r26 er26 br26 => ?_)
            refine Tr.icmp_ge (pc := 29) (tgt := 100) d_X12_asksCost_29 rfl (fun c29 => ?_) (fun c29 => ?_)
            · refine Tr.aload_n (pc := 100) (i := 0) d_X12_asksCost_100 rfl rfl ?_
              refine Tr.iload_n (pc := 101) (i := 1) d_X12_asksCost_101 rfl rfl ?_
              refine Tr.iconst (pc := 102) d_X12_asksCost_102 (by decide) ?_
              refine Tr.sipush (pc := 103) d_X12_asksCost_103 rfl (by decide) ?_
              refine Tr.callV (pc := 106) (as := [_, _, _]) d_X12_asksCost_106 s_12_665 ok_X12_rows rfl rfl (Nat.le_of_ble_eq_true rfl) (Nat.le_of_ble_eq_true rfl) (by decide) (ty_120 hS.1.1) ?_
              refine Tr.imp (Tr.deep (by decide) (sp_X12_rows_120 hS.1 ((kp_X12_asksCost_120_120_12 hS).trans en_120_12) a1 (by and_intros <;> omega) 0 (by omega) 300 (by omega) (Bk0.of hF_Bk0 (fun j => (ka_X12_asksCost_120_131 hS _)) (fun j => (ka_X12_asksCost_120_137 hS _)) (fun j => (ka_X12_asksCost_120_138 hS _)) (fun j => (ka_X12_asksCost_120_139 hS _)) (fun j => (ka_X12_asksCost_120_140 hS _)) (fun j => (ka_X12_asksCost_120_141 hS _)) (fun j => (ka_X12_asksCost_120_142 hS _)) (fun j => (ka_X12_asksCost_120_143 hS _)) (kp_X12_asksCost_120_126_0 hS) (kp_X12_asksCost_120_136_0 hS) (kp_X12_asksCost_120_123_0 hS) (kp_X12_asksCost_120_124_0 hS)))) ?_
              rintro M106 _ ⟨h106, r106, rfl, lr106, ur106⟩
              have hS := St.tr hS h106 (by decide) (by decide)
              refine Tr.sc [(1, r106)] rfl ?_
              exact Tr.lret (pc := 109) d_X12_asksCost_109 rfl ⟨hS, _, rfl, (by omega), (by omega)⟩
            · refine Tr.aload_n (pc := 32) (i := 0) d_X12_asksCost_32 rfl rfl ?_
              refine Tr.getf (pc := 33) d_X12_asksCost_33 f_12_357 (by decide) (by decide) (ty_120 hS.1.1) ?_
              refine Tr.tp 185 (fx_120_114 hS.1.1) ?_
              refine Tr.iload_n (pc := 36) (i := 2) d_X12_asksCost_36 rfl rfl ?_
              refine Tr.iald (pc := 37) d_X12_asksCost_37 (ty_185 hS.1.1) (by omega) (by omega) ?_
              refine Tr.gen (P := fun v => 0 ≤ v ∧ v ≤ 200) (ar_185 hS.1.2.1 _) (fun r37 er37 br37 => ?_)
              refine Tr.aload_n (pc := 38) (i := 0) d_X12_asksCost_38 rfl rfl ?_
              refine Tr.getf (pc := 39) d_X12_asksCost_39 f_12_372 (by decide) (by decide) (ty_120 hS.1.1) ?_
              refine Tr.tp 189 (fx_120_119 hS.1.1) ?_
              refine Tr.iload_n (pc := 42) (i := 2) d_X12_asksCost_42 rfl rfl ?_
              refine Tr.iald (pc := 43) d_X12_asksCost_43 (ty_189 hS.1.1) (by omega) (by omega) ?_
              refine Tr.gen (P := fun v => 0 ≤ v ∧ v ≤ 5) (ar_189 hS.1.2.1 _) (fun r43 er43 br43 => ?_)
              refine Tr.iadd (pc := 44) d_X12_asksCost_44 ?_
              refine Tr.tp (r37 + r43) ((w32_id (by and_intros <;> omega)).trans (by omega)) ?_
              refine Tr.aload_n (pc := 45) (i := 0) d_X12_asksCost_45 rfl rfl ?_
              refine Tr.getf (pc := 46) d_X12_asksCost_46 f_12_360 (by decide) (by decide) (ty_120 hS.1.1) ?_
              refine Tr.tp 186 (fx_120_115 hS.1.1) ?_
              refine Tr.iload_n (pc := 49) (i := 2) d_X12_asksCost_49 rfl rfl ?_
              refine Tr.iald (pc := 50) d_X12_asksCost_50 (ty_186 hS.1.1) (by omega) (by omega) ?_
              refine Tr.gen (P := fun v => 0 ≤ v ∧ v ≤ 20) (ar_186 hS.1.2.1 _) (fun r50 er50 br50 => ?_)
              refine Tr.iadd (pc := 51) d_X12_asksCost_51 ?_
              refine Tr.tp (r37 + r43 + r50) ((w32_id (by and_intros <;> omega)).trans (by omega)) ?_
              refine Tr.aload_n (pc := 52) (i := 0) d_X12_asksCost_52 rfl rfl ?_
              refine Tr.iload_n (pc := 53) (i := 1) d_X12_asksCost_53 rfl rfl ?_
              refine Tr.callV (pc := 54) (as := [_]) d_X12_asksCost_54 s_12_591 ok_X12_tails rfl rfl (Nat.le_of_ble_eq_true rfl) (Nat.le_of_ble_eq_true rfl) (by decide) (ty_120 hS.1.1) ?_
              refine Tr.imp (Tr.deep (by decide) (ns_X12_tails_120 (G126_0 := g126_0) hS.1 (k24_126_0) ((kp_X12_asksCost_120_120_12 hS).trans en_120_12) a1 (by and_intros <;> omega) (Bk0.of hF_Bk0 (fun j => (ka_X12_asksCost_120_131 hS _)) (fun j => (ka_X12_asksCost_120_137 hS _)) (fun j => (ka_X12_asksCost_120_138 hS _)) (fun j => (ka_X12_asksCost_120_139 hS _)) (fun j => (ka_X12_asksCost_120_140 hS _)) (fun j => (ka_X12_asksCost_120_141 hS _)) (fun j => (ka_X12_asksCost_120_142 hS _)) (fun j => (ka_X12_asksCost_120_143 hS _)) (kp_X12_asksCost_120_126_0 hS) (kp_X12_asksCost_120_136_0 hS) (kp_X12_asksCost_120_123_0 hS) (kp_X12_asksCost_120_124_0 hS)))) ?_
              rintro M54 _ ⟨h54, r54, rfl, lr54, ur54, z54_0⟩
              have hS := St.tr hS h54 (by decide) (by decide)
              refine Tr.sc [(0, r54), (0, (r37 + r43 + r50))] rfl ?_
              refine Tr.iadd (pc := 57) d_X12_asksCost_57 ?_
              refine Tr.tp (r37 + r43 + r50 + r54) ((w32_id (by exact (hd_o z54_0).elim (fun h1 => by omega) (fun h1 => by omega))).trans (by omega)) ?_
              refine Tr.istore_n (pc := 58) (i := 3) (ls2 := [(3, (0, (r37 + r43 + r50 + r54))), (0, (2, 120)), (1, (0, a1)), (2, (0, p24_2))]) d_X12_asksCost_58 rfl (by decide) rfl ?_
              refine Tr.aload_n (pc := 59) (i := 0) d_X12_asksCost_59 rfl rfl ?_
              refine Tr.getf (pc := 60) d_X12_asksCost_60 f_12_357 (by decide) (by decide) (ty_120 hS.1.1) ?_
              refine Tr.tp 185 (fx_120_114 hS.1.1) ?_
              refine Tr.iload_n (pc := 63) (i := 2) d_X12_asksCost_63 rfl rfl ?_
              refine Tr.iald (pc := 64) d_X12_asksCost_64 (ty_185 hS.1.1) (by omega) (by omega) ?_
              refine Tr.tp r37 ((ka_X12_tails_120_185 h54 _).trans er37) ?_
              refine Tr.aload_n (pc := 65) (i := 0) d_X12_asksCost_65 rfl rfl ?_
              refine Tr.getf (pc := 66) d_X12_asksCost_66 f_12_372 (by decide) (by decide) (ty_120 hS.1.1) ?_
              refine Tr.tp 189 (fx_120_119 hS.1.1) ?_
              refine Tr.iload_n (pc := 69) (i := 2) d_X12_asksCost_69 rfl rfl ?_
              refine Tr.iald (pc := 70) d_X12_asksCost_70 (ty_189 hS.1.1) (by omega) (by omega) ?_
              refine Tr.tp r43 ((ka_X12_tails_120_189 h54 _).trans er43) ?_
              refine Tr.iadd (pc := 71) d_X12_asksCost_71 ?_
              refine Tr.tp (r37 + r43) ((w32_id (by and_intros <;> omega)).trans (by omega)) ?_
              refine Tr.istore (pc := 72) (i := 4) (ls2 := [(4, (0, (r37 + r43))), (3, (0, (r37 + r43 + r50 + r54))), (0, (2, 120)), (1, (0, a1)), (2, (0, p24_2))]) d_X12_asksCost_72 (by decide) rfl ?_
              have J74 : ∀ (n74 : Nat) (M : Mem) (p74_4 : Int), St Tru ws_X12_asksCost_120 as_X12_asksCost_120 M0 M → (0 ≤ p74_4 ∧ p74_4 ≤ 2200) → rd M 120 113 = r26 → rd M 126 0 = g126_0 → rd M 185 p24_2 = r37 → rd M 186 p24_2 = r50 → rd M 189 p24_2 = r43 → ((r37 + r43 + r50 + r54) ≤ 275) → (2200 - p74_4).toNat < n74 → Tr l K 3 mX12_asksCost 74 [(0, (2, 120)), (1, (0, a1)), (2, (0, p24_2)), (3, (0, (r37 + r43 + r50 + r54))), (4, (0, p74_4))] [] M (q_X12_asksCost_120 M0) := by
                intro n74
                induction n74 with
                | zero => intro M p74_4 hS bp74_4 k74_120_113 k74_126_0 k74_185_p24_210 k74_186_p24_210 k74_189_p24_210 t74_0 hm74; exact absurd hm74 (Nat.not_lt_zero _)
                | succ n74 J74 =>
                  intro M p74_4 hS bp74_4 k74_120_113 k74_126_0 k74_185_p24_210 k74_186_p24_210 k74_189_p24_210 t74_0 hm74
                  clear k24_126_0 er26 er37 er43 er50
                  refine Tr.iload (pc := 74) (i := 4) d_X12_asksCost_74 rfl ?_
                  refine Tr.iload_n (pc := 76) (i := 3) d_X12_asksCost_76 rfl rfl ?_
                  refine Tr.icmp_ge (pc := 77) (tgt := 94) d_X12_asksCost_77 rfl (fun c77 => ?_) (fun c77 => ?_)
                  · refine Tr.iincV (pc := 94) (n2 := (p24_2 + 1)) (ls2 := [(2, (0, (p24_2 + 1))), (0, (2, 120)), (1, (0, a1)), (3, (0, (r37 + r43 + r50 + r54))), (4, (0, p74_4))]) d_X12_asksCost_94 rfl (by decide) ((w32_id (by and_intros <;> omega)).trans (by omega)) rfl ?_
                    refine Tr.goto (pc := 97) (tgt := 24) d_X12_asksCost_97 rfl ?_
                    refine Tr.pick [1, 2, 0] (ls2 := [(0, (2, 120)), (1, (0, a1)), (2, (0, (p24_2 + 1)))]) rfl ?_
                    exact J24 _ _ hS (by and_intros <;> omega) k74_126_0 (me_lt hm24 (by omega) (by omega))
                  · refine Tr.aload_n (pc := 80) (i := 0) d_X12_asksCost_80 rfl rfl ?_
                    refine Tr.getf (pc := 81) d_X12_asksCost_81 f_12_321 (by decide) (by decide) (ty_120 hS.1.1) ?_
                    refine Tr.tp 177 (fx_120_102 hS.1.1) ?_
                    refine Tr.iload (pc := 84) (i := 4) d_X12_asksCost_84 rfl ?_
                    refine Tr.iconst (pc := 86) d_X12_asksCost_86 (by decide) ?_
                    refine Tr.zastS (pc := 87) (P := St Tru ws_X12_asksCost_120 as_X12_asksCost_120 M0) d_X12_asksCost_87 (ty_177 hS.1.1) (by omega) (by omega) (by omega) (sa_177 hS (by decide) (by omega) trivial) (fun M87 hS w87 => ?_)
                    refine Tr.iincV (pc := 88) (n2 := (p74_4 + 1)) (ls2 := [(4, (0, (p74_4 + 1))), (0, (2, 120)), (1, (0, a1)), (2, (0, p24_2)), (3, (0, (r37 + r43 + r50 + r54)))]) d_X12_asksCost_88 rfl (by decide) ((w32_id (by and_intros <;> omega)).trans (by omega)) rfl ?_
                    refine Tr.goto (pc := 91) (tgt := 74) d_X12_asksCost_91 rfl ?_
                    refine Tr.pick [1, 2, 3, 4, 0] (ls2 := [(0, (2, 120)), (1, (0, a1)), (2, (0, p24_2)), (3, (0, (r37 + r43 + r50 + r54))), (4, (0, (p74_4 + 1)))]) rfl ?_
                    exact J74 _ _ hS (by and_intros <;> omega) ((Wr.b w87 rfl).trans k74_120_113) ((Wr.b w87 rfl).trans k74_126_0) ((Wr.b w87 rfl).trans k74_185_p24_210) ((Wr.b w87 rfl).trans k74_186_p24_210) ((Wr.b w87 rfl).trans k74_189_p24_210) (by omega) (me_lt hm74 (by omega) (by omega))
              refine Tr.pick [2, 3, 4, 1, 0] (ls2 := [(0, (2, 120)), (1, (0, a1)), (2, (0, p24_2)), (3, (0, (r37 + r43 + r50 + r54))), (4, (0, (r37 + r43)))]) rfl ?_
              exact J74 _ _ _ hS (by and_intros <;> omega) ((kp_X12_tails_120_120_113 h54).trans er26) ((kp_X12_tails_120_126_0 h54).trans k24_126_0) ((ka_X12_tails_120_185 h54 _).trans er37) ((ka_X12_tails_120_186 h54 _).trans er50) ((ka_X12_tails_120_189 h54 _).trans er43) (by exact (hd_o z54_0).elim (fun h1 => by omega) (fun h1 => by omega)) (Nat.lt_succ_self _)
        refine Tr.pick [1, 2, 0] (ls2 := [(0, (2, 120)), (1, (0, a1)), (2, (0, 0))]) rfl ?_
        exact J24 _ _ _ hS (by omega) k2_126_0 (Nat.lt_succ_self _)
      · refine Tr.aload_n (pc := 9) (i := 0) d_X12_asksCost_9 rfl rfl ?_
        refine Tr.getf (pc := 10) d_X12_asksCost_10 f_12_321 (by decide) (by decide) (ty_120 hS.1.1) ?_
        refine Tr.tp 177 (fx_120_102 hS.1.1) ?_
        refine Tr.iload_n (pc := 13) (i := 2) d_X12_asksCost_13 rfl rfl ?_
        refine Tr.iconst (pc := 14) d_X12_asksCost_14 (by decide) ?_
        refine Tr.zastS (pc := 15) (P := St Tru ws_X12_asksCost_120 as_X12_asksCost_120 M0) d_X12_asksCost_15 (ty_177 hS.1.1) (by omega) (by omega) (by omega) (sa_177 hS (by decide) (by omega) trivial) (fun M15 hS w15 => ?_)
        refine Tr.iincV (pc := 16) (n2 := (p2_2 + 1)) (ls2 := [(2, (0, (p2_2 + 1))), (0, (2, 120)), (1, (0, a1))]) d_X12_asksCost_16 rfl (by decide) ((w32_id (by and_intros <;> omega)).trans (by omega)) rfl ?_
        refine Tr.goto (pc := 19) (tgt := 2) d_X12_asksCost_19 rfl ?_
        refine Tr.pick [1, 2, 0] (ls2 := [(0, (2, 120)), (1, (0, a1)), (2, (0, (p2_2 + 1)))]) rfl ?_
        exact J2 _ _ hS (by and_intros <;> omega) ((Wr.b w15 rfl).trans k2_126_0) (me_lt hm2 (by omega) (by omega))
  refine Tr.pick [1, 2, 0] (ls2 := [(0, (2, 120)), (1, (0, a1)), (2, (0, 0))]) rfl ?_
  exact J2 _ _ _ hS (by omega) eg126_0 (Nat.lt_succ_self _)

set_option maxRecDepth 100000 in
set_option maxHeartbeats 4000000 in
theorem ns_X12_asksCost_120 {l : Launch} {K : EC} {M0 : Mem} {G126_0 : Int} (hI : In Tru M0) (k126_0 : rd M0 126 0 = G126_0) (en_120_12 : rd M0 120 12 = 0) (a1 : Int) (ha1 : 0 ≤ a1 ∧ a1 ≤ 5)  (hq0 : a1 < G126_0) (hF_Bk0 : Bk0 M0) : Tr l K 3 mX12_asksCost 0 [(0, (2, 120)), (1, (0, a1))] [] M0 (fun M' r => St Tru ws_X12_asksCost_120 as_X12_asksCost_120 M0 M' ∧ ∃ v : Int, r = some (1, v) ∧ (-9223372036854775808) ≤ v ∧ v ≤ 9223372036854775807) := by
  subst k126_0
  refine Tr.imp (sp_X12_asksCost_120 hI en_120_12 a1 ha1 hq0 hF_Bk0) ?_
  rintro M' _ ⟨hS, v, rfl, lr, ur⟩
  exact ⟨hS, v, rfl, lr, ur⟩

def ws_X12_together_120 : List (Int × Int) := [(120, 117)]
def as_X12_together_120 : List Int := [177, 188, 189]
def q_X12_together_120 (M0 M' : Mem) (r : Option PV) : Prop := St Tru ws_X12_together_120 as_X12_together_120 M0 M' ∧ ∃ v : Int, r = some (0, v) ∧ (-2147483648) ≤ v ∧ v ≤ 2147483647
theorem kp_X12_together_120_120_12 {q : Mem → Prop} {M0 M : Mem} (h : St q ws_X12_together_120 as_X12_together_120 M0 M) : rd M 120 12 = rd M0 120 12 := St.kp h (by decide) (by decide) (by decide)
theorem kp_X12_isPart_120_120_113 {q : Mem → Prop} {M0 M : Mem} (h : St q ws_X12_isPart_120 as_X12_isPart_120 M0 M) : rd M 120 113 = rd M0 120 113 := St.kp h (by decide) (by decide) (by decide)
theorem ka_X12_together_120_131 {q : Mem → Prop} {M0 M : Mem} (h : St q ws_X12_together_120 as_X12_together_120 M0 M) (j : Int) : rd M 131 j = rd M0 131 j := St.ka h (by decide) (by decide) (by decide)
theorem ka_X12_together_120_137 {q : Mem → Prop} {M0 M : Mem} (h : St q ws_X12_together_120 as_X12_together_120 M0 M) (j : Int) : rd M 137 j = rd M0 137 j := St.ka h (by decide) (by decide) (by decide)
theorem ka_X12_together_120_138 {q : Mem → Prop} {M0 M : Mem} (h : St q ws_X12_together_120 as_X12_together_120 M0 M) (j : Int) : rd M 138 j = rd M0 138 j := St.ka h (by decide) (by decide) (by decide)
theorem ka_X12_together_120_139 {q : Mem → Prop} {M0 M : Mem} (h : St q ws_X12_together_120 as_X12_together_120 M0 M) (j : Int) : rd M 139 j = rd M0 139 j := St.ka h (by decide) (by decide) (by decide)
theorem ka_X12_together_120_140 {q : Mem → Prop} {M0 M : Mem} (h : St q ws_X12_together_120 as_X12_together_120 M0 M) (j : Int) : rd M 140 j = rd M0 140 j := St.ka h (by decide) (by decide) (by decide)
theorem ka_X12_together_120_141 {q : Mem → Prop} {M0 M : Mem} (h : St q ws_X12_together_120 as_X12_together_120 M0 M) (j : Int) : rd M 141 j = rd M0 141 j := St.ka h (by decide) (by decide) (by decide)
theorem ka_X12_together_120_142 {q : Mem → Prop} {M0 M : Mem} (h : St q ws_X12_together_120 as_X12_together_120 M0 M) (j : Int) : rd M 142 j = rd M0 142 j := St.ka h (by decide) (by decide) (by decide)
theorem ka_X12_together_120_143 {q : Mem → Prop} {M0 M : Mem} (h : St q ws_X12_together_120 as_X12_together_120 M0 M) (j : Int) : rd M 143 j = rd M0 143 j := St.ka h (by decide) (by decide) (by decide)
theorem kp_X12_together_120_126_0 {q : Mem → Prop} {M0 M : Mem} (h : St q ws_X12_together_120 as_X12_together_120 M0 M) : rd M 126 0 = rd M0 126 0 := St.kp h (by decide) (by decide) (by decide)
theorem kp_X12_together_120_136_0 {q : Mem → Prop} {M0 M : Mem} (h : St q ws_X12_together_120 as_X12_together_120 M0 M) : rd M 136 0 = rd M0 136 0 := St.kp h (by decide) (by decide) (by decide)
theorem kp_X12_together_120_123_0 {q : Mem → Prop} {M0 M : Mem} (h : St q ws_X12_together_120 as_X12_together_120 M0 M) : rd M 123 0 = rd M0 123 0 := St.kp h (by decide) (by decide) (by decide)
theorem kp_X12_together_120_124_0 {q : Mem → Prop} {M0 M : Mem} (h : St q ws_X12_together_120 as_X12_together_120 M0 M) : rd M 124 0 = rd M0 124 0 := St.kp h (by decide) (by decide) (by decide)
theorem kp_X12_asksCost_120_120_113 {q : Mem → Prop} {M0 M : Mem} (h : St q ws_X12_asksCost_120 as_X12_asksCost_120 M0 M) : rd M 120 113 = rd M0 120 113 := St.kp h (by decide) (by decide) (by decide)
theorem ka_X12_asksCost_120_187 {q : Mem → Prop} {M0 M : Mem} (h : St q ws_X12_asksCost_120 as_X12_asksCost_120 M0 M) (j : Int) : rd M 187 j = rd M0 187 j := St.ka h (by decide) (by decide) (by decide)
theorem ka_X12_asksCost_120_189 {q : Mem → Prop} {M0 M : Mem} (h : St q ws_X12_asksCost_120 as_X12_asksCost_120 M0 M) (j : Int) : rd M 189 j = rd M0 189 j := St.ka h (by decide) (by decide) (by decide)
theorem kp_X12_isPart_120_126_0 {q : Mem → Prop} {M0 M : Mem} (h : St q ws_X12_isPart_120 as_X12_isPart_120 M0 M) : rd M 126 0 = rd M0 126 0 := St.kp h (by decide) (by decide) (by decide)
theorem ka_X12_isPart_120_187 {q : Mem → Prop} {M0 M : Mem} (h : St q ws_X12_isPart_120 as_X12_isPart_120 M0 M) (j : Int) : rd M 187 j = rd M0 187 j := St.ka h (by decide) (by decide) (by decide)
theorem ka_X12_isPart_120_189 {q : Mem → Prop} {M0 M : Mem} (h : St q ws_X12_isPart_120 as_X12_isPart_120 M0 M) (j : Int) : rd M 189 j = rd M0 189 j := St.ka h (by decide) (by decide) (by decide)
set_option maxRecDepth 100000 in
set_option maxHeartbeats 4000000 in
theorem sp_X12_together_120 {l : Launch} {K : EC} {M0 : Mem} (hI : In Tru M0) (en_120_12 : rd M0 120 12 = 0) (a1 : Int) (ha1 : (-2147483648) ≤ a1 ∧ a1 ≤ 2147483647)  (hF_Bk0 : Bk0 M0) : Tr l K 4 mX12_together 0 [(0, (2, 120)), (1, (0, a1))] [] M0 (q_X12_together_120 M0) := by
  have hS : St Tru ws_X12_together_120 as_X12_together_120 M0 M0 := St.rf hI
  obtain ⟨g126_0, eg126_0⟩ : ∃ v, rd M0 126 0 = v := ⟨_, rfl⟩
  have bg126_0 : 0 ≤ g126_0 ∧ g126_0 ≤ 6 := by rw [← eg126_0]; exact ir_126_0 hI.2.1
  obtain ⟨g120_113, eg120_113⟩ : ∃ v, rd M0 120 113 = v := ⟨_, rfl⟩
  have bg120_113 : 0 ≤ g120_113 ∧ g120_113 ≤ 6 := by rw [← eg120_113]; exact ir_120_113 hI.2.1
  obtain ⟨g9020_0, eg9020_0⟩ : ∃ v, shv M0 = v := ⟨_, rfl⟩
  have bg9020_0 : (-46655) ≤ g9020_0 ∧ g9020_0 ≤ 46655 := by rw [← eg9020_0]; exact (shv_b hI.2.1)
  refine Tr.aload_n (pc := 0) (i := 0) d_X12_together_0 rfl rfl ?_
  refine Tr.iload_n (pc := 1) (i := 1) d_X12_together_1 rfl rfl ?_
  refine Tr.callV (pc := 2) (as := [_]) d_X12_together_2 s_12_555 ok_X12_isPart rfl rfl (Nat.le_of_ble_eq_true rfl) (Nat.le_of_ble_eq_true rfl) (by decide) (ty_120 hS.1.1) ?_
  refine Tr.imp (Tr.deep (by decide) (ns_X12_isPart_120 (G126_0 := g126_0) hS.1 (eg126_0) ((kp_X12_together_120_120_12 hS).trans en_120_12) a1 (by and_intros <;> omega))) ?_
  rintro M2 _ ⟨h2, r2, rfl, lr2, ur2, z2_0⟩
  have hS := St.tr hS h2 (by decide) (by decide)
  refine Tr.sc [(0, r2)] rfl ?_
  refine Tr.if_eq (pc := 5) (tgt := 15) d_X12_together_5 rfl (fun c5 => ?_) (fun c5 => ?_)
  · refine Tr.iconst (pc := 15) d_X12_together_15 (by decide) ?_
    exact Tr.iret (pc := 16) d_X12_together_16 rfl ⟨hS, _, rfl, by omega, by omega⟩
  · have c5b : 1 ≤ r2 ∧ r2 ≤ 1 := by omega
    replace c5 := hd_i c5
    refine Tr.aload_n (pc := 8) (i := 0) d_X12_together_8 rfl rfl ?_
    refine Tr.getf (pc := 9) d_X12_together_9 f_12_354 (by decide) (by decide) (ty_120 hS.1.1) ?_
    refine Tr.tp g120_113 ((kp_X12_isPart_120_120_113 h2).trans eg120_113) ?_
    refine Tr.if_ne (pc := 12) (tgt := 17) d_X12_together_12 rfl (fun c12 => ?_) (fun c12 => ?_)
    · have c12b : 1 ≤ g120_113 ∧ g120_113 ≤ 6 := by omega
      replace c12 := hd_i c12
      refine Tr.iconst (pc := 17) d_X12_together_17 (by decide) ?_
      refine Tr.istore_n (pc := 18) (i := 2) (ls2 := [(2, (0, 0)), (0, (2, 120)), (1, (0, a1))]) d_X12_together_18 rfl (by decide) rfl ?_
      have J19 : ∀ (n19 : Nat) (M : Mem) (p19_2 u19_9020_0 : Int), St Tru ws_X12_together_120 as_X12_together_120 M0 M → (0 ≤ p19_2 ∧ p19_2 ≤ 6) → ((-46655) ≤ u19_9020_0 ∧ u19_9020_0 ≤ 46655) → rd M 120 113 = g120_113 → rd M 126 0 = g126_0 → shv M = u19_9020_0 → (0 ≤ a1 ∧ a1 < g126_0) → (Sz M p19_2) → (6 - p19_2).toNat < n19 → Tr l K 4 mX12_together 19 [(0, (2, 120)), (1, (0, a1)), (2, (0, p19_2))] [] M (q_X12_together_120 M0) := by
        intro n19
        induction n19 with
        | zero => intro M p19_2 u19_9020_0 hS bp19_2 bu19_9020_0 k19_120_113 k19_126_0 k19_9020_0 t19_0 tp19_0 hm19; exact absurd hm19 (Nat.not_lt_zero _)
        | succ n19 J19 =>
          intro M p19_2 u19_9020_0 hS bp19_2 bu19_9020_0 k19_120_113 k19_126_0 k19_9020_0 t19_0 tp19_0 hm19
          refine Tr.iload_n (pc := 19) (i := 2) d_X12_together_19 rfl rfl ?_
          refine Tr.bipush (pc := 20) d_X12_together_20 rfl (by decide) ?_
          refine Tr.icmp_ge (pc := 22) (tgt := 38) d_X12_together_22 rfl (fun c22 => ?_) (fun c22 => ?_)
          · refine Tr.ldc2 (pc := 38) d_X12_together_38 kl_12_686 (by decide) ?_
            refine Tr.lstore_n (pc := 41) (i := 2) (ls2 := [(2, (1, (-1))), (0, (2, 120)), (1, (0, a1))]) d_X12_together_41 rfl (by decide) rfl ?_
            refine Tr.iconst (pc := 42) d_X12_together_42 (by decide) ?_
            refine Tr.istore (pc := 43) (i := 4) (ls2 := [(4, (0, 0)), (2, (1, (-1))), (0, (2, 120)), (1, (0, a1))]) d_X12_together_43 (by decide) rfl ?_
            refine Tr.iconst (pc := 45) d_X12_together_45 (by decide) ?_
            refine Tr.istore (pc := 46) (i := 5) (ls2 := [(5, (0, 1)), (4, (0, 0)), (2, (1, (-1))), (0, (2, 120)), (1, (0, a1))]) d_X12_together_46 (by decide) rfl ?_
            have J48 : ∀ (n48 : Nat) (M : Mem) (p48_2 p48_4 p48_5 u48_9020_0 : Int), St Tru ws_X12_together_120 as_X12_together_120 M0 M → ((-9223372036854775808) ≤ p48_2 ∧ p48_2 ≤ 9223372036854775807) → ((-2147483648) ≤ p48_4 ∧ p48_4 ≤ 2147483647) → (0 ≤ p48_5 ∧ p48_5 ≤ 1) → ((-46655) ≤ u48_9020_0 ∧ u48_9020_0 ≤ 46655) → rd M 120 113 = g120_113 → rd M 126 0 = g126_0 → shv M = u48_9020_0 → (0 ≤ a1 ∧ a1 < g126_0) → (p48_5 = 0 ∨ p48_5 = 1) → (Sg M) → (100000 * p48_5 + u48_9020_0 + 46656).toNat < n48 → Tr l K 4 mX12_together 48 [(0, (2, 120)), (1, (0, a1)), (2, (1, p48_2)), (4, (0, p48_4)), (5, (0, p48_5))] [] M (q_X12_together_120 M0) := by
              intro n48
              induction n48 with
              | zero => intro M p48_2 p48_4 p48_5 u48_9020_0 hS bp48_2 bp48_4 bp48_5 bu48_9020_0 k48_120_113 k48_126_0 k48_9020_0 t48_0 t48_1 tp48_0 hm48; exact absurd hm48 (Nat.not_lt_zero _)
              | succ n48 J48 =>
                intro M p48_2 p48_4 p48_5 u48_9020_0 hS bp48_2 bp48_4 bp48_5 bu48_9020_0 k48_120_113 k48_126_0 k48_9020_0 t48_0 t48_1 tp48_0 hm48
                clear k19_120_113 k19_126_0 k19_9020_0
                replace t48_1 := hd_i t48_1
                refine Tr.iload (pc := 48) (i := 5) d_X12_together_48 rfl ?_
                refine Tr.if_eq (pc := 50) (tgt := 236) d_X12_together_50 rfl (fun c50 => ?_) (fun c50 => ?_)
                · refine Tr.aload_n (pc := 236) (i := 0) d_X12_together_236 rfl rfl ?_
                  refine Tr.aload_n (pc := 237) (i := 0) d_X12_together_237 rfl rfl ?_
                  refine Tr.getf (pc := 238) d_X12_together_238 f_12_354 (by decide) (by decide) (ty_120 hS.1.1) ?_
                  refine Tr.tp g120_113 k48_120_113 ?_
                  refine Tr.putfS (pc := 241) (P := St Tru ws_X12_together_120 as_X12_together_120 M0) d_X12_together_241 f_12_366 (by decide) (by decide) (ty_120 hS.1.1) (st_120_117 hS (by decide) (by and_intros <;> omega) trivial) (fun M241 hS w241 => ?_)
                  refine Tr.lload_n (pc := 244) (i := 2) d_X12_together_244 rfl rfl ?_
                  refine Tr.l2i (pc := 245) d_X12_together_245 ?_
                  refine Tr.gen (P := fun v => (-2147483648) ≤ v ∧ v ≤ 2147483647) (w32_b _) (fun r245 er245 br245 => ?_)
                  exact Tr.iret (pc := 246) d_X12_together_246 rfl ⟨hS, _, rfl, (by omega), (by omega)⟩
                · have c50b : 1 ≤ p48_5 ∧ p48_5 ≤ 1 := by omega
                  replace c50 := hd_i c50
                  refine Tr.aload_n (pc := 53) (i := 0) d_X12_together_53 rfl rfl ?_
                  refine Tr.iload_n (pc := 54) (i := 1) d_X12_together_54 rfl rfl ?_
                  refine Tr.callV (pc := 55) (as := [_]) d_X12_together_55 s_12_689 ok_X12_asksCost rfl rfl (Nat.le_of_ble_eq_true rfl) (Nat.le_of_ble_eq_true rfl) (by decide) (ty_120 hS.1.1) ?_
                  refine Tr.imp (Tr.deep (by decide) (ns_X12_asksCost_120 (G126_0 := g126_0) hS.1 (k48_126_0) ((kp_X12_together_120_120_12 hS).trans en_120_12) a1 (by and_intros <;> omega) (by omega) (Bk0.of hF_Bk0 (fun j => (ka_X12_together_120_131 hS _)) (fun j => (ka_X12_together_120_137 hS _)) (fun j => (ka_X12_together_120_138 hS _)) (fun j => (ka_X12_together_120_139 hS _)) (fun j => (ka_X12_together_120_140 hS _)) (fun j => (ka_X12_together_120_141 hS _)) (fun j => (ka_X12_together_120_142 hS _)) (fun j => (ka_X12_together_120_143 hS _)) (kp_X12_together_120_126_0 hS) (kp_X12_together_120_136_0 hS) (kp_X12_together_120_123_0 hS) (kp_X12_together_120_124_0 hS)))) ?_
                  rintro M55 _ ⟨h55, r55, rfl, lr55, ur55⟩
                  have hS := St.tr hS h55 (by decide) (by decide)
                  refine Tr.sc [(1, r55)] rfl ?_
                  refine Tr.lstore (pc := 58) (i := 6) (ls2 := [(6, (1, r55)), (0, (2, 120)), (1, (0, a1)), (2, (1, p48_2)), (4, (0, p48_4)), (5, (0, p48_5))]) d_X12_together_58 (by decide) rfl ?_
                  refine Tr.iconst (pc := 60) d_X12_together_60 (by decide) ?_
                  refine Tr.istore (pc := 61) (i := 8) (ls2 := [(8, (0, 0)), (6, (1, r55)), (0, (2, 120)), (1, (0, a1)), (2, (1, p48_2)), (4, (0, p48_4)), (5, (0, p48_5))]) d_X12_together_61 (by decide) rfl ?_
                  refine Tr.iconst (pc := 63) d_X12_together_63 (by decide) ?_
                  refine Tr.istore (pc := 64) (i := 9) (ls2 := [(9, (0, 0)), (8, (0, 0)), (6, (1, r55)), (0, (2, 120)), (1, (0, a1)), (2, (1, p48_2)), (4, (0, p48_4)), (5, (0, p48_5))]) d_X12_together_64 (by decide) rfl ?_
                  have J66 : ∀ (n66 : Nat) (M : Mem) (p66_8 p66_9 : Int), St Tru ws_X12_together_120 as_X12_together_120 M0 M → ((-2147483648) ≤ p66_8 ∧ p66_8 ≤ 2147483647) → (0 ≤ p66_9 ∧ p66_9 ≤ 6) → rd M 120 113 = g120_113 → rd M 126 0 = g126_0 → shv M = u48_9020_0 → (0 ≤ a1 ∧ a1 < g126_0) → (u48_9020_0 = u48_9020_0) → (Sg M) → (6 - p66_9).toNat < n66 → Tr l K 4 mX12_together 66 [(0, (2, 120)), (1, (0, a1)), (2, (1, p48_2)), (4, (0, p48_4)), (6, (1, r55)), (8, (0, p66_8)), (9, (0, p66_9))] [] M (q_X12_together_120 M0) := by
                    intro n66
                    induction n66 with
                    | zero => intro M p66_8 p66_9 hS bp66_8 bp66_9 k66_120_113 k66_126_0 k66_9020_0 t66_0 t66_1 tp66_0 hm66; exact absurd hm66 (Nat.not_lt_zero _)
                    | succ n66 J66 =>
                      intro M p66_8 p66_9 hS bp66_8 bp66_9 k66_120_113 k66_126_0 k66_9020_0 t66_0 t66_1 tp66_0 hm66
                      clear k48_120_113 k48_126_0 k48_9020_0
                      refine Tr.iload (pc := 66) (i := 9) d_X12_together_66 rfl ?_
                      refine Tr.aload_n (pc := 68) (i := 0) d_X12_together_68 rfl rfl ?_
                      refine Tr.getf (pc := 69) d_X12_together_69 f_12_354 (by decide) (by decide) (ty_120 hS.1.1) ?_
                      refine Tr.tp g120_113 k66_120_113 ?_
                      refine Tr.icmp_ge (pc := 72) (tgt := 93) d_X12_together_72 rfl (fun c72 => ?_) (fun c72 => ?_)
                      · refine Tr.lload_n (pc := 93) (i := 2) d_X12_together_93 rfl rfl ?_
                        refine Tr.ldc2 (pc := 94) d_X12_together_94 kl_12_686 (by decide) ?_
                        refine Tr.lcmp (pc := 97) d_X12_together_97 ?_
                        refine Tr.gen (P := fun v => (v = 1 ∧ (-1) < p48_2) ∨ (v = 0 ∧ p48_2 = (-1)) ∨ (v = -1 ∧ p48_2 < (-1))) (f_lcmp_c _ _) (fun r97 er97 br97 => ?_)
                        replace br97 := hd_i br97
                        have J161 : ∀ (M : Mem) (p161_2 p161_4 : Int), St Tru ws_X12_together_120 as_X12_together_120 M0 M → ((-9223372036854775808) ≤ p161_2 ∧ p161_2 ≤ 9223372036854775807) → ((-2147483648) ≤ p161_4 ∧ p161_4 ≤ 2147483647) → rd M 120 113 = g120_113 → rd M 126 0 = g126_0 → shv M = u48_9020_0 → (0 ≤ a1 ∧ a1 < g126_0) → (u48_9020_0 = u48_9020_0) → (Sg M) → Tr l K 4 mX12_together 161 [(0, (2, 120)), (1, (0, a1)), (2, (1, p161_2)), (4, (0, p161_4))] [] M (q_X12_together_120 M0) := by
                          intro M p161_2 p161_4 hS bp161_2 bp161_4 k161_120_113 k161_126_0 k161_9020_0 t161_0 t161_1 tp161_0
                          clear k66_120_113 k66_126_0 k66_9020_0 er97
                          refine Tr.aload_n (pc := 161) (i := 0) d_X12_together_161 rfl rfl ?_
                          refine Tr.getf (pc := 162) d_X12_together_162 f_12_354 (by decide) (by decide) (ty_120 hS.1.1) ?_
                          refine Tr.tp g120_113 k161_120_113 ?_
                          refine Tr.iconst (pc := 165) d_X12_together_165 (by decide) ?_
                          refine Tr.isub (pc := 166) d_X12_together_166 ?_
                          refine Tr.tp (g120_113 - 1) ((w32_id (by and_intros <;> omega)).trans (by omega)) ?_
                          refine Tr.istore (pc := 167) (i := 9) (ls2 := [(9, (0, (g120_113 - 1))), (0, (2, 120)), (1, (0, a1)), (2, (1, p161_2)), (4, (0, p161_4))]) d_X12_together_167 (by decide) rfl ?_
                          have J169 : ∀ (n169 : Nat) (M : Mem) (p169_9 u169_9020_0 : Int), St Tru ws_X12_together_120 as_X12_together_120 M0 M → ((-1) ≤ p169_9 ∧ p169_9 ≤ 5) → ((-46655) ≤ u169_9020_0 ∧ u169_9020_0 ≤ 46655) → rd M 120 113 = g120_113 → rd M 126 0 = g126_0 → shv M = u169_9020_0 → (0 ≤ a1 ∧ a1 < g126_0) → ((p169_9 = 5 ∧ u169_9020_0 ≤ u48_9020_0 + 0) ∨ (p169_9 = 4 ∧ u169_9020_0 ≤ u48_9020_0 + 5) ∨ (p169_9 = 3 ∧ u169_9020_0 ≤ u48_9020_0 + 35) ∨ (p169_9 = 2 ∧ u169_9020_0 ≤ u48_9020_0 + 215) ∨ (p169_9 = 1 ∧ u169_9020_0 ≤ u48_9020_0 + 1295) ∨ (p169_9 = 0 ∧ u169_9020_0 ≤ u48_9020_0 + 7775) ∨ (p169_9 = -1 ∧ u169_9020_0 ≤ u48_9020_0 + 46655)) → (Sg M) → (p169_9 + 1).toNat < n169 → Tr l K 4 mX12_together 169 [(0, (2, 120)), (1, (0, a1)), (2, (1, p161_2)), (4, (0, p161_4)), (9, (0, p169_9))] [] M (q_X12_together_120 M0) := by
                            intro n169
                            induction n169 with
                            | zero => intro M p169_9 u169_9020_0 hS bp169_9 bu169_9020_0 k169_120_113 k169_126_0 k169_9020_0 t169_0 t169_1 tp169_0 hm169; exact absurd hm169 (Nat.not_lt_zero _)
                            | succ n169 J169 =>
                              intro M p169_9 u169_9020_0 hS bp169_9 bu169_9020_0 k169_120_113 k169_126_0 k169_9020_0 t169_0 t169_1 tp169_0 hm169
                              clear k161_120_113 k161_126_0 k161_9020_0
                              replace t169_1 := hd_i t169_1
                              refine Tr.iload (pc := 169) (i := 9) d_X12_together_169 rfl ?_
                              have J205 : ∀ (M : Mem), St Tru ws_X12_together_120 as_X12_together_120 M0 M → rd M 120 113 = g120_113 → rd M 126 0 = g126_0 → shv M = u169_9020_0 → (0 ≤ a1 ∧ a1 < g126_0) → ((p169_9 = 5 ∧ u169_9020_0 ≤ u48_9020_0 + 0) ∨ (p169_9 = 4 ∧ u169_9020_0 ≤ u48_9020_0 + 5) ∨ (p169_9 = 3 ∧ u169_9020_0 ≤ u48_9020_0 + 35) ∨ (p169_9 = 2 ∧ u169_9020_0 ≤ u48_9020_0 + 215) ∨ (p169_9 = 1 ∧ u169_9020_0 ≤ u48_9020_0 + 1295) ∨ (p169_9 = 0 ∧ u169_9020_0 ≤ u48_9020_0 + 7775) ∨ (p169_9 = -1 ∧ u169_9020_0 ≤ u48_9020_0 + 46655)) → (p169_9 < 0 ∨ (rd M 189 p169_9 < rd M 187 p169_9 ∧ rd M 189 p169_9 ≤ 4)) → (Sg M) → Tr l K 4 mX12_together 205 [(0, (2, 120)), (1, (0, a1)), (2, (1, p161_2)), (4, (0, p161_4)), (9, (0, p169_9))] [] M (q_X12_together_120 M0) := by
                                intro M  hS  k205_120_113 k205_126_0 k205_9020_0 t205_0 t205_1 t205_2 tp205_0
                                clear k169_120_113 k169_126_0 k169_9020_0
                                replace t205_1 := hd_i t205_1
                                replace t205_2 := hd_i t205_2
                                refine Tr.iload (pc := 205) (i := 9) d_X12_together_205 rfl ?_
                                have J215 : ∀ (M : Mem) (q215_0 : Int), St Tru ws_X12_together_120 as_X12_together_120 M0 M → (0 ≤ q215_0 ∧ q215_0 ≤ 1) → rd M 120 113 = g120_113 → rd M 126 0 = g126_0 → shv M = u169_9020_0 → (0 ≤ a1 ∧ a1 < g126_0) → ((p169_9 = 5 ∧ u169_9020_0 ≤ u48_9020_0 + 0) ∨ (p169_9 = 4 ∧ u169_9020_0 ≤ u48_9020_0 + 5) ∨ (p169_9 = 3 ∧ u169_9020_0 ≤ u48_9020_0 + 35) ∨ (p169_9 = 2 ∧ u169_9020_0 ≤ u48_9020_0 + 215) ∨ (p169_9 = 1 ∧ u169_9020_0 ≤ u48_9020_0 + 1295) ∨ (p169_9 = 0 ∧ u169_9020_0 ≤ u48_9020_0 + 7775) ∨ (p169_9 = -1 ∧ u169_9020_0 ≤ u48_9020_0 + 46655)) → (p169_9 < 0 ∨ (rd M 189 p169_9 < rd M 187 p169_9 ∧ rd M 189 p169_9 ≤ 4)) → ((q215_0 = 1 ∧ 0 ≤ p169_9) ∨ (q215_0 = 0 ∧ p169_9 < 0)) → (Sg M) → Tr l K 4 mX12_together 215 [(0, (2, 120)), (1, (0, a1)), (2, (1, p161_2)), (4, (0, p161_4)), (9, (0, p169_9))] [(0, q215_0)] M (q_X12_together_120 M0) := by
                                  intro M q215_0 hS bq215_0 k215_120_113 k215_126_0 k215_9020_0 t215_0 t215_1 t215_2 t215_3 tp215_0
                                  clear k205_120_113 k205_126_0 k205_9020_0
                                  replace t215_1 := hd_i t215_1
                                  replace t215_2 := hd_i t215_2
                                  replace t215_3 := hd_i t215_3
                                  refine Tr.istore (pc := 215) (i := 5) (ls2 := [(5, (0, q215_0)), (0, (2, 120)), (1, (0, a1)), (2, (1, p161_2)), (4, (0, p161_4)), (9, (0, p169_9))]) d_X12_together_215 (by decide) rfl ?_
                                  refine Tr.iload (pc := 217) (i := 5) d_X12_together_217 rfl ?_
                                  have J233 : ∀ (M : Mem) (u233_9020_0 : Int), St Tru ws_X12_together_120 as_X12_together_120 M0 M → ((-46655) ≤ u233_9020_0 ∧ u233_9020_0 ≤ 46655) → rd M 120 113 = g120_113 → rd M 126 0 = g126_0 → shv M = u233_9020_0 → (0 ≤ a1 ∧ a1 < g126_0) → ((q215_0 = 1 ∧ u233_9020_0 < u48_9020_0) ∨ (q215_0 = 0 ∧ u233_9020_0 ≤ u48_9020_0 + 46655)) → (Sg M) → Tr l K 4 mX12_together 233 [(0, (2, 120)), (1, (0, a1)), (2, (1, p161_2)), (4, (0, p161_4)), (5, (0, q215_0))] [] M (q_X12_together_120 M0) := by
                                    intro M u233_9020_0 hS bu233_9020_0 k233_120_113 k233_126_0 k233_9020_0 t233_0 t233_1 tp233_0
                                    clear k215_120_113 k215_126_0 k215_9020_0
                                    replace t233_1 := hd_i t233_1
                                    refine Tr.goto (pc := 233) (tgt := 48) d_X12_together_233 rfl ?_
                                    refine Tr.pick [0, 1, 2, 3, 4] (ls2 := [(0, (2, 120)), (1, (0, a1)), (2, (1, p161_2)), (4, (0, p161_4)), (5, (0, q215_0))]) rfl ?_
                                    exact J48 _ _ _ _ _ hS (by omega) (by and_intros <;> omega) (by and_intros <;> omega) (by and_intros <;> omega) k233_120_113 k233_126_0 k233_9020_0 (by and_intros <;> omega) (by omega) tp233_0 (me_lt hm48 (by exact (hd_o t233_1).elim (fun h1 => by omega) (fun h1 => by omega)) (by omega))
                                  refine Tr.if_eq (pc := 219) (tgt := 233) d_X12_together_219 rfl (fun c219 => ?_) (fun c219 => ?_)
                                  · refine Tr.pick [1, 2, 3, 4, 0] (ls2 := [(0, (2, 120)), (1, (0, a1)), (2, (1, p161_2)), (4, (0, p161_4)), (5, (0, q215_0))]) rfl ?_
                                    exact J233 _ _ hS (by and_intros <;> omega) k215_120_113 k215_126_0 k215_9020_0 (by and_intros <;> omega) (by exact (hd_o t215_1).elim (fun h1 => by omega) (fun h1 => h1.elim (fun h1 => by omega) (fun h1 => h1.elim (fun h1 => by omega) (fun h1 => h1.elim (fun h1 => by omega) (fun h1 => h1.elim (fun h1 => by omega) (fun h1 => h1.elim (fun h1 => by omega) (fun h1 => by omega))))))) tp215_0
                                  · have c219b : 1 ≤ q215_0 ∧ q215_0 ≤ 1 := by omega
                                    replace c219 := hd_i c219
                                    refine Tr.aload_n (pc := 222) (i := 0) d_X12_together_222 rfl rfl ?_
                                    refine Tr.getf (pc := 223) d_X12_together_223 f_12_372 (by decide) (by decide) (ty_120 hS.1.1) ?_
                                    refine Tr.tp 189 (fx_120_119 hS.1.1) ?_
                                    refine Tr.iload (pc := 226) (i := 9) d_X12_together_226 rfl ?_
                                    refine Tr.dup2 (pc := 228) d_X12_together_228 ne01 ne21 ?_
                                    refine Tr.iald (pc := 229) d_X12_together_229 (ty_189 hS.1.1) (by exact (hd_o t215_3).elim (fun h1 => by omega) (fun h1 => by omega)) (by omega) ?_
                                    refine Tr.gen (P := fun v => 0 ≤ v ∧ v ≤ 5) (ar_189 hS.1.2.1 _) (fun r229 er229 br229 => ?_)
                                    refine Tr.iconst (pc := 230) d_X12_together_230 (by decide) ?_
                                    refine Tr.iadd (pc := 231) d_X12_together_231 ?_
                                    refine Tr.tp (r229 + 1) ((w32_id (by and_intros <;> omega)).trans (by omega)) ?_
                                    have h9232 := hS
                                    refine Tr.iastS (pc := 232) (P := St Tru ws_X12_together_120 as_X12_together_120 M0) d_X12_together_232 (ty_189 hS.1.1) (by exact (hd_o t215_3).elim (fun h1 => by omega) (fun h1 => by omega)) (by omega) (sa_189 hS (by decide) (by exact (hd_o t215_3).elim (fun h1 => (hd_o t215_2).elim (fun h2 => by omega) (fun h2 => by omega)) (fun h1 => by omega)) trivial) (fun M232 hS w232 => ?_)
                                    obtain ⟨v232_9020, ev232_9020⟩ : ∃ v, shv M232 = v := ⟨_, rfl⟩
                                    have bv232_9020 : (-46655) ≤ v232_9020 ∧ v232_9020 ≤ 46655 := by rw [← ev232_9020]; exact shv_b hS.1.2.1
                                    have fv232_9020 : (p169_9 = 0 ∧ v232_9020 = u169_9020_0 + 7776 * r229 - 7776 * (r229 + 1)) ∨ (p169_9 = 1 ∧ v232_9020 = u169_9020_0 + 1296 * r229 - 1296 * (r229 + 1)) ∨ (p169_9 = 2 ∧ v232_9020 = u169_9020_0 + 216 * r229 - 216 * (r229 + 1)) ∨ (p169_9 = 3 ∧ v232_9020 = u169_9020_0 + 36 * r229 - 36 * (r229 + 1)) ∨ (p169_9 = 4 ∧ v232_9020 = u169_9020_0 + 6 * r229 - 6 * (r229 + 1)) ∨ (p169_9 = 5 ∧ v232_9020 = u169_9020_0 + r229 - (r229 + 1)) := by have h8 := shv_w w232 (er229) (by exact (hd_o t215_3).elim (fun h1 => by omega) (fun h1 => by omega)) (by omega); rw [ev232_9020, show shv M = u169_9020_0 from k215_9020_0] at h8; exact h8
                                    replace fv232_9020 := hd_i fv232_9020
                                    have hvw232 : (r229 + 1) ≤ rd M 187 p169_9 := by have h5 := hd_o t215_3; have h8 := hd_o t215_2; have h7 : rd M 189 p169_9 = r229 := (er229); have h6 : rd M 187 p169_9 = rd M 187 p169_9 := rfl; omega
                                    refine Tr.pick [1, 2, 3, 4, 0] (ls2 := [(0, (2, 120)), (1, (0, a1)), (2, (1, p161_2)), (4, (0, p161_4)), (5, (0, q215_0))]) rfl ?_
                                    exact J233 _ _ hS (by and_intros <;> omega) ((Wr.b w232 rfl).trans k215_120_113) ((Wr.b w232 rfl).trans k215_126_0) ev232_9020 (by and_intros <;> omega) (by exact (hd_o fv232_9020).elim (fun h1 => (hd_o t215_1).elim (fun h2 => by omega) (fun h2 => h2.elim (fun h2 => by omega) (fun h2 => h2.elim (fun h2 => by omega) (fun h2 => h2.elim (fun h2 => by omega) (fun h2 => h2.elim (fun h2 => by omega) (fun h2 => h2.elim (fun h2 => by omega) (fun h2 => by omega))))))) (fun h1 => h1.elim (fun h1 => (hd_o t215_1).elim (fun h2 => by omega) (fun h2 => h2.elim (fun h2 => by omega) (fun h2 => h2.elim (fun h2 => by omega) (fun h2 => h2.elim (fun h2 => by omega) (fun h2 => h2.elim (fun h2 => by omega) (fun h2 => h2.elim (fun h2 => by omega) (fun h2 => by omega))))))) (fun h1 => h1.elim (fun h1 => (hd_o t215_1).elim (fun h2 => by omega) (fun h2 => h2.elim (fun h2 => by omega) (fun h2 => h2.elim (fun h2 => by omega) (fun h2 => h2.elim (fun h2 => by omega) (fun h2 => h2.elim (fun h2 => by omega) (fun h2 => h2.elim (fun h2 => by omega) (fun h2 => by omega))))))) (fun h1 => h1.elim (fun h1 => (hd_o t215_1).elim (fun h2 => by omega) (fun h2 => h2.elim (fun h2 => by omega) (fun h2 => h2.elim (fun h2 => by omega) (fun h2 => h2.elim (fun h2 => by omega) (fun h2 => h2.elim (fun h2 => by omega) (fun h2 => h2.elim (fun h2 => by omega) (fun h2 => by omega))))))) (fun h1 => h1.elim (fun h1 => (hd_o t215_1).elim (fun h2 => by omega) (fun h2 => h2.elim (fun h2 => by omega) (fun h2 => h2.elim (fun h2 => by omega) (fun h2 => h2.elim (fun h2 => by omega) (fun h2 => h2.elim (fun h2 => by omega) (fun h2 => h2.elim (fun h2 => by omega) (fun h2 => by omega))))))) (fun h1 => (hd_o t215_1).elim (fun h2 => by omega) (fun h2 => h2.elim (fun h2 => by omega) (fun h2 => h2.elim (fun h2 => by omega) (fun h2 => h2.elim (fun h2 => by omega) (fun h2 => h2.elim (fun h2 => by omega) (fun h2 => h2.elim (fun h2 => by omega) (fun h2 => by omega)))))))))))) (Sg.wr tp215_0 w232 hvw232)
                                refine Tr.if_lt (pc := 207) (tgt := 214) d_X12_together_207 rfl (fun c207 => ?_) (fun c207 => ?_)
                                · refine Tr.iconst (pc := 214) d_X12_together_214 (by decide) ?_
                                  refine Tr.pick [0, 1, 2, 3, 4] (ls2 := [(0, (2, 120)), (1, (0, a1)), (2, (1, p161_2)), (4, (0, p161_4)), (9, (0, p169_9))]) rfl ?_
                                  exact J215 _ _ hS (by omega) k205_120_113 k205_126_0 k205_9020_0 (by and_intros <;> omega) (by first | exact (hd_o t205_1) | exact (hd_o t205_1).elim (fun h1 => by omega) (fun h1 => h1.elim (fun h1 => by omega) (fun h1 => h1.elim (fun h1 => by omega) (fun h1 => h1.elim (fun h1 => by omega) (fun h1 => h1.elim (fun h1 => by omega) (fun h1 => h1.elim (fun h1 => by omega) (fun h1 => by omega))))))) (by first | exact (hd_o t205_2) | exact (hd_o t205_2).elim (fun h1 => by omega) (fun h1 => by omega)) (by omega) tp205_0
                                · refine Tr.iconst (pc := 210) d_X12_together_210 (by decide) ?_
                                  refine Tr.goto (pc := 211) (tgt := 215) d_X12_together_211 rfl ?_
                                  refine Tr.pick [0, 1, 2, 3, 4] (ls2 := [(0, (2, 120)), (1, (0, a1)), (2, (1, p161_2)), (4, (0, p161_4)), (9, (0, p169_9))]) rfl ?_
                                  exact J215 _ _ hS (by omega) k205_120_113 k205_126_0 k205_9020_0 (by and_intros <;> omega) (by first | exact (hd_o t205_1) | exact (hd_o t205_1).elim (fun h1 => by omega) (fun h1 => h1.elim (fun h1 => by omega) (fun h1 => h1.elim (fun h1 => by omega) (fun h1 => h1.elim (fun h1 => by omega) (fun h1 => h1.elim (fun h1 => by omega) (fun h1 => h1.elim (fun h1 => by omega) (fun h1 => by omega))))))) (by first | exact (hd_o t205_2) | exact (hd_o t205_2).elim (fun h1 => by omega) (fun h1 => by omega)) (by omega) tp205_0
                              refine Tr.if_lt (pc := 171) (tgt := 205) d_X12_together_171 rfl (fun c171 => ?_) (fun c171 => ?_)
                              · refine Tr.pick [0, 1, 2, 3, 4] (ls2 := [(0, (2, 120)), (1, (0, a1)), (2, (1, p161_2)), (4, (0, p161_4)), (9, (0, p169_9))]) rfl ?_
                                exact J205 _ hS k169_120_113 k169_126_0 k169_9020_0 (by and_intros <;> omega) (by first | exact (hd_o t169_1) | exact (hd_o t169_1).elim (fun h1 => by omega) (fun h1 => h1.elim (fun h1 => by omega) (fun h1 => h1.elim (fun h1 => by omega) (fun h1 => h1.elim (fun h1 => by omega) (fun h1 => h1.elim (fun h1 => by omega) (fun h1 => h1.elim (fun h1 => by omega) (fun h1 => by omega))))))) (by omega) tp169_0
                              · refine Tr.aload_n (pc := 174) (i := 0) d_X12_together_174 rfl rfl ?_
                                refine Tr.getf (pc := 175) d_X12_together_175 f_12_372 (by decide) (by decide) (ty_120 hS.1.1) ?_
                                refine Tr.tp 189 (fx_120_119 hS.1.1) ?_
                                refine Tr.iload (pc := 178) (i := 9) d_X12_together_178 rfl ?_
                                refine Tr.iald (pc := 180) d_X12_together_180 (ty_189 hS.1.1) (by omega) (by omega) ?_
                                refine Tr.gen (P := fun v => 0 ≤ v ∧ v ≤ 5) (ar_189 hS.1.2.1 _) (fun r180 er180 br180 => ?_)
                                refine Tr.aload_n (pc := 181) (i := 0) d_X12_together_181 rfl rfl ?_
                                refine Tr.getf (pc := 182) d_X12_together_182 f_12_363 (by decide) (by decide) (ty_120 hS.1.1) ?_
                                refine Tr.tp 187 (fx_120_116 hS.1.1) ?_
                                refine Tr.iload (pc := 185) (i := 9) d_X12_together_185 rfl ?_
                                refine Tr.iald (pc := 187) d_X12_together_187 (ty_187 hS.1.1) (by omega) (by omega) ?_
                                refine Tr.gen (P := fun v => 0 ≤ v ∧ v ≤ 5) (ar_187 hS.1.2.1 _) (fun r187 er187 br187 => ?_)
                                have sg187 := tp169_0 p169_9 (by omega) (by omega)
                                rw [er180, er187] at sg187
                                refine Tr.icmp_ne (pc := 188) (tgt := 205) d_X12_together_188 rfl (fun c188 => ?_) (fun c188 => ?_)
                                · replace c188 := hd_i c188
                                  refine Tr.pick [0, 1, 2, 3, 4] (ls2 := [(0, (2, 120)), (1, (0, a1)), (2, (1, p161_2)), (4, (0, p161_4)), (9, (0, p169_9))]) rfl ?_
                                  have jr205_0 : rd M 189 p169_9 = r180 := er180
                                  have jr205_1 : rd M 187 p169_9 = r187 := er187
                                  exact J205 _ hS k169_120_113 k169_126_0 k169_9020_0 (by and_intros <;> omega) (by first | exact (hd_o t169_1) | exact (hd_o t169_1).elim (fun h1 => by omega) (fun h1 => h1.elim (fun h1 => by omega) (fun h1 => h1.elim (fun h1 => by omega) (fun h1 => h1.elim (fun h1 => by omega) (fun h1 => h1.elim (fun h1 => by omega) (fun h1 => h1.elim (fun h1 => by omega) (fun h1 => by omega))))))) (by exact (ne_o (hd_o c188)).elim (fun h1 => by omega) (fun h1 => by omega)) tp169_0
                                · refine Tr.aload_n (pc := 191) (i := 0) d_X12_together_191 rfl rfl ?_
                                  refine Tr.getf (pc := 192) d_X12_together_192 f_12_372 (by decide) (by decide) (ty_120 hS.1.1) ?_
                                  refine Tr.tp 189 (fx_120_119 hS.1.1) ?_
                                  refine Tr.iload (pc := 195) (i := 9) d_X12_together_195 rfl ?_
                                  refine Tr.iconst (pc := 197) d_X12_together_197 (by decide) ?_
                                  have h9198 := hS
                                  refine Tr.iastS (pc := 198) (P := St Tru ws_X12_together_120 as_X12_together_120 M0) d_X12_together_198 (ty_189 hS.1.1) (by omega) (by omega) (sa_189 hS (by decide) (by omega) trivial) (fun M198 hS w198 => ?_)
                                  obtain ⟨v198_9020, ev198_9020⟩ : ∃ v, shv M198 = v := ⟨_, rfl⟩
                                  have bv198_9020 : (-46655) ≤ v198_9020 ∧ v198_9020 ≤ 46655 := by rw [← ev198_9020]; exact shv_b hS.1.2.1
                                  have fv198_9020 : (p169_9 = 0 ∧ v198_9020 = u169_9020_0 + 7776 * r180 - 7776 * 0) ∨ (p169_9 = 1 ∧ v198_9020 = u169_9020_0 + 1296 * r180 - 1296 * 0) ∨ (p169_9 = 2 ∧ v198_9020 = u169_9020_0 + 216 * r180 - 216 * 0) ∨ (p169_9 = 3 ∧ v198_9020 = u169_9020_0 + 36 * r180 - 36 * 0) ∨ (p169_9 = 4 ∧ v198_9020 = u169_9020_0 + 6 * r180 - 6 * 0) ∨ (p169_9 = 5 ∧ v198_9020 = u169_9020_0 + r180 - 0) := by have h8 := shv_w w198 (er180) (by omega) (by omega); rw [ev198_9020, show shv M = u169_9020_0 from k169_9020_0] at h8; exact h8
                                  replace fv198_9020 := hd_i fv198_9020
                                  have hvw198 : 0 ≤ rd M 187 p169_9 := (ar_187 (M := M) h9198.1.2.1 _).1
                                  refine Tr.iincV (pc := 199) (n2 := (p169_9 - 1)) (ls2 := [(9, (0, (p169_9 - 1))), (0, (2, 120)), (1, (0, a1)), (2, (1, p161_2)), (4, (0, p161_4))]) d_X12_together_199 rfl (by decide) ((w32_id (by and_intros <;> omega)).trans (by omega)) rfl ?_
                                  refine Tr.goto (pc := 202) (tgt := 169) d_X12_together_202 rfl ?_
                                  refine Tr.pick [1, 2, 3, 4, 0] (ls2 := [(0, (2, 120)), (1, (0, a1)), (2, (1, p161_2)), (4, (0, p161_4)), (9, (0, (p169_9 - 1)))]) rfl ?_
                                  exact J169 _ _ _ hS (by and_intros <;> omega) (by and_intros <;> omega) ((Wr.b w198 rfl).trans k169_120_113) ((Wr.b w198 rfl).trans k169_126_0) ev198_9020 (by and_intros <;> omega) (by exact (hd_o fv198_9020).elim (fun h1 => (hd_o t169_1).elim (fun h2 => by omega) (fun h2 => h2.elim (fun h2 => by omega) (fun h2 => h2.elim (fun h2 => by omega) (fun h2 => h2.elim (fun h2 => by omega) (fun h2 => h2.elim (fun h2 => by omega) (fun h2 => h2.elim (fun h2 => by omega) (fun h2 => by omega))))))) (fun h1 => h1.elim (fun h1 => (hd_o t169_1).elim (fun h2 => by omega) (fun h2 => h2.elim (fun h2 => by omega) (fun h2 => h2.elim (fun h2 => by omega) (fun h2 => h2.elim (fun h2 => by omega) (fun h2 => h2.elim (fun h2 => by omega) (fun h2 => h2.elim (fun h2 => by omega) (fun h2 => by omega))))))) (fun h1 => h1.elim (fun h1 => (hd_o t169_1).elim (fun h2 => by omega) (fun h2 => h2.elim (fun h2 => by omega) (fun h2 => h2.elim (fun h2 => by omega) (fun h2 => h2.elim (fun h2 => by omega) (fun h2 => h2.elim (fun h2 => by omega) (fun h2 => h2.elim (fun h2 => by omega) (fun h2 => by omega))))))) (fun h1 => h1.elim (fun h1 => (hd_o t169_1).elim (fun h2 => by omega) (fun h2 => h2.elim (fun h2 => by omega) (fun h2 => h2.elim (fun h2 => by omega) (fun h2 => h2.elim (fun h2 => by omega) (fun h2 => h2.elim (fun h2 => by omega) (fun h2 => h2.elim (fun h2 => by omega) (fun h2 => by omega))))))) (fun h1 => h1.elim (fun h1 => (hd_o t169_1).elim (fun h2 => by omega) (fun h2 => h2.elim (fun h2 => by omega) (fun h2 => h2.elim (fun h2 => by omega) (fun h2 => h2.elim (fun h2 => by omega) (fun h2 => h2.elim (fun h2 => by omega) (fun h2 => h2.elim (fun h2 => by omega) (fun h2 => by omega))))))) (fun h1 => (hd_o t169_1).elim (fun h2 => by omega) (fun h2 => h2.elim (fun h2 => by omega) (fun h2 => h2.elim (fun h2 => by omega) (fun h2 => h2.elim (fun h2 => by omega) (fun h2 => h2.elim (fun h2 => by omega) (fun h2 => h2.elim (fun h2 => by omega) (fun h2 => by omega)))))))))))) (Sg.wr tp169_0 w198 hvw198) (me_lt hm169 (by omega) (by omega))
                          refine Tr.pick [1, 2, 3, 4, 0] (ls2 := [(0, (2, 120)), (1, (0, a1)), (2, (1, p161_2)), (4, (0, p161_4)), (9, (0, (g120_113 - 1)))]) rfl ?_
                          exact J169 _ _ _ _ hS (by and_intros <;> omega) (by and_intros <;> omega) k161_120_113 k161_126_0 k161_9020_0 (by and_intros <;> omega) (by omega) tp161_0 (Nat.lt_succ_self _)
                        have J122 : ∀ (M : Mem), St Tru ws_X12_together_120 as_X12_together_120 M0 M → rd M 120 113 = g120_113 → rd M 126 0 = g126_0 → shv M = u48_9020_0 → (0 ≤ a1 ∧ a1 < g126_0) → (u48_9020_0 = u48_9020_0) → (Sg M) → Tr l K 4 mX12_together 122 [(0, (2, 120)), (1, (0, a1)), (6, (1, r55)), (8, (0, p66_8))] [] M (q_X12_together_120 M0) := by
                          intro M  hS  k122_120_113 k122_126_0 k122_9020_0 t122_0 t122_1 tp122_0
                          clear k66_120_113 k66_126_0 k66_9020_0 er97
                          refine Tr.lload (pc := 122) (i := 6) d_X12_together_122 rfl ?_
                          refine Tr.lstore_n (pc := 124) (i := 2) (ls2 := [(2, (1, r55)), (0, (2, 120)), (1, (0, a1)), (6, (1, r55)), (8, (0, p66_8))]) d_X12_together_124 rfl (by decide) rfl ?_
                          refine Tr.iload (pc := 125) (i := 8) d_X12_together_125 rfl ?_
                          refine Tr.istore (pc := 127) (i := 4) (ls2 := [(4, (0, p66_8)), (2, (1, r55)), (0, (2, 120)), (1, (0, a1)), (6, (1, r55)), (8, (0, p66_8))]) d_X12_together_127 (by decide) rfl ?_
                          refine Tr.iconst (pc := 129) d_X12_together_129 (by decide) ?_
                          refine Tr.istore (pc := 130) (i := 9) (ls2 := [(9, (0, 0)), (4, (0, p66_8)), (2, (1, r55)), (0, (2, 120)), (1, (0, a1)), (6, (1, r55)), (8, (0, p66_8))]) d_X12_together_130 (by decide) rfl ?_
                          have J132 : ∀ (n132 : Nat) (M : Mem) (p132_9 : Int), St Tru ws_X12_together_120 as_X12_together_120 M0 M → (0 ≤ p132_9 ∧ p132_9 ≤ 6) → rd M 120 113 = g120_113 → rd M 126 0 = g126_0 → shv M = u48_9020_0 → (0 ≤ a1 ∧ a1 < g126_0) → (u48_9020_0 = u48_9020_0) → (Sg M) → (6 - p132_9).toNat < n132 → Tr l K 4 mX12_together 132 [(0, (2, 120)), (1, (0, a1)), (2, (1, r55)), (4, (0, p66_8)), (9, (0, p132_9))] [] M (q_X12_together_120 M0) := by
                            intro n132
                            induction n132 with
                            | zero => intro M p132_9 hS bp132_9 k132_120_113 k132_126_0 k132_9020_0 t132_0 t132_1 tp132_0 hm132; exact absurd hm132 (Nat.not_lt_zero _)
                            | succ n132 J132 =>
                              intro M p132_9 hS bp132_9 k132_120_113 k132_126_0 k132_9020_0 t132_0 t132_1 tp132_0 hm132
                              clear k122_120_113 k122_126_0 k122_9020_0
                              refine Tr.iload (pc := 132) (i := 9) d_X12_together_132 rfl ?_
                              refine Tr.aload_n (pc := 134) (i := 0) d_X12_together_134 rfl rfl ?_
                              refine Tr.getf (pc := 135) d_X12_together_135 f_12_354 (by decide) (by decide) (ty_120 hS.1.1) ?_
                              refine Tr.tp g120_113 k132_120_113 ?_
                              refine Tr.icmp_ge (pc := 138) (tgt := 161) d_X12_together_138 rfl (fun c138 => ?_) (fun c138 => ?_)
                              · refine Tr.pick [0, 1, 2, 3] (ls2 := [(0, (2, 120)), (1, (0, a1)), (2, (1, r55)), (4, (0, p66_8))]) rfl ?_
                                exact J161 _ _ _ hS (by omega) (by and_intros <;> omega) k132_120_113 k132_126_0 k132_9020_0 (by and_intros <;> omega) (by omega) tp132_0
                              · refine Tr.aload_n (pc := 141) (i := 0) d_X12_together_141 rfl rfl ?_
                                refine Tr.getf (pc := 142) d_X12_together_142 f_12_369 (by decide) (by decide) (ty_120 hS.1.1) ?_
                                refine Tr.tp 188 (fx_120_118 hS.1.1) ?_
                                refine Tr.iload (pc := 145) (i := 9) d_X12_together_145 rfl ?_
                                refine Tr.aload_n (pc := 147) (i := 0) d_X12_together_147 rfl rfl ?_
                                refine Tr.getf (pc := 148) d_X12_together_148 f_12_372 (by decide) (by decide) (ty_120 hS.1.1) ?_
                                refine Tr.tp 189 (fx_120_119 hS.1.1) ?_
                                refine Tr.iload (pc := 151) (i := 9) d_X12_together_151 rfl ?_
                                refine Tr.iald (pc := 153) d_X12_together_153 (ty_189 hS.1.1) (by omega) (by omega) ?_
                                refine Tr.gen (P := fun v => 0 ≤ v ∧ v ≤ 5) (ar_189 hS.1.2.1 _) (fun r153 er153 br153 => ?_)
                                refine Tr.iastS (pc := 154) (P := St Tru ws_X12_together_120 as_X12_together_120 M0) d_X12_together_154 (ty_188 hS.1.1) (by omega) (by omega) (sa_188 hS (by decide) (by and_intros <;> omega) trivial) (fun M154 hS w154 => ?_)
                                refine Tr.iincV (pc := 155) (n2 := (p132_9 + 1)) (ls2 := [(9, (0, (p132_9 + 1))), (0, (2, 120)), (1, (0, a1)), (2, (1, r55)), (4, (0, p66_8))]) d_X12_together_155 rfl (by decide) ((w32_id (by and_intros <;> omega)).trans (by omega)) rfl ?_
                                refine Tr.goto (pc := 158) (tgt := 132) d_X12_together_158 rfl ?_
                                refine Tr.pick [1, 2, 3, 4, 0] (ls2 := [(0, (2, 120)), (1, (0, a1)), (2, (1, r55)), (4, (0, p66_8)), (9, (0, (p132_9 + 1)))]) rfl ?_
                                exact J132 _ _ hS (by and_intros <;> omega) ((Wr.b w154 rfl).trans k132_120_113) ((Wr.b w154 rfl).trans k132_126_0) ((shv_of (fun j => ((Wr.b w154 rfl).trans rfl)) (fun j => ((Wr.b w154 rfl).trans rfl))).trans k132_9020_0) (by and_intros <;> omega) (by omega) (Sg.fr tp132_0 (fun _ => ((Wr.b w154 rfl).trans rfl)) (fun _ => ((Wr.b w154 rfl).trans rfl))) (me_lt hm132 (by omega) (by omega))
                          refine Tr.pick [3, 4, 2, 1, 0] (ls2 := [(0, (2, 120)), (1, (0, a1)), (2, (1, r55)), (4, (0, p66_8)), (9, (0, 0))]) rfl ?_
                          exact J132 _ _ _ hS (by omega) k122_120_113 k122_126_0 k122_9020_0 (by and_intros <;> omega) (by omega) tp122_0 (Nat.lt_succ_self _)
                        refine Tr.if_eq (pc := 98) (tgt := 122) d_X12_together_98 rfl (fun c98 => ?_) (fun c98 => ?_)
                        · refine Tr.pick [0, 1, 4, 5] (ls2 := [(0, (2, 120)), (1, (0, a1)), (6, (1, r55)), (8, (0, p66_8))]) rfl ?_
                          exact J122 _ hS k66_120_113 k66_126_0 k66_9020_0 (by and_intros <;> omega) (by omega) tp66_0
                        · replace c98 := hd_i c98
                          refine Tr.lload (pc := 101) (i := 6) d_X12_together_101 rfl ?_
                          refine Tr.lload_n (pc := 103) (i := 2) d_X12_together_103 rfl rfl ?_
                          refine Tr.lcmp (pc := 104) d_X12_together_104 ?_
                          refine Tr.gen (P := fun v => (v = 1 ∧ p48_2 < r55) ∨ (v = 0 ∧ r55 = p48_2) ∨ (v = -1 ∧ r55 < p48_2)) (f_lcmp_c _ _) (fun r104 er104 br104 => ?_)
                          replace br104 := hd_i br104
                          refine Tr.if_lt (pc := 105) (tgt := 122) d_X12_together_105 rfl (fun c105 => ?_) (fun c105 => ?_)
                          · refine Tr.pick [0, 1, 4, 5] (ls2 := [(0, (2, 120)), (1, (0, a1)), (6, (1, r55)), (8, (0, p66_8))]) rfl ?_
                            exact J122 _ hS k66_120_113 k66_126_0 k66_9020_0 (by and_intros <;> omega) (by omega) tp66_0
                          · refine Tr.lload (pc := 108) (i := 6) d_X12_together_108 rfl ?_
                            refine Tr.lload_n (pc := 110) (i := 2) d_X12_together_110 rfl rfl ?_
                            refine Tr.lcmp (pc := 111) d_X12_together_111 ?_
                            refine Tr.gen (P := fun v => (v = 1 ∧ p48_2 < r55) ∨ (v = 0 ∧ r55 = p48_2) ∨ (v = -1 ∧ r55 < p48_2)) (f_lcmp_c _ _) (fun r111 er111 br111 => ?_)
                            replace br111 := hd_i br111
                            refine Tr.if_ne (pc := 112) (tgt := 161) d_X12_together_112 rfl (fun c112 => ?_) (fun c112 => ?_)
                            · replace c112 := hd_i c112
                              refine Tr.pick [0, 1, 2, 3] (ls2 := [(0, (2, 120)), (1, (0, a1)), (2, (1, p48_2)), (4, (0, p48_4))]) rfl ?_
                              exact J161 _ _ _ hS (by omega) (by and_intros <;> omega) k66_120_113 k66_126_0 k66_9020_0 (by and_intros <;> omega) (by omega) tp66_0
                            · refine Tr.iload (pc := 115) (i := 8) d_X12_together_115 rfl ?_
                              refine Tr.iload (pc := 117) (i := 4) d_X12_together_117 rfl ?_
                              refine Tr.icmp_ge (pc := 119) (tgt := 161) d_X12_together_119 rfl (fun c119 => ?_) (fun c119 => ?_)
                              · refine Tr.pick [0, 1, 2, 3] (ls2 := [(0, (2, 120)), (1, (0, a1)), (2, (1, p48_2)), (4, (0, p48_4))]) rfl ?_
                                exact J161 _ _ _ hS (by omega) (by and_intros <;> omega) k66_120_113 k66_126_0 k66_9020_0 (by and_intros <;> omega) (by omega) tp66_0
                              · refine Tr.pick [0, 1, 4, 5] (ls2 := [(0, (2, 120)), (1, (0, a1)), (6, (1, r55)), (8, (0, p66_8))]) rfl ?_
                                exact J122 _ hS k66_120_113 k66_126_0 k66_9020_0 (by and_intros <;> omega) (by omega) tp66_0
                      · refine Tr.iload (pc := 75) (i := 8) d_X12_together_75 rfl ?_
                        refine Tr.aload_n (pc := 77) (i := 0) d_X12_together_77 rfl rfl ?_
                        refine Tr.getf (pc := 78) d_X12_together_78 f_12_372 (by decide) (by decide) (ty_120 hS.1.1) ?_
                        refine Tr.tp 189 (fx_120_119 hS.1.1) ?_
                        refine Tr.iload (pc := 81) (i := 9) d_X12_together_81 rfl ?_
                        refine Tr.iald (pc := 83) d_X12_together_83 (ty_189 hS.1.1) (by omega) (by omega) ?_
                        refine Tr.gen (P := fun v => 0 ≤ v ∧ v ≤ 5) (ar_189 hS.1.2.1 _) (fun r83 er83 br83 => ?_)
                        refine Tr.iadd (pc := 84) d_X12_together_84 ?_
                        refine Tr.gen (P := fun v => (-2147483648) ≤ v ∧ v ≤ 2147483647) (w32_b _) (fun r84 er84 br84 => ?_)
                        refine Tr.istore (pc := 85) (i := 8) (ls2 := [(8, (0, r84)), (0, (2, 120)), (1, (0, a1)), (2, (1, p48_2)), (4, (0, p48_4)), (6, (1, r55)), (9, (0, p66_9))]) d_X12_together_85 (by decide) rfl ?_
                        refine Tr.iincV (pc := 87) (n2 := (p66_9 + 1)) (ls2 := [(9, (0, (p66_9 + 1))), (8, (0, r84)), (0, (2, 120)), (1, (0, a1)), (2, (1, p48_2)), (4, (0, p48_4)), (6, (1, r55))]) d_X12_together_87 rfl (by decide) ((w32_id (by and_intros <;> omega)).trans (by omega)) rfl ?_
                        refine Tr.goto (pc := 90) (tgt := 66) d_X12_together_90 rfl ?_
                        refine Tr.pick [2, 3, 4, 5, 6, 1, 0] (ls2 := [(0, (2, 120)), (1, (0, a1)), (2, (1, p48_2)), (4, (0, p48_4)), (6, (1, r55)), (8, (0, r84)), (9, (0, (p66_9 + 1)))]) rfl ?_
                        exact J66 _ _ _ hS (by and_intros <;> omega) (by and_intros <;> omega) k66_120_113 k66_126_0 k66_9020_0 (by and_intros <;> omega) (by omega) tp66_0 (me_lt hm66 (by omega) (by omega))
                  refine Tr.pick [3, 4, 5, 6, 2, 1, 0] (ls2 := [(0, (2, 120)), (1, (0, a1)), (2, (1, p48_2)), (4, (0, p48_4)), (6, (1, r55)), (8, (0, 0)), (9, (0, 0))]) rfl ?_
                  exact J66 _ _ _ _ hS (by omega) (by omega) ((kp_X12_asksCost_120_120_113 h55).trans k48_120_113) ((kp_X12_asksCost_120_126_0 h55).trans k48_126_0) ((shv_of (fun j => ((ka_X12_asksCost_120_187 h55 _).trans rfl)) (fun j => ((ka_X12_asksCost_120_189 h55 _).trans rfl))).trans k48_9020_0) (by and_intros <;> omega) (by omega) (Sg.fr tp48_0 (fun _ => ((ka_X12_asksCost_120_187 h55 _).trans rfl)) (fun _ => ((ka_X12_asksCost_120_189 h55 _).trans rfl))) (Nat.lt_succ_self _)
            refine Tr.pick [3, 4, 2, 1, 0] (ls2 := [(0, (2, 120)), (1, (0, a1)), (2, (1, (-1))), (4, (0, 0)), (5, (0, 1))]) rfl ?_
            exact J48 _ _ _ _ _ _ hS (by omega) (by omega) (by omega) (by and_intros <;> omega) k19_120_113 k19_126_0 k19_9020_0 (by and_intros <;> omega) (by omega) (Sz.g (tp19_0) hS.1.2.1 (by omega)) (Nat.lt_succ_self _)
          · refine Tr.aload_n (pc := 25) (i := 0) d_X12_together_25 rfl rfl ?_
            refine Tr.getf (pc := 26) d_X12_together_26 f_12_372 (by decide) (by decide) (ty_120 hS.1.1) ?_
            refine Tr.tp 189 (fx_120_119 hS.1.1) ?_
            refine Tr.iload_n (pc := 29) (i := 2) d_X12_together_29 rfl rfl ?_
            refine Tr.iconst (pc := 30) d_X12_together_30 (by decide) ?_
            refine Tr.iastS (pc := 31) (P := St Tru ws_X12_together_120 as_X12_together_120 M0) d_X12_together_31 (ty_189 hS.1.1) (by omega) (by omega) (sa_189 hS (by decide) (by omega) trivial) (fun M31 hS w31 => ?_)
            refine Tr.iincV (pc := 32) (n2 := (p19_2 + 1)) (ls2 := [(2, (0, (p19_2 + 1))), (0, (2, 120)), (1, (0, a1))]) d_X12_together_32 rfl (by decide) ((w32_id (by and_intros <;> omega)).trans (by omega)) rfl ?_
            refine Tr.goto (pc := 35) (tgt := 19) d_X12_together_35 rfl ?_
            refine Tr.pick [1, 2, 0] (ls2 := [(0, (2, 120)), (1, (0, a1)), (2, (0, (p19_2 + 1)))]) rfl ?_
            obtain ⟨w19p35_9020_0, ew19p35_9020_0⟩ : ∃ v, shv M31 = v := ⟨_, rfl⟩
            have bw19p35_9020_0 : (-46655) ≤ w19p35_9020_0 ∧ w19p35_9020_0 ≤ 46655 := by rw [← ew19p35_9020_0]; exact (shv_b hS.1.2.1)
            exact J19 _ _ _ hS (by and_intros <;> omega) (by and_intros <;> omega) ((Wr.b w31 rfl).trans k19_120_113) ((Wr.b w31 rfl).trans k19_126_0) ew19p35_9020_0 (by and_intros <;> omega) (Sz.wr tp19_0 w31) (me_lt hm19 (by omega) (by omega))
      refine Tr.pick [1, 2, 0] (ls2 := [(0, (2, 120)), (1, (0, a1)), (2, (0, 0))]) rfl ?_
      exact J19 _ _ _ _ hS (by omega) (by and_intros <;> omega) ((kp_X12_isPart_120_120_113 h2).trans eg120_113) ((kp_X12_isPart_120_126_0 h2).trans eg126_0) ((shv_of (fun j => ((ka_X12_isPart_120_187 h2 _).trans rfl)) (fun j => ((ka_X12_isPart_120_189 h2 _).trans rfl))).trans eg9020_0) (by exact (hd_o z2_0).elim (fun h1 => by omega) (fun h1 => by omega)) (fun k k0 k1 => absurd k1 (by omega)) (Nat.lt_succ_self _)
    · refine Tr.iconst (pc := 15) d_X12_together_15 (by decide) ?_
      exact Tr.iret (pc := 16) d_X12_together_16 rfl ⟨hS, _, rfl, by omega, by omega⟩

def ws_X12_moved : List (Int × Int) := []
def as_X12_moved : List Int := []
def q_X12_moved (M0 M' : Mem) (r : Option PV) : Prop := St Tru ws_X12_moved as_X12_moved M0 M' ∧ ∃ v : Int, r = some (1, v) ∧ (-9223372036854775808) ≤ v ∧ v ≤ 9223372036854775807
set_option maxRecDepth 100000 in
set_option maxHeartbeats 4000000 in
theorem sp_X12_moved {l : Launch} {K : EC} {M0 : Mem} (hI : In Tru M0)  (a0 : Int) (ha0 : (-9223372036854775808) ≤ a0 ∧ a0 ≤ 9223372036854775807) (a2 : Int) (ha2 : (-1) ≤ a2 ∧ a2 ≤ 5) (a3 : Int) (ha3 : 0 ≤ a3 ∧ a3 ≤ 1)  : Tr l K 0 mX12_moved 0 [(0, (1, a0)), (2, (0, a2)), (3, (0, a3))] [] M0 (q_X12_moved M0) := by
  have hS : St Tru ws_X12_moved as_X12_moved M0 M0 := St.rf hI
  refine Tr.lconst (pc := 0) (v := 0) d_X12_moved_0 rfl (by decide) ?_
  refine Tr.lstore (pc := 1) (i := 4) (ls2 := [(4, (1, 0)), (0, (1, a0)), (2, (0, a2)), (3, (0, a3))]) d_X12_moved_1 (by decide) rfl ?_
  refine Tr.iconst (pc := 3) d_X12_moved_3 (by decide) ?_
  refine Tr.istore (pc := 4) (i := 6) (ls2 := [(6, (0, 0)), (4, (1, 0)), (0, (1, a0)), (2, (0, a2)), (3, (0, a3))]) d_X12_moved_4 (by decide) rfl ?_
  have J6 : ∀ (n6 : Nat) (M : Mem) (p6_4 p6_6 : Int), St Tru ws_X12_moved as_X12_moved M0 M → ((-9223372036854775808) ≤ p6_4 ∧ p6_4 ≤ 9223372036854775807) → (0 ≤ p6_6 ∧ p6_6 ≤ 64) → (64 - p6_6).toNat < n6 → Tr l K 0 mX12_moved 6 [(0, (1, a0)), (2, (0, a2)), (3, (0, a3)), (4, (1, p6_4)), (6, (0, p6_6))] [] M (q_X12_moved M0) := by
    intro n6
    induction n6 with
    | zero => intro M p6_4 p6_6 hS bp6_4 bp6_6  hm6; exact absurd hm6 (Nat.not_lt_zero _)
    | succ n6 J6 =>
      intro M p6_4 p6_6 hS bp6_4 bp6_6  hm6
      refine Tr.iload (pc := 6) (i := 6) d_X12_moved_6 rfl ?_
      refine Tr.bipush (pc := 8) d_X12_moved_8 rfl (by decide) ?_
      refine Tr.icmp_ge (pc := 10) (tgt := 58) d_X12_moved_10 rfl (fun c10 => ?_) (fun c10 => ?_)
      · refine Tr.lload (pc := 58) (i := 4) d_X12_moved_58 rfl ?_
        exact Tr.lret (pc := 60) d_X12_moved_60 rfl ⟨hS, _, rfl, by omega, by omega⟩
      · refine Tr.lload_n (pc := 13) (i := 0) d_X12_moved_13 rfl rfl ?_
        refine Tr.iload (pc := 14) (i := 6) d_X12_moved_14 rfl ?_
        refine Tr.lshr (pc := 16) d_X12_moved_16 ?_
        refine Tr.gen (P := fun v => ((-9223372036854775808) ≤ v ∧ v ≤ 9223372036854775807) ∧ (a0 ≠ 0 ∨ v = 0)) (lshr_z _ _) (fun r16 er16 br16 => ?_)
        refine Tr.lconst (pc := 17) (v := 1) d_X12_moved_17 rfl (by decide) ?_
        refine Tr.land (pc := 18) d_X12_moved_18 ?_
        refine Tr.gen (P := fun v => v = r16 % 2 ∧ (0 ≤ v ∧ v ≤ 1)) ⟨(f_land_1 _).1, (f_land_1 _).2⟩ (fun r18 er18 br18 => ?_)
        refine Tr.lconst (pc := 19) (v := 1) d_X12_moved_19 rfl (by decide) ?_
        refine Tr.lcmp (pc := 20) d_X12_moved_20 ?_
        refine Tr.gen (P := fun v => (v = 1 ∧ 1 < r18) ∨ (v = 0 ∧ r18 = 1) ∨ (v = -1 ∧ r18 < 1)) (f_lcmp_c _ _) (fun r20 er20 br20 => ?_)
        have J52 : ∀ (M : Mem) (p52_4 : Int), St Tru ws_X12_moved as_X12_moved M0 M → ((-9223372036854775808) ≤ p52_4 ∧ p52_4 ≤ 9223372036854775807) → Tr l K 0 mX12_moved 52 [(0, (1, a0)), (2, (0, a2)), (3, (0, a3)), (4, (1, p52_4)), (6, (0, p6_6))] [] M (q_X12_moved M0) := by
          intro M p52_4 hS bp52_4 
          refine Tr.iincV (pc := 52) (n2 := (p6_6 + 1)) (ls2 := [(6, (0, (p6_6 + 1))), (0, (1, a0)), (2, (0, a2)), (3, (0, a3)), (4, (1, p52_4))]) d_X12_moved_52 rfl (by decide) ((w32_id (by omega)).trans (by omega)) rfl ?_
          refine Tr.goto (pc := 55) (tgt := 6) d_X12_moved_55 rfl ?_
          refine Tr.pick [1, 2, 3, 4, 0] (ls2 := [(0, (1, a0)), (2, (0, a2)), (3, (0, a3)), (4, (1, p52_4)), (6, (0, (p6_6 + 1)))]) rfl ?_
          exact J6 _ _ _ hS (by omega) (by omega) (by omega)
        refine Tr.if_ne (pc := 21) (tgt := 52) d_X12_moved_21 rfl (fun c21 => ?_) (fun c21 => ?_)
        · refine Tr.pick [0, 1, 2, 3, 4] (ls2 := [(0, (1, a0)), (2, (0, a2)), (3, (0, a3)), (4, (1, p6_4)), (6, (0, p6_6))]) rfl ?_
          exact J52 _ _ hS (by omega)
        · refine Tr.lload (pc := 24) (i := 4) d_X12_moved_24 rfl ?_
          refine Tr.lconst (pc := 26) (v := 1) d_X12_moved_26 rfl (by decide) ?_
          refine Tr.iload_n (pc := 27) (i := 3) d_X12_moved_27 rfl rfl ?_
          have J48 : ∀ (M : Mem) (q48_2 : Int), St Tru ws_X12_moved as_X12_moved M0 M → ((-2147483648) ≤ q48_2 ∧ q48_2 ≤ 2147483647) → Tr l K 0 mX12_moved 48 [(0, (1, a0)), (2, (0, a2)), (3, (0, a3)), (6, (0, p6_6))] [(0, q48_2), (1, 1), (1, p6_4)] M (q_X12_moved M0) := by
            intro M q48_2 hS bq48_2 
            refine Tr.lshl (pc := 48) d_X12_moved_48 ?_
            refine Tr.gen (P := fun v => (-9223372036854775808) ≤ v ∧ v ≤ 9223372036854775807) (i64_b _) (fun r48 er48 br48 => ?_)
            refine Tr.lor (pc := 49) d_X12_moved_49 ?_
            refine Tr.gen (P := fun v => (-9223372036854775808) ≤ v ∧ v ≤ 9223372036854775807) (i64_b _) (fun r49 er49 br49 => ?_)
            refine Tr.lstore (pc := 50) (i := 4) (ls2 := [(4, (1, r49)), (0, (1, a0)), (2, (0, a2)), (3, (0, a3)), (6, (0, p6_6))]) d_X12_moved_50 (by decide) rfl ?_
            refine Tr.pick [1, 2, 3, 0, 4] (ls2 := [(0, (1, a0)), (2, (0, a2)), (3, (0, a3)), (4, (1, r49)), (6, (0, p6_6))]) rfl ?_
            exact J52 _ _ hS (by omega)
          refine Tr.if_eq (pc := 28) (tgt := 40) d_X12_moved_28 rfl (fun c28 => ?_) (fun c28 => ?_)
          · refine Tr.iload (pc := 40) (i := 6) d_X12_moved_40 rfl ?_
            refine Tr.iconst (pc := 42) d_X12_moved_42 (by decide) ?_
            refine Tr.iload_n (pc := 43) (i := 2) d_X12_moved_43 rfl rfl ?_
            refine Tr.ishl (pc := 44) d_X12_moved_44 ?_
            refine Tr.gen (P := fun v => (-2147483648) ≤ v ∧ v ≤ 2147483647) (i32_b _) (fun r44 er44 br44 => ?_)
            refine Tr.iconst (pc := 45) d_X12_moved_45 (by decide) ?_
            refine Tr.ixor (pc := 46) d_X12_moved_46 ?_
            refine Tr.gen (P := fun v => ((v < 0 ↔ ¬ (r44 < 0 ↔ (-1) < 0)) ∧ (-2147483648 ≤ v ∧ v ≤ 2147483647))) (f_ixor_s (by omega) (by omega)) (fun r46 er46 br46 => ?_)
            refine Tr.iand (pc := 47) d_X12_moved_47 ?_
            refine Tr.gen (P := fun v => (-2147483648) ≤ v ∧ v ≤ 2147483647) (i32_b _) (fun r47 er47 br47 => ?_)
            refine Tr.pick [0, 1, 2, 4] (ls2 := [(0, (1, a0)), (2, (0, a2)), (3, (0, a3)), (6, (0, p6_6))]) rfl ?_
            exact J48 _ _ hS (by omega)
          · refine Tr.iload (pc := 31) (i := 6) d_X12_moved_31 rfl ?_
            refine Tr.iconst (pc := 33) d_X12_moved_33 (by decide) ?_
            refine Tr.iload_n (pc := 34) (i := 2) d_X12_moved_34 rfl rfl ?_
            refine Tr.ishl (pc := 35) d_X12_moved_35 ?_
            refine Tr.gen (P := fun v => (-2147483648) ≤ v ∧ v ≤ 2147483647) (i32_b _) (fun r35 er35 br35 => ?_)
            refine Tr.ior (pc := 36) d_X12_moved_36 ?_
            refine Tr.gen (P := fun v => (-2147483648) ≤ v ∧ v ≤ 2147483647) (i32_b _) (fun r36 er36 br36 => ?_)
            refine Tr.goto (pc := 37) (tgt := 48) d_X12_moved_37 rfl ?_
            refine Tr.pick [0, 1, 2, 4] (ls2 := [(0, (1, a0)), (2, (0, a2)), (3, (0, a3)), (6, (0, p6_6))]) rfl ?_
            exact J48 _ _ hS (by omega)
  refine Tr.pick [2, 3, 4, 1, 0] (ls2 := [(0, (1, a0)), (2, (0, a2)), (3, (0, a3)), (4, (1, 0)), (6, (0, 0))]) rfl ?_
  exact J6 _ _ _ _ hS (by omega) (by omega) (Nat.lt_succ_self _)

def ws_X12_never_120 : List (Int × Int) := []
def as_X12_never_120 : List Int := [190]
def q_X12_never_120 (M0 M' : Mem) (r : Option PV) : Prop := St Tru ws_X12_never_120 as_X12_never_120 M0 M' ∧ ∃ v : Int, r = some (0, v) ∧ (-2147483648) ≤ v ∧ v ≤ 2147483647
theorem kp_X12_never_120_120_12 {q : Mem → Prop} {M0 M : Mem} (h : St q ws_X12_never_120 as_X12_never_120 M0 M) : rd M 120 12 = rd M0 120 12 := St.kp h (by decide) (by decide) (by decide)
theorem kp_X12_moved_136_0 {q : Mem → Prop} {M0 M : Mem} (h : St q ws_X12_moved as_X12_moved M0 M) : rd M 136 0 = rd M0 136 0 := St.kp h (by decide) (by decide) (by decide)
theorem ka_X12_moved_137 {q : Mem → Prop} {M0 M : Mem} (h : St q ws_X12_moved as_X12_moved M0 M) (j : Int) : rd M 137 j = rd M0 137 j := St.ka h (by decide) (by decide) (by decide)
theorem ka_X12_moved_190 {q : Mem → Prop} {M0 M : Mem} (h : St q ws_X12_moved as_X12_moved M0 M) (j : Int) : rd M 190 j = rd M0 190 j := St.ka h (by decide) (by decide) (by decide)
set_option maxRecDepth 100000 in
set_option maxHeartbeats 4000000 in
theorem sp_X12_never_120 {l : Launch} {K : EC} {M0 : Mem} (hI : In Tru M0) (en_120_12 : rd M0 120 12 = 0)   : Tr l K 1 mX12_never 0 [(0, (2, 120))] [] M0 (q_X12_never_120 M0) := by
  have hS : St Tru ws_X12_never_120 as_X12_never_120 M0 M0 := St.rf hI
  obtain ⟨g9030_0, eg9030_0⟩ : ∃ v, cmv M0 = v := ⟨_, rfl⟩
  have bg9030_0 : 0 ≤ g9030_0 ∧ g9030_0 ≤ 12864 := by rw [← eg9030_0]; exact (cmv_b hI.2.1)
  refine Tr.aload_n (pc := 0) (i := 0) d_X12_never_0 rfl rfl ?_
  refine Tr.getf (pc := 1) d_X12_never_1 f_12_94 (by decide) (by decide) (ty_120 hS.1.1) ?_
  refine Tr.tp 136 (fx_120_27 hS.1.1) ?_
  refine Tr.aload_n (pc := 4) (i := 0) d_X12_never_4 rfl rfl ?_
  refine Tr.getf (pc := 5) d_X12_never_5 f_12_48 (by decide) (by decide) (ty_120 hS.1.1) ?_
  refine Tr.tp 0 ((kp_X12_never_120_120_12 hS).trans en_120_12) ?_
  refine Tr.iald (pc := 8) d_X12_never_8 (ty_136 hS.1.1) (by omega) (by omega) ?_
  refine Tr.gen (P := fun v => 0 ≤ v ∧ v ≤ 200) (ir_136_0 hS.1.2.1) (fun r8 er8 br8 => ?_)
  refine Tr.istore_n (pc := 9) (i := 1) (ls2 := [(1, (0, r8)), (0, (2, 120))]) d_X12_never_9 rfl (by decide) rfl ?_
  refine Tr.iconst (pc := 10) d_X12_never_10 (by decide) ?_
  refine Tr.istore_n (pc := 11) (i := 2) (ls2 := [(2, (0, 0)), (1, (0, r8)), (0, (2, 120))]) d_X12_never_11 rfl (by decide) rfl ?_
  have J12 : ∀ (n12 : Nat) (M : Mem) (p12_2 u12_9030_0 : Int), St Tru ws_X12_never_120 as_X12_never_120 M0 M → (0 ≤ p12_2 ∧ p12_2 ≤ 201) → (0 ≤ u12_9030_0 ∧ u12_9030_0 ≤ 12864) → rd M 136 0 = r8 → cmv M = u12_9030_0 → (201 - p12_2).toNat < n12 → Tr l K 1 mX12_never 12 [(0, (2, 120)), (1, (0, r8)), (2, (0, p12_2))] [] M (q_X12_never_120 M0) := by
    intro n12
    induction n12 with
    | zero => intro M p12_2 u12_9030_0 hS bp12_2 bu12_9030_0 k12_136_0 k12_9030_0 hm12; exact absurd hm12 (Nat.not_lt_zero _)
    | succ n12 J12 =>
      intro M p12_2 u12_9030_0 hS bp12_2 bu12_9030_0 k12_136_0 k12_9030_0 hm12
      clear er8
      refine Tr.iload_n (pc := 12) (i := 2) d_X12_never_12 rfl rfl ?_
      refine Tr.iload_n (pc := 13) (i := 1) d_X12_never_13 rfl rfl ?_
      refine Tr.icmp_gt (pc := 14) (tgt := 38) d_X12_never_14 rfl (fun c14 => ?_) (fun c14 => ?_)
      · refine Tr.iconst (pc := 38) d_X12_never_38 (by decide) ?_
        refine Tr.istore_n (pc := 39) (i := 2) (ls2 := [(2, (0, 1)), (0, (2, 120)), (1, (0, r8))]) d_X12_never_39 rfl (by decide) rfl ?_
        have J40 : ∀ (n40 : Nat) (M : Mem) (p40_2 u40_9030_0 : Int), St Tru ws_X12_never_120 as_X12_never_120 M0 M → (0 ≤ p40_2 ∧ p40_2 ≤ 1) → (0 ≤ u40_9030_0 ∧ u40_9030_0 ≤ 12864) → rd M 136 0 = r8 → cmv M = u40_9030_0 → (p40_2 = 0 ∨ p40_2 = 1) → (2 * (12864 - u40_9030_0) + p40_2).toNat < n40 → Tr l K 1 mX12_never 40 [(0, (2, 120)), (1, (0, r8)), (2, (0, p40_2))] [] M (q_X12_never_120 M0) := by
          intro n40
          induction n40 with
          | zero => intro M p40_2 u40_9030_0 hS bp40_2 bu40_9030_0 k40_136_0 k40_9030_0 t40_0 hm40; exact absurd hm40 (Nat.not_lt_zero _)
          | succ n40 J40 =>
            intro M p40_2 u40_9030_0 hS bp40_2 bu40_9030_0 k40_136_0 k40_9030_0 t40_0 hm40
            clear k12_136_0 k12_9030_0
            replace t40_0 := hd_i t40_0
            refine Tr.iload_n (pc := 40) (i := 2) d_X12_never_40 rfl rfl ?_
            refine Tr.if_eq (pc := 41) (tgt := 261) d_X12_never_41 rfl (fun c41 => ?_) (fun c41 => ?_)
            · refine Tr.iconst (pc := 261) d_X12_never_261 (by decide) ?_
              refine Tr.istore_n (pc := 262) (i := 3) (ls2 := [(3, (0, 0)), (0, (2, 120)), (1, (0, r8)), (2, (0, p40_2))]) d_X12_never_262 rfl (by decide) rfl ?_
              refine Tr.iconst (pc := 263) d_X12_never_263 (by decide) ?_
              refine Tr.istore (pc := 264) (i := 4) (ls2 := [(4, (0, 0)), (3, (0, 0)), (0, (2, 120)), (1, (0, r8)), (2, (0, p40_2))]) d_X12_never_264 (by decide) rfl ?_
              have J266 : ∀ (n266 : Nat) (M : Mem) (p266_3 p266_4 : Int), St Tru ws_X12_never_120 as_X12_never_120 M0 M → ((-2147483648) ≤ p266_3 ∧ p266_3 ≤ 2147483647) → (0 ≤ p266_4 ∧ p266_4 ≤ 64) → rd M 136 0 = r8 → cmv M = u40_9030_0 → (64 - p266_4).toNat < n266 → Tr l K 1 mX12_never 266 [(0, (2, 120)), (1, (0, r8)), (3, (0, p266_3)), (4, (0, p266_4))] [] M (q_X12_never_120 M0) := by
                intro n266
                induction n266 with
                | zero => intro M p266_3 p266_4 hS bp266_3 bp266_4 k266_136_0 k266_9030_0 hm266; exact absurd hm266 (Nat.not_lt_zero _)
                | succ n266 J266 =>
                  intro M p266_3 p266_4 hS bp266_3 bp266_4 k266_136_0 k266_9030_0 hm266
                  clear k40_136_0 k40_9030_0
                  refine Tr.iload (pc := 266) (i := 4) d_X12_never_266 rfl ?_
                  refine Tr.bipush (pc := 268) d_X12_never_268 rfl (by decide) ?_
                  refine Tr.icmp_ge (pc := 270) (tgt := 300) d_X12_never_270 rfl (fun c270 => ?_) (fun c270 => ?_)
                  · refine Tr.iload_n (pc := 300) (i := 3) d_X12_never_300 rfl rfl ?_
                    exact Tr.iret (pc := 301) d_X12_never_301 rfl ⟨hS, _, rfl, (by omega), (by omega)⟩
                  · refine Tr.aload_n (pc := 273) (i := 0) d_X12_never_273 rfl rfl ?_
                    refine Tr.getf (pc := 274) d_X12_never_274 f_12_375 (by decide) (by decide) (ty_120 hS.1.1) ?_
                    refine Tr.tp 190 (fx_120_120 hS.1.1) ?_
                    refine Tr.iload_n (pc := 277) (i := 1) d_X12_never_277 rfl rfl ?_
                    refine Tr.lald (pc := 278) d_X12_never_278 (ty_190 hS.1.1) (by omega) (by omega) ?_
                    refine Tr.gen (P := fun v => (-9223372036854775808) ≤ v ∧ v ≤ 9223372036854775807) (ar_190 hS.1.2.1 _) (fun r278 er278 br278 => ?_)
                    refine Tr.iload (pc := 279) (i := 4) d_X12_never_279 rfl ?_
                    refine Tr.lshr (pc := 281) d_X12_never_281 ?_
                    refine Tr.gen (P := fun v => ((-9223372036854775808) ≤ v ∧ v ≤ 9223372036854775807) ∧ (r278 ≠ 0 ∨ v = 0)) (lshr_z _ _) (fun r281 er281 br281 => ?_)
                    have br281d0 := hd_i br281.2
                    replace br281 := And.intro br281.1.1  (br281.1.2)
                    refine Tr.lconst (pc := 282) (v := 1) d_X12_never_282 rfl (by decide) ?_
                    refine Tr.land (pc := 283) d_X12_never_283 ?_
                    refine Tr.gen (P := fun v => v = r281 % 2 ∧ (0 ≤ v ∧ v ≤ 1)) ⟨(f_land_1 _).1, (f_land_1 _).2⟩ (fun r283 er283 br283 => ?_)
                    refine Tr.lconst (pc := 284) (v := 1) d_X12_never_284 rfl (by decide) ?_
                    refine Tr.lcmp (pc := 285) d_X12_never_285 ?_
                    refine Tr.gen (P := fun v => (v = 1 ∧ 1 < r283) ∨ (v = 0 ∧ r283 = 1) ∨ (v = -1 ∧ r283 < 1)) (f_lcmp_c _ _) (fun r285 er285 br285 => ?_)
                    replace br285 := hd_i br285
                    have J294 : ∀ (M : Mem) (p294_3 : Int), St Tru ws_X12_never_120 as_X12_never_120 M0 M → ((-2147483648) ≤ p294_3 ∧ p294_3 ≤ 2147483647) → rd M 136 0 = r8 → cmv M = u40_9030_0 → Tr l K 1 mX12_never 294 [(0, (2, 120)), (1, (0, r8)), (3, (0, p294_3)), (4, (0, p266_4))] [] M (q_X12_never_120 M0) := by
                      intro M p294_3 hS bp294_3 k294_136_0 k294_9030_0
                      clear k266_136_0 k266_9030_0 er278 er281 er283 er285
                      refine Tr.iincV (pc := 294) (n2 := (p266_4 + 1)) (ls2 := [(4, (0, (p266_4 + 1))), (0, (2, 120)), (1, (0, r8)), (3, (0, p294_3))]) d_X12_never_294 rfl (by decide) ((w32_id (by and_intros <;> omega)).trans (by omega)) rfl ?_
                      refine Tr.goto (pc := 297) (tgt := 266) d_X12_never_297 rfl ?_
                      refine Tr.pick [1, 2, 3, 0] (ls2 := [(0, (2, 120)), (1, (0, r8)), (3, (0, p294_3)), (4, (0, (p266_4 + 1)))]) rfl ?_
                      exact J266 _ _ _ hS (by and_intros <;> omega) (by and_intros <;> omega) k294_136_0 k294_9030_0 (me_lt hm266 (by omega) (by omega))
                    refine Tr.if_ne (pc := 286) (tgt := 294) d_X12_never_286 rfl (fun c286 => ?_) (fun c286 => ?_)
                    · replace c286 := hd_i c286
                      refine Tr.pick [0, 1, 2, 3] (ls2 := [(0, (2, 120)), (1, (0, r8)), (3, (0, p266_3)), (4, (0, p266_4))]) rfl ?_
                      exact J294 _ _ hS (by and_intros <;> omega) k266_136_0 k266_9030_0
                    · refine Tr.iload_n (pc := 289) (i := 3) d_X12_never_289 rfl rfl ?_
                      refine Tr.iload (pc := 290) (i := 4) d_X12_never_290 rfl ?_
                      refine Tr.ior (pc := 292) d_X12_never_292 ?_
                      refine Tr.gen (P := fun v => (-2147483648) ≤ v ∧ v ≤ 2147483647) (i32_b _) (fun r292 er292 br292 => ?_)
                      refine Tr.istore_n (pc := 293) (i := 3) (ls2 := [(3, (0, r292)), (0, (2, 120)), (1, (0, r8)), (4, (0, p266_4))]) d_X12_never_293 rfl (by decide) rfl ?_
                      refine Tr.pick [1, 2, 0, 3] (ls2 := [(0, (2, 120)), (1, (0, r8)), (3, (0, r292)), (4, (0, p266_4))]) rfl ?_
                      exact J294 _ _ hS (by and_intros <;> omega) k266_136_0 k266_9030_0
              refine Tr.pick [2, 3, 1, 0] (ls2 := [(0, (2, 120)), (1, (0, r8)), (3, (0, 0)), (4, (0, 0))]) rfl ?_
              exact J266 _ _ _ _ hS (by omega) (by omega) k40_136_0 k40_9030_0 (Nat.lt_succ_self _)
            · have c41b : 1 ≤ p40_2 ∧ p40_2 ≤ 1 := by omega
              replace c41 := hd_i c41
              refine Tr.iconst (pc := 44) d_X12_never_44 (by decide) ?_
              refine Tr.istore_n (pc := 45) (i := 2) (ls2 := [(2, (0, 0)), (0, (2, 120)), (1, (0, r8))]) d_X12_never_45 rfl (by decide) rfl ?_
              refine Tr.iconst (pc := 46) d_X12_never_46 (by decide) ?_
              refine Tr.istore_n (pc := 47) (i := 3) (ls2 := [(3, (0, 0)), (2, (0, 0)), (0, (2, 120)), (1, (0, r8))]) d_X12_never_47 rfl (by decide) rfl ?_
              have J48 : ∀ (n48 : Nat) (M : Mem) (p48_2 p48_3 u48_9030_0 : Int), St Tru ws_X12_never_120 as_X12_never_120 M0 M → (0 ≤ p48_2 ∧ p48_2 ≤ 1) → (0 ≤ p48_3 ∧ p48_3 ≤ 200) → (0 ≤ u48_9030_0 ∧ u48_9030_0 ≤ 12864) → rd M 136 0 = r8 → cmv M = u48_9030_0 → (u40_9030_0 ≤ u48_9030_0) → (p48_2 = 0 ∨ u40_9030_0 < u48_9030_0) → (p48_2 = 0 ∨ p48_2 = 1) → (200 - p48_3).toNat < n48 → Tr l K 1 mX12_never 48 [(0, (2, 120)), (1, (0, r8)), (2, (0, p48_2)), (3, (0, p48_3))] [] M (q_X12_never_120 M0) := by
                intro n48
                induction n48 with
                | zero => intro M p48_2 p48_3 u48_9030_0 hS bp48_2 bp48_3 bu48_9030_0 k48_136_0 k48_9030_0 t48_0 t48_1 t48_2 hm48; exact absurd hm48 (Nat.not_lt_zero _)
                | succ n48 J48 =>
                  intro M p48_2 p48_3 u48_9030_0 hS bp48_2 bp48_3 bu48_9030_0 k48_136_0 k48_9030_0 t48_0 t48_1 t48_2 hm48
                  clear k40_136_0 k40_9030_0
                  replace t48_1 := hd_i t48_1
                  replace t48_2 := hd_i t48_2
                  refine Tr.iload_n (pc := 48) (i := 3) d_X12_never_48 rfl rfl ?_
                  refine Tr.iload_n (pc := 49) (i := 1) d_X12_never_49 rfl rfl ?_
                  refine Tr.icmp_ge (pc := 50) (tgt := 258) d_X12_never_50 rfl (fun c50 => ?_) (fun c50 => ?_)
                  · refine Tr.goto (pc := 258) (tgt := 40) d_X12_never_258 rfl ?_
                    refine Tr.pick [0, 1, 2] (ls2 := [(0, (2, 120)), (1, (0, r8)), (2, (0, p48_2))]) rfl ?_
                    exact J40 _ _ _ hS (by and_intros <;> omega) (by and_intros <;> omega) k48_136_0 k48_9030_0 (by first | exact (hd_o t48_2) | exact (hd_o t48_2).elim (fun h1 => by omega) (fun h1 => by omega)) (me_lt hm40 (by exact (hd_o t48_1).elim (fun h1 => by omega) (fun h1 => by omega)) (by omega))
                  · refine Tr.sipush (pc := 53) d_X12_never_53 rfl (by decide) ?_
                    refine Tr.aload_n (pc := 56) (i := 0) d_X12_never_56 rfl rfl ?_
                    refine Tr.getf (pc := 57) d_X12_never_57 f_12_48 (by decide) (by decide) (ty_120 hS.1.1) ?_
                    refine Tr.tp 0 ((kp_X12_never_120_120_12 hS).trans en_120_12) ?_
                    refine Tr.imul (pc := 60) d_X12_never_60 ?_
                    refine Tr.tp 0 (by decide) ?_
                    refine Tr.iload_n (pc := 61) (i := 3) d_X12_never_61 rfl rfl ?_
                    refine Tr.iadd (pc := 62) d_X12_never_62 ?_
                    refine Tr.tp p48_3 ((w32_id (by and_intros <;> omega)).trans (by omega)) ?_
                    refine Tr.istore (pc := 63) (i := 4) (ls2 := [(4, (0, p48_3)), (0, (2, 120)), (1, (0, r8)), (2, (0, p48_2)), (3, (0, p48_3))]) d_X12_never_63 (by decide) rfl ?_
                    refine Tr.aload_n (pc := 65) (i := 0) d_X12_never_65 rfl rfl ?_
                    refine Tr.getf (pc := 66) d_X12_never_66 f_12_375 (by decide) (by decide) (ty_120 hS.1.1) ?_
                    refine Tr.tp 190 (fx_120_120 hS.1.1) ?_
                    refine Tr.iload_n (pc := 69) (i := 3) d_X12_never_69 rfl rfl ?_
                    refine Tr.lald (pc := 70) d_X12_never_70 (ty_190 hS.1.1) (by omega) (by omega) ?_
                    refine Tr.gen (P := fun v => (-9223372036854775808) ≤ v ∧ v ≤ 9223372036854775807) (ar_190 hS.1.2.1 _) (fun r70 er70 br70 => ?_)
                    refine Tr.lstore (pc := 71) (i := 5) (ls2 := [(5, (1, r70)), (4, (0, p48_3)), (0, (2, 120)), (1, (0, r8)), (2, (0, p48_2)), (3, (0, p48_3))]) d_X12_never_71 (by decide) rfl ?_
                    refine Tr.aload_n (pc := 73) (i := 0) d_X12_never_73 rfl rfl ?_
                    refine Tr.getf (pc := 74) d_X12_never_74 f_12_97 (by decide) (by decide) (ty_120 hS.1.1) ?_
                    refine Tr.tp 137 (fx_120_28 hS.1.1) ?_
                    refine Tr.iload (pc := 77) (i := 4) d_X12_never_77 rfl ?_
                    refine Tr.iald (pc := 79) d_X12_never_79 (ty_137 hS.1.1) (by omega) (by omega) ?_
                    refine Tr.gen (P := fun v => 0 ≤ v ∧ v ≤ 8) (ar_137 hS.1.2.1 _) (fun r79 er79 br79 => ?_)
                    refine Tr.iconst (pc := 80) d_X12_never_80 (by decide) ?_
                    have J125 : ∀ (M : Mem) (p125_5 : Int), St Tru ws_X12_never_120 as_X12_never_120 M0 M → ((-9223372036854775808) ≤ p125_5 ∧ p125_5 ≤ 9223372036854775807) → rd M 136 0 = r8 → rd M 137 p48_3 = r79 → rd M 190 p48_3 = r70 → cmv M = u48_9030_0 → Tr l K 1 mX12_never 125 [(0, (2, 120)), (1, (0, r8)), (2, (0, p48_2)), (3, (0, p48_3)), (4, (0, p48_3)), (5, (1, p125_5))] [] M (q_X12_never_120 M0) := by
                      intro M p125_5 hS bp125_5 k125_136_0 k125_137_p48_310 k125_190_p48_310 k125_9030_0
                      clear k48_136_0 k48_9030_0 er70 er79
                      refine Tr.aload_n (pc := 125) (i := 0) d_X12_never_125 rfl rfl ?_
                      refine Tr.getf (pc := 126) d_X12_never_126 f_12_97 (by decide) (by decide) (ty_120 hS.1.1) ?_
                      refine Tr.tp 137 (fx_120_28 hS.1.1) ?_
                      refine Tr.iload (pc := 129) (i := 4) d_X12_never_129 rfl ?_
                      refine Tr.iald (pc := 131) d_X12_never_131 (ty_137 hS.1.1) (by omega) (by omega) ?_
                      refine Tr.tp r79 k125_137_p48_310 ?_
                      have J148 : ∀ (M : Mem) (q148_0 : Int), St Tru ws_X12_never_120 as_X12_never_120 M0 M → (0 ≤ q148_0 ∧ q148_0 ≤ 200) → rd M 136 0 = r8 → rd M 137 p48_3 = r79 → rd M 190 p48_3 = r70 → cmv M = u48_9030_0 → Tr l K 1 mX12_never 148 [(0, (2, 120)), (1, (0, r8)), (2, (0, p48_2)), (3, (0, p48_3)), (4, (0, p48_3)), (5, (1, p125_5))] [(0, q148_0)] M (q_X12_never_120 M0) := by
                        intro M q148_0 hS bq148_0 k148_136_0 k148_137_p48_310 k148_190_p48_310 k148_9030_0
                        clear k125_136_0 k125_137_p48_310 k125_190_p48_310 k125_9030_0
                        refine Tr.istore (pc := 148) (i := 7) (ls2 := [(7, (0, q148_0)), (0, (2, 120)), (1, (0, r8)), (2, (0, p48_2)), (3, (0, p48_3)), (4, (0, p48_3)), (5, (1, p125_5))]) d_X12_never_148 (by decide) rfl ?_
                        refine Tr.aload_n (pc := 150) (i := 0) d_X12_never_150 rfl rfl ?_
                        refine Tr.getf (pc := 151) d_X12_never_151 f_12_97 (by decide) (by decide) (ty_120 hS.1.1) ?_
                        refine Tr.tp 137 (fx_120_28 hS.1.1) ?_
                        refine Tr.iload (pc := 154) (i := 4) d_X12_never_154 rfl ?_
                        refine Tr.iald (pc := 156) d_X12_never_156 (ty_137 hS.1.1) (by omega) (by omega) ?_
                        refine Tr.tp r79 k148_137_p48_310 ?_
                        refine Tr.bipush (pc := 157) d_X12_never_157 rfl (by decide) ?_
                        have J174 : ∀ (M : Mem) (q174_0 : Int), St Tru ws_X12_never_120 as_X12_never_120 M0 M → (0 ≤ q174_0 ∧ q174_0 ≤ 200) → rd M 136 0 = r8 → rd M 137 p48_3 = r79 → rd M 190 p48_3 = r70 → cmv M = u48_9030_0 → Tr l K 1 mX12_never 174 [(0, (2, 120)), (1, (0, r8)), (2, (0, p48_2)), (3, (0, p48_3)), (5, (1, p125_5)), (7, (0, q148_0))] [(0, q174_0)] M (q_X12_never_120 M0) := by
                          intro M q174_0 hS bq174_0 k174_136_0 k174_137_p48_310 k174_190_p48_310 k174_9030_0
                          clear k148_136_0 k148_137_p48_310 k148_190_p48_310 k148_9030_0
                          refine Tr.istore (pc := 174) (i := 8) (ls2 := [(8, (0, q174_0)), (0, (2, 120)), (1, (0, r8)), (2, (0, p48_2)), (3, (0, p48_3)), (5, (1, p125_5)), (7, (0, q148_0))]) d_X12_never_174 (by decide) rfl ?_
                          refine Tr.iload_n (pc := 176) (i := 2) d_X12_never_176 rfl rfl ?_
                          have J227 : ∀ (M : Mem) (q227_0 : Int), St Tru ws_X12_never_120 as_X12_never_120 M0 M → (0 ≤ q227_0 ∧ q227_0 ≤ 1) → rd M 136 0 = r8 → rd M 137 p48_3 = r79 → rd M 190 p48_3 = r70 → cmv M = u48_9030_0 → (q227_0 = 0 ∨ p48_2 ≠ 0 ∨ Nv M q148_0 q174_0 p125_5) → Tr l K 1 mX12_never 227 [(0, (2, 120)), (1, (0, r8)), (3, (0, p48_3)), (5, (1, p125_5)), (7, (0, q148_0)), (8, (0, q174_0))] [(0, q227_0)] M (q_X12_never_120 M0) := by
                            intro M q227_0 hS bq227_0 k227_136_0 k227_137_p48_310 k227_190_p48_310 k227_9030_0 tp227_0
                            clear k174_136_0 k174_137_p48_310 k174_190_p48_310 k174_9030_0
                            refine Tr.istore_n (pc := 227) (i := 2) (ls2 := [(2, (0, q227_0)), (0, (2, 120)), (1, (0, r8)), (3, (0, p48_3)), (5, (1, p125_5)), (7, (0, q148_0)), (8, (0, q174_0))]) d_X12_never_227 rfl (by decide) rfl ?_
                            refine Tr.aload_n (pc := 228) (i := 0) d_X12_never_228 rfl rfl ?_
                            refine Tr.getf (pc := 229) d_X12_never_229 f_12_375 (by decide) (by decide) (ty_120 hS.1.1) ?_
                            refine Tr.tp 190 (fx_120_120 hS.1.1) ?_
                            refine Tr.iload (pc := 232) (i := 7) d_X12_never_232 rfl ?_
                            refine Tr.dup2 (pc := 234) d_X12_never_234 ne01 ne21 ?_
                            refine Tr.lald (pc := 235) d_X12_never_235 (ty_190 hS.1.1) (by omega) (by omega) ?_
                            refine Tr.gen (P := fun v => (-9223372036854775808) ≤ v ∧ v ≤ 9223372036854775807) (ar_190 hS.1.2.1 _) (fun r235 er235 br235 => ?_)
                            refine Tr.lload (pc := 236) (i := 5) d_X12_never_236 rfl ?_
                            refine Tr.lor (pc := 238) d_X12_never_238 ?_
                            refine Tr.gen (P := fun v => (-9223372036854775808) ≤ v ∧ v ≤ 9223372036854775807) (i64_b _) (fun r238 er238 br238 => ?_)
                            have hV9 := hS.1.2.1
                            refine Tr.lastS (pc := 239) (P := St Tru ws_X12_never_120 as_X12_never_120 M0) d_X12_never_239 (ty_190 hS.1.1) (by omega) (by omega) (sa_190 hS (by decide) (by omega) trivial) (fun M239 hS w239 => ?_)
                            refine Tr.aload_n (pc := 240) (i := 0) d_X12_never_240 rfl rfl ?_
                            refine Tr.getf (pc := 241) d_X12_never_241 f_12_375 (by decide) (by decide) (ty_120 hS.1.1) ?_
                            refine Tr.tp 190 (fx_120_120 hS.1.1) ?_
                            refine Tr.iload (pc := 244) (i := 8) d_X12_never_244 rfl ?_
                            refine Tr.dup2 (pc := 246) d_X12_never_246 ne01 ne21 ?_
                            refine Tr.lald (pc := 247) d_X12_never_247 (ty_190 hS.1.1) (by omega) (by omega) ?_
                            refine Tr.gen (P := fun v => (-9223372036854775808) ≤ v ∧ v ≤ 9223372036854775807) (ar_190 hS.1.2.1 _) (fun r247 er247 br247 => ?_)
                            refine Tr.lload (pc := 248) (i := 5) d_X12_never_248 rfl ?_
                            refine Tr.lor (pc := 250) d_X12_never_250 ?_
                            refine Tr.gen (P := fun v => (-9223372036854775808) ≤ v ∧ v ≤ 9223372036854775807) (i64_b _) (fun r250 er250 br250 => ?_)
                            have hV8 := hS.1.2.1
                            refine Tr.lastS (pc := 251) (P := St Tru ws_X12_never_120 as_X12_never_120 M0) d_X12_never_251 (ty_190 hS.1.1) (by omega) (by omega) (sa_190 hS (by decide) (by omega) trivial) (fun M251 hS w251 => ?_)
                            obtain ⟨v251_9030, ev251_9030⟩ : ∃ v, cmv M251 = v := ⟨_, rfl⟩
                            have bv251_9030 : 0 ≤ v251_9030 ∧ v251_9030 ≤ 12864 := by rw [← ev251_9030]; exact cmv_b hS.1.2.1
                            have fv251_9030 := cm_two tp227_0 w239 w251 (by rw [er235]; exact er238) (by rw [er247]; exact er250) hV9 hV8 (by omega) (by omega) (by omega) (by omega)
                            rw [ev251_9030, show cmv M = u48_9030_0 from k227_9030_0] at fv251_9030
                            have fv251_9030d0 := hd_i fv251_9030.2
                            replace fv251_9030 := fv251_9030.1
                            refine Tr.iincV (pc := 252) (n2 := (p48_3 + 1)) (ls2 := [(3, (0, (p48_3 + 1))), (2, (0, q227_0)), (0, (2, 120)), (1, (0, r8)), (5, (1, p125_5)), (7, (0, q148_0)), (8, (0, q174_0))]) d_X12_never_252 rfl (by decide) ((w32_id (by and_intros <;> omega)).trans (by omega)) rfl ?_
                            refine Tr.goto (pc := 255) (tgt := 48) d_X12_never_255 rfl ?_
                            refine Tr.pick [2, 3, 1, 0] (ls2 := [(0, (2, 120)), (1, (0, r8)), (2, (0, q227_0)), (3, (0, (p48_3 + 1)))]) rfl ?_
                            exact J48 _ _ _ _ hS (by and_intros <;> omega) (by and_intros <;> omega) (by and_intros <;> omega) ((Wr.b w251 rfl).trans ((Wr.b w239 rfl).trans k227_136_0)) ev251_9030 (by omega) (by exact (hd_o fv251_9030d0).elim (fun h1 => by omega) (fun h1 => h1.elim (fun h1 => (ne_o h1).elim (fun h2 => by omega) (fun h2 => (hd_o t48_1).elim (fun h3 => by omega) (fun h3 => by omega))) (fun h1 => by omega))) (by omega) (me_lt hm48 (by omega) (by omega))
                          have J222 : ∀ (M : Mem), St Tru ws_X12_never_120 as_X12_never_120 M0 M → rd M 136 0 = r8 → rd M 137 p48_3 = r79 → rd M 190 p48_3 = r70 → cmv M = u48_9030_0 → (p48_2 ≠ 0 ∨ Nv M q148_0 q174_0 p125_5) → Tr l K 1 mX12_never 222 [(0, (2, 120)), (1, (0, r8)), (3, (0, p48_3)), (5, (1, p125_5)), (7, (0, q148_0)), (8, (0, q174_0))] [] M (q_X12_never_120 M0) := by
                            intro M  hS  k222_136_0 k222_137_p48_310 k222_190_p48_310 k222_9030_0 tp222_0
                            clear k174_136_0 k174_137_p48_310 k174_190_p48_310 k174_9030_0
                            refine Tr.iconst (pc := 222) d_X12_never_222 (by decide) ?_
                            refine Tr.goto (pc := 223) (tgt := 227) d_X12_never_223 rfl ?_
                            refine Tr.pick [0, 1, 2, 3, 4, 5] (ls2 := [(0, (2, 120)), (1, (0, r8)), (3, (0, p48_3)), (5, (1, p125_5)), (7, (0, q148_0)), (8, (0, q174_0))]) rfl ?_
                            exact J227 _ _ hS (by omega) k222_136_0 k222_137_p48_310 k222_190_p48_310 k222_9030_0 (Or.inr tp222_0)
                          refine Tr.if_ne (pc := 177) (tgt := 222) d_X12_never_177 rfl (fun c177 => ?_) (fun c177 => ?_)
                          · have c177b : 1 ≤ p48_2 ∧ p48_2 ≤ 1 := by omega
                            replace c177 := hd_i c177
                            refine Tr.pick [1, 2, 4, 5, 6, 0] (ls2 := [(0, (2, 120)), (1, (0, r8)), (3, (0, p48_3)), (5, (1, p125_5)), (7, (0, q148_0)), (8, (0, q174_0))]) rfl ?_
                            exact J222 _ hS k174_136_0 k174_137_p48_310 k174_190_p48_310 k174_9030_0 (Or.inl (by omega))
                          · refine Tr.aload_n (pc := 180) (i := 0) d_X12_never_180 rfl rfl ?_
                            refine Tr.getf (pc := 181) d_X12_never_181 f_12_375 (by decide) (by decide) (ty_120 hS.1.1) ?_
                            refine Tr.tp 190 (fx_120_120 hS.1.1) ?_
                            refine Tr.iload (pc := 184) (i := 7) d_X12_never_184 rfl ?_
                            refine Tr.lald (pc := 186) d_X12_never_186 (ty_190 hS.1.1) (by omega) (by omega) ?_
                            refine Tr.gen (P := fun v => (-9223372036854775808) ≤ v ∧ v ≤ 9223372036854775807) (ar_190 hS.1.2.1 _) (fun r186 er186 br186 => ?_)
                            refine Tr.lload (pc := 187) (i := 5) d_X12_never_187 rfl ?_
                            refine Tr.lor (pc := 189) d_X12_never_189 ?_
                            refine Tr.gen (P := fun v => (-9223372036854775808) ≤ v ∧ v ≤ 9223372036854775807) (i64_b _) (fun r189 er189 br189 => ?_)
                            refine Tr.aload_n (pc := 190) (i := 0) d_X12_never_190 rfl rfl ?_
                            refine Tr.getf (pc := 191) d_X12_never_191 f_12_375 (by decide) (by decide) (ty_120 hS.1.1) ?_
                            refine Tr.tp 190 (fx_120_120 hS.1.1) ?_
                            refine Tr.iload (pc := 194) (i := 7) d_X12_never_194 rfl ?_
                            refine Tr.lald (pc := 196) d_X12_never_196 (ty_190 hS.1.1) (by omega) (by omega) ?_
                            refine Tr.tp r186 er186 ?_
                            refine Tr.lcmp (pc := 197) d_X12_never_197 ?_
                            refine Tr.gen (P := fun v => (v = 1 ∧ r186 < r189) ∨ (v = 0 ∧ r189 = r186) ∨ (v = -1 ∧ r189 < r186)) (f_lcmp_c _ _) (fun r197 er197 br197 => ?_)
                            replace br197 := hd_i br197
                            refine Tr.if_ne (pc := 198) (tgt := 222) d_X12_never_198 rfl (fun c198 => ?_) (fun c198 => ?_)
                            · replace c198 := hd_i c198
                              refine Tr.pick [1, 2, 4, 5, 6, 0] (ls2 := [(0, (2, 120)), (1, (0, r8)), (3, (0, p48_3)), (5, (1, p125_5)), (7, (0, q148_0)), (8, (0, q174_0))]) rfl ?_
                              exact J222 _ hS k174_136_0 k174_137_p48_310 k174_190_p48_310 k174_9030_0 (Or.inr (Or.inl (by rw [er186, er189]; exact (by exact (ne_o (hd_o c198)).elim (fun h1 => (hd_o br197).elim (fun h2 => by omega) (fun h2 => h2.elim (fun h2 => by omega) (fun h2 => by omega))) (fun h1 => (hd_o br197).elim (fun h2 => by omega) (fun h2 => h2.elim (fun h2 => by omega) (fun h2 => by omega)))))))
                            · refine Tr.aload_n (pc := 201) (i := 0) d_X12_never_201 rfl rfl ?_
                              refine Tr.getf (pc := 202) d_X12_never_202 f_12_375 (by decide) (by decide) (ty_120 hS.1.1) ?_
                              refine Tr.tp 190 (fx_120_120 hS.1.1) ?_
                              refine Tr.iload (pc := 205) (i := 8) d_X12_never_205 rfl ?_
                              refine Tr.lald (pc := 207) d_X12_never_207 (ty_190 hS.1.1) (by omega) (by omega) ?_
                              refine Tr.gen (P := fun v => (-9223372036854775808) ≤ v ∧ v ≤ 9223372036854775807) (ar_190 hS.1.2.1 _) (fun r207 er207 br207 => ?_)
                              refine Tr.lload (pc := 208) (i := 5) d_X12_never_208 rfl ?_
                              refine Tr.lor (pc := 210) d_X12_never_210 ?_
                              refine Tr.gen (P := fun v => (-9223372036854775808) ≤ v ∧ v ≤ 9223372036854775807) (i64_b _) (fun r210 er210 br210 => ?_)
                              refine Tr.aload_n (pc := 211) (i := 0) d_X12_never_211 rfl rfl ?_
                              refine Tr.getf (pc := 212) d_X12_never_212 f_12_375 (by decide) (by decide) (ty_120 hS.1.1) ?_
                              refine Tr.tp 190 (fx_120_120 hS.1.1) ?_
                              refine Tr.iload (pc := 215) (i := 8) d_X12_never_215 rfl ?_
                              refine Tr.lald (pc := 217) d_X12_never_217 (ty_190 hS.1.1) (by omega) (by omega) ?_
                              refine Tr.tp r207 er207 ?_
                              refine Tr.lcmp (pc := 218) d_X12_never_218 ?_
                              refine Tr.gen (P := fun v => (v = 1 ∧ r207 < r210) ∨ (v = 0 ∧ r210 = r207) ∨ (v = -1 ∧ r210 < r207)) (f_lcmp_c _ _) (fun r218 er218 br218 => ?_)
                              replace br218 := hd_i br218
                              refine Tr.if_eq (pc := 219) (tgt := 226) d_X12_never_219 rfl (fun c219 => ?_) (fun c219 => ?_)
                              · refine Tr.iconst (pc := 226) d_X12_never_226 (by decide) ?_
                                refine Tr.pick [1, 2, 4, 5, 6, 0] (ls2 := [(0, (2, 120)), (1, (0, r8)), (3, (0, p48_3)), (5, (1, p125_5)), (7, (0, q148_0)), (8, (0, q174_0))]) rfl ?_
                                exact J227 _ _ hS (by omega) k174_136_0 k174_137_p48_310 k174_190_p48_310 k174_9030_0 (Or.inl rfl)
                              · replace c219 := hd_i c219
                                refine Tr.pick [1, 2, 4, 5, 6, 0] (ls2 := [(0, (2, 120)), (1, (0, r8)), (3, (0, p48_3)), (5, (1, p125_5)), (7, (0, q148_0)), (8, (0, q174_0))]) rfl ?_
                                exact J222 _ hS k174_136_0 k174_137_p48_310 k174_190_p48_310 k174_9030_0 (Or.inr (Or.inr (by rw [show rd M 190 q174_0 = r207 from er207, er210]; exact (by exact (ne_o (hd_o c219)).elim (fun h1 => (hd_o br218).elim (fun h2 => by omega) (fun h2 => h2.elim (fun h2 => by omega) (fun h2 => by omega))) (fun h1 => (hd_o br218).elim (fun h2 => by omega) (fun h2 => h2.elim (fun h2 => by omega) (fun h2 => by omega)))))))
                        refine Tr.icmp_lt (pc := 159) (tgt := 172) d_X12_never_159 rfl (fun c159 => ?_) (fun c159 => ?_)
                        · refine Tr.iload (pc := 172) (i := 7) d_X12_never_172 rfl ?_
                          refine Tr.pick [1, 2, 3, 4, 6, 0] (ls2 := [(0, (2, 120)), (1, (0, r8)), (2, (0, p48_2)), (3, (0, p48_3)), (5, (1, p125_5)), (7, (0, q148_0))]) rfl ?_
                          exact J174 _ _ hS (by and_intros <;> omega) k148_136_0 k148_137_p48_310 k148_190_p48_310 k148_9030_0
                        · refine Tr.aload_n (pc := 162) (i := 0) d_X12_never_162 rfl rfl ?_
                          refine Tr.getf (pc := 163) d_X12_never_163 f_12_112 (by decide) (by decide) (ty_120 hS.1.1) ?_
                          refine Tr.tp 142 (fx_120_33 hS.1.1) ?_
                          refine Tr.iload (pc := 166) (i := 4) d_X12_never_166 rfl ?_
                          refine Tr.iald (pc := 168) d_X12_never_168 (ty_142 hS.1.1) (by omega) (by omega) ?_
                          refine Tr.gen (P := fun v => 0 ≤ v ∧ v ≤ 200) (ar_142 hS.1.2.1 _) (fun r168 er168 br168 => ?_)
                          refine Tr.goto (pc := 169) (tgt := 174) d_X12_never_169 rfl ?_
                          refine Tr.pick [1, 2, 3, 4, 6, 0] (ls2 := [(0, (2, 120)), (1, (0, r8)), (2, (0, p48_2)), (3, (0, p48_3)), (5, (1, p125_5)), (7, (0, q148_0))]) rfl ?_
                          exact J174 _ _ hS (by and_intros <;> omega) k148_136_0 k148_137_p48_310 k148_190_p48_310 k148_9030_0
                      refine Tr.if_ne (pc := 132) (tgt := 145) d_X12_never_132 rfl (fun c132 => ?_) (fun c132 => ?_)
                      · have c132b : 1 ≤ r79 ∧ r79 ≤ 8 := by omega
                        replace c132 := hd_i c132
                        refine Tr.iload_n (pc := 145) (i := 3) d_X12_never_145 rfl rfl ?_
                        refine Tr.iconst (pc := 146) d_X12_never_146 (by decide) ?_
                        refine Tr.iadd (pc := 147) d_X12_never_147 ?_
                        refine Tr.tp (p48_3 + 1) ((w32_id (by and_intros <;> omega)).trans (by omega)) ?_
                        refine Tr.pick [0, 1, 2, 3, 4, 5] (ls2 := [(0, (2, 120)), (1, (0, r8)), (2, (0, p48_2)), (3, (0, p48_3)), (4, (0, p48_3)), (5, (1, p125_5))]) rfl ?_
                        exact J148 _ _ hS (by and_intros <;> omega) k125_136_0 k125_137_p48_310 k125_190_p48_310 k125_9030_0
                      · refine Tr.aload_n (pc := 135) (i := 0) d_X12_never_135 rfl rfl ?_
                        refine Tr.getf (pc := 136) d_X12_never_136 f_12_112 (by decide) (by decide) (ty_120 hS.1.1) ?_
                        refine Tr.tp 142 (fx_120_33 hS.1.1) ?_
                        refine Tr.iload (pc := 139) (i := 4) d_X12_never_139 rfl ?_
                        refine Tr.iald (pc := 141) d_X12_never_141 (ty_142 hS.1.1) (by omega) (by omega) ?_
                        refine Tr.gen (P := fun v => 0 ≤ v ∧ v ≤ 200) (ar_142 hS.1.2.1 _) (fun r141 er141 br141 => ?_)
                        refine Tr.goto (pc := 142) (tgt := 148) d_X12_never_142 rfl ?_
                        refine Tr.pick [0, 1, 2, 3, 4, 5] (ls2 := [(0, (2, 120)), (1, (0, r8)), (2, (0, p48_2)), (3, (0, p48_3)), (4, (0, p48_3)), (5, (1, p125_5))]) rfl ?_
                        exact J148 _ _ hS (by and_intros <;> omega) k125_136_0 k125_137_p48_310 k125_190_p48_310 k125_9030_0
                    have J95 : ∀ (M : Mem), St Tru ws_X12_never_120 as_X12_never_120 M0 M → (3 ≤ r79 ∧ r79 ≤ 4) → rd M 136 0 = r8 → rd M 137 p48_3 = r79 → rd M 190 p48_3 = r70 → cmv M = u48_9030_0 → Tr l K 1 mX12_never 95 [(0, (2, 120)), (1, (0, r8)), (2, (0, p48_2)), (3, (0, p48_3)), (4, (0, p48_3)), (5, (1, r70))] [] M (q_X12_never_120 M0) := by
                      intro M  hS z95r79 k95_136_0 k95_137_p48_310 k95_190_p48_310 k95_9030_0
                      clear k48_136_0 k48_9030_0 er70 er79
                      refine Tr.lload (pc := 95) (i := 5) d_X12_never_95 rfl ?_
                      refine Tr.aload_n (pc := 97) (i := 0) d_X12_never_97 rfl rfl ?_
                      refine Tr.getf (pc := 98) d_X12_never_98 f_12_103 (by decide) (by decide) (ty_120 hS.1.1) ?_
                      refine Tr.tp 139 (fx_120_30 hS.1.1) ?_
                      refine Tr.iload (pc := 101) (i := 4) d_X12_never_101 rfl ?_
                      refine Tr.iald (pc := 103) d_X12_never_103 (ty_139 hS.1.1) (by omega) (by omega) ?_
                      refine Tr.gen (P := fun v => (-1) ≤ v ∧ v ≤ 5) (ar_139 hS.1.2.1 _) (fun r103 er103 br103 => ?_)
                      refine Tr.aload_n (pc := 104) (i := 0) d_X12_never_104 rfl rfl ?_
                      refine Tr.getf (pc := 105) d_X12_never_105 f_12_97 (by decide) (by decide) (ty_120 hS.1.1) ?_
                      refine Tr.tp 137 (fx_120_28 hS.1.1) ?_
                      refine Tr.iload (pc := 108) (i := 4) d_X12_never_108 rfl ?_
                      refine Tr.iald (pc := 110) d_X12_never_110 (ty_137 hS.1.1) (by omega) (by omega) ?_
                      refine Tr.tp r79 k95_137_p48_310 ?_
                      refine Tr.iconst (pc := 111) d_X12_never_111 (by decide) ?_
                      have J120 : ∀ (M : Mem) (q120_2 : Int), St Tru ws_X12_never_120 as_X12_never_120 M0 M → (0 ≤ q120_2 ∧ q120_2 ≤ 1) → rd M 136 0 = r8 → rd M 137 p48_3 = r79 → rd M 139 p48_3 = r103 → rd M 190 p48_3 = r70 → cmv M = u48_9030_0 → Tr l K 1 mX12_never 120 [(0, (2, 120)), (1, (0, r8)), (2, (0, p48_2)), (3, (0, p48_3)), (4, (0, p48_3))] [(0, q120_2), (0, r103), (1, r70)] M (q_X12_never_120 M0) := by
                        intro M q120_2 hS bq120_2 k120_136_0 k120_137_p48_310 k120_139_p48_310 k120_190_p48_310 k120_9030_0
                        clear k95_136_0 k95_137_p48_310 k95_190_p48_310 k95_9030_0 er103
                        refine Tr.callS (pc := 120) (as := [_, _, _]) d_X12_never_120 s_12_692 ok_X12_moved rfl rfl (Nat.le_of_ble_eq_true rfl) (Nat.le_of_ble_eq_true rfl) ?_
                        refine Tr.imp (Tr.deep (by decide) (sp_X12_moved hS.1 r70 (by omega) r103 (by and_intros <;> omega) q120_2 (by and_intros <;> omega))) ?_
                        rintro M120 _ ⟨h120, r120, rfl, lr120, ur120⟩
                        have hS := St.tr hS h120 (by decide) (by decide)
                        refine Tr.sc [(1, r120)] rfl ?_
                        refine Tr.lstore (pc := 123) (i := 5) (ls2 := [(5, (1, r120)), (0, (2, 120)), (1, (0, r8)), (2, (0, p48_2)), (3, (0, p48_3)), (4, (0, p48_3))]) d_X12_never_123 (by decide) rfl ?_
                        refine Tr.pick [1, 2, 3, 4, 5, 0] (ls2 := [(0, (2, 120)), (1, (0, r8)), (2, (0, p48_2)), (3, (0, p48_3)), (4, (0, p48_3)), (5, (1, r120))]) rfl ?_
                        exact J125 _ _ hS (by omega) ((kp_X12_moved_136_0 h120).trans k120_136_0) ((ka_X12_moved_137 h120 _).trans k120_137_p48_310) ((ka_X12_moved_190 h120 _).trans k120_190_p48_310) ((cmv_of (fun j => ((ka_X12_moved_190 h120 _).trans rfl))).trans k120_9030_0)
                      refine Tr.icmp_ne (pc := 112) (tgt := 119) d_X12_never_112 rfl (fun c112 => ?_) (fun c112 => ?_)
                      · have c112b : 4 ≤ r79 ∧ r79 ≤ 4 := by omega
                        replace c112 := hd_i c112
                        refine Tr.iconst (pc := 119) d_X12_never_119 (by decide) ?_
                        refine Tr.pick [0, 1, 2, 3, 4] (ls2 := [(0, (2, 120)), (1, (0, r8)), (2, (0, p48_2)), (3, (0, p48_3)), (4, (0, p48_3))]) rfl ?_
                        exact J120 _ _ hS (by omega) k95_136_0 k95_137_p48_310 er103 k95_190_p48_310 k95_9030_0
                      · refine Tr.iconst (pc := 115) d_X12_never_115 (by decide) ?_
                        refine Tr.goto (pc := 116) (tgt := 120) d_X12_never_116 rfl ?_
                        refine Tr.pick [0, 1, 2, 3, 4] (ls2 := [(0, (2, 120)), (1, (0, r8)), (2, (0, p48_2)), (3, (0, p48_3)), (4, (0, p48_3))]) rfl ?_
                        exact J120 _ _ hS (by omega) k95_136_0 k95_137_p48_310 er103 k95_190_p48_310 k95_9030_0
                    refine Tr.icmp_eq (pc := 81) (tgt := 95) d_X12_never_81 rfl (fun c81 => ?_) (fun c81 => ?_)
                    · refine Tr.pick [2, 3, 4, 5, 1, 0] (ls2 := [(0, (2, 120)), (1, (0, r8)), (2, (0, p48_2)), (3, (0, p48_3)), (4, (0, p48_3)), (5, (1, r70))]) rfl ?_
                      exact J95 _ hS (by and_intros <;> omega) k48_136_0 er79 er70 k48_9030_0
                    · replace c81 := hd_i c81
                      refine Tr.aload_n (pc := 84) (i := 0) d_X12_never_84 rfl rfl ?_
                      refine Tr.getf (pc := 85) d_X12_never_85 f_12_97 (by decide) (by decide) (ty_120 hS.1.1) ?_
                      refine Tr.tp 137 (fx_120_28 hS.1.1) ?_
                      refine Tr.iload (pc := 88) (i := 4) d_X12_never_88 rfl ?_
                      refine Tr.iald (pc := 90) d_X12_never_90 (ty_137 hS.1.1) (by omega) (by omega) ?_
                      refine Tr.tp r79 er79 ?_
                      refine Tr.iconst (pc := 91) d_X12_never_91 (by decide) ?_
                      refine Tr.icmp_ne (pc := 92) (tgt := 125) d_X12_never_92 rfl (fun c92 => ?_) (fun c92 => ?_)
                      · replace c92 := hd_i c92
                        refine Tr.pick [2, 3, 4, 5, 1, 0] (ls2 := [(0, (2, 120)), (1, (0, r8)), (2, (0, p48_2)), (3, (0, p48_3)), (4, (0, p48_3)), (5, (1, r70))]) rfl ?_
                        exact J125 _ _ hS (by omega) k48_136_0 er79 er70 k48_9030_0
                      · refine Tr.pick [2, 3, 4, 5, 1, 0] (ls2 := [(0, (2, 120)), (1, (0, r8)), (2, (0, p48_2)), (3, (0, p48_3)), (4, (0, p48_3)), (5, (1, r70))]) rfl ?_
                        exact J95 _ hS (by and_intros <;> omega) k48_136_0 er79 er70 k48_9030_0
              refine Tr.pick [2, 3, 1, 0] (ls2 := [(0, (2, 120)), (1, (0, r8)), (2, (0, 0)), (3, (0, 0))]) rfl ?_
              exact J48 _ _ _ _ _ hS (by omega) (by omega) (by and_intros <;> omega) k40_136_0 k40_9030_0 (by omega) (by omega) (by omega) (Nat.lt_succ_self _)
        refine Tr.pick [1, 2, 0] (ls2 := [(0, (2, 120)), (1, (0, r8)), (2, (0, 1))]) rfl ?_
        exact J40 _ _ _ _ hS (by omega) (by and_intros <;> omega) k12_136_0 k12_9030_0 (by omega) (Nat.lt_succ_self _)
      · refine Tr.aload_n (pc := 17) (i := 0) d_X12_never_17 rfl rfl ?_
        refine Tr.getf (pc := 18) d_X12_never_18 f_12_375 (by decide) (by decide) (ty_120 hS.1.1) ?_
        refine Tr.tp 190 (fx_120_120 hS.1.1) ?_
        refine Tr.iload_n (pc := 21) (i := 2) d_X12_never_21 rfl rfl ?_
        refine Tr.iload_n (pc := 22) (i := 2) d_X12_never_22 rfl rfl ?_
        have J31 : ∀ (M : Mem) (q31_2 : Int), St Tru ws_X12_never_120 as_X12_never_120 M0 M → (0 ≤ q31_2 ∧ q31_2 ≤ 1) → rd M 136 0 = r8 → cmv M = u12_9030_0 → Tr l K 1 mX12_never 31 [(0, (2, 120)), (1, (0, r8)), (2, (0, p12_2))] [(1, q31_2), (0, p12_2), (2, 190)] M (q_X12_never_120 M0) := by
          intro M q31_2 hS bq31_2 k31_136_0 k31_9030_0
          clear k12_136_0 k12_9030_0
          refine Tr.lastS (pc := 31) (P := St Tru ws_X12_never_120 as_X12_never_120 M0) d_X12_never_31 (ty_190 hS.1.1) (by omega) (by omega) (sa_190 hS (by decide) (by omega) trivial) (fun M31 hS w31 => ?_)
          refine Tr.iincV (pc := 32) (n2 := (p12_2 + 1)) (ls2 := [(2, (0, (p12_2 + 1))), (0, (2, 120)), (1, (0, r8))]) d_X12_never_32 rfl (by decide) ((w32_id (by and_intros <;> omega)).trans (by omega)) rfl ?_
          refine Tr.goto (pc := 35) (tgt := 12) d_X12_never_35 rfl ?_
          refine Tr.pick [1, 2, 0] (ls2 := [(0, (2, 120)), (1, (0, r8)), (2, (0, (p12_2 + 1)))]) rfl ?_
          obtain ⟨w12p35_9030_0, ew12p35_9030_0⟩ : ∃ v, cmv M31 = v := ⟨_, rfl⟩
          have bw12p35_9030_0 : 0 ≤ w12p35_9030_0 ∧ w12p35_9030_0 ≤ 12864 := by rw [← ew12p35_9030_0]; exact (cmv_b hS.1.2.1)
          exact J12 _ _ _ hS (by and_intros <;> omega) (by and_intros <;> omega) ((Wr.b w31 rfl).trans k31_136_0) ew12p35_9030_0 (me_lt hm12 (by omega) (by omega))
        refine Tr.if_ne (pc := 23) (tgt := 30) d_X12_never_23 rfl (fun c23 => ?_) (fun c23 => ?_)
        · have c23b : 1 ≤ p12_2 ∧ p12_2 ≤ 200 := by omega
          replace c23 := hd_i c23
          refine Tr.lconst (pc := 30) (v := 0) d_X12_never_30 rfl (by decide) ?_
          refine Tr.pick [0, 1, 2] (ls2 := [(0, (2, 120)), (1, (0, r8)), (2, (0, p12_2))]) rfl ?_
          exact J31 _ _ hS (by omega) k12_136_0 k12_9030_0
        · refine Tr.lconst (pc := 26) (v := 1) d_X12_never_26 rfl (by decide) ?_
          refine Tr.goto (pc := 27) (tgt := 31) d_X12_never_27 rfl ?_
          refine Tr.pick [0, 1, 2] (ls2 := [(0, (2, 120)), (1, (0, r8)), (2, (0, p12_2))]) rfl ?_
          exact J31 _ _ hS (by omega) k12_136_0 k12_9030_0
  refine Tr.pick [2, 1, 0] (ls2 := [(0, (2, 120)), (1, (0, r8)), (2, (0, 0))]) rfl ?_
  exact J12 _ _ _ _ hS (by omega) (by and_intros <;> omega) er8 eg9030_0 (Nat.lt_succ_self _)
end
/-! 39.01 -/
section
def ws_X12_isAmong_120 : List (Int × Int) := []
def as_X12_isAmong_120 : List Int := []
def q_X12_isAmong_120 (M0 M' : Mem) (r : Option PV) : Prop := St Tru ws_X12_isAmong_120 as_X12_isAmong_120 M0 M' ∧ ∃ v : Int, r = some (0, v) ∧ 0 ≤ v ∧ v ≤ 1
set_option maxRecDepth 100000 in
set_option maxHeartbeats 4000000 in
theorem sp_X12_isAmong_120 {l : Launch} {K : EC} {M0 : Mem} (hI : In Tru M0)  (a1 : Int) (ha1 : (-1) ≤ a1 ∧ a1 ≤ 59) (a2 : Int) (ha2 : (-2147483648) ≤ a2 ∧ a2 ≤ 2147483647)  : Tr l K 0 mX12_isAmong 0 [(0, (2, 120)), (1, (0, a1)), (2, (0, a2))] [] M0 (q_X12_isAmong_120 M0) := by
  have hS : St Tru ws_X12_isAmong_120 as_X12_isAmong_120 M0 M0 := St.rf hI
  refine Tr.iconst (pc := 0) d_X12_isAmong_0 (by decide) ?_
  refine Tr.istore_n (pc := 1) (i := 3) (ls2 := [(3, (0, 0)), (0, (2, 120)), (1, (0, a1)), (2, (0, a2))]) d_X12_isAmong_1 rfl (by decide) rfl ?_
  have J2 : ∀ (n2 : Nat) (M : Mem) (p2_3 : Int), St Tru ws_X12_isAmong_120 as_X12_isAmong_120 M0 M → (0 ≤ p2_3 ∧ p2_3 ≤ 8) → (8 - p2_3).toNat < n2 → Tr l K 0 mX12_isAmong 2 [(0, (2, 120)), (1, (0, a1)), (2, (0, a2)), (3, (0, p2_3))] [] M (q_X12_isAmong_120 M0) := by
    intro n2
    induction n2 with
    | zero => intro M p2_3 hS bp2_3  hm2; exact absurd hm2 (Nat.not_lt_zero _)
    | succ n2 J2 =>
      intro M p2_3 hS bp2_3  hm2
      refine Tr.iload_n (pc := 2) (i := 3) d_X12_isAmong_2 rfl rfl ?_
      refine Tr.aload_n (pc := 3) (i := 0) d_X12_isAmong_3 rfl rfl ?_
      refine Tr.getf (pc := 4) d_X12_isAmong_4 f_12_318 (by decide) (by decide) (ty_120 hS.1.1) ?_
      refine Tr.gen (P := fun v => 0 ≤ v ∧ v ≤ 8) (ir_120_101 hS.1.2.1) (fun r4 er4 br4 => ?_)
      refine Tr.icmp_ge (pc := 7) (tgt := 37) d_X12_isAmong_7 rfl (fun c7 => ?_) (fun c7 => ?_)
      · refine Tr.iconst (pc := 37) d_X12_isAmong_37 (by decide) ?_
        exact Tr.zret (pc := 38) d_X12_isAmong_38 rfl (by omega) ⟨hS, _, rfl, by omega, by omega⟩
      · refine Tr.aload_n (pc := 10) (i := 0) d_X12_isAmong_10 rfl rfl ?_
        refine Tr.getf (pc := 11) d_X12_isAmong_11 f_12_315 (by decide) (by decide) (ty_120 hS.1.1) ?_
        refine Tr.tp 176 (fx_120_100 hS.1.1) ?_
        refine Tr.iload_n (pc := 14) (i := 3) d_X12_isAmong_14 rfl rfl ?_
        refine Tr.iald (pc := 15) d_X12_isAmong_15 (ty_176 hS.1.1) (by omega) (by omega) ?_
        refine Tr.gen (P := fun v => 0 ≤ v ∧ v ≤ 59) (ar_176 hS.1.2.1 _) (fun r15 er15 br15 => ?_)
        refine Tr.iload_n (pc := 16) (i := 1) d_X12_isAmong_16 rfl rfl ?_
        have J31 : ∀ (M : Mem), St Tru ws_X12_isAmong_120 as_X12_isAmong_120 M0 M → rd M 120 101 = r4 → rd M 176 p2_3 = r15 → Tr l K 0 mX12_isAmong 31 [(0, (2, 120)), (1, (0, a1)), (2, (0, a2)), (3, (0, p2_3))] [] M (q_X12_isAmong_120 M0) := by
          intro M  hS  k31_120_101 k31_176_p2_310
          clear er4 er15
          refine Tr.iincV (pc := 31) (n2 := (p2_3 + 1)) (ls2 := [(3, (0, (p2_3 + 1))), (0, (2, 120)), (1, (0, a1)), (2, (0, a2))]) d_X12_isAmong_31 rfl (by decide) ((w32_id (by and_intros <;> omega)).trans (by omega)) rfl ?_
          refine Tr.goto (pc := 34) (tgt := 2) d_X12_isAmong_34 rfl ?_
          refine Tr.pick [1, 2, 3, 0] (ls2 := [(0, (2, 120)), (1, (0, a1)), (2, (0, a2)), (3, (0, (p2_3 + 1)))]) rfl ?_
          exact J2 _ _ hS (by and_intros <;> omega) (me_lt hm2 (by omega) (by omega))
        refine Tr.icmp_ne (pc := 17) (tgt := 31) d_X12_isAmong_17 rfl (fun c17 => ?_) (fun c17 => ?_)
        · replace c17 := hd_i c17
          refine Tr.pick [0, 1, 2, 3] (ls2 := [(0, (2, 120)), (1, (0, a1)), (2, (0, a2)), (3, (0, p2_3))]) rfl ?_
          exact J31 _ hS er4 er15
        · refine Tr.iload_n (pc := 20) (i := 2) d_X12_isAmong_20 rfl rfl ?_
          refine Tr.iload_n (pc := 21) (i := 3) d_X12_isAmong_21 rfl rfl ?_
          refine Tr.ishr (pc := 22) d_X12_isAmong_22 ?_
          refine Tr.gen (P := fun v => (-2147483648) ≤ v ∧ v ≤ 2147483647) (i32_b _) (fun r22 er22 br22 => ?_)
          refine Tr.iconst (pc := 23) d_X12_isAmong_23 (by decide) ?_
          refine Tr.iand (pc := 24) d_X12_isAmong_24 ?_
          refine Tr.gen (P := fun v => 0 ≤ v ∧ v ≤ 1) (f_iand_m 1 (by decide +kernel) (by decide) (by decide +kernel)) (fun r24 er24 br24 => ?_)
          refine Tr.iconst (pc := 25) d_X12_isAmong_25 (by decide) ?_
          refine Tr.icmp_ne (pc := 26) (tgt := 31) d_X12_isAmong_26 rfl (fun c26 => ?_) (fun c26 => ?_)
          · have c26b : 0 ≤ r24 ∧ r24 ≤ 0 := by omega
            replace c26 := hd_i c26
            refine Tr.pick [0, 1, 2, 3] (ls2 := [(0, (2, 120)), (1, (0, a1)), (2, (0, a2)), (3, (0, p2_3))]) rfl ?_
            exact J31 _ hS er4 er15
          · refine Tr.iconst (pc := 29) d_X12_isAmong_29 (by decide) ?_
            exact Tr.zret (pc := 30) d_X12_isAmong_30 rfl (by omega) ⟨hS, _, rfl, by omega, by omega⟩
  refine Tr.pick [1, 2, 3, 0] (ls2 := [(0, (2, 120)), (1, (0, a1)), (2, (0, a2)), (3, (0, 0))]) rfl ?_
  exact J2 _ _ _ hS (by omega) (Nat.lt_succ_self _)

def ws_X12_costOf_120 : List (Int × Int) := []
def as_X12_costOf_120 : List Int := [177]
def q_X12_costOf_120 (M0 M' : Mem) (r : Option PV) : Prop := St Tru ws_X12_costOf_120 as_X12_costOf_120 M0 M' ∧ ∃ v : Int, r = some (1, v) ∧ (-9223372036854775808) ≤ v ∧ v ≤ 9223372036854775807
theorem kp_X12_costOf_120_120_12 {q : Mem → Prop} {M0 M : Mem} (h : St q ws_X12_costOf_120 as_X12_costOf_120 M0 M) : rd M 120 12 = rd M0 120 12 := St.kp h (by decide) (by decide) (by decide)
theorem ka_X12_costOf_120_131 {q : Mem → Prop} {M0 M : Mem} (h : St q ws_X12_costOf_120 as_X12_costOf_120 M0 M) (j : Int) : rd M 131 j = rd M0 131 j := St.ka h (by decide) (by decide) (by decide)
theorem ka_X12_costOf_120_137 {q : Mem → Prop} {M0 M : Mem} (h : St q ws_X12_costOf_120 as_X12_costOf_120 M0 M) (j : Int) : rd M 137 j = rd M0 137 j := St.ka h (by decide) (by decide) (by decide)
theorem ka_X12_costOf_120_138 {q : Mem → Prop} {M0 M : Mem} (h : St q ws_X12_costOf_120 as_X12_costOf_120 M0 M) (j : Int) : rd M 138 j = rd M0 138 j := St.ka h (by decide) (by decide) (by decide)
theorem ka_X12_costOf_120_139 {q : Mem → Prop} {M0 M : Mem} (h : St q ws_X12_costOf_120 as_X12_costOf_120 M0 M) (j : Int) : rd M 139 j = rd M0 139 j := St.ka h (by decide) (by decide) (by decide)
theorem ka_X12_costOf_120_140 {q : Mem → Prop} {M0 M : Mem} (h : St q ws_X12_costOf_120 as_X12_costOf_120 M0 M) (j : Int) : rd M 140 j = rd M0 140 j := St.ka h (by decide) (by decide) (by decide)
theorem ka_X12_costOf_120_141 {q : Mem → Prop} {M0 M : Mem} (h : St q ws_X12_costOf_120 as_X12_costOf_120 M0 M) (j : Int) : rd M 141 j = rd M0 141 j := St.ka h (by decide) (by decide) (by decide)
theorem ka_X12_costOf_120_142 {q : Mem → Prop} {M0 M : Mem} (h : St q ws_X12_costOf_120 as_X12_costOf_120 M0 M) (j : Int) : rd M 142 j = rd M0 142 j := St.ka h (by decide) (by decide) (by decide)
theorem ka_X12_costOf_120_143 {q : Mem → Prop} {M0 M : Mem} (h : St q ws_X12_costOf_120 as_X12_costOf_120 M0 M) (j : Int) : rd M 143 j = rd M0 143 j := St.ka h (by decide) (by decide) (by decide)
theorem kp_X12_costOf_120_126_0 {q : Mem → Prop} {M0 M : Mem} (h : St q ws_X12_costOf_120 as_X12_costOf_120 M0 M) : rd M 126 0 = rd M0 126 0 := St.kp h (by decide) (by decide) (by decide)
theorem kp_X12_costOf_120_136_0 {q : Mem → Prop} {M0 M : Mem} (h : St q ws_X12_costOf_120 as_X12_costOf_120 M0 M) : rd M 136 0 = rd M0 136 0 := St.kp h (by decide) (by decide) (by decide)
theorem kp_X12_costOf_120_123_0 {q : Mem → Prop} {M0 M : Mem} (h : St q ws_X12_costOf_120 as_X12_costOf_120 M0 M) : rd M 123 0 = rd M0 123 0 := St.kp h (by decide) (by decide) (by decide)
theorem kp_X12_costOf_120_124_0 {q : Mem → Prop} {M0 M : Mem} (h : St q ws_X12_costOf_120 as_X12_costOf_120 M0 M) : rd M 124 0 = rd M0 124 0 := St.kp h (by decide) (by decide) (by decide)
theorem ka_X12_isAmong_120_171 {q : Mem → Prop} {M0 M : Mem} (h : St q ws_X12_isAmong_120 as_X12_isAmong_120 M0 M) (j : Int) : rd M 171 j = rd M0 171 j := St.ka h (by decide) (by decide) (by decide)
theorem kp_X12_tails_120_120_96 {q : Mem → Prop} {M0 M : Mem} (h : St q ws_X12_tails_120 as_X12_tails_120 M0 M) : rd M 120 96 = rd M0 120 96 := St.kp h (by decide) (by decide) (by decide)
theorem kp_X12_tails_120_120_97 {q : Mem → Prop} {M0 M : Mem} (h : St q ws_X12_tails_120 as_X12_tails_120 M0 M) : rd M 120 97 = rd M0 120 97 := St.kp h (by decide) (by decide) (by decide)
theorem kp_X12_tails_120_120_98 {q : Mem → Prop} {M0 M : Mem} (h : St q ws_X12_tails_120 as_X12_tails_120 M0 M) : rd M 120 98 = rd M0 120 98 := St.kp h (by decide) (by decide) (by decide)
theorem ka_X12_tails_120_169 {q : Mem → Prop} {M0 M : Mem} (h : St q ws_X12_tails_120 as_X12_tails_120 M0 M) (j : Int) : rd M 169 j = rd M0 169 j := St.ka h (by decide) (by decide) (by decide)
theorem ka_X12_tails_120_170 {q : Mem → Prop} {M0 M : Mem} (h : St q ws_X12_tails_120 as_X12_tails_120 M0 M) (j : Int) : rd M 170 j = rd M0 170 j := St.ka h (by decide) (by decide) (by decide)
theorem ka_X12_tails_120_171 {q : Mem → Prop} {M0 M : Mem} (h : St q ws_X12_tails_120 as_X12_tails_120 M0 M) (j : Int) : rd M 171 j = rd M0 171 j := St.ka h (by decide) (by decide) (by decide)
theorem kp_X12_isAmong_120_120_96 {q : Mem → Prop} {M0 M : Mem} (h : St q ws_X12_isAmong_120 as_X12_isAmong_120 M0 M) : rd M 120 96 = rd M0 120 96 := St.kp h (by decide) (by decide) (by decide)
theorem kp_X12_isAmong_120_120_97 {q : Mem → Prop} {M0 M : Mem} (h : St q ws_X12_isAmong_120 as_X12_isAmong_120 M0 M) : rd M 120 97 = rd M0 120 97 := St.kp h (by decide) (by decide) (by decide)
theorem kp_X12_isAmong_120_120_98 {q : Mem → Prop} {M0 M : Mem} (h : St q ws_X12_isAmong_120 as_X12_isAmong_120 M0 M) : rd M 120 98 = rd M0 120 98 := St.kp h (by decide) (by decide) (by decide)
theorem ka_X12_isAmong_120_169 {q : Mem → Prop} {M0 M : Mem} (h : St q ws_X12_isAmong_120 as_X12_isAmong_120 M0 M) (j : Int) : rd M 169 j = rd M0 169 j := St.ka h (by decide) (by decide) (by decide)
theorem ka_X12_isAmong_120_170 {q : Mem → Prop} {M0 M : Mem} (h : St q ws_X12_isAmong_120 as_X12_isAmong_120 M0 M) (j : Int) : rd M 170 j = rd M0 170 j := St.ka h (by decide) (by decide) (by decide)
theorem ka_X12_tails_120_163 {q : Mem → Prop} {M0 M : Mem} (h : St q ws_X12_tails_120 as_X12_tails_120 M0 M) (j : Int) : rd M 163 j = rd M0 163 j := St.ka h (by decide) (by decide) (by decide)
theorem ka_X12_isAmong_120_163 {q : Mem → Prop} {M0 M : Mem} (h : St q ws_X12_isAmong_120 as_X12_isAmong_120 M0 M) (j : Int) : rd M 163 j = rd M0 163 j := St.ka h (by decide) (by decide) (by decide)
theorem ka_X12_isAmong_120_165 {q : Mem → Prop} {M0 M : Mem} (h : St q ws_X12_isAmong_120 as_X12_isAmong_120 M0 M) (j : Int) : rd M 165 j = rd M0 165 j := St.ka h (by decide) (by decide) (by decide)
theorem kp_X12_stateAt_120_120_97 {q : Mem → Prop} {M0 M : Mem} (h : St q ws_X12_stateAt_120 as_X12_stateAt_120 M0 M) : rd M 120 97 = rd M0 120 97 := St.kp h (by decide) (by decide) (by decide)
theorem kp_X12_stateAt_120_120_98 {q : Mem → Prop} {M0 M : Mem} (h : St q ws_X12_stateAt_120 as_X12_stateAt_120 M0 M) : rd M 120 98 = rd M0 120 98 := St.kp h (by decide) (by decide) (by decide)
theorem ka_X12_stateAt_120_163 {q : Mem → Prop} {M0 M : Mem} (h : St q ws_X12_stateAt_120 as_X12_stateAt_120 M0 M) (j : Int) : rd M 163 j = rd M0 163 j := St.ka h (by decide) (by decide) (by decide)
set_option maxRecDepth 100000 in
set_option maxHeartbeats 4000000 in
theorem sp_X12_costOf_120 {l : Launch} {K : EC} {M0 : Mem} (hI : In Tru M0) (en_120_12 : rd M0 120 12 = 0) (a1 : Int) (ha1 : 0 ≤ a1 ∧ a1 ≤ 5) (a2 : Int) (ha2 : (-2147483648) ≤ a2 ∧ a2 ≤ 2147483647)  (hF_Bk0 : Bk0 M0) : Tr l K 3 mX12_costOf 0 [(0, (2, 120)), (1, (0, a1)), (2, (0, a2))] [] M0 (q_X12_costOf_120 M0) := by
  have hS : St Tru ws_X12_costOf_120 as_X12_costOf_120 M0 M0 := St.rf hI
  refine Tr.iconst (pc := 0) d_X12_costOf_0 (by decide) ?_
  refine Tr.istore_n (pc := 1) (i := 3) (ls2 := [(3, (0, 0)), (0, (2, 120)), (1, (0, a1)), (2, (0, a2))]) d_X12_costOf_1 rfl (by decide) rfl ?_
  refine Tr.aload_n (pc := 2) (i := 0) d_X12_costOf_2 rfl rfl ?_
  refine Tr.getf (pc := 3) d_X12_costOf_3 f_12_306 (by decide) (by decide) (ty_120 hS.1.1) ?_
  refine Tr.gen (P := fun v => 0 ≤ v ∧ v ≤ 2100) (ir_120_97 hS.1.2.1) (fun r3 er3 br3 => ?_)
  refine Tr.istore (pc := 6) (i := 4) (ls2 := [(4, (0, r3)), (3, (0, 0)), (0, (2, 120)), (1, (0, a1)), (2, (0, a2))]) d_X12_costOf_6 (by decide) rfl ?_
  have J8 : ∀ (n8 : Nat) (M : Mem) (p8_3 p8_4 : Int), St Tru ws_X12_costOf_120 as_X12_costOf_120 M0 M → ((-2147483648) ≤ p8_3 ∧ p8_3 ≤ 2147483647) → (0 ≤ p8_4 ∧ p8_4 ≤ 2100) → rd M 120 97 = r3 → (2100 - p8_4).toNat < n8 → Tr l K 3 mX12_costOf 8 [(0, (2, 120)), (1, (0, a1)), (2, (0, a2)), (3, (0, p8_3)), (4, (0, p8_4))] [] M (q_X12_costOf_120 M0) := by
    intro n8
    induction n8 with
    | zero => intro M p8_3 p8_4 hS bp8_3 bp8_4 k8_120_97 hm8; exact absurd hm8 (Nat.not_lt_zero _)
    | succ n8 J8 =>
      intro M p8_3 p8_4 hS bp8_3 bp8_4 k8_120_97 hm8
      clear er3
      refine Tr.iload (pc := 8) (i := 4) d_X12_costOf_8 rfl ?_
      refine Tr.aload_n (pc := 10) (i := 0) d_X12_costOf_10 rfl rfl ?_
      refine Tr.getf (pc := 11) d_X12_costOf_11 f_12_309 (by decide) (by decide) (ty_120 hS.1.1) ?_
      refine Tr.gen (P := fun v => 0 ≤ v ∧ v ≤ 2100) (ir_120_98 hS.1.2.1) (fun r11 er11 br11 => ?_)
      refine Tr.icmp_ge (pc := 14) (tgt := 158) d_X12_costOf_14 rfl (fun c14 => ?_) (fun c14 => ?_)
      · refine Tr.iconst (pc := 158) d_X12_costOf_158 (by decide) ?_
        refine Tr.istore (pc := 159) (i := 4) (ls2 := [(4, (0, 0)), (0, (2, 120)), (1, (0, a1)), (2, (0, a2)), (3, (0, p8_3))]) d_X12_costOf_159 (by decide) rfl ?_
        have J161 : ∀ (n161 : Nat) (M : Mem) (p161_4 : Int), St Tru ws_X12_costOf_120 as_X12_costOf_120 M0 M → (0 ≤ p161_4 ∧ p161_4 ≤ 2100) → rd M 120 97 = r3 → rd M 120 98 = r11 → (2100 - p161_4).toNat < n161 → Tr l K 3 mX12_costOf 161 [(0, (2, 120)), (1, (0, a1)), (2, (0, a2)), (4, (0, p161_4))] [] M (q_X12_costOf_120 M0) := by
          intro n161
          induction n161 with
          | zero => intro M p161_4 hS bp161_4 k161_120_97 k161_120_98 hm161; exact absurd hm161 (Nat.not_lt_zero _)
          | succ n161 J161 =>
            intro M p161_4 hS bp161_4 k161_120_97 k161_120_98 hm161
            clear k8_120_97 er11
            refine Tr.iload (pc := 161) (i := 4) d_X12_costOf_161 rfl ?_
            refine Tr.aload_n (pc := 163) (i := 0) d_X12_costOf_163 rfl rfl ?_
            refine Tr.getf (pc := 164) d_X12_costOf_164 f_12_303 (by decide) (by decide) (ty_120 hS.1.1) ?_
            refine Tr.gen (P := fun v => 0 ≤ v ∧ v ≤ 2100) (ir_120_96 hS.1.2.1) (fun r164 er164 br164 => ?_)
            refine Tr.icmp_ge (pc := 167) (tgt := 283) d_X12_costOf_167 rfl (fun c167 => ?_) (fun c167 => ?_)
            · refine Tr.aload_n (pc := 283) (i := 0) d_X12_costOf_283 rfl rfl ?_
              refine Tr.iload_n (pc := 284) (i := 1) d_X12_costOf_284 rfl rfl ?_
              refine Tr.aload_n (pc := 285) (i := 0) d_X12_costOf_285 rfl rfl ?_
              refine Tr.getf (pc := 286) d_X12_costOf_286 f_12_306 (by decide) (by decide) (ty_120 hS.1.1) ?_
              refine Tr.tp r3 k161_120_97 ?_
              refine Tr.aload_n (pc := 289) (i := 0) d_X12_costOf_289 rfl rfl ?_
              refine Tr.getf (pc := 290) d_X12_costOf_290 f_12_309 (by decide) (by decide) (ty_120 hS.1.1) ?_
              refine Tr.tp r11 k161_120_98 ?_
              refine Tr.callV (pc := 293) (as := [_, _, _]) d_X12_costOf_293 s_12_665 ok_X12_rows rfl rfl (Nat.le_of_ble_eq_true rfl) (Nat.le_of_ble_eq_true rfl) (by decide) (ty_120 hS.1.1) ?_
              refine Tr.imp (Tr.deep (by decide) (sp_X12_rows_120 hS.1 ((kp_X12_costOf_120_120_12 hS).trans en_120_12) a1 (by and_intros <;> omega) r3 (by and_intros <;> omega) r11 (by and_intros <;> omega) (Bk0.of hF_Bk0 (fun j => (ka_X12_costOf_120_131 hS _)) (fun j => (ka_X12_costOf_120_137 hS _)) (fun j => (ka_X12_costOf_120_138 hS _)) (fun j => (ka_X12_costOf_120_139 hS _)) (fun j => (ka_X12_costOf_120_140 hS _)) (fun j => (ka_X12_costOf_120_141 hS _)) (fun j => (ka_X12_costOf_120_142 hS _)) (fun j => (ka_X12_costOf_120_143 hS _)) (kp_X12_costOf_120_126_0 hS) (kp_X12_costOf_120_136_0 hS) (kp_X12_costOf_120_123_0 hS) (kp_X12_costOf_120_124_0 hS)))) ?_
              rintro M293 _ ⟨h293, r293, rfl, lr293, ur293⟩
              have hS := St.tr hS h293 (by decide) (by decide)
              refine Tr.sc [(1, r293)] rfl ?_
              exact Tr.lret (pc := 296) d_X12_costOf_296 rfl ⟨hS, _, rfl, (by omega), (by omega)⟩
            · refine Tr.aload_n (pc := 170) (i := 0) d_X12_costOf_170 rfl rfl ?_
              refine Tr.getf (pc := 171) d_X12_costOf_171 f_12_255 (by decide) (by decide) (ty_120 hS.1.1) ?_
              refine Tr.tp 169 (fx_120_80 hS.1.1) ?_
              refine Tr.iload (pc := 174) (i := 4) d_X12_costOf_174 rfl ?_
              refine Tr.iald (pc := 176) d_X12_costOf_176 (ty_169 hS.1.1) (by omega) (by omega) ?_
              refine Tr.gen (P := fun v => 0 ≤ v ∧ v ≤ 5) (ar_169 hS.1.2.1 _) (fun r176 er176 br176 => ?_)
              refine Tr.iload_n (pc := 177) (i := 1) d_X12_costOf_177 rfl rfl ?_
              have J277 : ∀ (M : Mem), St Tru ws_X12_costOf_120 as_X12_costOf_120 M0 M → rd M 120 96 = r164 → rd M 120 97 = r3 → rd M 120 98 = r11 → rd M 169 p161_4 = r176 → Tr l K 3 mX12_costOf 277 [(0, (2, 120)), (1, (0, a1)), (2, (0, a2)), (4, (0, p161_4))] [] M (q_X12_costOf_120 M0) := by
                intro M  hS  k277_120_96 k277_120_97 k277_120_98 k277_169_p161_410
                clear k161_120_97 k161_120_98 er164 er176
                refine Tr.iincV (pc := 277) (n2 := (p161_4 + 1)) (ls2 := [(4, (0, (p161_4 + 1))), (0, (2, 120)), (1, (0, a1)), (2, (0, a2))]) d_X12_costOf_277 rfl (by decide) ((w32_id (by and_intros <;> omega)).trans (by omega)) rfl ?_
                refine Tr.goto (pc := 280) (tgt := 161) d_X12_costOf_280 rfl ?_
                refine Tr.pick [1, 2, 3, 0] (ls2 := [(0, (2, 120)), (1, (0, a1)), (2, (0, a2)), (4, (0, (p161_4 + 1)))]) rfl ?_
                exact J161 _ _ hS (by and_intros <;> omega) k277_120_97 k277_120_98 (me_lt hm161 (by omega) (by omega))
              refine Tr.icmp_ne (pc := 178) (tgt := 277) d_X12_costOf_178 rfl (fun c178 => ?_) (fun c178 => ?_)
              · replace c178 := hd_i c178
                refine Tr.pick [0, 1, 2, 3] (ls2 := [(0, (2, 120)), (1, (0, a1)), (2, (0, a2)), (4, (0, p161_4))]) rfl ?_
                exact J277 _ hS er164 k161_120_97 k161_120_98 er176
              · refine Tr.aload_n (pc := 181) (i := 0) d_X12_costOf_181 rfl rfl ?_
                refine Tr.getf (pc := 182) d_X12_costOf_182 f_12_261 (by decide) (by decide) (ty_120 hS.1.1) ?_
                refine Tr.tp 171 (fx_120_82 hS.1.1) ?_
                refine Tr.iload (pc := 185) (i := 4) d_X12_costOf_185 rfl ?_
                refine Tr.iald (pc := 187) d_X12_costOf_187 (ty_171 hS.1.1) (by omega) (by omega) ?_
                refine Tr.gen (P := fun v => 0 ≤ v ∧ v ≤ 2060) (ar_171 hS.1.2.1 _) (fun r187 er187 br187 => ?_)
                refine Tr.aload_n (pc := 188) (i := 0) d_X12_costOf_188 rfl rfl ?_
                refine Tr.getf (pc := 189) d_X12_costOf_189 f_12_306 (by decide) (by decide) (ty_120 hS.1.1) ?_
                refine Tr.tp r3 k161_120_97 ?_
                refine Tr.icmp_lt (pc := 192) (tgt := 277) d_X12_costOf_192 rfl (fun c192 => ?_) (fun c192 => ?_)
                · refine Tr.pick [0, 1, 2, 3] (ls2 := [(0, (2, 120)), (1, (0, a1)), (2, (0, a2)), (4, (0, p161_4))]) rfl ?_
                  exact J277 _ hS er164 k161_120_97 k161_120_98 er176
                · refine Tr.aload_n (pc := 195) (i := 0) d_X12_costOf_195 rfl rfl ?_
                  refine Tr.getf (pc := 196) d_X12_costOf_196 f_12_261 (by decide) (by decide) (ty_120 hS.1.1) ?_
                  refine Tr.tp 171 (fx_120_82 hS.1.1) ?_
                  refine Tr.iload (pc := 199) (i := 4) d_X12_costOf_199 rfl ?_
                  refine Tr.iald (pc := 201) d_X12_costOf_201 (ty_171 hS.1.1) (by omega) (by omega) ?_
                  refine Tr.tp r187 er187 ?_
                  refine Tr.aload_n (pc := 202) (i := 0) d_X12_costOf_202 rfl rfl ?_
                  refine Tr.getf (pc := 203) d_X12_costOf_203 f_12_309 (by decide) (by decide) (ty_120 hS.1.1) ?_
                  refine Tr.tp r11 k161_120_98 ?_
                  refine Tr.icmp_ge (pc := 206) (tgt := 277) d_X12_costOf_206 rfl (fun c206 => ?_) (fun c206 => ?_)
                  · refine Tr.pick [0, 1, 2, 3] (ls2 := [(0, (2, 120)), (1, (0, a1)), (2, (0, a2)), (4, (0, p161_4))]) rfl ?_
                    exact J277 _ hS er164 k161_120_97 k161_120_98 er176
                  · refine Tr.aload_n (pc := 209) (i := 0) d_X12_costOf_209 rfl rfl ?_
                    refine Tr.aload_n (pc := 210) (i := 0) d_X12_costOf_210 rfl rfl ?_
                    refine Tr.getf (pc := 211) d_X12_costOf_211 f_12_258 (by decide) (by decide) (ty_120 hS.1.1) ?_
                    refine Tr.tp 170 (fx_120_81 hS.1.1) ?_
                    refine Tr.iload (pc := 214) (i := 4) d_X12_costOf_214 rfl ?_
                    refine Tr.iald (pc := 216) d_X12_costOf_216 (ty_170 hS.1.1) (by omega) (by omega) ?_
                    refine Tr.gen (P := fun v => (-1) ≤ v ∧ v ≤ 59) (ar_170 hS.1.2.1 _) (fun r216 er216 br216 => ?_)
                    refine Tr.iload_n (pc := 217) (i := 2) d_X12_costOf_217 rfl rfl ?_
                    refine Tr.callV (pc := 218) (as := [_, _]) d_X12_costOf_218 s_12_662 ok_X12_isAmong rfl rfl (Nat.le_of_ble_eq_true rfl) (Nat.le_of_ble_eq_true rfl) (by decide) (ty_120 hS.1.1) ?_
                    refine Tr.imp (Tr.deep (by decide) (sp_X12_isAmong_120 hS.1 r216 (by and_intros <;> omega) a2 (by and_intros <;> omega))) ?_
                    rintro M218 _ ⟨h218, r218, rfl, lr218, ur218⟩
                    have hS := St.tr hS h218 (by decide) (by decide)
                    refine Tr.sc [(0, r218)] rfl ?_
                    refine Tr.if_ne (pc := 221) (tgt := 227) d_X12_costOf_221 rfl (fun c221 => ?_) (fun c221 => ?_)
                    · have c221b : 1 ≤ r218 ∧ r218 ≤ 1 := by omega
                      replace c221 := hd_i c221
                      refine Tr.aload_n (pc := 227) (i := 0) d_X12_costOf_227 rfl rfl ?_
                      refine Tr.getf (pc := 228) d_X12_costOf_228 f_12_261 (by decide) (by decide) (ty_120 hS.1.1) ?_
                      refine Tr.tp 171 (fx_120_82 hS.1.1) ?_
                      refine Tr.iload (pc := 231) (i := 4) d_X12_costOf_231 rfl ?_
                      refine Tr.iald (pc := 233) d_X12_costOf_233 (ty_171 hS.1.1) (by omega) (by omega) ?_
                      refine Tr.tp r187 ((ka_X12_isAmong_120_171 h218 _).trans er187) ?_
                      refine Tr.istore (pc := 234) (i := 5) (ls2 := [(5, (0, r187)), (0, (2, 120)), (1, (0, a1)), (2, (0, a2)), (4, (0, p161_4))]) d_X12_costOf_234 (by decide) rfl ?_
                      have J236 : ∀ (n236 : Nat) (M : Mem) (p236_5 : Int), St Tru ws_X12_costOf_120 as_X12_costOf_120 M0 M → (0 ≤ p236_5 ∧ p236_5 ≤ 2100) → rd M 120 96 = r164 → rd M 120 97 = r3 → rd M 120 98 = r11 → rd M 169 p161_4 = r176 → rd M 170 p161_4 = r216 → rd M 171 p161_4 = r187 → (2100 - p236_5).toNat < n236 → Tr l K 3 mX12_costOf 236 [(0, (2, 120)), (1, (0, a1)), (2, (0, a2)), (4, (0, p161_4)), (5, (0, p236_5))] [] M (q_X12_costOf_120 M0) := by
                        intro n236
                        induction n236 with
                        | zero => intro M p236_5 hS bp236_5 k236_120_96 k236_120_97 k236_120_98 k236_169_p161_410 k236_170_p161_410 k236_171_p161_410 hm236; exact absurd hm236 (Nat.not_lt_zero _)
                        | succ n236 J236 =>
                          intro M p236_5 hS bp236_5 k236_120_96 k236_120_97 k236_120_98 k236_169_p161_410 k236_170_p161_410 k236_171_p161_410 hm236
                          clear k161_120_97 k161_120_98 er164 er176 er187 er216
                          refine Tr.iload (pc := 236) (i := 5) d_X12_costOf_236 rfl ?_
                          refine Tr.aload_n (pc := 238) (i := 0) d_X12_costOf_238 rfl rfl ?_
                          refine Tr.getf (pc := 239) d_X12_costOf_239 f_12_261 (by decide) (by decide) (ty_120 hS.1.1) ?_
                          refine Tr.tp 171 (fx_120_82 hS.1.1) ?_
                          refine Tr.iload (pc := 242) (i := 4) d_X12_costOf_242 rfl ?_
                          refine Tr.iald (pc := 244) d_X12_costOf_244 (ty_171 hS.1.1) (by omega) (by omega) ?_
                          refine Tr.tp r187 k236_171_p161_410 ?_
                          refine Tr.aload_n (pc := 245) (i := 0) d_X12_costOf_245 rfl rfl ?_
                          refine Tr.iload_n (pc := 246) (i := 1) d_X12_costOf_246 rfl rfl ?_
                          refine Tr.callV (pc := 247) (as := [_]) d_X12_costOf_247 s_12_591 ok_X12_tails rfl rfl (Nat.le_of_ble_eq_true rfl) (Nat.le_of_ble_eq_true rfl) (by decide) (ty_120 hS.1.1) ?_
                          obtain ⟨w247_126_0, ew247_126_0⟩ : ∃ v, rd M 126 0 = v := ⟨_, rfl⟩
                          have bw247_126_0 : 0 ≤ w247_126_0 ∧ w247_126_0 ≤ 6 := by rw [← ew247_126_0]; exact ir_126_0 hS.1.2.1
                          refine Tr.imp (Tr.deep (by decide) (ns_X12_tails_120 (G126_0 := w247_126_0) hS.1 (ew247_126_0) ((kp_X12_costOf_120_120_12 hS).trans en_120_12) a1 (by and_intros <;> omega) (Bk0.of hF_Bk0 (fun j => (ka_X12_costOf_120_131 hS _)) (fun j => (ka_X12_costOf_120_137 hS _)) (fun j => (ka_X12_costOf_120_138 hS _)) (fun j => (ka_X12_costOf_120_139 hS _)) (fun j => (ka_X12_costOf_120_140 hS _)) (fun j => (ka_X12_costOf_120_141 hS _)) (fun j => (ka_X12_costOf_120_142 hS _)) (fun j => (ka_X12_costOf_120_143 hS _)) (kp_X12_costOf_120_126_0 hS) (kp_X12_costOf_120_136_0 hS) (kp_X12_costOf_120_123_0 hS) (kp_X12_costOf_120_124_0 hS)))) ?_
                          rintro M247 _ ⟨h247, r247, rfl, lr247, ur247, z247_0⟩
                          have hS := St.tr hS h247 (by decide) (by decide)
                          refine Tr.sc [(0, r247), (0, r187), (0, p236_5)] rfl ?_
                          refine Tr.iadd (pc := 250) d_X12_costOf_250 ?_
                          refine Tr.gen (P := fun v => (-2147483648) ≤ v ∧ v ≤ 2147483647) (w32_b _) (fun r250 er250 br250 => ?_)
                          refine Tr.icmp_ge (pc := 251) (tgt := 277) d_X12_costOf_251 rfl (fun c251 => ?_) (fun c251 => ?_)
                          · refine Tr.pick [0, 1, 2, 3] (ls2 := [(0, (2, 120)), (1, (0, a1)), (2, (0, a2)), (4, (0, p161_4))]) rfl ?_
                            exact J277 _ hS ((kp_X12_tails_120_120_96 h247).trans k236_120_96) ((kp_X12_tails_120_120_97 h247).trans k236_120_97) ((kp_X12_tails_120_120_98 h247).trans k236_120_98) ((ka_X12_tails_120_169 h247 _).trans k236_169_p161_410)
                          · refine Tr.iload (pc := 254) (i := 5) d_X12_costOf_254 rfl ?_
                            refine Tr.aload_n (pc := 256) (i := 0) d_X12_costOf_256 rfl rfl ?_
                            refine Tr.getf (pc := 257) d_X12_costOf_257 f_12_309 (by decide) (by decide) (ty_120 hS.1.1) ?_
                            refine Tr.tp r11 ((kp_X12_tails_120_120_98 h247).trans k236_120_98) ?_
                            refine Tr.icmp_ge (pc := 260) (tgt := 277) d_X12_costOf_260 rfl (fun c260 => ?_) (fun c260 => ?_)
                            · refine Tr.pick [0, 1, 2, 3] (ls2 := [(0, (2, 120)), (1, (0, a1)), (2, (0, a2)), (4, (0, p161_4))]) rfl ?_
                              exact J277 _ hS ((kp_X12_tails_120_120_96 h247).trans k236_120_96) ((kp_X12_tails_120_120_97 h247).trans k236_120_97) ((kp_X12_tails_120_120_98 h247).trans k236_120_98) ((ka_X12_tails_120_169 h247 _).trans k236_169_p161_410)
                            · refine Tr.aload_n (pc := 263) (i := 0) d_X12_costOf_263 rfl rfl ?_
                              refine Tr.getf (pc := 264) d_X12_costOf_264 f_12_321 (by decide) (by decide) (ty_120 hS.1.1) ?_
                              refine Tr.tp 177 (fx_120_102 hS.1.1) ?_
                              refine Tr.iload (pc := 267) (i := 5) d_X12_costOf_267 rfl ?_
                              refine Tr.iconst (pc := 269) d_X12_costOf_269 (by decide) ?_
                              refine Tr.zastS (pc := 270) (P := St Tru ws_X12_costOf_120 as_X12_costOf_120 M0) d_X12_costOf_270 (ty_177 hS.1.1) (by omega) (by omega) (by omega) (sa_177 hS (by decide) (by omega) trivial) (fun M270 hS w270 => ?_)
                              refine Tr.iincV (pc := 271) (n2 := (p236_5 + 1)) (ls2 := [(5, (0, (p236_5 + 1))), (0, (2, 120)), (1, (0, a1)), (2, (0, a2)), (4, (0, p161_4))]) d_X12_costOf_271 rfl (by decide) ((w32_id (by and_intros <;> omega)).trans (by omega)) rfl ?_
                              refine Tr.goto (pc := 274) (tgt := 236) d_X12_costOf_274 rfl ?_
                              refine Tr.pick [1, 2, 3, 4, 0] (ls2 := [(0, (2, 120)), (1, (0, a1)), (2, (0, a2)), (4, (0, p161_4)), (5, (0, (p236_5 + 1)))]) rfl ?_
                              exact J236 _ _ hS (by and_intros <;> omega) ((Wr.b w270 rfl).trans ((kp_X12_tails_120_120_96 h247).trans k236_120_96)) ((Wr.b w270 rfl).trans ((kp_X12_tails_120_120_97 h247).trans k236_120_97)) ((Wr.b w270 rfl).trans ((kp_X12_tails_120_120_98 h247).trans k236_120_98)) ((Wr.b w270 rfl).trans ((ka_X12_tails_120_169 h247 _).trans k236_169_p161_410)) ((Wr.b w270 rfl).trans ((ka_X12_tails_120_170 h247 _).trans k236_170_p161_410)) ((Wr.b w270 rfl).trans ((ka_X12_tails_120_171 h247 _).trans k236_171_p161_410)) (me_lt hm236 (by omega) (by omega))
                      refine Tr.pick [1, 2, 3, 4, 0] (ls2 := [(0, (2, 120)), (1, (0, a1)), (2, (0, a2)), (4, (0, p161_4)), (5, (0, r187))]) rfl ?_
                      exact J236 _ _ _ hS (by and_intros <;> omega) ((kp_X12_isAmong_120_120_96 h218).trans er164) ((kp_X12_isAmong_120_120_97 h218).trans k161_120_97) ((kp_X12_isAmong_120_120_98 h218).trans k161_120_98) ((ka_X12_isAmong_120_169 h218 _).trans er176) ((ka_X12_isAmong_120_170 h218 _).trans er216) ((ka_X12_isAmong_120_171 h218 _).trans er187) (Nat.lt_succ_self _)
                    · refine Tr.goto (pc := 224) (tgt := 277) d_X12_costOf_224 rfl ?_
                      refine Tr.pick [0, 1, 2, 3] (ls2 := [(0, (2, 120)), (1, (0, a1)), (2, (0, a2)), (4, (0, p161_4))]) rfl ?_
                      exact J277 _ hS ((kp_X12_isAmong_120_120_96 h218).trans er164) ((kp_X12_isAmong_120_120_97 h218).trans k161_120_97) ((kp_X12_isAmong_120_120_98 h218).trans k161_120_98) ((ka_X12_isAmong_120_169 h218 _).trans er176)
        refine Tr.pick [1, 2, 3, 0] (ls2 := [(0, (2, 120)), (1, (0, a1)), (2, (0, a2)), (4, (0, 0))]) rfl ?_
        exact J161 _ _ _ hS (by omega) k8_120_97 er11 (Nat.lt_succ_self _)
      · refine Tr.aload_n (pc := 17) (i := 0) d_X12_costOf_17 rfl rfl ?_
        refine Tr.iload_n (pc := 18) (i := 1) d_X12_costOf_18 rfl rfl ?_
        refine Tr.iload (pc := 19) (i := 4) d_X12_costOf_19 rfl ?_
        refine Tr.callV (pc := 21) (as := [_, _]) d_X12_costOf_21 s_12_641 ok_X12_stateAt rfl rfl (Nat.le_of_ble_eq_true rfl) (Nat.le_of_ble_eq_true rfl) (by decide) (ty_120 hS.1.1) ?_
        refine Tr.imp (Tr.deep (by decide) (ns_X12_stateAt_120 hS.1 a1 (by and_intros <;> omega) p8_4 (by and_intros <;> omega))) ?_
        rintro M21 _ ⟨h21, r21, rfl, lr21, ur21, z21_0⟩
        have hS := St.tr hS h21 (by decide) (by decide)
        refine Tr.sc [(0, r21)] rfl ?_
        have qs21 : rd M 163 (2100 * a1 + p8_4) = r21 := (congrArg (rd M 163) (by omega)).trans z21_0.symm
        refine Tr.iconst (pc := 24) d_X12_costOf_24 (by decide) ?_
        have J92 : ∀ (M : Mem) (q92_0 : Int), St Tru ws_X12_costOf_120 as_X12_costOf_120 M0 M → (0 ≤ q92_0 ∧ q92_0 ≤ 1) → rd M 120 97 = r3 → rd M 120 98 = r11 → rd M 163 (2100 * a1 + p8_4) = r21 → Tr l K 3 mX12_costOf 92 [(0, (2, 120)), (1, (0, a1)), (2, (0, a2)), (3, (0, p8_3)), (4, (0, p8_4))] [(0, q92_0)] M (q_X12_costOf_120 M0) := by
          intro M q92_0 hS bq92_0 k92_120_97 k92_120_98 k92_163_a12100p8_410
          clear k8_120_97 er11
          refine Tr.istore (pc := 92) (i := 5) (ls2 := [(5, (0, q92_0)), (0, (2, 120)), (1, (0, a1)), (2, (0, a2)), (3, (0, p8_3)), (4, (0, p8_4))]) d_X12_costOf_92 (by decide) rfl ?_
          refine Tr.iload_n (pc := 94) (i := 3) d_X12_costOf_94 rfl rfl ?_
          have J103 : ∀ (M : Mem) (q103_0 : Int), St Tru ws_X12_costOf_120 as_X12_costOf_120 M0 M → (0 ≤ q103_0 ∧ q103_0 ≤ 1) → rd M 120 97 = r3 → rd M 120 98 = r11 → rd M 163 (2100 * a1 + p8_4) = r21 → Tr l K 3 mX12_costOf 103 [(0, (2, 120)), (1, (0, a1)), (2, (0, a2)), (3, (0, p8_3)), (4, (0, p8_4)), (5, (0, q92_0))] [(0, q103_0)] M (q_X12_costOf_120 M0) := by
            intro M q103_0 hS bq103_0 k103_120_97 k103_120_98 k103_163_a12100p8_410
            clear k92_120_97 k92_120_98 k92_163_a12100p8_410
            refine Tr.istore (pc := 103) (i := 6) (ls2 := [(6, (0, q103_0)), (0, (2, 120)), (1, (0, a1)), (2, (0, a2)), (3, (0, p8_3)), (4, (0, p8_4)), (5, (0, q92_0))]) d_X12_costOf_103 (by decide) rfl ?_
            refine Tr.iload (pc := 105) (i := 5) d_X12_costOf_105 rfl ?_
            have J129 : ∀ (M : Mem) (q129_0 : Int), St Tru ws_X12_costOf_120 as_X12_costOf_120 M0 M → ((-2147483648) ≤ q129_0 ∧ q129_0 ≤ 2147483647) → rd M 120 97 = r3 → rd M 120 98 = r11 → rd M 163 (2100 * a1 + p8_4) = r21 → Tr l K 3 mX12_costOf 129 [(0, (2, 120)), (1, (0, a1)), (2, (0, a2)), (4, (0, p8_4)), (5, (0, q92_0)), (6, (0, q103_0))] [(0, q129_0)] M (q_X12_costOf_120 M0) := by
              intro M q129_0 hS bq129_0 k129_120_97 k129_120_98 k129_163_a12100p8_410
              clear k103_120_97 k103_120_98 k103_163_a12100p8_410
              refine Tr.istore_n (pc := 129) (i := 3) (ls2 := [(3, (0, q129_0)), (0, (2, 120)), (1, (0, a1)), (2, (0, a2)), (4, (0, p8_4)), (5, (0, q92_0)), (6, (0, q103_0))]) d_X12_costOf_129 rfl (by decide) rfl ?_
              refine Tr.aload_n (pc := 130) (i := 0) d_X12_costOf_130 rfl rfl ?_
              refine Tr.getf (pc := 131) d_X12_costOf_131 f_12_321 (by decide) (by decide) (ty_120 hS.1.1) ?_
              refine Tr.tp 177 (fx_120_102 hS.1.1) ?_
              refine Tr.iload (pc := 134) (i := 4) d_X12_costOf_134 rfl ?_
              refine Tr.iload (pc := 136) (i := 5) d_X12_costOf_136 rfl ?_
              have J151 : ∀ (M : Mem) (q151_2 : Int), St Tru ws_X12_costOf_120 as_X12_costOf_120 M0 M → (0 ≤ q151_2 ∧ q151_2 ≤ 1) → rd M 120 97 = r3 → rd M 120 98 = r11 → rd M 163 (2100 * a1 + p8_4) = r21 → Tr l K 3 mX12_costOf 151 [(0, (2, 120)), (1, (0, a1)), (2, (0, a2)), (3, (0, q129_0)), (4, (0, p8_4))] [(0, q151_2), (0, p8_4), (2, 177)] M (q_X12_costOf_120 M0) := by
                intro M q151_2 hS bq151_2 k151_120_97 k151_120_98 k151_163_a12100p8_410
                clear k129_120_97 k129_120_98 k129_163_a12100p8_410
                refine Tr.zastS (pc := 151) (P := St Tru ws_X12_costOf_120 as_X12_costOf_120 M0) d_X12_costOf_151 (ty_177 hS.1.1) (by omega) (by omega) (by omega) (sa_177 hS (by decide) (by and_intros <;> omega) trivial) (fun M151 hS w151 => ?_)
                refine Tr.iincV (pc := 152) (n2 := (p8_4 + 1)) (ls2 := [(4, (0, (p8_4 + 1))), (0, (2, 120)), (1, (0, a1)), (2, (0, a2)), (3, (0, q129_0))]) d_X12_costOf_152 rfl (by decide) ((w32_id (by and_intros <;> omega)).trans (by omega)) rfl ?_
                refine Tr.goto (pc := 155) (tgt := 8) d_X12_costOf_155 rfl ?_
                refine Tr.pick [1, 2, 3, 4, 0] (ls2 := [(0, (2, 120)), (1, (0, a1)), (2, (0, a2)), (3, (0, q129_0)), (4, (0, (p8_4 + 1)))]) rfl ?_
                exact J8 _ _ _ hS (by and_intros <;> omega) (by and_intros <;> omega) ((Wr.b w151 rfl).trans k151_120_97) (me_lt hm8 (by omega) (by omega))
              have J146 : ∀ (M : Mem), St Tru ws_X12_costOf_120 as_X12_costOf_120 M0 M → rd M 120 97 = r3 → rd M 120 98 = r11 → rd M 163 (2100 * a1 + p8_4) = r21 → Tr l K 3 mX12_costOf 146 [(0, (2, 120)), (1, (0, a1)), (2, (0, a2)), (3, (0, q129_0)), (4, (0, p8_4))] [(0, p8_4), (2, 177)] M (q_X12_costOf_120 M0) := by
                intro M  hS  k146_120_97 k146_120_98 k146_163_a12100p8_410
                clear k129_120_97 k129_120_98 k129_163_a12100p8_410
                refine Tr.iconst (pc := 146) d_X12_costOf_146 (by decide) ?_
                refine Tr.goto (pc := 147) (tgt := 151) d_X12_costOf_147 rfl ?_
                refine Tr.pick [0, 1, 2, 3, 4] (ls2 := [(0, (2, 120)), (1, (0, a1)), (2, (0, a2)), (3, (0, q129_0)), (4, (0, p8_4))]) rfl ?_
                exact J151 _ _ hS (by omega) k146_120_97 k146_120_98 k146_163_a12100p8_410
              refine Tr.if_ne (pc := 138) (tgt := 146) d_X12_costOf_138 rfl (fun c138 => ?_) (fun c138 => ?_)
              · have c138b : 1 ≤ q92_0 ∧ q92_0 ≤ 1 := by omega
                replace c138 := hd_i c138
                refine Tr.pick [1, 2, 3, 0, 4] (ls2 := [(0, (2, 120)), (1, (0, a1)), (2, (0, a2)), (3, (0, q129_0)), (4, (0, p8_4))]) rfl ?_
                exact J146 _ hS k129_120_97 k129_120_98 k129_163_a12100p8_410
              · refine Tr.iload (pc := 141) (i := 6) d_X12_costOf_141 rfl ?_
                refine Tr.if_eq (pc := 143) (tgt := 150) d_X12_costOf_143 rfl (fun c143 => ?_) (fun c143 => ?_)
                · refine Tr.iconst (pc := 150) d_X12_costOf_150 (by decide) ?_
                  refine Tr.pick [1, 2, 3, 0, 4] (ls2 := [(0, (2, 120)), (1, (0, a1)), (2, (0, a2)), (3, (0, q129_0)), (4, (0, p8_4))]) rfl ?_
                  exact J151 _ _ hS (by omega) k129_120_97 k129_120_98 k129_163_a12100p8_410
                · have c143b : 1 ≤ q103_0 ∧ q103_0 ≤ 1 := by omega
                  replace c143 := hd_i c143
                  refine Tr.pick [1, 2, 3, 0, 4] (ls2 := [(0, (2, 120)), (1, (0, a1)), (2, (0, a2)), (3, (0, q129_0)), (4, (0, p8_4))]) rfl ?_
                  exact J146 _ hS k129_120_97 k129_120_98 k129_163_a12100p8_410
            refine Tr.if_eq (pc := 107) (tgt := 118) d_X12_costOf_107 rfl (fun c107 => ?_) (fun c107 => ?_)
            · refine Tr.iload_n (pc := 118) (i := 3) d_X12_costOf_118 rfl rfl ?_
              refine Tr.if_le (pc := 119) (tgt := 128) d_X12_costOf_119 rfl (fun c119 => ?_) (fun c119 => ?_)
              · refine Tr.iconst (pc := 128) d_X12_costOf_128 (by decide) ?_
                refine Tr.pick [1, 2, 3, 5, 6, 0] (ls2 := [(0, (2, 120)), (1, (0, a1)), (2, (0, a2)), (4, (0, p8_4)), (5, (0, q92_0)), (6, (0, q103_0))]) rfl ?_
                exact J129 _ _ hS (by omega) k103_120_97 k103_120_98 k103_163_a12100p8_410
              · refine Tr.iload_n (pc := 122) (i := 3) d_X12_costOf_122 rfl rfl ?_
                refine Tr.iconst (pc := 123) d_X12_costOf_123 (by decide) ?_
                refine Tr.isub (pc := 124) d_X12_costOf_124 ?_
                refine Tr.tp (p8_3 - 1) ((w32_id (by and_intros <;> omega)).trans (by omega)) ?_
                refine Tr.goto (pc := 125) (tgt := 129) d_X12_costOf_125 rfl ?_
                refine Tr.pick [1, 2, 3, 5, 6, 0] (ls2 := [(0, (2, 120)), (1, (0, a1)), (2, (0, a2)), (4, (0, p8_4)), (5, (0, q92_0)), (6, (0, q103_0))]) rfl ?_
                exact J129 _ _ hS (by and_intros <;> omega) k103_120_97 k103_120_98 k103_163_a12100p8_410
            · have c107b : 1 ≤ q92_0 ∧ q92_0 ≤ 1 := by omega
              replace c107 := hd_i c107
              refine Tr.aload_n (pc := 110) (i := 0) d_X12_costOf_110 rfl rfl ?_
              refine Tr.iload_n (pc := 111) (i := 1) d_X12_costOf_111 rfl rfl ?_
              refine Tr.callV (pc := 112) (as := [_]) d_X12_costOf_112 s_12_591 ok_X12_tails rfl rfl (Nat.le_of_ble_eq_true rfl) (Nat.le_of_ble_eq_true rfl) (by decide) (ty_120 hS.1.1) ?_
              obtain ⟨w112_126_0, ew112_126_0⟩ : ∃ v, rd M 126 0 = v := ⟨_, rfl⟩
              have bw112_126_0 : 0 ≤ w112_126_0 ∧ w112_126_0 ≤ 6 := by rw [← ew112_126_0]; exact ir_126_0 hS.1.2.1
              refine Tr.imp (Tr.deep (by decide) (ns_X12_tails_120 (G126_0 := w112_126_0) hS.1 (ew112_126_0) ((kp_X12_costOf_120_120_12 hS).trans en_120_12) a1 (by and_intros <;> omega) (Bk0.of hF_Bk0 (fun j => (ka_X12_costOf_120_131 hS _)) (fun j => (ka_X12_costOf_120_137 hS _)) (fun j => (ka_X12_costOf_120_138 hS _)) (fun j => (ka_X12_costOf_120_139 hS _)) (fun j => (ka_X12_costOf_120_140 hS _)) (fun j => (ka_X12_costOf_120_141 hS _)) (fun j => (ka_X12_costOf_120_142 hS _)) (fun j => (ka_X12_costOf_120_143 hS _)) (kp_X12_costOf_120_126_0 hS) (kp_X12_costOf_120_136_0 hS) (kp_X12_costOf_120_123_0 hS) (kp_X12_costOf_120_124_0 hS)))) ?_
              rintro M112 _ ⟨h112, r112, rfl, lr112, ur112, z112_0⟩
              have hS := St.tr hS h112 (by decide) (by decide)
              refine Tr.sc [(0, r112)] rfl ?_
              refine Tr.goto (pc := 115) (tgt := 129) d_X12_costOf_115 rfl ?_
              refine Tr.pick [1, 2, 3, 5, 6, 0] (ls2 := [(0, (2, 120)), (1, (0, a1)), (2, (0, a2)), (4, (0, p8_4)), (5, (0, q92_0)), (6, (0, q103_0))]) rfl ?_
              exact J129 _ _ hS (by and_intros <;> omega) ((kp_X12_tails_120_120_97 h112).trans k103_120_97) ((kp_X12_tails_120_120_98 h112).trans k103_120_98) ((ka_X12_tails_120_163 h112 _).trans k103_163_a12100p8_410)
          refine Tr.if_le (pc := 95) (tgt := 102) d_X12_costOf_95 rfl (fun c95 => ?_) (fun c95 => ?_)
          · refine Tr.iconst (pc := 102) d_X12_costOf_102 (by decide) ?_
            refine Tr.pick [1, 2, 3, 4, 5, 0] (ls2 := [(0, (2, 120)), (1, (0, a1)), (2, (0, a2)), (3, (0, p8_3)), (4, (0, p8_4)), (5, (0, q92_0))]) rfl ?_
            exact J103 _ _ hS (by omega) k92_120_97 k92_120_98 k92_163_a12100p8_410
          · refine Tr.iconst (pc := 98) d_X12_costOf_98 (by decide) ?_
            refine Tr.goto (pc := 99) (tgt := 103) d_X12_costOf_99 rfl ?_
            refine Tr.pick [1, 2, 3, 4, 5, 0] (ls2 := [(0, (2, 120)), (1, (0, a1)), (2, (0, a2)), (3, (0, p8_3)), (4, (0, p8_4)), (5, (0, q92_0))]) rfl ?_
            exact J103 _ _ hS (by omega) k92_120_97 k92_120_98 k92_163_a12100p8_410
        have J87 : ∀ (M : Mem), St Tru ws_X12_costOf_120 as_X12_costOf_120 M0 M → rd M 120 97 = r3 → rd M 120 98 = r11 → rd M 163 (2100 * a1 + p8_4) = r21 → Tr l K 3 mX12_costOf 87 [(0, (2, 120)), (1, (0, a1)), (2, (0, a2)), (3, (0, p8_3)), (4, (0, p8_4))] [] M (q_X12_costOf_120 M0) := by
          intro M  hS  k87_120_97 k87_120_98 k87_163_a12100p8_410
          clear k8_120_97 er11
          refine Tr.iconst (pc := 87) d_X12_costOf_87 (by decide) ?_
          refine Tr.goto (pc := 88) (tgt := 92) d_X12_costOf_88 rfl ?_
          refine Tr.pick [0, 1, 2, 3, 4] (ls2 := [(0, (2, 120)), (1, (0, a1)), (2, (0, a2)), (3, (0, p8_3)), (4, (0, p8_4))]) rfl ?_
          exact J92 _ _ hS (by omega) k87_120_97 k87_120_98 k87_163_a12100p8_410
        have J49 : ∀ (M : Mem), St Tru ws_X12_costOf_120 as_X12_costOf_120 M0 M → rd M 120 97 = r3 → rd M 120 98 = r11 → rd M 163 (2100 * a1 + p8_4) = r21 → Tr l K 3 mX12_costOf 49 [(0, (2, 120)), (1, (0, a1)), (2, (0, a2)), (3, (0, p8_3)), (4, (0, p8_4))] [] M (q_X12_costOf_120 M0) := by
          intro M  hS  k49_120_97 k49_120_98 k49_163_a12100p8_410
          clear k8_120_97 er11
          refine Tr.aload_n (pc := 49) (i := 0) d_X12_costOf_49 rfl rfl ?_
          refine Tr.getf (pc := 50) d_X12_costOf_50 f_12_237 (by decide) (by decide) (ty_120 hS.1.1) ?_
          refine Tr.tp 165 (fx_120_74 hS.1.1) ?_
          refine Tr.sipush (pc := 53) d_X12_costOf_53 rfl (by decide) ?_
          refine Tr.iload_n (pc := 56) (i := 1) d_X12_costOf_56 rfl rfl ?_
          refine Tr.imul (pc := 57) d_X12_costOf_57 ?_
          refine Tr.tp (2100 * a1) ((w32_id (by and_intros <;> omega)).trans (by omega)) ?_
          refine Tr.iload (pc := 58) (i := 4) d_X12_costOf_58 rfl ?_
          refine Tr.iadd (pc := 60) d_X12_costOf_60 ?_
          refine Tr.tp (2100 * a1 + p8_4) ((w32_id (by and_intros <;> omega)).trans (by omega)) ?_
          refine Tr.iald (pc := 61) d_X12_costOf_61 (ty_165 hS.1.1) (by omega) (by omega) ?_
          refine Tr.gen (P := fun v => (-1) ≤ v ∧ v ≤ 59) (ar_165 hS.1.2.1 _) (fun r61 er61 br61 => ?_)
          refine Tr.iconst (pc := 62) d_X12_costOf_62 (by decide) ?_
          have J91 : ∀ (M : Mem), St Tru ws_X12_costOf_120 as_X12_costOf_120 M0 M → rd M 120 97 = r3 → rd M 120 98 = r11 → rd M 163 (2100 * a1 + p8_4) = r21 → rd M 165 (2100 * a1 + p8_4) = r61 → Tr l K 3 mX12_costOf 91 [(0, (2, 120)), (1, (0, a1)), (2, (0, a2)), (3, (0, p8_3)), (4, (0, p8_4))] [] M (q_X12_costOf_120 M0) := by
            intro M  hS  k91_120_97 k91_120_98 k91_163_a12100p8_410 k91_165_a12100p8_410
            clear k49_120_97 k49_120_98 k49_163_a12100p8_410 er61
            refine Tr.iconst (pc := 91) d_X12_costOf_91 (by decide) ?_
            refine Tr.pick [0, 1, 2, 3, 4] (ls2 := [(0, (2, 120)), (1, (0, a1)), (2, (0, a2)), (3, (0, p8_3)), (4, (0, p8_4))]) rfl ?_
            exact J92 _ _ hS (by omega) k91_120_97 k91_120_98 k91_163_a12100p8_410
          refine Tr.icmp_eq (pc := 63) (tgt := 91) d_X12_costOf_63 rfl (fun c63 => ?_) (fun c63 => ?_)
          · refine Tr.pick [0, 1, 2, 3, 4] (ls2 := [(0, (2, 120)), (1, (0, a1)), (2, (0, a2)), (3, (0, p8_3)), (4, (0, p8_4))]) rfl ?_
            exact J91 _ hS k49_120_97 k49_120_98 k49_163_a12100p8_410 er61
          · have c63b : 0 ≤ r61 ∧ r61 ≤ 59 := by omega
            replace c63 := hd_i c63
            refine Tr.aload_n (pc := 66) (i := 0) d_X12_costOf_66 rfl rfl ?_
            refine Tr.aload_n (pc := 67) (i := 0) d_X12_costOf_67 rfl rfl ?_
            refine Tr.getf (pc := 68) d_X12_costOf_68 f_12_237 (by decide) (by decide) (ty_120 hS.1.1) ?_
            refine Tr.tp 165 (fx_120_74 hS.1.1) ?_
            refine Tr.sipush (pc := 71) d_X12_costOf_71 rfl (by decide) ?_
            refine Tr.iload_n (pc := 74) (i := 1) d_X12_costOf_74 rfl rfl ?_
            refine Tr.imul (pc := 75) d_X12_costOf_75 ?_
            refine Tr.tp (2100 * a1) ((w32_id (by and_intros <;> omega)).trans (by omega)) ?_
            refine Tr.iload (pc := 76) (i := 4) d_X12_costOf_76 rfl ?_
            refine Tr.iadd (pc := 78) d_X12_costOf_78 ?_
            refine Tr.tp (2100 * a1 + p8_4) ((w32_id (by and_intros <;> omega)).trans (by omega)) ?_
            refine Tr.iald (pc := 79) d_X12_costOf_79 (ty_165 hS.1.1) (by omega) (by omega) ?_
            refine Tr.tp r61 er61 ?_
            refine Tr.iload_n (pc := 80) (i := 2) d_X12_costOf_80 rfl rfl ?_
            refine Tr.callV (pc := 81) (as := [_, _]) d_X12_costOf_81 s_12_662 ok_X12_isAmong rfl rfl (Nat.le_of_ble_eq_true rfl) (Nat.le_of_ble_eq_true rfl) (by decide) (ty_120 hS.1.1) ?_
            refine Tr.imp (Tr.deep (by decide) (sp_X12_isAmong_120 hS.1 r61 (by and_intros <;> omega) a2 (by and_intros <;> omega))) ?_
            rintro M81 _ ⟨h81, r81, rfl, lr81, ur81⟩
            have hS := St.tr hS h81 (by decide) (by decide)
            refine Tr.sc [(0, r81)] rfl ?_
            refine Tr.if_eq (pc := 84) (tgt := 91) d_X12_costOf_84 rfl (fun c84 => ?_) (fun c84 => ?_)
            · refine Tr.pick [0, 1, 2, 3, 4] (ls2 := [(0, (2, 120)), (1, (0, a1)), (2, (0, a2)), (3, (0, p8_3)), (4, (0, p8_4))]) rfl ?_
              exact J91 _ hS ((kp_X12_isAmong_120_120_97 h81).trans k49_120_97) ((kp_X12_isAmong_120_120_98 h81).trans k49_120_98) ((ka_X12_isAmong_120_163 h81 _).trans k49_163_a12100p8_410) ((ka_X12_isAmong_120_165 h81 _).trans er61)
            · have c84b : 1 ≤ r81 ∧ r81 ≤ 1 := by omega
              replace c84 := hd_i c84
              refine Tr.pick [0, 1, 2, 3, 4] (ls2 := [(0, (2, 120)), (1, (0, a1)), (2, (0, a2)), (3, (0, p8_3)), (4, (0, p8_4))]) rfl ?_
              exact J87 _ hS ((kp_X12_isAmong_120_120_97 h81).trans k49_120_97) ((kp_X12_isAmong_120_120_98 h81).trans k49_120_98) ((ka_X12_isAmong_120_163 h81 _).trans k49_163_a12100p8_410)
        refine Tr.icmp_ne (pc := 25) (tgt := 49) d_X12_costOf_25 rfl (fun c25 => ?_) (fun c25 => ?_)
        · have c25b : 0 ≤ r21 ∧ r21 ≤ 2 := by omega
          replace c25 := hd_i c25
          refine Tr.pick [0, 1, 2, 3, 4] (ls2 := [(0, (2, 120)), (1, (0, a1)), (2, (0, a2)), (3, (0, p8_3)), (4, (0, p8_4))]) rfl ?_
          exact J49 _ hS ((kp_X12_stateAt_120_120_97 h21).trans k8_120_97) ((kp_X12_stateAt_120_120_98 h21).trans er11) ((ka_X12_stateAt_120_163 h21 _).trans qs21)
        · refine Tr.aload_n (pc := 28) (i := 0) d_X12_costOf_28 rfl rfl ?_
          refine Tr.aload_n (pc := 29) (i := 0) d_X12_costOf_29 rfl rfl ?_
          refine Tr.getf (pc := 30) d_X12_costOf_30 f_12_234 (by decide) (by decide) (ty_120 hS.1.1) ?_
          refine Tr.tp 164 (fx_120_73 hS.1.1) ?_
          refine Tr.sipush (pc := 33) d_X12_costOf_33 rfl (by decide) ?_
          refine Tr.iload_n (pc := 36) (i := 1) d_X12_costOf_36 rfl rfl ?_
          refine Tr.imul (pc := 37) d_X12_costOf_37 ?_
          refine Tr.tp (2100 * a1) ((w32_id (by and_intros <;> omega)).trans (by omega)) ?_
          refine Tr.iload (pc := 38) (i := 4) d_X12_costOf_38 rfl ?_
          refine Tr.iadd (pc := 40) d_X12_costOf_40 ?_
          refine Tr.tp (2100 * a1 + p8_4) ((w32_id (by and_intros <;> omega)).trans (by omega)) ?_
          refine Tr.iald (pc := 41) d_X12_costOf_41 (ty_164 hS.1.1) (by omega) (by omega) ?_
          refine Tr.gen (P := fun v => (-1) ≤ v ∧ v ≤ 59) (ar_164 hS.1.2.1 _) (fun r41 er41 br41 => ?_)
          refine Tr.iload_n (pc := 42) (i := 2) d_X12_costOf_42 rfl rfl ?_
          refine Tr.callV (pc := 43) (as := [_, _]) d_X12_costOf_43 s_12_662 ok_X12_isAmong rfl rfl (Nat.le_of_ble_eq_true rfl) (Nat.le_of_ble_eq_true rfl) (by decide) (ty_120 hS.1.1) ?_
          refine Tr.imp (Tr.deep (by decide) (sp_X12_isAmong_120 hS.1 r41 (by and_intros <;> omega) a2 (by and_intros <;> omega))) ?_
          rintro M43 _ ⟨h43, r43, rfl, lr43, ur43⟩
          have hS := St.tr hS h43 (by decide) (by decide)
          refine Tr.sc [(0, r43)] rfl ?_
          refine Tr.if_ne (pc := 46) (tgt := 87) d_X12_costOf_46 rfl (fun c46 => ?_) (fun c46 => ?_)
          · have c46b : 1 ≤ r43 ∧ r43 ≤ 1 := by omega
            replace c46 := hd_i c46
            refine Tr.pick [0, 1, 2, 3, 4] (ls2 := [(0, (2, 120)), (1, (0, a1)), (2, (0, a2)), (3, (0, p8_3)), (4, (0, p8_4))]) rfl ?_
            exact J87 _ hS ((kp_X12_isAmong_120_120_97 h43).trans ((kp_X12_stateAt_120_120_97 h21).trans k8_120_97)) ((kp_X12_isAmong_120_120_98 h43).trans ((kp_X12_stateAt_120_120_98 h21).trans er11)) ((ka_X12_isAmong_120_163 h43 _).trans ((ka_X12_stateAt_120_163 h21 _).trans qs21))
          · refine Tr.pick [0, 1, 2, 3, 4] (ls2 := [(0, (2, 120)), (1, (0, a1)), (2, (0, a2)), (3, (0, p8_3)), (4, (0, p8_4))]) rfl ?_
            exact J49 _ hS ((kp_X12_isAmong_120_120_97 h43).trans ((kp_X12_stateAt_120_120_97 h21).trans k8_120_97)) ((kp_X12_isAmong_120_120_98 h43).trans ((kp_X12_stateAt_120_120_98 h21).trans er11)) ((ka_X12_isAmong_120_163 h43 _).trans ((ka_X12_stateAt_120_163 h21 _).trans qs21))
  refine Tr.pick [2, 3, 4, 1, 0] (ls2 := [(0, (2, 120)), (1, (0, a1)), (2, (0, a2)), (3, (0, 0)), (4, (0, r3))]) rfl ?_
  exact J8 _ _ _ _ hS (by omega) (by and_intros <;> omega) er3 (Nat.lt_succ_self _)

def ws_X12_orders : List (Int × Int) := []
def as_X12_orders : List Int := []
def q_X12_orders (a0 : Int) (M0 M' : Mem) (r : Option PV) : Prop := St Tru ws_X12_orders as_X12_orders M0 M' ∧ ∃ v : Int, r = some (1, v) ∧ (-9223372036854775808) ≤ v ∧ v ≤ 9223372036854775807 ∧ (8 < a0 ∨ 1 ≤ v)
set_option maxRecDepth 100000 in
set_option maxHeartbeats 4000000 in
theorem sp_X12_orders {l : Launch} {K : EC} {M0 : Mem} (hI : In Tru M0)  (a0 : Int) (ha0 : (-100) ≤ a0 ∧ a0 ≤ 64)  : Tr l K 0 mX12_orders 0 [(0, (0, a0))] [] M0 (q_X12_orders a0 M0) := by
  have hS : St Tru ws_X12_orders as_X12_orders M0 M0 := St.rf hI
  refine Tr.lconst (pc := 0) (v := 1) d_X12_orders_0 rfl (by decide) ?_
  refine Tr.lstore_n (pc := 1) (i := 1) (ls2 := [(1, (1, 1)), (0, (0, a0))]) d_X12_orders_1 rfl (by decide) rfl ?_
  refine Tr.iconst (pc := 2) d_X12_orders_2 (by decide) ?_
  refine Tr.istore_n (pc := 3) (i := 3) (ls2 := [(3, (0, 2)), (1, (1, 1)), (0, (0, a0))]) d_X12_orders_3 rfl (by decide) rfl ?_
  have J4 : ∀ (n4 : Nat) (M : Mem) (p4_1 p4_3 : Int), St Tru ws_X12_orders as_X12_orders M0 M → ((-9223372036854775808) ≤ p4_1 ∧ p4_1 ≤ 9223372036854775807) → (2 ≤ p4_3 ∧ p4_3 ≤ 65) → ((p4_3 = 2 ∧ p4_1 = 1) ∨ (p4_3 = 3 ∧ p4_1 = 2) ∨ (p4_3 = 4 ∧ p4_1 = 6) ∨ (p4_3 = 5 ∧ p4_1 = 24) ∨ (p4_3 = 6 ∧ p4_1 = 120) ∨ (p4_3 = 7 ∧ p4_1 = 720) ∨ (p4_3 = 8 ∧ p4_1 = 5040) ∨ (p4_3 = 9 ∧ p4_1 = 40320) ∨ 9 < p4_3) → (p4_3 = 2 ∨ p4_3 ≤ a0 + 1) → (65 - p4_3).toNat < n4 → Tr l K 0 mX12_orders 4 [(0, (0, a0)), (1, (1, p4_1)), (3, (0, p4_3))] [] M (q_X12_orders a0 M0) := by
    intro n4
    induction n4 with
    | zero => intro M p4_1 p4_3 hS bp4_1 bp4_3  t4_0 t4_1 hm4; exact absurd hm4 (Nat.not_lt_zero _)
    | succ n4 J4 =>
      intro M p4_1 p4_3 hS bp4_1 bp4_3  t4_0 t4_1 hm4
      refine Tr.iload_n (pc := 4) (i := 3) d_X12_orders_4 rfl rfl ?_
      refine Tr.iload_n (pc := 5) (i := 0) d_X12_orders_5 rfl rfl ?_
      refine Tr.icmp_gt (pc := 6) (tgt := 20) d_X12_orders_6 rfl (fun c6 => ?_) (fun c6 => ?_)
      · refine Tr.lload_n (pc := 20) (i := 1) d_X12_orders_20 rfl rfl ?_
        exact Tr.lret (pc := 21) d_X12_orders_21 rfl ⟨hS, _, rfl, by omega, by omega, by omega⟩
      · refine Tr.lload_n (pc := 9) (i := 1) d_X12_orders_9 rfl rfl ?_
        refine Tr.iload_n (pc := 10) (i := 3) d_X12_orders_10 rfl rfl ?_
        refine Tr.i2l (pc := 11) d_X12_orders_11 ?_
        refine Tr.lmul (pc := 12) d_X12_orders_12 ?_
        refine Tr.gen (P := fun v => ((-9223372036854775808) ≤ v ∧ v ≤ 9223372036854775807) ∧ ((p4_3 = 2 ∧ v = 2) ∨ (p4_3 = 3 ∧ v = 6) ∨ (p4_3 = 4 ∧ v = 24) ∨ (p4_3 = 5 ∧ v = 120) ∨ (p4_3 = 6 ∧ v = 720) ∨ (p4_3 = 7 ∧ v = 5040) ∨ (p4_3 = 8 ∧ v = 40320) ∨ 8 < p4_3)) (orders_mul t4_0) (fun r12 er12 br12 => ?_)
        refine Tr.lstore_n (pc := 13) (i := 1) (ls2 := [(1, (1, r12)), (0, (0, a0)), (3, (0, p4_3))]) d_X12_orders_13 rfl (by decide) rfl ?_
        refine Tr.iincV (pc := 14) (n2 := (p4_3 + 1)) (ls2 := [(3, (0, (p4_3 + 1))), (1, (1, r12)), (0, (0, a0))]) d_X12_orders_14 rfl (by decide) ((w32_id (by omega)).trans (by omega)) rfl ?_
        refine Tr.goto (pc := 17) (tgt := 4) d_X12_orders_17 rfl ?_
        refine Tr.pick [2, 1, 0] (ls2 := [(0, (0, a0)), (1, (1, r12)), (3, (0, (p4_3 + 1)))]) rfl ?_
        exact J4 _ _ _ hS (by omega) (by omega) (by first | assumption | omega) (by first | assumption | omega) (by omega)
  refine Tr.pick [2, 1, 0] (ls2 := [(0, (0, a0)), (1, (1, 1)), (3, (0, 2))]) rfl ?_
  exact J4 _ _ _ _ hS (by omega) (by omega) (by first | assumption | omega) (by first | assumption | omega) (Nat.lt_succ_self _)

def ws_X12_common : List (Int × Int) := []
def as_X12_common : List Int := []
def q_X12_common (a0 : Int) (a2 : Int) (M0 M' : Mem) (r : Option PV) : Prop := St Tru ws_X12_common as_X12_common M0 M' ∧ ∃ v : Int, r = some (1, v) ∧ (-9223372036854775808) ≤ v ∧ v ≤ 9223372036854775807 ∧ (a2 = 0 ∨ v ≠ 0)
set_option maxRecDepth 100000 in
set_option maxHeartbeats 4000000 in
theorem sp_X12_common {l : Launch} {K : EC} {M0 : Mem} (hI : In Tru M0)  (a0 : Int) (ha0 : (-9223372036854775808) ≤ a0 ∧ a0 ≤ 9223372036854775807) (a2 : Int) (ha2 : (-9223372036854775808) ≤ a2 ∧ a2 ≤ 9223372036854775807)  : Tr l K 0 mX12_common 0 [(0, (1, a0)), (2, (1, a2))] [] M0 (q_X12_common a0 a2 M0) := by
  have hS : St Tru ws_X12_common as_X12_common M0 M0 := St.rf hI
  refine Tr.lload_n (pc := 0) (i := 0) d_X12_common_0 rfl rfl ?_
  refine Tr.lconst (pc := 1) (v := 0) d_X12_common_1 rfl (by decide) ?_
  refine Tr.lcmp (pc := 2) d_X12_common_2 ?_
  refine Tr.gen (P := fun v => (v = 1 ∧ 0 < a0) ∨ (v = 0 ∧ a0 = 0) ∨ (v = -1 ∧ a0 < 0)) (f_lcmp_c _ _) (fun r2 er2 br2 => ?_)
  have J12 : ∀ (M : Mem) (q12_0 : Int), St Tru ws_X12_common as_X12_common M0 M → ((-9223372036854775808) ≤ q12_0 ∧ q12_0 ≤ 9223372036854775807) → Tr l K 0 mX12_common 12 [(2, (1, a2))] [(1, q12_0)] M (q_X12_common a0 a2 M0) := by
    intro M q12_0 hS bq12_0 
    refine Tr.lstore (pc := 12) (i := 4) (ls2 := [(4, (1, q12_0)), (2, (1, a2))]) d_X12_common_12 (by decide) rfl ?_
    refine Tr.lload_n (pc := 14) (i := 2) d_X12_common_14 rfl rfl ?_
    refine Tr.lstore (pc := 15) (i := 6) (ls2 := [(6, (1, a2)), (4, (1, q12_0)), (2, (1, a2))]) d_X12_common_15 (by decide) rfl ?_
    have J17 : ∀ (n17 : Nat) (M : Mem) (p17_4 p17_6 : Int), St Tru ws_X12_common as_X12_common M0 M → ((-9223372036854775808) ≤ p17_4 ∧ p17_4 ≤ 9223372036854775807) → ((-9223372036854775808) ≤ p17_6 ∧ p17_6 ≤ 9223372036854775807) → (a2 = 0 ∨ p17_4 ≠ 0 ∨ p17_6 ≠ 0) → (max p17_6 (-p17_6)).toNat < n17 → Tr l K 0 mX12_common 17 [(4, (1, p17_4)), (6, (1, p17_6))] [] M (q_X12_common a0 a2 M0) := by
      intro n17
      induction n17 with
      | zero => intro M p17_4 p17_6 hS bp17_4 bp17_6  t17_0 hm17; exact absurd hm17 (Nat.not_lt_zero _)
      | succ n17 J17 =>
        intro M p17_4 p17_6 hS bp17_4 bp17_6  t17_0 hm17
        refine Tr.lload (pc := 17) (i := 6) d_X12_common_17 rfl ?_
        refine Tr.lconst (pc := 19) (v := 0) d_X12_common_19 rfl (by decide) ?_
        refine Tr.lcmp (pc := 20) d_X12_common_20 ?_
        refine Tr.gen (P := fun v => (v = 1 ∧ 0 < p17_6) ∨ (v = 0 ∧ p17_6 = 0) ∨ (v = -1 ∧ p17_6 < 0)) (f_lcmp_c _ _) (fun r20 er20 br20 => ?_)
        refine Tr.if_eq (pc := 21) (tgt := 42) d_X12_common_21 rfl (fun c21 => ?_) (fun c21 => ?_)
        · refine Tr.lload (pc := 42) (i := 4) d_X12_common_42 rfl ?_
          exact Tr.lret (pc := 44) d_X12_common_44 rfl ⟨hS, _, rfl, by omega, by omega, by omega⟩
        · refine Tr.lload (pc := 24) (i := 4) d_X12_common_24 rfl ?_
          refine Tr.lload (pc := 26) (i := 6) d_X12_common_26 rfl ?_
          refine Tr.lrem (pc := 28) d_X12_common_28 (by omega) ?_
          refine Tr.gen (P := fun v => ((-9223372036854775808) ≤ v ∧ v ≤ 9223372036854775807) ∧ ((0 < p17_6 → -p17_6 < v ∧ v < p17_6) ∧ (p17_6 < 0 → p17_6 < v ∧ v < -p17_6))) (rem_abs _ _ (by omega) (by omega)) (fun r28 er28 br28 => ?_)
          refine Tr.lstore (pc := 29) (i := 8) (ls2 := [(8, (1, r28)), (4, (1, p17_4)), (6, (1, p17_6))]) d_X12_common_29 (by decide) rfl ?_
          refine Tr.lload (pc := 31) (i := 6) d_X12_common_31 rfl ?_
          refine Tr.lstore (pc := 33) (i := 4) (ls2 := [(4, (1, p17_6)), (8, (1, r28)), (6, (1, p17_6))]) d_X12_common_33 (by decide) rfl ?_
          refine Tr.lload (pc := 35) (i := 8) d_X12_common_35 rfl ?_
          refine Tr.lstore (pc := 37) (i := 6) (ls2 := [(6, (1, r28)), (4, (1, p17_6)), (8, (1, r28))]) d_X12_common_37 (by decide) rfl ?_
          refine Tr.goto (pc := 39) (tgt := 17) d_X12_common_39 rfl ?_
          refine Tr.pick [1, 0] (ls2 := [(4, (1, p17_6)), (6, (1, r28))]) rfl ?_
          exact J17 _ _ _ hS (by omega) (by omega) (by first | assumption | omega) (by omega)
    refine Tr.pick [1, 0] (ls2 := [(4, (1, q12_0)), (6, (1, a2))]) rfl ?_
    exact J17 _ _ _ _ hS (by omega) (by omega) (by first | assumption | omega) (Nat.lt_succ_self _)
  refine Tr.if_ge (pc := 3) (tgt := 11) d_X12_common_3 rfl (fun c3 => ?_) (fun c3 => ?_)
  · refine Tr.lload_n (pc := 11) (i := 0) d_X12_common_11 rfl rfl ?_
    refine Tr.pick [1] (ls2 := [(2, (1, a2))]) rfl ?_
    exact J12 _ _ hS (by omega)
  · refine Tr.lload_n (pc := 6) (i := 0) d_X12_common_6 rfl rfl ?_
    refine Tr.lneg (pc := 7) d_X12_common_7 ?_
    refine Tr.gen (P := fun v => (-9223372036854775808) ≤ v ∧ v ≤ 9223372036854775807) (w64_b _) (fun r7 er7 br7 => ?_)
    refine Tr.goto (pc := 8) (tgt := 12) d_X12_common_8 rfl ?_
    refine Tr.pick [1] (ls2 := [(2, (1, a2))]) rfl ?_
    exact J12 _ _ hS (by omega)

def ws_X12_byTurns_120 : List (Int × Int) := [(120, 97), (120, 98), (120, 99), (120, 101)]
def as_X12_byTurns_120 : List Int := [176, 177, 178]
def q_X12_byTurns_120 (M0 M' : Mem) (r : Option PV) : Prop := St Tru ws_X12_byTurns_120 as_X12_byTurns_120 M0 M' ∧ ∃ v : Int, r = some (1, v) ∧ (-9223372036854775808) ≤ v ∧ v ≤ 9223372036854775807
theorem kp_X12_byTurns_120_120_12 {q : Mem → Prop} {M0 M : Mem} (h : St q ws_X12_byTurns_120 as_X12_byTurns_120 M0 M) : rd M 120 12 = rd M0 120 12 := St.kp h (by decide) (by decide) (by decide)
theorem kp_X12_bitsOf_120_101 {q : Mem → Prop} {M0 M : Mem} (h : St q ws_X12_bitsOf as_X12_bitsOf M0 M) : rd M 120 101 = rd M0 120 101 := St.kp h (by decide) (by decide) (by decide)
theorem kp_X12_orders_120_101 {q : Mem → Prop} {M0 M : Mem} (h : St q ws_X12_orders as_X12_orders M0 M) : rd M 120 101 = rd M0 120 101 := St.kp h (by decide) (by decide) (by decide)
theorem kp_X12_bitsOf_120_85 {q : Mem → Prop} {M0 M : Mem} (h : St q ws_X12_bitsOf as_X12_bitsOf M0 M) : rd M 120 85 = rd M0 120 85 := St.kp h (by decide) (by decide) (by decide)
theorem kp_X12_orders_120_85 {q : Mem → Prop} {M0 M : Mem} (h : St q ws_X12_orders as_X12_orders M0 M) : rd M 120 85 = rd M0 120 85 := St.kp h (by decide) (by decide) (by decide)
theorem kp_X12_bitsOf_126_0 {q : Mem → Prop} {M0 M : Mem} (h : St q ws_X12_bitsOf as_X12_bitsOf M0 M) : rd M 126 0 = rd M0 126 0 := St.kp h (by decide) (by decide) (by decide)
theorem kp_X12_orders_126_0 {q : Mem → Prop} {M0 M : Mem} (h : St q ws_X12_orders as_X12_orders M0 M) : rd M 126 0 = rd M0 126 0 := St.kp h (by decide) (by decide) (by decide)
theorem kp_X12_bitsOf_129_0 {q : Mem → Prop} {M0 M : Mem} (h : St q ws_X12_bitsOf as_X12_bitsOf M0 M) : rd M 129 0 = rd M0 129 0 := St.kp h (by decide) (by decide) (by decide)
theorem kp_X12_orders_129_0 {q : Mem → Prop} {M0 M : Mem} (h : St q ws_X12_orders as_X12_orders M0 M) : rd M 129 0 = rd M0 129 0 := St.kp h (by decide) (by decide) (by decide)
theorem ka_X12_byTurns_120_131 {q : Mem → Prop} {M0 M : Mem} (h : St q ws_X12_byTurns_120 as_X12_byTurns_120 M0 M) (j : Int) : rd M 131 j = rd M0 131 j := St.ka h (by decide) (by decide) (by decide)
theorem ka_X12_byTurns_120_137 {q : Mem → Prop} {M0 M : Mem} (h : St q ws_X12_byTurns_120 as_X12_byTurns_120 M0 M) (j : Int) : rd M 137 j = rd M0 137 j := St.ka h (by decide) (by decide) (by decide)
theorem ka_X12_byTurns_120_138 {q : Mem → Prop} {M0 M : Mem} (h : St q ws_X12_byTurns_120 as_X12_byTurns_120 M0 M) (j : Int) : rd M 138 j = rd M0 138 j := St.ka h (by decide) (by decide) (by decide)
theorem ka_X12_byTurns_120_139 {q : Mem → Prop} {M0 M : Mem} (h : St q ws_X12_byTurns_120 as_X12_byTurns_120 M0 M) (j : Int) : rd M 139 j = rd M0 139 j := St.ka h (by decide) (by decide) (by decide)
theorem ka_X12_byTurns_120_140 {q : Mem → Prop} {M0 M : Mem} (h : St q ws_X12_byTurns_120 as_X12_byTurns_120 M0 M) (j : Int) : rd M 140 j = rd M0 140 j := St.ka h (by decide) (by decide) (by decide)
theorem ka_X12_byTurns_120_141 {q : Mem → Prop} {M0 M : Mem} (h : St q ws_X12_byTurns_120 as_X12_byTurns_120 M0 M) (j : Int) : rd M 141 j = rd M0 141 j := St.ka h (by decide) (by decide) (by decide)
theorem ka_X12_byTurns_120_142 {q : Mem → Prop} {M0 M : Mem} (h : St q ws_X12_byTurns_120 as_X12_byTurns_120 M0 M) (j : Int) : rd M 142 j = rd M0 142 j := St.ka h (by decide) (by decide) (by decide)
theorem ka_X12_byTurns_120_143 {q : Mem → Prop} {M0 M : Mem} (h : St q ws_X12_byTurns_120 as_X12_byTurns_120 M0 M) (j : Int) : rd M 143 j = rd M0 143 j := St.ka h (by decide) (by decide) (by decide)
theorem kp_X12_byTurns_120_126_0 {q : Mem → Prop} {M0 M : Mem} (h : St q ws_X12_byTurns_120 as_X12_byTurns_120 M0 M) : rd M 126 0 = rd M0 126 0 := St.kp h (by decide) (by decide) (by decide)
theorem kp_X12_byTurns_120_136_0 {q : Mem → Prop} {M0 M : Mem} (h : St q ws_X12_byTurns_120 as_X12_byTurns_120 M0 M) : rd M 136 0 = rd M0 136 0 := St.kp h (by decide) (by decide) (by decide)
theorem kp_X12_byTurns_120_123_0 {q : Mem → Prop} {M0 M : Mem} (h : St q ws_X12_byTurns_120 as_X12_byTurns_120 M0 M) : rd M 123 0 = rd M0 123 0 := St.kp h (by decide) (by decide) (by decide)
theorem kp_X12_byTurns_120_124_0 {q : Mem → Prop} {M0 M : Mem} (h : St q ws_X12_byTurns_120 as_X12_byTurns_120 M0 M) : rd M 124 0 = rd M0 124 0 := St.kp h (by decide) (by decide) (by decide)
theorem kp_X12_costOf_120_120_101 {q : Mem → Prop} {M0 M : Mem} (h : St q ws_X12_costOf_120 as_X12_costOf_120 M0 M) : rd M 120 101 = rd M0 120 101 := St.kp h (by decide) (by decide) (by decide)
theorem kp_X12_costOf_120_120_85 {q : Mem → Prop} {M0 M : Mem} (h : St q ws_X12_costOf_120 as_X12_costOf_120 M0 M) : rd M 120 85 = rd M0 120 85 := St.kp h (by decide) (by decide) (by decide)
theorem kp_X12_costOf_120_129_0 {q : Mem → Prop} {M0 M : Mem} (h : St q ws_X12_costOf_120 as_X12_costOf_120 M0 M) : rd M 129 0 = rd M0 129 0 := St.kp h (by decide) (by decide) (by decide)
theorem kp_X12_isPart_120_120_85 {q : Mem → Prop} {M0 M : Mem} (h : St q ws_X12_isPart_120 as_X12_isPart_120 M0 M) : rd M 120 85 = rd M0 120 85 := St.kp h (by decide) (by decide) (by decide)
theorem kp_X12_isLine_120_120_85 {q : Mem → Prop} {M0 M : Mem} (h : St q ws_X12_isLine_120 as_X12_isLine_120 M0 M) : rd M 120 85 = rd M0 120 85 := St.kp h (by decide) (by decide) (by decide)
theorem kp_X12_finds_120_120_85 {q : Mem → Prop} {M0 M : Mem} (h : St q ws_X12_finds_120 as_X12_finds_120 M0 M) : rd M 120 85 = rd M0 120 85 := St.kp h (by decide) (by decide) (by decide)
theorem kp_X12_linesIn_120_120_85 {q : Mem → Prop} {M0 M : Mem} (h : St q ws_X12_linesIn_120 as_X12_linesIn_120 M0 M) : rd M 120 85 = rd M0 120 85 := St.kp h (by decide) (by decide) (by decide)
theorem kp_X12_isLine_120_126_0 {q : Mem → Prop} {M0 M : Mem} (h : St q ws_X12_isLine_120 as_X12_isLine_120 M0 M) : rd M 126 0 = rd M0 126 0 := St.kp h (by decide) (by decide) (by decide)
theorem kp_X12_finds_120_126_0 {q : Mem → Prop} {M0 M : Mem} (h : St q ws_X12_finds_120 as_X12_finds_120 M0 M) : rd M 126 0 = rd M0 126 0 := St.kp h (by decide) (by decide) (by decide)
theorem kp_X12_linesIn_120_126_0 {q : Mem → Prop} {M0 M : Mem} (h : St q ws_X12_linesIn_120 as_X12_linesIn_120 M0 M) : rd M 126 0 = rd M0 126 0 := St.kp h (by decide) (by decide) (by decide)
theorem kp_X12_isLine_120_129_0 {q : Mem → Prop} {M0 M : Mem} (h : St q ws_X12_isLine_120 as_X12_isLine_120 M0 M) : rd M 129 0 = rd M0 129 0 := St.kp h (by decide) (by decide) (by decide)
theorem kp_X12_finds_120_129_0 {q : Mem → Prop} {M0 M : Mem} (h : St q ws_X12_finds_120 as_X12_finds_120 M0 M) : rd M 129 0 = rd M0 129 0 := St.kp h (by decide) (by decide) (by decide)
theorem kp_X12_linesIn_120_129_0 {q : Mem → Prop} {M0 M : Mem} (h : St q ws_X12_linesIn_120 as_X12_linesIn_120 M0 M) : rd M 129 0 = rd M0 129 0 := St.kp h (by decide) (by decide) (by decide)
set_option maxRecDepth 100000 in
set_option maxHeartbeats 4000000 in
theorem sp_X12_byTurns_120 {l : Launch} {K : EC} {M0 : Mem} (hI : In Tru M0) (en_120_12 : rd M0 120 12 = 0) (a1 : Int) (ha1 : (-2147483648) ≤ a1 ∧ a1 ≤ 2147483647) (a2 : Int) (ha2 : (-2147483648) ≤ a2 ∧ a2 ≤ 2147483647) (a3 : Int) (ha3 : (-2147483648) ≤ a3 ∧ a3 ≤ 2147483647) (a4 : Int) (ha4 : 0 ≤ a4 ∧ a4 ≤ 1)  (hF_Bk0 : Bk0 M0) : Tr l K 4 mX12_byTurns 0 [(0, (2, 120)), (1, (0, a1)), (2, (0, a2)), (3, (0, a3)), (4, (0, a4))] [] M0 (q_X12_byTurns_120 M0) := by
  have hS : St Tru ws_X12_byTurns_120 as_X12_byTurns_120 M0 M0 := St.rf hI
  obtain ⟨g120_101, eg120_101⟩ : ∃ v, rd M0 120 101 = v := ⟨_, rfl⟩
  have bg120_101 : 0 ≤ g120_101 ∧ g120_101 ≤ 8 := by rw [← eg120_101]; exact ir_120_101 hI.2.1
  obtain ⟨g126_0, eg126_0⟩ : ∃ v, rd M0 126 0 = v := ⟨_, rfl⟩
  have bg126_0 : 0 ≤ g126_0 ∧ g126_0 ≤ 6 := by rw [← eg126_0]; exact ir_126_0 hI.2.1
  refine Tr.aload_n (pc := 0) (i := 0) d_X12_byTurns_0 rfl rfl ?_
  refine Tr.getz (pc := 1) d_X12_byTurns_1 f_12_270 (by decide) (ty_120 hS.1.1) ?_
  refine Tr.gen (P := fun v => 0 ≤ v ∧ v ≤ 1) (ir_120_85 hS.1.2.1) (fun r1 er1 br1 => ?_)
  refine Tr.if_eq (pc := 4) (tgt := 36) d_X12_byTurns_4 rfl (fun c4 => ?_) (fun c4 => ?_)
  · refine Tr.ldc2 (pc := 36) d_X12_byTurns_36 kl_12_669 (by decide) ?_
    exact Tr.lret (pc := 39) d_X12_byTurns_39 rfl ⟨hS, _, rfl, by omega, by omega⟩
  · have c4b : 1 ≤ r1 ∧ r1 ≤ 1 := by omega
    replace c4 := hd_i c4
    refine Tr.aload_n (pc := 7) (i := 0) d_X12_byTurns_7 rfl rfl ?_
    refine Tr.iload_n (pc := 8) (i := 1) d_X12_byTurns_8 rfl rfl ?_
    refine Tr.callV (pc := 9) (as := [_]) d_X12_byTurns_9 s_12_555 ok_X12_isPart rfl rfl (Nat.le_of_ble_eq_true rfl) (Nat.le_of_ble_eq_true rfl) (by decide) (ty_120 hS.1.1) ?_
    refine Tr.imp (Tr.deep (by decide) (ns_X12_isPart_120 (G126_0 := g126_0) hS.1 (eg126_0) ((kp_X12_byTurns_120_120_12 hS).trans en_120_12) a1 (by and_intros <;> omega))) ?_
    rintro M9 _ ⟨h9, r9, rfl, lr9, ur9, z9_0⟩
    have hS := St.tr hS h9 (by decide) (by decide)
    refine Tr.sc [(0, r9)] rfl ?_
    refine Tr.if_eq (pc := 12) (tgt := 36) d_X12_byTurns_12 rfl (fun c12 => ?_) (fun c12 => ?_)
    · refine Tr.ldc2 (pc := 36) d_X12_byTurns_36 kl_12_669 (by decide) ?_
      exact Tr.lret (pc := 39) d_X12_byTurns_39 rfl ⟨hS, _, rfl, by omega, by omega⟩
    · have c12b : 1 ≤ r9 ∧ r9 ≤ 1 := by omega
      replace c12 := hd_i c12
      refine Tr.iload_n (pc := 15) (i := 2) d_X12_byTurns_15 rfl rfl ?_
      refine Tr.if_lt (pc := 16) (tgt := 36) d_X12_byTurns_16 rfl (fun c16 => ?_) (fun c16 => ?_)
      · refine Tr.ldc2 (pc := 36) d_X12_byTurns_36 kl_12_669 (by decide) ?_
        exact Tr.lret (pc := 39) d_X12_byTurns_39 rfl ⟨hS, _, rfl, by omega, by omega⟩
      · refine Tr.aload_n (pc := 19) (i := 0) d_X12_byTurns_19 rfl rfl ?_
        refine Tr.iload_n (pc := 20) (i := 3) d_X12_byTurns_20 rfl rfl ?_
        refine Tr.callV (pc := 21) (as := [_]) d_X12_byTurns_21 s_12_656 ok_X12_isLine rfl rfl (Nat.le_of_ble_eq_true rfl) (Nat.le_of_ble_eq_true rfl) (by decide) (ty_120 hS.1.1) ?_
        obtain ⟨w21_129_0, ew21_129_0⟩ : ∃ v, rd M9 129 0 = v := ⟨_, rfl⟩
        have bw21_129_0 : 0 ≤ w21_129_0 ∧ w21_129_0 ≤ 60 := by rw [← ew21_129_0]; exact ir_129_0 hS.1.2.1
        refine Tr.imp (Tr.deep (by decide) (ns_X12_isLine_120 (G129_0 := w21_129_0) hS.1 (ew21_129_0) ((kp_X12_byTurns_120_120_12 hS).trans en_120_12) a3 (by and_intros <;> omega))) ?_
        rintro M21 _ ⟨h21, r21, rfl, lr21, ur21, z21_0⟩
        have hS := St.tr hS h21 (by decide) (by decide)
        refine Tr.sc [(0, r21)] rfl ?_
        refine Tr.if_eq (pc := 24) (tgt := 36) d_X12_byTurns_24 rfl (fun c24 => ?_) (fun c24 => ?_)
        · refine Tr.ldc2 (pc := 36) d_X12_byTurns_36 kl_12_669 (by decide) ?_
          exact Tr.lret (pc := 39) d_X12_byTurns_39 rfl ⟨hS, _, rfl, by omega, by omega⟩
        · have c24b : 1 ≤ r21 ∧ r21 ≤ 1 := by omega
          replace c24 := hd_i c24
          refine Tr.aload_n (pc := 27) (i := 0) d_X12_byTurns_27 rfl rfl ?_
          refine Tr.iload_n (pc := 28) (i := 1) d_X12_byTurns_28 rfl rfl ?_
          refine Tr.iload_n (pc := 29) (i := 2) d_X12_byTurns_29 rfl rfl ?_
          refine Tr.callV (pc := 30) (as := [_, _]) d_X12_byTurns_30 s_12_644 ok_X12_finds rfl rfl (Nat.le_of_ble_eq_true rfl) (Nat.le_of_ble_eq_true rfl) (by decide) (ty_120 hS.1.1) ?_
          refine Tr.imp (Tr.deep (by decide) (ns_X12_finds_120 hS.1 a1 (by exact (hd_o z9_0).elim (fun h1 => by omega) (fun h1 => by omega)) a2 (by and_intros <;> omega))) ?_
          rintro M30 _ ⟨h30, r30, rfl, lr30, ur30, z30_0⟩
          have hS := St.tr hS h30 (by decide) (by decide)
          refine Tr.sc [(0, r30)] rfl ?_
          refine Tr.if_ne (pc := 33) (tgt := 40) d_X12_byTurns_33 rfl (fun c33 => ?_) (fun c33 => ?_)
          · have c33b : 1 ≤ r30 ∧ r30 ≤ 1 := by omega
            replace c33 := hd_i c33
            refine Tr.aload_n (pc := 40) (i := 0) d_X12_byTurns_40 rfl rfl ?_
            refine Tr.iload_n (pc := 41) (i := 1) d_X12_byTurns_41 rfl rfl ?_
            refine Tr.callV (pc := 42) (as := [_]) d_X12_byTurns_42 s_12_650 ok_X12_linesIn rfl rfl (Nat.le_of_ble_eq_true rfl) (Nat.le_of_ble_eq_true rfl) (by decide) (ty_120 hS.1.1) ?_
            refine Tr.imp (Tr.deep (by decide) (sp_X12_linesIn_120 hS.1 a1 (by exact (hd_o z9_0).elim (fun h1 => by omega) (fun h1 => by omega)))) ?_
            rintro M42 _ ⟨h42, r42, rfl, lr42, ur42⟩
            have hS := St.tr hS h42 (by decide) (by decide)
            refine Tr.sc [(1, r42)] rfl ?_
            refine Tr.lstore (pc := 45) (i := 5) (ls2 := [(5, (1, r42)), (0, (2, 120)), (1, (0, a1)), (2, (0, a2)), (3, (0, a3)), (4, (0, a4))]) d_X12_byTurns_45 (by decide) rfl ?_
            refine Tr.lload (pc := 47) (i := 5) d_X12_byTurns_47 rfl ?_
            refine Tr.callS (pc := 49) (as := [_]) d_X12_byTurns_49 s_12_653 ok_X12_bitsOf rfl rfl (Nat.le_of_ble_eq_true rfl) (Nat.le_of_ble_eq_true rfl) ?_
            refine Tr.imp (Tr.deep (by decide) (sp_X12_bitsOf hS.1 r42 (by omega))) ?_
            rintro M49 _ ⟨h49, r49, rfl, lr49, ur49, wr49⟩
            have hS := St.tr hS h49 (by decide) (by decide)
            have wr49d0 := hd_i wr49.2
            replace wr49 := And.intro wr49.1.1 (And.intro wr49.1.2.1  (wr49.1.2.2))
            refine Tr.sc [(0, r49)] rfl ?_
            refine Tr.bipush (pc := 52) d_X12_byTurns_52 rfl (by decide) ?_
            refine Tr.icmp_gt (pc := 54) (tgt := 68) d_X12_byTurns_54 rfl (fun c54 => ?_) (fun c54 => ?_)
            · refine Tr.ldc2 (pc := 68) d_X12_byTurns_68 kl_12_669 (by decide) ?_
              exact Tr.lret (pc := 71) d_X12_byTurns_71 rfl ⟨hS, _, rfl, by omega, by omega⟩
            · refine Tr.lload (pc := 57) (i := 5) d_X12_byTurns_57 rfl ?_
              refine Tr.iload_n (pc := 59) (i := 3) d_X12_byTurns_59 rfl rfl ?_
              refine Tr.lshr (pc := 60) d_X12_byTurns_60 ?_
              refine Tr.gen (P := fun v => ((-9223372036854775808) ≤ v ∧ v ≤ 9223372036854775807) ∧ (r42 ≠ 0 ∨ v = 0)) (lshr_z _ _) (fun r60 er60 br60 => ?_)
              have br60d0 := hd_i br60.2
              replace br60 := And.intro br60.1.1  (br60.1.2)
              refine Tr.lconst (pc := 61) (v := 1) d_X12_byTurns_61 rfl (by decide) ?_
              refine Tr.land (pc := 62) d_X12_byTurns_62 ?_
              refine Tr.gen (P := fun v => v = r60 % 2 ∧ (0 ≤ v ∧ v ≤ 1)) ⟨(f_land_1 _).1, (f_land_1 _).2⟩ (fun r62 er62 br62 => ?_)
              refine Tr.lconst (pc := 63) (v := 0) d_X12_byTurns_63 rfl (by decide) ?_
              refine Tr.lcmp (pc := 64) d_X12_byTurns_64 ?_
              refine Tr.gen (P := fun v => (v = 1 ∧ 0 < r62) ∨ (v = 0 ∧ r62 = 0) ∨ (v = -1 ∧ r62 < 0)) (f_lcmp_c _ _) (fun r64 er64 br64 => ?_)
              replace br64 := hd_i br64
              refine Tr.if_ne (pc := 65) (tgt := 72) d_X12_byTurns_65 rfl (fun c65 => ?_) (fun c65 => ?_)
              · replace c65 := hd_i c65
                refine Tr.aload_n (pc := 72) (i := 0) d_X12_byTurns_72 rfl rfl ?_
                refine Tr.iconst (pc := 73) d_X12_byTurns_73 (by decide) ?_
                refine Tr.putfS (pc := 74) (P := St Tru ws_X12_byTurns_120 as_X12_byTurns_120 M0) d_X12_byTurns_74 f_12_318 (by decide) (by decide) (ty_120 hS.1.1) (st_120_101 hS (by decide) (by omega) trivial) (fun M74 hS w74 => ?_)
                refine Tr.iconst (pc := 77) d_X12_byTurns_77 (by decide) ?_
                refine Tr.istore (pc := 78) (i := 7) (ls2 := [(7, (0, 0)), (5, (1, r42)), (0, (2, 120)), (1, (0, a1)), (2, (0, a2)), (3, (0, a3)), (4, (0, a4))]) d_X12_byTurns_78 (by decide) rfl ?_
                refine Tr.iconst (pc := 80) d_X12_byTurns_80 (by decide) ?_
                refine Tr.istore (pc := 81) (i := 8) (ls2 := [(8, (0, 0)), (7, (0, 0)), (5, (1, r42)), (0, (2, 120)), (1, (0, a1)), (2, (0, a2)), (3, (0, a3)), (4, (0, a4))]) d_X12_byTurns_81 (by decide) rfl ?_
                have J83 : ∀ (n83 : Nat) (M : Mem) (p83_7 p83_8 u83_120_101 : Int), St Tru ws_X12_byTurns_120 as_X12_byTurns_120 M0 M → (0 ≤ p83_7 ∧ p83_7 ≤ 8) → (0 ≤ p83_8 ∧ p83_8 ≤ 60) → (0 ≤ u83_120_101 ∧ u83_120_101 ≤ 8) → rd M 120 101 = u83_120_101 → rd M 120 85 = r1 → rd M 126 0 = g126_0 → rd M 129 0 = w21_129_0 → (u83_120_101 + tpS r42 p83_8 ≤ 8) → (0 ≤ p83_7 ∧ p83_7 ≤ 7) → (60 - p83_8).toNat < n83 → Tr l K 4 mX12_byTurns 83 [(0, (2, 120)), (1, (0, a1)), (3, (0, a3)), (4, (0, a4)), (5, (1, r42)), (7, (0, p83_7)), (8, (0, p83_8))] [] M (q_X12_byTurns_120 M0) := by
                  intro n83
                  induction n83 with
                  | zero => intro M p83_7 p83_8 u83_120_101 hS bp83_7 bp83_8 bu83_120_101 k83_120_101 k83_120_85 k83_126_0 k83_129_0 t83_0 t83_1 hm83; exact absurd hm83 (Nat.not_lt_zero _)
                  | succ n83 J83 =>
                    intro M p83_7 p83_8 u83_120_101 hS bp83_7 bp83_8 bu83_120_101 k83_120_101 k83_120_85 k83_126_0 k83_129_0 t83_0 t83_1 hm83
                    clear er1 ew21_129_0 er60 er62 er64 w74
                    refine Tr.iload (pc := 83) (i := 8) d_X12_byTurns_83 rfl ?_
                    refine Tr.aload_n (pc := 85) (i := 0) d_X12_byTurns_85 rfl rfl ?_
                    refine Tr.getf (pc := 86) d_X12_byTurns_86 f_12_72 (by decide) (by decide) (ty_120 hS.1.1) ?_
                    refine Tr.tp 129 (fx_120_20 hS.1.1) ?_
                    refine Tr.aload_n (pc := 89) (i := 0) d_X12_byTurns_89 rfl rfl ?_
                    refine Tr.getf (pc := 90) d_X12_byTurns_90 f_12_48 (by decide) (by decide) (ty_120 hS.1.1) ?_
                    refine Tr.tp 0 ((kp_X12_byTurns_120_120_12 hS).trans en_120_12) ?_
                    refine Tr.iald (pc := 93) d_X12_byTurns_93 (ty_129 hS.1.1) (by omega) (by omega) ?_
                    refine Tr.tp w21_129_0 k83_129_0 ?_
                    refine Tr.icmp_ge (pc := 94) (tgt := 151) d_X12_byTurns_94 rfl (fun c94 => ?_) (fun c94 => ?_)
                    · refine Tr.iconst (pc := 151) d_X12_byTurns_151 (by decide) ?_
                      refine Tr.istore (pc := 152) (i := 8) (ls2 := [(8, (0, 0)), (0, (2, 120)), (1, (0, a1)), (3, (0, a3)), (4, (0, a4)), (5, (1, r42)), (7, (0, p83_7))]) d_X12_byTurns_152 (by decide) rfl ?_
                      have J154 : ∀ (n154 : Nat) (M : Mem) (p154_8 : Int), St Tru ws_X12_byTurns_120 as_X12_byTurns_120 M0 M → (0 ≤ p154_8 ∧ p154_8 ≤ 256) → rd M 120 101 = u83_120_101 → rd M 120 85 = r1 → rd M 126 0 = g126_0 → rd M 129 0 = w21_129_0 → (256 - p154_8).toNat < n154 → Tr l K 4 mX12_byTurns 154 [(0, (2, 120)), (1, (0, a1)), (4, (0, a4)), (7, (0, p83_7)), (8, (0, p154_8))] [] M (q_X12_byTurns_120 M0) := by
                        intro n154
                        induction n154 with
                        | zero => intro M p154_8 hS bp154_8 k154_120_101 k154_120_85 k154_126_0 k154_129_0 hm154; exact absurd hm154 (Nat.not_lt_zero _)
                        | succ n154 J154 =>
                          intro M p154_8 hS bp154_8 k154_120_101 k154_120_85 k154_126_0 k154_129_0 hm154
                          clear k83_120_101 k83_120_85 k83_126_0 k83_129_0
                          refine Tr.iload (pc := 154) (i := 8) d_X12_byTurns_154 rfl ?_
                          refine Tr.iconst (pc := 156) d_X12_byTurns_156 (by decide) ?_
                          refine Tr.aload_n (pc := 157) (i := 0) d_X12_byTurns_157 rfl rfl ?_
                          refine Tr.getf (pc := 158) d_X12_byTurns_158 f_12_318 (by decide) (by decide) (ty_120 hS.1.1) ?_
                          refine Tr.tp u83_120_101 k154_120_101 ?_
                          refine Tr.ishl (pc := 161) d_X12_byTurns_161 ?_
                          refine Tr.gen (P := fun v => 1 ≤ v ∧ v ≤ 256) (shl_8 (by omega) (by omega)) (fun r161 er161 br161 => ?_)
                          refine Tr.icmp_ge (pc := 162) (tgt := 185) d_X12_byTurns_162 rfl (fun c162 => ?_) (fun c162 => ?_)
                          · refine Tr.lconst (pc := 185) (v := 0) d_X12_byTurns_185 rfl (by decide) ?_
                            refine Tr.lstore (pc := 186) (i := 8) (ls2 := [(8, (1, 0)), (0, (2, 120)), (1, (0, a1)), (4, (0, a4)), (7, (0, p83_7))]) d_X12_byTurns_186 (by decide) rfl ?_
                            refine Tr.iconst (pc := 188) d_X12_byTurns_188 (by decide) ?_
                            refine Tr.istore (pc := 189) (i := 10) (ls2 := [(10, (0, 0)), (8, (1, 0)), (0, (2, 120)), (1, (0, a1)), (4, (0, a4)), (7, (0, p83_7))]) d_X12_byTurns_189 (by decide) rfl ?_
                            have J191 : ∀ (n191 : Nat) (M : Mem) (p191_8 p191_10 : Int), St Tru ws_X12_byTurns_120 as_X12_byTurns_120 M0 M → ((-9223372036854775808) ≤ p191_8 ∧ p191_8 ≤ 9223372036854775807) → (0 ≤ p191_10 ∧ p191_10 ≤ 256) → rd M 120 101 = u83_120_101 → rd M 120 85 = r1 → rd M 126 0 = g126_0 → rd M 129 0 = w21_129_0 → (256 - p191_10).toNat < n191 → Tr l K 4 mX12_byTurns 191 [(0, (2, 120)), (4, (0, a4)), (7, (0, p83_7)), (8, (1, p191_8)), (10, (0, p191_10))] [] M (q_X12_byTurns_120 M0) := by
                              intro n191
                              induction n191 with
                              | zero => intro M p191_8 p191_10 hS bp191_8 bp191_10 k191_120_101 k191_120_85 k191_126_0 k191_129_0 hm191; exact absurd hm191 (Nat.not_lt_zero _)
                              | succ n191 J191 =>
                                intro M p191_8 p191_10 hS bp191_8 bp191_10 k191_120_101 k191_120_85 k191_126_0 k191_129_0 hm191
                                clear k154_120_101 k154_120_85 k154_126_0 k154_129_0 er161
                                refine Tr.iload (pc := 191) (i := 10) d_X12_byTurns_191 rfl ?_
                                refine Tr.iconst (pc := 193) d_X12_byTurns_193 (by decide) ?_
                                refine Tr.aload_n (pc := 194) (i := 0) d_X12_byTurns_194 rfl rfl ?_
                                refine Tr.getf (pc := 195) d_X12_byTurns_195 f_12_318 (by decide) (by decide) (ty_120 hS.1.1) ?_
                                refine Tr.tp u83_120_101 k191_120_101 ?_
                                refine Tr.ishl (pc := 198) d_X12_byTurns_198 ?_
                                refine Tr.gen (P := fun v => 1 ≤ v ∧ v ≤ 256) (shl_8 (by omega) (by omega)) (fun r198 er198 br198 => ?_)
                                refine Tr.icmp_ge (pc := 199) (tgt := 274) d_X12_byTurns_199 rfl (fun c199 => ?_) (fun c199 => ?_)
                                · refine Tr.aload_n (pc := 274) (i := 0) d_X12_byTurns_274 rfl rfl ?_
                                  refine Tr.getf (pc := 275) d_X12_byTurns_275 f_12_318 (by decide) (by decide) (ty_120 hS.1.1) ?_
                                  refine Tr.tp u83_120_101 k191_120_101 ?_
                                  refine Tr.callS (pc := 278) (as := [_]) d_X12_byTurns_278 s_12_674 ok_X12_orders rfl rfl (Nat.le_of_ble_eq_true rfl) (Nat.le_of_ble_eq_true rfl) ?_
                                  refine Tr.imp (Tr.deep (by decide) (sp_X12_orders hS.1 u83_120_101 (by and_intros <;> omega))) ?_
                                  rintro M278 _ ⟨h278, r278, rfl, lr278, ur278, wr278⟩
                                  have hS := St.tr hS h278 (by decide) (by decide)
                                  replace wr278 := hd_i wr278
                                  refine Tr.sc [(1, r278)] rfl ?_
                                  refine Tr.lstore (pc := 281) (i := 10) (ls2 := [(10, (1, r278)), (0, (2, 120)), (4, (0, a4)), (7, (0, p83_7)), (8, (1, p191_8))]) d_X12_byTurns_281 (by decide) rfl ?_
                                  refine Tr.lload (pc := 283) (i := 8) d_X12_byTurns_283 rfl ?_
                                  refine Tr.lload (pc := 285) (i := 10) d_X12_byTurns_285 rfl ?_
                                  refine Tr.callS (pc := 287) (as := [_, _]) d_X12_byTurns_287 s_12_677 ok_X12_common rfl rfl (Nat.le_of_ble_eq_true rfl) (Nat.le_of_ble_eq_true rfl) ?_
                                  refine Tr.imp (Tr.deep (by decide) (sp_X12_common hS.1 p191_8 (by omega) r278 (by omega))) ?_
                                  rintro M287 _ ⟨h287, r287, rfl, lr287, ur287, wr287⟩
                                  have hS := St.tr hS h287 (by decide) (by decide)
                                  replace wr287 := hd_i wr287
                                  refine Tr.sc [(1, r287)] rfl ?_
                                  refine Tr.lstore (pc := 290) (i := 12) (ls2 := [(12, (1, r287)), (10, (1, r278)), (0, (2, 120)), (4, (0, a4)), (7, (0, p83_7)), (8, (1, p191_8))]) d_X12_byTurns_290 (by decide) rfl ?_
                                  refine Tr.iload (pc := 292) (i := 4) d_X12_byTurns_292 rfl ?_
                                  refine Tr.if_eq (pc := 294) (tgt := 305) d_X12_byTurns_294 rfl (fun c294 => ?_) (fun c294 => ?_)
                                  · refine Tr.lload (pc := 305) (i := 10) d_X12_byTurns_305 rfl ?_
                                    refine Tr.lload (pc := 307) (i := 12) d_X12_byTurns_307 rfl ?_
                                    refine Tr.ldiv (pc := 309) d_X12_byTurns_309 (by exact (hd_o wr278).elim (fun h1 => by omega) (fun h1 => (hd_o wr287).elim (fun h2 => by omega) (fun h2 => (ne_o h2).elim (fun h3 => by omega) (fun h3 => by omega)))) ?_
                                    refine Tr.gen (P := fun v => (-9223372036854775808) ≤ v ∧ v ≤ 9223372036854775807) (w64_b _) (fun r309 er309 br309 => ?_)
                                    exact Tr.lret (pc := 310) d_X12_byTurns_310 rfl ⟨hS, _, rfl, (by omega), (by omega)⟩
                                  · have c294b : 1 ≤ a4 ∧ a4 ≤ 1 := by omega
                                    replace c294 := hd_i c294
                                    refine Tr.lload (pc := 297) (i := 8) d_X12_byTurns_297 rfl ?_
                                    refine Tr.lload (pc := 299) (i := 12) d_X12_byTurns_299 rfl ?_
                                    refine Tr.ldiv (pc := 301) d_X12_byTurns_301 (by exact (hd_o wr278).elim (fun h1 => by omega) (fun h1 => (hd_o wr287).elim (fun h2 => by omega) (fun h2 => (ne_o h2).elim (fun h3 => by omega) (fun h3 => by omega)))) ?_
                                    refine Tr.gen (P := fun v => (-9223372036854775808) ≤ v ∧ v ≤ 9223372036854775807) (w64_b _) (fun r301 er301 br301 => ?_)
                                    refine Tr.goto (pc := 302) (tgt := 310) d_X12_byTurns_302 rfl ?_
                                    exact Tr.lret (pc := 310) d_X12_byTurns_310 rfl ⟨hS, _, rfl, (by omega), (by omega)⟩
                                · refine Tr.iload (pc := 202) (i := 10) d_X12_byTurns_202 rfl ?_
                                  refine Tr.iload (pc := 204) (i := 7) d_X12_byTurns_204 rfl ?_
                                  refine Tr.ishr (pc := 206) d_X12_byTurns_206 ?_
                                  refine Tr.gen (P := fun v => (-2147483648) ≤ v ∧ v ≤ 2147483647) (i32_b _) (fun r206 er206 br206 => ?_)
                                  refine Tr.iconst (pc := 207) d_X12_byTurns_207 (by decide) ?_
                                  refine Tr.iand (pc := 208) d_X12_byTurns_208 ?_
                                  refine Tr.gen (P := fun v => 0 ≤ v ∧ v ≤ 1) (f_iand_m 1 (by decide +kernel) (by decide) (by decide +kernel)) (fun r208 er208 br208 => ?_)
                                  refine Tr.iconst (pc := 209) d_X12_byTurns_209 (by decide) ?_
                                  have J268 : ∀ (M : Mem) (p268_8 : Int), St Tru ws_X12_byTurns_120 as_X12_byTurns_120 M0 M → ((-9223372036854775808) ≤ p268_8 ∧ p268_8 ≤ 9223372036854775807) → rd M 120 101 = u83_120_101 → rd M 120 85 = r1 → rd M 126 0 = g126_0 → rd M 129 0 = w21_129_0 → Tr l K 4 mX12_byTurns 268 [(0, (2, 120)), (4, (0, a4)), (7, (0, p83_7)), (8, (1, p268_8)), (10, (0, p191_10))] [] M (q_X12_byTurns_120 M0) := by
                                    intro M p268_8 hS bp268_8 k268_120_101 k268_120_85 k268_126_0 k268_129_0
                                    clear k191_120_101 k191_120_85 k191_126_0 k191_129_0 er198 er206 er208
                                    refine Tr.iincV (pc := 268) (n2 := (p191_10 + 1)) (ls2 := [(10, (0, (p191_10 + 1))), (0, (2, 120)), (4, (0, a4)), (7, (0, p83_7)), (8, (1, p268_8))]) d_X12_byTurns_268 rfl (by decide) ((w32_id (by and_intros <;> omega)).trans (by omega)) rfl ?_
                                    refine Tr.goto (pc := 271) (tgt := 191) d_X12_byTurns_271 rfl ?_
                                    refine Tr.pick [1, 2, 3, 4, 0] (ls2 := [(0, (2, 120)), (4, (0, a4)), (7, (0, p83_7)), (8, (1, p268_8)), (10, (0, (p191_10 + 1)))]) rfl ?_
                                    exact J191 _ _ _ hS (by omega) (by and_intros <;> omega) k268_120_101 k268_120_85 k268_126_0 k268_129_0 (me_lt hm191 (by omega) (by omega))
                                  refine Tr.icmp_ne (pc := 210) (tgt := 216) d_X12_byTurns_210 rfl (fun c210 => ?_) (fun c210 => ?_)
                                  · have c210b : 0 ≤ r208 ∧ r208 ≤ 0 := by omega
                                    replace c210 := hd_i c210
                                    refine Tr.iload (pc := 216) (i := 10) d_X12_byTurns_216 rfl ?_
                                    refine Tr.i2l (pc := 218) d_X12_byTurns_218 ?_
                                    refine Tr.callS (pc := 219) (as := [_]) d_X12_byTurns_219 s_12_653 ok_X12_bitsOf rfl rfl (Nat.le_of_ble_eq_true rfl) (Nat.le_of_ble_eq_true rfl) ?_
                                    refine Tr.imp (Tr.deep (by decide) (sp_X12_bitsOf hS.1 p191_10 (by omega))) ?_
                                    rintro M219 _ ⟨h219, r219, rfl, lr219, ur219, wr219⟩
                                    have hS := St.tr hS h219 (by decide) (by decide)
                                    have wr219d0 := hd_i wr219.2
                                    replace wr219 := And.intro wr219.1.1 (And.intro wr219.1.2.1  (wr219.1.2.2))
                                    refine Tr.sc [(0, r219)] rfl ?_
                                    refine Tr.istore (pc := 222) (i := 11) (ls2 := [(11, (0, r219)), (0, (2, 120)), (4, (0, a4)), (7, (0, p83_7)), (8, (1, p191_8)), (10, (0, p191_10))]) d_X12_byTurns_222 (by decide) rfl ?_
                                    refine Tr.lload (pc := 224) (i := 8) d_X12_byTurns_224 rfl ?_
                                    refine Tr.iload (pc := 226) (i := 11) d_X12_byTurns_226 rfl ?_
                                    refine Tr.callS (pc := 228) (as := [_]) d_X12_byTurns_228 s_12_674 ok_X12_orders rfl rfl (Nat.le_of_ble_eq_true rfl) (Nat.le_of_ble_eq_true rfl) ?_
                                    refine Tr.imp (Tr.deep (by decide) (sp_X12_orders hS.1 r219 (by and_intros <;> omega))) ?_
                                    rintro M228 _ ⟨h228, r228, rfl, lr228, ur228, wr228⟩
                                    have hS := St.tr hS h228 (by decide) (by decide)
                                    replace wr228 := hd_i wr228
                                    refine Tr.sc [(1, r228), (1, p191_8)] rfl ?_
                                    refine Tr.aload_n (pc := 231) (i := 0) d_X12_byTurns_231 rfl rfl ?_
                                    refine Tr.getf (pc := 232) d_X12_byTurns_232 f_12_318 (by decide) (by decide) (ty_120 hS.1.1) ?_
                                    refine Tr.tp u83_120_101 ((kp_X12_orders_120_101 h228).trans ((kp_X12_bitsOf_120_101 h219).trans k191_120_101)) ?_
                                    refine Tr.iload (pc := 235) (i := 11) d_X12_byTurns_235 rfl ?_
                                    refine Tr.isub (pc := 237) d_X12_byTurns_237 ?_
                                    refine Tr.tp (-r219 + u83_120_101) ((w32_id (by and_intros <;> omega)).trans (by omega)) ?_
                                    refine Tr.iconst (pc := 238) d_X12_byTurns_238 (by decide) ?_
                                    refine Tr.isub (pc := 239) d_X12_byTurns_239 ?_
                                    refine Tr.tp (-r219 + u83_120_101 - 1) ((w32_id (by and_intros <;> omega)).trans (by omega)) ?_
                                    refine Tr.callS (pc := 240) (as := [_]) d_X12_byTurns_240 s_12_674 ok_X12_orders rfl rfl (Nat.le_of_ble_eq_true rfl) (Nat.le_of_ble_eq_true rfl) ?_
                                    refine Tr.imp (Tr.deep (by decide) (sp_X12_orders hS.1 (-r219 + u83_120_101 - 1) (by and_intros <;> omega))) ?_
                                    rintro M240 _ ⟨h240, r240, rfl, lr240, ur240, wr240⟩
                                    have hS := St.tr hS h240 (by decide) (by decide)
                                    replace wr240 := hd_i wr240
                                    refine Tr.sc [(1, r240), (1, r228), (1, p191_8)] rfl ?_
                                    refine Tr.lmul (pc := 243) d_X12_byTurns_243 ?_
                                    refine Tr.gen (P := fun v => (-9223372036854775808) ≤ v ∧ v ≤ 9223372036854775807) (w64_b _) (fun r243 er243 br243 => ?_)
                                    refine Tr.aload_n (pc := 244) (i := 0) d_X12_byTurns_244 rfl rfl ?_
                                    refine Tr.getf (pc := 245) d_X12_byTurns_245 f_12_324 (by decide) (by decide) (ty_120 hS.1.1) ?_
                                    refine Tr.tp 178 (fx_120_103 hS.1.1) ?_
                                    refine Tr.iload (pc := 248) (i := 10) d_X12_byTurns_248 rfl ?_
                                    refine Tr.iconst (pc := 250) d_X12_byTurns_250 (by decide) ?_
                                    refine Tr.iload (pc := 251) (i := 7) d_X12_byTurns_251 rfl ?_
                                    refine Tr.ishl (pc := 253) d_X12_byTurns_253 ?_
                                    refine Tr.gen (P := fun v => 1 ≤ v ∧ v ≤ 128) (shl_7 (by omega) (by omega)) (fun r253 er253 br253 => ?_)
                                    refine Tr.ior (pc := 254) d_X12_byTurns_254 ?_
                                    refine Tr.gen (P := fun v => 0 ≤ v ∧ v ≤ 255) (ior_8 (by omega) (by omega)) (fun r254 er254 br254 => ?_)
                                    refine Tr.lald (pc := 255) d_X12_byTurns_255 (ty_178 hS.1.1) (by omega) (by omega) ?_
                                    refine Tr.gen (P := fun v => (-9223372036854775808) ≤ v ∧ v ≤ 9223372036854775807) (ar_178 hS.1.2.1 _) (fun r255 er255 br255 => ?_)
                                    refine Tr.aload_n (pc := 256) (i := 0) d_X12_byTurns_256 rfl rfl ?_
                                    refine Tr.getf (pc := 257) d_X12_byTurns_257 f_12_324 (by decide) (by decide) (ty_120 hS.1.1) ?_
                                    refine Tr.tp 178 (fx_120_103 hS.1.1) ?_
                                    refine Tr.iload (pc := 260) (i := 10) d_X12_byTurns_260 rfl ?_
                                    refine Tr.lald (pc := 262) d_X12_byTurns_262 (ty_178 hS.1.1) (by omega) (by omega) ?_
                                    refine Tr.gen (P := fun v => (-9223372036854775808) ≤ v ∧ v ≤ 9223372036854775807) (ar_178 hS.1.2.1 _) (fun r262 er262 br262 => ?_)
                                    refine Tr.lsub (pc := 263) d_X12_byTurns_263 ?_
                                    refine Tr.gen (P := fun v => (-9223372036854775808) ≤ v ∧ v ≤ 9223372036854775807) (w64_b _) (fun r263 er263 br263 => ?_)
                                    refine Tr.lmul (pc := 264) d_X12_byTurns_264 ?_
                                    refine Tr.gen (P := fun v => (-9223372036854775808) ≤ v ∧ v ≤ 9223372036854775807) (w64_b _) (fun r264 er264 br264 => ?_)
                                    refine Tr.ladd (pc := 265) d_X12_byTurns_265 ?_
                                    refine Tr.gen (P := fun v => (-9223372036854775808) ≤ v ∧ v ≤ 9223372036854775807) (w64_b _) (fun r265 er265 br265 => ?_)
                                    refine Tr.lstore (pc := 266) (i := 8) (ls2 := [(8, (1, r265)), (11, (0, r219)), (0, (2, 120)), (4, (0, a4)), (7, (0, p83_7)), (10, (0, p191_10))]) d_X12_byTurns_266 (by decide) rfl ?_
                                    refine Tr.pick [2, 3, 4, 0, 5] (ls2 := [(0, (2, 120)), (4, (0, a4)), (7, (0, p83_7)), (8, (1, r265)), (10, (0, p191_10))]) rfl ?_
                                    exact J268 _ _ hS (by omega) ((kp_X12_orders_120_101 h240).trans ((kp_X12_orders_120_101 h228).trans ((kp_X12_bitsOf_120_101 h219).trans k191_120_101))) ((kp_X12_orders_120_85 h240).trans ((kp_X12_orders_120_85 h228).trans ((kp_X12_bitsOf_120_85 h219).trans k191_120_85))) ((kp_X12_orders_126_0 h240).trans ((kp_X12_orders_126_0 h228).trans ((kp_X12_bitsOf_126_0 h219).trans k191_126_0))) ((kp_X12_orders_129_0 h240).trans ((kp_X12_orders_129_0 h228).trans ((kp_X12_bitsOf_129_0 h219).trans k191_129_0)))
                                  · refine Tr.goto (pc := 213) (tgt := 268) d_X12_byTurns_213 rfl ?_
                                    refine Tr.pick [0, 1, 2, 3, 4] (ls2 := [(0, (2, 120)), (4, (0, a4)), (7, (0, p83_7)), (8, (1, p191_8)), (10, (0, p191_10))]) rfl ?_
                                    exact J268 _ _ hS (by omega) k191_120_101 k191_120_85 k191_126_0 k191_129_0
                            refine Tr.pick [2, 4, 5, 1, 0] (ls2 := [(0, (2, 120)), (4, (0, a4)), (7, (0, p83_7)), (8, (1, 0)), (10, (0, 0))]) rfl ?_
                            exact J191 _ _ _ _ hS (by omega) (by omega) k154_120_101 k154_120_85 k154_126_0 k154_129_0 (Nat.lt_succ_self _)
                          · refine Tr.aload_n (pc := 165) (i := 0) d_X12_byTurns_165 rfl rfl ?_
                            refine Tr.getf (pc := 166) d_X12_byTurns_166 f_12_324 (by decide) (by decide) (ty_120 hS.1.1) ?_
                            refine Tr.tp 178 (fx_120_103 hS.1.1) ?_
                            refine Tr.iload (pc := 169) (i := 8) d_X12_byTurns_169 rfl ?_
                            refine Tr.aload_n (pc := 171) (i := 0) d_X12_byTurns_171 rfl rfl ?_
                            refine Tr.iload_n (pc := 172) (i := 1) d_X12_byTurns_172 rfl rfl ?_
                            refine Tr.iload (pc := 173) (i := 8) d_X12_byTurns_173 rfl ?_
                            refine Tr.callV (pc := 175) (as := [_, _]) d_X12_byTurns_175 s_12_671 ok_X12_costOf rfl rfl (Nat.le_of_ble_eq_true rfl) (Nat.le_of_ble_eq_true rfl) (by decide) (ty_120 hS.1.1) ?_
                            refine Tr.imp (Tr.deep (by decide) (sp_X12_costOf_120 hS.1 ((kp_X12_byTurns_120_120_12 hS).trans en_120_12) a1 (by exact (hd_o z9_0).elim (fun h1 => by omega) (fun h1 => by omega)) p154_8 (by and_intros <;> omega) (Bk0.of hF_Bk0 (fun j => (ka_X12_byTurns_120_131 hS _)) (fun j => (ka_X12_byTurns_120_137 hS _)) (fun j => (ka_X12_byTurns_120_138 hS _)) (fun j => (ka_X12_byTurns_120_139 hS _)) (fun j => (ka_X12_byTurns_120_140 hS _)) (fun j => (ka_X12_byTurns_120_141 hS _)) (fun j => (ka_X12_byTurns_120_142 hS _)) (fun j => (ka_X12_byTurns_120_143 hS _)) (kp_X12_byTurns_120_126_0 hS) (kp_X12_byTurns_120_136_0 hS) (kp_X12_byTurns_120_123_0 hS) (kp_X12_byTurns_120_124_0 hS)))) ?_
                            rintro M175 _ ⟨h175, r175, rfl, lr175, ur175⟩
                            have hS := St.tr hS h175 (by decide) (by decide)
                            refine Tr.sc [(1, r175), (0, p154_8), (2, 178)] rfl ?_
                            refine Tr.lastS (pc := 178) (P := St Tru ws_X12_byTurns_120 as_X12_byTurns_120 M0) d_X12_byTurns_178 (ty_178 hS.1.1) (by omega) (by omega) (sa_178 hS (by decide) (by omega) trivial) (fun M178 hS w178 => ?_)
                            refine Tr.iincV (pc := 179) (n2 := (p154_8 + 1)) (ls2 := [(8, (0, (p154_8 + 1))), (0, (2, 120)), (1, (0, a1)), (4, (0, a4)), (7, (0, p83_7))]) d_X12_byTurns_179 rfl (by decide) ((w32_id (by and_intros <;> omega)).trans (by omega)) rfl ?_
                            refine Tr.goto (pc := 182) (tgt := 154) d_X12_byTurns_182 rfl ?_
                            refine Tr.pick [1, 2, 3, 4, 0] (ls2 := [(0, (2, 120)), (1, (0, a1)), (4, (0, a4)), (7, (0, p83_7)), (8, (0, (p154_8 + 1)))]) rfl ?_
                            exact J154 _ _ hS (by and_intros <;> omega) ((Wr.b w178 rfl).trans ((kp_X12_costOf_120_120_101 h175).trans k154_120_101)) ((Wr.b w178 rfl).trans ((kp_X12_costOf_120_120_85 h175).trans k154_120_85)) ((Wr.b w178 rfl).trans ((kp_X12_costOf_120_126_0 h175).trans k154_126_0)) ((Wr.b w178 rfl).trans ((kp_X12_costOf_120_129_0 h175).trans k154_129_0)) (me_lt hm154 (by omega) (by omega))
                      refine Tr.pick [1, 2, 4, 6, 0] (ls2 := [(0, (2, 120)), (1, (0, a1)), (4, (0, a4)), (7, (0, p83_7)), (8, (0, 0))]) rfl ?_
                      exact J154 _ _ _ hS (by omega) k83_120_101 k83_120_85 k83_126_0 k83_129_0 (Nat.lt_succ_self _)
                    · refine Tr.lload (pc := 97) (i := 5) d_X12_byTurns_97 rfl ?_
                      refine Tr.iload (pc := 99) (i := 8) d_X12_byTurns_99 rfl ?_
                      refine Tr.lshr (pc := 101) d_X12_byTurns_101 ?_
                      refine Tr.gen (P := fun v => ((-9223372036854775808) ≤ v ∧ v ≤ 9223372036854775807) ∧ (r42 ≠ 0 ∨ v = 0)) (lshr_z _ _) (fun r101 er101 br101 => ?_)
                      have br101d0 := hd_i br101.2
                      replace br101 := And.intro br101.1.1  (br101.1.2)
                      refine Tr.lconst (pc := 102) (v := 1) d_X12_byTurns_102 rfl (by decide) ?_
                      refine Tr.land (pc := 103) d_X12_byTurns_103 ?_
                      refine Tr.gen (P := fun v => (0 ≤ v ∧ v ≤ 1) ∧ tpS r42 p83_8 = v + tpS r42 (p83_8 + 1) ∧ 0 ≤ tpS r42 (p83_8 + 1)) (tpS_l er101 (by omega) (by omega)) (fun r103 er103 br103 => ?_)
                      refine Tr.lconst (pc := 104) (v := 0) d_X12_byTurns_104 rfl (by decide) ?_
                      refine Tr.lcmp (pc := 105) d_X12_byTurns_105 ?_
                      refine Tr.gen (P := fun v => (v = 1 ∧ 0 < r103) ∨ (v = 0 ∧ r103 = 0) ∨ (v = -1 ∧ r103 < 0)) (f_lcmp_c _ _) (fun r105 er105 br105 => ?_)
                      replace br105 := hd_i br105
                      have J145 : ∀ (M : Mem) (p145_7 u145_120_101 : Int), St Tru ws_X12_byTurns_120 as_X12_byTurns_120 M0 M → (0 ≤ p145_7 ∧ p145_7 ≤ 8) → (0 ≤ u145_120_101 ∧ u145_120_101 ≤ 8) → rd M 120 101 = u145_120_101 → rd M 120 85 = r1 → rd M 126 0 = g126_0 → rd M 129 0 = w21_129_0 → (u145_120_101 + tpS r42 (p83_8 + 1) ≤ 8) → (0 ≤ p145_7 ∧ p145_7 ≤ 7) → Tr l K 4 mX12_byTurns 145 [(0, (2, 120)), (1, (0, a1)), (3, (0, a3)), (4, (0, a4)), (5, (1, r42)), (7, (0, p145_7)), (8, (0, p83_8))] [] M (q_X12_byTurns_120 M0) := by
                        intro M p145_7 u145_120_101 hS bp145_7 bu145_120_101 k145_120_101 k145_120_85 k145_126_0 k145_129_0 t145_0 t145_1
                        clear k83_120_101 k83_120_85 k83_126_0 k83_129_0 er101 er103 er105
                        refine Tr.iincV (pc := 145) (n2 := (p83_8 + 1)) (ls2 := [(8, (0, (p83_8 + 1))), (0, (2, 120)), (1, (0, a1)), (3, (0, a3)), (4, (0, a4)), (5, (1, r42)), (7, (0, p145_7))]) d_X12_byTurns_145 rfl (by decide) ((w32_id (by and_intros <;> omega)).trans (by omega)) rfl ?_
                        refine Tr.goto (pc := 148) (tgt := 83) d_X12_byTurns_148 rfl ?_
                        refine Tr.pick [1, 2, 3, 4, 5, 6, 0] (ls2 := [(0, (2, 120)), (1, (0, a1)), (3, (0, a3)), (4, (0, a4)), (5, (1, r42)), (7, (0, p145_7)), (8, (0, (p83_8 + 1)))]) rfl ?_
                        exact J83 _ _ _ _ hS (by and_intros <;> omega) (by and_intros <;> omega) (by and_intros <;> omega) k145_120_101 k145_120_85 k145_126_0 k145_129_0 (by omega) (by and_intros <;> omega) (me_lt hm83 (by omega) (by omega))
                      refine Tr.if_ne (pc := 106) (tgt := 112) d_X12_byTurns_106 rfl (fun c106 => ?_) (fun c106 => ?_)
                      · replace c106 := hd_i c106
                        refine Tr.iload (pc := 112) (i := 8) d_X12_byTurns_112 rfl ?_
                        refine Tr.iload_n (pc := 114) (i := 3) d_X12_byTurns_114 rfl rfl ?_
                        have J124 : ∀ (M : Mem) (p124_7 : Int), St Tru ws_X12_byTurns_120 as_X12_byTurns_120 M0 M → (0 ≤ p124_7 ∧ p124_7 ≤ 8) → rd M 120 101 = u83_120_101 → rd M 120 85 = r1 → rd M 126 0 = g126_0 → rd M 129 0 = w21_129_0 → (u83_120_101 + 1 + tpS r42 (p83_8 + 1) ≤ 8) → (0 ≤ p124_7 ∧ p124_7 ≤ 7) → Tr l K 4 mX12_byTurns 124 [(0, (2, 120)), (1, (0, a1)), (3, (0, a3)), (4, (0, a4)), (5, (1, r42)), (7, (0, p124_7)), (8, (0, p83_8))] [] M (q_X12_byTurns_120 M0) := by
                          intro M p124_7 hS bp124_7 k124_120_101 k124_120_85 k124_126_0 k124_129_0 t124_0 t124_1
                          clear k83_120_101 k83_120_85 k83_126_0 k83_129_0 er101 er103 er105
                          refine Tr.aload_n (pc := 124) (i := 0) d_X12_byTurns_124 rfl rfl ?_
                          refine Tr.getf (pc := 125) d_X12_byTurns_125 f_12_315 (by decide) (by decide) (ty_120 hS.1.1) ?_
                          refine Tr.tp 176 (fx_120_100 hS.1.1) ?_
                          refine Tr.aload_n (pc := 128) (i := 0) d_X12_byTurns_128 rfl rfl ?_
                          refine Tr.getf (pc := 129) d_X12_byTurns_129 f_12_318 (by decide) (by decide) (ty_120 hS.1.1) ?_
                          refine Tr.tp u83_120_101 k124_120_101 ?_
                          refine Tr.iload (pc := 132) (i := 8) d_X12_byTurns_132 rfl ?_
                          refine Tr.iastS (pc := 134) (P := St Tru ws_X12_byTurns_120 as_X12_byTurns_120 M0) d_X12_byTurns_134 (ty_176 hS.1.1) (by omega) (by omega) (sa_176 hS (by decide) (by and_intros <;> omega) trivial) (fun M134 hS w134 => ?_)
                          refine Tr.aload_n (pc := 135) (i := 0) d_X12_byTurns_135 rfl rfl ?_
                          refine Tr.dup (pc := 136) d_X12_byTurns_136 ne21 ?_
                          refine Tr.getf (pc := 137) d_X12_byTurns_137 f_12_318 (by decide) (by decide) (ty_120 hS.1.1) ?_
                          refine Tr.tp u83_120_101 ((Wr.b w134 rfl).trans k124_120_101) ?_
                          refine Tr.iconst (pc := 140) d_X12_byTurns_140 (by decide) ?_
                          refine Tr.iadd (pc := 141) d_X12_byTurns_141 ?_
                          refine Tr.tp (u83_120_101 + 1) ((w32_id (by and_intros <;> omega)).trans (by omega)) ?_
                          refine Tr.putfS (pc := 142) (P := St Tru ws_X12_byTurns_120 as_X12_byTurns_120 M0) d_X12_byTurns_142 f_12_318 (by decide) (by decide) (ty_120 hS.1.1) (st_120_101 hS (by decide) (by and_intros <;> omega) trivial) (fun M142 hS w142 => ?_)
                          refine Tr.pick [0, 1, 2, 3, 4, 5, 6] (ls2 := [(0, (2, 120)), (1, (0, a1)), (3, (0, a3)), (4, (0, a4)), (5, (1, r42)), (7, (0, p124_7)), (8, (0, p83_8))]) rfl ?_
                          exact J145 _ _ _ hS (by and_intros <;> omega) (by and_intros <;> omega) w142.1 ((Wr.b w142 rfl).trans ((Wr.b w134 rfl).trans k124_120_85)) ((Wr.b w142 rfl).trans ((Wr.b w134 rfl).trans k124_126_0)) ((Wr.b w142 rfl).trans ((Wr.b w134 rfl).trans k124_129_0)) (by omega) (by and_intros <;> omega)
                        refine Tr.icmp_ne (pc := 115) (tgt := 124) d_X12_byTurns_115 rfl (fun c115 => ?_) (fun c115 => ?_)
                        · replace c115 := hd_i c115
                          refine Tr.pick [0, 1, 2, 3, 4, 5, 6] (ls2 := [(0, (2, 120)), (1, (0, a1)), (3, (0, a3)), (4, (0, a4)), (5, (1, r42)), (7, (0, p83_7)), (8, (0, p83_8))]) rfl ?_
                          exact J124 _ _ hS (by and_intros <;> omega) k83_120_101 k83_120_85 k83_126_0 k83_129_0 (by exact (ne_o (hd_o c106)).elim (fun h1 => (hd_o br105).elim (fun h2 => by omega) (fun h2 => h2.elim (fun h2 => by omega) (fun h2 => by omega))) (fun h1 => (hd_o br105).elim (fun h2 => by omega) (fun h2 => h2.elim (fun h2 => by omega) (fun h2 => by omega)))) (by and_intros <;> omega)
                        · refine Tr.aload_n (pc := 118) (i := 0) d_X12_byTurns_118 rfl rfl ?_
                          refine Tr.getf (pc := 119) d_X12_byTurns_119 f_12_318 (by decide) (by decide) (ty_120 hS.1.1) ?_
                          refine Tr.tp u83_120_101 k83_120_101 ?_
                          refine Tr.istore (pc := 122) (i := 7) (ls2 := [(7, (0, u83_120_101)), (0, (2, 120)), (1, (0, a1)), (3, (0, a3)), (4, (0, a4)), (5, (1, r42)), (8, (0, p83_8))]) d_X12_byTurns_122 (by decide) rfl ?_
                          refine Tr.pick [1, 2, 3, 4, 5, 0, 6] (ls2 := [(0, (2, 120)), (1, (0, a1)), (3, (0, a3)), (4, (0, a4)), (5, (1, r42)), (7, (0, u83_120_101)), (8, (0, p83_8))]) rfl ?_
                          exact J124 _ _ hS (by and_intros <;> omega) k83_120_101 k83_120_85 k83_126_0 k83_129_0 (by exact (ne_o (hd_o c106)).elim (fun h1 => (hd_o br105).elim (fun h2 => by omega) (fun h2 => h2.elim (fun h2 => by omega) (fun h2 => by omega))) (fun h1 => (hd_o br105).elim (fun h2 => by omega) (fun h2 => h2.elim (fun h2 => by omega) (fun h2 => by omega)))) (by exact (ne_o (hd_o c106)).elim (fun h1 => (hd_o br105).elim (fun h2 => by omega) (fun h2 => h2.elim (fun h2 => by omega) (fun h2 => by omega))) (fun h1 => (hd_o br105).elim (fun h2 => by omega) (fun h2 => h2.elim (fun h2 => by omega) (fun h2 => by omega))))
                      · refine Tr.goto (pc := 109) (tgt := 145) d_X12_byTurns_109 rfl ?_
                        refine Tr.pick [0, 1, 2, 3, 4, 5, 6] (ls2 := [(0, (2, 120)), (1, (0, a1)), (3, (0, a3)), (4, (0, a4)), (5, (1, r42)), (7, (0, p83_7)), (8, (0, p83_8))]) rfl ?_
                        exact J145 _ _ _ hS (by and_intros <;> omega) (by and_intros <;> omega) k83_120_101 k83_120_85 k83_126_0 k83_129_0 (by omega) (by and_intros <;> omega)
                refine Tr.pick [3, 4, 6, 7, 2, 1, 0] (ls2 := [(0, (2, 120)), (1, (0, a1)), (3, (0, a3)), (4, (0, a4)), (5, (1, r42)), (7, (0, 0)), (8, (0, 0))]) rfl ?_
                have jt := tpS_0 r42
                exact J83 _ _ _ _ _ hS (by omega) (by omega) (by omega) w74.1 ((Wr.b w74 rfl).trans ((kp_X12_bitsOf_120_85 h49).trans ((kp_X12_linesIn_120_120_85 h42).trans ((kp_X12_finds_120_120_85 h30).trans ((kp_X12_isLine_120_120_85 h21).trans ((kp_X12_isPart_120_120_85 h9).trans er1)))))) ((Wr.b w74 rfl).trans ((kp_X12_bitsOf_126_0 h49).trans ((kp_X12_linesIn_120_126_0 h42).trans ((kp_X12_finds_120_126_0 h30).trans ((kp_X12_isLine_120_126_0 h21).trans ((kp_X12_isPart_120_126_0 h9).trans eg126_0)))))) ((Wr.b w74 rfl).trans ((kp_X12_bitsOf_129_0 h49).trans ((kp_X12_linesIn_120_129_0 h42).trans ((kp_X12_finds_120_129_0 h30).trans ((kp_X12_isLine_120_129_0 h21).trans ew21_129_0))))) (by omega) (by and_intros <;> omega) (Nat.lt_succ_self _)
              · refine Tr.ldc2 (pc := 68) d_X12_byTurns_68 kl_12_669 (by decide) ?_
                exact Tr.lret (pc := 71) d_X12_byTurns_71 rfl ⟨hS, _, rfl, by omega, by omega⟩
          · refine Tr.ldc2 (pc := 36) d_X12_byTurns_36 kl_12_669 (by decide) ?_
            exact Tr.lret (pc := 39) d_X12_byTurns_39 rfl ⟨hS, _, rfl, by omega, by omega⟩
end
/-! 39z.more -/
section
/-! for the other bank -/
theorem wk_b2 {d2 p r j S : Int} (h : (5 < r → 1 ≤ p) ∧ (5 < r → r ≠ 18 → 2 ≤ p) ∧ d2 = p + dl r ∧ p ≤ j - S ∧ ((r ≤ 5 ∧ dl r = 1) ∨ (r = 18 ∧ dl r = 0) ∨ (5 < r ∧ r ≠ 18 ∧ dl r = -1))) (h0 : 0 ≤ p) (hj : j - S ≤ 899) : (r ≤ 5 → p + 1 = d2 ∧ 0 ≤ p + 1 ∧ p + 1 ≤ 900) ∧ (r = 18 → p = d2 ∧ 0 ≤ p ∧ p ≤ 900) ∧ (5 < r → r ≠ 18 → p - 1 = d2 ∧ 0 ≤ p - 1 ∧ p - 1 ≤ 900) := wk_b (j := j - S) (S := 0) ⟨h.1, h.2.1, h.2.2.1, by have := h.2.2.2.1; omega, h.2.2.2.2⟩ h0 (by omega) hj
end
