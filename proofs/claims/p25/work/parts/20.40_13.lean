set_option maxRecDepth 100000 in
set_option maxHeartbeats 4000000 in
theorem ns_X12_goesOn_120_w1 {l : Launch} {K : EC} {M0 : Mem} {G120_3 G120_4 G120_5 G120_7 G120_8 G120_36 G120_43 G120_44 G120_46 G120_47 G120_50 G136_0 G9001_0 G9002_0 G9003_0 G9005_0 G9010_0 : Int} (hI : In Pm0 M0) (k120_3 : rd M0 120 3 = G120_3) (k120_4 : rd M0 120 4 = G120_4) (k120_5 : rd M0 120 5 = G120_5) (k120_7 : rd M0 120 7 = G120_7) (k120_8 : rd M0 120 8 = G120_8) (k120_36 : rd M0 120 36 = G120_36) (k120_43 : rd M0 120 43 = G120_43) (k120_44 : rd M0 120 44 = G120_44) (k120_46 : rd M0 120 46 = G120_46) (k120_47 : rd M0 120 47 = G120_47) (k120_50 : rd M0 120 50 = G120_50) (k136_0 : rd M0 136 0 = G136_0) (k9001_0 : nb2v M0 = G9001_0) (k9002_0 : n4v M0 = G9002_0) (k9003_0 : Dv0 M0 = G9003_0) (k9005_0 : fr0 M0 = G9005_0) (k9010_0 : tav M0 = G9010_0) (en_120_37 : rd M0 120 37 = 0)   (hq0 : G120_3 = 0 ∨ G120_4 + 1 ≤ G120_5) (hq1 : G120_4 ≤ G120_5) (hq2 : G120_3 ≠ 1 ∨ G120_4 + 2 ≤ G120_5 ∨ G120_7 < 256) (hq3 : G120_8 = 0) (hq4 : 2 * G120_46 + 1 ≤ G120_4) (hq5 : G9001_0 + G9002_0 + 1 ≤ G9003_0) (hq6 : G120_47 = 1) (hq7 : G120_36 + G120_46 + G120_44 ≤ G120_4) (hq8 : 1 ≤ G120_43) (hq9 : G120_50 + G120_43 ≤ G120_44 + 1) (hq10 : G9005_0 ≤ 1) (hq11 : 1 ≤ G136_0) : Tr l K 2 mX12_goesOn 0 [(0, (2, 120))] [] M0 (fun M' r => St Pm0 ws_X12_goesOn_120_w1 as_X12_goesOn_120_w1 M0 M' ∧ ∃ S120_3 S120_4 S120_5 S120_7 S120_8 S120_36 S120_43 S120_44 S120_46 S120_47 S9001_0 S9002_0 S9003_0 S9005_0 S9010_0 : Int, rd M' 120 3 = S120_3 ∧ (0 ≤ S120_3 ∧ S120_3 ≤ 3) ∧ rd M' 120 4 = S120_4 ∧ (0 ≤ S120_4 ∧ S120_4 ≤ 900) ∧ rd M' 120 5 = S120_5 ∧ (0 ≤ S120_5 ∧ S120_5 ≤ 900) ∧ rd M' 120 7 = S120_7 ∧ ((-9223372036854775808) ≤ S120_7 ∧ S120_7 ≤ 9223372036854775807) ∧ rd M' 120 8 = S120_8 ∧ (0 ≤ S120_8 ∧ S120_8 ≤ 5) ∧ rd M' 120 36 = S120_36 ∧ (0 ≤ S120_36 ∧ S120_36 ≤ 900) ∧ rd M' 120 43 = S120_43 ∧ (0 ≤ S120_43 ∧ S120_43 ≤ 20) ∧ rd M' 120 44 = S120_44 ∧ (0 ≤ S120_44 ∧ S120_44 ≤ 8) ∧ rd M' 120 46 = S120_46 ∧ (0 ≤ S120_46 ∧ S120_46 ≤ 500) ∧ rd M' 120 47 = S120_47 ∧ (0 ≤ S120_47 ∧ S120_47 ≤ 1) ∧ nb2v M' = S9001_0 ∧ (0 ≤ S9001_0 ∧ S9001_0 ≤ 1000000) ∧ n4v M' = S9002_0 ∧ (0 ≤ S9002_0 ∧ S9002_0 ≤ 20) ∧ Dv0 M' = S9003_0 ∧ ((-1000) ≤ S9003_0 ∧ S9003_0 ≤ 1000) ∧ fr0 M' = S9005_0 ∧ (0 ≤ S9005_0 ∧ S9005_0 ≤ 5) ∧ tav M' = S9010_0 ∧ ((-1) ≤ S9010_0 ∧ S9010_0 ≤ 1800) ∧ ∃ v : Int, r = some (0, v) ∧ 0 ≤ v ∧ v ≤ 1 ∧ Hd (S120_3 = 0 ∨ S120_4 + 1 ≤ S120_5) ∧ (S120_4 ≤ S120_5) ∧ Hd (S120_3 ≠ 1 ∨ S120_4 + 2 ≤ S120_5 ∨ S120_7 < 256) ∧ (G120_4 ≤ S120_4 ∧ G120_5 ≤ S120_5 ∧ G9010_0 ≤ S9010_0) ∧ Hd (G120_8 = 0 ∨ S120_8 = G120_8) ∧ (S120_36 + S120_46 + S120_44 ≤ S120_4) ∧ (1 ≤ S120_43) ∧ (G120_50 + S120_43 ≤ S120_44 + 1) ∧ (S9005_0 ≤ 1) ∧ (1 ≤ G136_0) ∧ Hd (v = 0 ∨ 1 ≤ S120_8 ∨ G9010_0 < S9010_0) ∧ Hd (1 ≤ S120_8 ∨ 2 * S120_46 + S120_47 ≤ S120_4) ∧ Hd (v = 0 ∨ 1 ≤ S120_8 ∨ S9001_0 + S9002_0 + S120_47 ≤ S9003_0)) := by
  subst k120_3
  subst k120_4
  subst k120_5
  subst k120_7
  subst k120_8
  subst k120_36
  subst k120_43
  subst k120_44
  subst k120_46
  subst k120_47
  subst k120_50
  subst k136_0
  subst k9001_0
  subst k9002_0
  subst k9003_0
  subst k9005_0
  subst k9010_0
  refine Tr.imp (sp_X12_goesOn_120_w1 hI en_120_37 hq0 hq1 hq2 hq3 hq4 hq5 hq6 hq7 hq8 hq9 hq10 hq11) ?_
  rintro M' _ ⟨hS, v, rfl, lr, ur, z0, z1, z2, z3, z4, z5, z6, z7, z8, z9, z10, z11, z12⟩
  rewrite [show rd M' 120 50 = rd M0 120 50 from ((St.kp hS (by decide) (by decide) (by decide)).trans rfl)] at z7
  rewrite [show rd M' 136 0 = rd M0 136 0 from ((St.kp hS (by decide) (by decide) (by decide)).trans rfl)] at z9
  exact ⟨hS, _, _, _, _, _, _, _, _, _, _, _, _, _, _, _, rfl, ir_120_3 hS.1.2.1, rfl, ir_120_4 hS.1.2.1, rfl, ir_120_5 hS.1.2.1, rfl, ir_120_7 hS.1.2.1, rfl, ir_120_8 hS.1.2.1, rfl, ir_120_36 hS.1.2.1, rfl, ir_120_43 hS.1.2.1, rfl, ir_120_44 hS.1.2.1, rfl, ir_120_46 hS.1.2.1, rfl, ir_120_47 hS.1.2.1, rfl, (nb2v_b hS.1.2.1), rfl, (n4v_b hS.1.2.1), rfl, (Dv0_b hS.1.2.1), rfl, (fr0_b hS.1.2.1), rfl, (tav_b hS.1.2.1), v, rfl, lr, ur, hd_i z0, z1, hd_i z2, z3, hd_i z4, z5, z6, z7, z8, z9, hd_i z10, hd_i z11, hd_i z12⟩

def ws_X12_reads_120_w1 : List (Int × Int) := [(120, 3), (120, 4), (120, 5), (120, 6), (120, 7), (120, 8), (120, 9), (120, 36), (120, 43), (120, 44), (120, 46), (120, 47)]
def as_X12_reads_120_w1 : List Int := [143, 144, 145, 146, 147, 148, 149, 150]
def q_X12_reads_120_w1 (a1 : Int) (M0 M' : Mem) (r : Option PV) : Prop := St Pm0 ws_X12_reads_120_w1 as_X12_reads_120_w1 M0 M' ∧ r = none ∧ (rd M' 120 3 = 0 ∨ rd M' 120 4 + 1 ≤ rd M' 120 5) ∧ (rd M' 120 4 ≤ rd M' 120 5) ∧ (rd M' 120 3 ≠ 1 ∨ rd M' 120 4 + 2 ≤ rd M' 120 5 ∨ rd M' 120 7 < 256) ∧ (rd M0 120 4 ≤ rd M' 120 4 ∧ rd M0 120 5 ≤ rd M' 120 5 ∧ tav M0 ≤ tav M') ∧ (rd M0 120 8 = 0 ∨ rd M' 120 8 = rd M0 120 8) ∧ (rd M' 120 50 ≤ rd M' 120 44) ∧ (rd M' 120 36 + rd M' 120 44 ≤ rd M' 120 4)
theorem kp_X12_reads_120_w1_120_37 {q : Mem → Prop} {M0 M : Mem} (h : St q ws_X12_reads_120_w1 as_X12_reads_120_w1 M0 M) : rd M 120 37 = rd M0 120 37 := St.kp h (by decide) (by decide) (by decide)
theorem kp_X12_goesOn_120_w1_120_50 {q : Mem → Prop} {M0 M : Mem} (h : St q ws_X12_goesOn_120_w1 as_X12_goesOn_120_w1 M0 M) : rd M 120 50 = rd M0 120 50 := St.kp h (by decide) (by decide) (by decide)
theorem kp_X12_goesOn_120_w1_136_0 {q : Mem → Prop} {M0 M : Mem} (h : St q ws_X12_goesOn_120_w1 as_X12_goesOn_120_w1 M0 M) : rd M 136 0 = rd M0 136 0 := St.kp h (by decide) (by decide) (by decide)
theorem kp_X12_operand_120_w1_120_50 {q : Mem → Prop} {M0 M : Mem} (h : St q ws_X12_operand_120_w1 as_X12_operand_120_w1 M0 M) : rd M 120 50 = rd M0 120 50 := St.kp h (by decide) (by decide) (by decide)
theorem kp_X12_operand_120_w1_136_0 {q : Mem → Prop} {M0 M : Mem} (h : St q ws_X12_operand_120_w1 as_X12_operand_120_w1 M0 M) : rd M 136 0 = rd M0 136 0 := St.kp h (by decide) (by decide) (by decide)
theorem kp_X12_pushes_120_w1_120_36 {q : Mem → Prop} {M0 M : Mem} (h : St q ws_X12_pushes_120_w1 as_X12_pushes_120_w1 M0 M) : rd M 120 36 = rd M0 120 36 := St.kp h (by decide) (by decide) (by decide)
theorem kp_X12_pushes_120_w1_120_46 {q : Mem → Prop} {M0 M : Mem} (h : St q ws_X12_pushes_120_w1 as_X12_pushes_120_w1 M0 M) : rd M 120 46 = rd M0 120 46 := St.kp h (by decide) (by decide) (by decide)
theorem kp_X12_pushes_120_w1_120_47 {q : Mem → Prop} {M0 M : Mem} (h : St q ws_X12_pushes_120_w1 as_X12_pushes_120_w1 M0 M) : rd M 120 47 = rd M0 120 47 := St.kp h (by decide) (by decide) (by decide)
theorem kp_X12_pushes_120_w1_120_50 {q : Mem → Prop} {M0 M : Mem} (h : St q ws_X12_pushes_120_w1 as_X12_pushes_120_w1 M0 M) : rd M 120 50 = rd M0 120 50 := St.kp h (by decide) (by decide) (by decide)
theorem kp_X12_pushes_120_w1_120_6 {q : Mem → Prop} {M0 M : Mem} (h : St q ws_X12_pushes_120_w1 as_X12_pushes_120_w1 M0 M) : rd M 120 6 = rd M0 120 6 := St.kp h (by decide) (by decide) (by decide)
theorem kp_X12_pushes_120_w1_136_0 {q : Mem → Prop} {M0 M : Mem} (h : St q ws_X12_pushes_120_w1 as_X12_pushes_120_w1 M0 M) : rd M 136 0 = rd M0 136 0 := St.kp h (by decide) (by decide) (by decide)
theorem ka_X12_pushes_120_w1_150 {q : Mem → Prop} {M0 M : Mem} (h : St q ws_X12_pushes_120_w1 as_X12_pushes_120_w1 M0 M) (j : Int) : rd M 150 j = rd M0 150 j := St.ka h (by decide) (by decide) (by decide)
theorem ka_X12_pushes_120_w1_143 {q : Mem → Prop} {M0 M : Mem} (h : St q ws_X12_pushes_120_w1 as_X12_pushes_120_w1 M0 M) (j : Int) : rd M 143 j = rd M0 143 j := St.ka h (by decide) (by decide) (by decide)
theorem ka_X12_pushes_120_w1_140 {q : Mem → Prop} {M0 M : Mem} (h : St q ws_X12_pushes_120_w1 as_X12_pushes_120_w1 M0 M) (j : Int) : rd M 140 j = rd M0 140 j := St.ka h (by decide) (by decide) (by decide)
set_option maxRecDepth 100000 in
set_option maxHeartbeats 4000000 in
theorem sp_X12_reads_120_w1 {l : Launch} {K : EC} {M0 : Mem} (hI : In Pm0 M0) (en_120_37 : rd M0 120 37 = 0) (a1 : Int) (ha1 : 0 ≤ a1 ∧ a1 ≤ 1)  (hq0 : rd M0 120 3 = 0 ∨ rd M0 120 4 + 1 ≤ rd M0 120 5) (hq1 : rd M0 120 4 ≤ rd M0 120 5) (hq2 : rd M0 120 3 ≠ 1 ∨ rd M0 120 4 + 2 ≤ rd M0 120 5 ∨ rd M0 120 7 < 256) (hq3 : rd M0 120 50 ≤ rd M0 120 44) (hq4 : rd M0 120 36 + rd M0 120 44 ≤ rd M0 120 4) (hq5 : Dv0 M0 = 0) (hq6 : 1 ≤ rd M0 136 0) : Tr l K 4 mX12_reads 0 [(0, (2, 120)), (1, (0, a1))] [] M0 (q_X12_reads_120_w1 a1 M0) := by
  have hS : St Pm0 ws_X12_reads_120_w1 as_X12_reads_120_w1 M0 M0 := St.rf hI
  obtain ⟨g120_8, eg120_8⟩ : ∃ v, rd M0 120 8 = v := ⟨_, rfl⟩
  have bg120_8 : 0 ≤ g120_8 ∧ g120_8 ≤ 5 := by rw [← eg120_8]; exact ir_120_8 hI.2.1
  obtain ⟨g120_3, eg120_3⟩ : ∃ v, rd M0 120 3 = v := ⟨_, rfl⟩
  have bg120_3 : 0 ≤ g120_3 ∧ g120_3 ≤ 3 := by rw [← eg120_3]; exact ir_120_3 hI.2.1
  obtain ⟨g120_4, eg120_4⟩ : ∃ v, rd M0 120 4 = v := ⟨_, rfl⟩
  have bg120_4 : 0 ≤ g120_4 ∧ g120_4 ≤ 900 := by rw [← eg120_4]; exact ir_120_4 hI.2.1
  obtain ⟨g120_5, eg120_5⟩ : ∃ v, rd M0 120 5 = v := ⟨_, rfl⟩
  have bg120_5 : 0 ≤ g120_5 ∧ g120_5 ≤ 900 := by rw [← eg120_5]; exact ir_120_5 hI.2.1
  obtain ⟨g120_7, eg120_7⟩ : ∃ v, rd M0 120 7 = v := ⟨_, rfl⟩
  have bg120_7 : (-9223372036854775808) ≤ g120_7 ∧ g120_7 ≤ 9223372036854775807 := by rw [← eg120_7]; exact ir_120_7 hI.2.1
  obtain ⟨g9010_0, eg9010_0⟩ : ∃ v, tav M0 = v := ⟨_, rfl⟩
  have bg9010_0 : (-1) ≤ g9010_0 ∧ g9010_0 ≤ 1800 := by rw [← eg9010_0]; exact (tav_b hI.2.1)
  obtain ⟨g120_6, eg120_6⟩ : ∃ v, rd M0 120 6 = v := ⟨_, rfl⟩
  have bg120_6 : (-2147483648) ≤ g120_6 ∧ g120_6 ≤ 2147483647 := by rw [← eg120_6]; exact ir_120_6 hI.2.1
  obtain ⟨g120_36, eg120_36⟩ : ∃ v, rd M0 120 36 = v := ⟨_, rfl⟩
  have bg120_36 : 0 ≤ g120_36 ∧ g120_36 ≤ 900 := by rw [← eg120_36]; exact ir_120_36 hI.2.1
  obtain ⟨g120_46, eg120_46⟩ : ∃ v, rd M0 120 46 = v := ⟨_, rfl⟩
  have bg120_46 : 0 ≤ g120_46 ∧ g120_46 ≤ 500 := by rw [← eg120_46]; exact ir_120_46 hI.2.1
  obtain ⟨g120_44, eg120_44⟩ : ∃ v, rd M0 120 44 = v := ⟨_, rfl⟩
  have bg120_44 : 0 ≤ g120_44 ∧ g120_44 ≤ 8 := by rw [← eg120_44]; exact ir_120_44 hI.2.1
  obtain ⟨g120_43, eg120_43⟩ : ∃ v, rd M0 120 43 = v := ⟨_, rfl⟩
  have bg120_43 : 0 ≤ g120_43 ∧ g120_43 ≤ 20 := by rw [← eg120_43]; exact ir_120_43 hI.2.1
  obtain ⟨g120_50, eg120_50⟩ : ∃ v, rd M0 120 50 = v := ⟨_, rfl⟩
  have bg120_50 : 0 ≤ g120_50 ∧ g120_50 ≤ 20 := by rw [← eg120_50]; exact ir_120_50 hI.2.1
  obtain ⟨g9001_0, eg9001_0⟩ : ∃ v, nb2v M0 = v := ⟨_, rfl⟩
  have bg9001_0 : 0 ≤ g9001_0 ∧ g9001_0 ≤ 1000000 := by rw [← eg9001_0]; exact (nb2v_b hI.2.1)
  obtain ⟨g9002_0, eg9002_0⟩ : ∃ v, n4v M0 = v := ⟨_, rfl⟩
  have bg9002_0 : 0 ≤ g9002_0 ∧ g9002_0 ≤ 20 := by rw [← eg9002_0]; exact (n4v_b hI.2.1)
  obtain ⟨g9005_0, eg9005_0⟩ : ∃ v, fr0 M0 = v := ⟨_, rfl⟩
  have bg9005_0 : 0 ≤ g9005_0 ∧ g9005_0 ≤ 5 := by rw [← eg9005_0]; exact (fr0_b hI.2.1)
  obtain ⟨g9003_0, eg9003_0⟩ : ∃ v, Dv0 M0 = v := ⟨_, rfl⟩
  have bg9003_0 : (-1000) ≤ g9003_0 ∧ g9003_0 ≤ 1000 := by rw [← eg9003_0]; exact (Dv0_b hI.2.1)
  obtain ⟨g136_0, eg136_0⟩ : ∃ v, rd M0 136 0 = v := ⟨_, rfl⟩
  have bg136_0 : 0 ≤ g136_0 ∧ g136_0 ≤ 200 := by rw [← eg136_0]; exact ir_136_0 hI.2.1
  obtain ⟨g120_47, eg120_47⟩ : ∃ v, rd M0 120 47 = v := ⟨_, rfl⟩
  have bg120_47 : 0 ≤ g120_47 ∧ g120_47 ≤ 1 := by rw [← eg120_47]; exact ir_120_47 hI.2.1
  replace hq0 := hd_i hq0
  replace hq2 := hd_i hq2
  refine Tr.aload_n (pc := 0) (i := 0) d_X12_reads_0 rfl rfl ?_
  refine Tr.getf (pc := 1) d_X12_reads_1 f_12_36 (by decide) (by decide) (ty_120 hS.1.1) ?_
  refine Tr.tp g120_8 eg120_8 ?_
  refine Tr.if_le (pc := 4) (tgt := 8) d_X12_reads_4 rfl (fun c4 => ?_) (fun c4 => ?_)
  · refine Tr.aload_n (pc := 8) (i := 0) d_X12_reads_8 rfl rfl ?_
    refine Tr.iconst (pc := 9) d_X12_reads_9 (by decide) ?_
    refine Tr.putfS (pc := 10) (P := St Pm0 ws_X12_reads_120_w1 as_X12_reads_120_w1 M0) d_X12_reads_10 f_12_143 (by decide) (by decide) (ty_120 hS.1.1) (st_120_43 hS (by decide) (by omega) (Pm0.of hS.1.2.2.2.2 (fun _ => rd_wb _ rfl) (fun _ => rd_wb _ rfl) (fun _ => rd_wb _ rfl) (fun _ => rd_wb _ rfl) (fun _ => rd_wb _ rfl) (fun _ => rd_wb _ rfl) (fun _ => rd_wb _ rfl) (fun _ => rd_wb _ rfl) (fun _ => rd_wb _ rfl) (fun _ => rd_wb _ rfl) (rd_wb _ rfl) (rd_wb _ rfl) (rd_wb _ rfl) (rd_wb _ rfl) (rd_wb _ rfl) (rd_wb _ rfl) (rd_wb _ rfl) (rd_wb _ rfl) (rd_wb _ rfl) (rd_wb _ rfl) (rd_wb _ rfl))) (fun M10 hS w10 => ?_)
    obtain ⟨v10_9002, ev10_9002⟩ : ∃ v, n4v M10 = v := ⟨_, rfl⟩
    have bv10_9002 : 0 ≤ v10_9002 ∧ v10_9002 ≤ 20 := by rw [← ev10_9002]; exact (n4v_b hS.1.2.1)
    have fv10_9002 : v10_9002 = 0 := by have h8 := ct_zero (x := 145) (j := 43) (e := 4) (a := 1) (b := 0) (M := M10) w10.1; have h7 : ctV 145 43 4 1 0 M10 = v10_9002 := ev10_9002; omega
    refine Tr.aload_n (pc := 13) (i := 0) d_X12_reads_13 rfl rfl ?_
    refine Tr.iconst (pc := 14) d_X12_reads_14 (by decide) ?_
    refine Tr.putfS (pc := 15) (P := St Pm0 ws_X12_reads_120_w1 as_X12_reads_120_w1 M0) d_X12_reads_15 f_12_152 (by decide) (by decide) (ty_120 hS.1.1) (st_120_46 hS (by decide) (by omega) (Pm0.of hS.1.2.2.2.2 (fun _ => rd_wb _ rfl) (fun _ => rd_wb _ rfl) (fun _ => rd_wb _ rfl) (fun _ => rd_wb _ rfl) (fun _ => rd_wb _ rfl) (fun _ => rd_wb _ rfl) (fun _ => rd_wb _ rfl) (fun _ => rd_wb _ rfl) (fun _ => rd_wb _ rfl) (fun _ => rd_wb _ rfl) (rd_wb _ rfl) (rd_wb _ rfl) (rd_wb _ rfl) (rd_wb _ rfl) (rd_wb _ rfl) (rd_wb _ rfl) (rd_wb _ rfl) (rd_wb _ rfl) (rd_wb _ rfl) (rd_wb _ rfl) (rd_wb _ rfl))) (fun M15 hS w15 => ?_)
    obtain ⟨v15_9001, ev15_9001⟩ : ∃ v, nb2v M15 = v := ⟨_, rfl⟩
    have bv15_9001 : 0 ≤ v15_9001 ∧ v15_9001 ≤ 1000000 := by rw [← ev15_9001]; exact (nb2v_b hS.1.2.1)
    have fv15_9001 : v15_9001 = 0 := by have h8 := nb2_zero (M := M15) w15.1; have h7 : nb2v M15 = v15_9001 := ev15_9001; rw [← h7]; exact h8
    refine Tr.aload_n (pc := 18) (i := 0) d_X12_reads_18 rfl rfl ?_
    refine Tr.iconst (pc := 19) d_X12_reads_19 (by decide) ?_
    refine Tr.putzS (pc := 20) (P := St Pm0 ws_X12_reads_120_w1 as_X12_reads_120_w1 M0) d_X12_reads_20 f_12_155 (by decide) (ty_120 hS.1.1) (by omega) (st_120_47 hS (by decide) (by omega) (Pm0.of hS.1.2.2.2.2 (fun _ => rd_wb _ rfl) (fun _ => rd_wb _ rfl) (fun _ => rd_wb _ rfl) (fun _ => rd_wb _ rfl) (fun _ => rd_wb _ rfl) (fun _ => rd_wb _ rfl) (fun _ => rd_wb _ rfl) (fun _ => rd_wb _ rfl) (fun _ => rd_wb _ rfl) (fun _ => rd_wb _ rfl) (rd_wb _ rfl) (rd_wb _ rfl) (rd_wb _ rfl) (rd_wb _ rfl) (rd_wb _ rfl) (rd_wb _ rfl) (rd_wb _ rfl) (rd_wb _ rfl) (rd_wb _ rfl) (rd_wb _ rfl) (rd_wb _ rfl))) (fun M20 hS w20 => ?_)
    refine Tr.aload_n (pc := 23) (i := 0) d_X12_reads_23 rfl rfl ?_
    refine Tr.iload_n (pc := 24) (i := 1) d_X12_reads_24 rfl rfl ?_
    have J33 : ∀ (M : Mem) (q33_1 : Int), St Pm0 ws_X12_reads_120_w1 as_X12_reads_120_w1 M0 M → (0 ≤ q33_1 ∧ q33_1 ≤ 1) → rd M 120 3 = g120_3 → rd M 120 36 = g120_36 → rd M 120 4 = g120_4 → rd M 120 43 = 0 → rd M 120 44 = g120_44 → rd M 120 46 = 0 → rd M 120 47 = 0 → rd M 120 5 = g120_5 → rd M 120 50 = g120_50 → rd M 120 6 = g120_6 → rd M 120 7 = g120_7 → rd M 120 8 = g120_8 → rd M 136 0 = g136_0 → nb2v M = v15_9001 → n4v M = v10_9002 → Dv0 M = g9003_0 → fr0 M = g9005_0 → tav M = g9010_0 → Tr l K 4 mX12_reads 33 [(0, (2, 120))] [(0, q33_1), (2, 120)] M (q_X12_reads_120_w1 a1 M0) := by
      intro M q33_1 hS bq33_1 k33_120_3 k33_120_36 k33_120_4 k33_120_43 k33_120_44 k33_120_46 k33_120_47 k33_120_5 k33_120_50 k33_120_6 k33_120_7 k33_120_8 k33_136_0 k33_9001_0 k33_9002_0 k33_9003_0 k33_9005_0 k33_9010_0
      clear w10 ev10_9002 w15 ev15_9001 w20
      refine Tr.callV (pc := 33) (as := [_]) d_X12_reads_33 s_12_478 ok_X12_pushes rfl rfl (Nat.le_of_ble_eq_true rfl) (Nat.le_of_ble_eq_true rfl) (by decide) (ty_120 hS.1.1) ?_
      refine Tr.imp (Tr.deep (by decide) (ns_X12_pushes_120_w1 (G120_43 := 0) (G9002_0 := v10_9002) (G9005_0 := g9005_0) hS.1 (k33_120_43) (k33_9002_0) (k33_9005_0) q33_1 (by and_intros <;> omega) (by omega) (by omega) (by omega) (by omega))) ?_
      rintro M33 _ ⟨h33, s33_120_43, s33_9002_0, s33_9005_0, es33_120_43, bs33_120_43, es33_9002_0, bs33_9002_0, es33_9005_0, bs33_9005_0, rfl, z33_0, z33_1, z33_2⟩
      have hS := St.tr hS h33 (by decide) (by decide)
      refine Tr.sc [] rfl ?_
      refine Tr.iconst (pc := 36) d_X12_reads_36 (by decide) ?_
      refine Tr.istore_n (pc := 37) (i := 2) (ls2 := [(2, (0, 1)), (0, (2, 120))]) d_X12_reads_37 rfl (by decide) rfl ?_
      have J38 : ∀ (n38 : Nat) (M : Mem) (p38_2 u38_120_3 u38_120_4 u38_120_5 u38_120_6 u38_120_7 u38_120_8 u38_120_36 u38_120_43 u38_120_44 u38_120_46 u38_120_47 u38_9001_0 u38_9002_0 u38_9003_0 u38_9005_0 u38_9010_0 : Int), St Pm0 ws_X12_reads_120_w1 as_X12_reads_120_w1 M0 M → (0 ≤ p38_2 ∧ p38_2 ≤ 1) → (0 ≤ u38_120_3 ∧ u38_120_3 ≤ 3) → (0 ≤ u38_120_4 ∧ u38_120_4 ≤ 900) → (0 ≤ u38_120_5 ∧ u38_120_5 ≤ 900) → ((-2147483648) ≤ u38_120_6 ∧ u38_120_6 ≤ 2147483647) → ((-9223372036854775808) ≤ u38_120_7 ∧ u38_120_7 ≤ 9223372036854775807) → (0 ≤ u38_120_8 ∧ u38_120_8 ≤ 5) → (0 ≤ u38_120_36 ∧ u38_120_36 ≤ 900) → (0 ≤ u38_120_43 ∧ u38_120_43 ≤ 20) → (0 ≤ u38_120_44 ∧ u38_120_44 ≤ 8) → (0 ≤ u38_120_46 ∧ u38_120_46 ≤ 500) → (0 ≤ u38_120_47 ∧ u38_120_47 ≤ 1) → (0 ≤ u38_9001_0 ∧ u38_9001_0 ≤ 1000000) → (0 ≤ u38_9002_0 ∧ u38_9002_0 ≤ 20) → ((-1000) ≤ u38_9003_0 ∧ u38_9003_0 ≤ 1000) → (0 ≤ u38_9005_0 ∧ u38_9005_0 ≤ 5) → ((-1) ≤ u38_9010_0 ∧ u38_9010_0 ≤ 1800) → rd M 120 3 = u38_120_3 → rd M 120 36 = u38_120_36 → rd M 120 4 = u38_120_4 → rd M 120 43 = u38_120_43 → rd M 120 44 = u38_120_44 → rd M 120 46 = u38_120_46 → rd M 120 47 = u38_120_47 → rd M 120 5 = u38_120_5 → rd M 120 50 = g120_50 → rd M 120 6 = u38_120_6 → rd M 120 7 = u38_120_7 → rd M 120 8 = u38_120_8 → rd M 136 0 = g136_0 → nb2v M = u38_9001_0 → n4v M = u38_9002_0 → Dv0 M = u38_9003_0 → fr0 M = u38_9005_0 → tav M = u38_9010_0 → (u38_120_3 = 0 ∨ u38_120_4 + 1 ≤ u38_120_5) → (u38_120_4 ≤ u38_120_5) → (u38_120_3 ≠ 1 ∨ u38_120_4 + 2 ≤ u38_120_5 ∨ u38_120_7 < 256) → (g120_4 ≤ u38_120_4 ∧ g120_5 ≤ u38_120_5 ∧ g9010_0 ≤ u38_9010_0) → (g120_8 = 0 ∨ u38_120_8 = g120_8) → (u38_120_36 + u38_120_46 + u38_120_44 ≤ u38_120_4) → (1 ≤ u38_120_43) → (g120_50 + u38_120_43 ≤ u38_120_44 + 1) → (u38_9005_0 ≤ 1) → (1 ≤ g136_0) → (1 ≤ u38_120_8 ∨ 2 * u38_120_46 + u38_120_47 ≤ u38_120_4) → (p38_2 = 0 ∨ (u38_120_8 = 0 ∧ u38_9001_0 + u38_9002_0 + u38_120_47 ≤ u38_9003_0)) → (2 * (1802 - u38_9010_0) + p38_2).toNat < n38 → Tr l K 4 mX12_reads 38 [(0, (2, 120)), (2, (0, p38_2))] [] M (q_X12_reads_120_w1 a1 M0) := by
        intro n38
        induction n38 with
        | zero => intro M p38_2 u38_120_3 u38_120_4 u38_120_5 u38_120_6 u38_120_7 u38_120_8 u38_120_36 u38_120_43 u38_120_44 u38_120_46 u38_120_47 u38_9001_0 u38_9002_0 u38_9003_0 u38_9005_0 u38_9010_0 hS bp38_2 bu38_120_3 bu38_120_4 bu38_120_5 bu38_120_6 bu38_120_7 bu38_120_8 bu38_120_36 bu38_120_43 bu38_120_44 bu38_120_46 bu38_120_47 bu38_9001_0 bu38_9002_0 bu38_9003_0 bu38_9005_0 bu38_9010_0 k38_120_3 k38_120_36 k38_120_4 k38_120_43 k38_120_44 k38_120_46 k38_120_47 k38_120_5 k38_120_50 k38_120_6 k38_120_7 k38_120_8 k38_136_0 k38_9001_0 k38_9002_0 k38_9003_0 k38_9005_0 k38_9010_0 t38_0 t38_1 t38_2 t38_3 t38_4 t38_5 t38_6 t38_7 t38_8 t38_9 t38_10 t38_11 hm38; exact absurd hm38 (Nat.not_lt_zero _)
        | succ n38 J38 =>
          intro M p38_2 u38_120_3 u38_120_4 u38_120_5 u38_120_6 u38_120_7 u38_120_8 u38_120_36 u38_120_43 u38_120_44 u38_120_46 u38_120_47 u38_9001_0 u38_9002_0 u38_9003_0 u38_9005_0 u38_9010_0 hS bp38_2 bu38_120_3 bu38_120_4 bu38_120_5 bu38_120_6 bu38_120_7 bu38_120_8 bu38_120_36 bu38_120_43 bu38_120_44 bu38_120_46 bu38_120_47 bu38_9001_0 bu38_9002_0 bu38_9003_0 bu38_9005_0 bu38_9010_0 k38_120_3 k38_120_36 k38_120_4 k38_120_43 k38_120_44 k38_120_46 k38_120_47 k38_120_5 k38_120_50 k38_120_6 k38_120_7 k38_120_8 k38_136_0 k38_9001_0 k38_9002_0 k38_9003_0 k38_9005_0 k38_9010_0 t38_0 t38_1 t38_2 t38_3 t38_4 t38_5 t38_6 t38_7 t38_8 t38_9 t38_10 t38_11 hm38
          clear k33_120_3 k33_120_36 k33_120_4 k33_120_43 k33_120_44 k33_120_46 k33_120_47 k33_120_5 k33_120_50 k33_120_6 k33_120_7 k33_120_8 k33_136_0 k33_9001_0 k33_9002_0 k33_9003_0 k33_9005_0 k33_9010_0 es33_120_43 es33_9002_0 es33_9005_0
          replace t38_0 := hd_i t38_0
          replace t38_2 := hd_i t38_2
          replace t38_4 := hd_i t38_4
          replace t38_10 := hd_i t38_10
          replace t38_11 := hd_i t38_11
          refine Tr.iload_n (pc := 38) (i := 2) d_X12_reads_38 rfl rfl ?_
          refine Tr.if_eq (pc := 39) (tgt := 85) d_X12_reads_39 rfl (fun c39 => ?_) (fun c39 => ?_)
          · have kr_120_3 : rd M 120 3 = u38_120_3 := k38_120_3
            have kr_120_4 : rd M 120 4 = u38_120_4 := k38_120_4
            have kr_120_5 : rd M 120 5 = u38_120_5 := k38_120_5
            have kr_120_7 : rd M 120 7 = u38_120_7 := k38_120_7
            have kr_120_8 : rd M 120 8 = u38_120_8 := k38_120_8
            have kr_120_36 : rd M 120 36 = u38_120_36 := k38_120_36
            have kr_120_44 : rd M 120 44 = u38_120_44 := k38_120_44
            have kr_120_50 : rd M 120 50 = g120_50 := k38_120_50
            have kr_9010_0 : tav M = u38_9010_0 := k38_9010_0
            exact Tr.vret (pc := 85) d_X12_reads_85 rfl ⟨hS, rfl, (by first | exact (hd_o t38_0) | exact (hd_o t38_0).elim (fun h1 => by omega) (fun h1 => by omega)), (by omega), (by first | exact (hd_o t38_2) | exact (hd_o t38_2).elim (fun h1 => by omega) (fun h1 => h1.elim (fun h1 => by omega) (fun h1 => by omega))), (by and_intros <;> omega), (by first | exact (hd_o t38_4) | exact (hd_o t38_4).elim (fun h1 => by omega) (fun h1 => by omega)), (by omega), (by omega)⟩
          · have c39b : 1 ≤ p38_2 ∧ p38_2 ≤ 1 := by omega
            replace c39 := hd_i c39
            refine Tr.aload_n (pc := 42) (i := 0) d_X12_reads_42 rfl rfl ?_
            refine Tr.getz (pc := 43) d_X12_reads_43 f_12_155 (by decide) (ty_120 hS.1.1) ?_
            refine Tr.tp u38_120_47 k38_120_47 ?_
            have J65 : ∀ (M : Mem) (p65_2 u65_120_3 u65_120_4 u65_120_5 u65_120_6 u65_120_7 u65_120_8 u65_120_36 u65_120_43 u65_120_44 u65_120_46 u65_120_47 u65_9001_0 u65_9002_0 u65_9003_0 u65_9005_0 u65_9010_0 : Int), St Pm0 ws_X12_reads_120_w1 as_X12_reads_120_w1 M0 M → (0 ≤ p65_2 ∧ p65_2 ≤ 1) → (0 ≤ u65_120_3 ∧ u65_120_3 ≤ 3) → (0 ≤ u65_120_4 ∧ u65_120_4 ≤ 900) → (0 ≤ u65_120_5 ∧ u65_120_5 ≤ 900) → ((-2147483648) ≤ u65_120_6 ∧ u65_120_6 ≤ 2147483647) → ((-9223372036854775808) ≤ u65_120_7 ∧ u65_120_7 ≤ 9223372036854775807) → (0 ≤ u65_120_8 ∧ u65_120_8 ≤ 5) → (0 ≤ u65_120_36 ∧ u65_120_36 ≤ 900) → (0 ≤ u65_120_43 ∧ u65_120_43 ≤ 20) → (0 ≤ u65_120_44 ∧ u65_120_44 ≤ 8) → (0 ≤ u65_120_46 ∧ u65_120_46 ≤ 500) → (0 ≤ u65_120_47 ∧ u65_120_47 ≤ 1) → (0 ≤ u65_9001_0 ∧ u65_9001_0 ≤ 1000000) → (0 ≤ u65_9002_0 ∧ u65_9002_0 ≤ 20) → ((-1000) ≤ u65_9003_0 ∧ u65_9003_0 ≤ 1000) → (0 ≤ u65_9005_0 ∧ u65_9005_0 ≤ 5) → ((-1) ≤ u65_9010_0 ∧ u65_9010_0 ≤ 1800) → rd M 120 3 = u65_120_3 → rd M 120 36 = u65_120_36 → rd M 120 4 = u65_120_4 → rd M 120 43 = u65_120_43 → rd M 120 44 = u65_120_44 → rd M 120 46 = u65_120_46 → rd M 120 47 = u65_120_47 → rd M 120 5 = u65_120_5 → rd M 120 50 = g120_50 → rd M 120 6 = u65_120_6 → rd M 120 7 = u65_120_7 → rd M 120 8 = u65_120_8 → rd M 136 0 = g136_0 → nb2v M = u65_9001_0 → n4v M = u65_9002_0 → Dv0 M = u65_9003_0 → fr0 M = u65_9005_0 → tav M = u65_9010_0 → (u65_120_3 = 0 ∨ u65_120_4 + 1 ≤ u65_120_5) → (u65_120_4 ≤ u65_120_5) → (u65_120_3 ≠ 1 ∨ u65_120_4 + 2 ≤ u65_120_5 ∨ u65_120_7 < 256) → (g120_4 ≤ u65_120_4 ∧ g120_5 ≤ u65_120_5 ∧ g9010_0 ≤ u65_9010_0) → (g120_8 = 0 ∨ u65_120_8 = g120_8) → (u65_120_36 + u65_120_46 + u65_120_44 ≤ u65_120_4) → (1 ≤ u65_120_43) → (g120_50 + u65_120_43 ≤ u65_120_44 + 1) → (u65_9005_0 ≤ 1) → (1 ≤ g136_0) → (1 ≤ u65_120_8 ∨ 2 * u65_120_46 + u65_120_47 ≤ u65_120_4) → (u38_9010_0 ≤ u65_9010_0) → (p65_2 = 0 ∨ 1 ≤ u65_120_8 ∨ (u65_9001_0 + u65_9002_0 + u65_120_47 ≤ u65_9003_0 ∧ u38_9010_0 < u65_9010_0)) → Tr l K 4 mX12_reads 65 [(0, (2, 120)), (2, (0, p65_2))] [] M (q_X12_reads_120_w1 a1 M0) := by
              intro M p65_2 u65_120_3 u65_120_4 u65_120_5 u65_120_6 u65_120_7 u65_120_8 u65_120_36 u65_120_43 u65_120_44 u65_120_46 u65_120_47 u65_9001_0 u65_9002_0 u65_9003_0 u65_9005_0 u65_9010_0 hS bp65_2 bu65_120_3 bu65_120_4 bu65_120_5 bu65_120_6 bu65_120_7 bu65_120_8 bu65_120_36 bu65_120_43 bu65_120_44 bu65_120_46 bu65_120_47 bu65_9001_0 bu65_9002_0 bu65_9003_0 bu65_9005_0 bu65_9010_0 k65_120_3 k65_120_36 k65_120_4 k65_120_43 k65_120_44 k65_120_46 k65_120_47 k65_120_5 k65_120_50 k65_120_6 k65_120_7 k65_120_8 k65_136_0 k65_9001_0 k65_9002_0 k65_9003_0 k65_9005_0 k65_9010_0 t65_0 t65_1 t65_2 t65_3 t65_4 t65_5 t65_6 t65_7 t65_8 t65_9 t65_10 t65_11 t65_12
              clear k38_120_3 k38_120_36 k38_120_4 k38_120_43 k38_120_44 k38_120_46 k38_120_47 k38_120_5 k38_120_50 k38_120_6 k38_120_7 k38_120_8 k38_136_0 k38_9001_0 k38_9002_0 k38_9003_0 k38_9005_0 k38_9010_0
              replace t65_0 := hd_i t65_0
              replace t65_2 := hd_i t65_2
              replace t65_4 := hd_i t65_4
              replace t65_10 := hd_i t65_10
              replace t65_12 := hd_i t65_12
              refine Tr.iload_n (pc := 65) (i := 2) d_X12_reads_65 rfl rfl ?_
              have J81 : ∀ (M : Mem) (q81_0 : Int), St Pm0 ws_X12_reads_120_w1 as_X12_reads_120_w1 M0 M → (0 ≤ q81_0 ∧ q81_0 ≤ 1) → rd M 120 3 = u65_120_3 → rd M 120 36 = u65_120_36 → rd M 120 4 = u65_120_4 → rd M 120 43 = u65_120_43 → rd M 120 44 = u65_120_44 → rd M 120 46 = u65_120_46 → rd M 120 47 = u65_120_47 → rd M 120 5 = u65_120_5 → rd M 120 50 = g120_50 → rd M 120 6 = u65_120_6 → rd M 120 7 = u65_120_7 → rd M 120 8 = u65_120_8 → rd M 136 0 = g136_0 → nb2v M = u65_9001_0 → n4v M = u65_9002_0 → Dv0 M = u65_9003_0 → fr0 M = u65_9005_0 → tav M = u65_9010_0 → (u65_120_3 = 0 ∨ u65_120_4 + 1 ≤ u65_120_5) → (u65_120_4 ≤ u65_120_5) → (u65_120_3 ≠ 1 ∨ u65_120_4 + 2 ≤ u65_120_5 ∨ u65_120_7 < 256) → (g120_4 ≤ u65_120_4 ∧ g120_5 ≤ u65_120_5 ∧ g9010_0 ≤ u65_9010_0) → (g120_8 = 0 ∨ u65_120_8 = g120_8) → (u65_120_36 + u65_120_46 + u65_120_44 ≤ u65_120_4) → (1 ≤ u65_120_43) → (g120_50 + u65_120_43 ≤ u65_120_44 + 1) → (u65_9005_0 ≤ 1) → (1 ≤ g136_0) → (1 ≤ u65_120_8 ∨ 2 * u65_120_46 + u65_120_47 ≤ u65_120_4) → (u38_9010_0 ≤ u65_9010_0) → (q81_0 = 0 ∨ (u65_120_8 = 0 ∧ u65_9001_0 + u65_9002_0 + u65_120_47 ≤ u65_9003_0 ∧ u38_9010_0 < u65_9010_0)) → Tr l K 4 mX12_reads 81 [(0, (2, 120))] [(0, q81_0)] M (q_X12_reads_120_w1 a1 M0) := by
                intro M q81_0 hS bq81_0 k81_120_3 k81_120_36 k81_120_4 k81_120_43 k81_120_44 k81_120_46 k81_120_47 k81_120_5 k81_120_50 k81_120_6 k81_120_7 k81_120_8 k81_136_0 k81_9001_0 k81_9002_0 k81_9003_0 k81_9005_0 k81_9010_0 t81_0 t81_1 t81_2 t81_3 t81_4 t81_5 t81_6 t81_7 t81_8 t81_9 t81_10 t81_11 t81_12
                clear k65_120_3 k65_120_36 k65_120_4 k65_120_43 k65_120_44 k65_120_46 k65_120_47 k65_120_5 k65_120_50 k65_120_6 k65_120_7 k65_120_8 k65_136_0 k65_9001_0 k65_9002_0 k65_9003_0 k65_9005_0 k65_9010_0
                replace t81_0 := hd_i t81_0
                replace t81_2 := hd_i t81_2
                replace t81_4 := hd_i t81_4
                replace t81_10 := hd_i t81_10
                replace t81_12 := hd_i t81_12
                refine Tr.istore_n (pc := 81) (i := 2) (ls2 := [(2, (0, q81_0)), (0, (2, 120))]) d_X12_reads_81 rfl (by decide) rfl ?_
                refine Tr.goto (pc := 82) (tgt := 38) d_X12_reads_82 rfl ?_
                refine Tr.pick [1, 0] (ls2 := [(0, (2, 120)), (2, (0, q81_0))]) rfl ?_
                exact J38 _ _ _ _ _ _ _ _ _ _ _ _ _ _ _ _ _ _ hS (by and_intros <;> omega) (by and_intros <;> omega) (by and_intros <;> omega) (by and_intros <;> omega) (by and_intros <;> omega) (by omega) (by and_intros <;> omega) (by and_intros <;> omega) (by and_intros <;> omega) (by and_intros <;> omega) (by and_intros <;> omega) (by and_intros <;> omega) (by and_intros <;> omega) (by and_intros <;> omega) (by and_intros <;> omega) (by and_intros <;> omega) (by and_intros <;> omega) k81_120_3 k81_120_36 k81_120_4 k81_120_43 k81_120_44 k81_120_46 k81_120_47 k81_120_5 k81_120_50 k81_120_6 k81_120_7 k81_120_8 k81_136_0 k81_9001_0 k81_9002_0 k81_9003_0 k81_9005_0 k81_9010_0 (by first | exact (hd_o t81_0) | exact (hd_o t81_0).elim (fun h1 => by omega) (fun h1 => by omega)) (by omega) (by first | exact (hd_o t81_2) | exact (hd_o t81_2).elim (fun h1 => by omega) (fun h1 => h1.elim (fun h1 => by omega) (fun h1 => by omega))) (by and_intros <;> omega) (by first | exact (hd_o t81_4) | exact (hd_o t81_4).elim (fun h1 => by omega) (fun h1 => by omega)) (by omega) (by omega) (by omega) (by omega) (by omega) (by first | exact (hd_o t81_10) | exact (hd_o t81_10).elim (fun h1 => by omega) (fun h1 => by omega)) (by exact (hd_o t81_12).elim (fun h1 => by omega) (fun h1 => by omega)) (me_lt hm38 (by exact (hd_o t81_12).elim (fun h1 => by omega) (fun h1 => by omega)) (by omega))
              have J80 : ∀ (M : Mem), St Pm0 ws_X12_reads_120_w1 as_X12_reads_120_w1 M0 M → rd M 120 3 = u65_120_3 → rd M 120 36 = u65_120_36 → rd M 120 4 = u65_120_4 → rd M 120 43 = u65_120_43 → rd M 120 44 = u65_120_44 → rd M 120 46 = u65_120_46 → rd M 120 47 = u65_120_47 → rd M 120 5 = u65_120_5 → rd M 120 50 = g120_50 → rd M 120 6 = u65_120_6 → rd M 120 7 = u65_120_7 → rd M 120 8 = u65_120_8 → rd M 136 0 = g136_0 → nb2v M = u65_9001_0 → n4v M = u65_9002_0 → Dv0 M = u65_9003_0 → fr0 M = u65_9005_0 → tav M = u65_9010_0 → Tr l K 4 mX12_reads 80 [(0, (2, 120))] [] M (q_X12_reads_120_w1 a1 M0) := by
                intro M  hS  k80_120_3 k80_120_36 k80_120_4 k80_120_43 k80_120_44 k80_120_46 k80_120_47 k80_120_5 k80_120_50 k80_120_6 k80_120_7 k80_120_8 k80_136_0 k80_9001_0 k80_9002_0 k80_9003_0 k80_9005_0 k80_9010_0
                clear k65_120_3 k65_120_36 k65_120_4 k65_120_43 k65_120_44 k65_120_46 k65_120_47 k65_120_5 k65_120_50 k65_120_6 k65_120_7 k65_120_8 k65_136_0 k65_9001_0 k65_9002_0 k65_9003_0 k65_9005_0 k65_9010_0
                refine Tr.iconst (pc := 80) d_X12_reads_80 (by decide) ?_
                refine Tr.pick [0] (ls2 := [(0, (2, 120))]) rfl ?_
                exact J81 _ _ hS (by omega) k80_120_3 k80_120_36 k80_120_4 k80_120_43 k80_120_44 k80_120_46 k80_120_47 k80_120_5 k80_120_50 k80_120_6 k80_120_7 k80_120_8 k80_136_0 k80_9001_0 k80_9002_0 k80_9003_0 k80_9005_0 k80_9010_0 (by first | exact (hd_o t65_0) | exact (hd_o t65_0).elim (fun h1 => by omega) (fun h1 => by omega)) (by omega) (by first | exact (hd_o t65_2) | exact (hd_o t65_2).elim (fun h1 => by omega) (fun h1 => h1.elim (fun h1 => by omega) (fun h1 => by omega))) (by and_intros <;> omega) (by first | exact (hd_o t65_4) | exact (hd_o t65_4).elim (fun h1 => by omega) (fun h1 => by omega)) (by omega) (by omega) (by omega) (by omega) (by omega) (by first | exact (hd_o t65_10) | exact (hd_o t65_10).elim (fun h1 => by omega) (fun h1 => by omega)) (by omega) (by omega)
              refine Tr.if_eq (pc := 66) (tgt := 80) d_X12_reads_66 rfl (fun c66 => ?_) (fun c66 => ?_)
              · refine Tr.pick [0] (ls2 := [(0, (2, 120))]) rfl ?_
                exact J80 _ hS k65_120_3 k65_120_36 k65_120_4 k65_120_43 k65_120_44 k65_120_46 k65_120_47 k65_120_5 k65_120_50 k65_120_6 k65_120_7 k65_120_8 k65_136_0 k65_9001_0 k65_9002_0 k65_9003_0 k65_9005_0 k65_9010_0
              · have c66b : 1 ≤ p65_2 ∧ p65_2 ≤ 1 := by omega
                replace c66 := hd_i c66
                refine Tr.aload_n (pc := 69) (i := 0) d_X12_reads_69 rfl rfl ?_
                refine Tr.getf (pc := 70) d_X12_reads_70 f_12_36 (by decide) (by decide) (ty_120 hS.1.1) ?_
                refine Tr.tp u65_120_8 k65_120_8 ?_
                refine Tr.if_ne (pc := 73) (tgt := 80) d_X12_reads_73 rfl (fun c73 => ?_) (fun c73 => ?_)
                · have c73b : 1 ≤ u65_120_8 ∧ u65_120_8 ≤ 5 := by omega
                  replace c73 := hd_i c73
                  refine Tr.pick [0] (ls2 := [(0, (2, 120))]) rfl ?_
                  exact J80 _ hS k65_120_3 k65_120_36 k65_120_4 k65_120_43 k65_120_44 k65_120_46 k65_120_47 k65_120_5 k65_120_50 k65_120_6 k65_120_7 k65_120_8 k65_136_0 k65_9001_0 k65_9002_0 k65_9003_0 k65_9005_0 k65_9010_0
                · refine Tr.iconst (pc := 76) d_X12_reads_76 (by decide) ?_
                  refine Tr.goto (pc := 77) (tgt := 81) d_X12_reads_77 rfl ?_
                  refine Tr.pick [0] (ls2 := [(0, (2, 120))]) rfl ?_
                  exact J81 _ _ hS (by omega) k65_120_3 k65_120_36 k65_120_4 k65_120_43 k65_120_44 k65_120_46 k65_120_47 k65_120_5 k65_120_50 k65_120_6 k65_120_7 k65_120_8 k65_136_0 k65_9001_0 k65_9002_0 k65_9003_0 k65_9005_0 k65_9010_0 (by first | exact (hd_o t65_0) | exact (hd_o t65_0).elim (fun h1 => by omega) (fun h1 => by omega)) (by omega) (by first | exact (hd_o t65_2) | exact (hd_o t65_2).elim (fun h1 => by omega) (fun h1 => h1.elim (fun h1 => by omega) (fun h1 => by omega))) (by and_intros <;> omega) (by first | exact (hd_o t65_4) | exact (hd_o t65_4).elim (fun h1 => by omega) (fun h1 => by omega)) (by omega) (by omega) (by omega) (by omega) (by omega) (by first | exact (hd_o t65_10) | exact (hd_o t65_10).elim (fun h1 => by omega) (fun h1 => by omega)) (by omega) (by exact (hd_o t65_12).elim (fun h1 => by omega) (fun h1 => h1.elim (fun h1 => by omega) (fun h1 => by omega)))
            refine Tr.if_ne (pc := 46) (tgt := 60) d_X12_reads_46 rfl (fun c46 => ?_) (fun c46 => ?_)
            · have c46b : 1 ≤ u38_120_47 ∧ u38_120_47 ≤ 1 := by omega
              replace c46 := hd_i c46
              refine Tr.aload_n (pc := 60) (i := 0) d_X12_reads_60 rfl rfl ?_
              refine Tr.callV (pc := 61) (as := []) d_X12_reads_61 s_12_502 ok_X12_goesOn rfl rfl (Nat.le_of_ble_eq_true rfl) (Nat.le_of_ble_eq_true rfl) (by decide) (ty_120 hS.1.1) ?_
              refine Tr.imp (Tr.deep (by decide) (ns_X12_goesOn_120_w1 (G120_3 := u38_120_3) (G120_4 := u38_120_4) (G120_5 := u38_120_5) (G120_7 := u38_120_7) (G120_8 := u38_120_8) (G120_36 := u38_120_36) (G120_43 := u38_120_43) (G120_44 := u38_120_44) (G120_46 := u38_120_46) (G120_47 := u38_120_47) (G120_50 := g120_50) (G136_0 := g136_0) (G9001_0 := u38_9001_0) (G9002_0 := u38_9002_0) (G9003_0 := u38_9003_0) (G9005_0 := u38_9005_0) (G9010_0 := u38_9010_0) hS.1 (k38_120_3) (k38_120_4) (k38_120_5) (k38_120_7) (k38_120_8) (k38_120_36) (k38_120_43) (k38_120_44) (k38_120_46) (k38_120_47) (k38_120_50) (k38_136_0) (k38_9001_0) (k38_9002_0) (k38_9003_0) (k38_9005_0) (k38_9010_0) ((kp_X12_reads_120_w1_120_37 hS).trans en_120_37) (by first | exact (hd_o t38_0) | exact (hd_o t38_0).elim (fun h1 => by omega) (fun h1 => by omega)) (by omega) (by first | exact (hd_o t38_2) | exact (hd_o t38_2).elim (fun h1 => by omega) (fun h1 => h1.elim (fun h1 => by omega) (fun h1 => by omega))) (by exact (hd_o t38_11).elim (fun h1 => by omega) (fun h1 => by omega)) (by exact (hd_o t38_10).elim (fun h1 => (hd_o t38_11).elim (fun h2 => by omega) (fun h2 => by omega)) (fun h1 => by omega)) (by exact (hd_o t38_11).elim (fun h1 => by omega) (fun h1 => by omega)) (by omega) (by omega) (by omega) (by omega) (by omega) (by omega))) ?_
              rintro M61 _ ⟨h61, s61_120_3, s61_120_4, s61_120_5, s61_120_7, s61_120_8, s61_120_36, s61_120_43, s61_120_44, s61_120_46, s61_120_47, s61_9001_0, s61_9002_0, s61_9003_0, s61_9005_0, s61_9010_0, es61_120_3, bs61_120_3, es61_120_4, bs61_120_4, es61_120_5, bs61_120_5, es61_120_7, bs61_120_7, es61_120_8, bs61_120_8, es61_120_36, bs61_120_36, es61_120_43, bs61_120_43, es61_120_44, bs61_120_44, es61_120_46, bs61_120_46, es61_120_47, bs61_120_47, es61_9001_0, bs61_9001_0, es61_9002_0, bs61_9002_0, es61_9003_0, bs61_9003_0, es61_9005_0, bs61_9005_0, es61_9010_0, bs61_9010_0, r61, rfl, lr61, ur61, z61_0, z61_1, z61_2, z61_3, z61_4, z61_5, z61_6, z61_7, z61_8, z61_9, z61_10, z61_11, z61_12⟩
              have hS := St.tr hS h61 (by decide) (by decide)
              refine Tr.sc [(0, r61)] rfl ?_
              refine Tr.istore_n (pc := 64) (i := 2) (ls2 := [(2, (0, r61)), (0, (2, 120))]) d_X12_reads_64 rfl (by decide) rfl ?_
              refine Tr.pick [1, 0] (ls2 := [(0, (2, 120)), (2, (0, r61))]) rfl ?_
              obtain ⟨w65p64_120_6, ew65p64_120_6⟩ : ∃ v, rd M61 120 6 = v := ⟨_, rfl⟩
              have bw65p64_120_6 : (-2147483648) ≤ w65p64_120_6 ∧ w65p64_120_6 ≤ 2147483647 := by rw [← ew65p64_120_6]; exact ir_120_6 hS.1.2.1
              exact J65 _ _ _ _ _ _ _ _ _ _ _ _ _ _ _ _ _ _ hS (by and_intros <;> omega) (by and_intros <;> omega) (by and_intros <;> omega) (by and_intros <;> omega) (by and_intros <;> omega) (by omega) (by and_intros <;> omega) (by and_intros <;> omega) (by and_intros <;> omega) (by and_intros <;> omega) (by and_intros <;> omega) (by and_intros <;> omega) (by and_intros <;> omega) (by and_intros <;> omega) (by and_intros <;> omega) (by and_intros <;> omega) (by and_intros <;> omega) es61_120_3 es61_120_36 es61_120_4 es61_120_43 es61_120_44 es61_120_46 es61_120_47 es61_120_5 ((kp_X12_goesOn_120_w1_120_50 h61).trans k38_120_50) ew65p64_120_6 es61_120_7 es61_120_8 ((kp_X12_goesOn_120_w1_136_0 h61).trans k38_136_0) es61_9001_0 es61_9002_0 es61_9003_0 es61_9005_0 es61_9010_0 (by first | exact (hd_o z61_0) | exact (hd_o z61_0).elim (fun h1 => by omega) (fun h1 => by omega)) (by omega) (by first | exact (hd_o z61_2) | exact (hd_o z61_2).elim (fun h1 => by omega) (fun h1 => h1.elim (fun h1 => by omega) (fun h1 => by omega))) (by and_intros <;> omega) (by omega) (by omega) (by omega) (by omega) (by omega) (by omega) (by first | exact (hd_o z61_11) | exact (hd_o z61_11).elim (fun h1 => by omega) (fun h1 => by omega)) (by omega) (by exact (hd_o z61_12).elim (fun h1 => by omega) (fun h1 => h1.elim (fun h1 => by omega) (fun h1 => (hd_o z61_10).elim (fun h2 => by omega) (fun h2 => h2.elim (fun h2 => by omega) (fun h2 => by omega)))))
            · refine Tr.aload_n (pc := 49) (i := 0) d_X12_reads_49 rfl rfl ?_
              refine Tr.aload_n (pc := 50) (i := 0) d_X12_reads_50 rfl rfl ?_
              refine Tr.callV (pc := 51) (as := []) d_X12_reads_51 s_12_499 ok_X12_operand rfl rfl (Nat.le_of_ble_eq_true rfl) (Nat.le_of_ble_eq_true rfl) (by decide) (ty_120 hS.1.1) ?_
              refine Tr.imp (Tr.deep (by decide) (ns_X12_operand_120_w1 (G120_3 := u38_120_3) (G120_4 := u38_120_4) (G120_5 := u38_120_5) (G120_7 := u38_120_7) (G120_8 := u38_120_8) (G120_36 := u38_120_36) (G120_43 := u38_120_43) (G120_44 := u38_120_44) (G120_46 := u38_120_46) (G120_50 := g120_50) (G136_0 := g136_0) (G9001_0 := u38_9001_0) (G9002_0 := u38_9002_0) (G9003_0 := u38_9003_0) (G9005_0 := u38_9005_0) (G9010_0 := u38_9010_0) hS.1 (k38_120_3) (k38_120_4) (k38_120_5) (k38_120_7) (k38_120_8) (k38_120_36) (k38_120_43) (k38_120_44) (k38_120_46) (k38_120_50) (k38_136_0) (k38_9001_0) (k38_9002_0) (k38_9003_0) (k38_9005_0) (k38_9010_0) ((kp_X12_reads_120_w1_120_37 hS).trans en_120_37) (by first | exact (hd_o t38_0) | exact (hd_o t38_0).elim (fun h1 => by omega) (fun h1 => by omega)) (by omega) (by first | exact (hd_o t38_2) | exact (hd_o t38_2).elim (fun h1 => by omega) (fun h1 => h1.elim (fun h1 => by omega) (fun h1 => by omega))) (by exact (hd_o t38_11).elim (fun h1 => by omega) (fun h1 => by omega)) (by exact (hd_o t38_10).elim (fun h1 => (hd_o t38_11).elim (fun h2 => by omega) (fun h2 => by omega)) (fun h1 => by omega)) (by exact (hd_o t38_11).elim (fun h1 => by omega) (fun h1 => by omega)) (by omega) (by omega) (by omega) (by omega) (by omega))) ?_
              rintro M51 _ ⟨h51, s51_120_3, s51_120_4, s51_120_5, s51_120_7, s51_120_8, s51_120_36, s51_120_43, s51_120_44, s51_120_46, s51_9001_0, s51_9002_0, s51_9003_0, s51_9005_0, s51_9010_0, es51_120_3, bs51_120_3, es51_120_4, bs51_120_4, es51_120_5, bs51_120_5, es51_120_7, bs51_120_7, es51_120_8, bs51_120_8, es51_120_36, bs51_120_36, es51_120_43, bs51_120_43, es51_120_44, bs51_120_44, es51_120_46, bs51_120_46, es51_9001_0, bs51_9001_0, es51_9002_0, bs51_9002_0, es51_9003_0, bs51_9003_0, es51_9005_0, bs51_9005_0, es51_9010_0, bs51_9010_0, r51, rfl, lr51, ur51, z51_0, z51_1, z51_2, z51_3, z51_4, z51_5, z51_6, z51_7, z51_8, z51_9, z51_10, z51_11, z51_12⟩
              have hS := St.tr hS h51 (by decide) (by decide)
              refine Tr.sc [(0, r51), (2, 120)] rfl ?_
              refine Tr.putzS (pc := 54) (P := St Pm0 ws_X12_reads_120_w1 as_X12_reads_120_w1 M0) d_X12_reads_54 f_12_155 (by decide) (ty_120 hS.1.1) (by omega) (st_120_47 hS (by decide) (by and_intros <;> omega) (Pm0.of hS.1.2.2.2.2 (fun _ => rd_wb _ rfl) (fun _ => rd_wb _ rfl) (fun _ => rd_wb _ rfl) (fun _ => rd_wb _ rfl) (fun _ => rd_wb _ rfl) (fun _ => rd_wb _ rfl) (fun _ => rd_wb _ rfl) (fun _ => rd_wb _ rfl) (fun _ => rd_wb _ rfl) (fun _ => rd_wb _ rfl) (rd_wb _ rfl) (rd_wb _ rfl) (rd_wb _ rfl) (rd_wb _ rfl) (rd_wb _ rfl) (rd_wb _ rfl) (rd_wb _ rfl) (rd_wb _ rfl) (rd_wb _ rfl) (rd_wb _ rfl) (rd_wb _ rfl))) (fun M54 hS w54 => ?_)
              refine Tr.goto (pc := 57) (tgt := 65) d_X12_reads_57 rfl ?_
              refine Tr.pick [0, 1] (ls2 := [(0, (2, 120)), (2, (0, p38_2))]) rfl ?_
              obtain ⟨w65p57_120_6, ew65p57_120_6⟩ : ∃ v, rd M54 120 6 = v := ⟨_, rfl⟩
              have bw65p57_120_6 : (-2147483648) ≤ w65p57_120_6 ∧ w65p57_120_6 ≤ 2147483647 := by rw [← ew65p57_120_6]; exact ir_120_6 hS.1.2.1
              exact J65 _ _ _ _ _ _ _ _ _ _ _ _ _ _ _ _ _ _ hS (by and_intros <;> omega) (by and_intros <;> omega) (by and_intros <;> omega) (by and_intros <;> omega) (by and_intros <;> omega) (by omega) (by and_intros <;> omega) (by and_intros <;> omega) (by and_intros <;> omega) (by and_intros <;> omega) (by and_intros <;> omega) (by and_intros <;> omega) (by and_intros <;> omega) (by and_intros <;> omega) (by and_intros <;> omega) (by and_intros <;> omega) (by and_intros <;> omega) ((Wr.b w54 rfl).trans es51_120_3) ((Wr.b w54 rfl).trans es51_120_36) ((Wr.b w54 rfl).trans es51_120_4) ((Wr.b w54 rfl).trans es51_120_43) ((Wr.b w54 rfl).trans es51_120_44) ((Wr.b w54 rfl).trans es51_120_46) w54.1 ((Wr.b w54 rfl).trans es51_120_5) ((Wr.b w54 rfl).trans ((kp_X12_operand_120_w1_120_50 h51).trans k38_120_50)) ew65p57_120_6 ((Wr.b w54 rfl).trans es51_120_7) ((Wr.b w54 rfl).trans es51_120_8) ((Wr.b w54 rfl).trans ((kp_X12_operand_120_w1_136_0 h51).trans k38_136_0)) ((nb2v_of (fun j => ((Wr.b w54 rfl).trans rfl)) ((Wr.b w54 rfl).trans rfl)).trans es51_9001_0) ((n4v_of (fun j => ((Wr.b w54 rfl).trans rfl)) ((Wr.b w54 rfl).trans rfl)).trans es51_9002_0) ((Dv0_of (fun j => ((Wr.b w54 rfl).trans rfl)) (fun j => ((Wr.b w54 rfl).trans rfl)) ((Wr.b w54 rfl).trans rfl) ((Wr.b w54 rfl).trans rfl)).trans es51_9003_0) ((fr0_of (fun j => ((Wr.b w54 rfl).trans rfl))).trans es51_9005_0) ((tav_of ((Wr.b w54 rfl).trans rfl) ((Wr.b w54 rfl).trans rfl)).trans es51_9010_0) (by first | exact (hd_o z51_0) | exact (hd_o z51_0).elim (fun h1 => by omega) (fun h1 => by omega)) (by omega) (by first | exact (hd_o z51_2) | exact (hd_o z51_2).elim (fun h1 => by omega) (fun h1 => h1.elim (fun h1 => by omega) (fun h1 => by omega))) (by and_intros <;> omega) (by omega) (by omega) (by omega) (by omega) (by omega) (by omega) (by first | exact (hd_o z51_11) | exact (hd_o z51_11).elim (fun h1 => by omega) (fun h1 => by omega)) (by omega) (by exact (hd_o z51_12).elim (fun h1 => by omega) (fun h1 => (hd_o z51_5).elim (fun h2 => by omega) (fun h2 => by omega)))
      refine Tr.pick [1, 0] (ls2 := [(0, (2, 120)), (2, (0, 1))]) rfl ?_
      exact J38 _ _ _ _ _ _ _ _ _ _ _ _ _ _ _ _ _ _ _ hS (by omega) (by and_intros <;> omega) (by and_intros <;> omega) (by and_intros <;> omega) (by and_intros <;> omega) (by omega) (by and_intros <;> omega) (by and_intros <;> omega) (by and_intros <;> omega) (by and_intros <;> omega) (by omega) (by omega) (by and_intros <;> omega) (by and_intros <;> omega) (by and_intros <;> omega) (by and_intros <;> omega) (by and_intros <;> omega) ((kp_X12_pushes_120_w1_120_3 h33).trans k33_120_3) ((kp_X12_pushes_120_w1_120_36 h33).trans k33_120_36) ((kp_X12_pushes_120_w1_120_4 h33).trans k33_120_4) es33_120_43 ((kp_X12_pushes_120_w1_120_44 h33).trans k33_120_44) ((kp_X12_pushes_120_w1_120_46 h33).trans k33_120_46) ((kp_X12_pushes_120_w1_120_47 h33).trans k33_120_47) ((kp_X12_pushes_120_w1_120_5 h33).trans k33_120_5) ((kp_X12_pushes_120_w1_120_50 h33).trans k33_120_50) ((kp_X12_pushes_120_w1_120_6 h33).trans k33_120_6) ((kp_X12_pushes_120_w1_120_7 h33).trans k33_120_7) ((kp_X12_pushes_120_w1_120_8 h33).trans k33_120_8) ((kp_X12_pushes_120_w1_136_0 h33).trans k33_136_0) ((nb2v_of (fun j => ((ka_X12_pushes_120_w1_150 h33 _).trans rfl)) ((kp_X12_pushes_120_w1_120_46 h33).trans rfl)).trans k33_9001_0) es33_9002_0 ((Dv0_of (fun j => ((ka_X12_pushes_120_w1_143 h33 _).trans rfl)) (fun j => ((ka_X12_pushes_120_w1_140 h33 _).trans rfl)) ((kp_X12_pushes_120_w1_136_0 h33).trans rfl) ((kp_X12_pushes_120_w1_120_36 h33).trans rfl)).trans k33_9003_0) es33_9005_0 ((tav_of ((kp_X12_pushes_120_w1_120_5 h33).trans rfl) ((kp_X12_pushes_120_w1_120_3 h33).trans rfl)).trans k33_9010_0) (by first | exact (hd_o hq0) | exact (hd_o hq0).elim (fun h1 => by omega) (fun h1 => by omega)) (by omega) (by first | exact (hd_o hq2) | exact (hd_o hq2).elim (fun h1 => by omega) (fun h1 => h1.elim (fun h1 => by omega) (fun h1 => by omega))) (by and_intros <;> omega) (by omega) (by omega) (by omega) (by omega) (by omega) (by omega) (by omega) (by omega) (Nat.lt_succ_self _)
    refine Tr.if_eq (pc := 25) (tgt := 32) d_X12_reads_25 rfl (fun c25 => ?_) (fun c25 => ?_)
    · refine Tr.iconst (pc := 32) d_X12_reads_32 (by decide) ?_
      refine Tr.pick [0] (ls2 := [(0, (2, 120))]) rfl ?_
      exact J33 _ _ hS (by omega) ((Wr.b w20 rfl).trans ((Wr.b w15 rfl).trans ((Wr.b w10 rfl).trans eg120_3))) ((Wr.b w20 rfl).trans ((Wr.b w15 rfl).trans ((Wr.b w10 rfl).trans eg120_36))) ((Wr.b w20 rfl).trans ((Wr.b w15 rfl).trans ((Wr.b w10 rfl).trans eg120_4))) ((Wr.b w20 rfl).trans ((Wr.b w15 rfl).trans w10.1)) ((Wr.b w20 rfl).trans ((Wr.b w15 rfl).trans ((Wr.b w10 rfl).trans eg120_44))) ((Wr.b w20 rfl).trans w15.1) w20.1 ((Wr.b w20 rfl).trans ((Wr.b w15 rfl).trans ((Wr.b w10 rfl).trans eg120_5))) ((Wr.b w20 rfl).trans ((Wr.b w15 rfl).trans ((Wr.b w10 rfl).trans eg120_50))) ((Wr.b w20 rfl).trans ((Wr.b w15 rfl).trans ((Wr.b w10 rfl).trans eg120_6))) ((Wr.b w20 rfl).trans ((Wr.b w15 rfl).trans ((Wr.b w10 rfl).trans eg120_7))) ((Wr.b w20 rfl).trans ((Wr.b w15 rfl).trans ((Wr.b w10 rfl).trans eg120_8))) ((Wr.b w20 rfl).trans ((Wr.b w15 rfl).trans ((Wr.b w10 rfl).trans eg136_0))) ((nb2v_of (fun j => ((Wr.b w20 rfl).trans rfl)) ((Wr.b w20 rfl).trans rfl)).trans ev15_9001) ((n4v_of (fun j => ((Wr.b w20 rfl).trans ((Wr.b w15 rfl).trans rfl))) ((Wr.b w20 rfl).trans ((Wr.b w15 rfl).trans rfl))).trans ev10_9002) ((Dv0_of (fun j => ((Wr.b w20 rfl).trans ((Wr.b w15 rfl).trans ((Wr.b w10 rfl).trans rfl)))) (fun j => ((Wr.b w20 rfl).trans ((Wr.b w15 rfl).trans ((Wr.b w10 rfl).trans rfl)))) ((Wr.b w20 rfl).trans ((Wr.b w15 rfl).trans ((Wr.b w10 rfl).trans rfl))) ((Wr.b w20 rfl).trans ((Wr.b w15 rfl).trans ((Wr.b w10 rfl).trans rfl)))).trans eg9003_0) ((fr0_of (fun j => ((Wr.b w20 rfl).trans ((Wr.b w15 rfl).trans ((Wr.b w10 rfl).trans rfl))))).trans eg9005_0) ((tav_of ((Wr.b w20 rfl).trans ((Wr.b w15 rfl).trans ((Wr.b w10 rfl).trans rfl))) ((Wr.b w20 rfl).trans ((Wr.b w15 rfl).trans ((Wr.b w10 rfl).trans rfl)))).trans eg9010_0)
    · have c25b : 1 ≤ a1 ∧ a1 ≤ 1 := by omega
      replace c25 := hd_i c25
      refine Tr.iconst (pc := 28) d_X12_reads_28 (by decide) ?_
      refine Tr.goto (pc := 29) (tgt := 33) d_X12_reads_29 rfl ?_
      refine Tr.pick [0] (ls2 := [(0, (2, 120))]) rfl ?_
      exact J33 _ _ hS (by omega) ((Wr.b w20 rfl).trans ((Wr.b w15 rfl).trans ((Wr.b w10 rfl).trans eg120_3))) ((Wr.b w20 rfl).trans ((Wr.b w15 rfl).trans ((Wr.b w10 rfl).trans eg120_36))) ((Wr.b w20 rfl).trans ((Wr.b w15 rfl).trans ((Wr.b w10 rfl).trans eg120_4))) ((Wr.b w20 rfl).trans ((Wr.b w15 rfl).trans w10.1)) ((Wr.b w20 rfl).trans ((Wr.b w15 rfl).trans ((Wr.b w10 rfl).trans eg120_44))) ((Wr.b w20 rfl).trans w15.1) w20.1 ((Wr.b w20 rfl).trans ((Wr.b w15 rfl).trans ((Wr.b w10 rfl).trans eg120_5))) ((Wr.b w20 rfl).trans ((Wr.b w15 rfl).trans ((Wr.b w10 rfl).trans eg120_50))) ((Wr.b w20 rfl).trans ((Wr.b w15 rfl).trans ((Wr.b w10 rfl).trans eg120_6))) ((Wr.b w20 rfl).trans ((Wr.b w15 rfl).trans ((Wr.b w10 rfl).trans eg120_7))) ((Wr.b w20 rfl).trans ((Wr.b w15 rfl).trans ((Wr.b w10 rfl).trans eg120_8))) ((Wr.b w20 rfl).trans ((Wr.b w15 rfl).trans ((Wr.b w10 rfl).trans eg136_0))) ((nb2v_of (fun j => ((Wr.b w20 rfl).trans rfl)) ((Wr.b w20 rfl).trans rfl)).trans ev15_9001) ((n4v_of (fun j => ((Wr.b w20 rfl).trans ((Wr.b w15 rfl).trans rfl))) ((Wr.b w20 rfl).trans ((Wr.b w15 rfl).trans rfl))).trans ev10_9002) ((Dv0_of (fun j => ((Wr.b w20 rfl).trans ((Wr.b w15 rfl).trans ((Wr.b w10 rfl).trans rfl)))) (fun j => ((Wr.b w20 rfl).trans ((Wr.b w15 rfl).trans ((Wr.b w10 rfl).trans rfl)))) ((Wr.b w20 rfl).trans ((Wr.b w15 rfl).trans ((Wr.b w10 rfl).trans rfl))) ((Wr.b w20 rfl).trans ((Wr.b w15 rfl).trans ((Wr.b w10 rfl).trans rfl)))).trans eg9003_0) ((fr0_of (fun j => ((Wr.b w20 rfl).trans ((Wr.b w15 rfl).trans ((Wr.b w10 rfl).trans rfl))))).trans eg9005_0) ((tav_of ((Wr.b w20 rfl).trans ((Wr.b w15 rfl).trans ((Wr.b w10 rfl).trans rfl))) ((Wr.b w20 rfl).trans ((Wr.b w15 rfl).trans ((Wr.b w10 rfl).trans rfl)))).trans eg9010_0)
  · have kr_120_3 : rd M0 120 3 = g120_3 := eg120_3
    have kr_120_4 : rd M0 120 4 = g120_4 := eg120_4
    have kr_120_5 : rd M0 120 5 = g120_5 := eg120_5
    have kr_120_7 : rd M0 120 7 = g120_7 := eg120_7
    have kr_120_8 : rd M0 120 8 = g120_8 := eg120_8
    have kr_120_36 : rd M0 120 36 = g120_36 := eg120_36
    have kr_120_44 : rd M0 120 44 = g120_44 := eg120_44
    have kr_120_50 : rd M0 120 50 = g120_50 := eg120_50
    have kr_9010_0 : tav M0 = g9010_0 := eg9010_0
    exact Tr.vret (pc := 7) d_X12_reads_7 rfl ⟨hS, rfl, (by first | exact (hd_o hq0) | exact (hd_o hq0).elim (fun h1 => by omega) (fun h1 => by omega)), (by omega), (by first | exact (hd_o hq2) | exact (hd_o hq2).elim (fun h1 => by omega) (fun h1 => h1.elim (fun h1 => by omega) (fun h1 => by omega))), (by and_intros <;> omega), (by omega), (by omega), (by omega)⟩

set_option maxRecDepth 100000 in
set_option maxHeartbeats 4000000 in
theorem ns_X12_reads_120_w1 {l : Launch} {K : EC} {M0 : Mem} {G120_3 G120_4 G120_5 G120_7 G120_8 G120_36 G120_44 G120_50 G136_0 G9003_0 G9010_0 : Int} (hI : In Pm0 M0) (k120_3 : rd M0 120 3 = G120_3) (k120_4 : rd M0 120 4 = G120_4) (k120_5 : rd M0 120 5 = G120_5) (k120_7 : rd M0 120 7 = G120_7) (k120_8 : rd M0 120 8 = G120_8) (k120_36 : rd M0 120 36 = G120_36) (k120_44 : rd M0 120 44 = G120_44) (k120_50 : rd M0 120 50 = G120_50) (k136_0 : rd M0 136 0 = G136_0) (k9003_0 : Dv0 M0 = G9003_0) (k9010_0 : tav M0 = G9010_0) (en_120_37 : rd M0 120 37 = 0) (a1 : Int) (ha1 : 0 ≤ a1 ∧ a1 ≤ 1)  (hq0 : G120_3 = 0 ∨ G120_4 + 1 ≤ G120_5) (hq1 : G120_4 ≤ G120_5) (hq2 : G120_3 ≠ 1 ∨ G120_4 + 2 ≤ G120_5 ∨ G120_7 < 256) (hq3 : G120_50 ≤ G120_44) (hq4 : G120_36 + G120_44 ≤ G120_4) (hq5 : G9003_0 = 0) (hq6 : 1 ≤ G136_0) : Tr l K 4 mX12_reads 0 [(0, (2, 120)), (1, (0, a1))] [] M0 (fun M' r => St Pm0 ws_X12_reads_120_w1 as_X12_reads_120_w1 M0 M' ∧ ∃ S120_3 S120_4 S120_5 S120_7 S120_8 S120_36 S120_44 S9010_0 : Int, rd M' 120 3 = S120_3 ∧ (0 ≤ S120_3 ∧ S120_3 ≤ 3) ∧ rd M' 120 4 = S120_4 ∧ (0 ≤ S120_4 ∧ S120_4 ≤ 900) ∧ rd M' 120 5 = S120_5 ∧ (0 ≤ S120_5 ∧ S120_5 ≤ 900) ∧ rd M' 120 7 = S120_7 ∧ ((-9223372036854775808) ≤ S120_7 ∧ S120_7 ≤ 9223372036854775807) ∧ rd M' 120 8 = S120_8 ∧ (0 ≤ S120_8 ∧ S120_8 ≤ 5) ∧ rd M' 120 36 = S120_36 ∧ (0 ≤ S120_36 ∧ S120_36 ≤ 900) ∧ rd M' 120 44 = S120_44 ∧ (0 ≤ S120_44 ∧ S120_44 ≤ 8) ∧ tav M' = S9010_0 ∧ ((-1) ≤ S9010_0 ∧ S9010_0 ≤ 1800) ∧ r = none ∧ Hd (S120_3 = 0 ∨ S120_4 + 1 ≤ S120_5) ∧ (S120_4 ≤ S120_5) ∧ Hd (S120_3 ≠ 1 ∨ S120_4 + 2 ≤ S120_5 ∨ S120_7 < 256) ∧ (G120_4 ≤ S120_4 ∧ G120_5 ≤ S120_5 ∧ G9010_0 ≤ S9010_0) ∧ Hd (G120_8 = 0 ∨ S120_8 = G120_8) ∧ (G120_50 ≤ S120_44) ∧ (S120_36 + S120_44 ≤ S120_4)) := by
  subst k120_3
  subst k120_4
  subst k120_5
  subst k120_7
  subst k120_8
  subst k120_36
  subst k120_44
  subst k120_50
  subst k136_0
  subst k9003_0
  subst k9010_0
  refine Tr.imp (sp_X12_reads_120_w1 hI en_120_37 a1 ha1 hq0 hq1 hq2 hq3 hq4 hq5 hq6) ?_
  rintro M' _ ⟨hS, rfl, z0, z1, z2, z3, z4, z5, z6⟩
  rewrite [show rd M' 120 50 = rd M0 120 50 from ((St.kp hS (by decide) (by decide) (by decide)).trans rfl)] at z5
  exact ⟨hS, _, _, _, _, _, _, _, _, rfl, ir_120_3 hS.1.2.1, rfl, ir_120_4 hS.1.2.1, rfl, ir_120_5 hS.1.2.1, rfl, ir_120_7 hS.1.2.1, rfl, ir_120_8 hS.1.2.1, rfl, ir_120_36 hS.1.2.1, rfl, ir_120_44 hS.1.2.1, rfl, (tav_b hS.1.2.1), rfl, hd_i z0, z1, hd_i z2, z3, hd_i z4, z5, z6⟩

def ws_X12_opensBlock_120_w1 : List (Int × Int) := [(120, 3), (120, 4), (120, 5), (120, 6), (120, 7), (120, 8), (120, 9), (120, 44), (120, 50)]
def as_X12_opensBlock_120_w1 : List Int := [151, 152]
def q_X12_opensBlock_120_w1 (a1 : Int) (a2 : Int) (M0 M' : Mem) (r : Option PV) : Prop := St Pm0 ws_X12_opensBlock_120_w1 as_X12_opensBlock_120_w1 M0 M' ∧ r = none ∧ (rd M' 120 3 = 0 ∨ rd M' 120 4 + 1 ≤ rd M' 120 5) ∧ (rd M' 120 4 ≤ rd M' 120 5) ∧ (rd M' 120 3 ≠ 1 ∨ rd M' 120 4 + 2 ≤ rd M' 120 5 ∨ rd M' 120 7 < 256) ∧ (rd M0 120 4 ≤ rd M' 120 4 ∧ rd M0 120 5 ≤ rd M' 120 5 ∧ tav M0 ≤ tav M') ∧ (rd M0 120 8 = 0 ∨ rd M' 120 8 = rd M0 120 8) ∧ (1 ≤ rd M' 120 8 ∨ tav M0 < tav M') ∧ (rd M' 120 50 ≤ rd M' 120 44) ∧ (rd M' 120 36 + rd M' 120 44 ≤ rd M' 120 4) ∧ ((a1 = 1 ∧ nwv M' = nwv M0) ∨ (a1 ≠ 1 ∧ nwv M' ≤ nwv M0 + 1))
theorem ka_X12_next_120_w1_151 {q : Mem → Prop} {M0 M : Mem} (h : St q ws_X12_next_120_w1 as_X12_next_120_w1 M0 M) (j : Int) : rd M 151 j = rd M0 151 j := St.ka h (by decide) (by decide) (by decide)
theorem ka_X12_blame_120_w1_151 {q : Mem → Prop} {M0 M : Mem} (h : St q ws_X12_blame_120_w1 as_X12_blame_120_w1 M0 M) (j : Int) : rd M 151 j = rd M0 151 j := St.ka h (by decide) (by decide) (by decide)
set_option maxRecDepth 100000 in
set_option maxHeartbeats 4000000 in
theorem sp_X12_opensBlock_120_w1 {l : Launch} {K : EC} {M0 : Mem} (hI : In Pm0 M0)  (a1 : Int) (ha1 : 0 ≤ a1 ∧ a1 ≤ 2) (a2 : Int) (ha2 : 0 ≤ a2 ∧ a2 ≤ 399)  (hq0 : rd M0 120 3 = 0 ∨ rd M0 120 4 + 1 ≤ rd M0 120 5) (hq1 : rd M0 120 4 ≤ rd M0 120 5) (hq2 : rd M0 120 3 ≠ 1 ∨ rd M0 120 4 + 2 ≤ rd M0 120 5 ∨ rd M0 120 7 < 256) (hq3 : rd M0 120 50 ≤ rd M0 120 44) (hq4 : rd M0 120 36 + rd M0 120 44 ≤ rd M0 120 4) (hq5 : 0 ≤ a2 ∧ a2 < 0 + rd M0 136 0) (hq6 : a1 = 1 ∨ rd M0 137 a2 ≠ 0) : Tr l K 2 mX12_opensBlock 0 [(0, (2, 120)), (1, (0, a1)), (2, (0, a2))] [] M0 (q_X12_opensBlock_120_w1 a1 a2 M0) := by
  have hS : St Pm0 ws_X12_opensBlock_120_w1 as_X12_opensBlock_120_w1 M0 M0 := St.rf hI
  obtain ⟨g120_8, eg120_8⟩ : ∃ v, rd M0 120 8 = v := ⟨_, rfl⟩
  have bg120_8 : 0 ≤ g120_8 ∧ g120_8 ≤ 5 := by rw [← eg120_8]; exact ir_120_8 hI.2.1
  obtain ⟨g120_3, eg120_3⟩ : ∃ v, rd M0 120 3 = v := ⟨_, rfl⟩
  have bg120_3 : 0 ≤ g120_3 ∧ g120_3 ≤ 3 := by rw [← eg120_3]; exact ir_120_3 hI.2.1
  obtain ⟨g120_4, eg120_4⟩ : ∃ v, rd M0 120 4 = v := ⟨_, rfl⟩
  have bg120_4 : 0 ≤ g120_4 ∧ g120_4 ≤ 900 := by rw [← eg120_4]; exact ir_120_4 hI.2.1
  obtain ⟨g120_5, eg120_5⟩ : ∃ v, rd M0 120 5 = v := ⟨_, rfl⟩
  have bg120_5 : 0 ≤ g120_5 ∧ g120_5 ≤ 900 := by rw [← eg120_5]; exact ir_120_5 hI.2.1
  obtain ⟨g120_7, eg120_7⟩ : ∃ v, rd M0 120 7 = v := ⟨_, rfl⟩
  have bg120_7 : (-9223372036854775808) ≤ g120_7 ∧ g120_7 ≤ 9223372036854775807 := by rw [← eg120_7]; exact ir_120_7 hI.2.1
  obtain ⟨g9010_0, eg9010_0⟩ : ∃ v, tav M0 = v := ⟨_, rfl⟩
  have bg9010_0 : (-1) ≤ g9010_0 ∧ g9010_0 ≤ 1800 := by rw [← eg9010_0]; exact (tav_b hI.2.1)
  obtain ⟨g120_6, eg120_6⟩ : ∃ v, rd M0 120 6 = v := ⟨_, rfl⟩
  have bg120_6 : (-2147483648) ≤ g120_6 ∧ g120_6 ≤ 2147483647 := by rw [← eg120_6]; exact ir_120_6 hI.2.1
  obtain ⟨g120_44, eg120_44⟩ : ∃ v, rd M0 120 44 = v := ⟨_, rfl⟩
  have bg120_44 : 0 ≤ g120_44 ∧ g120_44 ≤ 8 := by rw [← eg120_44]; exact ir_120_44 hI.2.1
  obtain ⟨g120_50, eg120_50⟩ : ∃ v, rd M0 120 50 = v := ⟨_, rfl⟩
  have bg120_50 : 0 ≤ g120_50 ∧ g120_50 ≤ 20 := by rw [← eg120_50]; exact ir_120_50 hI.2.1
  obtain ⟨g136_0, eg136_0⟩ : ∃ v, rd M0 136 0 = v := ⟨_, rfl⟩
  have bg136_0 : 0 ≤ g136_0 ∧ g136_0 ≤ 200 := by rw [← eg136_0]; exact ir_136_0 hI.2.1
  obtain ⟨g9006_0, eg9006_0⟩ : ∃ v, nwv M0 = v := ⟨_, rfl⟩
  have bg9006_0 : 0 ≤ g9006_0 ∧ g9006_0 ≤ 20 := by rw [← eg9006_0]; exact (nwv_b hI.2.1)
  obtain ⟨g120_36, eg120_36⟩ : ∃ v, rd M0 120 36 = v := ⟨_, rfl⟩
  have bg120_36 : 0 ≤ g120_36 ∧ g120_36 ≤ 900 := by rw [← eg120_36]; exact ir_120_36 hI.2.1
  replace hq0 := hd_i hq0
  replace hq2 := hd_i hq2
  replace hq6 := hd_i hq6
  refine Tr.aload_n (pc := 0) (i := 0) d_X12_opensBlock_0 rfl rfl ?_
  refine Tr.bipush (pc := 1) d_X12_opensBlock_1 rfl (by decide) ?_
  refine Tr.callV (pc := 3) (as := [_]) d_X12_opensBlock_3 s_12_393 ok_X12_isSign rfl rfl (Nat.le_of_ble_eq_true rfl) (Nat.le_of_ble_eq_true rfl) (by decide) (ty_120 hS.1.1) ?_
  refine Tr.imp (Tr.deep (by decide) (ns_X12_isSign_120 (G120_3 := g120_3) (G120_6 := g120_6) hS.1.wk (eg120_3) (eg120_6) 123 (by omega))) ?_
  rintro M3 _ ⟨h3, r3, rfl, lr3, ur3, z3_0⟩
  have h3 := St.rn h3 (Pm0.of hS.1.2.2.2.2 (fun _ => (ka_X12_isSign_120_131 h3 _)) (fun _ => (ka_X12_isSign_120_137 h3 _)) (fun _ => (ka_X12_isSign_120_138 h3 _)) (fun _ => (ka_X12_isSign_120_139 h3 _)) (fun _ => (ka_X12_isSign_120_140 h3 _)) (fun _ => (ka_X12_isSign_120_141 h3 _)) (fun _ => (ka_X12_isSign_120_142 h3 _)) (fun _ => (ka_X12_isSign_120_143 h3 _)) (fun _ => (ka_X12_isSign_120_151 h3 _)) (fun _ => (ka_X12_isSign_120_152 h3 _)) (kp_X12_isSign_120_126_0 h3) (kp_X12_isSign_120_126_1 h3) (kp_X12_isSign_120_136_0 h3) (kp_X12_isSign_120_136_1 h3) (kp_X12_isSign_120_123_0 h3) (kp_X12_isSign_120_123_1 h3) (kp_X12_isSign_120_124_0 h3) (kp_X12_isSign_120_124_1 h3) (kp_X12_isSign_120_120_8 h3) (kp_X12_isSign_120_120_36 h3) (kp_X12_isSign_120_120_50 h3))
  have hS := St.tr hS h3 (by decide) (by decide)
  refine Tr.sc [(0, r3)] rfl ?_
  have J18 : ∀ (M : Mem) (u18_120_8 : Int), St Pm0 ws_X12_opensBlock_120_w1 as_X12_opensBlock_120_w1 M0 M → (0 ≤ u18_120_8 ∧ u18_120_8 ≤ 5) → rd M 120 3 = g120_3 → rd M 120 36 = g120_36 → rd M 120 4 = g120_4 → rd M 120 44 = g120_44 → rd M 120 5 = g120_5 → rd M 120 50 = g120_50 → rd M 120 6 = g120_6 → rd M 120 7 = g120_7 → rd M 120 8 = u18_120_8 → rd M 136 0 = g136_0 → nwv M = g9006_0 → tav M = g9010_0 → (1 ≤ u18_120_8 ∨ g120_3 = 3) → (g120_8 = 0 ∨ u18_120_8 = g120_8) → Tr l K 2 mX12_opensBlock 18 [(0, (2, 120)), (1, (0, a1)), (2, (0, a2))] [] M (q_X12_opensBlock_120_w1 a1 a2 M0) := by
    intro M u18_120_8 hS bu18_120_8 k18_120_3 k18_120_36 k18_120_4 k18_120_44 k18_120_5 k18_120_50 k18_120_6 k18_120_7 k18_120_8 k18_136_0 k18_9006_0 k18_9010_0 t18_0 t18_1
    replace t18_0 := hd_i t18_0
    replace t18_1 := hd_i t18_1
    refine Tr.aload_n (pc := 18) (i := 0) d_X12_opensBlock_18 rfl rfl ?_
    refine Tr.getf (pc := 19) d_X12_opensBlock_19 f_12_36 (by decide) (by decide) (ty_120 hS.1.1) ?_
    refine Tr.tp u18_120_8 k18_120_8 ?_
    have J43 : ∀ (M : Mem) (u43_120_8 : Int), St Pm0 ws_X12_opensBlock_120_w1 as_X12_opensBlock_120_w1 M0 M → (0 ≤ u43_120_8 ∧ u43_120_8 ≤ 5) → rd M 120 3 = g120_3 → rd M 120 36 = g120_36 → rd M 120 4 = g120_4 → rd M 120 44 = g120_44 → rd M 120 5 = g120_5 → rd M 120 50 = g120_50 → rd M 120 6 = g120_6 → rd M 120 7 = g120_7 → rd M 120 8 = u43_120_8 → rd M 136 0 = g136_0 → nwv M = g9006_0 → tav M = g9010_0 → (1 ≤ u43_120_8 ∨ (g120_44 ≤ 7 ∧ g120_3 = 3)) → (g120_8 = 0 ∨ u43_120_8 = g120_8) → Tr l K 2 mX12_opensBlock 43 [(0, (2, 120)), (1, (0, a1)), (2, (0, a2))] [] M (q_X12_opensBlock_120_w1 a1 a2 M0) := by
      intro M u43_120_8 hS bu43_120_8 k43_120_3 k43_120_36 k43_120_4 k43_120_44 k43_120_5 k43_120_50 k43_120_6 k43_120_7 k43_120_8 k43_136_0 k43_9006_0 k43_9010_0 t43_0 t43_1
      clear k18_120_3 k18_120_36 k18_120_4 k18_120_44 k18_120_5 k18_120_50 k18_120_6 k18_120_7 k18_120_8 k18_136_0 k18_9006_0 k18_9010_0
      replace t43_0 := hd_i t43_0
      replace t43_1 := hd_i t43_1
      refine Tr.aload_n (pc := 43) (i := 0) d_X12_opensBlock_43 rfl rfl ?_
      refine Tr.getf (pc := 44) d_X12_opensBlock_44 f_12_36 (by decide) (by decide) (ty_120 hS.1.1) ?_
      refine Tr.tp u43_120_8 k43_120_8 ?_
      refine Tr.if_le (pc := 47) (tgt := 51) d_X12_opensBlock_47 rfl (fun c47 => ?_) (fun c47 => ?_)
      · refine Tr.aload_n (pc := 51) (i := 0) d_X12_opensBlock_51 rfl rfl ?_
        refine Tr.dup (pc := 52) d_X12_opensBlock_52 ne21 ?_
        refine Tr.getf (pc := 53) d_X12_opensBlock_53 f_12_146 (by decide) (by decide) (ty_120 hS.1.1) ?_
        refine Tr.tp g120_44 k43_120_44 ?_
        refine Tr.iconst (pc := 56) d_X12_opensBlock_56 (by decide) ?_
        refine Tr.iadd (pc := 57) d_X12_opensBlock_57 ?_
        refine Tr.tp (g120_44 + 1) ((w32_id (by and_intros <;> omega)).trans (by omega)) ?_
        refine Tr.putfS (pc := 58) (P := St Pm0 ws_X12_opensBlock_120_w1 as_X12_opensBlock_120_w1 M0) d_X12_opensBlock_58 f_12_146 (by decide) (by decide) (ty_120 hS.1.1) (st_120_44 hS (by decide) (by exact (hd_o t43_0).elim (fun h1 => by omega) (fun h1 => by omega)) (Pm0.of hS.1.2.2.2.2 (fun _ => rd_wb _ rfl) (fun _ => rd_wb _ rfl) (fun _ => rd_wb _ rfl) (fun _ => rd_wb _ rfl) (fun _ => rd_wb _ rfl) (fun _ => rd_wb _ rfl) (fun _ => rd_wb _ rfl) (fun _ => rd_wb _ rfl) (fun _ => rd_wb _ rfl) (fun _ => rd_wb _ rfl) (rd_wb _ rfl) (rd_wb _ rfl) (rd_wb _ rfl) (rd_wb _ rfl) (rd_wb _ rfl) (rd_wb _ rfl) (rd_wb _ rfl) (rd_wb _ rfl) (rd_wb _ rfl) (rd_wb _ rfl) (rd_wb _ rfl))) (fun M58 hS w58 => ?_)
        refine Tr.aload_n (pc := 61) (i := 0) d_X12_opensBlock_61 rfl rfl ?_
        refine Tr.callV (pc := 62) (as := []) d_X12_opensBlock_62 s_12_396 ok_X12_next rfl rfl (Nat.le_of_ble_eq_true rfl) (Nat.le_of_ble_eq_true rfl) (by decide) (ty_120 hS.1.1) ?_
        refine Tr.imp (Tr.deep (by decide) (ns_X12_next_120_w1 (G120_3 := g120_3) (G120_5 := g120_5) (G120_8 := u43_120_8) (G9010_0 := g9010_0) hS.1 (((Wr.b w58 rfl).trans k43_120_3)) (((Wr.b w58 rfl).trans k43_120_5)) (((Wr.b w58 rfl).trans k43_120_8)) (((tav_of ((Wr.b w58 rfl).trans rfl) ((Wr.b w58 rfl).trans rfl)).trans k43_9010_0)))) ?_
        rintro M62 _ ⟨h62, s62_120_3, s62_120_4, s62_120_5, s62_120_7, s62_120_8, s62_9010_0, es62_120_3, bs62_120_3, es62_120_4, bs62_120_4, es62_120_5, bs62_120_5, es62_120_7, bs62_120_7, es62_120_8, bs62_120_8, es62_9010_0, bs62_9010_0, rfl, z62_0, z62_1, z62_2, z62_3, z62_4, z62_5, z62_6⟩
        have hS := St.tr hS h62 (by decide) (by decide)
        refine Tr.sc [] rfl ?_
        refine Tr.aload_n (pc := 65) (i := 0) d_X12_opensBlock_65 rfl rfl ?_
        refine Tr.getf (pc := 66) d_X12_opensBlock_66 f_12_159 (by decide) (by decide) (ty_120 hS.1.1) ?_
        refine Tr.tp 151 (fx_120_48 hS.1.1) ?_
        refine Tr.aload_n (pc := 69) (i := 0) d_X12_opensBlock_69 rfl rfl ?_
        refine Tr.getf (pc := 70) d_X12_opensBlock_70 f_12_165 (by decide) (by decide) (ty_120 hS.1.1) ?_
        refine Tr.tp g120_50 ((kp_X12_next_120_w1_120_50 h62).trans ((Wr.b w58 rfl).trans k43_120_50)) ?_
        refine Tr.iload_n (pc := 73) (i := 1) d_X12_opensBlock_73 rfl rfl ?_
        have kx_120_50 : rd M62 120 50 = g120_50 := ((kp_X12_next_120_w1_120_50 h62).trans ((Wr.b w58 rfl).trans k43_120_50))
        refine Tr.iastS (pc := 74) (P := St Pm0 ws_X12_opensBlock_120_w1 as_X12_opensBlock_120_w1 M0) d_X12_opensBlock_74 (ty_151 hS.1.1) (by omega) (by omega) (sa_151 hS (by decide) (by and_intros <;> omega) (Pm0_blk hS.1.2.2.2.2 hS.1.2.1 (by omega) (by omega))) (fun M74 hS w74 => ?_)
        obtain ⟨v74_9006, ev74_9006⟩ : ∃ v, nwv M74 = v := ⟨_, rfl⟩
        have bv74_9006 : 0 ≤ v74_9006 ∧ v74_9006 ≤ 20 := by rw [← ev74_9006]; exact (nwv_b hS.1.2.1)
        have fv74_9006 : v74_9006 = g9006_0 := by have h8 := ct_out (x := 151) (j := 50) (e := 1) (a := 0) (b := 1) w74 (by decide) (((kp_X12_next_120_w1_120_50 h62).trans ((Wr.b w58 rfl).trans k43_120_50))) (Int.le_refl _); have h7 : ctV 151 50 1 0 1 M74 = v74_9006 := ev74_9006; have h6 : ctV 151 50 1 0 1 M62 = g9006_0 := ((nwv_of (fun j => ((ka_X12_next_120_w1_151 h62 _).trans ((Wr.b w58 rfl).trans rfl))) ((kp_X12_next_120_w1_120_50 h62).trans ((Wr.b w58 rfl).trans rfl))).trans k43_9006_0); rw [← h7, h8]; exact h6
        refine Tr.aload_n (pc := 75) (i := 0) d_X12_opensBlock_75 rfl rfl ?_
        refine Tr.getf (pc := 76) d_X12_opensBlock_76 f_12_162 (by decide) (by decide) (ty_120 hS.1.1) ?_
        refine Tr.tp 152 (fx_120_49 hS.1.1) ?_
        refine Tr.aload_n (pc := 79) (i := 0) d_X12_opensBlock_79 rfl rfl ?_
        refine Tr.getf (pc := 80) d_X12_opensBlock_80 f_12_165 (by decide) (by decide) (ty_120 hS.1.1) ?_
        refine Tr.tp g120_50 ((Wr.b w74 rfl).trans ((kp_X12_next_120_w1_120_50 h62).trans ((Wr.b w58 rfl).trans k43_120_50))) ?_
        refine Tr.iload_n (pc := 83) (i := 2) d_X12_opensBlock_83 rfl rfl ?_
        have kx_120_50 : rd M74 120 50 = g120_50 := ((Wr.b w74 rfl).trans ((kp_X12_next_120_w1_120_50 h62).trans ((Wr.b w58 rfl).trans k43_120_50)))
        refine Tr.iastS (pc := 84) (P := St Pm0 ws_X12_opensBlock_120_w1 as_X12_opensBlock_120_w1 M0) d_X12_opensBlock_84 (ty_152 hS.1.1) (by omega) (by omega) (sa_152 hS (by decide) (by and_intros <;> omega) (Pm0_blk hS.1.2.2.2.2 hS.1.2.1 (by omega) (by omega))) (fun M84 hS w84 => ?_)
        refine Tr.aload_n (pc := 85) (i := 0) d_X12_opensBlock_85 rfl rfl ?_
        refine Tr.dup (pc := 86) d_X12_opensBlock_86 ne21 ?_
        refine Tr.getf (pc := 87) d_X12_opensBlock_87 f_12_165 (by decide) (by decide) (ty_120 hS.1.1) ?_
        refine Tr.tp g120_50 ((Wr.b w84 rfl).trans ((Wr.b w74 rfl).trans ((kp_X12_next_120_w1_120_50 h62).trans ((Wr.b w58 rfl).trans k43_120_50)))) ?_
        refine Tr.iconst (pc := 90) d_X12_opensBlock_90 (by decide) ?_
        refine Tr.iadd (pc := 91) d_X12_opensBlock_91 ?_
        refine Tr.tp (g120_50 + 1) ((w32_id (by and_intros <;> omega)).trans (by omega)) ?_
        have e151 : rd M84 151 g120_50 = a1 := ((Wr.b w84 rfl).trans w74.1)
        have e152 : rd M84 152 g120_50 = a2 := w84.1
        have e137 : rd M84 137 a2 = rd M0 137 a2 := St.ka hS (by decide) (by decide) (by decide)
        have kx_136_0 : rd M84 136 0 = g136_0 := ((Wr.b w84 rfl).trans ((Wr.b w74 rfl).trans ((kp_X12_next_120_w1_136_0 h62).trans ((Wr.b w58 rfl).trans k43_136_0))))
        refine Tr.putfS (pc := 92) (P := St Pm0 ws_X12_opensBlock_120_w1 as_X12_opensBlock_120_w1 M0) d_X12_opensBlock_92 f_12_165 (by decide) (by decide) (ty_120 hS.1.1) (st_120_50 hS (by decide) (by and_intros <;> omega) (Pm0_bl hS.1.2.2.2.2 (((Wr.b w84 rfl).trans ((Wr.b w74 rfl).trans ((kp_X12_next_120_w1_120_50 h62).trans ((Wr.b w58 rfl).trans k43_120_50))))) (by omega) (by rw [e152]; omega) (by rw [e152]; omega) (by rw [e151, e152]; intro c; have h5 := hd_o hq6; omega))) (fun M92 hS w92 => ?_)
        obtain ⟨v92_9006, ev92_9006⟩ : ∃ v, nwv M92 = v := ⟨_, rfl⟩
        have bv92_9006 : 0 ≤ v92_9006 ∧ v92_9006 ≤ 20 := by rw [← ev92_9006]; exact (nwv_b hS.1.2.1)
        have fv92_9006 : (a1 = 1 ∧ v92_9006 = v74_9006) ∨ (a1 ≠ 1 ∧ v92_9006 = v74_9006 + 1) := by have h8 := ct_push (x := 151) (j := 50) (e := 1) (a := 0) (b := 1) (M := M84) (M2 := M92) (n := g120_50) (v := a1) (((Wr.b w84 rfl).trans ((Wr.b w74 rfl).trans ((kp_X12_next_120_w1_120_50 h62).trans ((Wr.b w58 rfl).trans k43_120_50))))) w92.1 ((Wr.b w92 rfl).trans e151) (fun i hi => Wr.b w92 rfl) (by omega); have h7 : ctV 151 50 1 0 1 M92 = v92_9006 := ev92_9006; have h6 : ctV 151 50 1 0 1 M84 = v74_9006 := ((nwv_of (fun j => ((Wr.b w84 rfl).trans rfl)) ((Wr.b w84 rfl).trans rfl)).trans ev74_9006); omega
        replace fv92_9006 := hd_i fv92_9006
        have kr_120_3 : rd M92 120 3 = s62_120_3 := ((Wr.b w92 rfl).trans ((Wr.b w84 rfl).trans ((Wr.b w74 rfl).trans es62_120_3)))
        have kr_120_4 : rd M92 120 4 = s62_120_4 := ((Wr.b w92 rfl).trans ((Wr.b w84 rfl).trans ((Wr.b w74 rfl).trans es62_120_4)))
        have kr_120_5 : rd M92 120 5 = s62_120_5 := ((Wr.b w92 rfl).trans ((Wr.b w84 rfl).trans ((Wr.b w74 rfl).trans es62_120_5)))
        have kr_120_7 : rd M92 120 7 = s62_120_7 := ((Wr.b w92 rfl).trans ((Wr.b w84 rfl).trans ((Wr.b w74 rfl).trans es62_120_7)))
        have kr_120_8 : rd M92 120 8 = s62_120_8 := ((Wr.b w92 rfl).trans ((Wr.b w84 rfl).trans ((Wr.b w74 rfl).trans es62_120_8)))
        have kr_120_36 : rd M92 120 36 = g120_36 := ((Wr.b w92 rfl).trans ((Wr.b w84 rfl).trans ((Wr.b w74 rfl).trans ((kp_X12_next_120_w1_120_36 h62).trans ((Wr.b w58 rfl).trans k43_120_36)))))
        have kr_120_44 : rd M92 120 44 = (g120_44 + 1) := ((Wr.b w92 rfl).trans ((Wr.b w84 rfl).trans ((Wr.b w74 rfl).trans ((kp_X12_next_120_w1_120_44 h62).trans w58.1))))
        have kr_120_50 : rd M92 120 50 = (g120_50 + 1) := w92.1
        have kr_9006_0 : nwv M92 = v92_9006 := ev92_9006
        have kr_9010_0 : tav M92 = s62_9010_0 := ((tav_of ((Wr.b w92 rfl).trans ((Wr.b w84 rfl).trans ((Wr.b w74 rfl).trans rfl))) ((Wr.b w92 rfl).trans ((Wr.b w84 rfl).trans ((Wr.b w74 rfl).trans rfl)))).trans es62_9010_0)
        exact Tr.vret (pc := 95) d_X12_opensBlock_95 rfl ⟨hS, rfl, (by first | exact (hd_o z62_0) | exact (hd_o z62_0).elim (fun h1 => by omega) (fun h1 => by omega)), (by omega), (by first | exact (hd_o z62_2) | exact (hd_o z62_2).elim (fun h1 => by omega) (fun h1 => h1.elim (fun h1 => by omega) (fun h1 => by omega))), (by and_intros <;> omega), (by exact (hd_o t43_1).elim (fun h1 => by omega) (fun h1 => by omega)), (by exact (hd_o t43_0).elim (fun h1 => by omega) (fun h1 => (hd_o z62_5).elim (fun h2 => by omega) (fun h2 => by omega))), (by omega), (by exact (hd_o t43_0).elim (fun h1 => by omega) (fun h1 => (hd_o hq0).elim (fun h2 => by omega) (fun h2 => by omega))), (by exact (hd_o fv92_9006).elim (fun h1 => by omega) (fun h1 => (ne_o h1.1).elim (fun h2 => by omega) (fun h2 => by omega)))⟩
      · have kr_120_3 : rd M 120 3 = g120_3 := k43_120_3
        have kr_120_4 : rd M 120 4 = g120_4 := k43_120_4
        have kr_120_5 : rd M 120 5 = g120_5 := k43_120_5
        have kr_120_7 : rd M 120 7 = g120_7 := k43_120_7
        have kr_120_8 : rd M 120 8 = u43_120_8 := k43_120_8
        have kr_120_36 : rd M 120 36 = g120_36 := k43_120_36
        have kr_120_44 : rd M 120 44 = g120_44 := k43_120_44
        have kr_120_50 : rd M 120 50 = g120_50 := k43_120_50
        have kr_9006_0 : nwv M = g9006_0 := k43_9006_0
        have kr_9010_0 : tav M = g9010_0 := k43_9010_0
        exact Tr.vret (pc := 50) d_X12_opensBlock_50 rfl ⟨hS, rfl, (by first | exact (hd_o hq0) | exact (hd_o hq0).elim (fun h1 => by omega) (fun h1 => by omega)), (by omega), (by first | exact (hd_o hq2) | exact (hd_o hq2).elim (fun h1 => by omega) (fun h1 => h1.elim (fun h1 => by omega) (fun h1 => by omega))), (by and_intros <;> omega), (by first | exact (hd_o t43_1) | exact (hd_o t43_1).elim (fun h1 => by omega) (fun h1 => by omega)), (by omega), (by omega), (by omega), (by omega)⟩
    refine Tr.if_ne (pc := 22) (tgt := 43) d_X12_opensBlock_22 rfl (fun c22 => ?_) (fun c22 => ?_)
    · have c22b : 1 ≤ u18_120_8 ∧ u18_120_8 ≤ 5 := by omega
      replace c22 := hd_i c22
      refine Tr.pick [0, 1, 2] (ls2 := [(0, (2, 120)), (1, (0, a1)), (2, (0, a2))]) rfl ?_
      exact J43 _ _ hS (by and_intros <;> omega) k18_120_3 k18_120_36 k18_120_4 k18_120_44 k18_120_5 k18_120_50 k18_120_6 k18_120_7 k18_120_8 k18_136_0 k18_9006_0 k18_9010_0 (by omega) (by first | exact (hd_o t18_1) | exact (hd_o t18_1).elim (fun h1 => by omega) (fun h1 => by omega))
    · refine Tr.aload_n (pc := 25) (i := 0) d_X12_opensBlock_25 rfl rfl ?_
      refine Tr.getf (pc := 26) d_X12_opensBlock_26 f_12_146 (by decide) (by decide) (ty_120 hS.1.1) ?_
      refine Tr.tp g120_44 k18_120_44 ?_
      refine Tr.bipush (pc := 29) d_X12_opensBlock_29 rfl (by decide) ?_
      refine Tr.icmp_ne (pc := 31) (tgt := 43) d_X12_opensBlock_31 rfl (fun c31 => ?_) (fun c31 => ?_)
      · have c31b : 0 ≤ g120_44 ∧ g120_44 ≤ 7 := by omega
        replace c31 := hd_i c31
        refine Tr.pick [0, 1, 2] (ls2 := [(0, (2, 120)), (1, (0, a1)), (2, (0, a2))]) rfl ?_
        exact J43 _ _ hS (by and_intros <;> omega) k18_120_3 k18_120_36 k18_120_4 k18_120_44 k18_120_5 k18_120_50 k18_120_6 k18_120_7 k18_120_8 k18_136_0 k18_9006_0 k18_9010_0 (by exact (hd_o t18_0).elim (fun h1 => by omega) (fun h1 => by omega)) (by first | exact (hd_o t18_1) | exact (hd_o t18_1).elim (fun h1 => by omega) (fun h1 => by omega))
      · refine Tr.aload_n (pc := 34) (i := 0) d_X12_opensBlock_34 rfl rfl ?_
        refine Tr.iconst (pc := 35) d_X12_opensBlock_35 (by decide) ?_
        refine Tr.aload_n (pc := 36) (i := 0) d_X12_opensBlock_36 rfl rfl ?_
        refine Tr.getf (pc := 37) d_X12_opensBlock_37 f_12_23 (by decide) (by decide) (ty_120 hS.1.1) ?_
        refine Tr.tp g120_4 k18_120_4 ?_
        refine Tr.callV (pc := 40) (as := [_, _]) d_X12_opensBlock_40 s_12_389 ok_X12_blame rfl rfl (Nat.le_of_ble_eq_true rfl) (Nat.le_of_ble_eq_true rfl) (by decide) (ty_120 hS.1.1) ?_
        refine Tr.imp (Tr.deep (by decide) (ns_X12_blame_120_w1 (G120_8 := u18_120_8) hS.1 (k18_120_8) 5 (by omega) g120_4 (by and_intros <;> omega))) ?_
        rintro M40 _ ⟨h40, s40_120_8, es40_120_8, bs40_120_8, rfl, z40_0⟩
        have hS := St.tr hS h40 (by decide) (by decide)
        refine Tr.sc [] rfl ?_
        refine Tr.pick [0, 1, 2] (ls2 := [(0, (2, 120)), (1, (0, a1)), (2, (0, a2))]) rfl ?_
        exact J43 _ _ hS (by and_intros <;> omega) ((kp_X12_blame_120_w1_120_3 h40).trans k18_120_3) ((kp_X12_blame_120_w1_120_36 h40).trans k18_120_36) ((kp_X12_blame_120_w1_120_4 h40).trans k18_120_4) ((kp_X12_blame_120_w1_120_44 h40).trans k18_120_44) ((kp_X12_blame_120_w1_120_5 h40).trans k18_120_5) ((kp_X12_blame_120_w1_120_50 h40).trans k18_120_50) ((kp_X12_blame_120_w1_120_6 h40).trans k18_120_6) ((kp_X12_blame_120_w1_120_7 h40).trans k18_120_7) es40_120_8 ((kp_X12_blame_120_w1_136_0 h40).trans k18_136_0) ((nwv_of (fun j => ((ka_X12_blame_120_w1_151 h40 _).trans rfl)) ((kp_X12_blame_120_w1_120_50 h40).trans rfl)).trans k18_9006_0) ((tav_of ((kp_X12_blame_120_w1_120_5 h40).trans rfl) ((kp_X12_blame_120_w1_120_3 h40).trans rfl)).trans k18_9010_0) (by exact (hd_o z40_0).elim (fun h1 => by omega) (fun h1 => by omega)) (by exact (hd_o t18_1).elim (fun h1 => by omega) (fun h1 => by omega))
  refine Tr.if_ne (pc := 6) (tgt := 18) d_X12_opensBlock_6 rfl (fun c6 => ?_) (fun c6 => ?_)
  · have c6b : 1 ≤ r3 ∧ r3 ≤ 1 := by omega
    replace c6 := hd_i c6
    refine Tr.pick [0, 1, 2] (ls2 := [(0, (2, 120)), (1, (0, a1)), (2, (0, a2))]) rfl ?_
    exact J18 _ _ hS (by and_intros <;> omega) ((kp_X12_isSign_120_120_3 h3).trans eg120_3) ((kp_X12_isSign_120_120_36 h3).trans eg120_36) ((kp_X12_isSign_120_120_4 h3).trans eg120_4) ((kp_X12_isSign_120_120_44 h3).trans eg120_44) ((kp_X12_isSign_120_120_5 h3).trans eg120_5) ((kp_X12_isSign_120_120_50 h3).trans eg120_50) ((kp_X12_isSign_120_120_6 h3).trans eg120_6) ((kp_X12_isSign_120_120_7 h3).trans eg120_7) ((kp_X12_isSign_120_120_8 h3).trans eg120_8) ((kp_X12_isSign_120_136_0 h3).trans eg136_0) ((nwv_of (fun j => ((ka_X12_isSign_120_151 h3 _).trans rfl)) ((kp_X12_isSign_120_120_50 h3).trans rfl)).trans eg9006_0) ((tav_of ((kp_X12_isSign_120_120_5 h3).trans rfl) ((kp_X12_isSign_120_120_3 h3).trans rfl)).trans eg9010_0) (by exact (hd_o z3_0).elim (fun h1 => by omega) (fun h1 => by omega)) (by omega)
  · refine Tr.aload_n (pc := 9) (i := 0) d_X12_opensBlock_9 rfl rfl ?_
    refine Tr.iconst (pc := 10) d_X12_opensBlock_10 (by decide) ?_
    refine Tr.aload_n (pc := 11) (i := 0) d_X12_opensBlock_11 rfl rfl ?_
    refine Tr.getf (pc := 12) d_X12_opensBlock_12 f_12_23 (by decide) (by decide) (ty_120 hS.1.1) ?_
    refine Tr.tp g120_4 ((kp_X12_isSign_120_120_4 h3).trans eg120_4) ?_
    refine Tr.callV (pc := 15) (as := [_, _]) d_X12_opensBlock_15 s_12_389 ok_X12_blame rfl rfl (Nat.le_of_ble_eq_true rfl) (Nat.le_of_ble_eq_true rfl) (by decide) (ty_120 hS.1.1) ?_
    refine Tr.imp (Tr.deep (by decide) (ns_X12_blame_120_w1 (G120_8 := g120_8) hS.1 (((kp_X12_isSign_120_120_8 h3).trans eg120_8)) 1 (by omega) g120_4 (by and_intros <;> omega))) ?_
    rintro M15 _ ⟨h15, s15_120_8, es15_120_8, bs15_120_8, rfl, z15_0⟩
    have hS := St.tr hS h15 (by decide) (by decide)
    refine Tr.sc [] rfl ?_
    refine Tr.pick [0, 1, 2] (ls2 := [(0, (2, 120)), (1, (0, a1)), (2, (0, a2))]) rfl ?_
    exact J18 _ _ hS (by and_intros <;> omega) ((kp_X12_blame_120_w1_120_3 h15).trans ((kp_X12_isSign_120_120_3 h3).trans eg120_3)) ((kp_X12_blame_120_w1_120_36 h15).trans ((kp_X12_isSign_120_120_36 h3).trans eg120_36)) ((kp_X12_blame_120_w1_120_4 h15).trans ((kp_X12_isSign_120_120_4 h3).trans eg120_4)) ((kp_X12_blame_120_w1_120_44 h15).trans ((kp_X12_isSign_120_120_44 h3).trans eg120_44)) ((kp_X12_blame_120_w1_120_5 h15).trans ((kp_X12_isSign_120_120_5 h3).trans eg120_5)) ((kp_X12_blame_120_w1_120_50 h15).trans ((kp_X12_isSign_120_120_50 h3).trans eg120_50)) ((kp_X12_blame_120_w1_120_6 h15).trans ((kp_X12_isSign_120_120_6 h3).trans eg120_6)) ((kp_X12_blame_120_w1_120_7 h15).trans ((kp_X12_isSign_120_120_7 h3).trans eg120_7)) es15_120_8 ((kp_X12_blame_120_w1_136_0 h15).trans ((kp_X12_isSign_120_136_0 h3).trans eg136_0)) ((nwv_of (fun j => ((ka_X12_blame_120_w1_151 h15 _).trans ((ka_X12_isSign_120_151 h3 _).trans rfl))) ((kp_X12_blame_120_w1_120_50 h15).trans ((kp_X12_isSign_120_120_50 h3).trans rfl))).trans eg9006_0) ((tav_of ((kp_X12_blame_120_w1_120_5 h15).trans ((kp_X12_isSign_120_120_5 h3).trans rfl)) ((kp_X12_blame_120_w1_120_3 h15).trans ((kp_X12_isSign_120_120_3 h3).trans rfl))).trans eg9010_0) (by exact (hd_o z15_0).elim (fun h1 => by omega) (fun h1 => by omega)) (by exact (hd_o z15_0).elim (fun h1 => by omega) (fun h1 => by omega))

set_option maxRecDepth 100000 in
set_option maxHeartbeats 4000000 in
theorem ns_X12_opensBlock_120_w1 {l : Launch} {K : EC} {M0 : Mem} {G120_3 G120_4 G120_5 G120_7 G120_8 G120_36 G120_44 G120_50 G136_0 G9006_0 G9010_0 : Int} (hI : In Pm0 M0) (k120_3 : rd M0 120 3 = G120_3) (k120_4 : rd M0 120 4 = G120_4) (k120_5 : rd M0 120 5 = G120_5) (k120_7 : rd M0 120 7 = G120_7) (k120_8 : rd M0 120 8 = G120_8) (k120_36 : rd M0 120 36 = G120_36) (k120_44 : rd M0 120 44 = G120_44) (k120_50 : rd M0 120 50 = G120_50) (k136_0 : rd M0 136 0 = G136_0) (k9006_0 : nwv M0 = G9006_0) (k9010_0 : tav M0 = G9010_0)  (a1 : Int) (ha1 : 0 ≤ a1 ∧ a1 ≤ 2) (a2 : Int) (ha2 : 0 ≤ a2 ∧ a2 ≤ 399)  (hq0 : G120_3 = 0 ∨ G120_4 + 1 ≤ G120_5) (hq1 : G120_4 ≤ G120_5) (hq2 : G120_3 ≠ 1 ∨ G120_4 + 2 ≤ G120_5 ∨ G120_7 < 256) (hq3 : G120_50 ≤ G120_44) (hq4 : G120_36 + G120_44 ≤ G120_4) (hq5 : 0 ≤ a2 ∧ a2 < 0 + G136_0) (hq6 : a1 = 1 ∨ rd M0 137 a2 ≠ 0) : Tr l K 2 mX12_opensBlock 0 [(0, (2, 120)), (1, (0, a1)), (2, (0, a2))] [] M0 (fun M' r => St Pm0 ws_X12_opensBlock_120_w1 as_X12_opensBlock_120_w1 M0 M' ∧ ∃ S120_3 S120_4 S120_5 S120_7 S120_8 S120_44 S120_50 S9006_0 S9010_0 : Int, rd M' 120 3 = S120_3 ∧ (0 ≤ S120_3 ∧ S120_3 ≤ 3) ∧ rd M' 120 4 = S120_4 ∧ (0 ≤ S120_4 ∧ S120_4 ≤ 900) ∧ rd M' 120 5 = S120_5 ∧ (0 ≤ S120_5 ∧ S120_5 ≤ 900) ∧ rd M' 120 7 = S120_7 ∧ ((-9223372036854775808) ≤ S120_7 ∧ S120_7 ≤ 9223372036854775807) ∧ rd M' 120 8 = S120_8 ∧ (0 ≤ S120_8 ∧ S120_8 ≤ 5) ∧ rd M' 120 44 = S120_44 ∧ (0 ≤ S120_44 ∧ S120_44 ≤ 8) ∧ rd M' 120 50 = S120_50 ∧ (0 ≤ S120_50 ∧ S120_50 ≤ 20) ∧ nwv M' = S9006_0 ∧ (0 ≤ S9006_0 ∧ S9006_0 ≤ 20) ∧ tav M' = S9010_0 ∧ ((-1) ≤ S9010_0 ∧ S9010_0 ≤ 1800) ∧ r = none ∧ Hd (S120_3 = 0 ∨ S120_4 + 1 ≤ S120_5) ∧ (S120_4 ≤ S120_5) ∧ Hd (S120_3 ≠ 1 ∨ S120_4 + 2 ≤ S120_5 ∨ S120_7 < 256) ∧ (G120_4 ≤ S120_4 ∧ G120_5 ≤ S120_5 ∧ G9010_0 ≤ S9010_0) ∧ Hd (G120_8 = 0 ∨ S120_8 = G120_8) ∧ Hd (1 ≤ S120_8 ∨ G9010_0 < S9010_0) ∧ (S120_50 ≤ S120_44) ∧ (G120_36 + S120_44 ≤ S120_4) ∧ Hd ((a1 = 1 ∧ S9006_0 = G9006_0) ∨ (a1 ≠ 1 ∧ S9006_0 ≤ G9006_0 + 1))) := by
  subst k120_3
  subst k120_4
  subst k120_5
  subst k120_7
  subst k120_8
  subst k120_36
  subst k120_44
  subst k120_50
  subst k136_0
  subst k9006_0
  subst k9010_0
  refine Tr.imp (sp_X12_opensBlock_120_w1 hI a1 ha1 a2 ha2 hq0 hq1 hq2 hq3 hq4 hq5 hq6) ?_
  rintro M' _ ⟨hS, rfl, z0, z1, z2, z3, z4, z5, z6, z7, z8⟩
  rewrite [show rd M' 120 36 = rd M0 120 36 from ((St.kp hS (by decide) (by decide) (by decide)).trans rfl)] at z7
  exact ⟨hS, _, _, _, _, _, _, _, _, _, rfl, ir_120_3 hS.1.2.1, rfl, ir_120_4 hS.1.2.1, rfl, ir_120_5 hS.1.2.1, rfl, ir_120_7 hS.1.2.1, rfl, ir_120_8 hS.1.2.1, rfl, ir_120_44 hS.1.2.1, rfl, ir_120_50 hS.1.2.1, rfl, (nwv_b hS.1.2.1), rfl, (tav_b hS.1.2.1), rfl, hd_i z0, z1, hd_i z2, z3, hd_i z4, hd_i z5, z6, z7, hd_i z8⟩

def ws_X12_statement_120_w1 : List (Int × Int) := [(120, 3), (120, 4), (120, 5), (120, 6), (120, 7), (120, 8), (120, 9), (120, 36), (120, 43), (120, 44), (120, 46), (120, 47), (120, 50), (129, 0), (136, 0)]
def as_X12_statement_120_w1 : List Int := [137, 138, 139, 140, 141, 142, 143, 144, 145, 146, 147, 148, 149, 150, 151, 152]
def q_X12_statement_120_w1 (M0 M' : Mem) (r : Option PV) : Prop := St Pm0 ws_X12_statement_120_w1 as_X12_statement_120_w1 M0 M' ∧ r = none ∧ (rd M' 120 3 = 0 ∨ rd M' 120 4 + 1 ≤ rd M' 120 5) ∧ (rd M' 120 4 ≤ rd M' 120 5) ∧ (rd M' 120 3 ≠ 1 ∨ rd M' 120 4 + 2 ≤ rd M' 120 5 ∨ rd M' 120 7 < 256) ∧ (rd M0 120 4 ≤ rd M' 120 4 ∧ rd M0 120 5 ≤ rd M' 120 5 ∧ tav M0 ≤ tav M') ∧ (rd M0 120 8 = 0 ∨ rd M' 120 8 = rd M0 120 8) ∧ (1 ≤ rd M' 120 8 ∨ tav M0 < tav M') ∧ (1 ≤ rd M' 120 8 ∨ rd M' 136 0 + nwv M' ≤ 2 * rd M' 129 0) ∧ (rd M' 120 50 ≤ rd M' 120 44) ∧ (rd M' 120 36 + rd M' 120 44 ≤ rd M' 120 4)
theorem kp_X12_statement_120_w1_120_37 {q : Mem → Prop} {M0 M : Mem} (h : St q ws_X12_statement_120_w1 as_X12_statement_120_w1 M0 M) : rd M 120 37 = rd M0 120 37 := St.kp h (by decide) (by decide) (by decide)
theorem kp_X12_spot_120_w1_129_0 {q : Mem → Prop} {M0 M : Mem} (h : St q ws_X12_spot_120_w1 as_X12_spot_120_w1 M0 M) : rd M 129 0 = rd M0 129 0 := St.kp h (by decide) (by decide) (by decide)
theorem kp_X12_spot_120_w1_120_3 {q : Mem → Prop} {M0 M : Mem} (h : St q ws_X12_spot_120_w1 as_X12_spot_120_w1 M0 M) : rd M 120 3 = rd M0 120 3 := St.kp h (by decide) (by decide) (by decide)
theorem kp_X12_spot_120_w1_120_5 {q : Mem → Prop} {M0 M : Mem} (h : St q ws_X12_spot_120_w1 as_X12_spot_120_w1 M0 M) : rd M 120 5 = rd M0 120 5 := St.kp h (by decide) (by decide) (by decide)
theorem kp_X12_spot_120_w1_120_8 {q : Mem → Prop} {M0 M : Mem} (h : St q ws_X12_spot_120_w1 as_X12_spot_120_w1 M0 M) : rd M 120 8 = rd M0 120 8 := St.kp h (by decide) (by decide) (by decide)
theorem kp_X12_must_120_w1_120_36 {q : Mem → Prop} {M0 M : Mem} (h : St q ws_X12_must_120_w1 as_X12_must_120_w1 M0 M) : rd M 120 36 = rd M0 120 36 := St.kp h (by decide) (by decide) (by decide)
theorem kp_X12_must_120_w1_120_44 {q : Mem → Prop} {M0 M : Mem} (h : St q ws_X12_must_120_w1 as_X12_must_120_w1 M0 M) : rd M 120 44 = rd M0 120 44 := St.kp h (by decide) (by decide) (by decide)
theorem kp_X12_must_120_w1_120_50 {q : Mem → Prop} {M0 M : Mem} (h : St q ws_X12_must_120_w1 as_X12_must_120_w1 M0 M) : rd M 120 50 = rd M0 120 50 := St.kp h (by decide) (by decide) (by decide)
theorem kp_X12_must_120_w1_129_0 {q : Mem → Prop} {M0 M : Mem} (h : St q ws_X12_must_120_w1 as_X12_must_120_w1 M0 M) : rd M 129 0 = rd M0 129 0 := St.kp h (by decide) (by decide) (by decide)
theorem kp_X12_must_120_w1_136_0 {q : Mem → Prop} {M0 M : Mem} (h : St q ws_X12_must_120_w1 as_X12_must_120_w1 M0 M) : rd M 136 0 = rd M0 136 0 := St.kp h (by decide) (by decide) (by decide)
theorem ka_X12_must_120_w1_151 {q : Mem → Prop} {M0 M : Mem} (h : St q ws_X12_must_120_w1 as_X12_must_120_w1 M0 M) (j : Int) : rd M 151 j = rd M0 151 j := St.ka h (by decide) (by decide) (by decide)
theorem kp_X12_opensBlock_120_w1_120_36 {q : Mem → Prop} {M0 M : Mem} (h : St q ws_X12_opensBlock_120_w1 as_X12_opensBlock_120_w1 M0 M) : rd M 120 36 = rd M0 120 36 := St.kp h (by decide) (by decide) (by decide)
theorem kp_X12_opensBlock_120_w1_129_0 {q : Mem → Prop} {M0 M : Mem} (h : St q ws_X12_opensBlock_120_w1 as_X12_opensBlock_120_w1 M0 M) : rd M 129 0 = rd M0 129 0 := St.kp h (by decide) (by decide) (by decide)
theorem kp_X12_opensBlock_120_w1_136_0 {q : Mem → Prop} {M0 M : Mem} (h : St q ws_X12_opensBlock_120_w1 as_X12_opensBlock_120_w1 M0 M) : rd M 136 0 = rd M0 136 0 := St.kp h (by decide) (by decide) (by decide)
theorem kp_X12_reads_120_w1_120_50 {q : Mem → Prop} {M0 M : Mem} (h : St q ws_X12_reads_120_w1 as_X12_reads_120_w1 M0 M) : rd M 120 50 = rd M0 120 50 := St.kp h (by decide) (by decide) (by decide)
theorem kp_X12_reads_120_w1_129_0 {q : Mem → Prop} {M0 M : Mem} (h : St q ws_X12_reads_120_w1 as_X12_reads_120_w1 M0 M) : rd M 129 0 = rd M0 129 0 := St.kp h (by decide) (by decide) (by decide)
theorem kp_X12_reads_120_w1_136_0 {q : Mem → Prop} {M0 M : Mem} (h : St q ws_X12_reads_120_w1 as_X12_reads_120_w1 M0 M) : rd M 136 0 = rd M0 136 0 := St.kp h (by decide) (by decide) (by decide)
theorem ka_X12_reads_120_w1_137 {q : Mem → Prop} {M0 M : Mem} (h : St q ws_X12_reads_120_w1 as_X12_reads_120_w1 M0 M) (j : Int) : rd M 137 j = rd M0 137 j := St.ka h (by decide) (by decide) (by decide)
theorem ka_X12_reads_120_w1_140 {q : Mem → Prop} {M0 M : Mem} (h : St q ws_X12_reads_120_w1 as_X12_reads_120_w1 M0 M) (j : Int) : rd M 140 j = rd M0 140 j := St.ka h (by decide) (by decide) (by decide)
theorem ka_X12_reads_120_w1_151 {q : Mem → Prop} {M0 M : Mem} (h : St q ws_X12_reads_120_w1 as_X12_reads_120_w1 M0 M) (j : Int) : rd M 151 j = rd M0 151 j := St.ka h (by decide) (by decide) (by decide)
theorem kp_X12_asked_120_w1_120_47 {q : Mem → Prop} {M0 M : Mem} (h : St q ws_X12_asked_120_w1 as_X12_asked_120_w1 M0 M) : rd M 120 47 = rd M0 120 47 := St.kp h (by decide) (by decide) (by decide)
theorem kp_X12_asked_120_w1_129_0 {q : Mem → Prop} {M0 M : Mem} (h : St q ws_X12_asked_120_w1 as_X12_asked_120_w1 M0 M) : rd M 129 0 = rd M0 129 0 := St.kp h (by decide) (by decide) (by decide)
theorem ka_X12_asked_120_w1_137 {q : Mem → Prop} {M0 M : Mem} (h : St q ws_X12_asked_120_w1 as_X12_asked_120_w1 M0 M) (j : Int) : rd M 137 j = rd M0 137 j := St.ka h (by decide) (by decide) (by decide)
theorem ka_X12_asked_120_w1_151 {q : Mem → Prop} {M0 M : Mem} (h : St q ws_X12_asked_120_w1 as_X12_asked_120_w1 M0 M) (j : Int) : rd M 151 j = rd M0 151 j := St.ka h (by decide) (by decide) (by decide)
theorem kp_X12_spot_120_w1_120_36 {q : Mem → Prop} {M0 M : Mem} (h : St q ws_X12_spot_120_w1 as_X12_spot_120_w1 M0 M) : rd M 120 36 = rd M0 120 36 := St.kp h (by decide) (by decide) (by decide)
theorem kp_X12_spot_120_w1_120_43 {q : Mem → Prop} {M0 M : Mem} (h : St q ws_X12_spot_120_w1 as_X12_spot_120_w1 M0 M) : rd M 120 43 = rd M0 120 43 := St.kp h (by decide) (by decide) (by decide)
theorem kp_X12_spot_120_w1_120_44 {q : Mem → Prop} {M0 M : Mem} (h : St q ws_X12_spot_120_w1 as_X12_spot_120_w1 M0 M) : rd M 120 44 = rd M0 120 44 := St.kp h (by decide) (by decide) (by decide)
theorem kp_X12_spot_120_w1_120_46 {q : Mem → Prop} {M0 M : Mem} (h : St q ws_X12_spot_120_w1 as_X12_spot_120_w1 M0 M) : rd M 120 46 = rd M0 120 46 := St.kp h (by decide) (by decide) (by decide)
theorem kp_X12_spot_120_w1_120_47 {q : Mem → Prop} {M0 M : Mem} (h : St q ws_X12_spot_120_w1 as_X12_spot_120_w1 M0 M) : rd M 120 47 = rd M0 120 47 := St.kp h (by decide) (by decide) (by decide)
theorem kp_X12_spot_120_w1_120_50 {q : Mem → Prop} {M0 M : Mem} (h : St q ws_X12_spot_120_w1 as_X12_spot_120_w1 M0 M) : rd M 120 50 = rd M0 120 50 := St.kp h (by decide) (by decide) (by decide)
theorem kp_X12_next_120_w1_129_0 {q : Mem → Prop} {M0 M : Mem} (h : St q ws_X12_next_120_w1 as_X12_next_120_w1 M0 M) : rd M 129 0 = rd M0 129 0 := St.kp h (by decide) (by decide) (by decide)
theorem ka_X12_next_120_w1_137 {q : Mem → Prop} {M0 M : Mem} (h : St q ws_X12_next_120_w1 as_X12_next_120_w1 M0 M) (j : Int) : rd M 137 j = rd M0 137 j := St.ka h (by decide) (by decide) (by decide)
theorem ka_X12_spot_120_w1_150 {q : Mem → Prop} {M0 M : Mem} (h : St q ws_X12_spot_120_w1 as_X12_spot_120_w1 M0 M) (j : Int) : rd M 150 j = rd M0 150 j := St.ka h (by decide) (by decide) (by decide)
theorem ka_X12_spot_120_w1_145 {q : Mem → Prop} {M0 M : Mem} (h : St q ws_X12_spot_120_w1 as_X12_spot_120_w1 M0 M) (j : Int) : rd M 145 j = rd M0 145 j := St.ka h (by decide) (by decide) (by decide)
theorem ka_X12_spot_120_w1_151 {q : Mem → Prop} {M0 M : Mem} (h : St q ws_X12_spot_120_w1 as_X12_spot_120_w1 M0 M) (j : Int) : rd M 151 j = rd M0 151 j := St.ka h (by decide) (by decide) (by decide)
theorem kp_X12_must_120_w1_120_43 {q : Mem → Prop} {M0 M : Mem} (h : St q ws_X12_must_120_w1 as_X12_must_120_w1 M0 M) : rd M 120 43 = rd M0 120 43 := St.kp h (by decide) (by decide) (by decide)
theorem kp_X12_must_120_w1_120_46 {q : Mem → Prop} {M0 M : Mem} (h : St q ws_X12_must_120_w1 as_X12_must_120_w1 M0 M) : rd M 120 46 = rd M0 120 46 := St.kp h (by decide) (by decide) (by decide)
theorem kp_X12_must_120_w1_120_47 {q : Mem → Prop} {M0 M : Mem} (h : St q ws_X12_must_120_w1 as_X12_must_120_w1 M0 M) : rd M 120 47 = rd M0 120 47 := St.kp h (by decide) (by decide) (by decide)
theorem ka_X12_must_120_w1_137 {q : Mem → Prop} {M0 M : Mem} (h : St q ws_X12_must_120_w1 as_X12_must_120_w1 M0 M) (j : Int) : rd M 137 j = rd M0 137 j := St.ka h (by decide) (by decide) (by decide)
theorem ka_X12_must_120_w1_150 {q : Mem → Prop} {M0 M : Mem} (h : St q ws_X12_must_120_w1 as_X12_must_120_w1 M0 M) (j : Int) : rd M 150 j = rd M0 150 j := St.ka h (by decide) (by decide) (by decide)
theorem ka_X12_must_120_w1_145 {q : Mem → Prop} {M0 M : Mem} (h : St q ws_X12_must_120_w1 as_X12_must_120_w1 M0 M) (j : Int) : rd M 145 j = rd M0 145 j := St.ka h (by decide) (by decide) (by decide)
theorem kp_X12_blame_120_w1_129_0 {q : Mem → Prop} {M0 M : Mem} (h : St q ws_X12_blame_120_w1 as_X12_blame_120_w1 M0 M) : rd M 129 0 = rd M0 129 0 := St.kp h (by decide) (by decide) (by decide)
theorem kp_X12_order_120_129_0 {q : Mem → Prop} {M0 M : Mem} (h : St q ws_X12_order_120 as_X12_order_120 M0 M) : rd M 129 0 = rd M0 129 0 := St.kp h (by decide) (by decide) (by decide)
set_option maxRecDepth 100000 in
set_option maxHeartbeats 4000000 in
theorem sp_X12_statement_120_w1 {l : Launch} {K : EC} {M0 : Mem} (hI : In Pm0 M0) (en_120_37 : rd M0 120 37 = 0)   (hq0 : rd M0 120 3 = 0 ∨ rd M0 120 4 + 1 ≤ rd M0 120 5) (hq1 : rd M0 120 4 ≤ rd M0 120 5) (hq2 : rd M0 120 3 ≠ 1 ∨ rd M0 120 4 + 2 ≤ rd M0 120 5 ∨ rd M0 120 7 < 256) (hq3 : rd M0 120 8 = 0) (hq4 : rd M0 120 50 ≤ rd M0 120 44) (hq5 : rd M0 136 0 + nwv M0 ≤ 2 * rd M0 129 0) (hq6 : rd M0 120 36 + rd M0 120 44 ≤ rd M0 120 4) : Tr l K 5 mX12_statement 0 [(0, (2, 120))] [] M0 (q_X12_statement_120_w1 M0) := by
  have hS : St Pm0 ws_X12_statement_120_w1 as_X12_statement_120_w1 M0 M0 := St.rf hI
  obtain ⟨g120_8, eg120_8⟩ : ∃ v, rd M0 120 8 = v := ⟨_, rfl⟩
  have bg120_8 : 0 ≤ g120_8 ∧ g120_8 ≤ 5 := by rw [← eg120_8]; exact ir_120_8 hI.2.1
  obtain ⟨g120_3, eg120_3⟩ : ∃ v, rd M0 120 3 = v := ⟨_, rfl⟩
  have bg120_3 : 0 ≤ g120_3 ∧ g120_3 ≤ 3 := by rw [← eg120_3]; exact ir_120_3 hI.2.1
  obtain ⟨g120_4, eg120_4⟩ : ∃ v, rd M0 120 4 = v := ⟨_, rfl⟩
  have bg120_4 : 0 ≤ g120_4 ∧ g120_4 ≤ 900 := by rw [← eg120_4]; exact ir_120_4 hI.2.1
  obtain ⟨g120_5, eg120_5⟩ : ∃ v, rd M0 120 5 = v := ⟨_, rfl⟩
  have bg120_5 : 0 ≤ g120_5 ∧ g120_5 ≤ 900 := by rw [← eg120_5]; exact ir_120_5 hI.2.1
  obtain ⟨g120_7, eg120_7⟩ : ∃ v, rd M0 120 7 = v := ⟨_, rfl⟩
  have bg120_7 : (-9223372036854775808) ≤ g120_7 ∧ g120_7 ≤ 9223372036854775807 := by rw [← eg120_7]; exact ir_120_7 hI.2.1
  obtain ⟨g9010_0, eg9010_0⟩ : ∃ v, tav M0 = v := ⟨_, rfl⟩
  have bg9010_0 : (-1) ≤ g9010_0 ∧ g9010_0 ≤ 1800 := by rw [← eg9010_0]; exact (tav_b hI.2.1)
  obtain ⟨g120_6, eg120_6⟩ : ∃ v, rd M0 120 6 = v := ⟨_, rfl⟩
  have bg120_6 : (-2147483648) ≤ g120_6 ∧ g120_6 ≤ 2147483647 := by rw [← eg120_6]; exact ir_120_6 hI.2.1
  obtain ⟨g120_36, eg120_36⟩ : ∃ v, rd M0 120 36 = v := ⟨_, rfl⟩
  have bg120_36 : 0 ≤ g120_36 ∧ g120_36 ≤ 900 := by rw [← eg120_36]; exact ir_120_36 hI.2.1
  obtain ⟨g120_46, eg120_46⟩ : ∃ v, rd M0 120 46 = v := ⟨_, rfl⟩
  have bg120_46 : 0 ≤ g120_46 ∧ g120_46 ≤ 500 := by rw [← eg120_46]; exact ir_120_46 hI.2.1
  obtain ⟨g120_44, eg120_44⟩ : ∃ v, rd M0 120 44 = v := ⟨_, rfl⟩
  have bg120_44 : 0 ≤ g120_44 ∧ g120_44 ≤ 8 := by rw [← eg120_44]; exact ir_120_44 hI.2.1
  obtain ⟨g120_43, eg120_43⟩ : ∃ v, rd M0 120 43 = v := ⟨_, rfl⟩
  have bg120_43 : 0 ≤ g120_43 ∧ g120_43 ≤ 20 := by rw [← eg120_43]; exact ir_120_43 hI.2.1
  obtain ⟨g120_50, eg120_50⟩ : ∃ v, rd M0 120 50 = v := ⟨_, rfl⟩
  have bg120_50 : 0 ≤ g120_50 ∧ g120_50 ≤ 20 := by rw [← eg120_50]; exact ir_120_50 hI.2.1
  obtain ⟨g9001_0, eg9001_0⟩ : ∃ v, nb2v M0 = v := ⟨_, rfl⟩
  have bg9001_0 : 0 ≤ g9001_0 ∧ g9001_0 ≤ 1000000 := by rw [← eg9001_0]; exact (nb2v_b hI.2.1)
  obtain ⟨g9002_0, eg9002_0⟩ : ∃ v, n4v M0 = v := ⟨_, rfl⟩
  have bg9002_0 : 0 ≤ g9002_0 ∧ g9002_0 ≤ 20 := by rw [← eg9002_0]; exact (n4v_b hI.2.1)
  obtain ⟨g9005_0, eg9005_0⟩ : ∃ v, fr0 M0 = v := ⟨_, rfl⟩
  have bg9005_0 : 0 ≤ g9005_0 ∧ g9005_0 ≤ 5 := by rw [← eg9005_0]; exact (fr0_b hI.2.1)
  obtain ⟨g9003_0, eg9003_0⟩ : ∃ v, Dv0 M0 = v := ⟨_, rfl⟩
  have bg9003_0 : (-1000) ≤ g9003_0 ∧ g9003_0 ≤ 1000 := by rw [← eg9003_0]; exact (Dv0_b hI.2.1)
  obtain ⟨g136_0, eg136_0⟩ : ∃ v, rd M0 136 0 = v := ⟨_, rfl⟩
  have bg136_0 : 0 ≤ g136_0 ∧ g136_0 ≤ 200 := by rw [← eg136_0]; exact ir_136_0 hI.2.1
  obtain ⟨g120_47, eg120_47⟩ : ∃ v, rd M0 120 47 = v := ⟨_, rfl⟩
  have bg120_47 : 0 ≤ g120_47 ∧ g120_47 ≤ 1 := by rw [← eg120_47]; exact ir_120_47 hI.2.1
  obtain ⟨g9006_0, eg9006_0⟩ : ∃ v, nwv M0 = v := ⟨_, rfl⟩
  have bg9006_0 : 0 ≤ g9006_0 ∧ g9006_0 ≤ 20 := by rw [← eg9006_0]; exact (nwv_b hI.2.1)
  obtain ⟨g129_0, eg129_0⟩ : ∃ v, rd M0 129 0 = v := ⟨_, rfl⟩
  have bg129_0 : 0 ≤ g129_0 ∧ g129_0 ≤ 60 := by rw [← eg129_0]; exact ir_129_0 hI.2.1
  replace hq0 := hd_i hq0
  replace hq2 := hd_i hq2
  refine Tr.aload_n (pc := 0) (i := 0) d_X12_statement_0 rfl rfl ?_
  refine Tr.callV (pc := 1) (as := []) d_X12_statement_1 s_12_537 ok_X12_order rfl rfl (Nat.le_of_ble_eq_true rfl) (Nat.le_of_ble_eq_true rfl) (by decide) (ty_120 hS.1.1) ?_
  refine Tr.imp (Tr.deep (by decide) (ns_X12_order_120 (G120_3 := g120_3) hS.1.wk (eg120_3))) ?_
  rintro M1 _ ⟨h1, r1, rfl, lr1, ur1, z1_0⟩
  have h1 := St.rn h1 (Pm0.of hS.1.2.2.2.2 (fun _ => (ka_X12_order_120_131 h1 _)) (fun _ => (ka_X12_order_120_137 h1 _)) (fun _ => (ka_X12_order_120_138 h1 _)) (fun _ => (ka_X12_order_120_139 h1 _)) (fun _ => (ka_X12_order_120_140 h1 _)) (fun _ => (ka_X12_order_120_141 h1 _)) (fun _ => (ka_X12_order_120_142 h1 _)) (fun _ => (ka_X12_order_120_143 h1 _)) (fun _ => (ka_X12_order_120_151 h1 _)) (fun _ => (ka_X12_order_120_152 h1 _)) (kp_X12_order_120_126_0 h1) (kp_X12_order_120_126_1 h1) (kp_X12_order_120_136_0 h1) (kp_X12_order_120_136_1 h1) (kp_X12_order_120_123_0 h1) (kp_X12_order_120_123_1 h1) (kp_X12_order_120_124_0 h1) (kp_X12_order_120_124_1 h1) (kp_X12_order_120_120_8 h1) (kp_X12_order_120_120_36 h1) (kp_X12_order_120_120_50 h1))
  have hS := St.tr hS h1 (by decide) (by decide)
  refine Tr.sc [(0, r1)] rfl ?_
  refine Tr.istore_n (pc := 4) (i := 1) (ls2 := [(1, (0, r1)), (0, (2, 120))]) d_X12_statement_4 rfl (by decide) rfl ?_
  refine Tr.iload_n (pc := 5) (i := 1) d_X12_statement_5 rfl rfl ?_
  refine Tr.iconst (pc := 6) d_X12_statement_6 (by decide) ?_
  have J19 : ∀ (M : Mem) (u19_120_8 : Int), St Pm0 ws_X12_statement_120_w1 as_X12_statement_120_w1 M0 M → (0 ≤ u19_120_8 ∧ u19_120_8 ≤ 5) → rd M 120 3 = g120_3 → rd M 120 36 = g120_36 → rd M 120 4 = g120_4 → rd M 120 43 = g120_43 → rd M 120 44 = g120_44 → rd M 120 46 = g120_46 → rd M 120 47 = g120_47 → rd M 120 5 = g120_5 → rd M 120 50 = g120_50 → rd M 120 6 = g120_6 → rd M 120 7 = g120_7 → rd M 120 8 = u19_120_8 → rd M 129 0 = g129_0 → rd M 136 0 = g136_0 → nb2v M = g9001_0 → n4v M = g9002_0 → Dv0 M = g9003_0 → fr0 M = g9005_0 → nwv M = g9006_0 → tav M = g9010_0 → (1 ≤ u19_120_8 ∨ (g120_3 = 1 ∧ 1 ≤ r1)) → Tr l K 5 mX12_statement 19 [(0, (2, 120)), (1, (0, r1))] [] M (q_X12_statement_120_w1 M0) := by
    intro M u19_120_8 hS bu19_120_8 k19_120_3 k19_120_36 k19_120_4 k19_120_43 k19_120_44 k19_120_46 k19_120_47 k19_120_5 k19_120_50 k19_120_6 k19_120_7 k19_120_8 k19_129_0 k19_136_0 k19_9001_0 k19_9002_0 k19_9003_0 k19_9005_0 k19_9006_0 k19_9010_0 t19_0
    replace t19_0 := hd_i t19_0
    refine Tr.aload_n (pc := 19) (i := 0) d_X12_statement_19 rfl rfl ?_
    refine Tr.getf (pc := 20) d_X12_statement_20 f_12_36 (by decide) (by decide) (ty_120 hS.1.1) ?_
    refine Tr.tp u19_120_8 k19_120_8 ?_
    have J49 : ∀ (M : Mem) (u49_120_8 : Int), St Pm0 ws_X12_statement_120_w1 as_X12_statement_120_w1 M0 M → (0 ≤ u49_120_8 ∧ u49_120_8 ≤ 5) → rd M 120 3 = g120_3 → rd M 120 36 = g120_36 → rd M 120 4 = g120_4 → rd M 120 43 = g120_43 → rd M 120 44 = g120_44 → rd M 120 46 = g120_46 → rd M 120 47 = g120_47 → rd M 120 5 = g120_5 → rd M 120 50 = g120_50 → rd M 120 6 = g120_6 → rd M 120 7 = g120_7 → rd M 120 8 = u49_120_8 → rd M 129 0 = g129_0 → rd M 136 0 = g136_0 → nb2v M = g9001_0 → n4v M = g9002_0 → Dv0 M = g9003_0 → fr0 M = g9005_0 → nwv M = g9006_0 → tav M = g9010_0 → (1 ≤ u49_120_8 ∨ (g120_3 = 1 ∧ 1 ≤ r1)) → (1 ≤ u49_120_8 ∨ g129_0 ≤ 59) → Tr l K 5 mX12_statement 49 [(0, (2, 120)), (1, (0, r1))] [] M (q_X12_statement_120_w1 M0) := by
      intro M u49_120_8 hS bu49_120_8 k49_120_3 k49_120_36 k49_120_4 k49_120_43 k49_120_44 k49_120_46 k49_120_47 k49_120_5 k49_120_50 k49_120_6 k49_120_7 k49_120_8 k49_129_0 k49_136_0 k49_9001_0 k49_9002_0 k49_9003_0 k49_9005_0 k49_9006_0 k49_9010_0 t49_0 t49_1
      clear k19_120_3 k19_120_36 k19_120_4 k19_120_43 k19_120_44 k19_120_46 k19_120_47 k19_120_5 k19_120_50 k19_120_6 k19_120_7 k19_120_8 k19_129_0 k19_136_0 k19_9001_0 k19_9002_0 k19_9003_0 k19_9005_0 k19_9006_0 k19_9010_0
      replace t49_0 := hd_i t49_0
      replace t49_1 := hd_i t49_1
      refine Tr.aload_n (pc := 49) (i := 0) d_X12_statement_49 rfl rfl ?_
      refine Tr.getf (pc := 50) d_X12_statement_50 f_12_36 (by decide) (by decide) (ty_120 hS.1.1) ?_
      refine Tr.tp u49_120_8 k49_120_8 ?_
      refine Tr.if_le (pc := 53) (tgt := 57) d_X12_statement_53 rfl (fun c53 => ?_) (fun c53 => ?_)
      · refine Tr.aload_n (pc := 57) (i := 0) d_X12_statement_57 rfl rfl ?_
        refine Tr.iload_n (pc := 58) (i := 1) d_X12_statement_58 rfl rfl ?_
        refine Tr.aload_n (pc := 59) (i := 0) d_X12_statement_59 rfl rfl ?_
        refine Tr.getf (pc := 60) d_X12_statement_60 f_12_72 (by decide) (by decide) (ty_120 hS.1.1) ?_
        refine Tr.tp 129 (fx_120_20 hS.1.1) ?_
        refine Tr.aload_n (pc := 63) (i := 0) d_X12_statement_63 rfl rfl ?_
        refine Tr.getf (pc := 64) d_X12_statement_64 f_12_124 (by decide) (by decide) (ty_120 hS.1.1) ?_
        refine Tr.tp 0 ((kp_X12_statement_120_w1_120_37 hS).trans en_120_37) ?_
        refine Tr.iald (pc := 67) d_X12_statement_67 (ty_129 hS.1.1) (by omega) (by omega) ?_
        refine Tr.tp g129_0 k49_129_0 ?_
        refine Tr.callV (pc := 68) (as := [_, _]) d_X12_statement_68 s_12_531 ok_X12_spot rfl rfl (Nat.le_of_ble_eq_true rfl) (Nat.le_of_ble_eq_true rfl) (by decide) (ty_120 hS.1.1) ?_
        refine Tr.imp (Tr.deep (by decide) (ns_X12_spot_120_w1 (G136_0 := g136_0) hS.1 (k49_136_0) ((kp_X12_statement_120_w1_120_37 hS).trans en_120_37) r1 (by exact (hd_o t49_0).elim (fun h1 => by omega) (fun h1 => by omega)) g129_0 (by exact (hd_o t49_1).elim (fun h1 => by omega) (fun h1 => by omega)) (by omega) (by exact (hd_o t49_0).elim (fun h1 => by omega) (fun h1 => by omega)) (by omega))) ?_
        rintro M68 _ ⟨h68, s68_136_0, es68_136_0, bs68_136_0, r68, rfl, lr68, ur68, z68_0, z68_1, z68_2, z68_3⟩
        have hS := St.tr hS h68 (by decide) (by decide)
        refine Tr.sc [(0, r68)] rfl ?_
        have kz68 : rd M 136 0 = g136_0 := k49_136_0
        have eds : rd M68 137 r68 = r1 := (show rd M68 137 r68 = rd M68 137 (0 + rd M 136 0) from congrArg _ (by omega)).trans z68_3
        refine Tr.istore_n (pc := 71) (i := 2) (ls2 := [(2, (0, r68)), (0, (2, 120)), (1, (0, r1))]) d_X12_statement_71 rfl (by decide) rfl ?_
        refine Tr.aload_n (pc := 72) (i := 0) d_X12_statement_72 rfl rfl ?_
        refine Tr.getf (pc := 73) d_X12_statement_73 f_12_72 (by decide) (by decide) (ty_120 hS.1.1) ?_
        refine Tr.tp 129 (fx_120_20 hS.1.1) ?_
        refine Tr.aload_n (pc := 76) (i := 0) d_X12_statement_76 rfl rfl ?_
        refine Tr.getf (pc := 77) d_X12_statement_77 f_12_124 (by decide) (by decide) (ty_120 hS.1.1) ?_
        refine Tr.tp 0 ((kp_X12_statement_120_w1_120_37 hS).trans en_120_37) ?_
        refine Tr.dup2 (pc := 80) d_X12_statement_80 ne01 ne21 ?_
        refine Tr.iald (pc := 81) d_X12_statement_81 (ty_129 hS.1.1) (by omega) (by omega) ?_
        refine Tr.tp g129_0 ((kp_X12_spot_120_w1_129_0 h68).trans k49_129_0) ?_
        refine Tr.iconst (pc := 82) d_X12_statement_82 (by decide) ?_
        refine Tr.iadd (pc := 83) d_X12_statement_83 ?_
        refine Tr.tp (g129_0 + 1) ((w32_id (by and_intros <;> omega)).trans (by omega)) ?_
        refine Tr.iastS (pc := 84) (P := St Pm0 ws_X12_statement_120_w1 as_X12_statement_120_w1 M0) d_X12_statement_84 (ty_129 hS.1.1) (by omega) (by omega) (st_129_0 hS (by decide) (by exact (hd_o t49_1).elim (fun h1 => by omega) (fun h1 => by omega)) (Pm0.of hS.1.2.2.2.2 (fun _ => rd_wb _ rfl) (fun _ => rd_wb _ rfl) (fun _ => rd_wb _ rfl) (fun _ => rd_wb _ rfl) (fun _ => rd_wb _ rfl) (fun _ => rd_wb _ rfl) (fun _ => rd_wb _ rfl) (fun _ => rd_wb _ rfl) (fun _ => rd_wb _ rfl) (fun _ => rd_wb _ rfl) (rd_wb _ rfl) (rd_wb _ rfl) (rd_wb _ rfl) (rd_wb _ rfl) (rd_wb _ rfl) (rd_wb _ rfl) (rd_wb _ rfl) (rd_wb _ rfl) (rd_wb _ rfl) (rd_wb _ rfl) (rd_wb _ rfl))) (fun M84 hS w84 => ?_)
        refine Tr.aload_n (pc := 85) (i := 0) d_X12_statement_85 rfl rfl ?_
        refine Tr.callV (pc := 86) (as := []) d_X12_statement_86 s_12_396 ok_X12_next rfl rfl (Nat.le_of_ble_eq_true rfl) (Nat.le_of_ble_eq_true rfl) (by decide) (ty_120 hS.1.1) ?_
        refine Tr.imp (Tr.deep (by decide) (ns_X12_next_120_w1 (G120_3 := g120_3) (G120_5 := g120_5) (G120_8 := u49_120_8) (G9010_0 := g9010_0) hS.1 (((Wr.b w84 rfl).trans ((kp_X12_spot_120_w1_120_3 h68).trans k49_120_3))) (((Wr.b w84 rfl).trans ((kp_X12_spot_120_w1_120_5 h68).trans k49_120_5))) (((Wr.b w84 rfl).trans ((kp_X12_spot_120_w1_120_8 h68).trans k49_120_8))) (((tav_of ((Wr.b w84 rfl).trans ((kp_X12_spot_120_w1_120_5 h68).trans rfl)) ((Wr.b w84 rfl).trans ((kp_X12_spot_120_w1_120_3 h68).trans rfl))).trans k49_9010_0)))) ?_
        rintro M86 _ ⟨h86, s86_120_3, s86_120_4, s86_120_5, s86_120_7, s86_120_8, s86_9010_0, es86_120_3, bs86_120_3, es86_120_4, bs86_120_4, es86_120_5, bs86_120_5, es86_120_7, bs86_120_7, es86_120_8, bs86_120_8, es86_9010_0, bs86_9010_0, rfl, z86_0, z86_1, z86_2, z86_3, z86_4, z86_5, z86_6⟩
        have hS := St.tr hS h86 (by decide) (by decide)
        refine Tr.sc [] rfl ?_
        refine Tr.iload_n (pc := 89) (i := 1) d_X12_statement_89 rfl rfl ?_
        refine Tr.iconst (pc := 90) d_X12_statement_90 (by decide) ?_
        have J118 : ∀ (M : Mem) (u118_120_3 u118_120_4 u118_120_5 u118_120_6 u118_120_7 u118_120_8 u118_9003_0 u118_9010_0 : Int), St Pm0 ws_X12_statement_120_w1 as_X12_statement_120_w1 M0 M → (0 ≤ u118_120_3 ∧ u118_120_3 ≤ 3) → (0 ≤ u118_120_4 ∧ u118_120_4 ≤ 900) → (0 ≤ u118_120_5 ∧ u118_120_5 ≤ 900) → ((-2147483648) ≤ u118_120_6 ∧ u118_120_6 ≤ 2147483647) → ((-9223372036854775808) ≤ u118_120_7 ∧ u118_120_7 ≤ 9223372036854775807) → (0 ≤ u118_120_8 ∧ u118_120_8 ≤ 5) → ((-1000) ≤ u118_9003_0 ∧ u118_9003_0 ≤ 1000) → ((-1) ≤ u118_9010_0 ∧ u118_9010_0 ≤ 1800) → rd M 120 3 = u118_120_3 → rd M 120 36 = g120_36 → rd M 120 4 = u118_120_4 → rd M 120 43 = g120_43 → rd M 120 44 = g120_44 → rd M 120 46 = g120_46 → rd M 120 47 = g120_47 → rd M 120 5 = u118_120_5 → rd M 120 50 = g120_50 → rd M 120 6 = u118_120_6 → rd M 120 7 = u118_120_7 → rd M 120 8 = u118_120_8 → rd M 129 0 = (g129_0 + 1) → rd M 136 0 = s68_136_0 → rd M 137 r68 = r1 → nb2v M = g9001_0 → n4v M = g9002_0 → Dv0 M = u118_9003_0 → fr0 M = g9005_0 → nwv M = g9006_0 → tav M = u118_9010_0 → (u118_120_3 = 0 ∨ u118_120_4 + 1 ≤ u118_120_5) → (u118_120_4 ≤ u118_120_5) → (u118_120_3 ≠ 1 ∨ u118_120_4 + 2 ≤ u118_120_5 ∨ u118_120_7 < 256) → (g120_4 ≤ u118_120_4 ∧ g120_5 ≤ u118_120_5 ∧ g9010_0 ≤ u118_9010_0) → (g120_8 = 0 ∨ u118_120_8 = g120_8) → (1 ≤ u118_120_8 ∨ g9010_0 < u118_9010_0) → (g120_50 ≤ g120_44) → (g120_36 + g120_44 ≤ u118_120_4) → (s68_136_0 + g9006_0 + 1 ≤ 2 * (g129_0 + 1)) → (s68_136_0 = g136_0 + 1) → Tr l K 5 mX12_statement 118 [(0, (2, 120)), (1, (0, r1)), (2, (0, r68))] [] M (q_X12_statement_120_w1 M0) := by
          intro M u118_120_3 u118_120_4 u118_120_5 u118_120_6 u118_120_7 u118_120_8 u118_9003_0 u118_9010_0 hS bu118_120_3 bu118_120_4 bu118_120_5 bu118_120_6 bu118_120_7 bu118_120_8 bu118_9003_0 bu118_9010_0 k118_120_3 k118_120_36 k118_120_4 k118_120_43 k118_120_44 k118_120_46 k118_120_47 k118_120_5 k118_120_50 k118_120_6 k118_120_7 k118_120_8 k118_129_0 k118_136_0 k118_137_r6810 k118_9001_0 k118_9002_0 k118_9003_0 k118_9005_0 k118_9006_0 k118_9010_0 t118_0 t118_1 t118_2 t118_3 t118_4 t118_5 t118_6 t118_7 t118_8 t118_9
          clear k49_120_3 k49_120_36 k49_120_4 k49_120_43 k49_120_44 k49_120_46 k49_120_47 k49_120_5 k49_120_50 k49_120_6 k49_120_7 k49_120_8 k49_129_0 k49_136_0 k49_9001_0 k49_9002_0 k49_9003_0 k49_9005_0 k49_9006_0 k49_9010_0 es68_136_0 w84 es86_120_3 es86_120_4 es86_120_5 es86_120_7 es86_120_8 es86_9010_0
          replace t118_0 := hd_i t118_0
          replace t118_2 := hd_i t118_2
          replace t118_4 := hd_i t118_4
          replace t118_5 := hd_i t118_5
          refine Tr.iload_n (pc := 118) (i := 1) d_X12_statement_118 rfl rfl ?_
          refine Tr.iconst (pc := 119) d_X12_statement_119 (by decide) ?_
          have J144 : ∀ (M : Mem) (u144_120_3 u144_120_4 u144_120_5 u144_120_6 u144_120_7 u144_120_8 u144_9010_0 : Int), St Pm0 ws_X12_statement_120_w1 as_X12_statement_120_w1 M0 M → (0 ≤ u144_120_3 ∧ u144_120_3 ≤ 3) → (0 ≤ u144_120_4 ∧ u144_120_4 ≤ 900) → (0 ≤ u144_120_5 ∧ u144_120_5 ≤ 900) → ((-2147483648) ≤ u144_120_6 ∧ u144_120_6 ≤ 2147483647) → ((-9223372036854775808) ≤ u144_120_7 ∧ u144_120_7 ≤ 9223372036854775807) → (0 ≤ u144_120_8 ∧ u144_120_8 ≤ 5) → ((-1) ≤ u144_9010_0 ∧ u144_9010_0 ≤ 1800) → rd M 120 3 = u144_120_3 → rd M 120 36 = g120_36 → rd M 120 4 = u144_120_4 → rd M 120 43 = g120_43 → rd M 120 44 = g120_44 → rd M 120 46 = g120_46 → rd M 120 47 = g120_47 → rd M 120 5 = u144_120_5 → rd M 120 50 = g120_50 → rd M 120 6 = u144_120_6 → rd M 120 7 = u144_120_7 → rd M 120 8 = u144_120_8 → rd M 129 0 = (g129_0 + 1) → rd M 136 0 = s68_136_0 → rd M 137 r68 = r1 → nb2v M = g9001_0 → n4v M = g9002_0 → Dv0 M = u118_9003_0 → fr0 M = g9005_0 → nwv M = g9006_0 → tav M = u144_9010_0 → (u144_120_3 = 0 ∨ u144_120_4 + 1 ≤ u144_120_5) → (u144_120_4 ≤ u144_120_5) → (u144_120_3 ≠ 1 ∨ u144_120_4 + 2 ≤ u144_120_5 ∨ u144_120_7 < 256) → (g120_4 ≤ u144_120_4 ∧ g120_5 ≤ u144_120_5 ∧ g9010_0 ≤ u144_9010_0) → (g120_8 = 0 ∨ u144_120_8 = g120_8) → (1 ≤ u144_120_8 ∨ g9010_0 < u144_9010_0) → (g120_50 ≤ g120_44) → (g120_36 + g120_44 ≤ u144_120_4) → (s68_136_0 + g9006_0 + 1 ≤ 2 * (g129_0 + 1)) → (s68_136_0 = g136_0 + 1) → Tr l K 5 mX12_statement 144 [(0, (2, 120)), (1, (0, r1)), (2, (0, r68))] [] M (q_X12_statement_120_w1 M0) := by
            intro M u144_120_3 u144_120_4 u144_120_5 u144_120_6 u144_120_7 u144_120_8 u144_9010_0 hS bu144_120_3 bu144_120_4 bu144_120_5 bu144_120_6 bu144_120_7 bu144_120_8 bu144_9010_0 k144_120_3 k144_120_36 k144_120_4 k144_120_43 k144_120_44 k144_120_46 k144_120_47 k144_120_5 k144_120_50 k144_120_6 k144_120_7 k144_120_8 k144_129_0 k144_136_0 k144_137_r6810 k144_9001_0 k144_9002_0 k144_9003_0 k144_9005_0 k144_9006_0 k144_9010_0 t144_0 t144_1 t144_2 t144_3 t144_4 t144_5 t144_6 t144_7 t144_8 t144_9
            clear k118_120_3 k118_120_36 k118_120_4 k118_120_43 k118_120_44 k118_120_46 k118_120_47 k118_120_5 k118_120_50 k118_120_6 k118_120_7 k118_120_8 k118_129_0 k118_136_0 k118_137_r6810 k118_9001_0 k118_9002_0 k118_9003_0 k118_9005_0 k118_9006_0 k118_9010_0
            replace t144_0 := hd_i t144_0
            replace t144_2 := hd_i t144_2
            replace t144_4 := hd_i t144_4
            replace t144_5 := hd_i t144_5
            refine Tr.aload_n (pc := 144) (i := 0) d_X12_statement_144 rfl rfl ?_
            refine Tr.getf (pc := 145) d_X12_statement_145 f_12_106 (by decide) (by decide) (ty_120 hS.1.1) ?_
            refine Tr.tp 140 (fx_120_31 hS.1.1) ?_
            refine Tr.iload_n (pc := 148) (i := 2) d_X12_statement_148 rfl rfl ?_
            refine Tr.aload_n (pc := 149) (i := 0) d_X12_statement_149 rfl rfl ?_
            refine Tr.getf (pc := 150) d_X12_statement_150 f_12_121 (by decide) (by decide) (ty_120 hS.1.1) ?_
            refine Tr.tp g120_36 k144_120_36 ?_
            have kx_120_36 : rd M 120 36 = g120_36 := k144_120_36
            have kx_136_0 : rd M 136 0 = s68_136_0 := k144_136_0
            refine Tr.iastS (pc := 153) (P := St Pm0 ws_X12_statement_120_w1 as_X12_statement_120_w1 M0) d_X12_statement_153 (ty_140 hS.1.1) (by omega) (by omega) (sa_140 hS (by decide) (by and_intros <;> omega) (Pm0_from hS.1.2.2.2.2 hS.1.2.1 (by omega) (by omega) (by omega))) (fun M153 hS w153 => ?_)
            obtain ⟨v153_9003, ev153_9003⟩ : ∃ v, Dv0 M153 = v := ⟨_, rfl⟩
            have bv153_9003 : -1000 ≤ v153_9003 ∧ v153_9003 ≤ 1000 := by rw [← ev153_9003]; exact (Dv0_b hS.1.2.1)
            have fv153_9003 : v153_9003 = 0 := by have e9 : rd M153 136 0 = s68_136_0 := ((Wr.b w153 rfl).trans k144_136_0); have h8 := Dv0_0 (M := M153) ((show rd M153 140 ((-1) + rd M153 136 0) = rd M153 140 r68 from congrArg _ (by omega)).trans (w153.1.trans (show g120_36 = rd M153 120 36 from (((Wr.b w153 rfl).trans k144_120_36)).symm))); have h7 : Dv0 M153 = v153_9003 := ev153_9003; omega
            refine Tr.iload_n (pc := 154) (i := 1) d_X12_statement_154 rfl rfl ?_
            refine Tr.iconst (pc := 155) d_X12_statement_155 (by decide) ?_
            have J179 : ∀ (M : Mem) (u179_120_3 u179_120_4 u179_120_5 u179_120_6 u179_120_7 u179_120_8 u179_120_36 u179_120_43 u179_120_44 u179_120_46 u179_120_47 u179_9001_0 u179_9002_0 u179_9003_0 u179_9005_0 u179_9010_0 : Int), St Pm0 ws_X12_statement_120_w1 as_X12_statement_120_w1 M0 M → (0 ≤ u179_120_3 ∧ u179_120_3 ≤ 3) → (0 ≤ u179_120_4 ∧ u179_120_4 ≤ 900) → (0 ≤ u179_120_5 ∧ u179_120_5 ≤ 900) → ((-2147483648) ≤ u179_120_6 ∧ u179_120_6 ≤ 2147483647) → ((-9223372036854775808) ≤ u179_120_7 ∧ u179_120_7 ≤ 9223372036854775807) → (0 ≤ u179_120_8 ∧ u179_120_8 ≤ 5) → (0 ≤ u179_120_36 ∧ u179_120_36 ≤ 900) → (0 ≤ u179_120_43 ∧ u179_120_43 ≤ 20) → (0 ≤ u179_120_44 ∧ u179_120_44 ≤ 8) → (0 ≤ u179_120_46 ∧ u179_120_46 ≤ 500) → (0 ≤ u179_120_47 ∧ u179_120_47 ≤ 1) → (0 ≤ u179_9001_0 ∧ u179_9001_0 ≤ 1000000) → (0 ≤ u179_9002_0 ∧ u179_9002_0 ≤ 20) → ((-1000) ≤ u179_9003_0 ∧ u179_9003_0 ≤ 1000) → (0 ≤ u179_9005_0 ∧ u179_9005_0 ≤ 5) → ((-1) ≤ u179_9010_0 ∧ u179_9010_0 ≤ 1800) → rd M 120 3 = u179_120_3 → rd M 120 36 = u179_120_36 → rd M 120 4 = u179_120_4 → rd M 120 43 = u179_120_43 → rd M 120 44 = u179_120_44 → rd M 120 46 = u179_120_46 → rd M 120 47 = u179_120_47 → rd M 120 5 = u179_120_5 → rd M 120 50 = g120_50 → rd M 120 6 = u179_120_6 → rd M 120 7 = u179_120_7 → rd M 120 8 = u179_120_8 → rd M 129 0 = (g129_0 + 1) → rd M 136 0 = s68_136_0 → rd M 137 r68 = r1 → rd M 140 r68 = g120_36 → nb2v M = u179_9001_0 → n4v M = u179_9002_0 → Dv0 M = u179_9003_0 → fr0 M = u179_9005_0 → nwv M = g9006_0 → tav M = u179_9010_0 → (u179_120_3 = 0 ∨ u179_120_4 + 1 ≤ u179_120_5) → (u179_120_4 ≤ u179_120_5) → (u179_120_3 ≠ 1 ∨ u179_120_4 + 2 ≤ u179_120_5 ∨ u179_120_7 < 256) → (g120_4 ≤ u179_120_4 ∧ g120_5 ≤ u179_120_5 ∧ g9010_0 ≤ u179_9010_0) → (g120_8 = 0 ∨ u179_120_8 = g120_8) → (1 ≤ u179_120_8 ∨ g9010_0 < u179_9010_0) → (g120_50 ≤ u179_120_44) → (u179_120_36 + u179_120_44 ≤ u179_120_4) → (s68_136_0 + g9006_0 + 1 ≤ 2 * (g129_0 + 1)) → (s68_136_0 = g136_0 + 1) → Tr l K 5 mX12_statement 179 [(0, (2, 120)), (1, (0, r1)), (2, (0, r68))] [] M (q_X12_statement_120_w1 M0) := by
              intro M u179_120_3 u179_120_4 u179_120_5 u179_120_6 u179_120_7 u179_120_8 u179_120_36 u179_120_43 u179_120_44 u179_120_46 u179_120_47 u179_9001_0 u179_9002_0 u179_9003_0 u179_9005_0 u179_9010_0 hS bu179_120_3 bu179_120_4 bu179_120_5 bu179_120_6 bu179_120_7 bu179_120_8 bu179_120_36 bu179_120_43 bu179_120_44 bu179_120_46 bu179_120_47 bu179_9001_0 bu179_9002_0 bu179_9003_0 bu179_9005_0 bu179_9010_0 k179_120_3 k179_120_36 k179_120_4 k179_120_43 k179_120_44 k179_120_46 k179_120_47 k179_120_5 k179_120_50 k179_120_6 k179_120_7 k179_120_8 k179_129_0 k179_136_0 k179_137_r6810 k179_140_r6810 k179_9001_0 k179_9002_0 k179_9003_0 k179_9005_0 k179_9006_0 k179_9010_0 t179_0 t179_1 t179_2 t179_3 t179_4 t179_5 t179_6 t179_7 t179_8 t179_9
              clear k144_120_3 k144_120_36 k144_120_4 k144_120_43 k144_120_44 k144_120_46 k144_120_47 k144_120_5 k144_120_50 k144_120_6 k144_120_7 k144_120_8 k144_129_0 k144_136_0 k144_137_r6810 k144_9001_0 k144_9002_0 k144_9003_0 k144_9005_0 k144_9006_0 k144_9010_0 kx_120_36 kx_136_0 w153 ev153_9003
              replace t179_0 := hd_i t179_0
              replace t179_2 := hd_i t179_2
              replace t179_4 := hd_i t179_4
              replace t179_5 := hd_i t179_5
              refine Tr.aload_n (pc := 179) (i := 0) d_X12_statement_179 rfl rfl ?_
              refine Tr.getf (pc := 180) d_X12_statement_180 f_12_109 (by decide) (by decide) (ty_120 hS.1.1) ?_
              refine Tr.tp 141 (fx_120_32 hS.1.1) ?_
              refine Tr.iload_n (pc := 183) (i := 2) d_X12_statement_183 rfl rfl ?_
              refine Tr.aload_n (pc := 184) (i := 0) d_X12_statement_184 rfl rfl ?_
              refine Tr.getf (pc := 185) d_X12_statement_185 f_12_121 (by decide) (by decide) (ty_120 hS.1.1) ?_
              refine Tr.tp u179_120_36 k179_120_36 ?_
              have kx_120_36 : rd M 120 36 = u179_120_36 := k179_120_36
              have kx_136_0 : rd M 136 0 = s68_136_0 := k179_136_0
              refine Tr.iastS (pc := 188) (P := St Pm0 ws_X12_statement_120_w1 as_X12_statement_120_w1 M0) d_X12_statement_188 (ty_141 hS.1.1) (by omega) (by omega) (sa_141 hS (by decide) (by and_intros <;> omega) (Pm0_to hS.1.2.2.2.2 hS.1.2.1 (by omega) (by omega) (by omega))) (fun M188 hS w188 => ?_)
              refine Tr.aload_n (pc := 189) (i := 0) d_X12_statement_189 rfl rfl ?_
              refine Tr.getf (pc := 190) d_X12_statement_190 f_12_36 (by decide) (by decide) (ty_120 hS.1.1) ?_
              refine Tr.tp u179_120_8 ((Wr.b w188 rfl).trans k179_120_8) ?_
              refine Tr.if_le (pc := 193) (tgt := 197) d_X12_statement_193 rfl (fun c193 => ?_) (fun c193 => ?_)
              · refine Tr.iload_n (pc := 197) (i := 1) d_X12_statement_197 rfl rfl ?_
                refine Tr.bipush (pc := 198) d_X12_statement_198 rfl (by decide) ?_
                refine Tr.icmp_lt (pc := 200) (tgt := 222) d_X12_statement_200 rfl (fun c200 => ?_) (fun c200 => ?_)
                · refine Tr.aload_n (pc := 222) (i := 0) d_X12_statement_222 rfl rfl ?_
                  refine Tr.bipush (pc := 223) d_X12_statement_223 rfl (by decide) ?_
                  refine Tr.callV (pc := 225) (as := [_]) d_X12_statement_225 s_12_529 ok_X12_must rfl rfl (Nat.le_of_ble_eq_true rfl) (Nat.le_of_ble_eq_true rfl) (by decide) (ty_120 hS.1.1) ?_
                  refine Tr.imp (Tr.deep (by decide) (ns_X12_must_120_w1 (G120_3 := u179_120_3) (G120_4 := u179_120_4) (G120_5 := u179_120_5) (G120_7 := u179_120_7) (G120_8 := u179_120_8) (G9010_0 := u179_9010_0) hS.1 (((Wr.b w188 rfl).trans k179_120_3)) (((Wr.b w188 rfl).trans k179_120_4)) (((Wr.b w188 rfl).trans k179_120_5)) (((Wr.b w188 rfl).trans k179_120_7)) (((Wr.b w188 rfl).trans k179_120_8)) (((tav_of ((Wr.b w188 rfl).trans rfl) ((Wr.b w188 rfl).trans rfl)).trans k179_9010_0)) 59 (by omega) (by first | exact (hd_o t179_0) | exact (hd_o t179_0).elim (fun h1 => by omega) (fun h1 => by omega)) (by omega) (by first | exact (hd_o t179_2) | exact (hd_o t179_2).elim (fun h1 => by omega) (fun h1 => h1.elim (fun h1 => by omega) (fun h1 => by omega))))) ?_
                  rintro M225 _ ⟨h225, s225_120_3, s225_120_4, s225_120_5, s225_120_7, s225_120_8, s225_9010_0, es225_120_3, bs225_120_3, es225_120_4, bs225_120_4, es225_120_5, bs225_120_5, es225_120_7, bs225_120_7, es225_120_8, bs225_120_8, es225_9010_0, bs225_9010_0, rfl, z225_0, z225_1, z225_2, z225_3, z225_4, z225_5⟩
                  have hS := St.tr hS h225 (by decide) (by decide)
                  refine Tr.sc [] rfl ?_
                  have kr_120_3 : rd M225 120 3 = s225_120_3 := es225_120_3
                  have kr_120_4 : rd M225 120 4 = s225_120_4 := es225_120_4
                  have kr_120_5 : rd M225 120 5 = s225_120_5 := es225_120_5
                  have kr_120_7 : rd M225 120 7 = s225_120_7 := es225_120_7
                  have kr_120_8 : rd M225 120 8 = s225_120_8 := es225_120_8
                  have kr_120_36 : rd M225 120 36 = u179_120_36 := ((kp_X12_must_120_w1_120_36 h225).trans ((Wr.b w188 rfl).trans k179_120_36))
                  have kr_120_44 : rd M225 120 44 = u179_120_44 := ((kp_X12_must_120_w1_120_44 h225).trans ((Wr.b w188 rfl).trans k179_120_44))
                  have kr_120_50 : rd M225 120 50 = g120_50 := ((kp_X12_must_120_w1_120_50 h225).trans ((Wr.b w188 rfl).trans k179_120_50))
                  have kr_129_0 : rd M225 129 0 = (g129_0 + 1) := ((kp_X12_must_120_w1_129_0 h225).trans ((Wr.b w188 rfl).trans k179_129_0))
                  have kr_136_0 : rd M225 136 0 = s68_136_0 := ((kp_X12_must_120_w1_136_0 h225).trans ((Wr.b w188 rfl).trans k179_136_0))
                  have kr_9006_0 : nwv M225 = g9006_0 := ((nwv_of (fun j => ((ka_X12_must_120_w1_151 h225 _).trans ((Wr.b w188 rfl).trans rfl))) ((kp_X12_must_120_w1_120_50 h225).trans ((Wr.b w188 rfl).trans rfl))).trans k179_9006_0)
                  have kr_9010_0 : tav M225 = s225_9010_0 := es225_9010_0
                  exact Tr.vret (pc := 228) d_X12_statement_228 rfl ⟨hS, rfl, (by first | exact (hd_o z225_0) | exact (hd_o z225_0).elim (fun h1 => by omega) (fun h1 => by omega)), (by omega), (by first | exact (hd_o z225_2) | exact (hd_o z225_2).elim (fun h1 => by omega) (fun h1 => h1.elim (fun h1 => by omega) (fun h1 => by omega))), (by and_intros <;> omega), (by omega), (by exact (hd_o z225_5).elim (fun h1 => by omega) (fun h1 => by omega)), (by omega), (by omega), (by omega)⟩
                · refine Tr.aload_n (pc := 203) (i := 0) d_X12_statement_203 rfl rfl ?_
                  refine Tr.iload_n (pc := 204) (i := 1) d_X12_statement_204 rfl rfl ?_
                  refine Tr.bipush (pc := 205) d_X12_statement_205 rfl (by decide) ?_
                  have J215 : ∀ (M : Mem) (q215_1 : Int), St Pm0 ws_X12_statement_120_w1 as_X12_statement_120_w1 M0 M → (0 ≤ q215_1 ∧ q215_1 ≤ 2) → rd M 120 3 = u179_120_3 → rd M 120 36 = u179_120_36 → rd M 120 4 = u179_120_4 → rd M 120 43 = u179_120_43 → rd M 120 44 = u179_120_44 → rd M 120 46 = u179_120_46 → rd M 120 47 = u179_120_47 → rd M 120 5 = u179_120_5 → rd M 120 50 = g120_50 → rd M 120 6 = u179_120_6 → rd M 120 7 = u179_120_7 → rd M 120 8 = u179_120_8 → rd M 129 0 = (g129_0 + 1) → rd M 136 0 = s68_136_0 → rd M 137 r68 = r1 → rd M 140 r68 = g120_36 → rd M 141 r68 = u179_120_36 → nb2v M = u179_9001_0 → n4v M = u179_9002_0 → Dv0 M = u179_9003_0 → fr0 M = u179_9005_0 → nwv M = g9006_0 → tav M = u179_9010_0 → Tr l K 5 mX12_statement 215 [(2, (0, r68))] [(0, q215_1), (2, 120)] M (q_X12_statement_120_w1 M0) := by
                    intro M q215_1 hS bq215_1 k215_120_3 k215_120_36 k215_120_4 k215_120_43 k215_120_44 k215_120_46 k215_120_47 k215_120_5 k215_120_50 k215_120_6 k215_120_7 k215_120_8 k215_129_0 k215_136_0 k215_137_r6810 k215_140_r6810 k215_141_r6810 k215_9001_0 k215_9002_0 k215_9003_0 k215_9005_0 k215_9006_0 k215_9010_0
                    clear k179_120_3 k179_120_36 k179_120_4 k179_120_43 k179_120_44 k179_120_46 k179_120_47 k179_120_5 k179_120_50 k179_120_6 k179_120_7 k179_120_8 k179_129_0 k179_136_0 k179_137_r6810 k179_140_r6810 k179_9001_0 k179_9002_0 k179_9003_0 k179_9005_0 k179_9006_0 k179_9010_0 kx_120_36 kx_136_0 w188
                    refine Tr.iload_n (pc := 215) (i := 2) d_X12_statement_215 rfl rfl ?_
                    refine Tr.callV (pc := 216) (as := [_, _]) d_X12_statement_216 s_12_534 ok_X12_opensBlock rfl rfl (Nat.le_of_ble_eq_true rfl) (Nat.le_of_ble_eq_true rfl) (by decide) (ty_120 hS.1.1) ?_
                    have kp216_137 : rd M 137 r68 = r1 := k215_137_r6810
                    refine Tr.imp (Tr.deep (by decide) (ns_X12_opensBlock_120_w1 (G120_3 := u179_120_3) (G120_4 := u179_120_4) (G120_5 := u179_120_5) (G120_7 := u179_120_7) (G120_8 := u179_120_8) (G120_36 := u179_120_36) (G120_44 := u179_120_44) (G120_50 := g120_50) (G136_0 := s68_136_0) (G9006_0 := g9006_0) (G9010_0 := u179_9010_0) hS.1 (k215_120_3) (k215_120_4) (k215_120_5) (k215_120_7) (k215_120_8) (k215_120_36) (k215_120_44) (k215_120_50) (k215_136_0) (k215_9006_0) (k215_9010_0) q215_1 (by and_intros <;> omega) r68 (by and_intros <;> omega) (by first | exact (hd_o t179_0) | exact (hd_o t179_0).elim (fun h1 => by omega) (fun h1 => by omega)) (by omega) (by first | exact (hd_o t179_2) | exact (hd_o t179_2).elim (fun h1 => by omega) (fun h1 => h1.elim (fun h1 => by omega) (fun h1 => by omega))) (by omega) (by omega) (by and_intros <;> omega) (by omega))) ?_
                    rintro M216 _ ⟨h216, s216_120_3, s216_120_4, s216_120_5, s216_120_7, s216_120_8, s216_120_44, s216_120_50, s216_9006_0, s216_9010_0, es216_120_3, bs216_120_3, es216_120_4, bs216_120_4, es216_120_5, bs216_120_5, es216_120_7, bs216_120_7, es216_120_8, bs216_120_8, es216_120_44, bs216_120_44, es216_120_50, bs216_120_50, es216_9006_0, bs216_9006_0, es216_9010_0, bs216_9010_0, rfl, z216_0, z216_1, z216_2, z216_3, z216_4, z216_5, z216_6, z216_7, z216_8⟩
                    have hS := St.tr hS h216 (by decide) (by decide)
                    refine Tr.sc [] rfl ?_
                    refine Tr.goto (pc := 219) (tgt := 228) d_X12_statement_219 rfl ?_
                    have kr_120_3 : rd M216 120 3 = s216_120_3 := es216_120_3
                    have kr_120_4 : rd M216 120 4 = s216_120_4 := es216_120_4
                    have kr_120_5 : rd M216 120 5 = s216_120_5 := es216_120_5
                    have kr_120_7 : rd M216 120 7 = s216_120_7 := es216_120_7
                    have kr_120_8 : rd M216 120 8 = s216_120_8 := es216_120_8
                    have kr_120_36 : rd M216 120 36 = u179_120_36 := ((kp_X12_opensBlock_120_w1_120_36 h216).trans k215_120_36)
                    have kr_120_44 : rd M216 120 44 = s216_120_44 := es216_120_44
                    have kr_120_50 : rd M216 120 50 = s216_120_50 := es216_120_50
                    have kr_129_0 : rd M216 129 0 = (g129_0 + 1) := ((kp_X12_opensBlock_120_w1_129_0 h216).trans k215_129_0)
                    have kr_136_0 : rd M216 136 0 = s68_136_0 := ((kp_X12_opensBlock_120_w1_136_0 h216).trans k215_136_0)
                    have kr_9006_0 : nwv M216 = s216_9006_0 := es216_9006_0
                    have kr_9010_0 : tav M216 = s216_9010_0 := es216_9010_0
                    exact Tr.vret (pc := 228) d_X12_statement_228 rfl ⟨hS, rfl, (by first | exact (hd_o z216_0) | exact (hd_o z216_0).elim (fun h1 => by omega) (fun h1 => by omega)), (by omega), (by first | exact (hd_o z216_2) | exact (hd_o z216_2).elim (fun h1 => by omega) (fun h1 => h1.elim (fun h1 => by omega) (fun h1 => by omega))), (by and_intros <;> omega), (by omega), (by exact (hd_o z216_5).elim (fun h1 => by omega) (fun h1 => by omega)), (by exact (hd_o z216_8).elim (fun h1 => by omega) (fun h1 => by omega)), (by omega), (by omega)⟩
                  refine Tr.icmp_ne (pc := 207) (tgt := 214) d_X12_statement_207 rfl (fun c207 => ?_) (fun c207 => ?_)
                  · have c207b : 8 ≤ r1 ∧ r1 ≤ 8 := by omega
                    replace c207 := hd_i c207
                    refine Tr.iconst (pc := 214) d_X12_statement_214 (by decide) ?_
                    refine Tr.pick [2] (ls2 := [(2, (0, r68))]) rfl ?_
                    exact J215 _ _ hS (by omega) ((Wr.b w188 rfl).trans k179_120_3) ((Wr.b w188 rfl).trans k179_120_36) ((Wr.b w188 rfl).trans k179_120_4) ((Wr.b w188 rfl).trans k179_120_43) ((Wr.b w188 rfl).trans k179_120_44) ((Wr.b w188 rfl).trans k179_120_46) ((Wr.b w188 rfl).trans k179_120_47) ((Wr.b w188 rfl).trans k179_120_5) ((Wr.b w188 rfl).trans k179_120_50) ((Wr.b w188 rfl).trans k179_120_6) ((Wr.b w188 rfl).trans k179_120_7) ((Wr.b w188 rfl).trans k179_120_8) ((Wr.b w188 rfl).trans k179_129_0) ((Wr.b w188 rfl).trans k179_136_0) ((Wr.b w188 rfl).trans k179_137_r6810) ((Wr.b w188 rfl).trans k179_140_r6810) w188.1 ((nb2v_of (fun j => ((Wr.b w188 rfl).trans rfl)) ((Wr.b w188 rfl).trans rfl)).trans k179_9001_0) ((n4v_of (fun j => ((Wr.b w188 rfl).trans rfl)) ((Wr.b w188 rfl).trans rfl)).trans k179_9002_0) ((Dv0_of (fun j => ((Wr.b w188 rfl).trans rfl)) (fun j => ((Wr.b w188 rfl).trans rfl)) ((Wr.b w188 rfl).trans rfl) ((Wr.b w188 rfl).trans rfl)).trans k179_9003_0) ((fr0_of (fun j => ((Wr.b w188 rfl).trans rfl))).trans k179_9005_0) ((nwv_of (fun j => ((Wr.b w188 rfl).trans rfl)) ((Wr.b w188 rfl).trans rfl)).trans k179_9006_0) ((tav_of ((Wr.b w188 rfl).trans rfl) ((Wr.b w188 rfl).trans rfl)).trans k179_9010_0)
                  · refine Tr.iconst (pc := 210) d_X12_statement_210 (by decide) ?_
                    refine Tr.goto (pc := 211) (tgt := 215) d_X12_statement_211 rfl ?_
                    refine Tr.pick [2] (ls2 := [(2, (0, r68))]) rfl ?_
                    exact J215 _ _ hS (by omega) ((Wr.b w188 rfl).trans k179_120_3) ((Wr.b w188 rfl).trans k179_120_36) ((Wr.b w188 rfl).trans k179_120_4) ((Wr.b w188 rfl).trans k179_120_43) ((Wr.b w188 rfl).trans k179_120_44) ((Wr.b w188 rfl).trans k179_120_46) ((Wr.b w188 rfl).trans k179_120_47) ((Wr.b w188 rfl).trans k179_120_5) ((Wr.b w188 rfl).trans k179_120_50) ((Wr.b w188 rfl).trans k179_120_6) ((Wr.b w188 rfl).trans k179_120_7) ((Wr.b w188 rfl).trans k179_120_8) ((Wr.b w188 rfl).trans k179_129_0) ((Wr.b w188 rfl).trans k179_136_0) ((Wr.b w188 rfl).trans k179_137_r6810) ((Wr.b w188 rfl).trans k179_140_r6810) w188.1 ((nb2v_of (fun j => ((Wr.b w188 rfl).trans rfl)) ((Wr.b w188 rfl).trans rfl)).trans k179_9001_0) ((n4v_of (fun j => ((Wr.b w188 rfl).trans rfl)) ((Wr.b w188 rfl).trans rfl)).trans k179_9002_0) ((Dv0_of (fun j => ((Wr.b w188 rfl).trans rfl)) (fun j => ((Wr.b w188 rfl).trans rfl)) ((Wr.b w188 rfl).trans rfl) ((Wr.b w188 rfl).trans rfl)).trans k179_9003_0) ((fr0_of (fun j => ((Wr.b w188 rfl).trans rfl))).trans k179_9005_0) ((nwv_of (fun j => ((Wr.b w188 rfl).trans rfl)) ((Wr.b w188 rfl).trans rfl)).trans k179_9006_0) ((tav_of ((Wr.b w188 rfl).trans rfl) ((Wr.b w188 rfl).trans rfl)).trans k179_9010_0)
              · have kr_120_3 : rd M188 120 3 = u179_120_3 := ((Wr.b w188 rfl).trans k179_120_3)
                have kr_120_4 : rd M188 120 4 = u179_120_4 := ((Wr.b w188 rfl).trans k179_120_4)
                have kr_120_5 : rd M188 120 5 = u179_120_5 := ((Wr.b w188 rfl).trans k179_120_5)
                have kr_120_7 : rd M188 120 7 = u179_120_7 := ((Wr.b w188 rfl).trans k179_120_7)
                have kr_120_8 : rd M188 120 8 = u179_120_8 := ((Wr.b w188 rfl).trans k179_120_8)
                have kr_120_36 : rd M188 120 36 = u179_120_36 := ((Wr.b w188 rfl).trans k179_120_36)
                have kr_120_44 : rd M188 120 44 = u179_120_44 := ((Wr.b w188 rfl).trans k179_120_44)
                have kr_120_50 : rd M188 120 50 = g120_50 := ((Wr.b w188 rfl).trans k179_120_50)
                have kr_129_0 : rd M188 129 0 = (g129_0 + 1) := ((Wr.b w188 rfl).trans k179_129_0)
                have kr_136_0 : rd M188 136 0 = s68_136_0 := ((Wr.b w188 rfl).trans k179_136_0)
                have kr_9006_0 : nwv M188 = g9006_0 := ((nwv_of (fun j => ((Wr.b w188 rfl).trans rfl)) ((Wr.b w188 rfl).trans rfl)).trans k179_9006_0)
                have kr_9010_0 : tav M188 = u179_9010_0 := ((tav_of ((Wr.b w188 rfl).trans rfl) ((Wr.b w188 rfl).trans rfl)).trans k179_9010_0)
                exact Tr.vret (pc := 196) d_X12_statement_196 rfl ⟨hS, rfl, (by first | exact (hd_o t179_0) | exact (hd_o t179_0).elim (fun h1 => by omega) (fun h1 => by omega)), (by omega), (by first | exact (hd_o t179_2) | exact (hd_o t179_2).elim (fun h1 => by omega) (fun h1 => h1.elim (fun h1 => by omega) (fun h1 => by omega))), (by and_intros <;> omega), (by first | exact (hd_o t179_4) | exact (hd_o t179_4).elim (fun h1 => by omega) (fun h1 => by omega)), (by first | exact (hd_o t179_5) | exact (hd_o t179_5).elim (fun h1 => by omega) (fun h1 => by omega)), (by omega), (by omega), (by omega)⟩
            refine Tr.icmp_eq (pc := 156) (tgt := 179) d_X12_statement_156 rfl (fun c156 => ?_) (fun c156 => ?_)
            · refine Tr.pick [0, 1, 2] (ls2 := [(0, (2, 120)), (1, (0, r1)), (2, (0, r68))]) rfl ?_
              exact J179 _ _ _ _ _ _ _ _ _ _ _ _ _ _ _ _ _ hS (by and_intros <;> omega) (by and_intros <;> omega) (by and_intros <;> omega) (by and_intros <;> omega) (by omega) (by and_intros <;> omega) (by and_intros <;> omega) (by and_intros <;> omega) (by and_intros <;> omega) (by and_intros <;> omega) (by and_intros <;> omega) (by and_intros <;> omega) (by and_intros <;> omega) (by and_intros <;> omega) (by and_intros <;> omega) (by and_intros <;> omega) ((Wr.b w153 rfl).trans k144_120_3) ((Wr.b w153 rfl).trans k144_120_36) ((Wr.b w153 rfl).trans k144_120_4) ((Wr.b w153 rfl).trans k144_120_43) ((Wr.b w153 rfl).trans k144_120_44) ((Wr.b w153 rfl).trans k144_120_46) ((Wr.b w153 rfl).trans k144_120_47) ((Wr.b w153 rfl).trans k144_120_5) ((Wr.b w153 rfl).trans k144_120_50) ((Wr.b w153 rfl).trans k144_120_6) ((Wr.b w153 rfl).trans k144_120_7) ((Wr.b w153 rfl).trans k144_120_8) ((Wr.b w153 rfl).trans k144_129_0) ((Wr.b w153 rfl).trans k144_136_0) ((Wr.b w153 rfl).trans k144_137_r6810) w153.1 ((nb2v_of (fun j => ((Wr.b w153 rfl).trans rfl)) ((Wr.b w153 rfl).trans rfl)).trans k144_9001_0) ((n4v_of (fun j => ((Wr.b w153 rfl).trans rfl)) ((Wr.b w153 rfl).trans rfl)).trans k144_9002_0) ev153_9003 ((fr0_of (fun j => ((Wr.b w153 rfl).trans rfl))).trans k144_9005_0) ((nwv_of (fun j => ((Wr.b w153 rfl).trans rfl)) ((Wr.b w153 rfl).trans rfl)).trans k144_9006_0) ((tav_of ((Wr.b w153 rfl).trans rfl) ((Wr.b w153 rfl).trans rfl)).trans k144_9010_0) (by first | exact (hd_o t144_0) | exact (hd_o t144_0).elim (fun h1 => by omega) (fun h1 => by omega)) (by omega) (by first | exact (hd_o t144_2) | exact (hd_o t144_2).elim (fun h1 => by omega) (fun h1 => h1.elim (fun h1 => by omega) (fun h1 => by omega))) (by and_intros <;> omega) (by first | exact (hd_o t144_4) | exact (hd_o t144_4).elim (fun h1 => by omega) (fun h1 => by omega)) (by first | exact (hd_o t144_5) | exact (hd_o t144_5).elim (fun h1 => by omega) (fun h1 => by omega)) (by omega) (by omega) (by omega) (by omega)
            · replace c156 := hd_i c156
              refine Tr.iload_n (pc := 159) (i := 1) d_X12_statement_159 rfl rfl ?_
              refine Tr.iconst (pc := 160) d_X12_statement_160 (by decide) ?_
              refine Tr.icmp_eq (pc := 161) (tgt := 179) d_X12_statement_161 rfl (fun c161 => ?_) (fun c161 => ?_)
              · refine Tr.pick [0, 1, 2] (ls2 := [(0, (2, 120)), (1, (0, r1)), (2, (0, r68))]) rfl ?_
                exact J179 _ _ _ _ _ _ _ _ _ _ _ _ _ _ _ _ _ hS (by and_intros <;> omega) (by and_intros <;> omega) (by and_intros <;> omega) (by and_intros <;> omega) (by omega) (by and_intros <;> omega) (by and_intros <;> omega) (by and_intros <;> omega) (by and_intros <;> omega) (by and_intros <;> omega) (by and_intros <;> omega) (by and_intros <;> omega) (by and_intros <;> omega) (by and_intros <;> omega) (by and_intros <;> omega) (by and_intros <;> omega) ((Wr.b w153 rfl).trans k144_120_3) ((Wr.b w153 rfl).trans k144_120_36) ((Wr.b w153 rfl).trans k144_120_4) ((Wr.b w153 rfl).trans k144_120_43) ((Wr.b w153 rfl).trans k144_120_44) ((Wr.b w153 rfl).trans k144_120_46) ((Wr.b w153 rfl).trans k144_120_47) ((Wr.b w153 rfl).trans k144_120_5) ((Wr.b w153 rfl).trans k144_120_50) ((Wr.b w153 rfl).trans k144_120_6) ((Wr.b w153 rfl).trans k144_120_7) ((Wr.b w153 rfl).trans k144_120_8) ((Wr.b w153 rfl).trans k144_129_0) ((Wr.b w153 rfl).trans k144_136_0) ((Wr.b w153 rfl).trans k144_137_r6810) w153.1 ((nb2v_of (fun j => ((Wr.b w153 rfl).trans rfl)) ((Wr.b w153 rfl).trans rfl)).trans k144_9001_0) ((n4v_of (fun j => ((Wr.b w153 rfl).trans rfl)) ((Wr.b w153 rfl).trans rfl)).trans k144_9002_0) ev153_9003 ((fr0_of (fun j => ((Wr.b w153 rfl).trans rfl))).trans k144_9005_0) ((nwv_of (fun j => ((Wr.b w153 rfl).trans rfl)) ((Wr.b w153 rfl).trans rfl)).trans k144_9006_0) ((tav_of ((Wr.b w153 rfl).trans rfl) ((Wr.b w153 rfl).trans rfl)).trans k144_9010_0) (by first | exact (hd_o t144_0) | exact (hd_o t144_0).elim (fun h1 => by omega) (fun h1 => by omega)) (by omega) (by first | exact (hd_o t144_2) | exact (hd_o t144_2).elim (fun h1 => by omega) (fun h1 => h1.elim (fun h1 => by omega) (fun h1 => by omega))) (by and_intros <;> omega) (by first | exact (hd_o t144_4) | exact (hd_o t144_4).elim (fun h1 => by omega) (fun h1 => by omega)) (by first | exact (hd_o t144_5) | exact (hd_o t144_5).elim (fun h1 => by omega) (fun h1 => by omega)) (by omega) (by omega) (by omega) (by omega)
              · replace c161 := hd_i c161
                refine Tr.aload_n (pc := 164) (i := 0) d_X12_statement_164 rfl rfl ?_
                refine Tr.iload_n (pc := 165) (i := 1) d_X12_statement_165 rfl rfl ?_
                refine Tr.bipush (pc := 166) d_X12_statement_166 rfl (by decide) ?_
                have J176 : ∀ (M : Mem) (q176_1 : Int), St Pm0 ws_X12_statement_120_w1 as_X12_statement_120_w1 M0 M → (0 ≤ q176_1 ∧ q176_1 ≤ 1) → rd M 120 3 = u144_120_3 → rd M 120 36 = g120_36 → rd M 120 4 = u144_120_4 → rd M 120 43 = g120_43 → rd M 120 44 = g120_44 → rd M 120 46 = g120_46 → rd M 120 47 = g120_47 → rd M 120 5 = u144_120_5 → rd M 120 50 = g120_50 → rd M 120 6 = u144_120_6 → rd M 120 7 = u144_120_7 → rd M 120 8 = u144_120_8 → rd M 129 0 = (g129_0 + 1) → rd M 136 0 = s68_136_0 → rd M 137 r68 = r1 → rd M 140 r68 = g120_36 → nb2v M = g9001_0 → n4v M = g9002_0 → Dv0 M = v153_9003 → fr0 M = g9005_0 → nwv M = g9006_0 → tav M = u144_9010_0 → (u144_120_3 = 0 ∨ u144_120_4 + 1 ≤ u144_120_5) → (u144_120_4 ≤ u144_120_5) → (u144_120_3 ≠ 1 ∨ u144_120_4 + 2 ≤ u144_120_5 ∨ u144_120_7 < 256) → (g120_4 ≤ u144_120_4 ∧ g120_5 ≤ u144_120_5 ∧ g9010_0 ≤ u144_9010_0) → (g120_8 = 0 ∨ u144_120_8 = g120_8) → (1 ≤ u144_120_8 ∨ g9010_0 < u144_9010_0) → (g120_50 ≤ g120_44) → (g120_36 + g120_44 ≤ u144_120_4) → (s68_136_0 + g9006_0 + 1 ≤ 2 * (g129_0 + 1)) → (s68_136_0 = g136_0 + 1) → Tr l K 5 mX12_statement 176 [(0, (2, 120)), (1, (0, r1)), (2, (0, r68))] [(0, q176_1), (2, 120)] M (q_X12_statement_120_w1 M0) := by
                  intro M q176_1 hS bq176_1 k176_120_3 k176_120_36 k176_120_4 k176_120_43 k176_120_44 k176_120_46 k176_120_47 k176_120_5 k176_120_50 k176_120_6 k176_120_7 k176_120_8 k176_129_0 k176_136_0 k176_137_r6810 k176_140_r6810 k176_9001_0 k176_9002_0 k176_9003_0 k176_9005_0 k176_9006_0 k176_9010_0 t176_0 t176_1 t176_2 t176_3 t176_4 t176_5 t176_6 t176_7 t176_8 t176_9
                  clear k144_120_3 k144_120_36 k144_120_4 k144_120_43 k144_120_44 k144_120_46 k144_120_47 k144_120_5 k144_120_50 k144_120_6 k144_120_7 k144_120_8 k144_129_0 k144_136_0 k144_137_r6810 k144_9001_0 k144_9002_0 k144_9003_0 k144_9005_0 k144_9006_0 k144_9010_0 kx_120_36 kx_136_0 w153 ev153_9003
                  replace t176_0 := hd_i t176_0
                  replace t176_2 := hd_i t176_2
                  replace t176_4 := hd_i t176_4
                  replace t176_5 := hd_i t176_5
                  refine Tr.callV (pc := 176) (as := [_]) d_X12_statement_176 s_12_541 ok_X12_reads rfl rfl (Nat.le_of_ble_eq_true rfl) (Nat.le_of_ble_eq_true rfl) (by decide) (ty_120 hS.1.1) ?_
                  refine Tr.imp (Tr.deep (by decide) (ns_X12_reads_120_w1 (G120_3 := u144_120_3) (G120_4 := u144_120_4) (G120_5 := u144_120_5) (G120_7 := u144_120_7) (G120_8 := u144_120_8) (G120_36 := g120_36) (G120_44 := g120_44) (G120_50 := g120_50) (G136_0 := s68_136_0) (G9003_0 := v153_9003) (G9010_0 := u144_9010_0) hS.1 (k176_120_3) (k176_120_4) (k176_120_5) (k176_120_7) (k176_120_8) (k176_120_36) (k176_120_44) (k176_120_50) (k176_136_0) (k176_9003_0) (k176_9010_0) ((kp_X12_statement_120_w1_120_37 hS).trans en_120_37) q176_1 (by and_intros <;> omega) (by first | exact (hd_o t176_0) | exact (hd_o t176_0).elim (fun h1 => by omega) (fun h1 => by omega)) (by omega) (by first | exact (hd_o t176_2) | exact (hd_o t176_2).elim (fun h1 => by omega) (fun h1 => h1.elim (fun h1 => by omega) (fun h1 => by omega))) (by omega) (by omega) (by omega) (by omega))) ?_
                  rintro M176 _ ⟨h176, s176_120_3, s176_120_4, s176_120_5, s176_120_7, s176_120_8, s176_120_36, s176_120_44, s176_9010_0, es176_120_3, bs176_120_3, es176_120_4, bs176_120_4, es176_120_5, bs176_120_5, es176_120_7, bs176_120_7, es176_120_8, bs176_120_8, es176_120_36, bs176_120_36, es176_120_44, bs176_120_44, es176_9010_0, bs176_9010_0, rfl, z176_0, z176_1, z176_2, z176_3, z176_4, z176_5, z176_6⟩
                  have hS := St.tr hS h176 (by decide) (by decide)
                  refine Tr.sc [] rfl ?_
                  refine Tr.pick [0, 1, 2] (ls2 := [(0, (2, 120)), (1, (0, r1)), (2, (0, r68))]) rfl ?_
                  obtain ⟨w179p176_120_6, ew179p176_120_6⟩ : ∃ v, rd M176 120 6 = v := ⟨_, rfl⟩
                  have bw179p176_120_6 : (-2147483648) ≤ w179p176_120_6 ∧ w179p176_120_6 ≤ 2147483647 := by rw [← ew179p176_120_6]; exact ir_120_6 hS.1.2.1
                  obtain ⟨w179p176_120_46, ew179p176_120_46⟩ : ∃ v, rd M176 120 46 = v := ⟨_, rfl⟩
                  have bw179p176_120_46 : 0 ≤ w179p176_120_46 ∧ w179p176_120_46 ≤ 500 := by rw [← ew179p176_120_46]; exact ir_120_46 hS.1.2.1
                  obtain ⟨w179p176_120_43, ew179p176_120_43⟩ : ∃ v, rd M176 120 43 = v := ⟨_, rfl⟩
                  have bw179p176_120_43 : 0 ≤ w179p176_120_43 ∧ w179p176_120_43 ≤ 20 := by rw [← ew179p176_120_43]; exact ir_120_43 hS.1.2.1
                  obtain ⟨w179p176_9001_0, ew179p176_9001_0⟩ : ∃ v, nb2v M176 = v := ⟨_, rfl⟩
                  have bw179p176_9001_0 : 0 ≤ w179p176_9001_0 ∧ w179p176_9001_0 ≤ 1000000 := by rw [← ew179p176_9001_0]; exact (nb2v_b hS.1.2.1)
                  obtain ⟨w179p176_9002_0, ew179p176_9002_0⟩ : ∃ v, n4v M176 = v := ⟨_, rfl⟩
                  have bw179p176_9002_0 : 0 ≤ w179p176_9002_0 ∧ w179p176_9002_0 ≤ 20 := by rw [← ew179p176_9002_0]; exact (n4v_b hS.1.2.1)
                  obtain ⟨w179p176_9005_0, ew179p176_9005_0⟩ : ∃ v, fr0 M176 = v := ⟨_, rfl⟩
                  have bw179p176_9005_0 : 0 ≤ w179p176_9005_0 ∧ w179p176_9005_0 ≤ 5 := by rw [← ew179p176_9005_0]; exact (fr0_b hS.1.2.1)
                  obtain ⟨w179p176_9003_0, ew179p176_9003_0⟩ : ∃ v, Dv0 M176 = v := ⟨_, rfl⟩
                  have bw179p176_9003_0 : (-1000) ≤ w179p176_9003_0 ∧ w179p176_9003_0 ≤ 1000 := by rw [← ew179p176_9003_0]; exact (Dv0_b hS.1.2.1)
                  obtain ⟨w179p176_120_47, ew179p176_120_47⟩ : ∃ v, rd M176 120 47 = v := ⟨_, rfl⟩
                  have bw179p176_120_47 : 0 ≤ w179p176_120_47 ∧ w179p176_120_47 ≤ 1 := by rw [← ew179p176_120_47]; exact ir_120_47 hS.1.2.1
                  exact J179 _ _ _ _ _ _ _ _ _ _ _ _ _ _ _ _ _ hS (by and_intros <;> omega) (by and_intros <;> omega) (by and_intros <;> omega) (by and_intros <;> omega) (by omega) (by and_intros <;> omega) (by and_intros <;> omega) (by and_intros <;> omega) (by and_intros <;> omega) (by and_intros <;> omega) (by and_intros <;> omega) (by and_intros <;> omega) (by and_intros <;> omega) (by and_intros <;> omega) (by and_intros <;> omega) (by and_intros <;> omega) es176_120_3 es176_120_36 es176_120_4 ew179p176_120_43 es176_120_44 ew179p176_120_46 ew179p176_120_47 es176_120_5 ((kp_X12_reads_120_w1_120_50 h176).trans k176_120_50) ew179p176_120_6 es176_120_7 es176_120_8 ((kp_X12_reads_120_w1_129_0 h176).trans k176_129_0) ((kp_X12_reads_120_w1_136_0 h176).trans k176_136_0) ((ka_X12_reads_120_w1_137 h176 _).trans k176_137_r6810) ((ka_X12_reads_120_w1_140 h176 _).trans k176_140_r6810) ew179p176_9001_0 ew179p176_9002_0 ew179p176_9003_0 ew179p176_9005_0 ((nwv_of (fun j => ((ka_X12_reads_120_w1_151 h176 _).trans rfl)) ((kp_X12_reads_120_w1_120_50 h176).trans rfl)).trans k176_9006_0) es176_9010_0 (by first | exact (hd_o z176_0) | exact (hd_o z176_0).elim (fun h1 => by omega) (fun h1 => by omega)) (by omega) (by first | exact (hd_o z176_2) | exact (hd_o z176_2).elim (fun h1 => by omega) (fun h1 => h1.elim (fun h1 => by omega) (fun h1 => by omega))) (by and_intros <;> omega) (by omega) (by exact (hd_o t176_5).elim (fun h1 => (hd_o z176_4).elim (fun h2 => by omega) (fun h2 => by omega)) (fun h1 => by omega)) (by omega) (by omega) (by omega) (by omega)
                refine Tr.icmp_lt (pc := 168) (tgt := 175) d_X12_statement_168 rfl (fun c168 => ?_) (fun c168 => ?_)
                · refine Tr.iconst (pc := 175) d_X12_statement_175 (by decide) ?_
                  refine Tr.pick [0, 1, 2] (ls2 := [(0, (2, 120)), (1, (0, r1)), (2, (0, r68))]) rfl ?_
                  exact J176 _ _ hS (by omega) ((Wr.b w153 rfl).trans k144_120_3) ((Wr.b w153 rfl).trans k144_120_36) ((Wr.b w153 rfl).trans k144_120_4) ((Wr.b w153 rfl).trans k144_120_43) ((Wr.b w153 rfl).trans k144_120_44) ((Wr.b w153 rfl).trans k144_120_46) ((Wr.b w153 rfl).trans k144_120_47) ((Wr.b w153 rfl).trans k144_120_5) ((Wr.b w153 rfl).trans k144_120_50) ((Wr.b w153 rfl).trans k144_120_6) ((Wr.b w153 rfl).trans k144_120_7) ((Wr.b w153 rfl).trans k144_120_8) ((Wr.b w153 rfl).trans k144_129_0) ((Wr.b w153 rfl).trans k144_136_0) ((Wr.b w153 rfl).trans k144_137_r6810) w153.1 ((nb2v_of (fun j => ((Wr.b w153 rfl).trans rfl)) ((Wr.b w153 rfl).trans rfl)).trans k144_9001_0) ((n4v_of (fun j => ((Wr.b w153 rfl).trans rfl)) ((Wr.b w153 rfl).trans rfl)).trans k144_9002_0) ev153_9003 ((fr0_of (fun j => ((Wr.b w153 rfl).trans rfl))).trans k144_9005_0) ((nwv_of (fun j => ((Wr.b w153 rfl).trans rfl)) ((Wr.b w153 rfl).trans rfl)).trans k144_9006_0) ((tav_of ((Wr.b w153 rfl).trans rfl) ((Wr.b w153 rfl).trans rfl)).trans k144_9010_0) (by first | exact (hd_o t144_0) | exact (hd_o t144_0).elim (fun h1 => by omega) (fun h1 => by omega)) (by omega) (by first | exact (hd_o t144_2) | exact (hd_o t144_2).elim (fun h1 => by omega) (fun h1 => h1.elim (fun h1 => by omega) (fun h1 => by omega))) (by and_intros <;> omega) (by first | exact (hd_o t144_4) | exact (hd_o t144_4).elim (fun h1 => by omega) (fun h1 => by omega)) (by first | exact (hd_o t144_5) | exact (hd_o t144_5).elim (fun h1 => by omega) (fun h1 => by omega)) (by omega) (by omega) (by omega) (by omega)
                · refine Tr.iconst (pc := 171) d_X12_statement_171 (by decide) ?_
                  refine Tr.goto (pc := 172) (tgt := 176) d_X12_statement_172 rfl ?_
                  refine Tr.pick [0, 1, 2] (ls2 := [(0, (2, 120)), (1, (0, r1)), (2, (0, r68))]) rfl ?_
                  exact J176 _ _ hS (by omega) ((Wr.b w153 rfl).trans k144_120_3) ((Wr.b w153 rfl).trans k144_120_36) ((Wr.b w153 rfl).trans k144_120_4) ((Wr.b w153 rfl).trans k144_120_43) ((Wr.b w153 rfl).trans k144_120_44) ((Wr.b w153 rfl).trans k144_120_46) ((Wr.b w153 rfl).trans k144_120_47) ((Wr.b w153 rfl).trans k144_120_5) ((Wr.b w153 rfl).trans k144_120_50) ((Wr.b w153 rfl).trans k144_120_6) ((Wr.b w153 rfl).trans k144_120_7) ((Wr.b w153 rfl).trans k144_120_8) ((Wr.b w153 rfl).trans k144_129_0) ((Wr.b w153 rfl).trans k144_136_0) ((Wr.b w153 rfl).trans k144_137_r6810) w153.1 ((nb2v_of (fun j => ((Wr.b w153 rfl).trans rfl)) ((Wr.b w153 rfl).trans rfl)).trans k144_9001_0) ((n4v_of (fun j => ((Wr.b w153 rfl).trans rfl)) ((Wr.b w153 rfl).trans rfl)).trans k144_9002_0) ev153_9003 ((fr0_of (fun j => ((Wr.b w153 rfl).trans rfl))).trans k144_9005_0) ((nwv_of (fun j => ((Wr.b w153 rfl).trans rfl)) ((Wr.b w153 rfl).trans rfl)).trans k144_9006_0) ((tav_of ((Wr.b w153 rfl).trans rfl) ((Wr.b w153 rfl).trans rfl)).trans k144_9010_0) (by first | exact (hd_o t144_0) | exact (hd_o t144_0).elim (fun h1 => by omega) (fun h1 => by omega)) (by omega) (by first | exact (hd_o t144_2) | exact (hd_o t144_2).elim (fun h1 => by omega) (fun h1 => h1.elim (fun h1 => by omega) (fun h1 => by omega))) (by and_intros <;> omega) (by first | exact (hd_o t144_4) | exact (hd_o t144_4).elim (fun h1 => by omega) (fun h1 => by omega)) (by first | exact (hd_o t144_5) | exact (hd_o t144_5).elim (fun h1 => by omega) (fun h1 => by omega)) (by omega) (by omega) (by omega) (by omega)
          have J133 : ∀ (M : Mem), St Pm0 ws_X12_statement_120_w1 as_X12_statement_120_w1 M0 M → (2 ≤ r1 ∧ r1 ≤ 4) → rd M 120 3 = u118_120_3 → rd M 120 36 = g120_36 → rd M 120 4 = u118_120_4 → rd M 120 43 = g120_43 → rd M 120 44 = g120_44 → rd M 120 46 = g120_46 → rd M 120 47 = g120_47 → rd M 120 5 = u118_120_5 → rd M 120 50 = g120_50 → rd M 120 6 = u118_120_6 → rd M 120 7 = u118_120_7 → rd M 120 8 = u118_120_8 → rd M 129 0 = (g129_0 + 1) → rd M 136 0 = s68_136_0 → rd M 137 r68 = r1 → nb2v M = g9001_0 → n4v M = g9002_0 → Dv0 M = u118_9003_0 → fr0 M = g9005_0 → nwv M = g9006_0 → tav M = u118_9010_0 → (u118_120_3 = 0 ∨ u118_120_4 + 1 ≤ u118_120_5) → (u118_120_4 ≤ u118_120_5) → (u118_120_3 ≠ 1 ∨ u118_120_4 + 2 ≤ u118_120_5 ∨ u118_120_7 < 256) → (g120_4 ≤ u118_120_4 ∧ g120_5 ≤ u118_120_5 ∧ g9010_0 ≤ u118_9010_0) → (g120_8 = 0 ∨ u118_120_8 = g120_8) → (1 ≤ u118_120_8 ∨ g9010_0 < u118_9010_0) → (g120_50 ≤ g120_44) → (g120_36 + g120_44 ≤ u118_120_4) → (s68_136_0 + g9006_0 + 1 ≤ 2 * (g129_0 + 1)) → (s68_136_0 = g136_0 + 1) → Tr l K 5 mX12_statement 133 [(0, (2, 120)), (1, (0, r1)), (2, (0, r68))] [] M (q_X12_statement_120_w1 M0) := by
            intro M  hS z133r1 k133_120_3 k133_120_36 k133_120_4 k133_120_43 k133_120_44 k133_120_46 k133_120_47 k133_120_5 k133_120_50 k133_120_6 k133_120_7 k133_120_8 k133_129_0 k133_136_0 k133_137_r6810 k133_9001_0 k133_9002_0 k133_9003_0 k133_9005_0 k133_9006_0 k133_9010_0 t133_0 t133_1 t133_2 t133_3 t133_4 t133_5 t133_6 t133_7 t133_8 t133_9
            clear k118_120_3 k118_120_36 k118_120_4 k118_120_43 k118_120_44 k118_120_46 k118_120_47 k118_120_5 k118_120_50 k118_120_6 k118_120_7 k118_120_8 k118_129_0 k118_136_0 k118_137_r6810 k118_9001_0 k118_9002_0 k118_9003_0 k118_9005_0 k118_9006_0 k118_9010_0
            replace t133_0 := hd_i t133_0
            replace t133_2 := hd_i t133_2
            replace t133_4 := hd_i t133_4
            replace t133_5 := hd_i t133_5
            refine Tr.aload_n (pc := 133) (i := 0) d_X12_statement_133 rfl rfl ?_
            refine Tr.getf (pc := 134) d_X12_statement_134 f_12_103 (by decide) (by decide) (ty_120 hS.1.1) ?_
            refine Tr.tp 139 (fx_120_30 hS.1.1) ?_
            refine Tr.iload_n (pc := 137) (i := 2) d_X12_statement_137 rfl rfl ?_
            refine Tr.aload_n (pc := 138) (i := 0) d_X12_statement_138 rfl rfl ?_
            refine Tr.iconst (pc := 139) d_X12_statement_139 (by decide) ?_
            refine Tr.callV (pc := 140) (as := [_]) d_X12_statement_140 s_12_493 ok_X12_asked rfl rfl (Nat.le_of_ble_eq_true rfl) (Nat.le_of_ble_eq_true rfl) (by decide) (ty_120 hS.1.1) ?_
            refine Tr.imp (Tr.deep (by decide) (ns_X12_asked_120_w1 (G120_3 := u118_120_3) (G120_4 := u118_120_4) (G120_5 := u118_120_5) (G120_7 := u118_120_7) (G120_8 := u118_120_8) (G9010_0 := u118_9010_0) hS.1 (k133_120_3) (k133_120_4) (k133_120_5) (k133_120_7) (k133_120_8) (k133_9010_0) ((kp_X12_statement_120_w1_120_37 hS).trans en_120_37) 0 (by omega) (by first | exact (hd_o t133_0) | exact (hd_o t133_0).elim (fun h1 => by omega) (fun h1 => by omega)) (by omega) (by first | exact (hd_o t133_2) | exact (hd_o t133_2).elim (fun h1 => by omega) (fun h1 => h1.elim (fun h1 => by omega) (fun h1 => by omega))))) ?_
            rintro M140 _ ⟨h140, s140_120_3, s140_120_4, s140_120_5, s140_120_7, s140_120_8, s140_9010_0, es140_120_3, bs140_120_3, es140_120_4, bs140_120_4, es140_120_5, bs140_120_5, es140_120_7, bs140_120_7, es140_120_8, bs140_120_8, es140_9010_0, bs140_9010_0, r140, rfl, lr140, ur140, z140_0, z140_1, z140_2, z140_3, z140_4, z140_5, z140_6⟩
            have hS := St.tr hS h140 (by decide) (by decide)
            refine Tr.sc [(0, r140), (0, r68), (2, 139)] rfl ?_
            have kx_120_8 : rd M140 120 8 = s140_120_8 := es140_120_8
            refine Tr.iastS (pc := 143) (P := St Pm0 ws_X12_statement_120_w1 as_X12_statement_120_w1 M0) d_X12_statement_143 (ty_139 hS.1.1) (by omega) (by omega) (sa_139 hS (by decide) (by and_intros <;> omega) (Pm0_what hS.1.2.2.2.2 hS.1.2.1 (by omega) (by omega) (fun hf => by have hz : 1 ≤ s140_120_8 ∨ 0 ≤ r140 := (by exact (hd_o z140_6).elim (fun h1 => by omega) (fun h1 => by omega)); omega))) (fun M143 hS w143 => ?_)
            refine Tr.pick [0, 1, 2] (ls2 := [(0, (2, 120)), (1, (0, r1)), (2, (0, r68))]) rfl ?_
            obtain ⟨w144p143_120_6, ew144p143_120_6⟩ : ∃ v, rd M143 120 6 = v := ⟨_, rfl⟩
            have bw144p143_120_6 : (-2147483648) ≤ w144p143_120_6 ∧ w144p143_120_6 ≤ 2147483647 := by rw [← ew144p143_120_6]; exact ir_120_6 hS.1.2.1
            exact J144 _ _ _ _ _ _ _ _ hS (by and_intros <;> omega) (by and_intros <;> omega) (by and_intros <;> omega) (by and_intros <;> omega) (by omega) (by and_intros <;> omega) (by and_intros <;> omega) ((Wr.b w143 rfl).trans es140_120_3) ((Wr.b w143 rfl).trans ((kp_X12_asked_120_w1_120_36 h140).trans k133_120_36)) ((Wr.b w143 rfl).trans es140_120_4) ((Wr.b w143 rfl).trans ((kp_X12_asked_120_w1_120_43 h140).trans k133_120_43)) ((Wr.b w143 rfl).trans ((kp_X12_asked_120_w1_120_44 h140).trans k133_120_44)) ((Wr.b w143 rfl).trans ((kp_X12_asked_120_w1_120_46 h140).trans k133_120_46)) ((Wr.b w143 rfl).trans ((kp_X12_asked_120_w1_120_47 h140).trans k133_120_47)) ((Wr.b w143 rfl).trans es140_120_5) ((Wr.b w143 rfl).trans ((kp_X12_asked_120_w1_120_50 h140).trans k133_120_50)) ew144p143_120_6 ((Wr.b w143 rfl).trans es140_120_7) ((Wr.b w143 rfl).trans es140_120_8) ((Wr.b w143 rfl).trans ((kp_X12_asked_120_w1_129_0 h140).trans k133_129_0)) ((Wr.b w143 rfl).trans ((kp_X12_asked_120_w1_136_0 h140).trans k133_136_0)) ((Wr.b w143 rfl).trans ((ka_X12_asked_120_w1_137 h140 _).trans k133_137_r6810)) ((nb2v_of (fun j => ((Wr.b w143 rfl).trans ((ka_X12_asked_120_w1_150 h140 _).trans rfl))) ((Wr.b w143 rfl).trans ((kp_X12_asked_120_w1_120_46 h140).trans rfl))).trans k133_9001_0) ((n4v_of (fun j => ((Wr.b w143 rfl).trans ((ka_X12_asked_120_w1_145 h140 _).trans rfl))) ((Wr.b w143 rfl).trans ((kp_X12_asked_120_w1_120_43 h140).trans rfl))).trans k133_9002_0) ((Dv0_of (fun j => ((Wr.b w143 rfl).trans ((ka_X12_asked_120_w1_143 h140 _).trans rfl))) (fun j => ((Wr.b w143 rfl).trans ((ka_X12_asked_120_w1_140 h140 _).trans rfl))) ((Wr.b w143 rfl).trans ((kp_X12_asked_120_w1_136_0 h140).trans rfl)) ((Wr.b w143 rfl).trans ((kp_X12_asked_120_w1_120_36 h140).trans rfl))).trans k133_9003_0) ((fr0_of (fun j => ((Wr.b w143 rfl).trans ((ka_X12_asked_120_w1_145 h140 _).trans rfl)))).trans k133_9005_0) ((nwv_of (fun j => ((Wr.b w143 rfl).trans ((ka_X12_asked_120_w1_151 h140 _).trans rfl))) ((Wr.b w143 rfl).trans ((kp_X12_asked_120_w1_120_50 h140).trans rfl))).trans k133_9006_0) ((tav_of ((Wr.b w143 rfl).trans rfl) ((Wr.b w143 rfl).trans rfl)).trans es140_9010_0) (by first | exact (hd_o z140_0) | exact (hd_o z140_0).elim (fun h1 => by omega) (fun h1 => by omega)) (by omega) (by first | exact (hd_o z140_2) | exact (hd_o z140_2).elim (fun h1 => by omega) (fun h1 => h1.elim (fun h1 => by omega) (fun h1 => by omega))) (by and_intros <;> omega) (by omega) (by exact (hd_o z140_5).elim (fun h1 => by omega) (fun h1 => by omega)) (by omega) (by omega) (by omega) (by omega)
          refine Tr.icmp_eq (pc := 120) (tgt := 133) d_X12_statement_120 rfl (fun c120 => ?_) (fun c120 => ?_)
          · refine Tr.pick [0, 1, 2] (ls2 := [(0, (2, 120)), (1, (0, r1)), (2, (0, r68))]) rfl ?_
            exact J133 _ hS (by and_intros <;> omega) k118_120_3 k118_120_36 k118_120_4 k118_120_43 k118_120_44 k118_120_46 k118_120_47 k118_120_5 k118_120_50 k118_120_6 k118_120_7 k118_120_8 k118_129_0 k118_136_0 k118_137_r6810 k118_9001_0 k118_9002_0 k118_9003_0 k118_9005_0 k118_9006_0 k118_9010_0 (by first | exact (hd_o t118_0) | exact (hd_o t118_0).elim (fun h1 => by omega) (fun h1 => by omega)) (by omega) (by first | exact (hd_o t118_2) | exact (hd_o t118_2).elim (fun h1 => by omega) (fun h1 => h1.elim (fun h1 => by omega) (fun h1 => by omega))) (by and_intros <;> omega) (by first | exact (hd_o t118_4) | exact (hd_o t118_4).elim (fun h1 => by omega) (fun h1 => by omega)) (by first | exact (hd_o t118_5) | exact (hd_o t118_5).elim (fun h1 => by omega) (fun h1 => by omega)) (by omega) (by omega) (by omega) (by omega)
          · replace c120 := hd_i c120
            refine Tr.iload_n (pc := 123) (i := 1) d_X12_statement_123 rfl rfl ?_
            refine Tr.iconst (pc := 124) d_X12_statement_124 (by decide) ?_
            refine Tr.icmp_eq (pc := 125) (tgt := 133) d_X12_statement_125 rfl (fun c125 => ?_) (fun c125 => ?_)
            · refine Tr.pick [0, 1, 2] (ls2 := [(0, (2, 120)), (1, (0, r1)), (2, (0, r68))]) rfl ?_
              exact J133 _ hS (by and_intros <;> omega) k118_120_3 k118_120_36 k118_120_4 k118_120_43 k118_120_44 k118_120_46 k118_120_47 k118_120_5 k118_120_50 k118_120_6 k118_120_7 k118_120_8 k118_129_0 k118_136_0 k118_137_r6810 k118_9001_0 k118_9002_0 k118_9003_0 k118_9005_0 k118_9006_0 k118_9010_0 (by first | exact (hd_o t118_0) | exact (hd_o t118_0).elim (fun h1 => by omega) (fun h1 => by omega)) (by omega) (by first | exact (hd_o t118_2) | exact (hd_o t118_2).elim (fun h1 => by omega) (fun h1 => h1.elim (fun h1 => by omega) (fun h1 => by omega))) (by and_intros <;> omega) (by first | exact (hd_o t118_4) | exact (hd_o t118_4).elim (fun h1 => by omega) (fun h1 => by omega)) (by first | exact (hd_o t118_5) | exact (hd_o t118_5).elim (fun h1 => by omega) (fun h1 => by omega)) (by omega) (by omega) (by omega) (by omega)
            · replace c125 := hd_i c125
              refine Tr.iload_n (pc := 128) (i := 1) d_X12_statement_128 rfl rfl ?_
              refine Tr.iconst (pc := 129) d_X12_statement_129 (by decide) ?_
              refine Tr.icmp_ne (pc := 130) (tgt := 144) d_X12_statement_130 rfl (fun c130 => ?_) (fun c130 => ?_)
              · replace c130 := hd_i c130
                refine Tr.pick [0, 1, 2] (ls2 := [(0, (2, 120)), (1, (0, r1)), (2, (0, r68))]) rfl ?_
                exact J144 _ _ _ _ _ _ _ _ hS (by and_intros <;> omega) (by and_intros <;> omega) (by and_intros <;> omega) (by and_intros <;> omega) (by omega) (by and_intros <;> omega) (by and_intros <;> omega) k118_120_3 k118_120_36 k118_120_4 k118_120_43 k118_120_44 k118_120_46 k118_120_47 k118_120_5 k118_120_50 k118_120_6 k118_120_7 k118_120_8 k118_129_0 k118_136_0 k118_137_r6810 k118_9001_0 k118_9002_0 k118_9003_0 k118_9005_0 k118_9006_0 k118_9010_0 (by first | exact (hd_o t118_0) | exact (hd_o t118_0).elim (fun h1 => by omega) (fun h1 => by omega)) (by omega) (by first | exact (hd_o t118_2) | exact (hd_o t118_2).elim (fun h1 => by omega) (fun h1 => h1.elim (fun h1 => by omega) (fun h1 => by omega))) (by and_intros <;> omega) (by first | exact (hd_o t118_4) | exact (hd_o t118_4).elim (fun h1 => by omega) (fun h1 => by omega)) (by first | exact (hd_o t118_5) | exact (hd_o t118_5).elim (fun h1 => by omega) (fun h1 => by omega)) (by omega) (by omega) (by omega) (by omega)
              · refine Tr.pick [0, 1, 2] (ls2 := [(0, (2, 120)), (1, (0, r1)), (2, (0, r68))]) rfl ?_
                exact J133 _ hS (by and_intros <;> omega) k118_120_3 k118_120_36 k118_120_4 k118_120_43 k118_120_44 k118_120_46 k118_120_47 k118_120_5 k118_120_50 k118_120_6 k118_120_7 k118_120_8 k118_129_0 k118_136_0 k118_137_r6810 k118_9001_0 k118_9002_0 k118_9003_0 k118_9005_0 k118_9006_0 k118_9010_0 (by first | exact (hd_o t118_0) | exact (hd_o t118_0).elim (fun h1 => by omega) (fun h1 => by omega)) (by omega) (by first | exact (hd_o t118_2) | exact (hd_o t118_2).elim (fun h1 => by omega) (fun h1 => h1.elim (fun h1 => by omega) (fun h1 => by omega))) (by and_intros <;> omega) (by first | exact (hd_o t118_4) | exact (hd_o t118_4).elim (fun h1 => by omega) (fun h1 => by omega)) (by first | exact (hd_o t118_5) | exact (hd_o t118_5).elim (fun h1 => by omega) (fun h1 => by omega)) (by omega) (by omega) (by omega) (by omega)
        refine Tr.icmp_ne (pc := 91) (tgt := 118) d_X12_statement_91 rfl (fun c91 => ?_) (fun c91 => ?_)
        · replace c91 := hd_i c91
          refine Tr.pick [1, 2, 0] (ls2 := [(0, (2, 120)), (1, (0, r1)), (2, (0, r68))]) rfl ?_
          obtain ⟨w118p91_120_6, ew118p91_120_6⟩ : ∃ v, rd M86 120 6 = v := ⟨_, rfl⟩
          have bw118p91_120_6 : (-2147483648) ≤ w118p91_120_6 ∧ w118p91_120_6 ≤ 2147483647 := by rw [← ew118p91_120_6]; exact ir_120_6 hS.1.2.1
          obtain ⟨w118p91_9003_0, ew118p91_9003_0⟩ : ∃ v, Dv0 M86 = v := ⟨_, rfl⟩
          have bw118p91_9003_0 : (-1000) ≤ w118p91_9003_0 ∧ w118p91_9003_0 ≤ 1000 := by rw [← ew118p91_9003_0]; exact (Dv0_b hS.1.2.1)
          exact J118 _ _ _ _ _ _ _ _ _ hS (by and_intros <;> omega) (by and_intros <;> omega) (by and_intros <;> omega) (by and_intros <;> omega) (by omega) (by and_intros <;> omega) (by and_intros <;> omega) (by and_intros <;> omega) es86_120_3 ((kp_X12_next_120_w1_120_36 h86).trans ((Wr.b w84 rfl).trans ((kp_X12_spot_120_w1_120_36 h68).trans k49_120_36))) es86_120_4 ((kp_X12_next_120_w1_120_43 h86).trans ((Wr.b w84 rfl).trans ((kp_X12_spot_120_w1_120_43 h68).trans k49_120_43))) ((kp_X12_next_120_w1_120_44 h86).trans ((Wr.b w84 rfl).trans ((kp_X12_spot_120_w1_120_44 h68).trans k49_120_44))) ((kp_X12_next_120_w1_120_46 h86).trans ((Wr.b w84 rfl).trans ((kp_X12_spot_120_w1_120_46 h68).trans k49_120_46))) ((kp_X12_next_120_w1_120_47 h86).trans ((Wr.b w84 rfl).trans ((kp_X12_spot_120_w1_120_47 h68).trans k49_120_47))) es86_120_5 ((kp_X12_next_120_w1_120_50 h86).trans ((Wr.b w84 rfl).trans ((kp_X12_spot_120_w1_120_50 h68).trans k49_120_50))) ew118p91_120_6 es86_120_7 es86_120_8 ((kp_X12_next_120_w1_129_0 h86).trans w84.1) ((kp_X12_next_120_w1_136_0 h86).trans ((Wr.b w84 rfl).trans es68_136_0)) ((ka_X12_next_120_w1_137 h86 _).trans ((Wr.b w84 rfl).trans eds)) ((nb2v_of (fun j => ((ka_X12_next_120_w1_150 h86 _).trans ((Wr.b w84 rfl).trans ((ka_X12_spot_120_w1_150 h68 _).trans rfl)))) ((kp_X12_next_120_w1_120_46 h86).trans ((Wr.b w84 rfl).trans ((kp_X12_spot_120_w1_120_46 h68).trans rfl)))).trans k49_9001_0) ((n4v_of (fun j => ((ka_X12_next_120_w1_145 h86 _).trans ((Wr.b w84 rfl).trans ((ka_X12_spot_120_w1_145 h68 _).trans rfl)))) ((kp_X12_next_120_w1_120_43 h86).trans ((Wr.b w84 rfl).trans ((kp_X12_spot_120_w1_120_43 h68).trans rfl)))).trans k49_9002_0) ew118p91_9003_0 ((fr0_of (fun j => ((ka_X12_next_120_w1_145 h86 _).trans ((Wr.b w84 rfl).trans ((ka_X12_spot_120_w1_145 h68 _).trans rfl))))).trans k49_9005_0) ((nwv_of (fun j => ((ka_X12_next_120_w1_151 h86 _).trans ((Wr.b w84 rfl).trans ((ka_X12_spot_120_w1_151 h68 _).trans rfl)))) ((kp_X12_next_120_w1_120_50 h86).trans ((Wr.b w84 rfl).trans ((kp_X12_spot_120_w1_120_50 h68).trans rfl)))).trans k49_9006_0) es86_9010_0 (by first | exact (hd_o z86_0) | exact (hd_o z86_0).elim (fun h1 => by omega) (fun h1 => by omega)) (by omega) (by first | exact (hd_o z86_2) | exact (hd_o z86_2).elim (fun h1 => by omega) (fun h1 => h1.elim (fun h1 => by omega) (fun h1 => by omega))) (by and_intros <;> omega) (by omega) (by exact (hd_o t49_0).elim (fun h1 => by omega) (fun h1 => (hd_o z86_5).elim (fun h2 => by omega) (fun h2 => by omega))) (by omega) (by omega) (by omega) (by omega)
        · refine Tr.aload_n (pc := 94) (i := 0) d_X12_statement_94 rfl rfl ?_
          refine Tr.getf (pc := 95) d_X12_statement_95 f_12_103 (by decide) (by decide) (ty_120 hS.1.1) ?_
          refine Tr.tp 139 (fx_120_30 hS.1.1) ?_
          refine Tr.iload_n (pc := 98) (i := 2) d_X12_statement_98 rfl rfl ?_
          refine Tr.aload_n (pc := 99) (i := 0) d_X12_statement_99 rfl rfl ?_
          refine Tr.iconst (pc := 100) d_X12_statement_100 (by decide) ?_
          refine Tr.callV (pc := 101) (as := [_]) d_X12_statement_101 s_12_493 ok_X12_asked rfl rfl (Nat.le_of_ble_eq_true rfl) (Nat.le_of_ble_eq_true rfl) (by decide) (ty_120 hS.1.1) ?_
          refine Tr.imp (Tr.deep (by decide) (ns_X12_asked_120_w1 (G120_3 := s86_120_3) (G120_4 := s86_120_4) (G120_5 := s86_120_5) (G120_7 := s86_120_7) (G120_8 := s86_120_8) (G9010_0 := s86_9010_0) hS.1 (es86_120_3) (es86_120_4) (es86_120_5) (es86_120_7) (es86_120_8) (es86_9010_0) ((kp_X12_statement_120_w1_120_37 hS).trans en_120_37) 1 (by omega) (by first | exact (hd_o z86_0) | exact (hd_o z86_0).elim (fun h1 => by omega) (fun h1 => by omega)) (by omega) (by first | exact (hd_o z86_2) | exact (hd_o z86_2).elim (fun h1 => by omega) (fun h1 => h1.elim (fun h1 => by omega) (fun h1 => by omega))))) ?_
          rintro M101 _ ⟨h101, s101_120_3, s101_120_4, s101_120_5, s101_120_7, s101_120_8, s101_9010_0, es101_120_3, bs101_120_3, es101_120_4, bs101_120_4, es101_120_5, bs101_120_5, es101_120_7, bs101_120_7, es101_120_8, bs101_120_8, es101_9010_0, bs101_9010_0, r101, rfl, lr101, ur101, z101_0, z101_1, z101_2, z101_3, z101_4, z101_5, z101_6⟩
          have hS := St.tr hS h101 (by decide) (by decide)
          refine Tr.sc [(0, r101), (0, r68), (2, 139)] rfl ?_
          have kx_120_8 : rd M101 120 8 = s101_120_8 := es101_120_8
          refine Tr.iastS (pc := 104) (P := St Pm0 ws_X12_statement_120_w1 as_X12_statement_120_w1 M0) d_X12_statement_104 (ty_139 hS.1.1) (by omega) (by omega) (sa_139 hS (by decide) (by and_intros <;> omega) (Pm0_what hS.1.2.2.2.2 hS.1.2.1 (by omega) (by omega) (fun hf => by have hz : 1 ≤ s101_120_8 ∨ 0 ≤ r101 := (by exact (hd_o z101_6).elim (fun h1 => by omega) (fun h1 => by omega)); omega))) (fun M104 hS w104 => ?_)
          refine Tr.aload_n (pc := 105) (i := 0) d_X12_statement_105 rfl rfl ?_
          refine Tr.getf (pc := 106) d_X12_statement_106 f_12_36 (by decide) (by decide) (ty_120 hS.1.1) ?_
          refine Tr.tp s101_120_8 ((Wr.b w104 rfl).trans es101_120_8) ?_
          refine Tr.if_ne (pc := 109) (tgt := 118) d_X12_statement_109 rfl (fun c109 => ?_) (fun c109 => ?_)
          · have c109b : 1 ≤ s101_120_8 ∧ s101_120_8 ≤ 5 := by omega
            replace c109 := hd_i c109
            refine Tr.pick [1, 2, 0] (ls2 := [(0, (2, 120)), (1, (0, r1)), (2, (0, r68))]) rfl ?_
            obtain ⟨w118p109_120_6, ew118p109_120_6⟩ : ∃ v, rd M104 120 6 = v := ⟨_, rfl⟩
            have bw118p109_120_6 : (-2147483648) ≤ w118p109_120_6 ∧ w118p109_120_6 ≤ 2147483647 := by rw [← ew118p109_120_6]; exact ir_120_6 hS.1.2.1
            obtain ⟨w118p109_9003_0, ew118p109_9003_0⟩ : ∃ v, Dv0 M104 = v := ⟨_, rfl⟩
            have bw118p109_9003_0 : (-1000) ≤ w118p109_9003_0 ∧ w118p109_9003_0 ≤ 1000 := by rw [← ew118p109_9003_0]; exact (Dv0_b hS.1.2.1)
            exact J118 _ _ _ _ _ _ _ _ _ hS (by and_intros <;> omega) (by and_intros <;> omega) (by and_intros <;> omega) (by and_intros <;> omega) (by omega) (by and_intros <;> omega) (by and_intros <;> omega) (by and_intros <;> omega) ((Wr.b w104 rfl).trans es101_120_3) ((Wr.b w104 rfl).trans ((kp_X12_asked_120_w1_120_36 h101).trans ((kp_X12_next_120_w1_120_36 h86).trans ((Wr.b w84 rfl).trans ((kp_X12_spot_120_w1_120_36 h68).trans k49_120_36))))) ((Wr.b w104 rfl).trans es101_120_4) ((Wr.b w104 rfl).trans ((kp_X12_asked_120_w1_120_43 h101).trans ((kp_X12_next_120_w1_120_43 h86).trans ((Wr.b w84 rfl).trans ((kp_X12_spot_120_w1_120_43 h68).trans k49_120_43))))) ((Wr.b w104 rfl).trans ((kp_X12_asked_120_w1_120_44 h101).trans ((kp_X12_next_120_w1_120_44 h86).trans ((Wr.b w84 rfl).trans ((kp_X12_spot_120_w1_120_44 h68).trans k49_120_44))))) ((Wr.b w104 rfl).trans ((kp_X12_asked_120_w1_120_46 h101).trans ((kp_X12_next_120_w1_120_46 h86).trans ((Wr.b w84 rfl).trans ((kp_X12_spot_120_w1_120_46 h68).trans k49_120_46))))) ((Wr.b w104 rfl).trans ((kp_X12_asked_120_w1_120_47 h101).trans ((kp_X12_next_120_w1_120_47 h86).trans ((Wr.b w84 rfl).trans ((kp_X12_spot_120_w1_120_47 h68).trans k49_120_47))))) ((Wr.b w104 rfl).trans es101_120_5) ((Wr.b w104 rfl).trans ((kp_X12_asked_120_w1_120_50 h101).trans ((kp_X12_next_120_w1_120_50 h86).trans ((Wr.b w84 rfl).trans ((kp_X12_spot_120_w1_120_50 h68).trans k49_120_50))))) ew118p109_120_6 ((Wr.b w104 rfl).trans es101_120_7) ((Wr.b w104 rfl).trans es101_120_8) ((Wr.b w104 rfl).trans ((kp_X12_asked_120_w1_129_0 h101).trans ((kp_X12_next_120_w1_129_0 h86).trans w84.1))) ((Wr.b w104 rfl).trans ((kp_X12_asked_120_w1_136_0 h101).trans ((kp_X12_next_120_w1_136_0 h86).trans ((Wr.b w84 rfl).trans es68_136_0)))) ((Wr.b w104 rfl).trans ((ka_X12_asked_120_w1_137 h101 _).trans ((ka_X12_next_120_w1_137 h86 _).trans ((Wr.b w84 rfl).trans eds)))) ((nb2v_of (fun j => ((Wr.b w104 rfl).trans ((ka_X12_asked_120_w1_150 h101 _).trans ((ka_X12_next_120_w1_150 h86 _).trans ((Wr.b w84 rfl).trans ((ka_X12_spot_120_w1_150 h68 _).trans rfl)))))) ((Wr.b w104 rfl).trans ((kp_X12_asked_120_w1_120_46 h101).trans ((kp_X12_next_120_w1_120_46 h86).trans ((Wr.b w84 rfl).trans ((kp_X12_spot_120_w1_120_46 h68).trans rfl)))))).trans k49_9001_0) ((n4v_of (fun j => ((Wr.b w104 rfl).trans ((ka_X12_asked_120_w1_145 h101 _).trans ((ka_X12_next_120_w1_145 h86 _).trans ((Wr.b w84 rfl).trans ((ka_X12_spot_120_w1_145 h68 _).trans rfl)))))) ((Wr.b w104 rfl).trans ((kp_X12_asked_120_w1_120_43 h101).trans ((kp_X12_next_120_w1_120_43 h86).trans ((Wr.b w84 rfl).trans ((kp_X12_spot_120_w1_120_43 h68).trans rfl)))))).trans k49_9002_0) ew118p109_9003_0 ((fr0_of (fun j => ((Wr.b w104 rfl).trans ((ka_X12_asked_120_w1_145 h101 _).trans ((ka_X12_next_120_w1_145 h86 _).trans ((Wr.b w84 rfl).trans ((ka_X12_spot_120_w1_145 h68 _).trans rfl))))))).trans k49_9005_0) ((nwv_of (fun j => ((Wr.b w104 rfl).trans ((ka_X12_asked_120_w1_151 h101 _).trans ((ka_X12_next_120_w1_151 h86 _).trans ((Wr.b w84 rfl).trans ((ka_X12_spot_120_w1_151 h68 _).trans rfl)))))) ((Wr.b w104 rfl).trans ((kp_X12_asked_120_w1_120_50 h101).trans ((kp_X12_next_120_w1_120_50 h86).trans ((Wr.b w84 rfl).trans ((kp_X12_spot_120_w1_120_50 h68).trans rfl)))))).trans k49_9006_0) ((tav_of ((Wr.b w104 rfl).trans rfl) ((Wr.b w104 rfl).trans rfl)).trans es101_9010_0) (by first | exact (hd_o z101_0) | exact (hd_o z101_0).elim (fun h1 => by omega) (fun h1 => by omega)) (by omega) (by first | exact (hd_o z101_2) | exact (hd_o z101_2).elim (fun h1 => by omega) (fun h1 => h1.elim (fun h1 => by omega) (fun h1 => by omega))) (by and_intros <;> omega) (by omega) (by omega) (by omega) (by omega) (by omega) (by omega)
          · refine Tr.aload_n (pc := 112) (i := 0) d_X12_statement_112 rfl rfl ?_
            refine Tr.bipush (pc := 113) d_X12_statement_113 rfl (by decide) ?_
            refine Tr.callV (pc := 115) (as := [_]) d_X12_statement_115 s_12_529 ok_X12_must rfl rfl (Nat.le_of_ble_eq_true rfl) (Nat.le_of_ble_eq_true rfl) (by decide) (ty_120 hS.1.1) ?_
            refine Tr.imp (Tr.deep (by decide) (ns_X12_must_120_w1 (G120_3 := s101_120_3) (G120_4 := s101_120_4) (G120_5 := s101_120_5) (G120_7 := s101_120_7) (G120_8 := s101_120_8) (G9010_0 := s101_9010_0) hS.1 (((Wr.b w104 rfl).trans es101_120_3)) (((Wr.b w104 rfl).trans es101_120_4)) (((Wr.b w104 rfl).trans es101_120_5)) (((Wr.b w104 rfl).trans es101_120_7)) (((Wr.b w104 rfl).trans es101_120_8)) (((tav_of ((Wr.b w104 rfl).trans rfl) ((Wr.b w104 rfl).trans rfl)).trans es101_9010_0)) 61 (by omega) (by first | exact (hd_o z101_0) | exact (hd_o z101_0).elim (fun h1 => by omega) (fun h1 => by omega)) (by omega) (by first | exact (hd_o z101_2) | exact (hd_o z101_2).elim (fun h1 => by omega) (fun h1 => h1.elim (fun h1 => by omega) (fun h1 => by omega))))) ?_
            rintro M115 _ ⟨h115, s115_120_3, s115_120_4, s115_120_5, s115_120_7, s115_120_8, s115_9010_0, es115_120_3, bs115_120_3, es115_120_4, bs115_120_4, es115_120_5, bs115_120_5, es115_120_7, bs115_120_7, es115_120_8, bs115_120_8, es115_9010_0, bs115_9010_0, rfl, z115_0, z115_1, z115_2, z115_3, z115_4, z115_5⟩
            have hS := St.tr hS h115 (by decide) (by decide)
            refine Tr.sc [] rfl ?_
            refine Tr.pick [1, 2, 0] (ls2 := [(0, (2, 120)), (1, (0, r1)), (2, (0, r68))]) rfl ?_
            obtain ⟨w118p115_120_6, ew118p115_120_6⟩ : ∃ v, rd M115 120 6 = v := ⟨_, rfl⟩
            have bw118p115_120_6 : (-2147483648) ≤ w118p115_120_6 ∧ w118p115_120_6 ≤ 2147483647 := by rw [← ew118p115_120_6]; exact ir_120_6 hS.1.2.1
            obtain ⟨w118p115_9003_0, ew118p115_9003_0⟩ : ∃ v, Dv0 M115 = v := ⟨_, rfl⟩
            have bw118p115_9003_0 : (-1000) ≤ w118p115_9003_0 ∧ w118p115_9003_0 ≤ 1000 := by rw [← ew118p115_9003_0]; exact (Dv0_b hS.1.2.1)
            exact J118 _ _ _ _ _ _ _ _ _ hS (by and_intros <;> omega) (by and_intros <;> omega) (by and_intros <;> omega) (by and_intros <;> omega) (by omega) (by and_intros <;> omega) (by and_intros <;> omega) (by and_intros <;> omega) es115_120_3 ((kp_X12_must_120_w1_120_36 h115).trans ((Wr.b w104 rfl).trans ((kp_X12_asked_120_w1_120_36 h101).trans ((kp_X12_next_120_w1_120_36 h86).trans ((Wr.b w84 rfl).trans ((kp_X12_spot_120_w1_120_36 h68).trans k49_120_36)))))) es115_120_4 ((kp_X12_must_120_w1_120_43 h115).trans ((Wr.b w104 rfl).trans ((kp_X12_asked_120_w1_120_43 h101).trans ((kp_X12_next_120_w1_120_43 h86).trans ((Wr.b w84 rfl).trans ((kp_X12_spot_120_w1_120_43 h68).trans k49_120_43)))))) ((kp_X12_must_120_w1_120_44 h115).trans ((Wr.b w104 rfl).trans ((kp_X12_asked_120_w1_120_44 h101).trans ((kp_X12_next_120_w1_120_44 h86).trans ((Wr.b w84 rfl).trans ((kp_X12_spot_120_w1_120_44 h68).trans k49_120_44)))))) ((kp_X12_must_120_w1_120_46 h115).trans ((Wr.b w104 rfl).trans ((kp_X12_asked_120_w1_120_46 h101).trans ((kp_X12_next_120_w1_120_46 h86).trans ((Wr.b w84 rfl).trans ((kp_X12_spot_120_w1_120_46 h68).trans k49_120_46)))))) ((kp_X12_must_120_w1_120_47 h115).trans ((Wr.b w104 rfl).trans ((kp_X12_asked_120_w1_120_47 h101).trans ((kp_X12_next_120_w1_120_47 h86).trans ((Wr.b w84 rfl).trans ((kp_X12_spot_120_w1_120_47 h68).trans k49_120_47)))))) es115_120_5 ((kp_X12_must_120_w1_120_50 h115).trans ((Wr.b w104 rfl).trans ((kp_X12_asked_120_w1_120_50 h101).trans ((kp_X12_next_120_w1_120_50 h86).trans ((Wr.b w84 rfl).trans ((kp_X12_spot_120_w1_120_50 h68).trans k49_120_50)))))) ew118p115_120_6 es115_120_7 es115_120_8 ((kp_X12_must_120_w1_129_0 h115).trans ((Wr.b w104 rfl).trans ((kp_X12_asked_120_w1_129_0 h101).trans ((kp_X12_next_120_w1_129_0 h86).trans w84.1)))) ((kp_X12_must_120_w1_136_0 h115).trans ((Wr.b w104 rfl).trans ((kp_X12_asked_120_w1_136_0 h101).trans ((kp_X12_next_120_w1_136_0 h86).trans ((Wr.b w84 rfl).trans es68_136_0))))) ((ka_X12_must_120_w1_137 h115 _).trans ((Wr.b w104 rfl).trans ((ka_X12_asked_120_w1_137 h101 _).trans ((ka_X12_next_120_w1_137 h86 _).trans ((Wr.b w84 rfl).trans eds))))) ((nb2v_of (fun j => ((ka_X12_must_120_w1_150 h115 _).trans ((Wr.b w104 rfl).trans ((ka_X12_asked_120_w1_150 h101 _).trans ((ka_X12_next_120_w1_150 h86 _).trans ((Wr.b w84 rfl).trans ((ka_X12_spot_120_w1_150 h68 _).trans rfl))))))) ((kp_X12_must_120_w1_120_46 h115).trans ((Wr.b w104 rfl).trans ((kp_X12_asked_120_w1_120_46 h101).trans ((kp_X12_next_120_w1_120_46 h86).trans ((Wr.b w84 rfl).trans ((kp_X12_spot_120_w1_120_46 h68).trans rfl))))))).trans k49_9001_0) ((n4v_of (fun j => ((ka_X12_must_120_w1_145 h115 _).trans ((Wr.b w104 rfl).trans ((ka_X12_asked_120_w1_145 h101 _).trans ((ka_X12_next_120_w1_145 h86 _).trans ((Wr.b w84 rfl).trans ((ka_X12_spot_120_w1_145 h68 _).trans rfl))))))) ((kp_X12_must_120_w1_120_43 h115).trans ((Wr.b w104 rfl).trans ((kp_X12_asked_120_w1_120_43 h101).trans ((kp_X12_next_120_w1_120_43 h86).trans ((Wr.b w84 rfl).trans ((kp_X12_spot_120_w1_120_43 h68).trans rfl))))))).trans k49_9002_0) ew118p115_9003_0 ((fr0_of (fun j => ((ka_X12_must_120_w1_145 h115 _).trans ((Wr.b w104 rfl).trans ((ka_X12_asked_120_w1_145 h101 _).trans ((ka_X12_next_120_w1_145 h86 _).trans ((Wr.b w84 rfl).trans ((ka_X12_spot_120_w1_145 h68 _).trans rfl)))))))).trans k49_9005_0) ((nwv_of (fun j => ((ka_X12_must_120_w1_151 h115 _).trans ((Wr.b w104 rfl).trans ((ka_X12_asked_120_w1_151 h101 _).trans ((ka_X12_next_120_w1_151 h86 _).trans ((Wr.b w84 rfl).trans ((ka_X12_spot_120_w1_151 h68 _).trans rfl))))))) ((kp_X12_must_120_w1_120_50 h115).trans ((Wr.b w104 rfl).trans ((kp_X12_asked_120_w1_120_50 h101).trans ((kp_X12_next_120_w1_120_50 h86).trans ((Wr.b w84 rfl).trans ((kp_X12_spot_120_w1_120_50 h68).trans rfl))))))).trans k49_9006_0) es115_9010_0 (by first | exact (hd_o z115_0) | exact (hd_o z115_0).elim (fun h1 => by omega) (fun h1 => by omega)) (by omega) (by first | exact (hd_o z115_2) | exact (hd_o z115_2).elim (fun h1 => by omega) (fun h1 => h1.elim (fun h1 => by omega) (fun h1 => by omega))) (by and_intros <;> omega) (by omega) (by exact (hd_o z115_5).elim (fun h1 => by omega) (fun h1 => by omega)) (by omega) (by omega) (by omega) (by omega)
      · have kr_120_3 : rd M 120 3 = g120_3 := k49_120_3
        have kr_120_4 : rd M 120 4 = g120_4 := k49_120_4
        have kr_120_5 : rd M 120 5 = g120_5 := k49_120_5
        have kr_120_7 : rd M 120 7 = g120_7 := k49_120_7
        have kr_120_8 : rd M 120 8 = u49_120_8 := k49_120_8
        have kr_120_36 : rd M 120 36 = g120_36 := k49_120_36
        have kr_120_44 : rd M 120 44 = g120_44 := k49_120_44
        have kr_120_50 : rd M 120 50 = g120_50 := k49_120_50
        have kr_129_0 : rd M 129 0 = g129_0 := k49_129_0
        have kr_136_0 : rd M 136 0 = g136_0 := k49_136_0
        have kr_9006_0 : nwv M = g9006_0 := k49_9006_0
        have kr_9010_0 : tav M = g9010_0 := k49_9010_0
        exact Tr.vret (pc := 56) d_X12_statement_56 rfl ⟨hS, rfl, (by first | exact (hd_o hq0) | exact (hd_o hq0).elim (fun h1 => by omega) (fun h1 => by omega)), (by omega), (by first | exact (hd_o hq2) | exact (hd_o hq2).elim (fun h1 => by omega) (fun h1 => h1.elim (fun h1 => by omega) (fun h1 => by omega))), (by and_intros <;> omega), (by omega), (by omega), (by omega), (by omega), (by omega)⟩
    refine Tr.if_ne (pc := 23) (tgt := 49) d_X12_statement_23 rfl (fun c23 => ?_) (fun c23 => ?_)
    · have c23b : 1 ≤ u19_120_8 ∧ u19_120_8 ≤ 5 := by omega
      replace c23 := hd_i c23
      refine Tr.pick [0, 1] (ls2 := [(0, (2, 120)), (1, (0, r1))]) rfl ?_
      exact J49 _ _ hS (by and_intros <;> omega) k19_120_3 k19_120_36 k19_120_4 k19_120_43 k19_120_44 k19_120_46 k19_120_47 k19_120_5 k19_120_50 k19_120_6 k19_120_7 k19_120_8 k19_129_0 k19_136_0 k19_9001_0 k19_9002_0 k19_9003_0 k19_9005_0 k19_9006_0 k19_9010_0 (by first | exact (hd_o t19_0) | exact (hd_o t19_0).elim (fun h1 => by omega) (fun h1 => by omega)) (by omega)
    · refine Tr.aload_n (pc := 26) (i := 0) d_X12_statement_26 rfl rfl ?_
      refine Tr.getf (pc := 27) d_X12_statement_27 f_12_72 (by decide) (by decide) (ty_120 hS.1.1) ?_
      refine Tr.tp 129 (fx_120_20 hS.1.1) ?_
      refine Tr.aload_n (pc := 30) (i := 0) d_X12_statement_30 rfl rfl ?_
      refine Tr.getf (pc := 31) d_X12_statement_31 f_12_124 (by decide) (by decide) (ty_120 hS.1.1) ?_
      refine Tr.tp 0 ((kp_X12_statement_120_w1_120_37 hS).trans en_120_37) ?_
      refine Tr.iald (pc := 34) d_X12_statement_34 (ty_129 hS.1.1) (by omega) (by omega) ?_
      refine Tr.tp g129_0 k19_129_0 ?_
      refine Tr.bipush (pc := 35) d_X12_statement_35 rfl (by decide) ?_
      refine Tr.icmp_ne (pc := 37) (tgt := 49) d_X12_statement_37 rfl (fun c37 => ?_) (fun c37 => ?_)
      · have c37b : 0 ≤ g129_0 ∧ g129_0 ≤ 59 := by omega
        replace c37 := hd_i c37
        refine Tr.pick [0, 1] (ls2 := [(0, (2, 120)), (1, (0, r1))]) rfl ?_
        exact J49 _ _ hS (by and_intros <;> omega) k19_120_3 k19_120_36 k19_120_4 k19_120_43 k19_120_44 k19_120_46 k19_120_47 k19_120_5 k19_120_50 k19_120_6 k19_120_7 k19_120_8 k19_129_0 k19_136_0 k19_9001_0 k19_9002_0 k19_9003_0 k19_9005_0 k19_9006_0 k19_9010_0 (by first | exact (hd_o t19_0) | exact (hd_o t19_0).elim (fun h1 => by omega) (fun h1 => by omega)) (by omega)
      · refine Tr.aload_n (pc := 40) (i := 0) d_X12_statement_40 rfl rfl ?_
        refine Tr.iconst (pc := 41) d_X12_statement_41 (by decide) ?_
        refine Tr.aload_n (pc := 42) (i := 0) d_X12_statement_42 rfl rfl ?_
        refine Tr.getf (pc := 43) d_X12_statement_43 f_12_23 (by decide) (by decide) (ty_120 hS.1.1) ?_
        refine Tr.tp g120_4 k19_120_4 ?_
        refine Tr.callV (pc := 46) (as := [_, _]) d_X12_statement_46 s_12_389 ok_X12_blame rfl rfl (Nat.le_of_ble_eq_true rfl) (Nat.le_of_ble_eq_true rfl) (by decide) (ty_120 hS.1.1) ?_
        refine Tr.imp (Tr.deep (by decide) (ns_X12_blame_120_w1 (G120_8 := u19_120_8) hS.1 (k19_120_8) 5 (by omega) g120_4 (by and_intros <;> omega))) ?_
        rintro M46 _ ⟨h46, s46_120_8, es46_120_8, bs46_120_8, rfl, z46_0⟩
        have hS := St.tr hS h46 (by decide) (by decide)
        refine Tr.sc [] rfl ?_
        refine Tr.pick [0, 1] (ls2 := [(0, (2, 120)), (1, (0, r1))]) rfl ?_
        exact J49 _ _ hS (by and_intros <;> omega) ((kp_X12_blame_120_w1_120_3 h46).trans k19_120_3) ((kp_X12_blame_120_w1_120_36 h46).trans k19_120_36) ((kp_X12_blame_120_w1_120_4 h46).trans k19_120_4) ((kp_X12_blame_120_w1_120_43 h46).trans k19_120_43) ((kp_X12_blame_120_w1_120_44 h46).trans k19_120_44) ((kp_X12_blame_120_w1_120_46 h46).trans k19_120_46) ((kp_X12_blame_120_w1_120_47 h46).trans k19_120_47) ((kp_X12_blame_120_w1_120_5 h46).trans k19_120_5) ((kp_X12_blame_120_w1_120_50 h46).trans k19_120_50) ((kp_X12_blame_120_w1_120_6 h46).trans k19_120_6) ((kp_X12_blame_120_w1_120_7 h46).trans k19_120_7) es46_120_8 ((kp_X12_blame_120_w1_129_0 h46).trans k19_129_0) ((kp_X12_blame_120_w1_136_0 h46).trans k19_136_0) ((nb2v_of (fun j => ((ka_X12_blame_120_w1_150 h46 _).trans rfl)) ((kp_X12_blame_120_w1_120_46 h46).trans rfl)).trans k19_9001_0) ((n4v_of (fun j => ((ka_X12_blame_120_w1_145 h46 _).trans rfl)) ((kp_X12_blame_120_w1_120_43 h46).trans rfl)).trans k19_9002_0) ((Dv0_of (fun j => ((ka_X12_blame_120_w1_143 h46 _).trans rfl)) (fun j => ((ka_X12_blame_120_w1_140 h46 _).trans rfl)) ((kp_X12_blame_120_w1_136_0 h46).trans rfl) ((kp_X12_blame_120_w1_120_36 h46).trans rfl)).trans k19_9003_0) ((fr0_of (fun j => ((ka_X12_blame_120_w1_145 h46 _).trans rfl))).trans k19_9005_0) ((nwv_of (fun j => ((ka_X12_blame_120_w1_151 h46 _).trans rfl)) ((kp_X12_blame_120_w1_120_50 h46).trans rfl)).trans k19_9006_0) ((tav_of ((kp_X12_blame_120_w1_120_5 h46).trans rfl) ((kp_X12_blame_120_w1_120_3 h46).trans rfl)).trans k19_9010_0) (by exact (hd_o z46_0).elim (fun h1 => by omega) (fun h1 => by omega)) (by exact (hd_o z46_0).elim (fun h1 => by omega) (fun h1 => by omega))
  refine Tr.icmp_ne (pc := 7) (tgt := 19) d_X12_statement_7 rfl (fun c7 => ?_) (fun c7 => ?_)
  · have c7b : 0 ≤ r1 ∧ r1 ≤ 8 := by omega
    replace c7 := hd_i c7
    refine Tr.pick [1, 0] (ls2 := [(0, (2, 120)), (1, (0, r1))]) rfl ?_
    exact J19 _ _ hS (by and_intros <;> omega) ((kp_X12_order_120_120_3 h1).trans eg120_3) ((kp_X12_order_120_120_36 h1).trans eg120_36) ((kp_X12_order_120_120_4 h1).trans eg120_4) ((kp_X12_order_120_120_43 h1).trans eg120_43) ((kp_X12_order_120_120_44 h1).trans eg120_44) ((kp_X12_order_120_120_46 h1).trans eg120_46) ((kp_X12_order_120_120_47 h1).trans eg120_47) ((kp_X12_order_120_120_5 h1).trans eg120_5) ((kp_X12_order_120_120_50 h1).trans eg120_50) ((kp_X12_order_120_120_6 h1).trans eg120_6) ((kp_X12_order_120_120_7 h1).trans eg120_7) ((kp_X12_order_120_120_8 h1).trans eg120_8) ((kp_X12_order_120_129_0 h1).trans eg129_0) ((kp_X12_order_120_136_0 h1).trans eg136_0) ((nb2v_of (fun j => ((ka_X12_order_120_150 h1 _).trans rfl)) ((kp_X12_order_120_120_46 h1).trans rfl)).trans eg9001_0) ((n4v_of (fun j => ((ka_X12_order_120_145 h1 _).trans rfl)) ((kp_X12_order_120_120_43 h1).trans rfl)).trans eg9002_0) ((Dv0_of (fun j => ((ka_X12_order_120_143 h1 _).trans rfl)) (fun j => ((ka_X12_order_120_140 h1 _).trans rfl)) ((kp_X12_order_120_136_0 h1).trans rfl) ((kp_X12_order_120_120_36 h1).trans rfl)).trans eg9003_0) ((fr0_of (fun j => ((ka_X12_order_120_145 h1 _).trans rfl))).trans eg9005_0) ((nwv_of (fun j => ((ka_X12_order_120_151 h1 _).trans rfl)) ((kp_X12_order_120_120_50 h1).trans rfl)).trans eg9006_0) ((tav_of ((kp_X12_order_120_120_5 h1).trans rfl) ((kp_X12_order_120_120_3 h1).trans rfl)).trans eg9010_0) (by exact (hd_o z1_0).elim (fun h1 => by omega) (fun h1 => by omega))
  · refine Tr.aload_n (pc := 10) (i := 0) d_X12_statement_10 rfl rfl ?_
    refine Tr.iconst (pc := 11) d_X12_statement_11 (by decide) ?_
    refine Tr.aload_n (pc := 12) (i := 0) d_X12_statement_12 rfl rfl ?_
    refine Tr.getf (pc := 13) d_X12_statement_13 f_12_23 (by decide) (by decide) (ty_120 hS.1.1) ?_
    refine Tr.tp g120_4 ((kp_X12_order_120_120_4 h1).trans eg120_4) ?_
    refine Tr.callV (pc := 16) (as := [_, _]) d_X12_statement_16 s_12_389 ok_X12_blame rfl rfl (Nat.le_of_ble_eq_true rfl) (Nat.le_of_ble_eq_true rfl) (by decide) (ty_120 hS.1.1) ?_
    refine Tr.imp (Tr.deep (by decide) (ns_X12_blame_120_w1 (G120_8 := g120_8) hS.1 (((kp_X12_order_120_120_8 h1).trans eg120_8)) 1 (by omega) g120_4 (by and_intros <;> omega))) ?_
    rintro M16 _ ⟨h16, s16_120_8, es16_120_8, bs16_120_8, rfl, z16_0⟩
    have hS := St.tr hS h16 (by decide) (by decide)
    refine Tr.sc [] rfl ?_
    refine Tr.pick [1, 0] (ls2 := [(0, (2, 120)), (1, (0, r1))]) rfl ?_
    exact J19 _ _ hS (by and_intros <;> omega) ((kp_X12_blame_120_w1_120_3 h16).trans ((kp_X12_order_120_120_3 h1).trans eg120_3)) ((kp_X12_blame_120_w1_120_36 h16).trans ((kp_X12_order_120_120_36 h1).trans eg120_36)) ((kp_X12_blame_120_w1_120_4 h16).trans ((kp_X12_order_120_120_4 h1).trans eg120_4)) ((kp_X12_blame_120_w1_120_43 h16).trans ((kp_X12_order_120_120_43 h1).trans eg120_43)) ((kp_X12_blame_120_w1_120_44 h16).trans ((kp_X12_order_120_120_44 h1).trans eg120_44)) ((kp_X12_blame_120_w1_120_46 h16).trans ((kp_X12_order_120_120_46 h1).trans eg120_46)) ((kp_X12_blame_120_w1_120_47 h16).trans ((kp_X12_order_120_120_47 h1).trans eg120_47)) ((kp_X12_blame_120_w1_120_5 h16).trans ((kp_X12_order_120_120_5 h1).trans eg120_5)) ((kp_X12_blame_120_w1_120_50 h16).trans ((kp_X12_order_120_120_50 h1).trans eg120_50)) ((kp_X12_blame_120_w1_120_6 h16).trans ((kp_X12_order_120_120_6 h1).trans eg120_6)) ((kp_X12_blame_120_w1_120_7 h16).trans ((kp_X12_order_120_120_7 h1).trans eg120_7)) es16_120_8 ((kp_X12_blame_120_w1_129_0 h16).trans ((kp_X12_order_120_129_0 h1).trans eg129_0)) ((kp_X12_blame_120_w1_136_0 h16).trans ((kp_X12_order_120_136_0 h1).trans eg136_0)) ((nb2v_of (fun j => ((ka_X12_blame_120_w1_150 h16 _).trans ((ka_X12_order_120_150 h1 _).trans rfl))) ((kp_X12_blame_120_w1_120_46 h16).trans ((kp_X12_order_120_120_46 h1).trans rfl))).trans eg9001_0) ((n4v_of (fun j => ((ka_X12_blame_120_w1_145 h16 _).trans ((ka_X12_order_120_145 h1 _).trans rfl))) ((kp_X12_blame_120_w1_120_43 h16).trans ((kp_X12_order_120_120_43 h1).trans rfl))).trans eg9002_0) ((Dv0_of (fun j => ((ka_X12_blame_120_w1_143 h16 _).trans ((ka_X12_order_120_143 h1 _).trans rfl))) (fun j => ((ka_X12_blame_120_w1_140 h16 _).trans ((ka_X12_order_120_140 h1 _).trans rfl))) ((kp_X12_blame_120_w1_136_0 h16).trans ((kp_X12_order_120_136_0 h1).trans rfl)) ((kp_X12_blame_120_w1_120_36 h16).trans ((kp_X12_order_120_120_36 h1).trans rfl))).trans eg9003_0) ((fr0_of (fun j => ((ka_X12_blame_120_w1_145 h16 _).trans ((ka_X12_order_120_145 h1 _).trans rfl)))).trans eg9005_0) ((nwv_of (fun j => ((ka_X12_blame_120_w1_151 h16 _).trans ((ka_X12_order_120_151 h1 _).trans rfl))) ((kp_X12_blame_120_w1_120_50 h16).trans ((kp_X12_order_120_120_50 h1).trans rfl))).trans eg9006_0) ((tav_of ((kp_X12_blame_120_w1_120_5 h16).trans ((kp_X12_order_120_120_5 h1).trans rfl)) ((kp_X12_blame_120_w1_120_3 h16).trans ((kp_X12_order_120_120_3 h1).trans rfl))).trans eg9010_0) (by exact (hd_o z16_0).elim (fun h1 => by omega) (fun h1 => by omega))
