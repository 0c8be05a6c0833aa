/-! 40.14 -/
section
set_option maxRecDepth 100000 in
set_option maxHeartbeats 4000000 in
theorem ns_X12_statement_120_w1 {l : Launch} {K : EC} {M0 : Mem} {G120_3 G120_4 G120_5 G120_7 G120_8 G120_36 G120_44 G120_50 G129_0 G136_0 G9006_0 G9010_0 : Int} (hI : In Pm0 M0) (k120_3 : rd M0 120 3 = G120_3) (k120_4 : rd M0 120 4 = G120_4) (k120_5 : rd M0 120 5 = G120_5) (k120_7 : rd M0 120 7 = G120_7) (k120_8 : rd M0 120 8 = G120_8) (k120_36 : rd M0 120 36 = G120_36) (k120_44 : rd M0 120 44 = G120_44) (k120_50 : rd M0 120 50 = G120_50) (k129_0 : rd M0 129 0 = G129_0) (k136_0 : rd M0 136 0 = G136_0) (k9006_0 : nwv M0 = G9006_0) (k9010_0 : tav M0 = G9010_0) (en_120_37 : rd M0 120 37 = 0)   (hq0 : G120_3 = 0 ∨ G120_4 + 1 ≤ G120_5) (hq1 : G120_4 ≤ G120_5) (hq2 : G120_3 ≠ 1 ∨ G120_4 + 2 ≤ G120_5 ∨ G120_7 < 256) (hq3 : G120_8 = 0) (hq4 : G120_50 ≤ G120_44) (hq5 : G136_0 + G9006_0 ≤ 2 * G129_0) (hq6 : G120_36 + G120_44 ≤ G120_4) : Tr l K 5 mX12_statement 0 [(0, (2, 120))] [] M0 (fun M' r => St Pm0 ws_X12_statement_120_w1 as_X12_statement_120_w1 M0 M' ∧ ∃ S120_3 S120_4 S120_5 S120_7 S120_8 S120_36 S120_44 S120_50 S129_0 S136_0 S9006_0 S9010_0 : Int, rd M' 120 3 = S120_3 ∧ (0 ≤ S120_3 ∧ S120_3 ≤ 3) ∧ rd M' 120 4 = S120_4 ∧ (0 ≤ S120_4 ∧ S120_4 ≤ 900) ∧ rd M' 120 5 = S120_5 ∧ (0 ≤ S120_5 ∧ S120_5 ≤ 900) ∧ rd M' 120 7 = S120_7 ∧ ((-9223372036854775808) ≤ S120_7 ∧ S120_7 ≤ 9223372036854775807) ∧ rd M' 120 8 = S120_8 ∧ (0 ≤ S120_8 ∧ S120_8 ≤ 5) ∧ rd M' 120 36 = S120_36 ∧ (0 ≤ S120_36 ∧ S120_36 ≤ 900) ∧ rd M' 120 44 = S120_44 ∧ (0 ≤ S120_44 ∧ S120_44 ≤ 8) ∧ rd M' 120 50 = S120_50 ∧ (0 ≤ S120_50 ∧ S120_50 ≤ 20) ∧ rd M' 129 0 = S129_0 ∧ (0 ≤ S129_0 ∧ S129_0 ≤ 60) ∧ rd M' 136 0 = S136_0 ∧ (0 ≤ S136_0 ∧ S136_0 ≤ 200) ∧ nwv M' = S9006_0 ∧ (0 ≤ S9006_0 ∧ S9006_0 ≤ 20) ∧ tav M' = S9010_0 ∧ ((-1) ≤ S9010_0 ∧ S9010_0 ≤ 1800) ∧ r = none ∧ Hd (S120_3 = 0 ∨ S120_4 + 1 ≤ S120_5) ∧ (S120_4 ≤ S120_5) ∧ Hd (S120_3 ≠ 1 ∨ S120_4 + 2 ≤ S120_5 ∨ S120_7 < 256) ∧ (G120_4 ≤ S120_4 ∧ G120_5 ≤ S120_5 ∧ G9010_0 ≤ S9010_0) ∧ Hd (G120_8 = 0 ∨ S120_8 = G120_8) ∧ Hd (1 ≤ S120_8 ∨ G9010_0 < S9010_0) ∧ Hd (1 ≤ S120_8 ∨ S136_0 + S9006_0 ≤ 2 * S129_0) ∧ (S120_50 ≤ S120_44) ∧ (S120_36 + S120_44 ≤ S120_4)) := by
  subst k120_3
  subst k120_4
  subst k120_5
  subst k120_7
  subst k120_8
  subst k120_36
  subst k120_44
  subst k120_50
  subst k129_0
  subst k136_0
  subst k9006_0
  subst k9010_0
  refine Tr.imp (sp_X12_statement_120_w1 hI en_120_37 hq0 hq1 hq2 hq3 hq4 hq5 hq6) ?_
  rintro M' _ ⟨hS, rfl, z0, z1, z2, z3, z4, z5, z6, z7, z8⟩
  exact ⟨hS, _, _, _, _, _, _, _, _, _, _, _, _, rfl, ir_120_3 hS.1.2.1, rfl, ir_120_4 hS.1.2.1, rfl, ir_120_5 hS.1.2.1, rfl, ir_120_7 hS.1.2.1, rfl, ir_120_8 hS.1.2.1, rfl, ir_120_36 hS.1.2.1, rfl, ir_120_44 hS.1.2.1, rfl, ir_120_50 hS.1.2.1, rfl, ir_129_0 hS.1.2.1, rfl, ir_136_0 hS.1.2.1, rfl, (nwv_b hS.1.2.1), rfl, (tav_b hS.1.2.1), rfl, hd_i z0, z1, hd_i z2, z3, hd_i z4, hd_i z5, hd_i z6, z7, z8⟩

def ws_X12_closesBlock_120_w1 : List (Int × Int) := [(120, 3), (120, 4), (120, 5), (120, 6), (120, 7), (120, 8), (120, 9), (120, 44), (120, 50), (136, 0)]
def as_X12_closesBlock_120_w1 : List Int := [137, 138, 139, 140, 141, 142, 151, 152]
def q_X12_closesBlock_120_w1 (M0 M' : Mem) (r : Option PV) : Prop := St Pm0 ws_X12_closesBlock_120_w1 as_X12_closesBlock_120_w1 M0 M' ∧ r = none ∧ (rd M' 120 3 = 0 ∨ rd M' 120 4 + 1 ≤ rd M' 120 5) ∧ (rd M' 120 4 ≤ rd M' 120 5) ∧ (rd M' 120 3 ≠ 1 ∨ rd M' 120 4 + 2 ≤ rd M' 120 5 ∨ rd M' 120 7 < 256) ∧ (rd M0 120 4 ≤ rd M' 120 4 ∧ rd M0 120 5 ≤ rd M' 120 5 ∧ tav M0 ≤ tav M') ∧ (rd M0 120 8 = 0 ∨ rd M' 120 8 = rd M0 120 8) ∧ (1 ≤ rd M' 120 8 ∨ tav M0 < tav M') ∧ (rd M' 120 50 ≤ rd M' 120 44) ∧ (rd M' 136 0 + nwv M' ≤ 2 * rd M' 129 0) ∧ (rd M' 120 36 + rd M' 120 44 ≤ rd M' 120 4)
theorem kp_X12_closesBlock_120_w1_120_37 {q : Mem → Prop} {M0 M : Mem} (h : St q ws_X12_closesBlock_120_w1 as_X12_closesBlock_120_w1 M0 M) : rd M 120 37 = rd M0 120 37 := St.kp h (by decide) (by decide) (by decide)
theorem kp_X12_isWord_120_129_0 {q : Mem → Prop} {M0 M : Mem} (h : St q ws_X12_isWord_120 as_X12_isWord_120 M0 M) : rd M 129 0 = rd M0 129 0 := St.kp h (by decide) (by decide) (by decide)
theorem ka_X12_next_120_w1_152 {q : Mem → Prop} {M0 M : Mem} (h : St q ws_X12_next_120_w1 as_X12_next_120_w1 M0 M) (j : Int) : rd M 152 j = rd M0 152 j := St.ka h (by decide) (by decide) (by decide)
theorem kp_X12_spot_120_w1_120_4 {q : Mem → Prop} {M0 M : Mem} (h : St q ws_X12_spot_120_w1 as_X12_spot_120_w1 M0 M) : rd M 120 4 = rd M0 120 4 := St.kp h (by decide) (by decide) (by decide)
theorem kp_X12_spot_120_w1_120_7 {q : Mem → Prop} {M0 M : Mem} (h : St q ws_X12_spot_120_w1 as_X12_spot_120_w1 M0 M) : rd M 120 7 = rd M0 120 7 := St.kp h (by decide) (by decide) (by decide)
theorem ka_X12_spot_120_w1_152 {q : Mem → Prop} {M0 M : Mem} (h : St q ws_X12_spot_120_w1 as_X12_spot_120_w1 M0 M) (j : Int) : rd M 152 j = rd M0 152 j := St.ka h (by decide) (by decide) (by decide)
set_option maxRecDepth 100000 in
set_option maxHeartbeats 4000000 in
theorem sp_X12_closesBlock_120_w1 {l : Launch} {K : EC} {M0 : Mem} (hI : In Pm0 M0) (en_120_37 : rd M0 120 37 = 0)   (hq0 : rd M0 120 3 = 0 ∨ rd M0 120 4 + 1 ≤ rd M0 120 5) (hq1 : rd M0 120 4 ≤ rd M0 120 5) (hq2 : rd M0 120 3 ≠ 1 ∨ rd M0 120 4 + 2 ≤ rd M0 120 5 ∨ rd M0 120 7 < 256) (hq3 : 1 ≤ rd M0 120 50) (hq4 : rd M0 120 50 ≤ rd M0 120 44) (hq5 : rd M0 136 0 + nwv M0 ≤ 2 * rd M0 129 0) (hq6 : rd M0 120 3 ≠ 0) (hq7 : rd M0 120 36 + rd M0 120 44 ≤ rd M0 120 4) (hq8 : rd M0 120 8 = 0) : Tr l K 3 mX12_closesBlock 0 [(0, (2, 120))] [] M0 (q_X12_closesBlock_120_w1 M0) := by
  have hS : St Pm0 ws_X12_closesBlock_120_w1 as_X12_closesBlock_120_w1 M0 M0 := St.rf hI
  obtain ⟨g120_8, eg120_8⟩ : ∃ v, rd M0 120 8 = v := ⟨_, rfl⟩
  have bg120_8 : 0 ≤ g120_8 ∧ g120_8 ≤ 5 := by rw [← eg120_8]; exact ir_120_8 hI.2.1
  obtain ⟨g120_3, eg120_3⟩ : ∃ v, rd M0 120 3 = v := ⟨_, rfl⟩
  have bg120_3 : 0 ≤ g120_3 ∧ g120_3 ≤ 3 := by rw [← eg120_3]; exact ir_120_3 hI.2.1
  obtain ⟨g120_4, eg120_4⟩ : ∃ v, rd M0 120 4 = v := ⟨_, rfl⟩
  have bg120_4 : 0 ≤ g120_4 ∧ g120_4 ≤ 900 := by rw [← eg120_4]; exact ir_120_4 hI.2.1
  obtain ⟨g120_5, eg120_5⟩ : ∃ v, rd M0 120 5 = v := ⟨_, rfl⟩
  have bg120_5 : 0 ≤ g120_5 ∧ g120_5 ≤ 900 := by rw [← eg120_5]; exact ir_120_5 hI.2.1
  obtain ⟨g120_7, eg120_7⟩ : ∃ v, rd M0 120 7 = v := ⟨_, rfl⟩
  have bg120_7 : (-9223372036854775808) ≤ g120_7 ∧ g120_7 ≤ 9223372036854775807 := by rw [← eg120_7]; exact ir_120_7 hI.2.1
  obtain ⟨g9010_0, eg9010_0⟩ : ∃ v, tav M0 = v := ⟨_, rfl⟩
  have bg9010_0 : (-1) ≤ g9010_0 ∧ g9010_0 ≤ 1800 := by rw [← eg9010_0]; exact (tav_b hI.2.1)
  obtain ⟨g120_44, eg120_44⟩ : ∃ v, rd M0 120 44 = v := ⟨_, rfl⟩
  have bg120_44 : 0 ≤ g120_44 ∧ g120_44 ≤ 8 := by rw [← eg120_44]; exact ir_120_44 hI.2.1
  obtain ⟨g120_50, eg120_50⟩ : ∃ v, rd M0 120 50 = v := ⟨_, rfl⟩
  have bg120_50 : 0 ≤ g120_50 ∧ g120_50 ≤ 20 := by rw [← eg120_50]; exact ir_120_50 hI.2.1
  obtain ⟨g136_0, eg136_0⟩ : ∃ v, rd M0 136 0 = v := ⟨_, rfl⟩
  have bg136_0 : 0 ≤ g136_0 ∧ g136_0 ≤ 200 := by rw [← eg136_0]; exact ir_136_0 hI.2.1
  obtain ⟨g9006_0, eg9006_0⟩ : ∃ v, nwv M0 = v := ⟨_, rfl⟩
  have bg9006_0 : 0 ≤ g9006_0 ∧ g9006_0 ≤ 20 := by rw [← eg9006_0]; exact (nwv_b hI.2.1)
  obtain ⟨g120_36, eg120_36⟩ : ∃ v, rd M0 120 36 = v := ⟨_, rfl⟩
  have bg120_36 : 0 ≤ g120_36 ∧ g120_36 ≤ 900 := by rw [← eg120_36]; exact ir_120_36 hI.2.1
  obtain ⟨g129_0, eg129_0⟩ : ∃ v, rd M0 129 0 = v := ⟨_, rfl⟩
  have bg129_0 : 0 ≤ g129_0 ∧ g129_0 ≤ 60 := by rw [← eg129_0]; exact ir_129_0 hI.2.1
  replace hq0 := hd_i hq0
  replace hq2 := hd_i hq2
  replace hq6 := hd_i hq6
  refine Tr.aload_n (pc := 0) (i := 0) d_X12_closesBlock_0 rfl rfl ?_
  refine Tr.dup (pc := 1) d_X12_closesBlock_1 ne21 ?_
  refine Tr.getf (pc := 2) d_X12_closesBlock_2 f_12_146 (by decide) (by decide) (ty_120 hS.1.1) ?_
  refine Tr.tp g120_44 eg120_44 ?_
  refine Tr.iconst (pc := 5) d_X12_closesBlock_5 (by decide) ?_
  refine Tr.isub (pc := 6) d_X12_closesBlock_6 ?_
  refine Tr.tp (g120_44 - 1) ((w32_id (by and_intros <;> omega)).trans (by omega)) ?_
  refine Tr.putfS (pc := 7) (P := St Pm0 ws_X12_closesBlock_120_w1 as_X12_closesBlock_120_w1 M0) d_X12_closesBlock_7 f_12_146 (by decide) (by decide) (ty_120 hS.1.1) (st_120_44 hS (by decide) (by and_intros <;> omega) (Pm0.of hS.1.2.2.2.2 (fun _ => rd_wb _ rfl) (fun _ => rd_wb _ rfl) (fun _ => rd_wb _ rfl) (fun _ => rd_wb _ rfl) (fun _ => rd_wb _ rfl) (fun _ => rd_wb _ rfl) (fun _ => rd_wb _ rfl) (fun _ => rd_wb _ rfl) (fun _ => rd_wb _ rfl) (fun _ => rd_wb _ rfl) (rd_wb _ rfl) (rd_wb _ rfl) (rd_wb _ rfl) (rd_wb _ rfl) (rd_wb _ rfl) (rd_wb _ rfl) (rd_wb _ rfl) (rd_wb _ rfl) (rd_wb _ rfl) (rd_wb _ rfl) (rd_wb _ rfl))) (fun M7 hS w7 => ?_)
  refine Tr.aload_n (pc := 10) (i := 0) d_X12_closesBlock_10 rfl rfl ?_
  refine Tr.dup (pc := 11) d_X12_closesBlock_11 ne21 ?_
  refine Tr.getf (pc := 12) d_X12_closesBlock_12 f_12_165 (by decide) (by decide) (ty_120 hS.1.1) ?_
  refine Tr.tp g120_50 ((Wr.b w7 rfl).trans eg120_50) ?_
  refine Tr.iconst (pc := 15) d_X12_closesBlock_15 (by decide) ?_
  refine Tr.isub (pc := 16) d_X12_closesBlock_16 ?_
  refine Tr.tp (g120_50 - 1) ((w32_id (by and_intros <;> omega)).trans (by omega)) ?_
  have kb17_120_50 : rd M7 120 50 = g120_50 := ((Wr.b w7 rfl).trans eg120_50)
  have kb17_136_0 : rd M7 136 0 = g136_0 := ((Wr.b w7 rfl).trans eg136_0)
  have hp9 := hS.1.2.2.2.2.2.2.2.2.2.2.2.2.2 (g120_50 - 1) (by omega) (by omega)
  rewrite [kb17_136_0] at hp9
  have kx_120_50 : rd M7 120 50 = g120_50 := ((Wr.b w7 rfl).trans eg120_50)
  refine Tr.putfS (pc := 17) (P := St Pm0 ws_X12_closesBlock_120_w1 as_X12_closesBlock_120_w1 M0) d_X12_closesBlock_17 f_12_165 (by decide) (by decide) (ty_120 hS.1.1) (st_120_50 hS (by decide) (by and_intros <;> omega) (Pm0_blm hS.1.2.2.2.2 hS.1.2.1 (by omega) (by omega))) (fun M17 hS w17 => ?_)
  obtain ⟨v17_9006, ev17_9006⟩ : ∃ v, nwv M17 = v := ⟨_, rfl⟩
  have bv17_9006 : 0 ≤ v17_9006 ∧ v17_9006 ≤ 20 := by rw [← ev17_9006]; exact (nwv_b hS.1.2.1)
  have fv17_9006 : (rd M17 151 (g120_50 - 1) = 1 ∧ g9006_0 = v17_9006) ∨ (rd M17 151 (g120_50 - 1) ≠ 1 ∧ g9006_0 = v17_9006 + 1) := by have h8 := ct_pop (x := 151) (j := 50) (e := 1) (a := 0) (b := 1) (M := M7) (M2 := M17) (n := g120_50) (((Wr.b w7 rfl).trans eg120_50)) w17.1 (fun i => Wr.b w17 rfl) (by omega); have h7 : ctV 151 50 1 0 1 M17 = v17_9006 := ev17_9006; have h6 : ctV 151 50 1 0 1 M7 = g9006_0 := ((nwv_of (fun j => ((Wr.b w7 rfl).trans rfl)) ((Wr.b w7 rfl).trans rfl)).trans eg9006_0); omega
  replace fv17_9006 := hd_i fv17_9006
  refine Tr.aload_n (pc := 20) (i := 0) d_X12_closesBlock_20 rfl rfl ?_
  refine Tr.getf (pc := 21) d_X12_closesBlock_21 f_12_159 (by decide) (by decide) (ty_120 hS.1.1) ?_
  refine Tr.tp 151 (fx_120_48 hS.1.1) ?_
  refine Tr.aload_n (pc := 24) (i := 0) d_X12_closesBlock_24 rfl rfl ?_
  refine Tr.getf (pc := 25) d_X12_closesBlock_25 f_12_165 (by decide) (by decide) (ty_120 hS.1.1) ?_
  refine Tr.tp (g120_50 - 1) w17.1 ?_
  refine Tr.iald (pc := 28) d_X12_closesBlock_28 (ty_151 hS.1.1) (by omega) (by omega) ?_
  refine Tr.gen (P := fun v => 0 ≤ v ∧ v ≤ 2) (ar_151 hS.1.2.1 _) (fun r28 er28 br28 => ?_)
  refine Tr.istore_n (pc := 29) (i := 1) (ls2 := [(1, (0, r28)), (0, (2, 120))]) d_X12_closesBlock_29 rfl (by decide) rfl ?_
  refine Tr.aload_n (pc := 30) (i := 0) d_X12_closesBlock_30 rfl rfl ?_
  refine Tr.getf (pc := 31) d_X12_closesBlock_31 f_12_162 (by decide) (by decide) (ty_120 hS.1.1) ?_
  refine Tr.tp 152 (fx_120_49 hS.1.1) ?_
  refine Tr.aload_n (pc := 34) (i := 0) d_X12_closesBlock_34 rfl rfl ?_
  refine Tr.getf (pc := 35) d_X12_closesBlock_35 f_12_165 (by decide) (by decide) (ty_120 hS.1.1) ?_
  refine Tr.tp (g120_50 - 1) w17.1 ?_
  refine Tr.iald (pc := 38) d_X12_closesBlock_38 (ty_152 hS.1.1) (by omega) (by omega) ?_
  refine Tr.gen (P := fun v => 0 ≤ v ∧ v ≤ 399) (ar_152 hS.1.2.1 _) (fun r38 er38 br38 => ?_)
  have q151 : rd M7 151 (g120_50 - 1) = r28 := (Wr.b w17 rfl).symm.trans er28
  have q152 : rd M7 152 (g120_50 - 1) = r38 := (Wr.b w17 rfl).symm.trans er38
  rw [q151, q152] at hp9
  have f39 := hd_o fv17_9006
  rewrite [er28] at f39
  replace f39 := hd_i f39
  obtain ⟨d38, ed38⟩ : ∃ v, rd M17 137 r38 = v := ⟨_, rfl⟩
  have e137 : rd M7 137 r38 = d38 := (Wr.b w17 rfl).symm.trans ed38
  rw [e137] at hp9
  have hp9d0 := hd_i hp9.2.2
  replace hp9 := And.intro hp9.1  (hp9.2.1)
  have bd38 : 0 ≤ d38 ∧ d38 ≤ 8 := by rw [← ed38]; have := ar_137 hS.1.2.1 r38; omega
  refine Tr.istore_n (pc := 39) (i := 2) (ls2 := [(2, (0, r38)), (1, (0, r28)), (0, (2, 120))]) d_X12_closesBlock_39 rfl (by decide) rfl ?_
  refine Tr.aload_n (pc := 40) (i := 0) d_X12_closesBlock_40 rfl rfl ?_
  refine Tr.callV (pc := 41) (as := []) d_X12_closesBlock_41 s_12_396 ok_X12_next rfl rfl (Nat.le_of_ble_eq_true rfl) (Nat.le_of_ble_eq_true rfl) (by decide) (ty_120 hS.1.1) ?_
  refine Tr.imp (Tr.deep (by decide) (ns_X12_next_120_w1 (G120_3 := g120_3) (G120_5 := g120_5) (G120_8 := g120_8) (G9010_0 := g9010_0) hS.1 (((Wr.b w17 rfl).trans ((Wr.b w7 rfl).trans eg120_3))) (((Wr.b w17 rfl).trans ((Wr.b w7 rfl).trans eg120_5))) (((Wr.b w17 rfl).trans ((Wr.b w7 rfl).trans eg120_8))) (((tav_of ((Wr.b w17 rfl).trans ((Wr.b w7 rfl).trans rfl)) ((Wr.b w17 rfl).trans ((Wr.b w7 rfl).trans rfl))).trans eg9010_0)))) ?_
  rintro M41 _ ⟨h41, s41_120_3, s41_120_4, s41_120_5, s41_120_7, s41_120_8, s41_9010_0, es41_120_3, bs41_120_3, es41_120_4, bs41_120_4, es41_120_5, bs41_120_5, es41_120_7, bs41_120_7, es41_120_8, bs41_120_8, es41_9010_0, bs41_9010_0, rfl, z41_0, z41_1, z41_2, z41_3, z41_4, z41_5, z41_6⟩
  have hS := St.tr hS h41 (by decide) (by decide)
  refine Tr.sc [] rfl ?_
  refine Tr.aload_n (pc := 44) (i := 0) d_X12_closesBlock_44 rfl rfl ?_
  refine Tr.getf (pc := 45) d_X12_closesBlock_45 f_12_36 (by decide) (by decide) (ty_120 hS.1.1) ?_
  refine Tr.tp s41_120_8 es41_120_8 ?_
  refine Tr.if_le (pc := 48) (tgt := 52) d_X12_closesBlock_48 rfl (fun c48 => ?_) (fun c48 => ?_)
  · refine Tr.iload_n (pc := 52) (i := 1) d_X12_closesBlock_52 rfl rfl ?_
    refine Tr.iconst (pc := 53) d_X12_closesBlock_53 (by decide) ?_
    have J78 : ∀ (M : Mem) (u78_136_0 : Int), St Pm0 ws_X12_closesBlock_120_w1 as_X12_closesBlock_120_w1 M0 M → (0 ≤ u78_136_0 ∧ u78_136_0 ≤ 200) → rd M 120 3 = s41_120_3 → rd M 120 36 = g120_36 → rd M 120 4 = s41_120_4 → rd M 120 44 = (g120_44 - 1) → rd M 120 5 = s41_120_5 → rd M 120 50 = (g120_50 - 1) → rd M 120 7 = s41_120_7 → rd M 120 8 = s41_120_8 → rd M 129 0 = g129_0 → rd M 136 0 = u78_136_0 → rd M 137 r38 = d38 → rd M 151 (g120_50 - 1) = r28 → rd M 152 (g120_50 - 1) = r38 → nwv M = v17_9006 → tav M = s41_9010_0 → ((r28 = 2 ∧ u78_136_0 + v17_9006 ≤ 2 * g129_0) ∨ (r28 ≠ 2 ∧ u78_136_0 = g136_0)) → (g136_0 ≤ u78_136_0) → Tr l K 3 mX12_closesBlock 78 [(0, (2, 120)), (1, (0, r28)), (2, (0, r38))] [] M (q_X12_closesBlock_120_w1 M0) := by
      intro M u78_136_0 hS bu78_136_0 k78_120_3 k78_120_36 k78_120_4 k78_120_44 k78_120_5 k78_120_50 k78_120_7 k78_120_8 k78_129_0 k78_136_0 k78_137_r3810 k78_151_g120_501n1 k78_152_g120_501n1 k78_9006_0 k78_9010_0 t78_0 t78_1
      clear w7 kb17_120_50 kb17_136_0 kx_120_50 w17 ev17_9006 er28 er38 ed38 es41_120_3 es41_120_4 es41_120_5 es41_120_7 es41_120_8 es41_9010_0
      replace t78_0 := hd_i t78_0
      refine Tr.iload_n (pc := 78) (i := 1) d_X12_closesBlock_78 rfl rfl ?_
      have J125 : ∀ (M : Mem), St Pm0 ws_X12_closesBlock_120_w1 as_X12_closesBlock_120_w1 M0 M → rd M 120 3 = s41_120_3 → rd M 120 36 = g120_36 → rd M 120 4 = s41_120_4 → rd M 120 44 = (g120_44 - 1) → rd M 120 5 = s41_120_5 → rd M 120 50 = (g120_50 - 1) → rd M 120 7 = s41_120_7 → rd M 120 8 = s41_120_8 → rd M 129 0 = g129_0 → rd M 136 0 = u78_136_0 → rd M 137 r38 = d38 → rd M 151 (g120_50 - 1) = r28 → rd M 152 (g120_50 - 1) = r38 → nwv M = v17_9006 → tav M = s41_9010_0 → (g136_0 ≤ u78_136_0 ∧ u78_136_0 + v17_9006 ≤ 2 * g129_0) → Tr l K 3 mX12_closesBlock 125 [(0, (2, 120)), (2, (0, r38))] [] M (q_X12_closesBlock_120_w1 M0) := by
        intro M  hS  k125_120_3 k125_120_36 k125_120_4 k125_120_44 k125_120_5 k125_120_50 k125_120_7 k125_120_8 k125_129_0 k125_136_0 k125_137_r3810 k125_151_g120_501n1 k125_152_g120_501n1 k125_9006_0 k125_9010_0 t125_0
        clear k78_120_3 k78_120_36 k78_120_4 k78_120_44 k78_120_5 k78_120_50 k78_120_7 k78_120_8 k78_129_0 k78_136_0 k78_137_r3810 k78_151_g120_501n1 k78_152_g120_501n1 k78_9006_0 k78_9010_0
        refine Tr.aload_n (pc := 125) (i := 0) d_X12_closesBlock_125 rfl rfl ?_
        refine Tr.getf (pc := 126) d_X12_closesBlock_126 f_12_112 (by decide) (by decide) (ty_120 hS.1.1) ?_
        refine Tr.tp 142 (fx_120_33 hS.1.1) ?_
        refine Tr.iload_n (pc := 129) (i := 2) d_X12_closesBlock_129 rfl rfl ?_
        refine Tr.aload_n (pc := 130) (i := 0) d_X12_closesBlock_130 rfl rfl ?_
        refine Tr.getf (pc := 131) d_X12_closesBlock_131 f_12_94 (by decide) (by decide) (ty_120 hS.1.1) ?_
        refine Tr.tp 136 (fx_120_27 hS.1.1) ?_
        refine Tr.aload_n (pc := 134) (i := 0) d_X12_closesBlock_134 rfl rfl ?_
        refine Tr.getf (pc := 135) d_X12_closesBlock_135 f_12_124 (by decide) (by decide) (ty_120 hS.1.1) ?_
        refine Tr.tp 0 ((kp_X12_closesBlock_120_w1_120_37 hS).trans en_120_37) ?_
        refine Tr.iald (pc := 138) d_X12_closesBlock_138 (ty_136 hS.1.1) (by omega) (by omega) ?_
        refine Tr.tp u78_136_0 k125_136_0 ?_
        refine Tr.iastS (pc := 139) (P := St Pm0 ws_X12_closesBlock_120_w1 as_X12_closesBlock_120_w1 M0) d_X12_closesBlock_139 (ty_142 hS.1.1) (by omega) (by omega) (sa_142 hS (by decide) (by and_intros <;> omega) (Pm0_goes hS.1.2.2.2.2 hS.1.2.1 (by omega) (by omega) (Or.inl (by omega)))) (fun M139 hS w139 => ?_)
        have kr_120_3 : rd M139 120 3 = s41_120_3 := ((Wr.b w139 rfl).trans k125_120_3)
        have kr_120_4 : rd M139 120 4 = s41_120_4 := ((Wr.b w139 rfl).trans k125_120_4)
        have kr_120_5 : rd M139 120 5 = s41_120_5 := ((Wr.b w139 rfl).trans k125_120_5)
        have kr_120_7 : rd M139 120 7 = s41_120_7 := ((Wr.b w139 rfl).trans k125_120_7)
        have kr_120_8 : rd M139 120 8 = s41_120_8 := ((Wr.b w139 rfl).trans k125_120_8)
        have kr_120_36 : rd M139 120 36 = g120_36 := ((Wr.b w139 rfl).trans k125_120_36)
        have kr_120_44 : rd M139 120 44 = (g120_44 - 1) := ((Wr.b w139 rfl).trans k125_120_44)
        have kr_120_50 : rd M139 120 50 = (g120_50 - 1) := ((Wr.b w139 rfl).trans k125_120_50)
        have kr_129_0 : rd M139 129 0 = g129_0 := ((Wr.b w139 rfl).trans k125_129_0)
        have kr_136_0 : rd M139 136 0 = u78_136_0 := ((Wr.b w139 rfl).trans k125_136_0)
        have kr_9006_0 : nwv M139 = v17_9006 := ((nwv_of (fun j => ((Wr.b w139 rfl).trans rfl)) ((Wr.b w139 rfl).trans rfl)).trans k125_9006_0)
        have kr_9010_0 : tav M139 = s41_9010_0 := ((tav_of ((Wr.b w139 rfl).trans rfl) ((Wr.b w139 rfl).trans rfl)).trans k125_9010_0)
        exact Tr.vret (pc := 140) d_X12_closesBlock_140 rfl ⟨hS, rfl, (by first | exact (hd_o z41_0) | exact (hd_o z41_0).elim (fun h1 => by omega) (fun h1 => by omega)), (by omega), (by first | exact (hd_o z41_2) | exact (hd_o z41_2).elim (fun h1 => by omega) (fun h1 => h1.elim (fun h1 => by omega) (fun h1 => by omega))), (by and_intros <;> omega), (by first | exact (hd_o z41_6) | exact (hd_o z41_6).elim (fun h1 => by omega) (fun h1 => by omega)), (by exact (ne_o (hd_o hq6)).elim (fun h1 => by omega) (fun h1 => (hd_o z41_5).elim (fun h2 => by omega) (fun h2 => by omega))), (by omega), (by omega), (by omega)⟩
      refine Tr.if_ne (pc := 79) (tgt := 125) d_X12_closesBlock_79 rfl (fun c79 => ?_) (fun c79 => ?_)
      · have c79b : 1 ≤ r28 ∧ r28 ≤ 2 := by omega
        replace c79 := hd_i c79
        refine Tr.pick [0, 2] (ls2 := [(0, (2, 120)), (2, (0, r38))]) rfl ?_
        exact J125 _ hS k78_120_3 k78_120_36 k78_120_4 k78_120_44 k78_120_5 k78_120_50 k78_120_7 k78_120_8 k78_129_0 k78_136_0 k78_137_r3810 k78_151_g120_501n1 k78_152_g120_501n1 k78_9006_0 k78_9010_0 (by exact (hd_o t78_0).elim (fun h1 => by omega) (fun h1 => (hd_o f39).elim (fun h2 => by omega) (fun h2 => by omega)))
      · refine Tr.aload_n (pc := 82) (i := 0) d_X12_closesBlock_82 rfl rfl ?_
        refine Tr.ldc2 (pc := 83) d_X12_closesBlock_83 kl_12_433 (by decide) ?_
        refine Tr.callV (pc := 86) (as := [_]) d_X12_closesBlock_86 s_12_484 ok_X12_isWord rfl rfl (Nat.le_of_ble_eq_true rfl) (Nat.le_of_ble_eq_true rfl) (by decide) (ty_120 hS.1.1) ?_
        refine Tr.imp (Tr.deep (by decide) (ns_X12_isWord_120 (G120_3 := s41_120_3) (G120_7 := s41_120_7) hS.1.wk (k78_120_3) (k78_120_7) 1701606245 (by omega))) ?_
        rintro M86 _ ⟨h86, r86, rfl, lr86, ur86, z86_0⟩
        have h86 := St.rn h86 (Pm0.of hS.1.2.2.2.2 (fun _ => (ka_X12_isWord_120_131 h86 _)) (fun _ => (ka_X12_isWord_120_137 h86 _)) (fun _ => (ka_X12_isWord_120_138 h86 _)) (fun _ => (ka_X12_isWord_120_139 h86 _)) (fun _ => (ka_X12_isWord_120_140 h86 _)) (fun _ => (ka_X12_isWord_120_141 h86 _)) (fun _ => (ka_X12_isWord_120_142 h86 _)) (fun _ => (ka_X12_isWord_120_143 h86 _)) (fun _ => (ka_X12_isWord_120_151 h86 _)) (fun _ => (ka_X12_isWord_120_152 h86 _)) (kp_X12_isWord_120_126_0 h86) (kp_X12_isWord_120_126_1 h86) (kp_X12_isWord_120_136_0 h86) (kp_X12_isWord_120_136_1 h86) (kp_X12_isWord_120_123_0 h86) (kp_X12_isWord_120_123_1 h86) (kp_X12_isWord_120_124_0 h86) (kp_X12_isWord_120_124_1 h86) (kp_X12_isWord_120_120_8 h86) (kp_X12_isWord_120_120_36 h86) (kp_X12_isWord_120_120_50 h86))
        have hS := St.tr hS h86 (by decide) (by decide)
        refine Tr.sc [(0, r86)] rfl ?_
        refine Tr.if_eq (pc := 89) (tgt := 125) d_X12_closesBlock_89 rfl (fun c89 => ?_) (fun c89 => ?_)
        · refine Tr.pick [0, 2] (ls2 := [(0, (2, 120)), (2, (0, r38))]) rfl ?_
          exact J125 _ hS ((kp_X12_isWord_120_120_3 h86).trans k78_120_3) ((kp_X12_isWord_120_120_36 h86).trans k78_120_36) ((kp_X12_isWord_120_120_4 h86).trans k78_120_4) ((kp_X12_isWord_120_120_44 h86).trans k78_120_44) ((kp_X12_isWord_120_120_5 h86).trans k78_120_5) ((kp_X12_isWord_120_120_50 h86).trans k78_120_50) ((kp_X12_isWord_120_120_7 h86).trans k78_120_7) ((kp_X12_isWord_120_120_8 h86).trans k78_120_8) ((kp_X12_isWord_120_129_0 h86).trans k78_129_0) ((kp_X12_isWord_120_136_0 h86).trans k78_136_0) ((ka_X12_isWord_120_137 h86 _).trans k78_137_r3810) ((ka_X12_isWord_120_151 h86 _).trans k78_151_g120_501n1) ((ka_X12_isWord_120_152 h86 _).trans k78_152_g120_501n1) ((nwv_of (fun j => ((ka_X12_isWord_120_151 h86 _).trans rfl)) ((kp_X12_isWord_120_120_50 h86).trans rfl)).trans k78_9006_0) ((tav_of ((kp_X12_isWord_120_120_5 h86).trans rfl) ((kp_X12_isWord_120_120_3 h86).trans rfl)).trans k78_9010_0) (by exact (hd_o t78_0).elim (fun h1 => by omega) (fun h1 => (hd_o f39).elim (fun h2 => by omega) (fun h2 => by omega)))
        · have c89b : 1 ≤ r86 ∧ r86 ≤ 1 := by omega
          replace c89 := hd_i c89
          refine Tr.aload_n (pc := 92) (i := 0) d_X12_closesBlock_92 rfl rfl ?_
          refine Tr.iconst (pc := 93) d_X12_closesBlock_93 (by decide) ?_
          refine Tr.iconst (pc := 94) d_X12_closesBlock_94 (by decide) ?_
          refine Tr.callV (pc := 95) (as := [_, _]) d_X12_closesBlock_95 s_12_531 ok_X12_spot rfl rfl (Nat.le_of_ble_eq_true rfl) (Nat.le_of_ble_eq_true rfl) (by decide) (ty_120 hS.1.1) ?_
          refine Tr.imp (Tr.deep (by decide) (ns_X12_spot_120_w1 (G136_0 := u78_136_0) hS.1 (((kp_X12_isWord_120_136_0 h86).trans k78_136_0)) ((kp_X12_closesBlock_120_w1_120_37 hS).trans en_120_37) 0 (by omega) (-1) (by omega) (by exact (hd_o t78_0).elim (fun h1 => by omega) (fun h1 => by omega)) (by omega) (by omega))) ?_
          rintro M95 _ ⟨h95, s95_136_0, es95_136_0, bs95_136_0, r95, rfl, lr95, ur95, z95_0, z95_1, z95_2, z95_3⟩
          have hS := St.tr hS h95 (by decide) (by decide)
          refine Tr.sc [(0, r95)] rfl ?_
          have kz95 : rd M86 136 0 = u78_136_0 := ((kp_X12_isWord_120_136_0 h86).trans k78_136_0)
          have ed95 : rd M95 137 r38 = d38 := (z95_2 r38 (by omega)).trans (((ka_X12_isWord_120_137 h86 _).trans k78_137_r3810))
          refine Tr.istore_n (pc := 98) (i := 3) (ls2 := [(3, (0, r95)), (0, (2, 120)), (1, (0, r28)), (2, (0, r38))]) d_X12_closesBlock_98 rfl (by decide) rfl ?_
          refine Tr.aload_n (pc := 99) (i := 0) d_X12_closesBlock_99 rfl rfl ?_
          refine Tr.getf (pc := 100) d_X12_closesBlock_100 f_12_112 (by decide) (by decide) (ty_120 hS.1.1) ?_
          refine Tr.tp 142 (fx_120_33 hS.1.1) ?_
          refine Tr.iload_n (pc := 103) (i := 2) d_X12_closesBlock_103 rfl rfl ?_
          refine Tr.aload_n (pc := 104) (i := 0) d_X12_closesBlock_104 rfl rfl ?_
          refine Tr.getf (pc := 105) d_X12_closesBlock_105 f_12_94 (by decide) (by decide) (ty_120 hS.1.1) ?_
          refine Tr.tp 136 (fx_120_27 hS.1.1) ?_
          refine Tr.aload_n (pc := 108) (i := 0) d_X12_closesBlock_108 rfl rfl ?_
          refine Tr.getf (pc := 109) d_X12_closesBlock_109 f_12_124 (by decide) (by decide) (ty_120 hS.1.1) ?_
          refine Tr.tp 0 ((kp_X12_closesBlock_120_w1_120_37 hS).trans en_120_37) ?_
          refine Tr.iald (pc := 112) d_X12_closesBlock_112 (ty_136 hS.1.1) (by omega) (by omega) ?_
          refine Tr.tp s95_136_0 es95_136_0 ?_
          refine Tr.iastS (pc := 113) (P := St Pm0 ws_X12_closesBlock_120_w1 as_X12_closesBlock_120_w1 M0) d_X12_closesBlock_113 (ty_142 hS.1.1) (by omega) (by omega) (sa_142 hS (by decide) (by and_intros <;> omega) (Pm0_goes hS.1.2.2.2.2 hS.1.2.1 (by omega) (by omega) (Or.inl (by omega)))) (fun M113 hS w113 => ?_)
          refine Tr.aload_n (pc := 114) (i := 0) d_X12_closesBlock_114 rfl rfl ?_
          refine Tr.callV (pc := 115) (as := []) d_X12_closesBlock_115 s_12_396 ok_X12_next rfl rfl (Nat.le_of_ble_eq_true rfl) (Nat.le_of_ble_eq_true rfl) (by decide) (ty_120 hS.1.1) ?_
          refine Tr.imp (Tr.deep (by decide) (ns_X12_next_120_w1 (G120_3 := s41_120_3) (G120_5 := s41_120_5) (G120_8 := s41_120_8) (G9010_0 := s41_9010_0) hS.1 (((Wr.b w113 rfl).trans ((kp_X12_spot_120_w1_120_3 h95).trans ((kp_X12_isWord_120_120_3 h86).trans k78_120_3)))) (((Wr.b w113 rfl).trans ((kp_X12_spot_120_w1_120_5 h95).trans ((kp_X12_isWord_120_120_5 h86).trans k78_120_5)))) (((Wr.b w113 rfl).trans ((kp_X12_spot_120_w1_120_8 h95).trans ((kp_X12_isWord_120_120_8 h86).trans k78_120_8)))) (((tav_of ((Wr.b w113 rfl).trans ((kp_X12_spot_120_w1_120_5 h95).trans ((kp_X12_isWord_120_120_5 h86).trans rfl))) ((Wr.b w113 rfl).trans ((kp_X12_spot_120_w1_120_3 h95).trans ((kp_X12_isWord_120_120_3 h86).trans rfl)))).trans k78_9010_0)))) ?_
          rintro M115 _ ⟨h115, s115_120_3, s115_120_4, s115_120_5, s115_120_7, s115_120_8, s115_9010_0, es115_120_3, bs115_120_3, es115_120_4, bs115_120_4, es115_120_5, bs115_120_5, es115_120_7, bs115_120_7, es115_120_8, bs115_120_8, es115_9010_0, bs115_9010_0, rfl, z115_0, z115_1, z115_2, z115_3, z115_4, z115_5, z115_6⟩
          have hS := St.tr hS h115 (by decide) (by decide)
          refine Tr.sc [] rfl ?_
          refine Tr.aload_n (pc := 118) (i := 0) d_X12_closesBlock_118 rfl rfl ?_
          refine Tr.iconst (pc := 119) d_X12_closesBlock_119 (by decide) ?_
          refine Tr.iload_n (pc := 120) (i := 3) d_X12_closesBlock_120 rfl rfl ?_
          refine Tr.callV (pc := 121) (as := [_, _]) d_X12_closesBlock_121 s_12_534 ok_X12_opensBlock rfl rfl (Nat.le_of_ble_eq_true rfl) (Nat.le_of_ble_eq_true rfl) (by decide) (ty_120 hS.1.1) ?_
          refine Tr.imp (Tr.deep (by decide) (ns_X12_opensBlock_120_w1 (G120_3 := s115_120_3) (G120_4 := s115_120_4) (G120_5 := s115_120_5) (G120_7 := s115_120_7) (G120_8 := s115_120_8) (G120_36 := g120_36) (G120_44 := (g120_44 - 1)) (G120_50 := (g120_50 - 1)) (G136_0 := s95_136_0) (G9006_0 := v17_9006) (G9010_0 := s115_9010_0) hS.1 (es115_120_3) (es115_120_4) (es115_120_5) (es115_120_7) (es115_120_8) (((kp_X12_next_120_w1_120_36 h115).trans ((Wr.b w113 rfl).trans ((kp_X12_spot_120_w1_120_36 h95).trans ((kp_X12_isWord_120_120_36 h86).trans k78_120_36))))) (((kp_X12_next_120_w1_120_44 h115).trans ((Wr.b w113 rfl).trans ((kp_X12_spot_120_w1_120_44 h95).trans ((kp_X12_isWord_120_120_44 h86).trans k78_120_44))))) (((kp_X12_next_120_w1_120_50 h115).trans ((Wr.b w113 rfl).trans ((kp_X12_spot_120_w1_120_50 h95).trans ((kp_X12_isWord_120_120_50 h86).trans k78_120_50))))) (((kp_X12_next_120_w1_136_0 h115).trans ((Wr.b w113 rfl).trans es95_136_0))) (((nwv_of (fun j => ((ka_X12_next_120_w1_151 h115 _).trans ((Wr.b w113 rfl).trans ((ka_X12_spot_120_w1_151 h95 _).trans ((ka_X12_isWord_120_151 h86 _).trans rfl))))) ((kp_X12_next_120_w1_120_50 h115).trans ((Wr.b w113 rfl).trans ((kp_X12_spot_120_w1_120_50 h95).trans ((kp_X12_isWord_120_120_50 h86).trans rfl))))).trans k78_9006_0)) (es115_9010_0) 1 (by omega) r95 (by and_intros <;> omega) (by first | exact (hd_o z115_0) | exact (hd_o z115_0).elim (fun h1 => by omega) (fun h1 => by omega)) (by omega) (by first | exact (hd_o z115_2) | exact (hd_o z115_2).elim (fun h1 => by omega) (fun h1 => h1.elim (fun h1 => by omega) (fun h1 => by omega))) (by omega) (by omega) (by and_intros <;> omega) (by omega))) ?_
          rintro M121 _ ⟨h121, s121_120_3, s121_120_4, s121_120_5, s121_120_7, s121_120_8, s121_120_44, s121_120_50, s121_9006_0, s121_9010_0, es121_120_3, bs121_120_3, es121_120_4, bs121_120_4, es121_120_5, bs121_120_5, es121_120_7, bs121_120_7, es121_120_8, bs121_120_8, es121_120_44, bs121_120_44, es121_120_50, bs121_120_50, es121_9006_0, bs121_9006_0, es121_9010_0, bs121_9010_0, rfl, z121_0, z121_1, z121_2, z121_3, z121_4, z121_5, z121_6, z121_7, z121_8⟩
          have hS := St.tr hS h121 (by decide) (by decide)
          refine Tr.sc [] rfl ?_
          have kr_120_3 : rd M121 120 3 = s121_120_3 := es121_120_3
          have kr_120_4 : rd M121 120 4 = s121_120_4 := es121_120_4
          have kr_120_5 : rd M121 120 5 = s121_120_5 := es121_120_5
          have kr_120_7 : rd M121 120 7 = s121_120_7 := es121_120_7
          have kr_120_8 : rd M121 120 8 = s121_120_8 := es121_120_8
          have kr_120_36 : rd M121 120 36 = g120_36 := ((kp_X12_opensBlock_120_w1_120_36 h121).trans ((kp_X12_next_120_w1_120_36 h115).trans ((Wr.b w113 rfl).trans ((kp_X12_spot_120_w1_120_36 h95).trans ((kp_X12_isWord_120_120_36 h86).trans k78_120_36)))))
          have kr_120_44 : rd M121 120 44 = s121_120_44 := es121_120_44
          have kr_120_50 : rd M121 120 50 = s121_120_50 := es121_120_50
          have kr_129_0 : rd M121 129 0 = g129_0 := ((kp_X12_opensBlock_120_w1_129_0 h121).trans ((kp_X12_next_120_w1_129_0 h115).trans ((Wr.b w113 rfl).trans ((kp_X12_spot_120_w1_129_0 h95).trans ((kp_X12_isWord_120_129_0 h86).trans k78_129_0)))))
          have kr_136_0 : rd M121 136 0 = s95_136_0 := ((kp_X12_opensBlock_120_w1_136_0 h121).trans ((kp_X12_next_120_w1_136_0 h115).trans ((Wr.b w113 rfl).trans es95_136_0)))
          have kr_9006_0 : nwv M121 = s121_9006_0 := es121_9006_0
          have kr_9010_0 : tav M121 = s121_9010_0 := es121_9010_0
          exact Tr.vret (pc := 124) d_X12_closesBlock_124 rfl ⟨hS, rfl, (by first | exact (hd_o z121_0) | exact (hd_o z121_0).elim (fun h1 => by omega) (fun h1 => by omega)), (by omega), (by first | exact (hd_o z121_2) | exact (hd_o z121_2).elim (fun h1 => by omega) (fun h1 => h1.elim (fun h1 => by omega) (fun h1 => by omega))), (by and_intros <;> omega), (by omega), (by exact (hd_o z121_5).elim (fun h1 => by omega) (fun h1 => by omega)), (by omega), (by exact (hd_o t78_0).elim (fun h1 => by omega) (fun h1 => (hd_o f39).elim (fun h2 => by omega) (fun h2 => (hd_o z121_8).elim (fun h3 => by omega) (fun h3 => (ne_o h3.1).elim (fun h4 => by omega) (fun h4 => by omega))))), (by omega)⟩
    refine Tr.icmp_ne (pc := 54) (tgt := 78) d_X12_closesBlock_54 rfl (fun c54 => ?_) (fun c54 => ?_)
    · have c54b : 0 ≤ r28 ∧ r28 ≤ 1 := by omega
      replace c54 := hd_i c54
      refine Tr.pick [2, 1, 0] (ls2 := [(0, (2, 120)), (1, (0, r28)), (2, (0, r38))]) rfl ?_
      exact J78 _ _ hS (by and_intros <;> omega) es41_120_3 ((kp_X12_next_120_w1_120_36 h41).trans ((Wr.b w17 rfl).trans ((Wr.b w7 rfl).trans eg120_36))) es41_120_4 ((kp_X12_next_120_w1_120_44 h41).trans ((Wr.b w17 rfl).trans w7.1)) es41_120_5 ((kp_X12_next_120_w1_120_50 h41).trans w17.1) es41_120_7 es41_120_8 ((kp_X12_next_120_w1_129_0 h41).trans ((Wr.b w17 rfl).trans ((Wr.b w7 rfl).trans eg129_0))) ((kp_X12_next_120_w1_136_0 h41).trans ((Wr.b w17 rfl).trans ((Wr.b w7 rfl).trans eg136_0))) ((ka_X12_next_120_w1_137 h41 _).trans ed38) ((ka_X12_next_120_w1_151 h41 _).trans er28) ((ka_X12_next_120_w1_152 h41 _).trans er38) ((nwv_of (fun j => ((ka_X12_next_120_w1_151 h41 _).trans rfl)) ((kp_X12_next_120_w1_120_50 h41).trans rfl)).trans ev17_9006) es41_9010_0 (by omega) (by omega)
    · refine Tr.aload_n (pc := 57) (i := 0) d_X12_closesBlock_57 rfl rfl ?_
      refine Tr.getf (pc := 58) d_X12_closesBlock_58 f_12_112 (by decide) (by decide) (ty_120 hS.1.1) ?_
      refine Tr.tp 142 (fx_120_33 hS.1.1) ?_
      refine Tr.aload_n (pc := 61) (i := 0) d_X12_closesBlock_61 rfl rfl ?_
      refine Tr.iconst (pc := 62) d_X12_closesBlock_62 (by decide) ?_
      refine Tr.iconst (pc := 63) d_X12_closesBlock_63 (by decide) ?_
      refine Tr.callV (pc := 64) (as := [_, _]) d_X12_closesBlock_64 s_12_531 ok_X12_spot rfl rfl (Nat.le_of_ble_eq_true rfl) (Nat.le_of_ble_eq_true rfl) (by decide) (ty_120 hS.1.1) ?_
      refine Tr.imp (Tr.deep (by decide) (ns_X12_spot_120_w1 (G136_0 := g136_0) hS.1 (((kp_X12_next_120_w1_136_0 h41).trans ((Wr.b w17 rfl).trans ((Wr.b w7 rfl).trans eg136_0)))) ((kp_X12_closesBlock_120_w1_120_37 hS).trans en_120_37) 0 (by omega) (-1) (by omega) (by omega) (by omega) (by omega))) ?_
      rintro M64 _ ⟨h64, s64_136_0, es64_136_0, bs64_136_0, r64, rfl, lr64, ur64, z64_0, z64_1, z64_2, z64_3⟩
      have hS := St.tr hS h64 (by decide) (by decide)
      refine Tr.sc [(0, r64), (2, 142)] rfl ?_
      have kz64 : rd M41 136 0 = g136_0 := ((kp_X12_next_120_w1_136_0 h41).trans ((Wr.b w17 rfl).trans ((Wr.b w7 rfl).trans eg136_0)))
      have ed64 : rd M64 137 r38 = d38 := (z64_2 r38 (by omega)).trans (((ka_X12_next_120_w1_137 h41 _).trans ed38))
      refine Tr.iload_n (pc := 67) (i := 2) d_X12_closesBlock_67 rfl rfl ?_
      refine Tr.sipush (pc := 68) d_X12_closesBlock_68 rfl (by decide) ?_
      refine Tr.aload_n (pc := 71) (i := 0) d_X12_closesBlock_71 rfl rfl ?_
      refine Tr.getf (pc := 72) d_X12_closesBlock_72 f_12_124 (by decide) (by decide) (ty_120 hS.1.1) ?_
      refine Tr.tp 0 ((kp_X12_closesBlock_120_w1_120_37 hS).trans en_120_37) ?_
      refine Tr.imul (pc := 75) d_X12_closesBlock_75 ?_
      refine Tr.tp 0 (by decide) ?_
      refine Tr.isub (pc := 76) d_X12_closesBlock_76 ?_
      refine Tr.tp r38 ((w32_id (by and_intros <;> omega)).trans (by omega)) ?_
      refine Tr.iastS (pc := 77) (P := St Pm0 ws_X12_closesBlock_120_w1 as_X12_closesBlock_120_w1 M0) d_X12_closesBlock_77 (ty_142 hS.1.1) (by omega) (by omega) (sa_142 hS (by decide) (by and_intros <;> omega) (Pm0_goes hS.1.2.2.2.2 hS.1.2.1 (by omega) (by omega) (Or.inr (Or.inl (by rw [show 0 + r38 = r38 by omega, show rd M64 137 r38 = d38 from ed64]; exact (by exact (Decidable.not_or_of_imp (hd_o hp9d0)).elim (fun h1 => by omega) (fun h1 => (ne_o h1).elim (fun h2 => by omega) (fun h2 => by omega)))))))) (fun M77 hS w77 => ?_)
      refine Tr.pick [2, 1, 0] (ls2 := [(0, (2, 120)), (1, (0, r28)), (2, (0, r38))]) rfl ?_
      exact J78 _ _ hS (by and_intros <;> omega) ((Wr.b w77 rfl).trans ((kp_X12_spot_120_w1_120_3 h64).trans es41_120_3)) ((Wr.b w77 rfl).trans ((kp_X12_spot_120_w1_120_36 h64).trans ((kp_X12_next_120_w1_120_36 h41).trans ((Wr.b w17 rfl).trans ((Wr.b w7 rfl).trans eg120_36))))) ((Wr.b w77 rfl).trans ((kp_X12_spot_120_w1_120_4 h64).trans es41_120_4)) ((Wr.b w77 rfl).trans ((kp_X12_spot_120_w1_120_44 h64).trans ((kp_X12_next_120_w1_120_44 h41).trans ((Wr.b w17 rfl).trans w7.1)))) ((Wr.b w77 rfl).trans ((kp_X12_spot_120_w1_120_5 h64).trans es41_120_5)) ((Wr.b w77 rfl).trans ((kp_X12_spot_120_w1_120_50 h64).trans ((kp_X12_next_120_w1_120_50 h41).trans w17.1))) ((Wr.b w77 rfl).trans ((kp_X12_spot_120_w1_120_7 h64).trans es41_120_7)) ((Wr.b w77 rfl).trans ((kp_X12_spot_120_w1_120_8 h64).trans es41_120_8)) ((Wr.b w77 rfl).trans ((kp_X12_spot_120_w1_129_0 h64).trans ((kp_X12_next_120_w1_129_0 h41).trans ((Wr.b w17 rfl).trans ((Wr.b w7 rfl).trans eg129_0))))) ((Wr.b w77 rfl).trans es64_136_0) ((Wr.b w77 rfl).trans ed64) ((Wr.b w77 rfl).trans ((ka_X12_spot_120_w1_151 h64 _).trans ((ka_X12_next_120_w1_151 h41 _).trans er28))) ((Wr.b w77 rfl).trans ((ka_X12_spot_120_w1_152 h64 _).trans ((ka_X12_next_120_w1_152 h41 _).trans er38))) ((nwv_of (fun j => ((Wr.b w77 rfl).trans ((ka_X12_spot_120_w1_151 h64 _).trans ((ka_X12_next_120_w1_151 h41 _).trans rfl)))) ((Wr.b w77 rfl).trans ((kp_X12_spot_120_w1_120_50 h64).trans ((kp_X12_next_120_w1_120_50 h41).trans rfl)))).trans ev17_9006) ((tav_of ((Wr.b w77 rfl).trans ((kp_X12_spot_120_w1_120_5 h64).trans rfl)) ((Wr.b w77 rfl).trans ((kp_X12_spot_120_w1_120_3 h64).trans rfl))).trans es41_9010_0) (by exact (hd_o f39).elim (fun h1 => by omega) (fun h1 => by omega)) (by omega)
  · have kr_120_3 : rd M41 120 3 = s41_120_3 := es41_120_3
    have kr_120_4 : rd M41 120 4 = s41_120_4 := es41_120_4
    have kr_120_5 : rd M41 120 5 = s41_120_5 := es41_120_5
    have kr_120_7 : rd M41 120 7 = s41_120_7 := es41_120_7
    have kr_120_8 : rd M41 120 8 = s41_120_8 := es41_120_8
    have kr_120_36 : rd M41 120 36 = g120_36 := ((kp_X12_next_120_w1_120_36 h41).trans ((Wr.b w17 rfl).trans ((Wr.b w7 rfl).trans eg120_36)))
    have kr_120_44 : rd M41 120 44 = (g120_44 - 1) := ((kp_X12_next_120_w1_120_44 h41).trans ((Wr.b w17 rfl).trans w7.1))
    have kr_120_50 : rd M41 120 50 = (g120_50 - 1) := ((kp_X12_next_120_w1_120_50 h41).trans w17.1)
    have kr_129_0 : rd M41 129 0 = g129_0 := ((kp_X12_next_120_w1_129_0 h41).trans ((Wr.b w17 rfl).trans ((Wr.b w7 rfl).trans eg129_0)))
    have kr_136_0 : rd M41 136 0 = g136_0 := ((kp_X12_next_120_w1_136_0 h41).trans ((Wr.b w17 rfl).trans ((Wr.b w7 rfl).trans eg136_0)))
    have kr_9006_0 : nwv M41 = v17_9006 := ((nwv_of (fun j => ((ka_X12_next_120_w1_151 h41 _).trans rfl)) ((kp_X12_next_120_w1_120_50 h41).trans rfl)).trans ev17_9006)
    have kr_9010_0 : tav M41 = s41_9010_0 := es41_9010_0
    exact Tr.vret (pc := 51) d_X12_closesBlock_51 rfl ⟨hS, rfl, (by first | exact (hd_o z41_0) | exact (hd_o z41_0).elim (fun h1 => by omega) (fun h1 => by omega)), (by omega), (by first | exact (hd_o z41_2) | exact (hd_o z41_2).elim (fun h1 => by omega) (fun h1 => h1.elim (fun h1 => by omega) (fun h1 => by omega))), (by and_intros <;> omega), (by first | exact (hd_o z41_6) | exact (hd_o z41_6).elim (fun h1 => by omega) (fun h1 => by omega)), (by omega), (by omega), (by exact (hd_o f39).elim (fun h1 => by omega) (fun h1 => by omega)), (by omega)⟩

set_option maxRecDepth 100000 in
set_option maxHeartbeats 4000000 in
theorem ns_X12_closesBlock_120_w1 {l : Launch} {K : EC} {M0 : Mem} {G120_3 G120_4 G120_5 G120_7 G120_8 G120_36 G120_44 G120_50 G129_0 G136_0 G9006_0 G9010_0 : Int} (hI : In Pm0 M0) (k120_3 : rd M0 120 3 = G120_3) (k120_4 : rd M0 120 4 = G120_4) (k120_5 : rd M0 120 5 = G120_5) (k120_7 : rd M0 120 7 = G120_7) (k120_8 : rd M0 120 8 = G120_8) (k120_36 : rd M0 120 36 = G120_36) (k120_44 : rd M0 120 44 = G120_44) (k120_50 : rd M0 120 50 = G120_50) (k129_0 : rd M0 129 0 = G129_0) (k136_0 : rd M0 136 0 = G136_0) (k9006_0 : nwv M0 = G9006_0) (k9010_0 : tav M0 = G9010_0) (en_120_37 : rd M0 120 37 = 0)   (hq0 : G120_3 = 0 ∨ G120_4 + 1 ≤ G120_5) (hq1 : G120_4 ≤ G120_5) (hq2 : G120_3 ≠ 1 ∨ G120_4 + 2 ≤ G120_5 ∨ G120_7 < 256) (hq3 : 1 ≤ G120_50) (hq4 : G120_50 ≤ G120_44) (hq5 : G136_0 + G9006_0 ≤ 2 * G129_0) (hq6 : G120_3 ≠ 0) (hq7 : G120_36 + G120_44 ≤ G120_4) (hq8 : G120_8 = 0) : Tr l K 3 mX12_closesBlock 0 [(0, (2, 120))] [] M0 (fun M' r => St Pm0 ws_X12_closesBlock_120_w1 as_X12_closesBlock_120_w1 M0 M' ∧ ∃ S120_3 S120_4 S120_5 S120_7 S120_8 S120_44 S120_50 S136_0 S9006_0 S9010_0 : Int, rd M' 120 3 = S120_3 ∧ (0 ≤ S120_3 ∧ S120_3 ≤ 3) ∧ rd M' 120 4 = S120_4 ∧ (0 ≤ S120_4 ∧ S120_4 ≤ 900) ∧ rd M' 120 5 = S120_5 ∧ (0 ≤ S120_5 ∧ S120_5 ≤ 900) ∧ rd M' 120 7 = S120_7 ∧ ((-9223372036854775808) ≤ S120_7 ∧ S120_7 ≤ 9223372036854775807) ∧ rd M' 120 8 = S120_8 ∧ (0 ≤ S120_8 ∧ S120_8 ≤ 5) ∧ rd M' 120 44 = S120_44 ∧ (0 ≤ S120_44 ∧ S120_44 ≤ 8) ∧ rd M' 120 50 = S120_50 ∧ (0 ≤ S120_50 ∧ S120_50 ≤ 20) ∧ rd M' 136 0 = S136_0 ∧ (0 ≤ S136_0 ∧ S136_0 ≤ 200) ∧ nwv M' = S9006_0 ∧ (0 ≤ S9006_0 ∧ S9006_0 ≤ 20) ∧ tav M' = S9010_0 ∧ ((-1) ≤ S9010_0 ∧ S9010_0 ≤ 1800) ∧ r = none ∧ Hd (S120_3 = 0 ∨ S120_4 + 1 ≤ S120_5) ∧ (S120_4 ≤ S120_5) ∧ Hd (S120_3 ≠ 1 ∨ S120_4 + 2 ≤ S120_5 ∨ S120_7 < 256) ∧ (G120_4 ≤ S120_4 ∧ G120_5 ≤ S120_5 ∧ G9010_0 ≤ S9010_0) ∧ Hd (G120_8 = 0 ∨ S120_8 = G120_8) ∧ Hd (1 ≤ S120_8 ∨ G9010_0 < S9010_0) ∧ (S120_50 ≤ S120_44) ∧ (S136_0 + S9006_0 ≤ 2 * G129_0) ∧ (G120_36 + S120_44 ≤ S120_4)) := by
  subst k120_3
  subst k120_4
  subst k120_5
  subst k120_7
  subst k120_8
  subst k120_36
  subst k120_44
  subst k120_50
  subst k129_0
  subst k136_0
  subst k9006_0
  subst k9010_0
  refine Tr.imp (sp_X12_closesBlock_120_w1 hI en_120_37 hq0 hq1 hq2 hq3 hq4 hq5 hq6 hq7 hq8) ?_
  rintro M' _ ⟨hS, rfl, z0, z1, z2, z3, z4, z5, z6, z7, z8⟩
  rewrite [show rd M' 129 0 = rd M0 129 0 from ((St.kp hS (by decide) (by decide) (by decide)).trans rfl)] at z7
  rewrite [show rd M' 120 36 = rd M0 120 36 from ((St.kp hS (by decide) (by decide) (by decide)).trans rfl)] at z8
  exact ⟨hS, _, _, _, _, _, _, _, _, _, _, rfl, ir_120_3 hS.1.2.1, rfl, ir_120_4 hS.1.2.1, rfl, ir_120_5 hS.1.2.1, rfl, ir_120_7 hS.1.2.1, rfl, ir_120_8 hS.1.2.1, rfl, ir_120_44 hS.1.2.1, rfl, ir_120_50 hS.1.2.1, rfl, ir_136_0 hS.1.2.1, rfl, (nwv_b hS.1.2.1), rfl, (tav_b hS.1.2.1), rfl, hd_i z0, z1, hd_i z2, z3, hd_i z4, hd_i z5, z6, z7, z8⟩

def ws_X12_text_120_w1 : List (Int × Int) := [(120, 1), (120, 2), (120, 3), (120, 4), (120, 5), (120, 6), (120, 7), (120, 8), (120, 9), (120, 10), (120, 11), (120, 12), (120, 36), (120, 37), (120, 43), (120, 44), (120, 46), (120, 47), (120, 50), (120, 85), (120, 104), (120, 106), (120, 109), (122, 0), (123, 0), (124, 0), (125, 0), (126, 0), (127, 0), (128, 0), (129, 0), (136, 0)]
def as_X12_text_120_w1 : List Int := [130, 131, 132, 133, 134, 135, 137, 138, 139, 140, 141, 142, 143, 144, 145, 146, 147, 148, 149, 150, 151, 152, 153]
def q_X12_text_120_w1 (M0 M' : Mem) (r : Option PV) : Prop := St Tru ws_X12_text_120_w1 as_X12_text_120_w1 M0 M' ∧ ∃ v : Int, r = some (0, v) ∧ (-1) ≤ v ∧ v ≤ 60 ∧ (rd M' 120 1 = 0) ∧ ((v = -1 ∧ rd M' 120 12 = 1 ∧ Bk1 M') ∨ (0 ≤ v ∧ rd M' 120 12 = 0 ∧ Bk0 M'))
theorem kp_X12_statement_120_w1_120_1 {q : Mem → Prop} {M0 M : Mem} (h : St q ws_X12_statement_120_w1 as_X12_statement_120_w1 M0 M) : rd M 120 1 = rd M0 120 1 := St.kp h (by decide) (by decide) (by decide)
theorem kp_X12_statement_120_w1_120_12 {q : Mem → Prop} {M0 M : Mem} (h : St q ws_X12_statement_120_w1 as_X12_statement_120_w1 M0 M) : rd M 120 12 = rd M0 120 12 := St.kp h (by decide) (by decide) (by decide)
theorem kp_X12_statement_120_w1_120_2 {q : Mem → Prop} {M0 M : Mem} (h : St q ws_X12_statement_120_w1 as_X12_statement_120_w1 M0 M) : rd M 120 2 = rd M0 120 2 := St.kp h (by decide) (by decide) (by decide)
theorem kp_X12_isSign_120_129_0 {q : Mem → Prop} {M0 M : Mem} (h : St q ws_X12_isSign_120 as_X12_isSign_120 M0 M) : rd M 129 0 = rd M0 129 0 := St.kp h (by decide) (by decide) (by decide)
theorem kp_X12_closesBlock_120_w1_120_1 {q : Mem → Prop} {M0 M : Mem} (h : St q ws_X12_closesBlock_120_w1 as_X12_closesBlock_120_w1 M0 M) : rd M 120 1 = rd M0 120 1 := St.kp h (by decide) (by decide) (by decide)
theorem kp_X12_closesBlock_120_w1_120_12 {q : Mem → Prop} {M0 M : Mem} (h : St q ws_X12_closesBlock_120_w1 as_X12_closesBlock_120_w1 M0 M) : rd M 120 12 = rd M0 120 12 := St.kp h (by decide) (by decide) (by decide)
theorem kp_X12_closesBlock_120_w1_120_2 {q : Mem → Prop} {M0 M : Mem} (h : St q ws_X12_closesBlock_120_w1 as_X12_closesBlock_120_w1 M0 M) : rd M 120 2 = rd M0 120 2 := St.kp h (by decide) (by decide) (by decide)
theorem kp_X12_closesBlock_120_w1_120_36 {q : Mem → Prop} {M0 M : Mem} (h : St q ws_X12_closesBlock_120_w1 as_X12_closesBlock_120_w1 M0 M) : rd M 120 36 = rd M0 120 36 := St.kp h (by decide) (by decide) (by decide)
theorem kp_X12_closesBlock_120_w1_129_0 {q : Mem → Prop} {M0 M : Mem} (h : St q ws_X12_closesBlock_120_w1 as_X12_closesBlock_120_w1 M0 M) : rd M 129 0 = rd M0 129 0 := St.kp h (by decide) (by decide) (by decide)
theorem kp_X12_declares_120_w1_120_1 {q : Mem → Prop} {M0 M : Mem} (h : St q ws_X12_declares_120_w1 as_X12_declares_120_w1 M0 M) : rd M 120 1 = rd M0 120 1 := St.kp h (by decide) (by decide) (by decide)
theorem kp_X12_declares_120_w1_120_12 {q : Mem → Prop} {M0 M : Mem} (h : St q ws_X12_declares_120_w1 as_X12_declares_120_w1 M0 M) : rd M 120 12 = rd M0 120 12 := St.kp h (by decide) (by decide) (by decide)
theorem kp_X12_declares_120_w1_120_2 {q : Mem → Prop} {M0 M : Mem} (h : St q ws_X12_declares_120_w1 as_X12_declares_120_w1 M0 M) : rd M 120 2 = rd M0 120 2 := St.kp h (by decide) (by decide) (by decide)
theorem kp_X12_declares_120_w1_120_36 {q : Mem → Prop} {M0 M : Mem} (h : St q ws_X12_declares_120_w1 as_X12_declares_120_w1 M0 M) : rd M 120 36 = rd M0 120 36 := St.kp h (by decide) (by decide) (by decide)
theorem kp_X12_declares_120_w1_120_44 {q : Mem → Prop} {M0 M : Mem} (h : St q ws_X12_declares_120_w1 as_X12_declares_120_w1 M0 M) : rd M 120 44 = rd M0 120 44 := St.kp h (by decide) (by decide) (by decide)
theorem kp_X12_declares_120_w1_120_50 {q : Mem → Prop} {M0 M : Mem} (h : St q ws_X12_declares_120_w1 as_X12_declares_120_w1 M0 M) : rd M 120 50 = rd M0 120 50 := St.kp h (by decide) (by decide) (by decide)
theorem kp_X12_declares_120_w1_129_0 {q : Mem → Prop} {M0 M : Mem} (h : St q ws_X12_declares_120_w1 as_X12_declares_120_w1 M0 M) : rd M 129 0 = rd M0 129 0 := St.kp h (by decide) (by decide) (by decide)
theorem kp_X12_declares_120_w1_136_0 {q : Mem → Prop} {M0 M : Mem} (h : St q ws_X12_declares_120_w1 as_X12_declares_120_w1 M0 M) : rd M 136 0 = rd M0 136 0 := St.kp h (by decide) (by decide) (by decide)
theorem ka_X12_declares_120_w1_151 {q : Mem → Prop} {M0 M : Mem} (h : St q ws_X12_declares_120_w1 as_X12_declares_120_w1 M0 M) (j : Int) : rd M 151 j = rd M0 151 j := St.ka h (by decide) (by decide) (by decide)
theorem kp_X12_next_120_w1_120_1 {q : Mem → Prop} {M0 M : Mem} (h : St q ws_X12_next_120_w1 as_X12_next_120_w1 M0 M) : rd M 120 1 = rd M0 120 1 := St.kp h (by decide) (by decide) (by decide)
theorem kp_X12_next_120_w1_120_12 {q : Mem → Prop} {M0 M : Mem} (h : St q ws_X12_next_120_w1 as_X12_next_120_w1 M0 M) : rd M 120 12 = rd M0 120 12 := St.kp h (by decide) (by decide) (by decide)
theorem kp_X12_next_120_w1_120_2 {q : Mem → Prop} {M0 M : Mem} (h : St q ws_X12_next_120_w1 as_X12_next_120_w1 M0 M) : rd M 120 2 = rd M0 120 2 := St.kp h (by decide) (by decide) (by decide)
theorem kp_X12_next_120_w1_120_37 {q : Mem → Prop} {M0 M : Mem} (h : St q ws_X12_next_120_w1 as_X12_next_120_w1 M0 M) : rd M 120 37 = rd M0 120 37 := St.kp h (by decide) (by decide) (by decide)
set_option maxRecDepth 100000 in
set_option maxHeartbeats 4000000 in
theorem sp_X12_text_120_w1 {l : Launch} {K : EC} {M0 : Mem} (hI : In Tru M0) (en_120_12 : rd M0 120 12 = 1)   (hF_Bk1 : Bk1 M0) : Tr l K 6 mX12_text 0 [(0, (2, 120))] [] M0 (q_X12_text_120_w1 M0) := by
  have hS : St Tru ws_X12_text_120_w1 as_X12_text_120_w1 M0 M0 := St.rf hI
  obtain ⟨g120_8, eg120_8⟩ : ∃ v, rd M0 120 8 = v := ⟨_, rfl⟩
  have bg120_8 : 0 ≤ g120_8 ∧ g120_8 ≤ 5 := by rw [← eg120_8]; exact ir_120_8 hI.2.1
  obtain ⟨g120_3, eg120_3⟩ : ∃ v, rd M0 120 3 = v := ⟨_, rfl⟩
  have bg120_3 : 0 ≤ g120_3 ∧ g120_3 ≤ 3 := by rw [← eg120_3]; exact ir_120_3 hI.2.1
  obtain ⟨g120_4, eg120_4⟩ : ∃ v, rd M0 120 4 = v := ⟨_, rfl⟩
  have bg120_4 : 0 ≤ g120_4 ∧ g120_4 ≤ 900 := by rw [← eg120_4]; exact ir_120_4 hI.2.1
  obtain ⟨g120_5, eg120_5⟩ : ∃ v, rd M0 120 5 = v := ⟨_, rfl⟩
  have bg120_5 : 0 ≤ g120_5 ∧ g120_5 ≤ 900 := by rw [← eg120_5]; exact ir_120_5 hI.2.1
  obtain ⟨g120_7, eg120_7⟩ : ∃ v, rd M0 120 7 = v := ⟨_, rfl⟩
  have bg120_7 : (-9223372036854775808) ≤ g120_7 ∧ g120_7 ≤ 9223372036854775807 := by rw [← eg120_7]; exact ir_120_7 hI.2.1
  obtain ⟨g9010_0, eg9010_0⟩ : ∃ v, tav M0 = v := ⟨_, rfl⟩
  have bg9010_0 : (-1) ≤ g9010_0 ∧ g9010_0 ≤ 1800 := by rw [← eg9010_0]; exact (tav_b hI.2.1)
  obtain ⟨g120_6, eg120_6⟩ : ∃ v, rd M0 120 6 = v := ⟨_, rfl⟩
  have bg120_6 : (-2147483648) ≤ g120_6 ∧ g120_6 ≤ 2147483647 := by rw [← eg120_6]; exact ir_120_6 hI.2.1
  obtain ⟨g120_36, eg120_36⟩ : ∃ v, rd M0 120 36 = v := ⟨_, rfl⟩
  have bg120_36 : 0 ≤ g120_36 ∧ g120_36 ≤ 900 := by rw [← eg120_36]; exact ir_120_36 hI.2.1
  obtain ⟨g120_44, eg120_44⟩ : ∃ v, rd M0 120 44 = v := ⟨_, rfl⟩
  have bg120_44 : 0 ≤ g120_44 ∧ g120_44 ≤ 8 := by rw [← eg120_44]; exact ir_120_44 hI.2.1
  obtain ⟨g120_50, eg120_50⟩ : ∃ v, rd M0 120 50 = v := ⟨_, rfl⟩
  have bg120_50 : 0 ≤ g120_50 ∧ g120_50 ≤ 20 := by rw [← eg120_50]; exact ir_120_50 hI.2.1
  obtain ⟨g136_0, eg136_0⟩ : ∃ v, rd M0 136 0 = v := ⟨_, rfl⟩
  have bg136_0 : 0 ≤ g136_0 ∧ g136_0 ≤ 200 := by rw [← eg136_0]; exact ir_136_0 hI.2.1
  obtain ⟨g9006_0, eg9006_0⟩ : ∃ v, nwv M0 = v := ⟨_, rfl⟩
  have bg9006_0 : 0 ≤ g9006_0 ∧ g9006_0 ≤ 20 := by rw [← eg9006_0]; exact (nwv_b hI.2.1)
  obtain ⟨g129_0, eg129_0⟩ : ∃ v, rd M0 129 0 = v := ⟨_, rfl⟩
  have bg129_0 : 0 ≤ g129_0 ∧ g129_0 ≤ 60 := by rw [← eg129_0]; exact ir_129_0 hI.2.1
  refine Tr.aload_n (pc := 0) (i := 0) d_X12_text_0 rfl rfl ?_
  refine Tr.aload_n (pc := 1) (i := 0) d_X12_text_1 rfl rfl ?_
  refine Tr.getf (pc := 2) d_X12_text_2 f_12_13 (by decide) (by decide) (ty_120 hS.1.1) ?_
  refine Tr.gen (P := fun v => 0 ≤ v ∧ v ≤ 900) (ir_120_1 hS.1.2.1) (fun r2 er2 br2 => ?_)
  refine Tr.putfS (pc := 5) (P := St Tru ws_X12_text_120_w1 as_X12_text_120_w1 M0) d_X12_text_5 f_12_17 (by decide) (by decide) (ty_120 hS.1.1) (st_120_2 hS (by decide) (by and_intros <;> omega) trivial) (fun M5 hS w5 => ?_)
  refine Tr.aload_n (pc := 8) (i := 0) d_X12_text_8 rfl rfl ?_
  refine Tr.iconst (pc := 9) d_X12_text_9 (by decide) ?_
  refine Tr.putfS (pc := 10) (P := St Tru ws_X12_text_120_w1 as_X12_text_120_w1 M0) d_X12_text_10 f_12_13 (by decide) (by decide) (ty_120 hS.1.1) (st_120_1 hS (by decide) (by omega) trivial) (fun M10 hS w10 => ?_)
  refine Tr.aload_n (pc := 13) (i := 0) d_X12_text_13 rfl rfl ?_
  refine Tr.iconst (pc := 14) d_X12_text_14 (by decide) ?_
  refine Tr.putfS (pc := 15) (P := St Tru ws_X12_text_120_w1 as_X12_text_120_w1 M0) d_X12_text_15 f_12_26 (by decide) (by decide) (ty_120 hS.1.1) (st_120_5 hS (by decide) (by omega) trivial) (fun M15 hS w15 => ?_)
  refine Tr.aload_n (pc := 18) (i := 0) d_X12_text_18 rfl rfl ?_
  refine Tr.iconst (pc := 19) d_X12_text_19 (by decide) ?_
  refine Tr.putfS (pc := 20) (P := St Tru ws_X12_text_120_w1 as_X12_text_120_w1 M0) d_X12_text_20 f_12_36 (by decide) (by decide) (ty_120 hS.1.1) (st_120_8 hS (by decide) (by omega) trivial) (fun M20 hS w20 => ?_)
  refine Tr.aload_n (pc := 23) (i := 0) d_X12_text_23 rfl rfl ?_
  refine Tr.iconst (pc := 24) d_X12_text_24 (by decide) ?_
  refine Tr.putfS (pc := 25) (P := St Tru ws_X12_text_120_w1 as_X12_text_120_w1 M0) d_X12_text_25 f_12_39 (by decide) (by decide) (ty_120 hS.1.1) (st_120_9 hS (by decide) (by omega) trivial) (fun M25 hS w25 => ?_)
  refine Tr.aload_n (pc := 28) (i := 0) d_X12_text_28 rfl rfl ?_
  refine Tr.iconst (pc := 29) d_X12_text_29 (by decide) ?_
  refine Tr.aload_n (pc := 30) (i := 0) d_X12_text_30 rfl rfl ?_
  refine Tr.getf (pc := 31) d_X12_text_31 f_12_48 (by decide) (by decide) (ty_120 hS.1.1) ?_
  refine Tr.tp 1 ((Wr.b w25 rfl).trans ((Wr.b w20 rfl).trans ((Wr.b w15 rfl).trans ((Wr.b w10 rfl).trans ((Wr.b w5 rfl).trans en_120_12))))) ?_
  refine Tr.isub (pc := 34) d_X12_text_34 ?_
  refine Tr.tp 0 (by decide) ?_
  refine Tr.putfS (pc := 35) (P := St Tru ws_X12_text_120_w1 as_X12_text_120_w1 M0) d_X12_text_35 f_12_124 (by decide) (by decide) (ty_120 hS.1.1) (st_120_37 hS (by decide) (by omega) trivial) (fun M35 hS w35 => ?_)
  refine Tr.aload_n (pc := 38) (i := 0) d_X12_text_38 rfl rfl ?_
  refine Tr.getf (pc := 39) d_X12_text_39 f_12_51 (by decide) (by decide) (ty_120 hS.1.1) ?_
  refine Tr.tp 122 (fx_120_13 hS.1.1) ?_
  refine Tr.aload_n (pc := 42) (i := 0) d_X12_text_42 rfl rfl ?_
  refine Tr.getf (pc := 43) d_X12_text_43 f_12_124 (by decide) (by decide) (ty_120 hS.1.1) ?_
  refine Tr.tp 0 w35.1 ?_
  refine Tr.iconst (pc := 46) d_X12_text_46 (by decide) ?_
  refine Tr.iastS (pc := 47) (P := St Tru ws_X12_text_120_w1 as_X12_text_120_w1 M0) d_X12_text_47 (ty_122 hS.1.1) (by omega) (by omega) (st_122_0 hS (by decide) (by omega) trivial) (fun M47 hS w47 => ?_)
  refine Tr.aload_n (pc := 48) (i := 0) d_X12_text_48 rfl rfl ?_
  refine Tr.getf (pc := 49) d_X12_text_49 f_12_54 (by decide) (by decide) (ty_120 hS.1.1) ?_
  refine Tr.tp 123 (fx_120_14 hS.1.1) ?_
  refine Tr.aload_n (pc := 52) (i := 0) d_X12_text_52 rfl rfl ?_
  refine Tr.getf (pc := 53) d_X12_text_53 f_12_124 (by decide) (by decide) (ty_120 hS.1.1) ?_
  refine Tr.tp 0 ((Wr.b w47 rfl).trans w35.1) ?_
  refine Tr.iconst (pc := 56) d_X12_text_56 (by decide) ?_
  refine Tr.iastS (pc := 57) (P := St Tru ws_X12_text_120_w1 as_X12_text_120_w1 M0) d_X12_text_57 (ty_123 hS.1.1) (by omega) (by omega) (st_123_0 hS (by decide) (by omega) trivial) (fun M57 hS w57 => ?_)
  refine Tr.aload_n (pc := 58) (i := 0) d_X12_text_58 rfl rfl ?_
  refine Tr.getf (pc := 59) d_X12_text_59 f_12_57 (by decide) (by decide) (ty_120 hS.1.1) ?_
  refine Tr.tp 124 (fx_120_15 hS.1.1) ?_
  refine Tr.aload_n (pc := 62) (i := 0) d_X12_text_62 rfl rfl ?_
  refine Tr.getf (pc := 63) d_X12_text_63 f_12_124 (by decide) (by decide) (ty_120 hS.1.1) ?_
  refine Tr.tp 0 ((Wr.b w57 rfl).trans ((Wr.b w47 rfl).trans w35.1)) ?_
  refine Tr.iconst (pc := 66) d_X12_text_66 (by decide) ?_
  refine Tr.iastS (pc := 67) (P := St Tru ws_X12_text_120_w1 as_X12_text_120_w1 M0) d_X12_text_67 (ty_124 hS.1.1) (by omega) (by omega) (st_124_0 hS (by decide) (by omega) trivial) (fun M67 hS w67 => ?_)
  refine Tr.aload_n (pc := 68) (i := 0) d_X12_text_68 rfl rfl ?_
  refine Tr.getf (pc := 69) d_X12_text_69 f_12_60 (by decide) (by decide) (ty_120 hS.1.1) ?_
  refine Tr.tp 125 (fx_120_16 hS.1.1) ?_
  refine Tr.aload_n (pc := 72) (i := 0) d_X12_text_72 rfl rfl ?_
  refine Tr.getf (pc := 73) d_X12_text_73 f_12_124 (by decide) (by decide) (ty_120 hS.1.1) ?_
  refine Tr.tp 0 ((Wr.b w67 rfl).trans ((Wr.b w57 rfl).trans ((Wr.b w47 rfl).trans w35.1))) ?_
  refine Tr.iconst (pc := 76) d_X12_text_76 (by decide) ?_
  refine Tr.iastS (pc := 77) (P := St Tru ws_X12_text_120_w1 as_X12_text_120_w1 M0) d_X12_text_77 (ty_125 hS.1.1) (by omega) (by omega) (st_125_0 hS (by decide) (by omega) trivial) (fun M77 hS w77 => ?_)
  refine Tr.aload_n (pc := 78) (i := 0) d_X12_text_78 rfl rfl ?_
  refine Tr.getf (pc := 79) d_X12_text_79 f_12_63 (by decide) (by decide) (ty_120 hS.1.1) ?_
  refine Tr.tp 126 (fx_120_17 hS.1.1) ?_
  refine Tr.aload_n (pc := 82) (i := 0) d_X12_text_82 rfl rfl ?_
  refine Tr.getf (pc := 83) d_X12_text_83 f_12_124 (by decide) (by decide) (ty_120 hS.1.1) ?_
  refine Tr.tp 0 ((Wr.b w77 rfl).trans ((Wr.b w67 rfl).trans ((Wr.b w57 rfl).trans ((Wr.b w47 rfl).trans w35.1)))) ?_
  refine Tr.iconst (pc := 86) d_X12_text_86 (by decide) ?_
  refine Tr.iastS (pc := 87) (P := St Tru ws_X12_text_120_w1 as_X12_text_120_w1 M0) d_X12_text_87 (ty_126 hS.1.1) (by omega) (by omega) (st_126_0 hS (by decide) (by omega) trivial) (fun M87 hS w87 => ?_)
  refine Tr.aload_n (pc := 88) (i := 0) d_X12_text_88 rfl rfl ?_
  refine Tr.getf (pc := 89) d_X12_text_89 f_12_66 (by decide) (by decide) (ty_120 hS.1.1) ?_
  refine Tr.tp 127 (fx_120_18 hS.1.1) ?_
  refine Tr.aload_n (pc := 92) (i := 0) d_X12_text_92 rfl rfl ?_
  refine Tr.getf (pc := 93) d_X12_text_93 f_12_124 (by decide) (by decide) (ty_120 hS.1.1) ?_
  refine Tr.tp 0 ((Wr.b w87 rfl).trans ((Wr.b w77 rfl).trans ((Wr.b w67 rfl).trans ((Wr.b w57 rfl).trans ((Wr.b w47 rfl).trans w35.1))))) ?_
  refine Tr.iconst (pc := 96) d_X12_text_96 (by decide) ?_
  refine Tr.iastS (pc := 97) (P := St Tru ws_X12_text_120_w1 as_X12_text_120_w1 M0) d_X12_text_97 (ty_127 hS.1.1) (by omega) (by omega) (st_127_0 hS (by decide) (by omega) trivial) (fun M97 hS w97 => ?_)
  refine Tr.aload_n (pc := 98) (i := 0) d_X12_text_98 rfl rfl ?_
  refine Tr.getf (pc := 99) d_X12_text_99 f_12_69 (by decide) (by decide) (ty_120 hS.1.1) ?_
  refine Tr.tp 128 (fx_120_19 hS.1.1) ?_
  refine Tr.aload_n (pc := 102) (i := 0) d_X12_text_102 rfl rfl ?_
  refine Tr.getf (pc := 103) d_X12_text_103 f_12_124 (by decide) (by decide) (ty_120 hS.1.1) ?_
  refine Tr.tp 0 ((Wr.b w97 rfl).trans ((Wr.b w87 rfl).trans ((Wr.b w77 rfl).trans ((Wr.b w67 rfl).trans ((Wr.b w57 rfl).trans ((Wr.b w47 rfl).trans w35.1)))))) ?_
  refine Tr.iconst (pc := 106) d_X12_text_106 (by decide) ?_
  refine Tr.iastS (pc := 107) (P := St Tru ws_X12_text_120_w1 as_X12_text_120_w1 M0) d_X12_text_107 (ty_128 hS.1.1) (by omega) (by omega) (st_128_0 hS (by decide) (by omega) trivial) (fun M107 hS w107 => ?_)
  refine Tr.aload_n (pc := 108) (i := 0) d_X12_text_108 rfl rfl ?_
  refine Tr.getf (pc := 109) d_X12_text_109 f_12_72 (by decide) (by decide) (ty_120 hS.1.1) ?_
  refine Tr.tp 129 (fx_120_20 hS.1.1) ?_
  refine Tr.aload_n (pc := 112) (i := 0) d_X12_text_112 rfl rfl ?_
  refine Tr.getf (pc := 113) d_X12_text_113 f_12_124 (by decide) (by decide) (ty_120 hS.1.1) ?_
  refine Tr.tp 0 ((Wr.b w107 rfl).trans ((Wr.b w97 rfl).trans ((Wr.b w87 rfl).trans ((Wr.b w77 rfl).trans ((Wr.b w67 rfl).trans ((Wr.b w57 rfl).trans ((Wr.b w47 rfl).trans w35.1))))))) ?_
  refine Tr.iconst (pc := 116) d_X12_text_116 (by decide) ?_
  refine Tr.iastS (pc := 117) (P := St Tru ws_X12_text_120_w1 as_X12_text_120_w1 M0) d_X12_text_117 (ty_129 hS.1.1) (by omega) (by omega) (st_129_0 hS (by decide) (by omega) trivial) (fun M117 hS w117 => ?_)
  refine Tr.aload_n (pc := 118) (i := 0) d_X12_text_118 rfl rfl ?_
  refine Tr.getf (pc := 119) d_X12_text_119 f_12_94 (by decide) (by decide) (ty_120 hS.1.1) ?_
  refine Tr.tp 136 (fx_120_27 hS.1.1) ?_
  refine Tr.aload_n (pc := 122) (i := 0) d_X12_text_122 rfl rfl ?_
  refine Tr.getf (pc := 123) d_X12_text_123 f_12_124 (by decide) (by decide) (ty_120 hS.1.1) ?_
  refine Tr.tp 0 ((Wr.b w117 rfl).trans ((Wr.b w107 rfl).trans ((Wr.b w97 rfl).trans ((Wr.b w87 rfl).trans ((Wr.b w77 rfl).trans ((Wr.b w67 rfl).trans ((Wr.b w57 rfl).trans ((Wr.b w47 rfl).trans w35.1)))))))) ?_
  refine Tr.iconst (pc := 126) d_X12_text_126 (by decide) ?_
  refine Tr.iastS (pc := 127) (P := St Tru ws_X12_text_120_w1 as_X12_text_120_w1 M0) d_X12_text_127 (ty_136 hS.1.1) (by omega) (by omega) (st_136_0 hS (by decide) (by omega) trivial) (fun M127 hS w127 => ?_)
  refine Tr.aload_n (pc := 128) (i := 0) d_X12_text_128 rfl rfl ?_
  refine Tr.iconst (pc := 129) d_X12_text_129 (by decide) ?_
  refine Tr.putfS (pc := 130) (P := St Tru ws_X12_text_120_w1 as_X12_text_120_w1 M0) d_X12_text_130 f_12_121 (by decide) (by decide) (ty_120 hS.1.1) (st_120_36 hS (by decide) (by omega) trivial) (fun M130 hS w130 => ?_)
  refine Tr.aload_n (pc := 133) (i := 0) d_X12_text_133 rfl rfl ?_
  refine Tr.iconst (pc := 134) d_X12_text_134 (by decide) ?_
  refine Tr.putfS (pc := 135) (P := St Tru ws_X12_text_120_w1 as_X12_text_120_w1 M0) d_X12_text_135 f_12_146 (by decide) (by decide) (ty_120 hS.1.1) (st_120_44 hS (by decide) (by omega) trivial) (fun M135 hS w135 => ?_)
  refine Tr.aload_n (pc := 138) (i := 0) d_X12_text_138 rfl rfl ?_
  refine Tr.iconst (pc := 139) d_X12_text_139 (by decide) ?_
  refine Tr.putfS (pc := 140) (P := St Tru ws_X12_text_120_w1 as_X12_text_120_w1 M0) d_X12_text_140 f_12_165 (by decide) (by decide) (ty_120 hS.1.1) (st_120_50 hS (by decide) (by omega) trivial) (fun M140 hS w140 => ?_)
  obtain ⟨v140_9006, ev140_9006⟩ : ∃ v, nwv M140 = v := ⟨_, rfl⟩
  have bv140_9006 : 0 ≤ v140_9006 ∧ v140_9006 ≤ 20 := by rw [← ev140_9006]; exact (nwv_b hS.1.2.1)
  have fv140_9006 : v140_9006 = 0 := by have h8 := ct_zero (x := 151) (j := 50) (e := 1) (a := 0) (b := 1) (M := M140) w140.1; have h7 : ctV 151 50 1 0 1 M140 = v140_9006 := ev140_9006; omega
  have hS := St.rn (r := Pm0) hS (Pm0_new (Bk1.of hF_Bk1 (fun j => ((Wr.b w140 rfl).trans ((Wr.b w135 rfl).trans ((Wr.b w130 rfl).trans ((Wr.b w127 rfl).trans ((Wr.b w117 rfl).trans ((Wr.b w107 rfl).trans ((Wr.b w97 rfl).trans ((Wr.b w87 rfl).trans ((Wr.b w77 rfl).trans ((Wr.b w67 rfl).trans ((Wr.b w57 rfl).trans ((Wr.b w47 rfl).trans ((Wr.b w35 rfl).trans ((Wr.b w25 rfl).trans ((Wr.b w20 rfl).trans ((Wr.b w15 rfl).trans ((Wr.b w10 rfl).trans ((Wr.b w5 rfl).trans rfl))))))))))))))))))) (fun j => ((Wr.b w140 rfl).trans ((Wr.b w135 rfl).trans ((Wr.b w130 rfl).trans ((Wr.b w127 rfl).trans ((Wr.b w117 rfl).trans ((Wr.b w107 rfl).trans ((Wr.b w97 rfl).trans ((Wr.b w87 rfl).trans ((Wr.b w77 rfl).trans ((Wr.b w67 rfl).trans ((Wr.b w57 rfl).trans ((Wr.b w47 rfl).trans ((Wr.b w35 rfl).trans ((Wr.b w25 rfl).trans ((Wr.b w20 rfl).trans ((Wr.b w15 rfl).trans ((Wr.b w10 rfl).trans ((Wr.b w5 rfl).trans rfl))))))))))))))))))) (fun j => ((Wr.b w140 rfl).trans ((Wr.b w135 rfl).trans ((Wr.b w130 rfl).trans ((Wr.b w127 rfl).trans ((Wr.b w117 rfl).trans ((Wr.b w107 rfl).trans ((Wr.b w97 rfl).trans ((Wr.b w87 rfl).trans ((Wr.b w77 rfl).trans ((Wr.b w67 rfl).trans ((Wr.b w57 rfl).trans ((Wr.b w47 rfl).trans ((Wr.b w35 rfl).trans ((Wr.b w25 rfl).trans ((Wr.b w20 rfl).trans ((Wr.b w15 rfl).trans ((Wr.b w10 rfl).trans ((Wr.b w5 rfl).trans rfl))))))))))))))))))) (fun j => ((Wr.b w140 rfl).trans ((Wr.b w135 rfl).trans ((Wr.b w130 rfl).trans ((Wr.b w127 rfl).trans ((Wr.b w117 rfl).trans ((Wr.b w107 rfl).trans ((Wr.b w97 rfl).trans ((Wr.b w87 rfl).trans ((Wr.b w77 rfl).trans ((Wr.b w67 rfl).trans ((Wr.b w57 rfl).trans ((Wr.b w47 rfl).trans ((Wr.b w35 rfl).trans ((Wr.b w25 rfl).trans ((Wr.b w20 rfl).trans ((Wr.b w15 rfl).trans ((Wr.b w10 rfl).trans ((Wr.b w5 rfl).trans rfl))))))))))))))))))) (fun j => ((Wr.b w140 rfl).trans ((Wr.b w135 rfl).trans ((Wr.b w130 rfl).trans ((Wr.b w127 rfl).trans ((Wr.b w117 rfl).trans ((Wr.b w107 rfl).trans ((Wr.b w97 rfl).trans ((Wr.b w87 rfl).trans ((Wr.b w77 rfl).trans ((Wr.b w67 rfl).trans ((Wr.b w57 rfl).trans ((Wr.b w47 rfl).trans ((Wr.b w35 rfl).trans ((Wr.b w25 rfl).trans ((Wr.b w20 rfl).trans ((Wr.b w15 rfl).trans ((Wr.b w10 rfl).trans ((Wr.b w5 rfl).trans rfl))))))))))))))))))) (fun j => ((Wr.b w140 rfl).trans ((Wr.b w135 rfl).trans ((Wr.b w130 rfl).trans ((Wr.b w127 rfl).trans ((Wr.b w117 rfl).trans ((Wr.b w107 rfl).trans ((Wr.b w97 rfl).trans ((Wr.b w87 rfl).trans ((Wr.b w77 rfl).trans ((Wr.b w67 rfl).trans ((Wr.b w57 rfl).trans ((Wr.b w47 rfl).trans ((Wr.b w35 rfl).trans ((Wr.b w25 rfl).trans ((Wr.b w20 rfl).trans ((Wr.b w15 rfl).trans ((Wr.b w10 rfl).trans ((Wr.b w5 rfl).trans rfl))))))))))))))))))) (fun j => ((Wr.b w140 rfl).trans ((Wr.b w135 rfl).trans ((Wr.b w130 rfl).trans ((Wr.b w127 rfl).trans ((Wr.b w117 rfl).trans ((Wr.b w107 rfl).trans ((Wr.b w97 rfl).trans ((Wr.b w87 rfl).trans ((Wr.b w77 rfl).trans ((Wr.b w67 rfl).trans ((Wr.b w57 rfl).trans ((Wr.b w47 rfl).trans ((Wr.b w35 rfl).trans ((Wr.b w25 rfl).trans ((Wr.b w20 rfl).trans ((Wr.b w15 rfl).trans ((Wr.b w10 rfl).trans ((Wr.b w5 rfl).trans rfl))))))))))))))))))) (fun j => ((Wr.b w140 rfl).trans ((Wr.b w135 rfl).trans ((Wr.b w130 rfl).trans ((Wr.b w127 rfl).trans ((Wr.b w117 rfl).trans ((Wr.b w107 rfl).trans ((Wr.b w97 rfl).trans ((Wr.b w87 rfl).trans ((Wr.b w77 rfl).trans ((Wr.b w67 rfl).trans ((Wr.b w57 rfl).trans ((Wr.b w47 rfl).trans ((Wr.b w35 rfl).trans ((Wr.b w25 rfl).trans ((Wr.b w20 rfl).trans ((Wr.b w15 rfl).trans ((Wr.b w10 rfl).trans ((Wr.b w5 rfl).trans rfl))))))))))))))))))) ((Wr.b w140 rfl).trans ((Wr.b w135 rfl).trans ((Wr.b w130 rfl).trans ((Wr.b w127 rfl).trans ((Wr.b w117 rfl).trans ((Wr.b w107 rfl).trans ((Wr.b w97 rfl).trans ((Wr.b w87 rfl).trans ((Wr.b w77 rfl).trans ((Wr.b w67 rfl).trans ((Wr.b w57 rfl).trans ((Wr.b w47 rfl).trans ((Wr.b w35 rfl).trans ((Wr.b w25 rfl).trans ((Wr.b w20 rfl).trans ((Wr.b w15 rfl).trans ((Wr.b w10 rfl).trans ((Wr.b w5 rfl).trans rfl)))))))))))))))))) ((Wr.b w140 rfl).trans ((Wr.b w135 rfl).trans ((Wr.b w130 rfl).trans ((Wr.b w127 rfl).trans ((Wr.b w117 rfl).trans ((Wr.b w107 rfl).trans ((Wr.b w97 rfl).trans ((Wr.b w87 rfl).trans ((Wr.b w77 rfl).trans ((Wr.b w67 rfl).trans ((Wr.b w57 rfl).trans ((Wr.b w47 rfl).trans ((Wr.b w35 rfl).trans ((Wr.b w25 rfl).trans ((Wr.b w20 rfl).trans ((Wr.b w15 rfl).trans ((Wr.b w10 rfl).trans ((Wr.b w5 rfl).trans rfl)))))))))))))))))) ((Wr.b w140 rfl).trans ((Wr.b w135 rfl).trans ((Wr.b w130 rfl).trans ((Wr.b w127 rfl).trans ((Wr.b w117 rfl).trans ((Wr.b w107 rfl).trans ((Wr.b w97 rfl).trans ((Wr.b w87 rfl).trans ((Wr.b w77 rfl).trans ((Wr.b w67 rfl).trans ((Wr.b w57 rfl).trans ((Wr.b w47 rfl).trans ((Wr.b w35 rfl).trans ((Wr.b w25 rfl).trans ((Wr.b w20 rfl).trans ((Wr.b w15 rfl).trans ((Wr.b w10 rfl).trans ((Wr.b w5 rfl).trans rfl)))))))))))))))))) ((Wr.b w140 rfl).trans ((Wr.b w135 rfl).trans ((Wr.b w130 rfl).trans ((Wr.b w127 rfl).trans ((Wr.b w117 rfl).trans ((Wr.b w107 rfl).trans ((Wr.b w97 rfl).trans ((Wr.b w87 rfl).trans ((Wr.b w77 rfl).trans ((Wr.b w67 rfl).trans ((Wr.b w57 rfl).trans ((Wr.b w47 rfl).trans ((Wr.b w35 rfl).trans ((Wr.b w25 rfl).trans ((Wr.b w20 rfl).trans ((Wr.b w15 rfl).trans ((Wr.b w10 rfl).trans ((Wr.b w5 rfl).trans rfl))))))))))))))))))) (((Wr.b w140 rfl).trans ((Wr.b w135 rfl).trans ((Wr.b w130 rfl).trans ((Wr.b w127 rfl).trans ((Wr.b w117 rfl).trans ((Wr.b w107 rfl).trans ((Wr.b w97 rfl).trans w87.1)))))))) (((Wr.b w140 rfl).trans ((Wr.b w135 rfl).trans ((Wr.b w130 rfl).trans w127.1)))) (((Wr.b w140 rfl).trans ((Wr.b w135 rfl).trans ((Wr.b w130 rfl).trans ((Wr.b w127 rfl).trans ((Wr.b w117 rfl).trans ((Wr.b w107 rfl).trans ((Wr.b w97 rfl).trans ((Wr.b w87 rfl).trans ((Wr.b w77 rfl).trans ((Wr.b w67 rfl).trans w57.1))))))))))) (((Wr.b w140 rfl).trans ((Wr.b w135 rfl).trans ((Wr.b w130 rfl).trans ((Wr.b w127 rfl).trans ((Wr.b w117 rfl).trans ((Wr.b w107 rfl).trans ((Wr.b w97 rfl).trans ((Wr.b w87 rfl).trans ((Wr.b w77 rfl).trans w67.1)))))))))) (w140.1))
  refine Tr.aload_n (pc := 143) (i := 0) d_X12_text_143 rfl rfl ?_
  refine Tr.callV (pc := 144) (as := []) d_X12_text_144 s_12_396 ok_X12_next rfl rfl (Nat.le_of_ble_eq_true rfl) (Nat.le_of_ble_eq_true rfl) (by decide) (ty_120 hS.1.1) ?_
  obtain ⟨w144_9010_0, ew144_9010_0⟩ : ∃ v, tav M140 = v := ⟨_, rfl⟩
  have bw144_9010_0 : (-1) ≤ w144_9010_0 ∧ w144_9010_0 ≤ 1800 := by rw [← ew144_9010_0]; exact (tav_b hS.1.2.1)
  refine Tr.imp (Tr.deep (by decide) (ns_X12_next_120_w1 (G120_3 := g120_3) (G120_5 := 0) (G120_8 := 0) (G9010_0 := w144_9010_0) hS.1 (((Wr.b w140 rfl).trans ((Wr.b w135 rfl).trans ((Wr.b w130 rfl).trans ((Wr.b w127 rfl).trans ((Wr.b w117 rfl).trans ((Wr.b w107 rfl).trans ((Wr.b w97 rfl).trans ((Wr.b w87 rfl).trans ((Wr.b w77 rfl).trans ((Wr.b w67 rfl).trans ((Wr.b w57 rfl).trans ((Wr.b w47 rfl).trans ((Wr.b w35 rfl).trans ((Wr.b w25 rfl).trans ((Wr.b w20 rfl).trans ((Wr.b w15 rfl).trans ((Wr.b w10 rfl).trans ((Wr.b w5 rfl).trans eg120_3))))))))))))))))))) (((Wr.b w140 rfl).trans ((Wr.b w135 rfl).trans ((Wr.b w130 rfl).trans ((Wr.b w127 rfl).trans ((Wr.b w117 rfl).trans ((Wr.b w107 rfl).trans ((Wr.b w97 rfl).trans ((Wr.b w87 rfl).trans ((Wr.b w77 rfl).trans ((Wr.b w67 rfl).trans ((Wr.b w57 rfl).trans ((Wr.b w47 rfl).trans ((Wr.b w35 rfl).trans ((Wr.b w25 rfl).trans ((Wr.b w20 rfl).trans w15.1)))))))))))))))) (((Wr.b w140 rfl).trans ((Wr.b w135 rfl).trans ((Wr.b w130 rfl).trans ((Wr.b w127 rfl).trans ((Wr.b w117 rfl).trans ((Wr.b w107 rfl).trans ((Wr.b w97 rfl).trans ((Wr.b w87 rfl).trans ((Wr.b w77 rfl).trans ((Wr.b w67 rfl).trans ((Wr.b w57 rfl).trans ((Wr.b w47 rfl).trans ((Wr.b w35 rfl).trans ((Wr.b w25 rfl).trans w20.1))))))))))))))) (ew144_9010_0))) ?_
  rintro M144 _ ⟨h144, s144_120_3, s144_120_4, s144_120_5, s144_120_7, s144_120_8, s144_9010_0, es144_120_3, bs144_120_3, es144_120_4, bs144_120_4, es144_120_5, bs144_120_5, es144_120_7, bs144_120_7, es144_120_8, bs144_120_8, es144_9010_0, bs144_9010_0, rfl, z144_0, z144_1, z144_2, z144_3, z144_4, z144_5, z144_6⟩
  have hS := St.tr hS h144 (by decide) (by decide)
  refine Tr.sc [] rfl ?_
  refine Tr.iconst (pc := 147) d_X12_text_147 (by decide) ?_
  refine Tr.istore_n (pc := 148) (i := 1) (ls2 := [(1, (0, 1)), (0, (2, 120))]) d_X12_text_148 rfl (by decide) rfl ?_
  have J149 : ∀ (n149 : Nat) (M : Mem) (p149_1 u149_120_3 u149_120_4 u149_120_5 u149_120_6 u149_120_7 u149_120_8 u149_9010_0 : Int), St Pm0 ws_X12_text_120_w1 as_X12_text_120_w1 M0 M → (0 ≤ p149_1 ∧ p149_1 ≤ 1) → (0 ≤ u149_120_3 ∧ u149_120_3 ≤ 3) → (0 ≤ u149_120_4 ∧ u149_120_4 ≤ 900) → (0 ≤ u149_120_5 ∧ u149_120_5 ≤ 900) → ((-2147483648) ≤ u149_120_6 ∧ u149_120_6 ≤ 2147483647) → ((-9223372036854775808) ≤ u149_120_7 ∧ u149_120_7 ≤ 9223372036854775807) → (0 ≤ u149_120_8 ∧ u149_120_8 ≤ 5) → ((-1) ≤ u149_9010_0 ∧ u149_9010_0 ≤ 1800) → rd M 120 1 = 0 → rd M 120 12 = 1 → rd M 120 2 = r2 → rd M 120 3 = u149_120_3 → rd M 120 36 = 0 → rd M 120 37 = 0 → rd M 120 4 = u149_120_4 → rd M 120 44 = 0 → rd M 120 5 = u149_120_5 → rd M 120 50 = 0 → rd M 120 6 = u149_120_6 → rd M 120 7 = u149_120_7 → rd M 120 8 = u149_120_8 → rd M 129 0 = 0 → rd M 136 0 = 0 → nwv M = v140_9006 → tav M = u149_9010_0 → (u149_120_3 = 0 ∨ u149_120_4 + 1 ≤ u149_120_5) → (u149_120_4 ≤ u149_120_5) → (u149_120_3 ≠ 1 ∨ u149_120_4 + 2 ≤ u149_120_5 ∨ u149_120_7 < 256) → (0 ≤ 0) → (0 + 0 ≤ u149_120_4) → (1 ≤ u149_120_8 ∨ 0 + v140_9006 ≤ 2 * 0) → (4 * (1802 - u149_9010_0) + 2 * (5 - u149_120_8) + p149_1).toNat < n149 → Tr l K 6 mX12_text 149 [(0, (2, 120)), (1, (0, p149_1))] [] M (q_X12_text_120_w1 M0) := by
    intro n149
    induction n149 with
    | zero => intro M p149_1 u149_120_3 u149_120_4 u149_120_5 u149_120_6 u149_120_7 u149_120_8 u149_9010_0 hS bp149_1 bu149_120_3 bu149_120_4 bu149_120_5 bu149_120_6 bu149_120_7 bu149_120_8 bu149_9010_0 k149_120_1 k149_120_12 k149_120_2 k149_120_3 k149_120_36 k149_120_37 k149_120_4 k149_120_44 k149_120_5 k149_120_50 k149_120_6 k149_120_7 k149_120_8 k149_129_0 k149_136_0 k149_9006_0 k149_9010_0 t149_0 t149_1 t149_2 t149_3 t149_4 t149_5 hm149; exact absurd hm149 (Nat.not_lt_zero _)
    | succ n149 J149 =>
      intro M p149_1 u149_120_3 u149_120_4 u149_120_5 u149_120_6 u149_120_7 u149_120_8 u149_9010_0 hS bp149_1 bu149_120_3 bu149_120_4 bu149_120_5 bu149_120_6 bu149_120_7 bu149_120_8 bu149_9010_0 k149_120_1 k149_120_12 k149_120_2 k149_120_3 k149_120_36 k149_120_37 k149_120_4 k149_120_44 k149_120_5 k149_120_50 k149_120_6 k149_120_7 k149_120_8 k149_129_0 k149_136_0 k149_9006_0 k149_9010_0 t149_0 t149_1 t149_2 t149_3 t149_4 t149_5 hm149
      clear er2 w5 w10 w15 w20 w25 w35 w47 w57 w67 w77 w87 w97 w107 w117 w127 w130 w135 w140 ev140_9006 ew144_9010_0 es144_120_3 es144_120_4 es144_120_5 es144_120_7 es144_120_8 es144_9010_0
      replace t149_0 := hd_i t149_0
      replace t149_2 := hd_i t149_2
      replace t149_5 := hd_i t149_5
      refine Tr.aload_n (pc := 149) (i := 0) d_X12_text_149 rfl rfl ?_
      refine Tr.getf (pc := 150) d_X12_text_150 f_12_36 (by decide) (by decide) (ty_120 hS.1.1) ?_
      refine Tr.tp u149_120_8 k149_120_8 ?_
      have J183 : ∀ (n183 : Nat) (M : Mem) (u183_120_3 u183_120_4 u183_120_5 u183_120_6 u183_120_7 u183_120_8 u183_120_36 u183_120_44 u183_120_50 u183_129_0 u183_136_0 u183_9006_0 u183_9010_0 : Int), St Pm0 ws_X12_text_120_w1 as_X12_text_120_w1 M0 M → (0 ≤ u183_120_3 ∧ u183_120_3 ≤ 3) → (0 ≤ u183_120_4 ∧ u183_120_4 ≤ 900) → (0 ≤ u183_120_5 ∧ u183_120_5 ≤ 900) → ((-2147483648) ≤ u183_120_6 ∧ u183_120_6 ≤ 2147483647) → ((-9223372036854775808) ≤ u183_120_7 ∧ u183_120_7 ≤ 9223372036854775807) → (0 ≤ u183_120_8 ∧ u183_120_8 ≤ 5) → (0 ≤ u183_120_36 ∧ u183_120_36 ≤ 900) → (0 ≤ u183_120_44 ∧ u183_120_44 ≤ 8) → (0 ≤ u183_120_50 ∧ u183_120_50 ≤ 20) → (0 ≤ u183_129_0 ∧ u183_129_0 ≤ 60) → (0 ≤ u183_136_0 ∧ u183_136_0 ≤ 200) → (0 ≤ u183_9006_0 ∧ u183_9006_0 ≤ 20) → ((-1) ≤ u183_9010_0 ∧ u183_9010_0 ≤ 1800) → rd M 120 1 = 0 → rd M 120 12 = 1 → rd M 120 2 = r2 → rd M 120 3 = u183_120_3 → rd M 120 36 = u183_120_36 → rd M 120 37 = 0 → rd M 120 4 = u183_120_4 → rd M 120 44 = u183_120_44 → rd M 120 5 = u183_120_5 → rd M 120 50 = u183_120_50 → rd M 120 6 = u183_120_6 → rd M 120 7 = u183_120_7 → rd M 120 8 = u183_120_8 → rd M 129 0 = u183_129_0 → rd M 136 0 = u183_136_0 → nwv M = u183_9006_0 → tav M = u183_9010_0 → (u183_120_3 = 0 ∨ u183_120_4 + 1 ≤ u183_120_5) → (u183_120_4 ≤ u183_120_5) → (u183_120_3 ≠ 1 ∨ u183_120_4 + 2 ≤ u183_120_5 ∨ u183_120_7 < 256) → (u183_120_50 ≤ u183_120_44) → (u183_120_36 + u183_120_44 ≤ u183_120_4) → (1 ≤ u183_120_8 ∨ u183_136_0 + u183_9006_0 ≤ 2 * u183_129_0) → (2 * (1802 - u183_9010_0) + (5 - u183_120_8)).toNat < n183 → Tr l K 6 mX12_text 183 [(0, (2, 120))] [] M (q_X12_text_120_w1 M0) := by
        intro n183
        induction n183 with
        | zero => intro M u183_120_3 u183_120_4 u183_120_5 u183_120_6 u183_120_7 u183_120_8 u183_120_36 u183_120_44 u183_120_50 u183_129_0 u183_136_0 u183_9006_0 u183_9010_0 hS bu183_120_3 bu183_120_4 bu183_120_5 bu183_120_6 bu183_120_7 bu183_120_8 bu183_120_36 bu183_120_44 bu183_120_50 bu183_129_0 bu183_136_0 bu183_9006_0 bu183_9010_0 k183_120_1 k183_120_12 k183_120_2 k183_120_3 k183_120_36 k183_120_37 k183_120_4 k183_120_44 k183_120_5 k183_120_50 k183_120_6 k183_120_7 k183_120_8 k183_129_0 k183_136_0 k183_9006_0 k183_9010_0 t183_0 t183_1 t183_2 t183_3 t183_4 t183_5 hm183; exact absurd hm183 (Nat.not_lt_zero _)
        | succ n183 J183 =>
          intro M u183_120_3 u183_120_4 u183_120_5 u183_120_6 u183_120_7 u183_120_8 u183_120_36 u183_120_44 u183_120_50 u183_129_0 u183_136_0 u183_9006_0 u183_9010_0 hS bu183_120_3 bu183_120_4 bu183_120_5 bu183_120_6 bu183_120_7 bu183_120_8 bu183_120_36 bu183_120_44 bu183_120_50 bu183_129_0 bu183_136_0 bu183_9006_0 bu183_9010_0 k183_120_1 k183_120_12 k183_120_2 k183_120_3 k183_120_36 k183_120_37 k183_120_4 k183_120_44 k183_120_5 k183_120_50 k183_120_6 k183_120_7 k183_120_8 k183_129_0 k183_136_0 k183_9006_0 k183_9010_0 t183_0 t183_1 t183_2 t183_3 t183_4 t183_5 hm183
          clear k149_120_1 k149_120_12 k149_120_2 k149_120_3 k149_120_36 k149_120_37 k149_120_4 k149_120_44 k149_120_5 k149_120_50 k149_120_6 k149_120_7 k149_120_8 k149_129_0 k149_136_0 k149_9006_0 k149_9010_0
          replace t183_0 := hd_i t183_0
          replace t183_2 := hd_i t183_2
          replace t183_5 := hd_i t183_5
          refine Tr.aload_n (pc := 183) (i := 0) d_X12_text_183 rfl rfl ?_
          refine Tr.getf (pc := 184) d_X12_text_184 f_12_36 (by decide) (by decide) (ty_120 hS.1.1) ?_
          refine Tr.tp u183_120_8 k183_120_8 ?_
          have J234 : ∀ (M : Mem), St Pm0 ws_X12_text_120_w1 as_X12_text_120_w1 M0 M → rd M 120 1 = 0 → rd M 120 12 = 1 → rd M 120 2 = r2 → rd M 120 3 = u183_120_3 → rd M 120 36 = u183_120_36 → rd M 120 37 = 0 → rd M 120 4 = u183_120_4 → rd M 120 44 = u183_120_44 → rd M 120 5 = u183_120_5 → rd M 120 50 = u183_120_50 → rd M 120 6 = u183_120_6 → rd M 120 7 = u183_120_7 → rd M 120 8 = u183_120_8 → rd M 129 0 = u183_129_0 → rd M 136 0 = u183_136_0 → nwv M = u183_9006_0 → tav M = u183_9010_0 → Tr l K 6 mX12_text 234 [(0, (2, 120))] [] M (q_X12_text_120_w1 M0) := by
            intro M  hS  k234_120_1 k234_120_12 k234_120_2 k234_120_3 k234_120_36 k234_120_37 k234_120_4 k234_120_44 k234_120_5 k234_120_50 k234_120_6 k234_120_7 k234_120_8 k234_129_0 k234_136_0 k234_9006_0 k234_9010_0
            clear k183_120_1 k183_120_12 k183_120_2 k183_120_3 k183_120_36 k183_120_37 k183_120_4 k183_120_44 k183_120_5 k183_120_50 k183_120_6 k183_120_7 k183_120_8 k183_129_0 k183_136_0 k183_9006_0 k183_9010_0
            refine Tr.aload_n (pc := 234) (i := 0) d_X12_text_234 rfl rfl ?_
            refine Tr.aload_n (pc := 235) (i := 0) d_X12_text_235 rfl rfl ?_
            refine Tr.getf (pc := 236) d_X12_text_236 f_12_36 (by decide) (by decide) (ty_120 hS.1.1) ?_
            refine Tr.tp u183_120_8 k234_120_8 ?_
            refine Tr.putfS (pc := 239) (P := St Pm0 ws_X12_text_120_w1 as_X12_text_120_w1 M0) d_X12_text_239 f_12_42 (by decide) (by decide) (ty_120 hS.1.1) (st_120_10 hS (by decide) (by and_intros <;> omega) (Pm0.of hS.1.2.2.2.2 (fun _ => rd_wb _ rfl) (fun _ => rd_wb _ rfl) (fun _ => rd_wb _ rfl) (fun _ => rd_wb _ rfl) (fun _ => rd_wb _ rfl) (fun _ => rd_wb _ rfl) (fun _ => rd_wb _ rfl) (fun _ => rd_wb _ rfl) (fun _ => rd_wb _ rfl) (fun _ => rd_wb _ rfl) (rd_wb _ rfl) (rd_wb _ rfl) (rd_wb _ rfl) (rd_wb _ rfl) (rd_wb _ rfl) (rd_wb _ rfl) (rd_wb _ rfl) (rd_wb _ rfl) (rd_wb _ rfl) (rd_wb _ rfl) (rd_wb _ rfl))) (fun M239 hS w239 => ?_)
            refine Tr.aload_n (pc := 242) (i := 0) d_X12_text_242 rfl rfl ?_
            refine Tr.aload_n (pc := 243) (i := 0) d_X12_text_243 rfl rfl ?_
            refine Tr.getf (pc := 244) d_X12_text_244 f_12_39 (by decide) (by decide) (ty_120 hS.1.1) ?_
            refine Tr.gen (P := fun v => (-2147483648) ≤ v ∧ v ≤ 2147483647) (ir_120_9 hS.1.2.1) (fun r244 er244 br244 => ?_)
            refine Tr.putfS (pc := 247) (P := St Pm0 ws_X12_text_120_w1 as_X12_text_120_w1 M0) d_X12_text_247 f_12_45 (by decide) (by decide) (ty_120 hS.1.1) (st_120_11 hS (by decide) (by and_intros <;> omega) (Pm0.of hS.1.2.2.2.2 (fun _ => rd_wb _ rfl) (fun _ => rd_wb _ rfl) (fun _ => rd_wb _ rfl) (fun _ => rd_wb _ rfl) (fun _ => rd_wb _ rfl) (fun _ => rd_wb _ rfl) (fun _ => rd_wb _ rfl) (fun _ => rd_wb _ rfl) (fun _ => rd_wb _ rfl) (fun _ => rd_wb _ rfl) (rd_wb _ rfl) (rd_wb _ rfl) (rd_wb _ rfl) (rd_wb _ rfl) (rd_wb _ rfl) (rd_wb _ rfl) (rd_wb _ rfl) (rd_wb _ rfl) (rd_wb _ rfl) (rd_wb _ rfl) (rd_wb _ rfl))) (fun M247 hS w247 => ?_)
            refine Tr.aload_n (pc := 250) (i := 0) d_X12_text_250 rfl rfl ?_
            refine Tr.getf (pc := 251) d_X12_text_251 f_12_36 (by decide) (by decide) (ty_120 hS.1.1) ?_
            refine Tr.tp u183_120_8 ((Wr.b w247 rfl).trans ((Wr.b w239 rfl).trans k234_120_8)) ?_
            refine Tr.if_le (pc := 254) (tgt := 259) d_X12_text_254 rfl (fun c254 => ?_) (fun c254 => ?_)
            · refine Tr.aload_n (pc := 259) (i := 0) d_X12_text_259 rfl rfl ?_
              refine Tr.aload_n (pc := 260) (i := 0) d_X12_text_260 rfl rfl ?_
              refine Tr.getf (pc := 261) d_X12_text_261 f_12_124 (by decide) (by decide) (ty_120 hS.1.1) ?_
              refine Tr.tp 0 ((Wr.b w247 rfl).trans ((Wr.b w239 rfl).trans k234_120_37)) ?_
              refine Tr.putfS (pc := 264) (P := St Pm0 ws_X12_text_120_w1 as_X12_text_120_w1 M0) d_X12_text_264 f_12_48 (by decide) (by decide) (ty_120 hS.1.1) (st_120_12 hS (by decide) (by omega) (Pm0.of hS.1.2.2.2.2 (fun _ => rd_wb _ rfl) (fun _ => rd_wb _ rfl) (fun _ => rd_wb _ rfl) (fun _ => rd_wb _ rfl) (fun _ => rd_wb _ rfl) (fun _ => rd_wb _ rfl) (fun _ => rd_wb _ rfl) (fun _ => rd_wb _ rfl) (fun _ => rd_wb _ rfl) (fun _ => rd_wb _ rfl) (rd_wb _ rfl) (rd_wb _ rfl) (rd_wb _ rfl) (rd_wb _ rfl) (rd_wb _ rfl) (rd_wb _ rfl) (rd_wb _ rfl) (rd_wb _ rfl) (rd_wb _ rfl) (rd_wb _ rfl) (rd_wb _ rfl))) (fun M264 hS w264 => ?_)
              refine Tr.iconst (pc := 267) d_X12_text_267 (by decide) ?_
              refine Tr.istore_n (pc := 268) (i := 2) (ls2 := [(2, (0, 0)), (0, (2, 120))]) d_X12_text_268 rfl (by decide) rfl ?_
              have J269 : ∀ (n269 : Nat) (M : Mem) (p269_2 : Int), St Pm0 ws_X12_text_120_w1 as_X12_text_120_w1 M0 M → (0 ≤ p269_2 ∧ p269_2 ≤ 3) → rd M 120 1 = 0 → rd M 120 10 = u183_120_8 → rd M 120 11 = r244 → rd M 120 12 = 0 → rd M 120 2 = r2 → rd M 120 3 = u183_120_3 → rd M 120 36 = u183_120_36 → rd M 120 37 = 0 → rd M 120 4 = u183_120_4 → rd M 120 44 = u183_120_44 → rd M 120 5 = u183_120_5 → rd M 120 50 = u183_120_50 → rd M 120 6 = u183_120_6 → rd M 120 7 = u183_120_7 → rd M 120 8 = u183_120_8 → rd M 120 9 = r244 → rd M 129 0 = u183_129_0 → rd M 136 0 = u183_136_0 → nwv M = u183_9006_0 → tav M = u183_9010_0 → (3 - p269_2).toNat < n269 → Tr l K 6 mX12_text 269 [(0, (2, 120)), (2, (0, p269_2))] [] M (q_X12_text_120_w1 M0) := by
                intro n269
                induction n269 with
                | zero => intro M p269_2 hS bp269_2 k269_120_1 k269_120_10 k269_120_11 k269_120_12 k269_120_2 k269_120_3 k269_120_36 k269_120_37 k269_120_4 k269_120_44 k269_120_5 k269_120_50 k269_120_6 k269_120_7 k269_120_8 k269_120_9 k269_129_0 k269_136_0 k269_9006_0 k269_9010_0 hm269; exact absurd hm269 (Nat.not_lt_zero _)
                | succ n269 J269 =>
                  intro M p269_2 hS bp269_2 k269_120_1 k269_120_10 k269_120_11 k269_120_12 k269_120_2 k269_120_3 k269_120_36 k269_120_37 k269_120_4 k269_120_44 k269_120_5 k269_120_50 k269_120_6 k269_120_7 k269_120_8 k269_120_9 k269_129_0 k269_136_0 k269_9006_0 k269_9010_0 hm269
                  clear k234_120_1 k234_120_12 k234_120_2 k234_120_3 k234_120_36 k234_120_37 k234_120_4 k234_120_44 k234_120_5 k234_120_50 k234_120_6 k234_120_7 k234_120_8 k234_129_0 k234_136_0 k234_9006_0 k234_9010_0 w239 er244 w247 w264
                  refine Tr.iload_n (pc := 269) (i := 2) d_X12_text_269 rfl rfl ?_
                  refine Tr.iconst (pc := 270) d_X12_text_270 (by decide) ?_
                  refine Tr.icmp_ge (pc := 271) (tgt := 316) d_X12_text_271 rfl (fun c271 => ?_) (fun c271 => ?_)
                  · refine Tr.aload_n (pc := 316) (i := 0) d_X12_text_316 rfl rfl ?_
                    refine Tr.iconst (pc := 317) d_X12_text_317 (by decide) ?_
                    refine Tr.putzS (pc := 318) (P := St Pm0 ws_X12_text_120_w1 as_X12_text_120_w1 M0) d_X12_text_318 f_12_270 (by decide) (ty_120 hS.1.1) (by omega) (st_120_85 hS (by decide) (by omega) (Pm0.of hS.1.2.2.2.2 (fun _ => rd_wb _ rfl) (fun _ => rd_wb _ rfl) (fun _ => rd_wb _ rfl) (fun _ => rd_wb _ rfl) (fun _ => rd_wb _ rfl) (fun _ => rd_wb _ rfl) (fun _ => rd_wb _ rfl) (fun _ => rd_wb _ rfl) (fun _ => rd_wb _ rfl) (fun _ => rd_wb _ rfl) (rd_wb _ rfl) (rd_wb _ rfl) (rd_wb _ rfl) (rd_wb _ rfl) (rd_wb _ rfl) (rd_wb _ rfl) (rd_wb _ rfl) (rd_wb _ rfl) (rd_wb _ rfl) (rd_wb _ rfl) (rd_wb _ rfl))) (fun M318 hS w318 => ?_)
                    refine Tr.aload_n (pc := 321) (i := 0) d_X12_text_321 rfl rfl ?_
                    refine Tr.iconst (pc := 322) d_X12_text_322 (by decide) ?_
                    refine Tr.putzS (pc := 323) (P := St Pm0 ws_X12_text_120_w1 as_X12_text_120_w1 M0) d_X12_text_323 f_12_327 (by decide) (ty_120 hS.1.1) (by omega) (st_120_104 hS (by decide) (by omega) (Pm0.of hS.1.2.2.2.2 (fun _ => rd_wb _ rfl) (fun _ => rd_wb _ rfl) (fun _ => rd_wb _ rfl) (fun _ => rd_wb _ rfl) (fun _ => rd_wb _ rfl) (fun _ => rd_wb _ rfl) (fun _ => rd_wb _ rfl) (fun _ => rd_wb _ rfl) (fun _ => rd_wb _ rfl) (fun _ => rd_wb _ rfl) (rd_wb _ rfl) (rd_wb _ rfl) (rd_wb _ rfl) (rd_wb _ rfl) (rd_wb _ rfl) (rd_wb _ rfl) (rd_wb _ rfl) (rd_wb _ rfl) (rd_wb _ rfl) (rd_wb _ rfl) (rd_wb _ rfl))) (fun M323 hS w323 => ?_)
                    refine Tr.aload_n (pc := 326) (i := 0) d_X12_text_326 rfl rfl ?_
                    refine Tr.iconst (pc := 327) d_X12_text_327 (by decide) ?_
                    refine Tr.putfS (pc := 328) (P := St Pm0 ws_X12_text_120_w1 as_X12_text_120_w1 M0) d_X12_text_328 f_12_333 (by decide) (by decide) (ty_120 hS.1.1) (st_120_106 hS (by decide) (by omega) (Pm0.of hS.1.2.2.2.2 (fun _ => rd_wb _ rfl) (fun _ => rd_wb _ rfl) (fun _ => rd_wb _ rfl) (fun _ => rd_wb _ rfl) (fun _ => rd_wb _ rfl) (fun _ => rd_wb _ rfl) (fun _ => rd_wb _ rfl) (fun _ => rd_wb _ rfl) (fun _ => rd_wb _ rfl) (fun _ => rd_wb _ rfl) (rd_wb _ rfl) (rd_wb _ rfl) (rd_wb _ rfl) (rd_wb _ rfl) (rd_wb _ rfl) (rd_wb _ rfl) (rd_wb _ rfl) (rd_wb _ rfl) (rd_wb _ rfl) (rd_wb _ rfl) (rd_wb _ rfl))) (fun M328 hS w328 => ?_)
                    refine Tr.aload_n (pc := 331) (i := 0) d_X12_text_331 rfl rfl ?_
                    refine Tr.iconst (pc := 332) d_X12_text_332 (by decide) ?_
                    refine Tr.putzS (pc := 333) (P := St Pm0 ws_X12_text_120_w1 as_X12_text_120_w1 M0) d_X12_text_333 f_12_342 (by decide) (ty_120 hS.1.1) (by omega) (st_120_109 hS (by decide) (by omega) (Pm0.of hS.1.2.2.2.2 (fun _ => rd_wb _ rfl) (fun _ => rd_wb _ rfl) (fun _ => rd_wb _ rfl) (fun _ => rd_wb _ rfl) (fun _ => rd_wb _ rfl) (fun _ => rd_wb _ rfl) (fun _ => rd_wb _ rfl) (fun _ => rd_wb _ rfl) (fun _ => rd_wb _ rfl) (fun _ => rd_wb _ rfl) (rd_wb _ rfl) (rd_wb _ rfl) (rd_wb _ rfl) (rd_wb _ rfl) (rd_wb _ rfl) (rd_wb _ rfl) (rd_wb _ rfl) (rd_wb _ rfl) (rd_wb _ rfl) (rd_wb _ rfl) (rd_wb _ rfl))) (fun M333 hS w333 => ?_)
                    refine Tr.aload_n (pc := 336) (i := 0) d_X12_text_336 rfl rfl ?_
                    refine Tr.getf (pc := 337) d_X12_text_337 f_12_72 (by decide) (by decide) (ty_120 hS.1.1) ?_
                    refine Tr.tp 129 (fx_120_20 hS.1.1) ?_
                    refine Tr.aload_n (pc := 340) (i := 0) d_X12_text_340 rfl rfl ?_
                    refine Tr.getf (pc := 341) d_X12_text_341 f_12_48 (by decide) (by decide) (ty_120 hS.1.1) ?_
                    refine Tr.tp 0 ((Wr.b w333 rfl).trans ((Wr.b w328 rfl).trans ((Wr.b w323 rfl).trans ((Wr.b w318 rfl).trans k269_120_12)))) ?_
                    refine Tr.iald (pc := 344) d_X12_text_344 (ty_129 hS.1.1) (by omega) (by omega) ?_
                    refine Tr.tp u183_129_0 ((Wr.b w333 rfl).trans ((Wr.b w328 rfl).trans ((Wr.b w323 rfl).trans ((Wr.b w318 rfl).trans k269_129_0)))) ?_
                    have hPm := hS.1.2.2.2.2
                    have hfk : rd M333 120 8 = u183_120_8 := ((Wr.b w333 rfl).trans ((Wr.b w328 rfl).trans ((Wr.b w323 rfl).trans ((Wr.b w318 rfl).trans k269_120_8))))
                    have kr_120_1 : rd M333 120 1 = 0 := ((Wr.b w333 rfl).trans ((Wr.b w328 rfl).trans ((Wr.b w323 rfl).trans ((Wr.b w318 rfl).trans k269_120_1))))
                    have hS := hS.wk
                    exact Tr.iret (pc := 345) d_X12_text_345 rfl ⟨hS, _, rfl, (by omega), (by omega), (by omega), (Or.inr ⟨by omega, ((Wr.b w333 rfl).trans ((Wr.b w328 rfl).trans ((Wr.b w323 rfl).trans ((Wr.b w318 rfl).trans k269_120_12)))), Pm0_end hPm (by have e9 := hfk; omega)⟩)⟩
                  · refine Tr.aload_n (pc := 274) (i := 0) d_X12_text_274 rfl rfl ?_
                    refine Tr.getf (pc := 275) d_X12_text_275 f_12_168 (by decide) (by decide) (ty_120 hS.1.1) ?_
                    refine Tr.tp 153 (fx_120_51 hS.1.1) ?_
                    refine Tr.iload_n (pc := 278) (i := 2) d_X12_text_278 rfl rfl ?_
                    refine Tr.iload_n (pc := 279) (i := 2) d_X12_text_279 rfl rfl ?_
                    refine Tr.aload_n (pc := 280) (i := 0) d_X12_text_280 rfl rfl ?_
                    refine Tr.getf (pc := 281) d_X12_text_281 f_12_66 (by decide) (by decide) (ty_120 hS.1.1) ?_
                    refine Tr.tp 127 (fx_120_18 hS.1.1) ?_
                    refine Tr.aload_n (pc := 284) (i := 0) d_X12_text_284 rfl rfl ?_
                    refine Tr.getf (pc := 285) d_X12_text_285 f_12_48 (by decide) (by decide) (ty_120 hS.1.1) ?_
                    refine Tr.tp 0 k269_120_12 ?_
                    refine Tr.iald (pc := 288) d_X12_text_288 (ty_127 hS.1.1) (by omega) (by omega) ?_
                    refine Tr.gen (P := fun v => 0 ≤ v ∧ v ≤ 3) (ir_127_0 hS.1.2.1) (fun r288 er288 br288 => ?_)
                    have J309 : ∀ (M : Mem) (q309_2 : Int), St Pm0 ws_X12_text_120_w1 as_X12_text_120_w1 M0 M → ((-2147483648) ≤ q309_2 ∧ q309_2 ≤ 2147483647) → rd M 120 1 = 0 → rd M 120 10 = u183_120_8 → rd M 120 11 = r244 → rd M 120 12 = 0 → rd M 120 2 = r2 → rd M 120 3 = u183_120_3 → rd M 120 36 = u183_120_36 → rd M 120 37 = 0 → rd M 120 4 = u183_120_4 → rd M 120 44 = u183_120_44 → rd M 120 5 = u183_120_5 → rd M 120 50 = u183_120_50 → rd M 120 6 = u183_120_6 → rd M 120 7 = u183_120_7 → rd M 120 8 = u183_120_8 → rd M 120 9 = r244 → rd M 127 0 = r288 → rd M 129 0 = u183_129_0 → rd M 136 0 = u183_136_0 → nwv M = u183_9006_0 → tav M = u183_9010_0 → Tr l K 6 mX12_text 309 [(0, (2, 120)), (2, (0, p269_2))] [(0, q309_2), (0, p269_2), (2, 153)] M (q_X12_text_120_w1 M0) := by
                      intro M q309_2 hS bq309_2 k309_120_1 k309_120_10 k309_120_11 k309_120_12 k309_120_2 k309_120_3 k309_120_36 k309_120_37 k309_120_4 k309_120_44 k309_120_5 k309_120_50 k309_120_6 k309_120_7 k309_120_8 k309_120_9 k309_127_0 k309_129_0 k309_136_0 k309_9006_0 k309_9010_0
                      clear k269_120_1 k269_120_10 k269_120_11 k269_120_12 k269_120_2 k269_120_3 k269_120_36 k269_120_37 k269_120_4 k269_120_44 k269_120_5 k269_120_50 k269_120_6 k269_120_7 k269_120_8 k269_120_9 k269_129_0 k269_136_0 k269_9006_0 k269_9010_0 er288
                      refine Tr.iastS (pc := 309) (P := St Pm0 ws_X12_text_120_w1 as_X12_text_120_w1 M0) d_X12_text_309 (ty_153 hS.1.1) (by omega) (by omega) (sa_153 hS (by decide) (by and_intros <;> omega) (Pm0.of hS.1.2.2.2.2 (fun _ => rd_wb _ rfl) (fun _ => rd_wb _ rfl) (fun _ => rd_wb _ rfl) (fun _ => rd_wb _ rfl) (fun _ => rd_wb _ rfl) (fun _ => rd_wb _ rfl) (fun _ => rd_wb _ rfl) (fun _ => rd_wb _ rfl) (fun _ => rd_wb _ rfl) (fun _ => rd_wb _ rfl) (rd_wb _ rfl) (rd_wb _ rfl) (rd_wb _ rfl) (rd_wb _ rfl) (rd_wb _ rfl) (rd_wb _ rfl) (rd_wb _ rfl) (rd_wb _ rfl) (rd_wb _ rfl) (rd_wb _ rfl) (rd_wb _ rfl))) (fun M309 hS w309 => ?_)
                      refine Tr.iincV (pc := 310) (n2 := (p269_2 + 1)) (ls2 := [(2, (0, (p269_2 + 1))), (0, (2, 120))]) d_X12_text_310 rfl (by decide) ((w32_id (by and_intros <;> omega)).trans (by omega)) rfl ?_
                      refine Tr.goto (pc := 313) (tgt := 269) d_X12_text_313 rfl ?_
                      refine Tr.pick [1, 0] (ls2 := [(0, (2, 120)), (2, (0, (p269_2 + 1)))]) rfl ?_
                      exact J269 _ _ hS (by and_intros <;> omega) ((Wr.b w309 rfl).trans k309_120_1) ((Wr.b w309 rfl).trans k309_120_10) ((Wr.b w309 rfl).trans k309_120_11) ((Wr.b w309 rfl).trans k309_120_12) ((Wr.b w309 rfl).trans k309_120_2) ((Wr.b w309 rfl).trans k309_120_3) ((Wr.b w309 rfl).trans k309_120_36) ((Wr.b w309 rfl).trans k309_120_37) ((Wr.b w309 rfl).trans k309_120_4) ((Wr.b w309 rfl).trans k309_120_44) ((Wr.b w309 rfl).trans k309_120_5) ((Wr.b w309 rfl).trans k309_120_50) ((Wr.b w309 rfl).trans k309_120_6) ((Wr.b w309 rfl).trans k309_120_7) ((Wr.b w309 rfl).trans k309_120_8) ((Wr.b w309 rfl).trans k309_120_9) ((Wr.b w309 rfl).trans k309_129_0) ((Wr.b w309 rfl).trans k309_136_0) ((nwv_of (fun j => ((Wr.b w309 rfl).trans rfl)) ((Wr.b w309 rfl).trans rfl)).trans k309_9006_0) ((tav_of ((Wr.b w309 rfl).trans rfl) ((Wr.b w309 rfl).trans rfl)).trans k309_9010_0) (me_lt hm269 (by omega) (by omega))
                    refine Tr.icmp_ge (pc := 289) (tgt := 308) d_X12_text_289 rfl (fun c289 => ?_) (fun c289 => ?_)
                    · refine Tr.iconst (pc := 308) d_X12_text_308 (by decide) ?_
                      refine Tr.pick [0, 1] (ls2 := [(0, (2, 120)), (2, (0, p269_2))]) rfl ?_
                      exact J309 _ _ hS (by omega) k269_120_1 k269_120_10 k269_120_11 k269_120_12 k269_120_2 k269_120_3 k269_120_36 k269_120_37 k269_120_4 k269_120_44 k269_120_5 k269_120_50 k269_120_6 k269_120_7 k269_120_8 k269_120_9 er288 k269_129_0 k269_136_0 k269_9006_0 k269_9010_0
                    · refine Tr.aload_n (pc := 292) (i := 0) d_X12_text_292 rfl rfl ?_
                      refine Tr.getf (pc := 293) d_X12_text_293 f_12_85 (by decide) (by decide) (ty_120 hS.1.1) ?_
                      refine Tr.tp 133 (fx_120_24 hS.1.1) ?_
                      refine Tr.iconst (pc := 296) d_X12_text_296 (by decide) ?_
                      refine Tr.aload_n (pc := 297) (i := 0) d_X12_text_297 rfl rfl ?_
                      refine Tr.getf (pc := 298) d_X12_text_298 f_12_48 (by decide) (by decide) (ty_120 hS.1.1) ?_
                      refine Tr.tp 0 k269_120_12 ?_
                      refine Tr.imul (pc := 301) d_X12_text_301 ?_
                      refine Tr.tp 0 (by decide) ?_
                      refine Tr.iload_n (pc := 302) (i := 2) d_X12_text_302 rfl rfl ?_
                      refine Tr.iadd (pc := 303) d_X12_text_303 ?_
                      refine Tr.tp p269_2 ((w32_id (by and_intros <;> omega)).trans (by omega)) ?_
                      refine Tr.iald (pc := 304) d_X12_text_304 (ty_133 hS.1.1) (by omega) (by omega) ?_
                      refine Tr.gen (P := fun v => (-2147483648) ≤ v ∧ v ≤ 2147483647) (ar_133 hS.1.2.1 _) (fun r304 er304 br304 => ?_)
                      refine Tr.goto (pc := 305) (tgt := 309) d_X12_text_305 rfl ?_
                      refine Tr.pick [0, 1] (ls2 := [(0, (2, 120)), (2, (0, p269_2))]) rfl ?_
                      exact J309 _ _ hS (by and_intros <;> omega) k269_120_1 k269_120_10 k269_120_11 k269_120_12 k269_120_2 k269_120_3 k269_120_36 k269_120_37 k269_120_4 k269_120_44 k269_120_5 k269_120_50 k269_120_6 k269_120_7 k269_120_8 k269_120_9 er288 k269_129_0 k269_136_0 k269_9006_0 k269_9010_0
              refine Tr.pick [1, 0] (ls2 := [(0, (2, 120)), (2, (0, 0))]) rfl ?_
              exact J269 _ _ _ hS (by omega) ((Wr.b w264 rfl).trans ((Wr.b w247 rfl).trans ((Wr.b w239 rfl).trans k234_120_1))) ((Wr.b w264 rfl).trans ((Wr.b w247 rfl).trans w239.1)) ((Wr.b w264 rfl).trans w247.1) w264.1 ((Wr.b w264 rfl).trans ((Wr.b w247 rfl).trans ((Wr.b w239 rfl).trans k234_120_2))) ((Wr.b w264 rfl).trans ((Wr.b w247 rfl).trans ((Wr.b w239 rfl).trans k234_120_3))) ((Wr.b w264 rfl).trans ((Wr.b w247 rfl).trans ((Wr.b w239 rfl).trans k234_120_36))) ((Wr.b w264 rfl).trans ((Wr.b w247 rfl).trans ((Wr.b w239 rfl).trans k234_120_37))) ((Wr.b w264 rfl).trans ((Wr.b w247 rfl).trans ((Wr.b w239 rfl).trans k234_120_4))) ((Wr.b w264 rfl).trans ((Wr.b w247 rfl).trans ((Wr.b w239 rfl).trans k234_120_44))) ((Wr.b w264 rfl).trans ((Wr.b w247 rfl).trans ((Wr.b w239 rfl).trans k234_120_5))) ((Wr.b w264 rfl).trans ((Wr.b w247 rfl).trans ((Wr.b w239 rfl).trans k234_120_50))) ((Wr.b w264 rfl).trans ((Wr.b w247 rfl).trans ((Wr.b w239 rfl).trans k234_120_6))) ((Wr.b w264 rfl).trans ((Wr.b w247 rfl).trans ((Wr.b w239 rfl).trans k234_120_7))) ((Wr.b w264 rfl).trans ((Wr.b w247 rfl).trans ((Wr.b w239 rfl).trans k234_120_8))) ((Wr.b w264 rfl).trans ((Wr.b w247 rfl).trans er244)) ((Wr.b w264 rfl).trans ((Wr.b w247 rfl).trans ((Wr.b w239 rfl).trans k234_129_0))) ((Wr.b w264 rfl).trans ((Wr.b w247 rfl).trans ((Wr.b w239 rfl).trans k234_136_0))) ((nwv_of (fun j => ((Wr.b w264 rfl).trans ((Wr.b w247 rfl).trans ((Wr.b w239 rfl).trans rfl)))) ((Wr.b w264 rfl).trans ((Wr.b w247 rfl).trans ((Wr.b w239 rfl).trans rfl)))).trans k234_9006_0) ((tav_of ((Wr.b w264 rfl).trans ((Wr.b w247 rfl).trans ((Wr.b w239 rfl).trans rfl))) ((Wr.b w264 rfl).trans ((Wr.b w247 rfl).trans ((Wr.b w239 rfl).trans rfl)))).trans k234_9010_0) (Nat.lt_succ_self _)
            · refine Tr.iconst (pc := 257) d_X12_text_257 (by decide) ?_
              have hPm := hS.1.2.2.2.2
              have hfk : rd M247 120 8 = u183_120_8 := ((Wr.b w247 rfl).trans ((Wr.b w239 rfl).trans k234_120_8))
              have kr_120_1 : rd M247 120 1 = 0 := ((Wr.b w247 rfl).trans ((Wr.b w239 rfl).trans k234_120_1))
              have hS := hS.wk
              exact Tr.iret (pc := 258) d_X12_text_258 rfl ⟨hS, _, rfl, by omega, by omega, (by omega), (Or.inl ⟨rfl, ((Wr.b w247 rfl).trans ((Wr.b w239 rfl).trans k234_120_12)), hPm.1⟩)⟩
          refine Tr.if_ne (pc := 187) (tgt := 234) d_X12_text_187 rfl (fun c187 => ?_) (fun c187 => ?_)
          · have c187b : 1 ≤ u183_120_8 ∧ u183_120_8 ≤ 5 := by omega
            replace c187 := hd_i c187
            refine Tr.pick [0] (ls2 := [(0, (2, 120))]) rfl ?_
            exact J234 _ hS k183_120_1 k183_120_12 k183_120_2 k183_120_3 k183_120_36 k183_120_37 k183_120_4 k183_120_44 k183_120_5 k183_120_50 k183_120_6 k183_120_7 k183_120_8 k183_129_0 k183_136_0 k183_9006_0 k183_9010_0
          · refine Tr.aload_n (pc := 190) (i := 0) d_X12_text_190 rfl rfl ?_
            refine Tr.getf (pc := 191) d_X12_text_191 f_12_20 (by decide) (by decide) (ty_120 hS.1.1) ?_
            refine Tr.tp u183_120_3 k183_120_3 ?_
            have J204 : ∀ (M : Mem), St Pm0 ws_X12_text_120_w1 as_X12_text_120_w1 M0 M → rd M 120 1 = 0 → rd M 120 12 = 1 → rd M 120 2 = r2 → rd M 120 3 = u183_120_3 → rd M 120 36 = u183_120_36 → rd M 120 37 = 0 → rd M 120 4 = u183_120_4 → rd M 120 44 = u183_120_44 → rd M 120 5 = u183_120_5 → rd M 120 50 = u183_120_50 → rd M 120 6 = u183_120_6 → rd M 120 7 = u183_120_7 → rd M 120 8 = u183_120_8 → rd M 129 0 = u183_129_0 → rd M 136 0 = u183_136_0 → nwv M = u183_9006_0 → tav M = u183_9010_0 → (u183_120_3 ≠ 0 ∨ 1 ≤ u183_120_50) → Tr l K 6 mX12_text 204 [(0, (2, 120))] [] M (q_X12_text_120_w1 M0) := by
              intro M  hS  k204_120_1 k204_120_12 k204_120_2 k204_120_3 k204_120_36 k204_120_37 k204_120_4 k204_120_44 k204_120_5 k204_120_50 k204_120_6 k204_120_7 k204_120_8 k204_129_0 k204_136_0 k204_9006_0 k204_9010_0 t204_0
              clear k183_120_1 k183_120_12 k183_120_2 k183_120_3 k183_120_36 k183_120_37 k183_120_4 k183_120_44 k183_120_5 k183_120_50 k183_120_6 k183_120_7 k183_120_8 k183_129_0 k183_136_0 k183_9006_0 k183_9010_0
              replace t204_0 := hd_i t204_0
              refine Tr.aload_n (pc := 204) (i := 0) d_X12_text_204 rfl rfl ?_
              refine Tr.getf (pc := 205) d_X12_text_205 f_12_165 (by decide) (by decide) (ty_120 hS.1.1) ?_
              refine Tr.tp u183_120_50 k204_120_50 ?_
              have J227 : ∀ (M : Mem), St Pm0 ws_X12_text_120_w1 as_X12_text_120_w1 M0 M → rd M 120 1 = 0 → rd M 120 12 = 1 → rd M 120 2 = r2 → rd M 120 3 = u183_120_3 → rd M 120 36 = u183_120_36 → rd M 120 37 = 0 → rd M 120 4 = u183_120_4 → rd M 120 44 = u183_120_44 → rd M 120 5 = u183_120_5 → rd M 120 50 = u183_120_50 → rd M 120 6 = u183_120_6 → rd M 120 7 = u183_120_7 → rd M 120 8 = u183_120_8 → rd M 129 0 = u183_129_0 → rd M 136 0 = u183_136_0 → nwv M = u183_9006_0 → tav M = u183_9010_0 → Tr l K 6 mX12_text 227 [(0, (2, 120))] [] M (q_X12_text_120_w1 M0) := by
                intro M  hS  k227_120_1 k227_120_12 k227_120_2 k227_120_3 k227_120_36 k227_120_37 k227_120_4 k227_120_44 k227_120_5 k227_120_50 k227_120_6 k227_120_7 k227_120_8 k227_129_0 k227_136_0 k227_9006_0 k227_9010_0
                clear k204_120_1 k204_120_12 k204_120_2 k204_120_3 k204_120_36 k204_120_37 k204_120_4 k204_120_44 k204_120_5 k204_120_50 k204_120_6 k204_120_7 k204_120_8 k204_129_0 k204_136_0 k204_9006_0 k204_9010_0
                refine Tr.aload_n (pc := 227) (i := 0) d_X12_text_227 rfl rfl ?_
                refine Tr.callV (pc := 228) (as := []) d_X12_text_228 s_12_550 ok_X12_statement rfl rfl (Nat.le_of_ble_eq_true rfl) (Nat.le_of_ble_eq_true rfl) (by decide) (ty_120 hS.1.1) ?_
                refine Tr.imp (Tr.deep (by decide) (ns_X12_statement_120_w1 (G120_3 := u183_120_3) (G120_4 := u183_120_4) (G120_5 := u183_120_5) (G120_7 := u183_120_7) (G120_8 := u183_120_8) (G120_36 := u183_120_36) (G120_44 := u183_120_44) (G120_50 := u183_120_50) (G129_0 := u183_129_0) (G136_0 := u183_136_0) (G9006_0 := u183_9006_0) (G9010_0 := u183_9010_0) hS.1 (k227_120_3) (k227_120_4) (k227_120_5) (k227_120_7) (k227_120_8) (k227_120_36) (k227_120_44) (k227_120_50) (k227_129_0) (k227_136_0) (k227_9006_0) (k227_9010_0) k227_120_37 (by first | exact (hd_o t183_0) | exact (hd_o t183_0).elim (fun h1 => by omega) (fun h1 => by omega)) (by omega) (by first | exact (hd_o t183_2) | exact (hd_o t183_2).elim (fun h1 => by omega) (fun h1 => h1.elim (fun h1 => by omega) (fun h1 => by omega))) (by omega) (by omega) (by exact (hd_o t183_5).elim (fun h1 => by omega) (fun h1 => by omega)) (by omega))) ?_
                rintro M228 _ ⟨h228, s228_120_3, s228_120_4, s228_120_5, s228_120_7, s228_120_8, s228_120_36, s228_120_44, s228_120_50, s228_129_0, s228_136_0, s228_9006_0, s228_9010_0, es228_120_3, bs228_120_3, es228_120_4, bs228_120_4, es228_120_5, bs228_120_5, es228_120_7, bs228_120_7, es228_120_8, bs228_120_8, es228_120_36, bs228_120_36, es228_120_44, bs228_120_44, es228_120_50, bs228_120_50, es228_129_0, bs228_129_0, es228_136_0, bs228_136_0, es228_9006_0, bs228_9006_0, es228_9010_0, bs228_9010_0, rfl, z228_0, z228_1, z228_2, z228_3, z228_4, z228_5, z228_6, z228_7, z228_8⟩
                have hS := St.tr hS h228 (by decide) (by decide)
                refine Tr.sc [] rfl ?_
                refine Tr.goto (pc := 231) (tgt := 183) d_X12_text_231 rfl ?_
                refine Tr.pick [0] (ls2 := [(0, (2, 120))]) rfl ?_
                obtain ⟨w183p231_120_6, ew183p231_120_6⟩ : ∃ v, rd M228 120 6 = v := ⟨_, rfl⟩
                have bw183p231_120_6 : (-2147483648) ≤ w183p231_120_6 ∧ w183p231_120_6 ≤ 2147483647 := by rw [← ew183p231_120_6]; exact ir_120_6 hS.1.2.1
                exact J183 _ _ _ _ _ _ _ _ _ _ _ _ _ _ hS (by and_intros <;> omega) (by and_intros <;> omega) (by and_intros <;> omega) (by and_intros <;> omega) (by omega) (by and_intros <;> omega) (by and_intros <;> omega) (by and_intros <;> omega) (by and_intros <;> omega) (by and_intros <;> omega) (by and_intros <;> omega) (by and_intros <;> omega) (by and_intros <;> omega) ((kp_X12_statement_120_w1_120_1 h228).trans k227_120_1) ((kp_X12_statement_120_w1_120_12 h228).trans k227_120_12) ((kp_X12_statement_120_w1_120_2 h228).trans k227_120_2) es228_120_3 es228_120_36 ((kp_X12_statement_120_w1_120_37 h228).trans k227_120_37) es228_120_4 es228_120_44 es228_120_5 es228_120_50 ew183p231_120_6 es228_120_7 es228_120_8 es228_129_0 es228_136_0 es228_9006_0 es228_9010_0 (by first | exact (hd_o z228_0) | exact (hd_o z228_0).elim (fun h1 => by omega) (fun h1 => by omega)) (by omega) (by first | exact (hd_o z228_2) | exact (hd_o z228_2).elim (fun h1 => by omega) (fun h1 => h1.elim (fun h1 => by omega) (fun h1 => by omega))) (by omega) (by omega) (by first | exact (hd_o z228_6) | exact (hd_o z228_6).elim (fun h1 => by omega) (fun h1 => by omega)) (me_lt hm183 (by exact (hd_o z228_5).elim (fun h1 => by omega) (fun h1 => by omega)) (by omega))
              refine Tr.if_le (pc := 208) (tgt := 227) d_X12_text_208 rfl (fun c208 => ?_) (fun c208 => ?_)
              · refine Tr.pick [0] (ls2 := [(0, (2, 120))]) rfl ?_
                exact J227 _ hS k204_120_1 k204_120_12 k204_120_2 k204_120_3 k204_120_36 k204_120_37 k204_120_4 k204_120_44 k204_120_5 k204_120_50 k204_120_6 k204_120_7 k204_120_8 k204_129_0 k204_136_0 k204_9006_0 k204_9010_0
              · refine Tr.aload_n (pc := 211) (i := 0) d_X12_text_211 rfl rfl ?_
                refine Tr.bipush (pc := 212) d_X12_text_212 rfl (by decide) ?_
                refine Tr.callV (pc := 214) (as := [_]) d_X12_text_214 s_12_393 ok_X12_isSign rfl rfl (Nat.le_of_ble_eq_true rfl) (Nat.le_of_ble_eq_true rfl) (by decide) (ty_120 hS.1.1) ?_
                refine Tr.imp (Tr.deep (by decide) (ns_X12_isSign_120 (G120_3 := u183_120_3) (G120_6 := u183_120_6) hS.1.wk (k204_120_3) (k204_120_6) 125 (by omega))) ?_
                rintro M214 _ ⟨h214, r214, rfl, lr214, ur214, z214_0⟩
                have h214 := St.rn h214 (Pm0.of hS.1.2.2.2.2 (fun _ => (ka_X12_isSign_120_131 h214 _)) (fun _ => (ka_X12_isSign_120_137 h214 _)) (fun _ => (ka_X12_isSign_120_138 h214 _)) (fun _ => (ka_X12_isSign_120_139 h214 _)) (fun _ => (ka_X12_isSign_120_140 h214 _)) (fun _ => (ka_X12_isSign_120_141 h214 _)) (fun _ => (ka_X12_isSign_120_142 h214 _)) (fun _ => (ka_X12_isSign_120_143 h214 _)) (fun _ => (ka_X12_isSign_120_151 h214 _)) (fun _ => (ka_X12_isSign_120_152 h214 _)) (kp_X12_isSign_120_126_0 h214) (kp_X12_isSign_120_126_1 h214) (kp_X12_isSign_120_136_0 h214) (kp_X12_isSign_120_136_1 h214) (kp_X12_isSign_120_123_0 h214) (kp_X12_isSign_120_123_1 h214) (kp_X12_isSign_120_124_0 h214) (kp_X12_isSign_120_124_1 h214) (kp_X12_isSign_120_120_8 h214) (kp_X12_isSign_120_120_36 h214) (kp_X12_isSign_120_120_50 h214))
                have hS := St.tr hS h214 (by decide) (by decide)
                refine Tr.sc [(0, r214)] rfl ?_
                refine Tr.if_eq (pc := 217) (tgt := 227) d_X12_text_217 rfl (fun c217 => ?_) (fun c217 => ?_)
                · refine Tr.pick [0] (ls2 := [(0, (2, 120))]) rfl ?_
                  exact J227 _ hS ((kp_X12_isSign_120_120_1 h214).trans k204_120_1) ((kp_X12_isSign_120_120_12 h214).trans k204_120_12) ((kp_X12_isSign_120_120_2 h214).trans k204_120_2) ((kp_X12_isSign_120_120_3 h214).trans k204_120_3) ((kp_X12_isSign_120_120_36 h214).trans k204_120_36) ((kp_X12_isSign_120_120_37 h214).trans k204_120_37) ((kp_X12_isSign_120_120_4 h214).trans k204_120_4) ((kp_X12_isSign_120_120_44 h214).trans k204_120_44) ((kp_X12_isSign_120_120_5 h214).trans k204_120_5) ((kp_X12_isSign_120_120_50 h214).trans k204_120_50) ((kp_X12_isSign_120_120_6 h214).trans k204_120_6) ((kp_X12_isSign_120_120_7 h214).trans k204_120_7) ((kp_X12_isSign_120_120_8 h214).trans k204_120_8) ((kp_X12_isSign_120_129_0 h214).trans k204_129_0) ((kp_X12_isSign_120_136_0 h214).trans k204_136_0) ((nwv_of (fun j => ((ka_X12_isSign_120_151 h214 _).trans rfl)) ((kp_X12_isSign_120_120_50 h214).trans rfl)).trans k204_9006_0) ((tav_of ((kp_X12_isSign_120_120_5 h214).trans rfl) ((kp_X12_isSign_120_120_3 h214).trans rfl)).trans k204_9010_0)
                · have c217b : 1 ≤ r214 ∧ r214 ≤ 1 := by omega
                  replace c217 := hd_i c217
                  refine Tr.aload_n (pc := 220) (i := 0) d_X12_text_220 rfl rfl ?_
                  refine Tr.callV (pc := 221) (as := []) d_X12_text_221 s_12_547 ok_X12_closesBlock rfl rfl (Nat.le_of_ble_eq_true rfl) (Nat.le_of_ble_eq_true rfl) (by decide) (ty_120 hS.1.1) ?_
                  refine Tr.imp (Tr.deep (by decide) (ns_X12_closesBlock_120_w1 (G120_3 := u183_120_3) (G120_4 := u183_120_4) (G120_5 := u183_120_5) (G120_7 := u183_120_7) (G120_8 := u183_120_8) (G120_36 := u183_120_36) (G120_44 := u183_120_44) (G120_50 := u183_120_50) (G129_0 := u183_129_0) (G136_0 := u183_136_0) (G9006_0 := u183_9006_0) (G9010_0 := u183_9010_0) hS.1 (((kp_X12_isSign_120_120_3 h214).trans k204_120_3)) (((kp_X12_isSign_120_120_4 h214).trans k204_120_4)) (((kp_X12_isSign_120_120_5 h214).trans k204_120_5)) (((kp_X12_isSign_120_120_7 h214).trans k204_120_7)) (((kp_X12_isSign_120_120_8 h214).trans k204_120_8)) (((kp_X12_isSign_120_120_36 h214).trans k204_120_36)) (((kp_X12_isSign_120_120_44 h214).trans k204_120_44)) (((kp_X12_isSign_120_120_50 h214).trans k204_120_50)) (((kp_X12_isSign_120_129_0 h214).trans k204_129_0)) (((kp_X12_isSign_120_136_0 h214).trans k204_136_0)) (((nwv_of (fun j => ((ka_X12_isSign_120_151 h214 _).trans rfl)) ((kp_X12_isSign_120_120_50 h214).trans rfl)).trans k204_9006_0)) (((tav_of ((kp_X12_isSign_120_120_5 h214).trans rfl) ((kp_X12_isSign_120_120_3 h214).trans rfl)).trans k204_9010_0)) ((kp_X12_isSign_120_120_37 h214).trans k204_120_37) (by first | exact (hd_o t183_0) | exact (hd_o t183_0).elim (fun h1 => by omega) (fun h1 => by omega)) (by omega) (by first | exact (hd_o t183_2) | exact (hd_o t183_2).elim (fun h1 => by omega) (fun h1 => h1.elim (fun h1 => by omega) (fun h1 => by omega))) (by omega) (by omega) (by exact (hd_o t183_5).elim (fun h1 => by omega) (fun h1 => by omega)) (by exact (hd_o z214_0).elim (fun h1 => by omega) (fun h1 => by omega)) (by omega) (by omega))) ?_
                  rintro M221 _ ⟨h221, s221_120_3, s221_120_4, s221_120_5, s221_120_7, s221_120_8, s221_120_44, s221_120_50, s221_136_0, s221_9006_0, s221_9010_0, es221_120_3, bs221_120_3, es221_120_4, bs221_120_4, es221_120_5, bs221_120_5, es221_120_7, bs221_120_7, es221_120_8, bs221_120_8, es221_120_44, bs221_120_44, es221_120_50, bs221_120_50, es221_136_0, bs221_136_0, es221_9006_0, bs221_9006_0, es221_9010_0, bs221_9010_0, rfl, z221_0, z221_1, z221_2, z221_3, z221_4, z221_5, z221_6, z221_7, z221_8⟩
                  have hS := St.tr hS h221 (by decide) (by decide)
                  refine Tr.sc [] rfl ?_
                  refine Tr.goto (pc := 224) (tgt := 183) d_X12_text_224 rfl ?_
                  refine Tr.pick [0] (ls2 := [(0, (2, 120))]) rfl ?_
                  obtain ⟨w183p224_120_6, ew183p224_120_6⟩ : ∃ v, rd M221 120 6 = v := ⟨_, rfl⟩
                  have bw183p224_120_6 : (-2147483648) ≤ w183p224_120_6 ∧ w183p224_120_6 ≤ 2147483647 := by rw [← ew183p224_120_6]; exact ir_120_6 hS.1.2.1
                  exact J183 _ _ _ _ _ _ _ _ _ _ _ _ _ _ hS (by and_intros <;> omega) (by and_intros <;> omega) (by and_intros <;> omega) (by and_intros <;> omega) (by omega) (by and_intros <;> omega) (by and_intros <;> omega) (by and_intros <;> omega) (by and_intros <;> omega) (by and_intros <;> omega) (by and_intros <;> omega) (by and_intros <;> omega) (by and_intros <;> omega) ((kp_X12_closesBlock_120_w1_120_1 h221).trans ((kp_X12_isSign_120_120_1 h214).trans k204_120_1)) ((kp_X12_closesBlock_120_w1_120_12 h221).trans ((kp_X12_isSign_120_120_12 h214).trans k204_120_12)) ((kp_X12_closesBlock_120_w1_120_2 h221).trans ((kp_X12_isSign_120_120_2 h214).trans k204_120_2)) es221_120_3 ((kp_X12_closesBlock_120_w1_120_36 h221).trans ((kp_X12_isSign_120_120_36 h214).trans k204_120_36)) ((kp_X12_closesBlock_120_w1_120_37 h221).trans ((kp_X12_isSign_120_120_37 h214).trans k204_120_37)) es221_120_4 es221_120_44 es221_120_5 es221_120_50 ew183p224_120_6 es221_120_7 es221_120_8 ((kp_X12_closesBlock_120_w1_129_0 h221).trans ((kp_X12_isSign_120_129_0 h214).trans k204_129_0)) es221_136_0 es221_9006_0 es221_9010_0 (by first | exact (hd_o z221_0) | exact (hd_o z221_0).elim (fun h1 => by omega) (fun h1 => by omega)) (by omega) (by first | exact (hd_o z221_2) | exact (hd_o z221_2).elim (fun h1 => by omega) (fun h1 => h1.elim (fun h1 => by omega) (fun h1 => by omega))) (by omega) (by omega) (by omega) (me_lt hm183 (by exact (hd_o z221_5).elim (fun h1 => by omega) (fun h1 => by omega)) (by omega))
            refine Tr.if_ne (pc := 194) (tgt := 204) d_X12_text_194 rfl (fun c194 => ?_) (fun c194 => ?_)
            · have c194b : 1 ≤ u183_120_3 ∧ u183_120_3 ≤ 3 := by omega
              replace c194 := hd_i c194
              refine Tr.pick [0] (ls2 := [(0, (2, 120))]) rfl ?_
              exact J204 _ hS k183_120_1 k183_120_12 k183_120_2 k183_120_3 k183_120_36 k183_120_37 k183_120_4 k183_120_44 k183_120_5 k183_120_50 k183_120_6 k183_120_7 k183_120_8 k183_129_0 k183_136_0 k183_9006_0 k183_9010_0 (by omega)
            · refine Tr.aload_n (pc := 197) (i := 0) d_X12_text_197 rfl rfl ?_
              refine Tr.getf (pc := 198) d_X12_text_198 f_12_165 (by decide) (by decide) (ty_120 hS.1.1) ?_
              refine Tr.tp u183_120_50 k183_120_50 ?_
              refine Tr.if_le (pc := 201) (tgt := 234) d_X12_text_201 rfl (fun c201 => ?_) (fun c201 => ?_)
              · refine Tr.pick [0] (ls2 := [(0, (2, 120))]) rfl ?_
                exact J234 _ hS k183_120_1 k183_120_12 k183_120_2 k183_120_3 k183_120_36 k183_120_37 k183_120_4 k183_120_44 k183_120_5 k183_120_50 k183_120_6 k183_120_7 k183_120_8 k183_129_0 k183_136_0 k183_9006_0 k183_9010_0
              · refine Tr.pick [0] (ls2 := [(0, (2, 120))]) rfl ?_
                exact J204 _ hS k183_120_1 k183_120_12 k183_120_2 k183_120_3 k183_120_36 k183_120_37 k183_120_4 k183_120_44 k183_120_5 k183_120_50 k183_120_6 k183_120_7 k183_120_8 k183_129_0 k183_136_0 k183_9006_0 k183_9010_0 (by omega)
      refine Tr.if_ne (pc := 153) (tgt := 183) d_X12_text_153 rfl (fun c153 => ?_) (fun c153 => ?_)
      · have c153b : 1 ≤ u149_120_8 ∧ u149_120_8 ≤ 5 := by omega
        replace c153 := hd_i c153
        refine Tr.pick [0] (ls2 := [(0, (2, 120))]) rfl ?_
        exact J183 _ _ _ _ _ _ _ _ _ _ _ _ _ _ _ hS (by and_intros <;> omega) (by and_intros <;> omega) (by and_intros <;> omega) (by and_intros <;> omega) (by omega) (by and_intros <;> omega) (by omega) (by omega) (by omega) (by omega) (by omega) (by and_intros <;> omega) (by and_intros <;> omega) k149_120_1 k149_120_12 k149_120_2 k149_120_3 k149_120_36 k149_120_37 k149_120_4 k149_120_44 k149_120_5 k149_120_50 k149_120_6 k149_120_7 k149_120_8 k149_129_0 k149_136_0 k149_9006_0 k149_9010_0 (by first | exact (hd_o t149_0) | exact (hd_o t149_0).elim (fun h1 => by omega) (fun h1 => by omega)) (by omega) (by first | exact (hd_o t149_2) | exact (hd_o t149_2).elim (fun h1 => by omega) (fun h1 => h1.elim (fun h1 => by omega) (fun h1 => by omega))) (by omega) (by omega) (by first | exact (hd_o t149_5) | exact (hd_o t149_5).elim (fun h1 => by omega) (fun h1 => by omega)) (Nat.lt_succ_self _)
      · refine Tr.iload_n (pc := 156) (i := 1) d_X12_text_156 rfl rfl ?_
        refine Tr.if_eq (pc := 157) (tgt := 183) d_X12_text_157 rfl (fun c157 => ?_) (fun c157 => ?_)
        · refine Tr.pick [0] (ls2 := [(0, (2, 120))]) rfl ?_
          exact J183 _ _ _ _ _ _ _ _ _ _ _ _ _ _ _ hS (by and_intros <;> omega) (by and_intros <;> omega) (by and_intros <;> omega) (by and_intros <;> omega) (by omega) (by and_intros <;> omega) (by omega) (by omega) (by omega) (by omega) (by omega) (by and_intros <;> omega) (by and_intros <;> omega) k149_120_1 k149_120_12 k149_120_2 k149_120_3 k149_120_36 k149_120_37 k149_120_4 k149_120_44 k149_120_5 k149_120_50 k149_120_6 k149_120_7 k149_120_8 k149_129_0 k149_136_0 k149_9006_0 k149_9010_0 (by first | exact (hd_o t149_0) | exact (hd_o t149_0).elim (fun h1 => by omega) (fun h1 => by omega)) (by omega) (by first | exact (hd_o t149_2) | exact (hd_o t149_2).elim (fun h1 => by omega) (fun h1 => h1.elim (fun h1 => by omega) (fun h1 => by omega))) (by omega) (by omega) (by first | exact (hd_o t149_5) | exact (hd_o t149_5).elim (fun h1 => by omega) (fun h1 => by omega)) (Nat.lt_succ_self _)
        · have c157b : 1 ≤ p149_1 ∧ p149_1 ≤ 1 := by omega
          replace c157 := hd_i c157
          refine Tr.aload_n (pc := 160) (i := 0) d_X12_text_160 rfl rfl ?_
          refine Tr.getf (pc := 161) d_X12_text_161 f_12_20 (by decide) (by decide) (ty_120 hS.1.1) ?_
          refine Tr.tp u149_120_3 k149_120_3 ?_
          have J179 : ∀ (M : Mem) (q179_0 u179_120_3 u179_120_4 u179_120_5 u179_120_6 u179_120_7 u179_120_8 u179_9010_0 : Int), St Pm0 ws_X12_text_120_w1 as_X12_text_120_w1 M0 M → (0 ≤ q179_0 ∧ q179_0 ≤ 1) → (0 ≤ u179_120_3 ∧ u179_120_3 ≤ 3) → (0 ≤ u179_120_4 ∧ u179_120_4 ≤ 900) → (0 ≤ u179_120_5 ∧ u179_120_5 ≤ 900) → ((-2147483648) ≤ u179_120_6 ∧ u179_120_6 ≤ 2147483647) → ((-9223372036854775808) ≤ u179_120_7 ∧ u179_120_7 ≤ 9223372036854775807) → (0 ≤ u179_120_8 ∧ u179_120_8 ≤ 5) → ((-1) ≤ u179_9010_0 ∧ u179_9010_0 ≤ 1800) → rd M 120 1 = 0 → rd M 120 12 = 1 → rd M 120 2 = r2 → rd M 120 3 = u179_120_3 → rd M 120 36 = 0 → rd M 120 37 = 0 → rd M 120 4 = u179_120_4 → rd M 120 44 = 0 → rd M 120 5 = u179_120_5 → rd M 120 50 = 0 → rd M 120 6 = u179_120_6 → rd M 120 7 = u179_120_7 → rd M 120 8 = u179_120_8 → rd M 129 0 = 0 → rd M 136 0 = 0 → nwv M = v140_9006 → tav M = u179_9010_0 → (u179_120_3 = 0 ∨ u179_120_4 + 1 ≤ u179_120_5) → (u179_120_4 ≤ u179_120_5) → (u179_120_3 ≠ 1 ∨ u179_120_4 + 2 ≤ u179_120_5 ∨ u179_120_7 < 256) → (0 ≤ 0) → (0 + 0 ≤ u179_120_4) → (1 ≤ u179_120_8 ∨ 0 + v140_9006 ≤ 2 * 0) → ((u149_9010_0 ≤ u179_9010_0 ∧ q179_0 = 0) ∨ (u149_9010_0 < u179_9010_0) ∨ (1 ≤ u179_120_8 ∧ u149_9010_0 ≤ u179_9010_0)) → Tr l K 6 mX12_text 179 [(0, (2, 120))] [(0, q179_0)] M (q_X12_text_120_w1 M0) := by
            intro M q179_0 u179_120_3 u179_120_4 u179_120_5 u179_120_6 u179_120_7 u179_120_8 u179_9010_0 hS bq179_0 bu179_120_3 bu179_120_4 bu179_120_5 bu179_120_6 bu179_120_7 bu179_120_8 bu179_9010_0 k179_120_1 k179_120_12 k179_120_2 k179_120_3 k179_120_36 k179_120_37 k179_120_4 k179_120_44 k179_120_5 k179_120_50 k179_120_6 k179_120_7 k179_120_8 k179_129_0 k179_136_0 k179_9006_0 k179_9010_0 t179_0 t179_1 t179_2 t179_3 t179_4 t179_5 t179_6
            clear k149_120_1 k149_120_12 k149_120_2 k149_120_3 k149_120_36 k149_120_37 k149_120_4 k149_120_44 k149_120_5 k149_120_50 k149_120_6 k149_120_7 k149_120_8 k149_129_0 k149_136_0 k149_9006_0 k149_9010_0
            replace t179_0 := hd_i t179_0
            replace t179_2 := hd_i t179_2
            replace t179_5 := hd_i t179_5
            replace t179_6 := hd_i t179_6
            refine Tr.istore_n (pc := 179) (i := 1) (ls2 := [(1, (0, q179_0)), (0, (2, 120))]) d_X12_text_179 rfl (by decide) rfl ?_
            refine Tr.goto (pc := 180) (tgt := 149) d_X12_text_180 rfl ?_
            refine Tr.pick [1, 0] (ls2 := [(0, (2, 120)), (1, (0, q179_0))]) rfl ?_
            exact J149 _ _ _ _ _ _ _ _ _ hS (by and_intros <;> omega) (by and_intros <;> omega) (by and_intros <;> omega) (by and_intros <;> omega) (by and_intros <;> omega) (by omega) (by and_intros <;> omega) (by and_intros <;> omega) k179_120_1 k179_120_12 k179_120_2 k179_120_3 k179_120_36 k179_120_37 k179_120_4 k179_120_44 k179_120_5 k179_120_50 k179_120_6 k179_120_7 k179_120_8 k179_129_0 k179_136_0 k179_9006_0 k179_9010_0 (by first | exact (hd_o t179_0) | exact (hd_o t179_0).elim (fun h1 => by omega) (fun h1 => by omega)) (by omega) (by first | exact (hd_o t179_2) | exact (hd_o t179_2).elim (fun h1 => by omega) (fun h1 => h1.elim (fun h1 => by omega) (fun h1 => by omega))) (by omega) (by omega) (by first | exact (hd_o t179_5) | exact (hd_o t179_5).elim (fun h1 => by omega) (fun h1 => by omega)) (me_lt hm149 (by exact (hd_o t179_6).elim (fun h1 => by omega) (fun h1 => h1.elim (fun h1 => by omega) (fun h1 => by omega))) (by omega))
          have J178 : ∀ (M : Mem) (u178_120_3 u178_120_4 u178_120_5 u178_120_6 u178_120_7 u178_120_8 u178_9010_0 : Int), St Pm0 ws_X12_text_120_w1 as_X12_text_120_w1 M0 M → (0 ≤ u178_120_3 ∧ u178_120_3 ≤ 3) → (0 ≤ u178_120_4 ∧ u178_120_4 ≤ 900) → (0 ≤ u178_120_5 ∧ u178_120_5 ≤ 900) → ((-2147483648) ≤ u178_120_6 ∧ u178_120_6 ≤ 2147483647) → ((-9223372036854775808) ≤ u178_120_7 ∧ u178_120_7 ≤ 9223372036854775807) → (0 ≤ u178_120_8 ∧ u178_120_8 ≤ 5) → ((-1) ≤ u178_9010_0 ∧ u178_9010_0 ≤ 1800) → rd M 120 1 = 0 → rd M 120 12 = 1 → rd M 120 2 = r2 → rd M 120 3 = u178_120_3 → rd M 120 36 = 0 → rd M 120 37 = 0 → rd M 120 4 = u178_120_4 → rd M 120 44 = 0 → rd M 120 5 = u178_120_5 → rd M 120 50 = 0 → rd M 120 6 = u178_120_6 → rd M 120 7 = u178_120_7 → rd M 120 8 = u178_120_8 → rd M 129 0 = 0 → rd M 136 0 = 0 → nwv M = v140_9006 → tav M = u178_9010_0 → (u178_120_3 = 0 ∨ u178_120_4 + 1 ≤ u178_120_5) → (u178_120_4 ≤ u178_120_5) → (u178_120_3 ≠ 1 ∨ u178_120_4 + 2 ≤ u178_120_5 ∨ u178_120_7 < 256) → (0 ≤ 0) → (0 + 0 ≤ u178_120_4) → (1 ≤ u178_120_8 ∨ 0 + v140_9006 ≤ 2 * 0) → (u149_9010_0 ≤ u178_9010_0) → Tr l K 6 mX12_text 178 [(0, (2, 120))] [] M (q_X12_text_120_w1 M0) := by
            intro M u178_120_3 u178_120_4 u178_120_5 u178_120_6 u178_120_7 u178_120_8 u178_9010_0 hS bu178_120_3 bu178_120_4 bu178_120_5 bu178_120_6 bu178_120_7 bu178_120_8 bu178_9010_0 k178_120_1 k178_120_12 k178_120_2 k178_120_3 k178_120_36 k178_120_37 k178_120_4 k178_120_44 k178_120_5 k178_120_50 k178_120_6 k178_120_7 k178_120_8 k178_129_0 k178_136_0 k178_9006_0 k178_9010_0 t178_0 t178_1 t178_2 t178_3 t178_4 t178_5 t178_6
            clear k149_120_1 k149_120_12 k149_120_2 k149_120_3 k149_120_36 k149_120_37 k149_120_4 k149_120_44 k149_120_5 k149_120_50 k149_120_6 k149_120_7 k149_120_8 k149_129_0 k149_136_0 k149_9006_0 k149_9010_0
            replace t178_0 := hd_i t178_0
            replace t178_2 := hd_i t178_2
            replace t178_5 := hd_i t178_5
            refine Tr.iconst (pc := 178) d_X12_text_178 (by decide) ?_
            refine Tr.pick [0] (ls2 := [(0, (2, 120))]) rfl ?_
            exact J179 _ _ _ _ _ _ _ _ _ hS (by omega) (by and_intros <;> omega) (by and_intros <;> omega) (by and_intros <;> omega) (by and_intros <;> omega) (by omega) (by and_intros <;> omega) (by and_intros <;> omega) k178_120_1 k178_120_12 k178_120_2 k178_120_3 k178_120_36 k178_120_37 k178_120_4 k178_120_44 k178_120_5 k178_120_50 k178_120_6 k178_120_7 k178_120_8 k178_129_0 k178_136_0 k178_9006_0 k178_9010_0 (by first | exact (hd_o t178_0) | exact (hd_o t178_0).elim (fun h1 => by omega) (fun h1 => by omega)) (by omega) (by first | exact (hd_o t178_2) | exact (hd_o t178_2).elim (fun h1 => by omega) (fun h1 => h1.elim (fun h1 => by omega) (fun h1 => by omega))) (by omega) (by omega) (by first | exact (hd_o t178_5) | exact (hd_o t178_5).elim (fun h1 => by omega) (fun h1 => by omega)) (by omega)
          refine Tr.if_eq (pc := 164) (tgt := 178) d_X12_text_164 rfl (fun c164 => ?_) (fun c164 => ?_)
          · refine Tr.pick [0] (ls2 := [(0, (2, 120))]) rfl ?_
            exact J178 _ _ _ _ _ _ _ _ hS (by and_intros <;> omega) (by and_intros <;> omega) (by and_intros <;> omega) (by and_intros <;> omega) (by omega) (by and_intros <;> omega) (by and_intros <;> omega) k149_120_1 k149_120_12 k149_120_2 k149_120_3 k149_120_36 k149_120_37 k149_120_4 k149_120_44 k149_120_5 k149_120_50 k149_120_6 k149_120_7 k149_120_8 k149_129_0 k149_136_0 k149_9006_0 k149_9010_0 (by first | exact (hd_o t149_0) | exact (hd_o t149_0).elim (fun h1 => by omega) (fun h1 => by omega)) (by omega) (by first | exact (hd_o t149_2) | exact (hd_o t149_2).elim (fun h1 => by omega) (fun h1 => h1.elim (fun h1 => by omega) (fun h1 => by omega))) (by omega) (by omega) (by first | exact (hd_o t149_5) | exact (hd_o t149_5).elim (fun h1 => by omega) (fun h1 => by omega)) (by omega)
          · have c164b : 1 ≤ u149_120_3 ∧ u149_120_3 ≤ 3 := by omega
            replace c164 := hd_i c164
            refine Tr.aload_n (pc := 167) (i := 0) d_X12_text_167 rfl rfl ?_
            refine Tr.callV (pc := 168) (as := []) d_X12_text_168 s_12_544 ok_X12_declares rfl rfl (Nat.le_of_ble_eq_true rfl) (Nat.le_of_ble_eq_true rfl) (by decide) (ty_120 hS.1.1) ?_
            refine Tr.imp (Tr.deep (by decide) (ns_X12_declares_120_w1 (G120_3 := u149_120_3) (G120_4 := u149_120_4) (G120_5 := u149_120_5) (G120_7 := u149_120_7) (G120_8 := u149_120_8) (G9010_0 := u149_9010_0) hS.1 (k149_120_3) (k149_120_4) (k149_120_5) (k149_120_7) (k149_120_8) (k149_9010_0) k149_120_37 (by first | exact (hd_o t149_0) | exact (hd_o t149_0).elim (fun h1 => by omega) (fun h1 => by omega)) (by omega) (by first | exact (hd_o t149_2) | exact (hd_o t149_2).elim (fun h1 => by omega) (fun h1 => h1.elim (fun h1 => by omega) (fun h1 => by omega))) (by have h1 := (hd_o c164); omega) (by omega))) ?_
            rintro M168 _ ⟨h168, s168_120_3, s168_120_4, s168_120_5, s168_120_7, s168_120_8, s168_9010_0, es168_120_3, bs168_120_3, es168_120_4, bs168_120_4, es168_120_5, bs168_120_5, es168_120_7, bs168_120_7, es168_120_8, bs168_120_8, es168_9010_0, bs168_9010_0, r168, rfl, lr168, ur168, z168_0, z168_1, z168_2, z168_3, z168_4, z168_5⟩
            have hS := St.tr hS h168 (by decide) (by decide)
            refine Tr.sc [(0, r168)] rfl ?_
            refine Tr.if_eq (pc := 171) (tgt := 178) d_X12_text_171 rfl (fun c171 => ?_) (fun c171 => ?_)
            · refine Tr.pick [0] (ls2 := [(0, (2, 120))]) rfl ?_
              obtain ⟨w178p171_120_6, ew178p171_120_6⟩ : ∃ v, rd M168 120 6 = v := ⟨_, rfl⟩
              have bw178p171_120_6 : (-2147483648) ≤ w178p171_120_6 ∧ w178p171_120_6 ≤ 2147483647 := by rw [← ew178p171_120_6]; exact ir_120_6 hS.1.2.1
              exact J178 _ _ _ _ _ _ _ _ hS (by and_intros <;> omega) (by and_intros <;> omega) (by and_intros <;> omega) (by and_intros <;> omega) (by omega) (by and_intros <;> omega) (by and_intros <;> omega) ((kp_X12_declares_120_w1_120_1 h168).trans k149_120_1) ((kp_X12_declares_120_w1_120_12 h168).trans k149_120_12) ((kp_X12_declares_120_w1_120_2 h168).trans k149_120_2) es168_120_3 ((kp_X12_declares_120_w1_120_36 h168).trans k149_120_36) ((kp_X12_declares_120_w1_120_37 h168).trans k149_120_37) es168_120_4 ((kp_X12_declares_120_w1_120_44 h168).trans k149_120_44) es168_120_5 ((kp_X12_declares_120_w1_120_50 h168).trans k149_120_50) ew178p171_120_6 es168_120_7 es168_120_8 ((kp_X12_declares_120_w1_129_0 h168).trans k149_129_0) ((kp_X12_declares_120_w1_136_0 h168).trans k149_136_0) ((nwv_of (fun j => ((ka_X12_declares_120_w1_151 h168 _).trans rfl)) ((kp_X12_declares_120_w1_120_50 h168).trans rfl)).trans k149_9006_0) es168_9010_0 (by first | exact (hd_o z168_0) | exact (hd_o z168_0).elim (fun h1 => by omega) (fun h1 => by omega)) (by omega) (by first | exact (hd_o z168_2) | exact (hd_o z168_2).elim (fun h1 => by omega) (fun h1 => h1.elim (fun h1 => by omega) (fun h1 => by omega))) (by omega) (by omega) (by omega) (by omega)
            · have c171b : 1 ≤ r168 ∧ r168 ≤ 1 := by omega
              replace c171 := hd_i c171
              refine Tr.iconst (pc := 174) d_X12_text_174 (by decide) ?_
              refine Tr.goto (pc := 175) (tgt := 179) d_X12_text_175 rfl ?_
              refine Tr.pick [0] (ls2 := [(0, (2, 120))]) rfl ?_
              obtain ⟨w179p175_120_6, ew179p175_120_6⟩ : ∃ v, rd M168 120 6 = v := ⟨_, rfl⟩
              have bw179p175_120_6 : (-2147483648) ≤ w179p175_120_6 ∧ w179p175_120_6 ≤ 2147483647 := by rw [← ew179p175_120_6]; exact ir_120_6 hS.1.2.1
              exact J179 _ _ _ _ _ _ _ _ _ hS (by omega) (by and_intros <;> omega) (by and_intros <;> omega) (by and_intros <;> omega) (by and_intros <;> omega) (by omega) (by and_intros <;> omega) (by and_intros <;> omega) ((kp_X12_declares_120_w1_120_1 h168).trans k149_120_1) ((kp_X12_declares_120_w1_120_12 h168).trans k149_120_12) ((kp_X12_declares_120_w1_120_2 h168).trans k149_120_2) es168_120_3 ((kp_X12_declares_120_w1_120_36 h168).trans k149_120_36) ((kp_X12_declares_120_w1_120_37 h168).trans k149_120_37) es168_120_4 ((kp_X12_declares_120_w1_120_44 h168).trans k149_120_44) es168_120_5 ((kp_X12_declares_120_w1_120_50 h168).trans k149_120_50) ew179p175_120_6 es168_120_7 es168_120_8 ((kp_X12_declares_120_w1_129_0 h168).trans k149_129_0) ((kp_X12_declares_120_w1_136_0 h168).trans k149_136_0) ((nwv_of (fun j => ((ka_X12_declares_120_w1_151 h168 _).trans rfl)) ((kp_X12_declares_120_w1_120_50 h168).trans rfl)).trans k149_9006_0) es168_9010_0 (by first | exact (hd_o z168_0) | exact (hd_o z168_0).elim (fun h1 => by omega) (fun h1 => by omega)) (by omega) (by first | exact (hd_o z168_2) | exact (hd_o z168_2).elim (fun h1 => by omega) (fun h1 => h1.elim (fun h1 => by omega) (fun h1 => by omega))) (by omega) (by omega) (by omega) (by exact (hd_o z168_5).elim (fun h1 => by omega) (fun h1 => h1.elim (fun h1 => by omega) (fun h1 => by omega)))
  refine Tr.pick [1, 0] (ls2 := [(0, (2, 120)), (1, (0, 1))]) rfl ?_
  obtain ⟨w149p148_120_6, ew149p148_120_6⟩ : ∃ v, rd M144 120 6 = v := ⟨_, rfl⟩
  have bw149p148_120_6 : (-2147483648) ≤ w149p148_120_6 ∧ w149p148_120_6 ≤ 2147483647 := by rw [← ew149p148_120_6]; exact ir_120_6 hS.1.2.1
  exact J149 _ _ _ _ _ _ _ _ _ _ hS (by omega) (by and_intros <;> omega) (by and_intros <;> omega) (by and_intros <;> omega) (by and_intros <;> omega) (by omega) (by and_intros <;> omega) (by and_intros <;> omega) ((kp_X12_next_120_w1_120_1 h144).trans ((Wr.b w140 rfl).trans ((Wr.b w135 rfl).trans ((Wr.b w130 rfl).trans ((Wr.b w127 rfl).trans ((Wr.b w117 rfl).trans ((Wr.b w107 rfl).trans ((Wr.b w97 rfl).trans ((Wr.b w87 rfl).trans ((Wr.b w77 rfl).trans ((Wr.b w67 rfl).trans ((Wr.b w57 rfl).trans ((Wr.b w47 rfl).trans ((Wr.b w35 rfl).trans ((Wr.b w25 rfl).trans ((Wr.b w20 rfl).trans ((Wr.b w15 rfl).trans w10.1))))))))))))))))) ((kp_X12_next_120_w1_120_12 h144).trans ((Wr.b w140 rfl).trans ((Wr.b w135 rfl).trans ((Wr.b w130 rfl).trans ((Wr.b w127 rfl).trans ((Wr.b w117 rfl).trans ((Wr.b w107 rfl).trans ((Wr.b w97 rfl).trans ((Wr.b w87 rfl).trans ((Wr.b w77 rfl).trans ((Wr.b w67 rfl).trans ((Wr.b w57 rfl).trans ((Wr.b w47 rfl).trans ((Wr.b w35 rfl).trans ((Wr.b w25 rfl).trans ((Wr.b w20 rfl).trans ((Wr.b w15 rfl).trans ((Wr.b w10 rfl).trans ((Wr.b w5 rfl).trans en_120_12))))))))))))))))))) ((kp_X12_next_120_w1_120_2 h144).trans ((Wr.b w140 rfl).trans ((Wr.b w135 rfl).trans ((Wr.b w130 rfl).trans ((Wr.b w127 rfl).trans ((Wr.b w117 rfl).trans ((Wr.b w107 rfl).trans ((Wr.b w97 rfl).trans ((Wr.b w87 rfl).trans ((Wr.b w77 rfl).trans ((Wr.b w67 rfl).trans ((Wr.b w57 rfl).trans ((Wr.b w47 rfl).trans ((Wr.b w35 rfl).trans ((Wr.b w25 rfl).trans ((Wr.b w20 rfl).trans ((Wr.b w15 rfl).trans ((Wr.b w10 rfl).trans w5.1)))))))))))))))))) es144_120_3 ((kp_X12_next_120_w1_120_36 h144).trans ((Wr.b w140 rfl).trans ((Wr.b w135 rfl).trans w130.1))) ((kp_X12_next_120_w1_120_37 h144).trans ((Wr.b w140 rfl).trans ((Wr.b w135 rfl).trans ((Wr.b w130 rfl).trans ((Wr.b w127 rfl).trans ((Wr.b w117 rfl).trans ((Wr.b w107 rfl).trans ((Wr.b w97 rfl).trans ((Wr.b w87 rfl).trans ((Wr.b w77 rfl).trans ((Wr.b w67 rfl).trans ((Wr.b w57 rfl).trans ((Wr.b w47 rfl).trans w35.1))))))))))))) es144_120_4 ((kp_X12_next_120_w1_120_44 h144).trans ((Wr.b w140 rfl).trans w135.1)) es144_120_5 ((kp_X12_next_120_w1_120_50 h144).trans w140.1) ew149p148_120_6 es144_120_7 es144_120_8 ((kp_X12_next_120_w1_129_0 h144).trans ((Wr.b w140 rfl).trans ((Wr.b w135 rfl).trans ((Wr.b w130 rfl).trans ((Wr.b w127 rfl).trans w117.1))))) ((kp_X12_next_120_w1_136_0 h144).trans ((Wr.b w140 rfl).trans ((Wr.b w135 rfl).trans ((Wr.b w130 rfl).trans w127.1)))) ((nwv_of (fun j => ((ka_X12_next_120_w1_151 h144 _).trans rfl)) ((kp_X12_next_120_w1_120_50 h144).trans rfl)).trans ev140_9006) es144_9010_0 (by first | exact (hd_o z144_0) | exact (hd_o z144_0).elim (fun h1 => by omega) (fun h1 => by omega)) (by omega) (by first | exact (hd_o z144_2) | exact (hd_o z144_2).elim (fun h1 => by omega) (fun h1 => h1.elim (fun h1 => by omega) (fun h1 => by omega))) (by omega) (by omega) (by omega) (Nat.lt_succ_self _)
end
/-! 40.15 -/
section
def ws_X12_rows_120_w1 : List (Int × Int) := []
def as_X12_rows_120_w1 : List Int := []
def q_X12_rows_120_w1 (M0 M' : Mem) (r : Option PV) : Prop := St Tru ws_X12_rows_120_w1 as_X12_rows_120_w1 M0 M' ∧ ∃ v : Int, r = some (1, v) ∧ (-9223372036854775808) ≤ v ∧ v ≤ 9223372036854775807
set_option maxRecDepth 100000 in
set_option maxHeartbeats 4000000 in
theorem sp_X12_rows_120_w1 {l : Launch} {K : EC} {M0 : Mem} (hI : In Tru M0) (en_120_12 : rd M0 120 12 = 1) (a1 : Int) (ha1 : 0 ≤ a1 ∧ a1 ≤ 5) (a2 : Int) (ha2 : 0 ≤ a2 ∧ a2 ≤ 2100) (a3 : Int) (ha3 : 0 ≤ a3 ∧ a3 ≤ 2100)  (hF_Bk1 : Bk1 M0) : Tr l K 2 mX12_rows 0 [(0, (2, 120)), (1, (0, a1)), (2, (0, a2)), (3, (0, a3))] [] M0 (q_X12_rows_120_w1 M0) := by
  have hS : St Tru ws_X12_rows_120_w1 as_X12_rows_120_w1 M0 M0 := St.rf hI
  refine Tr.lconst (pc := 0) (v := 0) d_X12_rows_0 rfl (by decide) ?_
  refine Tr.lstore (pc := 1) (i := 4) (ls2 := [(4, (1, 0)), (0, (2, 120)), (1, (0, a1)), (2, (0, a2)), (3, (0, a3))]) d_X12_rows_1 (by decide) rfl ?_
  refine Tr.iload_n (pc := 3) (i := 2) d_X12_rows_3 rfl rfl ?_
  refine Tr.istore (pc := 4) (i := 6) (ls2 := [(6, (0, a2)), (4, (1, 0)), (0, (2, 120)), (1, (0, a1)), (2, (0, a2)), (3, (0, a3))]) d_X12_rows_4 (by decide) rfl ?_
  have J6 : ∀ (n6 : Nat) (M : Mem) (p6_4 p6_6 : Int), St Tru ws_X12_rows_120_w1 as_X12_rows_120_w1 M0 M → ((-9223372036854775808) ≤ p6_4 ∧ p6_4 ≤ 9223372036854775807) → (0 ≤ p6_6 ∧ p6_6 ≤ 2100) → (a2 ≤ p6_6) → (2100 - p6_6).toNat < n6 → Tr l K 2 mX12_rows 6 [(0, (2, 120)), (1, (0, a1)), (2, (0, a2)), (3, (0, a3)), (4, (1, p6_4)), (6, (0, p6_6))] [] M (q_X12_rows_120_w1 M0) := by
    intro n6
    induction n6 with
    | zero => intro M p6_4 p6_6 hS bp6_4 bp6_6  t6_0 hm6; exact absurd hm6 (Nat.not_lt_zero _)
    | succ n6 J6 =>
      intro M p6_4 p6_6 hS bp6_4 bp6_6  t6_0 hm6
      refine Tr.iload (pc := 6) (i := 6) d_X12_rows_6 rfl ?_
      refine Tr.iload_n (pc := 8) (i := 3) d_X12_rows_8 rfl rfl ?_
      refine Tr.icmp_ge (pc := 9) (tgt := 80) d_X12_rows_9 rfl (fun c9 => ?_) (fun c9 => ?_)
      · refine Tr.lload (pc := 80) (i := 4) d_X12_rows_80 rfl ?_
        exact Tr.lret (pc := 82) d_X12_rows_82 rfl ⟨hS, _, rfl, by omega, by omega⟩
      · refine Tr.aload_n (pc := 12) (i := 0) d_X12_rows_12 rfl rfl ?_
        refine Tr.getf (pc := 13) d_X12_rows_13 f_12_321 (by decide) (by decide) (ty_120 hS.1.1) ?_
        refine Tr.tp 177 (fx_120_102 hS.1.1) ?_
        refine Tr.iload (pc := 16) (i := 6) d_X12_rows_16 rfl ?_
        refine Tr.zald (pc := 18) d_X12_rows_18 (ty_177 hS.1.1) (by omega) (by omega) ?_
        refine Tr.gen (P := fun v => 0 ≤ v ∧ v ≤ 1) (ar_177 hS.1.2.1 _) (fun r18 er18 br18 => ?_)
        have J74 : ∀ (M : Mem) (p74_4 : Int), St Tru ws_X12_rows_120_w1 as_X12_rows_120_w1 M0 M → ((-9223372036854775808) ≤ p74_4 ∧ p74_4 ≤ 9223372036854775807) → rd M 177 p6_6 = r18 → (a2 ≤ p6_6) → Tr l K 2 mX12_rows 74 [(0, (2, 120)), (1, (0, a1)), (2, (0, a2)), (3, (0, a3)), (4, (1, p74_4)), (6, (0, p6_6))] [] M (q_X12_rows_120_w1 M0) := by
          intro M p74_4 hS bp74_4 k74_177_p6_610 t74_0
          refine Tr.iincV (pc := 74) (n2 := (p6_6 + 1)) (ls2 := [(6, (0, (p6_6 + 1))), (0, (2, 120)), (1, (0, a1)), (2, (0, a2)), (3, (0, a3)), (4, (1, p74_4))]) d_X12_rows_74 rfl (by decide) ((w32_id (by omega)).trans (by omega)) rfl ?_
          refine Tr.goto (pc := 77) (tgt := 6) d_X12_rows_77 rfl ?_
          refine Tr.pick [1, 2, 3, 4, 5, 0] (ls2 := [(0, (2, 120)), (1, (0, a1)), (2, (0, a2)), (3, (0, a3)), (4, (1, p74_4)), (6, (0, (p6_6 + 1)))]) rfl ?_
          exact J6 _ _ _ hS (by omega) (by omega) (by omega) (by omega)
        refine Tr.if_ne (pc := 19) (tgt := 25) d_X12_rows_19 rfl (fun c19 => ?_) (fun c19 => ?_)
        · refine Tr.lload (pc := 25) (i := 4) d_X12_rows_25 rfl ?_
          refine Tr.aload_n (pc := 27) (i := 0) d_X12_rows_27 rfl rfl ?_
          refine Tr.iload_n (pc := 28) (i := 1) d_X12_rows_28 rfl rfl ?_
          refine Tr.iconst (pc := 29) d_X12_rows_29 (by decide) ?_
          refine Tr.callV (pc := 30) (as := [_, _]) d_X12_rows_30 s_12_565 ok_X12_rate rfl rfl (Nat.le_of_ble_eq_true rfl) (Nat.le_of_ble_eq_true rfl) (by decide) (ty_120 hS.1.1) ?_
          refine Tr.imp (Tr.deep (by decide) (sp_X12_rate_120_w1 hS.1 ((St.kp hS (by decide) (by decide) (by decide)).trans en_120_12) a1 (by omega) 3 (by omega) (Bk1.of hF_Bk1 (fun j => (St.ka hS (by decide) (by decide) (by decide))) (fun j => (St.ka hS (by decide) (by decide) (by decide))) (fun j => (St.ka hS (by decide) (by decide) (by decide))) (fun j => (St.ka hS (by decide) (by decide) (by decide))) (fun j => (St.ka hS (by decide) (by decide) (by decide))) (fun j => (St.ka hS (by decide) (by decide) (by decide))) (fun j => (St.ka hS (by decide) (by decide) (by decide))) (fun j => (St.ka hS (by decide) (by decide) (by decide))) (St.kp hS (by decide) (by decide) (by decide)) (St.kp hS (by decide) (by decide) (by decide)) (St.kp hS (by decide) (by decide) (by decide)) (St.kp hS (by decide) (by decide) (by decide))))) ?_
          rintro M30 _ ⟨h30, r30, rfl, lr30, ur30, z30_0⟩
          have hS := St.tr hS h30 (by decide) (by decide)
          obtain ⟨w30_126_1, ew30_126_1⟩ : ∃ v, rd M30 126 1 = v := ⟨_, rfl⟩
          have bw30_126_1 : 0 ≤ w30_126_1 ∧ w30_126_1 ≤ 6 := by rw [← ew30_126_1]; exact ir_126_1 hS.1.2.1
          have ka30_126_1 : rd M30 126 1 = w30_126_1 := ew30_126_1
          refine Tr.sc [(0, r30), (1, p6_4)] rfl ?_
          refine Tr.i2l (pc := 33) d_X12_rows_33 ?_
          refine Tr.ladd (pc := 34) d_X12_rows_34 ?_
          refine Tr.gen (P := fun v => (-9223372036854775808) ≤ v ∧ v ≤ 9223372036854775807) (w64_b _) (fun r34 er34 br34 => ?_)
          refine Tr.lstore (pc := 35) (i := 4) (ls2 := [(4, (1, r34)), (0, (2, 120)), (1, (0, a1)), (2, (0, a2)), (3, (0, a3)), (6, (0, p6_6))]) d_X12_rows_35 (by decide) rfl ?_
          refine Tr.iload (pc := 37) (i := 6) d_X12_rows_37 rfl ?_
          refine Tr.iload_n (pc := 39) (i := 2) d_X12_rows_39 rfl rfl ?_
          have J55 : ∀ (M : Mem) (p55_4 : Int), St Tru ws_X12_rows_120_w1 as_X12_rows_120_w1 M0 M → ((-9223372036854775808) ≤ p55_4 ∧ p55_4 ≤ 9223372036854775807) → rd M 126 1 = w30_126_1 → rd M 177 p6_6 = r18 → (a2 ≤ p6_6) → Tr l K 2 mX12_rows 55 [(0, (2, 120)), (1, (0, a1)), (2, (0, a2)), (3, (0, a3)), (4, (1, p55_4)), (6, (0, p6_6))] [] M (q_X12_rows_120_w1 M0) := by
            intro M p55_4 hS bp55_4 k55_126_1 k55_177_p6_610 t55_0
            refine Tr.lload (pc := 55) (i := 4) d_X12_rows_55 rfl ?_
            refine Tr.aload_n (pc := 57) (i := 0) d_X12_rows_57 rfl rfl ?_
            refine Tr.iload_n (pc := 58) (i := 1) d_X12_rows_58 rfl rfl ?_
            refine Tr.callV (pc := 59) (as := [_]) d_X12_rows_59 s_12_584 ok_X12_wakes rfl rfl (Nat.le_of_ble_eq_true rfl) (Nat.le_of_ble_eq_true rfl) (by decide) (ty_120 hS.1.1) ?_
            refine Tr.imp (Tr.deep (by decide) (sp_X12_wakes_120_w1 hS.1 ((St.kp hS (by decide) (by decide) (by decide)).trans en_120_12) a1 (by omega) (Bk1.of hF_Bk1 (fun j => (St.ka hS (by decide) (by decide) (by decide))) (fun j => (St.ka hS (by decide) (by decide) (by decide))) (fun j => (St.ka hS (by decide) (by decide) (by decide))) (fun j => (St.ka hS (by decide) (by decide) (by decide))) (fun j => (St.ka hS (by decide) (by decide) (by decide))) (fun j => (St.ka hS (by decide) (by decide) (by decide))) (fun j => (St.ka hS (by decide) (by decide) (by decide))) (fun j => (St.ka hS (by decide) (by decide) (by decide))) (St.kp hS (by decide) (by decide) (by decide)) (St.kp hS (by decide) (by decide) (by decide)) (St.kp hS (by decide) (by decide) (by decide)) (St.kp hS (by decide) (by decide) (by decide))))) ?_
            rintro M59 _ ⟨h59, r59, rfl, lr59, ur59⟩
            have hS := St.tr hS h59 (by decide) (by decide)
            refine Tr.sc [(0, r59), (1, p55_4)] rfl ?_
            refine Tr.i2l (pc := 62) d_X12_rows_62 ?_
            refine Tr.aload_n (pc := 63) (i := 0) d_X12_rows_63 rfl rfl ?_
            refine Tr.iload_n (pc := 64) (i := 1) d_X12_rows_64 rfl rfl ?_
            refine Tr.iconst (pc := 65) d_X12_rows_65 (by decide) ?_
            refine Tr.callV (pc := 66) (as := [_, _]) d_X12_rows_66 s_12_565 ok_X12_rate rfl rfl (Nat.le_of_ble_eq_true rfl) (Nat.le_of_ble_eq_true rfl) (by decide) (ty_120 hS.1.1) ?_
            refine Tr.imp (Tr.deep (by decide) (sp_X12_rate_120_w1 hS.1 ((St.kp hS (by decide) (by decide) (by decide)).trans en_120_12) a1 (by omega) 2 (by omega) (Bk1.of hF_Bk1 (fun j => (St.ka hS (by decide) (by decide) (by decide))) (fun j => (St.ka hS (by decide) (by decide) (by decide))) (fun j => (St.ka hS (by decide) (by decide) (by decide))) (fun j => (St.ka hS (by decide) (by decide) (by decide))) (fun j => (St.ka hS (by decide) (by decide) (by decide))) (fun j => (St.ka hS (by decide) (by decide) (by decide))) (fun j => (St.ka hS (by decide) (by decide) (by decide))) (fun j => (St.ka hS (by decide) (by decide) (by decide))) (St.kp hS (by decide) (by decide) (by decide)) (St.kp hS (by decide) (by decide) (by decide)) (St.kp hS (by decide) (by decide) (by decide)) (St.kp hS (by decide) (by decide) (by decide))))) ?_
            rintro M66 _ ⟨h66, r66, rfl, lr66, ur66, z66_0⟩
            have hS := St.tr hS h66 (by decide) (by decide)
            have ka66_126_1 : rd M66 126 1 = w30_126_1 := ((St.kp h66 (by decide) (by decide) (by decide)).trans ((St.kp h59 (by decide) (by decide) (by decide)).trans k55_126_1))
            refine Tr.sc [(0, r66), (1, r59), (1, p55_4)] rfl ?_
            refine Tr.i2l (pc := 69) d_X12_rows_69 ?_
            refine Tr.lmul (pc := 70) d_X12_rows_70 ?_
            refine Tr.gen (P := fun v => (-9223372036854775808) ≤ v ∧ v ≤ 9223372036854775807) (w64_b _) (fun r70 er70 br70 => ?_)
            refine Tr.ladd (pc := 71) d_X12_rows_71 ?_
            refine Tr.gen (P := fun v => (-9223372036854775808) ≤ v ∧ v ≤ 9223372036854775807) (w64_b _) (fun r71 er71 br71 => ?_)
            refine Tr.lstore (pc := 72) (i := 4) (ls2 := [(4, (1, r71)), (0, (2, 120)), (1, (0, a1)), (2, (0, a2)), (3, (0, a3)), (6, (0, p6_6))]) d_X12_rows_72 (by decide) rfl ?_
            refine Tr.pick [1, 2, 3, 4, 0, 5] (ls2 := [(0, (2, 120)), (1, (0, a1)), (2, (0, a2)), (3, (0, a3)), (4, (1, r71)), (6, (0, p6_6))]) rfl ?_
            exact J74 _ _ hS (by omega) ((St.ka h66 (by decide) (by decide) (by decide)).trans ((St.ka h59 (by decide) (by decide) (by decide)).trans k55_177_p6_610)) (by omega)
          refine Tr.icmp_eq (pc := 40) (tgt := 55) d_X12_rows_40 rfl (fun c40 => ?_) (fun c40 => ?_)
          · refine Tr.pick [1, 2, 3, 4, 0, 5] (ls2 := [(0, (2, 120)), (1, (0, a1)), (2, (0, a2)), (3, (0, a3)), (4, (1, r34)), (6, (0, p6_6))]) rfl ?_
            exact J55 _ _ hS (by omega) ew30_126_1 ((St.ka h30 (by decide) (by decide) (by decide)).trans er18) (by omega)
          · refine Tr.aload_n (pc := 43) (i := 0) d_X12_rows_43 rfl rfl ?_
            refine Tr.getf (pc := 44) d_X12_rows_44 f_12_321 (by decide) (by decide) (ty_120 hS.1.1) ?_
            refine Tr.tp 177 (fx_120_102 hS.1.1) ?_
            refine Tr.iload (pc := 47) (i := 6) d_X12_rows_47 rfl ?_
            refine Tr.iconst (pc := 49) d_X12_rows_49 (by decide) ?_
            refine Tr.isub (pc := 50) d_X12_rows_50 ?_
            refine Tr.tp (p6_6 - 1) ((w32_id (by omega)).trans (by omega)) ?_
            refine Tr.zald (pc := 51) d_X12_rows_51 (ty_177 hS.1.1) (by omega) (by omega) ?_
            refine Tr.gen (P := fun v => 0 ≤ v ∧ v ≤ 1) (ar_177 hS.1.2.1 _) (fun r51 er51 br51 => ?_)
            refine Tr.if_ne (pc := 52) (tgt := 74) d_X12_rows_52 rfl (fun c52 => ?_) (fun c52 => ?_)
            · refine Tr.pick [1, 2, 3, 4, 0, 5] (ls2 := [(0, (2, 120)), (1, (0, a1)), (2, (0, a2)), (3, (0, a3)), (4, (1, r34)), (6, (0, p6_6))]) rfl ?_
              exact J74 _ _ hS (by omega) ((St.ka h30 (by decide) (by decide) (by decide)).trans er18) (by omega)
            · refine Tr.pick [1, 2, 3, 4, 0, 5] (ls2 := [(0, (2, 120)), (1, (0, a1)), (2, (0, a2)), (3, (0, a3)), (4, (1, r34)), (6, (0, p6_6))]) rfl ?_
              exact J55 _ _ hS (by omega) ew30_126_1 ((St.ka h30 (by decide) (by decide) (by decide)).trans er18) (by omega)
        · refine Tr.goto (pc := 22) (tgt := 74) d_X12_rows_22 rfl ?_
          refine Tr.pick [0, 1, 2, 3, 4, 5] (ls2 := [(0, (2, 120)), (1, (0, a1)), (2, (0, a2)), (3, (0, a3)), (4, (1, p6_4)), (6, (0, p6_6))]) rfl ?_
          exact J74 _ _ hS (by omega) er18 (by omega)
  refine Tr.pick [2, 3, 4, 5, 1, 0] (ls2 := [(0, (2, 120)), (1, (0, a1)), (2, (0, a2)), (3, (0, a3)), (4, (1, 0)), (6, (0, a2))]) rfl ?_
  exact J6 _ _ _ _ hS (by omega) (by omega) (by omega) (Nat.lt_succ_self _)

def ws_X12_asksCost_120_w1 : List (Int × Int) := []
def as_X12_asksCost_120_w1 : List Int := [177]
def q_X12_asksCost_120_w1 (M0 M' : Mem) (r : Option PV) : Prop := St Tru ws_X12_asksCost_120_w1 as_X12_asksCost_120_w1 M0 M' ∧ ∃ v : Int, r = some (1, v) ∧ (-9223372036854775808) ≤ v ∧ v ≤ 9223372036854775807
theorem kp_X12_asksCost_120_w1_120_12 {q : Mem → Prop} {M0 M : Mem} (h : St q ws_X12_asksCost_120_w1 as_X12_asksCost_120_w1 M0 M) : rd M 120 12 = rd M0 120 12 := St.kp h (by decide) (by decide) (by decide)
theorem ka_X12_asksCost_120_w1_131 {q : Mem → Prop} {M0 M : Mem} (h : St q ws_X12_asksCost_120_w1 as_X12_asksCost_120_w1 M0 M) (j : Int) : rd M 131 j = rd M0 131 j := St.ka h (by decide) (by decide) (by decide)
theorem ka_X12_asksCost_120_w1_137 {q : Mem → Prop} {M0 M : Mem} (h : St q ws_X12_asksCost_120_w1 as_X12_asksCost_120_w1 M0 M) (j : Int) : rd M 137 j = rd M0 137 j := St.ka h (by decide) (by decide) (by decide)
theorem ka_X12_asksCost_120_w1_138 {q : Mem → Prop} {M0 M : Mem} (h : St q ws_X12_asksCost_120_w1 as_X12_asksCost_120_w1 M0 M) (j : Int) : rd M 138 j = rd M0 138 j := St.ka h (by decide) (by decide) (by decide)
theorem ka_X12_asksCost_120_w1_139 {q : Mem → Prop} {M0 M : Mem} (h : St q ws_X12_asksCost_120_w1 as_X12_asksCost_120_w1 M0 M) (j : Int) : rd M 139 j = rd M0 139 j := St.ka h (by decide) (by decide) (by decide)
theorem ka_X12_asksCost_120_w1_140 {q : Mem → Prop} {M0 M : Mem} (h : St q ws_X12_asksCost_120_w1 as_X12_asksCost_120_w1 M0 M) (j : Int) : rd M 140 j = rd M0 140 j := St.ka h (by decide) (by decide) (by decide)
theorem ka_X12_asksCost_120_w1_141 {q : Mem → Prop} {M0 M : Mem} (h : St q ws_X12_asksCost_120_w1 as_X12_asksCost_120_w1 M0 M) (j : Int) : rd M 141 j = rd M0 141 j := St.ka h (by decide) (by decide) (by decide)
theorem ka_X12_asksCost_120_w1_142 {q : Mem → Prop} {M0 M : Mem} (h : St q ws_X12_asksCost_120_w1 as_X12_asksCost_120_w1 M0 M) (j : Int) : rd M 142 j = rd M0 142 j := St.ka h (by decide) (by decide) (by decide)
theorem ka_X12_asksCost_120_w1_143 {q : Mem → Prop} {M0 M : Mem} (h : St q ws_X12_asksCost_120_w1 as_X12_asksCost_120_w1 M0 M) (j : Int) : rd M 143 j = rd M0 143 j := St.ka h (by decide) (by decide) (by decide)
theorem kp_X12_asksCost_120_w1_126_1 {q : Mem → Prop} {M0 M : Mem} (h : St q ws_X12_asksCost_120_w1 as_X12_asksCost_120_w1 M0 M) : rd M 126 1 = rd M0 126 1 := St.kp h (by decide) (by decide) (by decide)
theorem kp_X12_asksCost_120_w1_136_1 {q : Mem → Prop} {M0 M : Mem} (h : St q ws_X12_asksCost_120_w1 as_X12_asksCost_120_w1 M0 M) : rd M 136 1 = rd M0 136 1 := St.kp h (by decide) (by decide) (by decide)
theorem kp_X12_asksCost_120_w1_123_1 {q : Mem → Prop} {M0 M : Mem} (h : St q ws_X12_asksCost_120_w1 as_X12_asksCost_120_w1 M0 M) : rd M 123 1 = rd M0 123 1 := St.kp h (by decide) (by decide) (by decide)
theorem kp_X12_asksCost_120_w1_124_1 {q : Mem → Prop} {M0 M : Mem} (h : St q ws_X12_asksCost_120_w1 as_X12_asksCost_120_w1 M0 M) : rd M 124 1 = rd M0 124 1 := St.kp h (by decide) (by decide) (by decide)
theorem ka_X12_tails_120_w1_185 {q : Mem → Prop} {M0 M : Mem} (h : St q ws_X12_tails_120_w1 as_X12_tails_120_w1 M0 M) (j : Int) : rd M 185 j = rd M0 185 j := St.ka h (by decide) (by decide) (by decide)
theorem ka_X12_tails_120_w1_189 {q : Mem → Prop} {M0 M : Mem} (h : St q ws_X12_tails_120_w1 as_X12_tails_120_w1 M0 M) (j : Int) : rd M 189 j = rd M0 189 j := St.ka h (by decide) (by decide) (by decide)
theorem kp_X12_tails_120_w1_120_113 {q : Mem → Prop} {M0 M : Mem} (h : St q ws_X12_tails_120_w1 as_X12_tails_120_w1 M0 M) : rd M 120 113 = rd M0 120 113 := St.kp h (by decide) (by decide) (by decide)
theorem kp_X12_tails_120_w1_126_1 {q : Mem → Prop} {M0 M : Mem} (h : St q ws_X12_tails_120_w1 as_X12_tails_120_w1 M0 M) : rd M 126 1 = rd M0 126 1 := St.kp h (by decide) (by decide) (by decide)
theorem ka_X12_tails_120_w1_186 {q : Mem → Prop} {M0 M : Mem} (h : St q ws_X12_tails_120_w1 as_X12_tails_120_w1 M0 M) (j : Int) : rd M 186 j = rd M0 186 j := St.ka h (by decide) (by decide) (by decide)
set_option maxRecDepth 100000 in
set_option maxHeartbeats 4000000 in
theorem sp_X12_asksCost_120_w1 {l : Launch} {K : EC} {M0 : Mem} (hI : In Tru M0) (en_120_12 : rd M0 120 12 = 1) (a1 : Int) (ha1 : 0 ≤ a1 ∧ a1 ≤ 5)  (hq0 : a1 < rd M0 126 1) (hF_Bk1 : Bk1 M0) : Tr l K 3 mX12_asksCost 0 [(0, (2, 120)), (1, (0, a1))] [] M0 (q_X12_asksCost_120_w1 M0) := by
  have hS : St Tru ws_X12_asksCost_120_w1 as_X12_asksCost_120_w1 M0 M0 := St.rf hI
  obtain ⟨g126_1, eg126_1⟩ : ∃ v, rd M0 126 1 = v := ⟨_, rfl⟩
  have bg126_1 : 0 ≤ g126_1 ∧ g126_1 ≤ 6 := by rw [← eg126_1]; exact ir_126_1 hI.2.1
  refine Tr.iconst (pc := 0) d_X12_asksCost_0 (by decide) ?_
  refine Tr.istore_n (pc := 1) (i := 2) (ls2 := [(2, (0, 0)), (0, (2, 120)), (1, (0, a1))]) d_X12_asksCost_1 rfl (by decide) rfl ?_
  have J2 : ∀ (n2 : Nat) (M : Mem) (p2_2 : Int), St Tru ws_X12_asksCost_120_w1 as_X12_asksCost_120_w1 M0 M → (0 ≤ p2_2 ∧ p2_2 ≤ 300) → rd M 126 1 = g126_1 → (300 - p2_2).toNat < n2 → Tr l K 3 mX12_asksCost 2 [(0, (2, 120)), (1, (0, a1)), (2, (0, p2_2))] [] M (q_X12_asksCost_120_w1 M0) := by
    intro n2
    induction n2 with
    | zero => intro M p2_2 hS bp2_2 k2_126_1 hm2; exact absurd hm2 (Nat.not_lt_zero _)
    | succ n2 J2 =>
      intro M p2_2 hS bp2_2 k2_126_1 hm2
      refine Tr.iload_n (pc := 2) (i := 2) d_X12_asksCost_2 rfl rfl ?_
      refine Tr.sipush (pc := 3) d_X12_asksCost_3 rfl (by decide) ?_
      refine Tr.icmp_ge (pc := 6) (tgt := 22) d_X12_asksCost_6 rfl (fun c6 => ?_) (fun c6 => ?_)
      · refine Tr.iconst (pc := 22) d_X12_asksCost_22 (by decide) ?_
        refine Tr.istore_n (pc := 23) (i := 2) (ls2 := [(2, (0, 0)), (0, (2, 120)), (1, (0, a1))]) d_X12_asksCost_23 rfl (by decide) rfl ?_
        have J24 : ∀ (n24 : Nat) (M : Mem) (p24_2 : Int), St Tru ws_X12_asksCost_120_w1 as_X12_asksCost_120_w1 M0 M → (0 ≤ p24_2 ∧ p24_2 ≤ 6) → rd M 126 1 = g126_1 → (6 - p24_2).toNat < n24 → Tr l K 3 mX12_asksCost 24 [(0, (2, 120)), (1, (0, a1)), (2, (0, p24_2))] [] M (q_X12_asksCost_120_w1 M0) := by
          intro n24
          induction n24 with
          | zero => intro M p24_2 hS bp24_2 k24_126_1 hm24; exact absurd hm24 (Nat.not_lt_zero _)
          | succ n24 J24 =>
            intro M p24_2 hS bp24_2 k24_126_1 hm24
            clear k2_126_1
            refine Tr.iload_n (pc := 24) (i := 2) d_X12_asksCost_24 rfl rfl ?_
            refine Tr.aload_n (pc := 25) (i := 0) d_X12_asksCost_25 rfl rfl ?_
            refine Tr.getf (pc := 26) d_X12_asksCost_26 f_12_354 (by decide) (by decide) (ty_120 hS.1.1) ?_
            refine Tr.gen (P := fun v => 0 ≤ v ∧ v ≤ 6) (ir_120_113 hS.1.2.1) (fun r26 er26 br26 => ?_)
            refine Tr.icmp_ge (pc := 29) (tgt := 100) d_X12_asksCost_29 rfl (fun c29 => ?_) (fun c29 => ?_)
            · refine Tr.aload_n (pc := 100) (i := 0) d_X12_asksCost_100 rfl rfl ?_
              refine Tr.iload_n (pc := 101) (i := 1) d_X12_asksCost_101 rfl rfl ?_
              refine Tr.iconst (pc := 102) d_X12_asksCost_102 (by decide) ?_
              refine Tr.sipush (pc := 103) d_X12_asksCost_103 rfl (by decide) ?_
              refine Tr.callV (pc := 106) (as := [_, _, _]) d_X12_asksCost_106 s_12_665 ok_X12_rows rfl rfl (Nat.le_of_ble_eq_true rfl) (Nat.le_of_ble_eq_true rfl) (by decide) (ty_120 hS.1.1) ?_
              refine Tr.imp (Tr.deep (by decide) (sp_X12_rows_120_w1 hS.1 ((kp_X12_asksCost_120_w1_120_12 hS).trans en_120_12) a1 (by and_intros <;> omega) 0 (by omega) 300 (by omega) (Bk1.of hF_Bk1 (fun j => (ka_X12_asksCost_120_w1_131 hS _)) (fun j => (ka_X12_asksCost_120_w1_137 hS _)) (fun j => (ka_X12_asksCost_120_w1_138 hS _)) (fun j => (ka_X12_asksCost_120_w1_139 hS _)) (fun j => (ka_X12_asksCost_120_w1_140 hS _)) (fun j => (ka_X12_asksCost_120_w1_141 hS _)) (fun j => (ka_X12_asksCost_120_w1_142 hS _)) (fun j => (ka_X12_asksCost_120_w1_143 hS _)) (kp_X12_asksCost_120_w1_126_1 hS) (kp_X12_asksCost_120_w1_136_1 hS) (kp_X12_asksCost_120_w1_123_1 hS) (kp_X12_asksCost_120_w1_124_1 hS)))) ?_
              rintro M106 _ ⟨h106, r106, rfl, lr106, ur106⟩
              have hS := St.tr hS h106 (by decide) (by decide)
              refine Tr.sc [(1, r106)] rfl ?_
              exact Tr.lret (pc := 109) d_X12_asksCost_109 rfl ⟨hS, _, rfl, (by omega), (by omega)⟩
            · refine Tr.aload_n (pc := 32) (i := 0) d_X12_asksCost_32 rfl rfl ?_
              refine Tr.getf (pc := 33) d_X12_asksCost_33 f_12_357 (by decide) (by decide) (ty_120 hS.1.1) ?_
              refine Tr.tp 185 (fx_120_114 hS.1.1) ?_
              refine Tr.iload_n (pc := 36) (i := 2) d_X12_asksCost_36 rfl rfl ?_
              refine Tr.iald (pc := 37) d_X12_asksCost_37 (ty_185 hS.1.1) (by omega) (by omega) ?_
              refine Tr.gen (P := fun v => 0 ≤ v ∧ v ≤ 200) (ar_185 hS.1.2.1 _) (fun r37 er37 br37 => ?_)
              refine Tr.aload_n (pc := 38) (i := 0) d_X12_asksCost_38 rfl rfl ?_
              refine Tr.getf (pc := 39) d_X12_asksCost_39 f_12_372 (by decide) (by decide) (ty_120 hS.1.1) ?_
              refine Tr.tp 189 (fx_120_119 hS.1.1) ?_
              refine Tr.iload_n (pc := 42) (i := 2) d_X12_asksCost_42 rfl rfl ?_
              refine Tr.iald (pc := 43) d_X12_asksCost_43 (ty_189 hS.1.1) (by omega) (by omega) ?_
              refine Tr.gen (P := fun v => 0 ≤ v ∧ v ≤ 5) (ar_189 hS.1.2.1 _) (fun r43 er43 br43 => ?_)
              refine Tr.iadd (pc := 44) d_X12_asksCost_44 ?_
              refine Tr.tp (r37 + r43) ((w32_id (by and_intros <;> omega)).trans (by omega)) ?_
              refine Tr.aload_n (pc := 45) (i := 0) d_X12_asksCost_45 rfl rfl ?_
              refine Tr.getf (pc := 46) d_X12_asksCost_46 f_12_360 (by decide) (by decide) (ty_120 hS.1.1) ?_
              refine Tr.tp 186 (fx_120_115 hS.1.1) ?_
              refine Tr.iload_n (pc := 49) (i := 2) d_X12_asksCost_49 rfl rfl ?_
              refine Tr.iald (pc := 50) d_X12_asksCost_50 (ty_186 hS.1.1) (by omega) (by omega) ?_
              refine Tr.gen (P := fun v => 0 ≤ v ∧ v ≤ 20) (ar_186 hS.1.2.1 _) (fun r50 er50 br50 => ?_)
              refine Tr.iadd (pc := 51) d_X12_asksCost_51 ?_
              refine Tr.tp (r37 + r43 + r50) ((w32_id (by and_intros <;> omega)).trans (by omega)) ?_
              refine Tr.aload_n (pc := 52) (i := 0) d_X12_asksCost_52 rfl rfl ?_
              refine Tr.iload_n (pc := 53) (i := 1) d_X12_asksCost_53 rfl rfl ?_
              refine Tr.callV (pc := 54) (as := [_]) d_X12_asksCost_54 s_12_591 ok_X12_tails rfl rfl (Nat.le_of_ble_eq_true rfl) (Nat.le_of_ble_eq_true rfl) (by decide) (ty_120 hS.1.1) ?_
              refine Tr.imp (Tr.deep (by decide) (ns_X12_tails_120_w1 (G126_1 := g126_1) hS.1 (k24_126_1) ((kp_X12_asksCost_120_w1_120_12 hS).trans en_120_12) a1 (by and_intros <;> omega) (Bk1.of hF_Bk1 (fun j => (ka_X12_asksCost_120_w1_131 hS _)) (fun j => (ka_X12_asksCost_120_w1_137 hS _)) (fun j => (ka_X12_asksCost_120_w1_138 hS _)) (fun j => (ka_X12_asksCost_120_w1_139 hS _)) (fun j => (ka_X12_asksCost_120_w1_140 hS _)) (fun j => (ka_X12_asksCost_120_w1_141 hS _)) (fun j => (ka_X12_asksCost_120_w1_142 hS _)) (fun j => (ka_X12_asksCost_120_w1_143 hS _)) (kp_X12_asksCost_120_w1_126_1 hS) (kp_X12_asksCost_120_w1_136_1 hS) (kp_X12_asksCost_120_w1_123_1 hS) (kp_X12_asksCost_120_w1_124_1 hS)))) ?_
              rintro M54 _ ⟨h54, r54, rfl, lr54, ur54, z54_0⟩
              have hS := St.tr hS h54 (by decide) (by decide)
              refine Tr.sc [(0, r54), (0, (r37 + r43 + r50))] rfl ?_
              refine Tr.iadd (pc := 57) d_X12_asksCost_57 ?_
              refine Tr.tp (r37 + r43 + r50 + r54) ((w32_id (by exact (hd_o z54_0).elim (fun h1 => by omega) (fun h1 => by omega))).trans (by omega)) ?_
              refine Tr.istore_n (pc := 58) (i := 3) (ls2 := [(3, (0, (r37 + r43 + r50 + r54))), (0, (2, 120)), (1, (0, a1)), (2, (0, p24_2))]) d_X12_asksCost_58 rfl (by decide) rfl ?_
              refine Tr.aload_n (pc := 59) (i := 0) d_X12_asksCost_59 rfl rfl ?_
              refine Tr.getf (pc := 60) d_X12_asksCost_60 f_12_357 (by decide) (by decide) (ty_120 hS.1.1) ?_
              refine Tr.tp 185 (fx_120_114 hS.1.1) ?_
              refine Tr.iload_n (pc := 63) (i := 2) d_X12_asksCost_63 rfl rfl ?_
              refine Tr.iald (pc := 64) d_X12_asksCost_64 (ty_185 hS.1.1) (by omega) (by omega) ?_
              refine Tr.tp r37 ((ka_X12_tails_120_w1_185 h54 _).trans er37) ?_
              refine Tr.aload_n (pc := 65) (i := 0) d_X12_asksCost_65 rfl rfl ?_
              refine Tr.getf (pc := 66) d_X12_asksCost_66 f_12_372 (by decide) (by decide) (ty_120 hS.1.1) ?_
              refine Tr.tp 189 (fx_120_119 hS.1.1) ?_
              refine Tr.iload_n (pc := 69) (i := 2) d_X12_asksCost_69 rfl rfl ?_
              refine Tr.iald (pc := 70) d_X12_asksCost_70 (ty_189 hS.1.1) (by omega) (by omega) ?_
              refine Tr.tp r43 ((ka_X12_tails_120_w1_189 h54 _).trans er43) ?_
              refine Tr.iadd (pc := 71) d_X12_asksCost_71 ?_
              refine Tr.tp (r37 + r43) ((w32_id (by and_intros <;> omega)).trans (by omega)) ?_
              refine Tr.istore (pc := 72) (i := 4) (ls2 := [(4, (0, (r37 + r43))), (3, (0, (r37 + r43 + r50 + r54))), (0, (2, 120)), (1, (0, a1)), (2, (0, p24_2))]) d_X12_asksCost_72 (by decide) rfl ?_
              have J74 : ∀ (n74 : Nat) (M : Mem) (p74_4 : Int), St Tru ws_X12_asksCost_120_w1 as_X12_asksCost_120_w1 M0 M → (0 ≤ p74_4 ∧ p74_4 ≤ 2200) → rd M 120 113 = r26 → rd M 126 1 = g126_1 → rd M 185 p24_2 = r37 → rd M 186 p24_2 = r50 → rd M 189 p24_2 = r43 → ((r37 + r43 + r50 + r54) ≤ 275) → (2200 - p74_4).toNat < n74 → Tr l K 3 mX12_asksCost 74 [(0, (2, 120)), (1, (0, a1)), (2, (0, p24_2)), (3, (0, (r37 + r43 + r50 + r54))), (4, (0, p74_4))] [] M (q_X12_asksCost_120_w1 M0) := by
                intro n74
                induction n74 with
                | zero => intro M p74_4 hS bp74_4 k74_120_113 k74_126_1 k74_185_p24_210 k74_186_p24_210 k74_189_p24_210 t74_0 hm74; exact absurd hm74 (Nat.not_lt_zero _)
                | succ n74 J74 =>
                  intro M p74_4 hS bp74_4 k74_120_113 k74_126_1 k74_185_p24_210 k74_186_p24_210 k74_189_p24_210 t74_0 hm74
                  clear k24_126_1 er26 er37 er43 er50
                  refine Tr.iload (pc := 74) (i := 4) d_X12_asksCost_74 rfl ?_
                  refine Tr.iload_n (pc := 76) (i := 3) d_X12_asksCost_76 rfl rfl ?_
                  refine Tr.icmp_ge (pc := 77) (tgt := 94) d_X12_asksCost_77 rfl (fun c77 => ?_) (fun c77 => ?_)
                  · refine Tr.iincV (pc := 94) (n2 := (p24_2 + 1)) (ls2 := [(2, (0, (p24_2 + 1))), (0, (2, 120)), (1, (0, a1)), (3, (0, (r37 + r43 + r50 + r54))), (4, (0, p74_4))]) d_X12_asksCost_94 rfl (by decide) ((w32_id (by and_intros <;> omega)).trans (by omega)) rfl ?_
                    refine Tr.goto (pc := 97) (tgt := 24) d_X12_asksCost_97 rfl ?_
                    refine Tr.pick [1, 2, 0] (ls2 := [(0, (2, 120)), (1, (0, a1)), (2, (0, (p24_2 + 1)))]) rfl ?_
                    exact J24 _ _ hS (by and_intros <;> omega) k74_126_1 (me_lt hm24 (by omega) (by omega))
                  · refine Tr.aload_n (pc := 80) (i := 0) d_X12_asksCost_80 rfl rfl ?_
                    refine Tr.getf (pc := 81) d_X12_asksCost_81 f_12_321 (by decide) (by decide) (ty_120 hS.1.1) ?_
                    refine Tr.tp 177 (fx_120_102 hS.1.1) ?_
                    refine Tr.iload (pc := 84) (i := 4) d_X12_asksCost_84 rfl ?_
                    refine Tr.iconst (pc := 86) d_X12_asksCost_86 (by decide) ?_
                    refine Tr.zastS (pc := 87) (P := St Tru ws_X12_asksCost_120_w1 as_X12_asksCost_120_w1 M0) d_X12_asksCost_87 (ty_177 hS.1.1) (by omega) (by omega) (by omega) (sa_177 hS (by decide) (by omega) trivial) (fun M87 hS w87 => ?_)
                    refine Tr.iincV (pc := 88) (n2 := (p74_4 + 1)) (ls2 := [(4, (0, (p74_4 + 1))), (0, (2, 120)), (1, (0, a1)), (2, (0, p24_2)), (3, (0, (r37 + r43 + r50 + r54)))]) d_X12_asksCost_88 rfl (by decide) ((w32_id (by and_intros <;> omega)).trans (by omega)) rfl ?_
                    refine Tr.goto (pc := 91) (tgt := 74) d_X12_asksCost_91 rfl ?_
                    refine Tr.pick [1, 2, 3, 4, 0] (ls2 := [(0, (2, 120)), (1, (0, a1)), (2, (0, p24_2)), (3, (0, (r37 + r43 + r50 + r54))), (4, (0, (p74_4 + 1)))]) rfl ?_
                    exact J74 _ _ hS (by and_intros <;> omega) ((Wr.b w87 rfl).trans k74_120_113) ((Wr.b w87 rfl).trans k74_126_1) ((Wr.b w87 rfl).trans k74_185_p24_210) ((Wr.b w87 rfl).trans k74_186_p24_210) ((Wr.b w87 rfl).trans k74_189_p24_210) (by omega) (me_lt hm74 (by omega) (by omega))
              refine Tr.pick [2, 3, 4, 1, 0] (ls2 := [(0, (2, 120)), (1, (0, a1)), (2, (0, p24_2)), (3, (0, (r37 + r43 + r50 + r54))), (4, (0, (r37 + r43)))]) rfl ?_
              exact J74 _ _ _ hS (by and_intros <;> omega) ((kp_X12_tails_120_w1_120_113 h54).trans er26) ((kp_X12_tails_120_w1_126_1 h54).trans k24_126_1) ((ka_X12_tails_120_w1_185 h54 _).trans er37) ((ka_X12_tails_120_w1_186 h54 _).trans er50) ((ka_X12_tails_120_w1_189 h54 _).trans er43) (by exact (hd_o z54_0).elim (fun h1 => by omega) (fun h1 => by omega)) (Nat.lt_succ_self _)
        refine Tr.pick [1, 2, 0] (ls2 := [(0, (2, 120)), (1, (0, a1)), (2, (0, 0))]) rfl ?_
        exact J24 _ _ _ hS (by omega) k2_126_1 (Nat.lt_succ_self _)
      · refine Tr.aload_n (pc := 9) (i := 0) d_X12_asksCost_9 rfl rfl ?_
        refine Tr.getf (pc := 10) d_X12_asksCost_10 f_12_321 (by decide) (by decide) (ty_120 hS.1.1) ?_
        refine Tr.tp 177 (fx_120_102 hS.1.1) ?_
        refine Tr.iload_n (pc := 13) (i := 2) d_X12_asksCost_13 rfl rfl ?_
        refine Tr.iconst (pc := 14) d_X12_asksCost_14 (by decide) ?_
        refine Tr.zastS (pc := 15) (P := St Tru ws_X12_asksCost_120_w1 as_X12_asksCost_120_w1 M0) d_X12_asksCost_15 (ty_177 hS.1.1) (by omega) (by omega) (by omega) (sa_177 hS (by decide) (by omega) trivial) (fun M15 hS w15 => ?_)
        refine Tr.iincV (pc := 16) (n2 := (p2_2 + 1)) (ls2 := [(2, (0, (p2_2 + 1))), (0, (2, 120)), (1, (0, a1))]) d_X12_asksCost_16 rfl (by decide) ((w32_id (by and_intros <;> omega)).trans (by omega)) rfl ?_
        refine Tr.goto (pc := 19) (tgt := 2) d_X12_asksCost_19 rfl ?_
        refine Tr.pick [1, 2, 0] (ls2 := [(0, (2, 120)), (1, (0, a1)), (2, (0, (p2_2 + 1)))]) rfl ?_
        exact J2 _ _ hS (by and_intros <;> omega) ((Wr.b w15 rfl).trans k2_126_1) (me_lt hm2 (by omega) (by omega))
  refine Tr.pick [1, 2, 0] (ls2 := [(0, (2, 120)), (1, (0, a1)), (2, (0, 0))]) rfl ?_
  exact J2 _ _ _ hS (by omega) eg126_1 (Nat.lt_succ_self _)

set_option maxRecDepth 100000 in
set_option maxHeartbeats 4000000 in
theorem ns_X12_asksCost_120_w1 {l : Launch} {K : EC} {M0 : Mem} {G126_1 : Int} (hI : In Tru M0) (k126_1 : rd M0 126 1 = G126_1) (en_120_12 : rd M0 120 12 = 1) (a1 : Int) (ha1 : 0 ≤ a1 ∧ a1 ≤ 5)  (hq0 : a1 < G126_1) (hF_Bk1 : Bk1 M0) : Tr l K 3 mX12_asksCost 0 [(0, (2, 120)), (1, (0, a1))] [] M0 (fun M' r => St Tru ws_X12_asksCost_120_w1 as_X12_asksCost_120_w1 M0 M' ∧ ∃ v : Int, r = some (1, v) ∧ (-9223372036854775808) ≤ v ∧ v ≤ 9223372036854775807) := by
  subst k126_1
  refine Tr.imp (sp_X12_asksCost_120_w1 hI en_120_12 a1 ha1 hq0 hF_Bk1) ?_
  rintro M' _ ⟨hS, v, rfl, lr, ur⟩
  exact ⟨hS, v, rfl, lr, ur⟩

def ws_X12_together_120_w1 : List (Int × Int) := [(120, 117)]
def as_X12_together_120_w1 : List Int := [177, 188, 189]
def q_X12_together_120_w1 (M0 M' : Mem) (r : Option PV) : Prop := St Tru ws_X12_together_120_w1 as_X12_together_120_w1 M0 M' ∧ ∃ v : Int, r = some (0, v) ∧ (-2147483648) ≤ v ∧ v ≤ 2147483647
theorem kp_X12_together_120_w1_120_12 {q : Mem → Prop} {M0 M : Mem} (h : St q ws_X12_together_120_w1 as_X12_together_120_w1 M0 M) : rd M 120 12 = rd M0 120 12 := St.kp h (by decide) (by decide) (by decide)
theorem kp_X12_isPart_120_w1_120_113 {q : Mem → Prop} {M0 M : Mem} (h : St q ws_X12_isPart_120_w1 as_X12_isPart_120_w1 M0 M) : rd M 120 113 = rd M0 120 113 := St.kp h (by decide) (by decide) (by decide)
theorem ka_X12_together_120_w1_131 {q : Mem → Prop} {M0 M : Mem} (h : St q ws_X12_together_120_w1 as_X12_together_120_w1 M0 M) (j : Int) : rd M 131 j = rd M0 131 j := St.ka h (by decide) (by decide) (by decide)
theorem ka_X12_together_120_w1_137 {q : Mem → Prop} {M0 M : Mem} (h : St q ws_X12_together_120_w1 as_X12_together_120_w1 M0 M) (j : Int) : rd M 137 j = rd M0 137 j := St.ka h (by decide) (by decide) (by decide)
theorem ka_X12_together_120_w1_138 {q : Mem → Prop} {M0 M : Mem} (h : St q ws_X12_together_120_w1 as_X12_together_120_w1 M0 M) (j : Int) : rd M 138 j = rd M0 138 j := St.ka h (by decide) (by decide) (by decide)
theorem ka_X12_together_120_w1_139 {q : Mem → Prop} {M0 M : Mem} (h : St q ws_X12_together_120_w1 as_X12_together_120_w1 M0 M) (j : Int) : rd M 139 j = rd M0 139 j := St.ka h (by decide) (by decide) (by decide)
theorem ka_X12_together_120_w1_140 {q : Mem → Prop} {M0 M : Mem} (h : St q ws_X12_together_120_w1 as_X12_together_120_w1 M0 M) (j : Int) : rd M 140 j = rd M0 140 j := St.ka h (by decide) (by decide) (by decide)
theorem ka_X12_together_120_w1_141 {q : Mem → Prop} {M0 M : Mem} (h : St q ws_X12_together_120_w1 as_X12_together_120_w1 M0 M) (j : Int) : rd M 141 j = rd M0 141 j := St.ka h (by decide) (by decide) (by decide)
theorem ka_X12_together_120_w1_142 {q : Mem → Prop} {M0 M : Mem} (h : St q ws_X12_together_120_w1 as_X12_together_120_w1 M0 M) (j : Int) : rd M 142 j = rd M0 142 j := St.ka h (by decide) (by decide) (by decide)
theorem ka_X12_together_120_w1_143 {q : Mem → Prop} {M0 M : Mem} (h : St q ws_X12_together_120_w1 as_X12_together_120_w1 M0 M) (j : Int) : rd M 143 j = rd M0 143 j := St.ka h (by decide) (by decide) (by decide)
theorem kp_X12_together_120_w1_126_1 {q : Mem → Prop} {M0 M : Mem} (h : St q ws_X12_together_120_w1 as_X12_together_120_w1 M0 M) : rd M 126 1 = rd M0 126 1 := St.kp h (by decide) (by decide) (by decide)
theorem kp_X12_together_120_w1_136_1 {q : Mem → Prop} {M0 M : Mem} (h : St q ws_X12_together_120_w1 as_X12_together_120_w1 M0 M) : rd M 136 1 = rd M0 136 1 := St.kp h (by decide) (by decide) (by decide)
theorem kp_X12_together_120_w1_123_1 {q : Mem → Prop} {M0 M : Mem} (h : St q ws_X12_together_120_w1 as_X12_together_120_w1 M0 M) : rd M 123 1 = rd M0 123 1 := St.kp h (by decide) (by decide) (by decide)
theorem kp_X12_together_120_w1_124_1 {q : Mem → Prop} {M0 M : Mem} (h : St q ws_X12_together_120_w1 as_X12_together_120_w1 M0 M) : rd M 124 1 = rd M0 124 1 := St.kp h (by decide) (by decide) (by decide)
theorem kp_X12_asksCost_120_w1_120_113 {q : Mem → Prop} {M0 M : Mem} (h : St q ws_X12_asksCost_120_w1 as_X12_asksCost_120_w1 M0 M) : rd M 120 113 = rd M0 120 113 := St.kp h (by decide) (by decide) (by decide)
theorem ka_X12_asksCost_120_w1_187 {q : Mem → Prop} {M0 M : Mem} (h : St q ws_X12_asksCost_120_w1 as_X12_asksCost_120_w1 M0 M) (j : Int) : rd M 187 j = rd M0 187 j := St.ka h (by decide) (by decide) (by decide)
theorem ka_X12_asksCost_120_w1_189 {q : Mem → Prop} {M0 M : Mem} (h : St q ws_X12_asksCost_120_w1 as_X12_asksCost_120_w1 M0 M) (j : Int) : rd M 189 j = rd M0 189 j := St.ka h (by decide) (by decide) (by decide)
theorem kp_X12_isPart_120_w1_126_1 {q : Mem → Prop} {M0 M : Mem} (h : St q ws_X12_isPart_120_w1 as_X12_isPart_120_w1 M0 M) : rd M 126 1 = rd M0 126 1 := St.kp h (by decide) (by decide) (by decide)
theorem ka_X12_isPart_120_w1_187 {q : Mem → Prop} {M0 M : Mem} (h : St q ws_X12_isPart_120_w1 as_X12_isPart_120_w1 M0 M) (j : Int) : rd M 187 j = rd M0 187 j := St.ka h (by decide) (by decide) (by decide)
theorem ka_X12_isPart_120_w1_189 {q : Mem → Prop} {M0 M : Mem} (h : St q ws_X12_isPart_120_w1 as_X12_isPart_120_w1 M0 M) (j : Int) : rd M 189 j = rd M0 189 j := St.ka h (by decide) (by decide) (by decide)
set_option maxRecDepth 100000 in
set_option maxHeartbeats 4000000 in
theorem sp_X12_together_120_w1 {l : Launch} {K : EC} {M0 : Mem} (hI : In Tru M0) (en_120_12 : rd M0 120 12 = 1) (a1 : Int) (ha1 : (-2147483648) ≤ a1 ∧ a1 ≤ 2147483647)  (hF_Bk1 : Bk1 M0) : Tr l K 4 mX12_together 0 [(0, (2, 120)), (1, (0, a1))] [] M0 (q_X12_together_120_w1 M0) := by
  have hS : St Tru ws_X12_together_120_w1 as_X12_together_120_w1 M0 M0 := St.rf hI
  obtain ⟨g126_1, eg126_1⟩ : ∃ v, rd M0 126 1 = v := ⟨_, rfl⟩
  have bg126_1 : 0 ≤ g126_1 ∧ g126_1 ≤ 6 := by rw [← eg126_1]; exact ir_126_1 hI.2.1
  obtain ⟨g120_113, eg120_113⟩ : ∃ v, rd M0 120 113 = v := ⟨_, rfl⟩
  have bg120_113 : 0 ≤ g120_113 ∧ g120_113 ≤ 6 := by rw [← eg120_113]; exact ir_120_113 hI.2.1
  obtain ⟨g9020_0, eg9020_0⟩ : ∃ v, shv M0 = v := ⟨_, rfl⟩
  have bg9020_0 : (-46655) ≤ g9020_0 ∧ g9020_0 ≤ 46655 := by rw [← eg9020_0]; exact (shv_b hI.2.1)
  refine Tr.aload_n (pc := 0) (i := 0) d_X12_together_0 rfl rfl ?_
  refine Tr.iload_n (pc := 1) (i := 1) d_X12_together_1 rfl rfl ?_
  refine Tr.callV (pc := 2) (as := [_]) d_X12_together_2 s_12_555 ok_X12_isPart rfl rfl (Nat.le_of_ble_eq_true rfl) (Nat.le_of_ble_eq_true rfl) (by decide) (ty_120 hS.1.1) ?_
  refine Tr.imp (Tr.deep (by decide) (ns_X12_isPart_120_w1 (G126_1 := g126_1) hS.1 (eg126_1) ((kp_X12_together_120_w1_120_12 hS).trans en_120_12) a1 (by and_intros <;> omega))) ?_
  rintro M2 _ ⟨h2, r2, rfl, lr2, ur2, z2_0⟩
  have hS := St.tr hS h2 (by decide) (by decide)
  refine Tr.sc [(0, r2)] rfl ?_
  refine Tr.if_eq (pc := 5) (tgt := 15) d_X12_together_5 rfl (fun c5 => ?_) (fun c5 => ?_)
  · refine Tr.iconst (pc := 15) d_X12_together_15 (by decide) ?_
    exact Tr.iret (pc := 16) d_X12_together_16 rfl ⟨hS, _, rfl, by omega, by omega⟩
  · have c5b : 1 ≤ r2 ∧ r2 ≤ 1 := by omega
    replace c5 := hd_i c5
    refine Tr.aload_n (pc := 8) (i := 0) d_X12_together_8 rfl rfl ?_
    refine Tr.getf (pc := 9) d_X12_together_9 f_12_354 (by decide) (by decide) (ty_120 hS.1.1) ?_
    refine Tr.tp g120_113 ((kp_X12_isPart_120_w1_120_113 h2).trans eg120_113) ?_
    refine Tr.if_ne (pc := 12) (tgt := 17) d_X12_together_12 rfl (fun c12 => ?_) (fun c12 => ?_)
    · have c12b : 1 ≤ g120_113 ∧ g120_113 ≤ 6 := by omega
      replace c12 := hd_i c12
      refine Tr.iconst (pc := 17) d_X12_together_17 (by decide) ?_
      refine Tr.istore_n (pc := 18) (i := 2) (ls2 := [(2, (0, 0)), (0, (2, 120)), (1, (0, a1))]) d_X12_together_18 rfl (by decide) rfl ?_
      have J19 : ∀ (n19 : Nat) (M : Mem) (p19_2 u19_9020_0 : Int), St Tru ws_X12_together_120_w1 as_X12_together_120_w1 M0 M → (0 ≤ p19_2 ∧ p19_2 ≤ 6) → ((-46655) ≤ u19_9020_0 ∧ u19_9020_0 ≤ 46655) → rd M 120 113 = g120_113 → rd M 126 1 = g126_1 → shv M = u19_9020_0 → (0 ≤ a1 ∧ a1 < g126_1) → (Sz M p19_2) → (6 - p19_2).toNat < n19 → Tr l K 4 mX12_together 19 [(0, (2, 120)), (1, (0, a1)), (2, (0, p19_2))] [] M (q_X12_together_120_w1 M0) := by
        intro n19
        induction n19 with
        | zero => intro M p19_2 u19_9020_0 hS bp19_2 bu19_9020_0 k19_120_113 k19_126_1 k19_9020_0 t19_0 tp19_0 hm19; exact absurd hm19 (Nat.not_lt_zero _)
        | succ n19 J19 =>
          intro M p19_2 u19_9020_0 hS bp19_2 bu19_9020_0 k19_120_113 k19_126_1 k19_9020_0 t19_0 tp19_0 hm19
          refine Tr.iload_n (pc := 19) (i := 2) d_X12_together_19 rfl rfl ?_
          refine Tr.bipush (pc := 20) d_X12_together_20 rfl (by decide) ?_
          refine Tr.icmp_ge (pc := 22) (tgt := 38) d_X12_together_22 rfl (fun c22 => ?_) (fun c22 => ?_)
          · refine Tr.ldc2 (pc := 38) d_X12_together_38 kl_12_686 (by decide) ?_
            refine Tr.lstore_n (pc := 41) (i := 2) (ls2 := [(2, (1, (-1))), (0, (2, 120)), (1, (0, a1))]) d_X12_together_41 rfl (by decide) rfl ?_
            refine Tr.iconst (pc := 42) d_X12_together_42 (by decide) ?_
            refine Tr.istore (pc := 43) (i := 4) (ls2 := [(4, (0, 0)), (2, (1, (-1))), (0, (2, 120)), (1, (0, a1))]) d_X12_together_43 (by decide) rfl ?_
            refine Tr.iconst (pc := 45) d_X12_together_45 (by decide) ?_
            refine Tr.istore (pc := 46) (i := 5) (ls2 := [(5, (0, 1)), (4, (0, 0)), (2, (1, (-1))), (0, (2, 120)), (1, (0, a1))]) d_X12_together_46 (by decide) rfl ?_
            have J48 : ∀ (n48 : Nat) (M : Mem) (p48_2 p48_4 p48_5 u48_9020_0 : Int), St Tru ws_X12_together_120_w1 as_X12_together_120_w1 M0 M → ((-9223372036854775808) ≤ p48_2 ∧ p48_2 ≤ 9223372036854775807) → ((-2147483648) ≤ p48_4 ∧ p48_4 ≤ 2147483647) → (0 ≤ p48_5 ∧ p48_5 ≤ 1) → ((-46655) ≤ u48_9020_0 ∧ u48_9020_0 ≤ 46655) → rd M 120 113 = g120_113 → rd M 126 1 = g126_1 → shv M = u48_9020_0 → (0 ≤ a1 ∧ a1 < g126_1) → (p48_5 = 0 ∨ p48_5 = 1) → (Sg M) → (100000 * p48_5 + u48_9020_0 + 46656).toNat < n48 → Tr l K 4 mX12_together 48 [(0, (2, 120)), (1, (0, a1)), (2, (1, p48_2)), (4, (0, p48_4)), (5, (0, p48_5))] [] M (q_X12_together_120_w1 M0) := by
              intro n48
              induction n48 with
              | zero => intro M p48_2 p48_4 p48_5 u48_9020_0 hS bp48_2 bp48_4 bp48_5 bu48_9020_0 k48_120_113 k48_126_1 k48_9020_0 t48_0 t48_1 tp48_0 hm48; exact absurd hm48 (Nat.not_lt_zero _)
              | succ n48 J48 =>
                intro M p48_2 p48_4 p48_5 u48_9020_0 hS bp48_2 bp48_4 bp48_5 bu48_9020_0 k48_120_113 k48_126_1 k48_9020_0 t48_0 t48_1 tp48_0 hm48
                clear k19_120_113 k19_126_1 k19_9020_0
                replace t48_1 := hd_i t48_1
                refine Tr.iload (pc := 48) (i := 5) d_X12_together_48 rfl ?_
                refine Tr.if_eq (pc := 50) (tgt := 236) d_X12_together_50 rfl (fun c50 => ?_) (fun c50 => ?_)
                · refine Tr.aload_n (pc := 236) (i := 0) d_X12_together_236 rfl rfl ?_
                  refine Tr.aload_n (pc := 237) (i := 0) d_X12_together_237 rfl rfl ?_
                  refine Tr.getf (pc := 238) d_X12_together_238 f_12_354 (by decide) (by decide) (ty_120 hS.1.1) ?_
                  refine Tr.tp g120_113 k48_120_113 ?_
                  refine Tr.putfS (pc := 241) (P := St Tru ws_X12_together_120_w1 as_X12_together_120_w1 M0) d_X12_together_241 f_12_366 (by decide) (by decide) (ty_120 hS.1.1) (st_120_117 hS (by decide) (by and_intros <;> omega) trivial) (fun M241 hS w241 => ?_)
                  refine Tr.lload_n (pc := 244) (i := 2) d_X12_together_244 rfl rfl ?_
                  refine Tr.l2i (pc := 245) d_X12_together_245 ?_
                  refine Tr.gen (P := fun v => (-2147483648) ≤ v ∧ v ≤ 2147483647) (w32_b _) (fun r245 er245 br245 => ?_)
                  exact Tr.iret (pc := 246) d_X12_together_246 rfl ⟨hS, _, rfl, (by omega), (by omega)⟩
                · have c50b : 1 ≤ p48_5 ∧ p48_5 ≤ 1 := by omega
                  replace c50 := hd_i c50
                  refine Tr.aload_n (pc := 53) (i := 0) d_X12_together_53 rfl rfl ?_
                  refine Tr.iload_n (pc := 54) (i := 1) d_X12_together_54 rfl rfl ?_
                  refine Tr.callV (pc := 55) (as := [_]) d_X12_together_55 s_12_689 ok_X12_asksCost rfl rfl (Nat.le_of_ble_eq_true rfl) (Nat.le_of_ble_eq_true rfl) (by decide) (ty_120 hS.1.1) ?_
                  refine Tr.imp (Tr.deep (by decide) (ns_X12_asksCost_120_w1 (G126_1 := g126_1) hS.1 (k48_126_1) ((kp_X12_together_120_w1_120_12 hS).trans en_120_12) a1 (by and_intros <;> omega) (by omega) (Bk1.of hF_Bk1 (fun j => (ka_X12_together_120_w1_131 hS _)) (fun j => (ka_X12_together_120_w1_137 hS _)) (fun j => (ka_X12_together_120_w1_138 hS _)) (fun j => (ka_X12_together_120_w1_139 hS _)) (fun j => (ka_X12_together_120_w1_140 hS _)) (fun j => (ka_X12_together_120_w1_141 hS _)) (fun j => (ka_X12_together_120_w1_142 hS _)) (fun j => (ka_X12_together_120_w1_143 hS _)) (kp_X12_together_120_w1_126_1 hS) (kp_X12_together_120_w1_136_1 hS) (kp_X12_together_120_w1_123_1 hS) (kp_X12_together_120_w1_124_1 hS)))) ?_
                  rintro M55 _ ⟨h55, r55, rfl, lr55, ur55⟩
                  have hS := St.tr hS h55 (by decide) (by decide)
                  refine Tr.sc [(1, r55)] rfl ?_
                  refine Tr.lstore (pc := 58) (i := 6) (ls2 := [(6, (1, r55)), (0, (2, 120)), (1, (0, a1)), (2, (1, p48_2)), (4, (0, p48_4)), (5, (0, p48_5))]) d_X12_together_58 (by decide) rfl ?_
                  refine Tr.iconst (pc := 60) d_X12_together_60 (by decide) ?_
                  refine Tr.istore (pc := 61) (i := 8) (ls2 := [(8, (0, 0)), (6, (1, r55)), (0, (2, 120)), (1, (0, a1)), (2, (1, p48_2)), (4, (0, p48_4)), (5, (0, p48_5))]) d_X12_together_61 (by decide) rfl ?_
                  refine Tr.iconst (pc := 63) d_X12_together_63 (by decide) ?_
                  refine Tr.istore (pc := 64) (i := 9) (ls2 := [(9, (0, 0)), (8, (0, 0)), (6, (1, r55)), (0, (2, 120)), (1, (0, a1)), (2, (1, p48_2)), (4, (0, p48_4)), (5, (0, p48_5))]) d_X12_together_64 (by decide) rfl ?_
                  have J66 : ∀ (n66 : Nat) (M : Mem) (p66_8 p66_9 : Int), St Tru ws_X12_together_120_w1 as_X12_together_120_w1 M0 M → ((-2147483648) ≤ p66_8 ∧ p66_8 ≤ 2147483647) → (0 ≤ p66_9 ∧ p66_9 ≤ 6) → rd M 120 113 = g120_113 → rd M 126 1 = g126_1 → shv M = u48_9020_0 → (0 ≤ a1 ∧ a1 < g126_1) → (u48_9020_0 = u48_9020_0) → (Sg M) → (6 - p66_9).toNat < n66 → Tr l K 4 mX12_together 66 [(0, (2, 120)), (1, (0, a1)), (2, (1, p48_2)), (4, (0, p48_4)), (6, (1, r55)), (8, (0, p66_8)), (9, (0, p66_9))] [] M (q_X12_together_120_w1 M0) := by
                    intro n66
                    induction n66 with
                    | zero => intro M p66_8 p66_9 hS bp66_8 bp66_9 k66_120_113 k66_126_1 k66_9020_0 t66_0 t66_1 tp66_0 hm66; exact absurd hm66 (Nat.not_lt_zero _)
                    | succ n66 J66 =>
                      intro M p66_8 p66_9 hS bp66_8 bp66_9 k66_120_113 k66_126_1 k66_9020_0 t66_0 t66_1 tp66_0 hm66
                      clear k48_120_113 k48_126_1 k48_9020_0
                      refine Tr.iload (pc := 66) (i := 9) d_X12_together_66 rfl ?_
                      refine Tr.aload_n (pc := 68) (i := 0) d_X12_together_68 rfl rfl ?_
                      refine Tr.getf (pc := 69) d_X12_together_69 f_12_354 (by decide) (by decide) (ty_120 hS.1.1) ?_
                      refine Tr.tp g120_113 k66_120_113 ?_
                      refine Tr.icmp_ge (pc := 72) (tgt := 93) d_X12_together_72 rfl (fun c72 => ?_) (fun c72 => ?_)
                      · refine Tr.lload_n (pc := 93) (i := 2) d_X12_together_93 rfl rfl ?_
                        refine Tr.ldc2 (pc := 94) d_X12_together_94 kl_12_686 (by decide) ?_
                        refine Tr.lcmp (pc := 97) d_X12_together_97 ?_
                        refine Tr.gen (P := fun v => (v = 1 ∧ (-1) < p48_2) ∨ (v = 0 ∧ p48_2 = (-1)) ∨ (v = -1 ∧ p48_2 < (-1))) (f_lcmp_c _ _) (fun r97 er97 br97 => ?_)
                        replace br97 := hd_i br97
                        have J161 : ∀ (M : Mem) (p161_2 p161_4 : Int), St Tru ws_X12_together_120_w1 as_X12_together_120_w1 M0 M → ((-9223372036854775808) ≤ p161_2 ∧ p161_2 ≤ 9223372036854775807) → ((-2147483648) ≤ p161_4 ∧ p161_4 ≤ 2147483647) → rd M 120 113 = g120_113 → rd M 126 1 = g126_1 → shv M = u48_9020_0 → (0 ≤ a1 ∧ a1 < g126_1) → (u48_9020_0 = u48_9020_0) → (Sg M) → Tr l K 4 mX12_together 161 [(0, (2, 120)), (1, (0, a1)), (2, (1, p161_2)), (4, (0, p161_4))] [] M (q_X12_together_120_w1 M0) := by
                          intro M p161_2 p161_4 hS bp161_2 bp161_4 k161_120_113 k161_126_1 k161_9020_0 t161_0 t161_1 tp161_0
                          clear k66_120_113 k66_126_1 k66_9020_0 er97
                          refine Tr.aload_n (pc := 161) (i := 0) d_X12_together_161 rfl rfl ?_
                          refine Tr.getf (pc := 162) d_X12_together_162 f_12_354 (by decide) (by decide) (ty_120 hS.1.1) ?_
                          refine Tr.tp g120_113 k161_120_113 ?_
                          refine Tr.iconst (pc := 165) d_X12_together_165 (by decide) ?_
                          refine Tr.isub (pc := 166) d_X12_together_166 ?_
                          refine Tr.tp (g120_113 - 1) ((w32_id (by and_intros <;> omega)).trans (by omega)) ?_
                          refine Tr.istore (pc := 167) (i := 9) (ls2 := [(9, (0, (g120_113 - 1))), (0, (2, 120)), (1, (0, a1)), (2, (1, p161_2)), (4, (0, p161_4))]) d_X12_together_167 (by decide) rfl ?_
                          have J169 : ∀ (n169 : Nat) (M : Mem) (p169_9 u169_9020_0 : Int), St Tru ws_X12_together_120_w1 as_X12_together_120_w1 M0 M → ((-1) ≤ p169_9 ∧ p169_9 ≤ 5) → ((-46655) ≤ u169_9020_0 ∧ u169_9020_0 ≤ 46655) → rd M 120 113 = g120_113 → rd M 126 1 = g126_1 → shv M = u169_9020_0 → (0 ≤ a1 ∧ a1 < g126_1) → ((p169_9 = 5 ∧ u169_9020_0 ≤ u48_9020_0 + 0) ∨ (p169_9 = 4 ∧ u169_9020_0 ≤ u48_9020_0 + 5) ∨ (p169_9 = 3 ∧ u169_9020_0 ≤ u48_9020_0 + 35) ∨ (p169_9 = 2 ∧ u169_9020_0 ≤ u48_9020_0 + 215) ∨ (p169_9 = 1 ∧ u169_9020_0 ≤ u48_9020_0 + 1295) ∨ (p169_9 = 0 ∧ u169_9020_0 ≤ u48_9020_0 + 7775) ∨ (p169_9 = -1 ∧ u169_9020_0 ≤ u48_9020_0 + 46655)) → (Sg M) → (p169_9 + 1).toNat < n169 → Tr l K 4 mX12_together 169 [(0, (2, 120)), (1, (0, a1)), (2, (1, p161_2)), (4, (0, p161_4)), (9, (0, p169_9))] [] M (q_X12_together_120_w1 M0) := by
                            intro n169
                            induction n169 with
                            | zero => intro M p169_9 u169_9020_0 hS bp169_9 bu169_9020_0 k169_120_113 k169_126_1 k169_9020_0 t169_0 t169_1 tp169_0 hm169; exact absurd hm169 (Nat.not_lt_zero _)
                            | succ n169 J169 =>
                              intro M p169_9 u169_9020_0 hS bp169_9 bu169_9020_0 k169_120_113 k169_126_1 k169_9020_0 t169_0 t169_1 tp169_0 hm169
                              clear k161_120_113 k161_126_1 k161_9020_0
                              replace t169_1 := hd_i t169_1
                              refine Tr.iload (pc := 169) (i := 9) d_X12_together_169 rfl ?_
                              have J205 : ∀ (M : Mem), St Tru ws_X12_together_120_w1 as_X12_together_120_w1 M0 M → rd M 120 113 = g120_113 → rd M 126 1 = g126_1 → shv M = u169_9020_0 → (0 ≤ a1 ∧ a1 < g126_1) → ((p169_9 = 5 ∧ u169_9020_0 ≤ u48_9020_0 + 0) ∨ (p169_9 = 4 ∧ u169_9020_0 ≤ u48_9020_0 + 5) ∨ (p169_9 = 3 ∧ u169_9020_0 ≤ u48_9020_0 + 35) ∨ (p169_9 = 2 ∧ u169_9020_0 ≤ u48_9020_0 + 215) ∨ (p169_9 = 1 ∧ u169_9020_0 ≤ u48_9020_0 + 1295) ∨ (p169_9 = 0 ∧ u169_9020_0 ≤ u48_9020_0 + 7775) ∨ (p169_9 = -1 ∧ u169_9020_0 ≤ u48_9020_0 + 46655)) → (p169_9 < 0 ∨ (rd M 189 p169_9 < rd M 187 p169_9 ∧ rd M 189 p169_9 ≤ 4)) → (Sg M) → Tr l K 4 mX12_together 205 [(0, (2, 120)), (1, (0, a1)), (2, (1, p161_2)), (4, (0, p161_4)), (9, (0, p169_9))] [] M (q_X12_together_120_w1 M0) := by
                                intro M  hS  k205_120_113 k205_126_1 k205_9020_0 t205_0 t205_1 t205_2 tp205_0
                                clear k169_120_113 k169_126_1 k169_9020_0
                                replace t205_1 := hd_i t205_1
                                replace t205_2 := hd_i t205_2
                                refine Tr.iload (pc := 205) (i := 9) d_X12_together_205 rfl ?_
                                have J215 : ∀ (M : Mem) (q215_0 : Int), St Tru ws_X12_together_120_w1 as_X12_together_120_w1 M0 M → (0 ≤ q215_0 ∧ q215_0 ≤ 1) → rd M 120 113 = g120_113 → rd M 126 1 = g126_1 → shv M = u169_9020_0 → (0 ≤ a1 ∧ a1 < g126_1) → ((p169_9 = 5 ∧ u169_9020_0 ≤ u48_9020_0 + 0) ∨ (p169_9 = 4 ∧ u169_9020_0 ≤ u48_9020_0 + 5) ∨ (p169_9 = 3 ∧ u169_9020_0 ≤ u48_9020_0 + 35) ∨ (p169_9 = 2 ∧ u169_9020_0 ≤ u48_9020_0 + 215) ∨ (p169_9 = 1 ∧ u169_9020_0 ≤ u48_9020_0 + 1295) ∨ (p169_9 = 0 ∧ u169_9020_0 ≤ u48_9020_0 + 7775) ∨ (p169_9 = -1 ∧ u169_9020_0 ≤ u48_9020_0 + 46655)) → (p169_9 < 0 ∨ (rd M 189 p169_9 < rd M 187 p169_9 ∧ rd M 189 p169_9 ≤ 4)) → ((q215_0 = 1 ∧ 0 ≤ p169_9) ∨ (q215_0 = 0 ∧ p169_9 < 0)) → (Sg M) → Tr l K 4 mX12_together 215 [(0, (2, 120)), (1, (0, a1)), (2, (1, p161_2)), (4, (0, p161_4)), (9, (0, p169_9))] [(0, q215_0)] M (q_X12_together_120_w1 M0) := by
                                  intro M q215_0 hS bq215_0 k215_120_113 k215_126_1 k215_9020_0 t215_0 t215_1 t215_2 t215_3 tp215_0
                                  clear k205_120_113 k205_126_1 k205_9020_0
                                  replace t215_1 := hd_i t215_1
                                  replace t215_2 := hd_i t215_2
                                  replace t215_3 := hd_i t215_3
                                  refine Tr.istore (pc := 215) (i := 5) (ls2 := [(5, (0, q215_0)), (0, (2, 120)), (1, (0, a1)), (2, (1, p161_2)), (4, (0, p161_4)), (9, (0, p169_9))]) d_X12_together_215 (by decide) rfl ?_
                                  refine Tr.iload (pc := 217) (i := 5) d_X12_together_217 rfl ?_
                                  have J233 : ∀ (M : Mem) (u233_9020_0 : Int), St Tru ws_X12_together_120_w1 as_X12_together_120_w1 M0 M → ((-46655) ≤ u233_9020_0 ∧ u233_9020_0 ≤ 46655) → rd M 120 113 = g120_113 → rd M 126 1 = g126_1 → shv M = u233_9020_0 → (0 ≤ a1 ∧ a1 < g126_1) → ((q215_0 = 1 ∧ u233_9020_0 < u48_9020_0) ∨ (q215_0 = 0 ∧ u233_9020_0 ≤ u48_9020_0 + 46655)) → (Sg M) → Tr l K 4 mX12_together 233 [(0, (2, 120)), (1, (0, a1)), (2, (1, p161_2)), (4, (0, p161_4)), (5, (0, q215_0))] [] M (q_X12_together_120_w1 M0) := by
                                    intro M u233_9020_0 hS bu233_9020_0 k233_120_113 k233_126_1 k233_9020_0 t233_0 t233_1 tp233_0
                                    clear k215_120_113 k215_126_1 k215_9020_0
                                    replace t233_1 := hd_i t233_1
                                    refine Tr.goto (pc := 233) (tgt := 48) d_X12_together_233 rfl ?_
                                    refine Tr.pick [0, 1, 2, 3, 4] (ls2 := [(0, (2, 120)), (1, (0, a1)), (2, (1, p161_2)), (4, (0, p161_4)), (5, (0, q215_0))]) rfl ?_
                                    exact J48 _ _ _ _ _ hS (by omega) (by and_intros <;> omega) (by and_intros <;> omega) (by and_intros <;> omega) k233_120_113 k233_126_1 k233_9020_0 (by and_intros <;> omega) (by omega) tp233_0 (me_lt hm48 (by exact (hd_o t233_1).elim (fun h1 => by omega) (fun h1 => by omega)) (by omega))
                                  refine Tr.if_eq (pc := 219) (tgt := 233) d_X12_together_219 rfl (fun c219 => ?_) (fun c219 => ?_)
                                  · refine Tr.pick [1, 2, 3, 4, 0] (ls2 := [(0, (2, 120)), (1, (0, a1)), (2, (1, p161_2)), (4, (0, p161_4)), (5, (0, q215_0))]) rfl ?_
                                    exact J233 _ _ hS (by and_intros <;> omega) k215_120_113 k215_126_1 k215_9020_0 (by and_intros <;> omega) (by exact (hd_o t215_1).elim (fun h1 => by omega) (fun h1 => h1.elim (fun h1 => by omega) (fun h1 => h1.elim (fun h1 => by omega) (fun h1 => h1.elim (fun h1 => by omega) (fun h1 => h1.elim (fun h1 => by omega) (fun h1 => h1.elim (fun h1 => by omega) (fun h1 => by omega))))))) tp215_0
                                  · have c219b : 1 ≤ q215_0 ∧ q215_0 ≤ 1 := by omega
                                    replace c219 := hd_i c219
                                    refine Tr.aload_n (pc := 222) (i := 0) d_X12_together_222 rfl rfl ?_
                                    refine Tr.getf (pc := 223) d_X12_together_223 f_12_372 (by decide) (by decide) (ty_120 hS.1.1) ?_
                                    refine Tr.tp 189 (fx_120_119 hS.1.1) ?_
                                    refine Tr.iload (pc := 226) (i := 9) d_X12_together_226 rfl ?_
                                    refine Tr.dup2 (pc := 228) d_X12_together_228 ne01 ne21 ?_
                                    refine Tr.iald (pc := 229) d_X12_together_229 (ty_189 hS.1.1) (by exact (hd_o t215_3).elim (fun h1 => by omega) (fun h1 => by omega)) (by omega) ?_
                                    refine Tr.gen (P := fun v => 0 ≤ v ∧ v ≤ 5) (ar_189 hS.1.2.1 _) (fun r229 er229 br229 => ?_)
                                    refine Tr.iconst (pc := 230) d_X12_together_230 (by decide) ?_
                                    refine Tr.iadd (pc := 231) d_X12_together_231 ?_
                                    refine Tr.tp (r229 + 1) ((w32_id (by and_intros <;> omega)).trans (by omega)) ?_
                                    have h9232 := hS
                                    refine Tr.iastS (pc := 232) (P := St Tru ws_X12_together_120_w1 as_X12_together_120_w1 M0) d_X12_together_232 (ty_189 hS.1.1) (by exact (hd_o t215_3).elim (fun h1 => by omega) (fun h1 => by omega)) (by omega) (sa_189 hS (by decide) (by exact (hd_o t215_3).elim (fun h1 => (hd_o t215_2).elim (fun h2 => by omega) (fun h2 => by omega)) (fun h1 => by omega)) trivial) (fun M232 hS w232 => ?_)
                                    obtain ⟨v232_9020, ev232_9020⟩ : ∃ v, shv M232 = v := ⟨_, rfl⟩
                                    have bv232_9020 : (-46655) ≤ v232_9020 ∧ v232_9020 ≤ 46655 := by rw [← ev232_9020]; exact shv_b hS.1.2.1
                                    have fv232_9020 : (p169_9 = 0 ∧ v232_9020 = u169_9020_0 + 7776 * r229 - 7776 * (r229 + 1)) ∨ (p169_9 = 1 ∧ v232_9020 = u169_9020_0 + 1296 * r229 - 1296 * (r229 + 1)) ∨ (p169_9 = 2 ∧ v232_9020 = u169_9020_0 + 216 * r229 - 216 * (r229 + 1)) ∨ (p169_9 = 3 ∧ v232_9020 = u169_9020_0 + 36 * r229 - 36 * (r229 + 1)) ∨ (p169_9 = 4 ∧ v232_9020 = u169_9020_0 + 6 * r229 - 6 * (r229 + 1)) ∨ (p169_9 = 5 ∧ v232_9020 = u169_9020_0 + r229 - (r229 + 1)) := by have h8 := shv_w w232 (er229) (by exact (hd_o t215_3).elim (fun h1 => by omega) (fun h1 => by omega)) (by omega); rw [ev232_9020, show shv M = u169_9020_0 from k215_9020_0] at h8; exact h8
                                    replace fv232_9020 := hd_i fv232_9020
                                    have hvw232 : (r229 + 1) ≤ rd M 187 p169_9 := by have h5 := hd_o t215_3; have h8 := hd_o t215_2; have h7 : rd M 189 p169_9 = r229 := (er229); have h6 : rd M 187 p169_9 = rd M 187 p169_9 := rfl; omega
                                    refine Tr.pick [1, 2, 3, 4, 0] (ls2 := [(0, (2, 120)), (1, (0, a1)), (2, (1, p161_2)), (4, (0, p161_4)), (5, (0, q215_0))]) rfl ?_
                                    exact J233 _ _ hS (by and_intros <;> omega) ((Wr.b w232 rfl).trans k215_120_113) ((Wr.b w232 rfl).trans k215_126_1) ev232_9020 (by and_intros <;> omega) (by exact (hd_o fv232_9020).elim (fun h1 => (hd_o t215_1).elim (fun h2 => by omega) (fun h2 => h2.elim (fun h2 => by omega) (fun h2 => h2.elim (fun h2 => by omega) (fun h2 => h2.elim (fun h2 => by omega) (fun h2 => h2.elim (fun h2 => by omega) (fun h2 => h2.elim (fun h2 => by omega) (fun h2 => by omega))))))) (fun h1 => h1.elim (fun h1 => (hd_o t215_1).elim (fun h2 => by omega) (fun h2 => h2.elim (fun h2 => by omega) (fun h2 => h2.elim (fun h2 => by omega) (fun h2 => h2.elim (fun h2 => by omega) (fun h2 => h2.elim (fun h2 => by omega) (fun h2 => h2.elim (fun h2 => by omega) (fun h2 => by omega))))))) (fun h1 => h1.elim (fun h1 => (hd_o t215_1).elim (fun h2 => by omega) (fun h2 => h2.elim (fun h2 => by omega) (fun h2 => h2.elim (fun h2 => by omega) (fun h2 => h2.elim (fun h2 => by omega) (fun h2 => h2.elim (fun h2 => by omega) (fun h2 => h2.elim (fun h2 => by omega) (fun h2 => by omega))))))) (fun h1 => h1.elim (fun h1 => (hd_o t215_1).elim (fun h2 => by omega) (fun h2 => h2.elim (fun h2 => by omega) (fun h2 => h2.elim (fun h2 => by omega) (fun h2 => h2.elim (fun h2 => by omega) (fun h2 => h2.elim (fun h2 => by omega) (fun h2 => h2.elim (fun h2 => by omega) (fun h2 => by omega))))))) (fun h1 => h1.elim (fun h1 => (hd_o t215_1).elim (fun h2 => by omega) (fun h2 => h2.elim (fun h2 => by omega) (fun h2 => h2.elim (fun h2 => by omega) (fun h2 => h2.elim (fun h2 => by omega) (fun h2 => h2.elim (fun h2 => by omega) (fun h2 => h2.elim (fun h2 => by omega) (fun h2 => by omega))))))) (fun h1 => (hd_o t215_1).elim (fun h2 => by omega) (fun h2 => h2.elim (fun h2 => by omega) (fun h2 => h2.elim (fun h2 => by omega) (fun h2 => h2.elim (fun h2 => by omega) (fun h2 => h2.elim (fun h2 => by omega) (fun h2 => h2.elim (fun h2 => by omega) (fun h2 => by omega)))))))))))) (Sg.wr tp215_0 w232 hvw232)
                                refine Tr.if_lt (pc := 207) (tgt := 214) d_X12_together_207 rfl (fun c207 => ?_) (fun c207 => ?_)
                                · refine Tr.iconst (pc := 214) d_X12_together_214 (by decide) ?_
                                  refine Tr.pick [0, 1, 2, 3, 4] (ls2 := [(0, (2, 120)), (1, (0, a1)), (2, (1, p161_2)), (4, (0, p161_4)), (9, (0, p169_9))]) rfl ?_
                                  exact J215 _ _ hS (by omega) k205_120_113 k205_126_1 k205_9020_0 (by and_intros <;> omega) (by first | exact (hd_o t205_1) | exact (hd_o t205_1).elim (fun h1 => by omega) (fun h1 => h1.elim (fun h1 => by omega) (fun h1 => h1.elim (fun h1 => by omega) (fun h1 => h1.elim (fun h1 => by omega) (fun h1 => h1.elim (fun h1 => by omega) (fun h1 => h1.elim (fun h1 => by omega) (fun h1 => by omega))))))) (by first | exact (hd_o t205_2) | exact (hd_o t205_2).elim (fun h1 => by omega) (fun h1 => by omega)) (by omega) tp205_0
                                · refine Tr.iconst (pc := 210) d_X12_together_210 (by decide) ?_
                                  refine Tr.goto (pc := 211) (tgt := 215) d_X12_together_211 rfl ?_
                                  refine Tr.pick [0, 1, 2, 3, 4] (ls2 := [(0, (2, 120)), (1, (0, a1)), (2, (1, p161_2)), (4, (0, p161_4)), (9, (0, p169_9))]) rfl ?_
                                  exact J215 _ _ hS (by omega) k205_120_113 k205_126_1 k205_9020_0 (by and_intros <;> omega) (by first | exact (hd_o t205_1) | exact (hd_o t205_1).elim (fun h1 => by omega) (fun h1 => h1.elim (fun h1 => by omega) (fun h1 => h1.elim (fun h1 => by omega) (fun h1 => h1.elim (fun h1 => by omega) (fun h1 => h1.elim (fun h1 => by omega) (fun h1 => h1.elim (fun h1 => by omega) (fun h1 => by omega))))))) (by first | exact (hd_o t205_2) | exact (hd_o t205_2).elim (fun h1 => by omega) (fun h1 => by omega)) (by omega) tp205_0
                              refine Tr.if_lt (pc := 171) (tgt := 205) d_X12_together_171 rfl (fun c171 => ?_) (fun c171 => ?_)
                              · refine Tr.pick [0, 1, 2, 3, 4] (ls2 := [(0, (2, 120)), (1, (0, a1)), (2, (1, p161_2)), (4, (0, p161_4)), (9, (0, p169_9))]) rfl ?_
                                exact J205 _ hS k169_120_113 k169_126_1 k169_9020_0 (by and_intros <;> omega) (by first | exact (hd_o t169_1) | exact (hd_o t169_1).elim (fun h1 => by omega) (fun h1 => h1.elim (fun h1 => by omega) (fun h1 => h1.elim (fun h1 => by omega) (fun h1 => h1.elim (fun h1 => by omega) (fun h1 => h1.elim (fun h1 => by omega) (fun h1 => h1.elim (fun h1 => by omega) (fun h1 => by omega))))))) (by omega) tp169_0
                              · refine Tr.aload_n (pc := 174) (i := 0) d_X12_together_174 rfl rfl ?_
                                refine Tr.getf (pc := 175) d_X12_together_175 f_12_372 (by decide) (by decide) (ty_120 hS.1.1) ?_
                                refine Tr.tp 189 (fx_120_119 hS.1.1) ?_
                                refine Tr.iload (pc := 178) (i := 9) d_X12_together_178 rfl ?_
                                refine Tr.iald (pc := 180) d_X12_together_180 (ty_189 hS.1.1) (by omega) (by omega) ?_
                                refine Tr.gen (P := fun v => 0 ≤ v ∧ v ≤ 5) (ar_189 hS.1.2.1 _) (fun r180 er180 br180 => ?_)
                                refine Tr.aload_n (pc := 181) (i := 0) d_X12_together_181 rfl rfl ?_
                                refine Tr.getf (pc := 182) d_X12_together_182 f_12_363 (by decide) (by decide) (ty_120 hS.1.1) ?_
                                refine Tr.tp 187 (fx_120_116 hS.1.1) ?_
                                refine Tr.iload (pc := 185) (i := 9) d_X12_together_185 rfl ?_
                                refine Tr.iald (pc := 187) d_X12_together_187 (ty_187 hS.1.1) (by omega) (by omega) ?_
                                refine Tr.gen (P := fun v => 0 ≤ v ∧ v ≤ 5) (ar_187 hS.1.2.1 _) (fun r187 er187 br187 => ?_)
                                have sg187 := tp169_0 p169_9 (by omega) (by omega)
                                rw [er180, er187] at sg187
                                refine Tr.icmp_ne (pc := 188) (tgt := 205) d_X12_together_188 rfl (fun c188 => ?_) (fun c188 => ?_)
                                · replace c188 := hd_i c188
                                  refine Tr.pick [0, 1, 2, 3, 4] (ls2 := [(0, (2, 120)), (1, (0, a1)), (2, (1, p161_2)), (4, (0, p161_4)), (9, (0, p169_9))]) rfl ?_
                                  have jr205_0 : rd M 189 p169_9 = r180 := er180
                                  have jr205_1 : rd M 187 p169_9 = r187 := er187
                                  exact J205 _ hS k169_120_113 k169_126_1 k169_9020_0 (by and_intros <;> omega) (by first | exact (hd_o t169_1) | exact (hd_o t169_1).elim (fun h1 => by omega) (fun h1 => h1.elim (fun h1 => by omega) (fun h1 => h1.elim (fun h1 => by omega) (fun h1 => h1.elim (fun h1 => by omega) (fun h1 => h1.elim (fun h1 => by omega) (fun h1 => h1.elim (fun h1 => by omega) (fun h1 => by omega))))))) (by exact (ne_o (hd_o c188)).elim (fun h1 => by omega) (fun h1 => by omega)) tp169_0
                                · refine Tr.aload_n (pc := 191) (i := 0) d_X12_together_191 rfl rfl ?_
                                  refine Tr.getf (pc := 192) d_X12_together_192 f_12_372 (by decide) (by decide) (ty_120 hS.1.1) ?_
                                  refine Tr.tp 189 (fx_120_119 hS.1.1) ?_
                                  refine Tr.iload (pc := 195) (i := 9) d_X12_together_195 rfl ?_
                                  refine Tr.iconst (pc := 197) d_X12_together_197 (by decide) ?_
                                  have h9198 := hS
                                  refine Tr.iastS (pc := 198) (P := St Tru ws_X12_together_120_w1 as_X12_together_120_w1 M0) d_X12_together_198 (ty_189 hS.1.1) (by omega) (by omega) (sa_189 hS (by decide) (by omega) trivial) (fun M198 hS w198 => ?_)
                                  obtain ⟨v198_9020, ev198_9020⟩ : ∃ v, shv M198 = v := ⟨_, rfl⟩
                                  have bv198_9020 : (-46655) ≤ v198_9020 ∧ v198_9020 ≤ 46655 := by rw [← ev198_9020]; exact shv_b hS.1.2.1
                                  have fv198_9020 : (p169_9 = 0 ∧ v198_9020 = u169_9020_0 + 7776 * r180 - 7776 * 0) ∨ (p169_9 = 1 ∧ v198_9020 = u169_9020_0 + 1296 * r180 - 1296 * 0) ∨ (p169_9 = 2 ∧ v198_9020 = u169_9020_0 + 216 * r180 - 216 * 0) ∨ (p169_9 = 3 ∧ v198_9020 = u169_9020_0 + 36 * r180 - 36 * 0) ∨ (p169_9 = 4 ∧ v198_9020 = u169_9020_0 + 6 * r180 - 6 * 0) ∨ (p169_9 = 5 ∧ v198_9020 = u169_9020_0 + r180 - 0) := by have h8 := shv_w w198 (er180) (by omega) (by omega); rw [ev198_9020, show shv M = u169_9020_0 from k169_9020_0] at h8; exact h8
                                  replace fv198_9020 := hd_i fv198_9020
                                  have hvw198 : 0 ≤ rd M 187 p169_9 := (ar_187 (M := M) h9198.1.2.1 _).1
                                  refine Tr.iincV (pc := 199) (n2 := (p169_9 - 1)) (ls2 := [(9, (0, (p169_9 - 1))), (0, (2, 120)), (1, (0, a1)), (2, (1, p161_2)), (4, (0, p161_4))]) d_X12_together_199 rfl (by decide) ((w32_id (by and_intros <;> omega)).trans (by omega)) rfl ?_
                                  refine Tr.goto (pc := 202) (tgt := 169) d_X12_together_202 rfl ?_
                                  refine Tr.pick [1, 2, 3, 4, 0] (ls2 := [(0, (2, 120)), (1, (0, a1)), (2, (1, p161_2)), (4, (0, p161_4)), (9, (0, (p169_9 - 1)))]) rfl ?_
                                  exact J169 _ _ _ hS (by and_intros <;> omega) (by and_intros <;> omega) ((Wr.b w198 rfl).trans k169_120_113) ((Wr.b w198 rfl).trans k169_126_1) ev198_9020 (by and_intros <;> omega) (by exact (hd_o fv198_9020).elim (fun h1 => (hd_o t169_1).elim (fun h2 => by omega) (fun h2 => h2.elim (fun h2 => by omega) (fun h2 => h2.elim (fun h2 => by omega) (fun h2 => h2.elim (fun h2 => by omega) (fun h2 => h2.elim (fun h2 => by omega) (fun h2 => h2.elim (fun h2 => by omega) (fun h2 => by omega))))))) (fun h1 => h1.elim (fun h1 => (hd_o t169_1).elim (fun h2 => by omega) (fun h2 => h2.elim (fun h2 => by omega) (fun h2 => h2.elim (fun h2 => by omega) (fun h2 => h2.elim (fun h2 => by omega) (fun h2 => h2.elim (fun h2 => by omega) (fun h2 => h2.elim (fun h2 => by omega) (fun h2 => by omega))))))) (fun h1 => h1.elim (fun h1 => (hd_o t169_1).elim (fun h2 => by omega) (fun h2 => h2.elim (fun h2 => by omega) (fun h2 => h2.elim (fun h2 => by omega) (fun h2 => h2.elim (fun h2 => by omega) (fun h2 => h2.elim (fun h2 => by omega) (fun h2 => h2.elim (fun h2 => by omega) (fun h2 => by omega))))))) (fun h1 => h1.elim (fun h1 => (hd_o t169_1).elim (fun h2 => by omega) (fun h2 => h2.elim (fun h2 => by omega) (fun h2 => h2.elim (fun h2 => by omega) (fun h2 => h2.elim (fun h2 => by omega) (fun h2 => h2.elim (fun h2 => by omega) (fun h2 => h2.elim (fun h2 => by omega) (fun h2 => by omega))))))) (fun h1 => h1.elim (fun h1 => (hd_o t169_1).elim (fun h2 => by omega) (fun h2 => h2.elim (fun h2 => by omega) (fun h2 => h2.elim (fun h2 => by omega) (fun h2 => h2.elim (fun h2 => by omega) (fun h2 => h2.elim (fun h2 => by omega) (fun h2 => h2.elim (fun h2 => by omega) (fun h2 => by omega))))))) (fun h1 => (hd_o t169_1).elim (fun h2 => by omega) (fun h2 => h2.elim (fun h2 => by omega) (fun h2 => h2.elim (fun h2 => by omega) (fun h2 => h2.elim (fun h2 => by omega) (fun h2 => h2.elim (fun h2 => by omega) (fun h2 => h2.elim (fun h2 => by omega) (fun h2 => by omega)))))))))))) (Sg.wr tp169_0 w198 hvw198) (me_lt hm169 (by omega) (by omega))
                          refine Tr.pick [1, 2, 3, 4, 0] (ls2 := [(0, (2, 120)), (1, (0, a1)), (2, (1, p161_2)), (4, (0, p161_4)), (9, (0, (g120_113 - 1)))]) rfl ?_
                          exact J169 _ _ _ _ hS (by and_intros <;> omega) (by and_intros <;> omega) k161_120_113 k161_126_1 k161_9020_0 (by and_intros <;> omega) (by omega) tp161_0 (Nat.lt_succ_self _)
                        have J122 : ∀ (M : Mem), St Tru ws_X12_together_120_w1 as_X12_together_120_w1 M0 M → rd M 120 113 = g120_113 → rd M 126 1 = g126_1 → shv M = u48_9020_0 → (0 ≤ a1 ∧ a1 < g126_1) → (u48_9020_0 = u48_9020_0) → (Sg M) → Tr l K 4 mX12_together 122 [(0, (2, 120)), (1, (0, a1)), (6, (1, r55)), (8, (0, p66_8))] [] M (q_X12_together_120_w1 M0) := by
                          intro M  hS  k122_120_113 k122_126_1 k122_9020_0 t122_0 t122_1 tp122_0
                          clear k66_120_113 k66_126_1 k66_9020_0 er97
                          refine Tr.lload (pc := 122) (i := 6) d_X12_together_122 rfl ?_
                          refine Tr.lstore_n (pc := 124) (i := 2) (ls2 := [(2, (1, r55)), (0, (2, 120)), (1, (0, a1)), (6, (1, r55)), (8, (0, p66_8))]) d_X12_together_124 rfl (by decide) rfl ?_
                          refine Tr.iload (pc := 125) (i := 8) d_X12_together_125 rfl ?_
                          refine Tr.istore (pc := 127) (i := 4) (ls2 := [(4, (0, p66_8)), (2, (1, r55)), (0, (2, 120)), (1, (0, a1)), (6, (1, r55)), (8, (0, p66_8))]) d_X12_together_127 (by decide) rfl ?_
                          refine Tr.iconst (pc := 129) d_X12_together_129 (by decide) ?_
                          refine Tr.istore (pc := 130) (i := 9) (ls2 := [(9, (0, 0)), (4, (0, p66_8)), (2, (1, r55)), (0, (2, 120)), (1, (0, a1)), (6, (1, r55)), (8, (0, p66_8))]) d_X12_together_130 (by decide) rfl ?_
                          have J132 : ∀ (n132 : Nat) (M : Mem) (p132_9 : Int), St Tru ws_X12_together_120_w1 as_X12_together_120_w1 M0 M → (0 ≤ p132_9 ∧ p132_9 ≤ 6) → rd M 120 113 = g120_113 → rd M 126 1 = g126_1 → shv M = u48_9020_0 → (0 ≤ a1 ∧ a1 < g126_1) → (u48_9020_0 = u48_9020_0) → (Sg M) → (6 - p132_9).toNat < n132 → Tr l K 4 mX12_together 132 [(0, (2, 120)), (1, (0, a1)), (2, (1, r55)), (4, (0, p66_8)), (9, (0, p132_9))] [] M (q_X12_together_120_w1 M0) := by
                            intro n132
                            induction n132 with
                            | zero => intro M p132_9 hS bp132_9 k132_120_113 k132_126_1 k132_9020_0 t132_0 t132_1 tp132_0 hm132; exact absurd hm132 (Nat.not_lt_zero _)
                            | succ n132 J132 =>
                              intro M p132_9 hS bp132_9 k132_120_113 k132_126_1 k132_9020_0 t132_0 t132_1 tp132_0 hm132
                              clear k122_120_113 k122_126_1 k122_9020_0
                              refine Tr.iload (pc := 132) (i := 9) d_X12_together_132 rfl ?_
                              refine Tr.aload_n (pc := 134) (i := 0) d_X12_together_134 rfl rfl ?_
                              refine Tr.getf (pc := 135) d_X12_together_135 f_12_354 (by decide) (by decide) (ty_120 hS.1.1) ?_
                              refine Tr.tp g120_113 k132_120_113 ?_
                              refine Tr.icmp_ge (pc := 138) (tgt := 161) d_X12_together_138 rfl (fun c138 => ?_) (fun c138 => ?_)
                              · refine Tr.pick [0, 1, 2, 3] (ls2 := [(0, (2, 120)), (1, (0, a1)), (2, (1, r55)), (4, (0, p66_8))]) rfl ?_
                                exact J161 _ _ _ hS (by omega) (by and_intros <;> omega) k132_120_113 k132_126_1 k132_9020_0 (by and_intros <;> omega) (by omega) tp132_0
                              · refine Tr.aload_n (pc := 141) (i := 0) d_X12_together_141 rfl rfl ?_
                                refine Tr.getf (pc := 142) d_X12_together_142 f_12_369 (by decide) (by decide) (ty_120 hS.1.1) ?_
                                refine Tr.tp 188 (fx_120_118 hS.1.1) ?_
                                refine Tr.iload (pc := 145) (i := 9) d_X12_together_145 rfl ?_
                                refine Tr.aload_n (pc := 147) (i := 0) d_X12_together_147 rfl rfl ?_
                                refine Tr.getf (pc := 148) d_X12_together_148 f_12_372 (by decide) (by decide) (ty_120 hS.1.1) ?_
                                refine Tr.tp 189 (fx_120_119 hS.1.1) ?_
                                refine Tr.iload (pc := 151) (i := 9) d_X12_together_151 rfl ?_
                                refine Tr.iald (pc := 153) d_X12_together_153 (ty_189 hS.1.1) (by omega) (by omega) ?_
                                refine Tr.gen (P := fun v => 0 ≤ v ∧ v ≤ 5) (ar_189 hS.1.2.1 _) (fun r153 er153 br153 => ?_)
                                refine Tr.iastS (pc := 154) (P := St Tru ws_X12_together_120_w1 as_X12_together_120_w1 M0) d_X12_together_154 (ty_188 hS.1.1) (by omega) (by omega) (sa_188 hS (by decide) (by and_intros <;> omega) trivial) (fun M154 hS w154 => ?_)
                                refine Tr.iincV (pc := 155) (n2 := (p132_9 + 1)) (ls2 := [(9, (0, (p132_9 + 1))), (0, (2, 120)), (1, (0, a1)), (2, (1, r55)), (4, (0, p66_8))]) d_X12_together_155 rfl (by decide) ((w32_id (by and_intros <;> omega)).trans (by omega)) rfl ?_
                                refine Tr.goto (pc := 158) (tgt := 132) d_X12_together_158 rfl ?_
                                refine Tr.pick [1, 2, 3, 4, 0] (ls2 := [(0, (2, 120)), (1, (0, a1)), (2, (1, r55)), (4, (0, p66_8)), (9, (0, (p132_9 + 1)))]) rfl ?_
                                exact J132 _ _ hS (by and_intros <;> omega) ((Wr.b w154 rfl).trans k132_120_113) ((Wr.b w154 rfl).trans k132_126_1) ((shv_of (fun j => ((Wr.b w154 rfl).trans rfl)) (fun j => ((Wr.b w154 rfl).trans rfl))).trans k132_9020_0) (by and_intros <;> omega) (by omega) (Sg.fr tp132_0 (fun _ => ((Wr.b w154 rfl).trans rfl)) (fun _ => ((Wr.b w154 rfl).trans rfl))) (me_lt hm132 (by omega) (by omega))
                          refine Tr.pick [3, 4, 2, 1, 0] (ls2 := [(0, (2, 120)), (1, (0, a1)), (2, (1, r55)), (4, (0, p66_8)), (9, (0, 0))]) rfl ?_
                          exact J132 _ _ _ hS (by omega) k122_120_113 k122_126_1 k122_9020_0 (by and_intros <;> omega) (by omega) tp122_0 (Nat.lt_succ_self _)
                        refine Tr.if_eq (pc := 98) (tgt := 122) d_X12_together_98 rfl (fun c98 => ?_) (fun c98 => ?_)
                        · refine Tr.pick [0, 1, 4, 5] (ls2 := [(0, (2, 120)), (1, (0, a1)), (6, (1, r55)), (8, (0, p66_8))]) rfl ?_
                          exact J122 _ hS k66_120_113 k66_126_1 k66_9020_0 (by and_intros <;> omega) (by omega) tp66_0
                        · replace c98 := hd_i c98
                          refine Tr.lload (pc := 101) (i := 6) d_X12_together_101 rfl ?_
                          refine Tr.lload_n (pc := 103) (i := 2) d_X12_together_103 rfl rfl ?_
                          refine Tr.lcmp (pc := 104) d_X12_together_104 ?_
                          refine Tr.gen (P := fun v => (v = 1 ∧ p48_2 < r55) ∨ (v = 0 ∧ r55 = p48_2) ∨ (v = -1 ∧ r55 < p48_2)) (f_lcmp_c _ _) (fun r104 er104 br104 => ?_)
                          replace br104 := hd_i br104
                          refine Tr.if_lt (pc := 105) (tgt := 122) d_X12_together_105 rfl (fun c105 => ?_) (fun c105 => ?_)
                          · refine Tr.pick [0, 1, 4, 5] (ls2 := [(0, (2, 120)), (1, (0, a1)), (6, (1, r55)), (8, (0, p66_8))]) rfl ?_
                            exact J122 _ hS k66_120_113 k66_126_1 k66_9020_0 (by and_intros <;> omega) (by omega) tp66_0
                          · refine Tr.lload (pc := 108) (i := 6) d_X12_together_108 rfl ?_
                            refine Tr.lload_n (pc := 110) (i := 2) d_X12_together_110 rfl rfl ?_
                            refine Tr.lcmp (pc := 111) d_X12_together_111 ?_
                            refine Tr.gen (P := fun v => (v = 1 ∧ p48_2 < r55) ∨ (v = 0 ∧ r55 = p48_2) ∨ (v = -1 ∧ r55 < p48_2)) (f_lcmp_c _ _) (fun r111 er111 br111 => ?_)
                            replace br111 := hd_i br111
                            refine Tr.if_ne (pc := 112) (tgt := 161) d_X12_together_112 rfl (fun c112 => ?_) (fun c112 => ?_)
                            · replace c112 := hd_i c112
                              refine Tr.pick [0, 1, 2, 3] (ls2 := [(0, (2, 120)), (1, (0, a1)), (2, (1, p48_2)), (4, (0, p48_4))]) rfl ?_
                              exact J161 _ _ _ hS (by omega) (by and_intros <;> omega) k66_120_113 k66_126_1 k66_9020_0 (by and_intros <;> omega) (by omega) tp66_0
                            · refine Tr.iload (pc := 115) (i := 8) d_X12_together_115 rfl ?_
                              refine Tr.iload (pc := 117) (i := 4) d_X12_together_117 rfl ?_
                              refine Tr.icmp_ge (pc := 119) (tgt := 161) d_X12_together_119 rfl (fun c119 => ?_) (fun c119 => ?_)
                              · refine Tr.pick [0, 1, 2, 3] (ls2 := [(0, (2, 120)), (1, (0, a1)), (2, (1, p48_2)), (4, (0, p48_4))]) rfl ?_
                                exact J161 _ _ _ hS (by omega) (by and_intros <;> omega) k66_120_113 k66_126_1 k66_9020_0 (by and_intros <;> omega) (by omega) tp66_0
                              · refine Tr.pick [0, 1, 4, 5] (ls2 := [(0, (2, 120)), (1, (0, a1)), (6, (1, r55)), (8, (0, p66_8))]) rfl ?_
                                exact J122 _ hS k66_120_113 k66_126_1 k66_9020_0 (by and_intros <;> omega) (by omega) tp66_0
                      · refine Tr.iload (pc := 75) (i := 8) d_X12_together_75 rfl ?_
                        refine Tr.aload_n (pc := 77) (i := 0) d_X12_together_77 rfl rfl ?_
                        refine Tr.getf (pc := 78) d_X12_together_78 f_12_372 (by decide) (by decide) (ty_120 hS.1.1) ?_
                        refine Tr.tp 189 (fx_120_119 hS.1.1) ?_
                        refine Tr.iload (pc := 81) (i := 9) d_X12_together_81 rfl ?_
                        refine Tr.iald (pc := 83) d_X12_together_83 (ty_189 hS.1.1) (by omega) (by omega) ?_
                        refine Tr.gen (P := fun v => 0 ≤ v ∧ v ≤ 5) (ar_189 hS.1.2.1 _) (fun r83 er83 br83 => ?_)
                        refine Tr.iadd (pc := 84) d_X12_together_84 ?_
                        refine Tr.gen (P := fun v => (-2147483648) ≤ v ∧ v ≤ 2147483647) (w32_b _) (fun r84 er84 br84 => ?_)
                        refine Tr.istore (pc := 85) (i := 8) (ls2 := [(8, (0, r84)), (0, (2, 120)), (1, (0, a1)), (2, (1, p48_2)), (4, (0, p48_4)), (6, (1, r55)), (9, (0, p66_9))]) d_X12_together_85 (by decide) rfl ?_
                        refine Tr.iincV (pc := 87) (n2 := (p66_9 + 1)) (ls2 := [(9, (0, (p66_9 + 1))), (8, (0, r84)), (0, (2, 120)), (1, (0, a1)), (2, (1, p48_2)), (4, (0, p48_4)), (6, (1, r55))]) d_X12_together_87 rfl (by decide) ((w32_id (by and_intros <;> omega)).trans (by omega)) rfl ?_
                        refine Tr.goto (pc := 90) (tgt := 66) d_X12_together_90 rfl ?_
                        refine Tr.pick [2, 3, 4, 5, 6, 1, 0] (ls2 := [(0, (2, 120)), (1, (0, a1)), (2, (1, p48_2)), (4, (0, p48_4)), (6, (1, r55)), (8, (0, r84)), (9, (0, (p66_9 + 1)))]) rfl ?_
                        exact J66 _ _ _ hS (by and_intros <;> omega) (by and_intros <;> omega) k66_120_113 k66_126_1 k66_9020_0 (by and_intros <;> omega) (by omega) tp66_0 (me_lt hm66 (by omega) (by omega))
                  refine Tr.pick [3, 4, 5, 6, 2, 1, 0] (ls2 := [(0, (2, 120)), (1, (0, a1)), (2, (1, p48_2)), (4, (0, p48_4)), (6, (1, r55)), (8, (0, 0)), (9, (0, 0))]) rfl ?_
                  exact J66 _ _ _ _ hS (by omega) (by omega) ((kp_X12_asksCost_120_w1_120_113 h55).trans k48_120_113) ((kp_X12_asksCost_120_w1_126_1 h55).trans k48_126_1) ((shv_of (fun j => ((ka_X12_asksCost_120_w1_187 h55 _).trans rfl)) (fun j => ((ka_X12_asksCost_120_w1_189 h55 _).trans rfl))).trans k48_9020_0) (by and_intros <;> omega) (by omega) (Sg.fr tp48_0 (fun _ => ((ka_X12_asksCost_120_w1_187 h55 _).trans rfl)) (fun _ => ((ka_X12_asksCost_120_w1_189 h55 _).trans rfl))) (Nat.lt_succ_self _)
            refine Tr.pick [3, 4, 2, 1, 0] (ls2 := [(0, (2, 120)), (1, (0, a1)), (2, (1, (-1))), (4, (0, 0)), (5, (0, 1))]) rfl ?_
            exact J48 _ _ _ _ _ _ hS (by omega) (by omega) (by omega) (by and_intros <;> omega) k19_120_113 k19_126_1 k19_9020_0 (by and_intros <;> omega) (by omega) (Sz.g (tp19_0) hS.1.2.1 (by omega)) (Nat.lt_succ_self _)
          · refine Tr.aload_n (pc := 25) (i := 0) d_X12_together_25 rfl rfl ?_
            refine Tr.getf (pc := 26) d_X12_together_26 f_12_372 (by decide) (by decide) (ty_120 hS.1.1) ?_
            refine Tr.tp 189 (fx_120_119 hS.1.1) ?_
            refine Tr.iload_n (pc := 29) (i := 2) d_X12_together_29 rfl rfl ?_
            refine Tr.iconst (pc := 30) d_X12_together_30 (by decide) ?_
            refine Tr.iastS (pc := 31) (P := St Tru ws_X12_together_120_w1 as_X12_together_120_w1 M0) d_X12_together_31 (ty_189 hS.1.1) (by omega) (by omega) (sa_189 hS (by decide) (by omega) trivial) (fun M31 hS w31 => ?_)
            refine Tr.iincV (pc := 32) (n2 := (p19_2 + 1)) (ls2 := [(2, (0, (p19_2 + 1))), (0, (2, 120)), (1, (0, a1))]) d_X12_together_32 rfl (by decide) ((w32_id (by and_intros <;> omega)).trans (by omega)) rfl ?_
            refine Tr.goto (pc := 35) (tgt := 19) d_X12_together_35 rfl ?_
            refine Tr.pick [1, 2, 0] (ls2 := [(0, (2, 120)), (1, (0, a1)), (2, (0, (p19_2 + 1)))]) rfl ?_
            obtain ⟨w19p35_9020_0, ew19p35_9020_0⟩ : ∃ v, shv M31 = v := ⟨_, rfl⟩
            have bw19p35_9020_0 : (-46655) ≤ w19p35_9020_0 ∧ w19p35_9020_0 ≤ 46655 := by rw [← ew19p35_9020_0]; exact (shv_b hS.1.2.1)
            exact J19 _ _ _ hS (by and_intros <;> omega) (by and_intros <;> omega) ((Wr.b w31 rfl).trans k19_120_113) ((Wr.b w31 rfl).trans k19_126_1) ew19p35_9020_0 (by and_intros <;> omega) (Sz.wr tp19_0 w31) (me_lt hm19 (by omega) (by omega))
      refine Tr.pick [1, 2, 0] (ls2 := [(0, (2, 120)), (1, (0, a1)), (2, (0, 0))]) rfl ?_
      exact J19 _ _ _ _ hS (by omega) (by and_intros <;> omega) ((kp_X12_isPart_120_w1_120_113 h2).trans eg120_113) ((kp_X12_isPart_120_w1_126_1 h2).trans eg126_1) ((shv_of (fun j => ((ka_X12_isPart_120_w1_187 h2 _).trans rfl)) (fun j => ((ka_X12_isPart_120_w1_189 h2 _).trans rfl))).trans eg9020_0) (by exact (hd_o z2_0).elim (fun h1 => by omega) (fun h1 => by omega)) (fun k k0 k1 => absurd k1 (by omega)) (Nat.lt_succ_self _)
    · refine Tr.iconst (pc := 15) d_X12_together_15 (by decide) ?_
      exact Tr.iret (pc := 16) d_X12_together_16 rfl ⟨hS, _, rfl, by omega, by omega⟩

def ws_X12_never_120_w1 : List (Int × Int) := []
def as_X12_never_120_w1 : List Int := [190]
def q_X12_never_120_w1 (M0 M' : Mem) (r : Option PV) : Prop := St Tru ws_X12_never_120_w1 as_X12_never_120_w1 M0 M' ∧ ∃ v : Int, r = some (0, v) ∧ (-2147483648) ≤ v ∧ v ≤ 2147483647
theorem kp_X12_never_120_w1_120_12 {q : Mem → Prop} {M0 M : Mem} (h : St q ws_X12_never_120_w1 as_X12_never_120_w1 M0 M) : rd M 120 12 = rd M0 120 12 := St.kp h (by decide) (by decide) (by decide)
theorem kp_X12_moved_136_1 {q : Mem → Prop} {M0 M : Mem} (h : St q ws_X12_moved as_X12_moved M0 M) : rd M 136 1 = rd M0 136 1 := St.kp h (by decide) (by decide) (by decide)
set_option maxRecDepth 100000 in
set_option maxHeartbeats 4000000 in
theorem sp_X12_never_120_w1 {l : Launch} {K : EC} {M0 : Mem} (hI : In Tru M0) (en_120_12 : rd M0 120 12 = 1)   : Tr l K 1 mX12_never 0 [(0, (2, 120))] [] M0 (q_X12_never_120_w1 M0) := by
  have hS : St Tru ws_X12_never_120_w1 as_X12_never_120_w1 M0 M0 := St.rf hI
  obtain ⟨g9030_0, eg9030_0⟩ : ∃ v, cmv M0 = v := ⟨_, rfl⟩
  have bg9030_0 : 0 ≤ g9030_0 ∧ g9030_0 ≤ 12864 := by rw [← eg9030_0]; exact (cmv_b hI.2.1)
  refine Tr.aload_n (pc := 0) (i := 0) d_X12_never_0 rfl rfl ?_
  refine Tr.getf (pc := 1) d_X12_never_1 f_12_94 (by decide) (by decide) (ty_120 hS.1.1) ?_
  refine Tr.tp 136 (fx_120_27 hS.1.1) ?_
  refine Tr.aload_n (pc := 4) (i := 0) d_X12_never_4 rfl rfl ?_
  refine Tr.getf (pc := 5) d_X12_never_5 f_12_48 (by decide) (by decide) (ty_120 hS.1.1) ?_
  refine Tr.tp 1 ((kp_X12_never_120_w1_120_12 hS).trans en_120_12) ?_
  refine Tr.iald (pc := 8) d_X12_never_8 (ty_136 hS.1.1) (by omega) (by omega) ?_
  refine Tr.gen (P := fun v => 0 ≤ v ∧ v ≤ 200) (ir_136_1 hS.1.2.1) (fun r8 er8 br8 => ?_)
  refine Tr.istore_n (pc := 9) (i := 1) (ls2 := [(1, (0, r8)), (0, (2, 120))]) d_X12_never_9 rfl (by decide) rfl ?_
  refine Tr.iconst (pc := 10) d_X12_never_10 (by decide) ?_
  refine Tr.istore_n (pc := 11) (i := 2) (ls2 := [(2, (0, 0)), (1, (0, r8)), (0, (2, 120))]) d_X12_never_11 rfl (by decide) rfl ?_
  have J12 : ∀ (n12 : Nat) (M : Mem) (p12_2 u12_9030_0 : Int), St Tru ws_X12_never_120_w1 as_X12_never_120_w1 M0 M → (0 ≤ p12_2 ∧ p12_2 ≤ 201) → (0 ≤ u12_9030_0 ∧ u12_9030_0 ≤ 12864) → rd M 136 1 = r8 → cmv M = u12_9030_0 → (201 - p12_2).toNat < n12 → Tr l K 1 mX12_never 12 [(0, (2, 120)), (1, (0, r8)), (2, (0, p12_2))] [] M (q_X12_never_120_w1 M0) := by
    intro n12
    induction n12 with
    | zero => intro M p12_2 u12_9030_0 hS bp12_2 bu12_9030_0 k12_136_1 k12_9030_0 hm12; exact absurd hm12 (Nat.not_lt_zero _)
    | succ n12 J12 =>
      intro M p12_2 u12_9030_0 hS bp12_2 bu12_9030_0 k12_136_1 k12_9030_0 hm12
      clear er8
      refine Tr.iload_n (pc := 12) (i := 2) d_X12_never_12 rfl rfl ?_
      refine Tr.iload_n (pc := 13) (i := 1) d_X12_never_13 rfl rfl ?_
      refine Tr.icmp_gt (pc := 14) (tgt := 38) d_X12_never_14 rfl (fun c14 => ?_) (fun c14 => ?_)
      · refine Tr.iconst (pc := 38) d_X12_never_38 (by decide) ?_
        refine Tr.istore_n (pc := 39) (i := 2) (ls2 := [(2, (0, 1)), (0, (2, 120)), (1, (0, r8))]) d_X12_never_39 rfl (by decide) rfl ?_
        have J40 : ∀ (n40 : Nat) (M : Mem) (p40_2 u40_9030_0 : Int), St Tru ws_X12_never_120_w1 as_X12_never_120_w1 M0 M → (0 ≤ p40_2 ∧ p40_2 ≤ 1) → (0 ≤ u40_9030_0 ∧ u40_9030_0 ≤ 12864) → rd M 136 1 = r8 → cmv M = u40_9030_0 → (p40_2 = 0 ∨ p40_2 = 1) → (2 * (12864 - u40_9030_0) + p40_2).toNat < n40 → Tr l K 1 mX12_never 40 [(0, (2, 120)), (1, (0, r8)), (2, (0, p40_2))] [] M (q_X12_never_120_w1 M0) := by
          intro n40
          induction n40 with
          | zero => intro M p40_2 u40_9030_0 hS bp40_2 bu40_9030_0 k40_136_1 k40_9030_0 t40_0 hm40; exact absurd hm40 (Nat.not_lt_zero _)
          | succ n40 J40 =>
            intro M p40_2 u40_9030_0 hS bp40_2 bu40_9030_0 k40_136_1 k40_9030_0 t40_0 hm40
            clear k12_136_1 k12_9030_0
            replace t40_0 := hd_i t40_0
            refine Tr.iload_n (pc := 40) (i := 2) d_X12_never_40 rfl rfl ?_
            refine Tr.if_eq (pc := 41) (tgt := 261) d_X12_never_41 rfl (fun c41 => ?_) (fun c41 => ?_)
            · refine Tr.iconst (pc := 261) d_X12_never_261 (by decide) ?_
              refine Tr.istore_n (pc := 262) (i := 3) (ls2 := [(3, (0, 0)), (0, (2, 120)), (1, (0, r8)), (2, (0, p40_2))]) d_X12_never_262 rfl (by decide) rfl ?_
              refine Tr.iconst (pc := 263) d_X12_never_263 (by decide) ?_
              refine Tr.istore (pc := 264) (i := 4) (ls2 := [(4, (0, 0)), (3, (0, 0)), (0, (2, 120)), (1, (0, r8)), (2, (0, p40_2))]) d_X12_never_264 (by decide) rfl ?_
              have J266 : ∀ (n266 : Nat) (M : Mem) (p266_3 p266_4 : Int), St Tru ws_X12_never_120_w1 as_X12_never_120_w1 M0 M → ((-2147483648) ≤ p266_3 ∧ p266_3 ≤ 2147483647) → (0 ≤ p266_4 ∧ p266_4 ≤ 64) → rd M 136 1 = r8 → cmv M = u40_9030_0 → (64 - p266_4).toNat < n266 → Tr l K 1 mX12_never 266 [(0, (2, 120)), (1, (0, r8)), (3, (0, p266_3)), (4, (0, p266_4))] [] M (q_X12_never_120_w1 M0) := by
                intro n266
                induction n266 with
                | zero => intro M p266_3 p266_4 hS bp266_3 bp266_4 k266_136_1 k266_9030_0 hm266; exact absurd hm266 (Nat.not_lt_zero _)
                | succ n266 J266 =>
                  intro M p266_3 p266_4 hS bp266_3 bp266_4 k266_136_1 k266_9030_0 hm266
                  clear k40_136_1 k40_9030_0
                  refine Tr.iload (pc := 266) (i := 4) d_X12_never_266 rfl ?_
                  refine Tr.bipush (pc := 268) d_X12_never_268 rfl (by decide) ?_
                  refine Tr.icmp_ge (pc := 270) (tgt := 300) d_X12_never_270 rfl (fun c270 => ?_) (fun c270 => ?_)
                  · refine Tr.iload_n (pc := 300) (i := 3) d_X12_never_300 rfl rfl ?_
                    exact Tr.iret (pc := 301) d_X12_never_301 rfl ⟨hS, _, rfl, (by omega), (by omega)⟩
                  · refine Tr.aload_n (pc := 273) (i := 0) d_X12_never_273 rfl rfl ?_
                    refine Tr.getf (pc := 274) d_X12_never_274 f_12_375 (by decide) (by decide) (ty_120 hS.1.1) ?_
                    refine Tr.tp 190 (fx_120_120 hS.1.1) ?_
                    refine Tr.iload_n (pc := 277) (i := 1) d_X12_never_277 rfl rfl ?_
                    refine Tr.lald (pc := 278) d_X12_never_278 (ty_190 hS.1.1) (by omega) (by omega) ?_
                    refine Tr.gen (P := fun v => (-9223372036854775808) ≤ v ∧ v ≤ 9223372036854775807) (ar_190 hS.1.2.1 _) (fun r278 er278 br278 => ?_)
                    refine Tr.iload (pc := 279) (i := 4) d_X12_never_279 rfl ?_
                    refine Tr.lshr (pc := 281) d_X12_never_281 ?_
                    refine Tr.gen (P := fun v => ((-9223372036854775808) ≤ v ∧ v ≤ 9223372036854775807) ∧ (r278 ≠ 0 ∨ v = 0)) (lshr_z _ _) (fun r281 er281 br281 => ?_)
                    have br281d0 := hd_i br281.2
                    replace br281 := And.intro br281.1.1  (br281.1.2)
                    refine Tr.lconst (pc := 282) (v := 1) d_X12_never_282 rfl (by decide) ?_
                    refine Tr.land (pc := 283) d_X12_never_283 ?_
                    refine Tr.gen (P := fun v => v = r281 % 2 ∧ (0 ≤ v ∧ v ≤ 1)) ⟨(f_land_1 _).1, (f_land_1 _).2⟩ (fun r283 er283 br283 => ?_)
                    refine Tr.lconst (pc := 284) (v := 1) d_X12_never_284 rfl (by decide) ?_
                    refine Tr.lcmp (pc := 285) d_X12_never_285 ?_
                    refine Tr.gen (P := fun v => (v = 1 ∧ 1 < r283) ∨ (v = 0 ∧ r283 = 1) ∨ (v = -1 ∧ r283 < 1)) (f_lcmp_c _ _) (fun r285 er285 br285 => ?_)
                    replace br285 := hd_i br285
                    have J294 : ∀ (M : Mem) (p294_3 : Int), St Tru ws_X12_never_120_w1 as_X12_never_120_w1 M0 M → ((-2147483648) ≤ p294_3 ∧ p294_3 ≤ 2147483647) → rd M 136 1 = r8 → cmv M = u40_9030_0 → Tr l K 1 mX12_never 294 [(0, (2, 120)), (1, (0, r8)), (3, (0, p294_3)), (4, (0, p266_4))] [] M (q_X12_never_120_w1 M0) := by
                      intro M p294_3 hS bp294_3 k294_136_1 k294_9030_0
                      clear k266_136_1 k266_9030_0 er278 er281 er283 er285
                      refine Tr.iincV (pc := 294) (n2 := (p266_4 + 1)) (ls2 := [(4, (0, (p266_4 + 1))), (0, (2, 120)), (1, (0, r8)), (3, (0, p294_3))]) d_X12_never_294 rfl (by decide) ((w32_id (by and_intros <;> omega)).trans (by omega)) rfl ?_
                      refine Tr.goto (pc := 297) (tgt := 266) d_X12_never_297 rfl ?_
                      refine Tr.pick [1, 2, 3, 0] (ls2 := [(0, (2, 120)), (1, (0, r8)), (3, (0, p294_3)), (4, (0, (p266_4 + 1)))]) rfl ?_
                      exact J266 _ _ _ hS (by and_intros <;> omega) (by and_intros <;> omega) k294_136_1 k294_9030_0 (me_lt hm266 (by omega) (by omega))
                    refine Tr.if_ne (pc := 286) (tgt := 294) d_X12_never_286 rfl (fun c286 => ?_) (fun c286 => ?_)
                    · replace c286 := hd_i c286
                      refine Tr.pick [0, 1, 2, 3] (ls2 := [(0, (2, 120)), (1, (0, r8)), (3, (0, p266_3)), (4, (0, p266_4))]) rfl ?_
                      exact J294 _ _ hS (by and_intros <;> omega) k266_136_1 k266_9030_0
                    · refine Tr.iload_n (pc := 289) (i := 3) d_X12_never_289 rfl rfl ?_
                      refine Tr.iload (pc := 290) (i := 4) d_X12_never_290 rfl ?_
                      refine Tr.ior (pc := 292) d_X12_never_292 ?_
                      refine Tr.gen (P := fun v => (-2147483648) ≤ v ∧ v ≤ 2147483647) (i32_b _) (fun r292 er292 br292 => ?_)
                      refine Tr.istore_n (pc := 293) (i := 3) (ls2 := [(3, (0, r292)), (0, (2, 120)), (1, (0, r8)), (4, (0, p266_4))]) d_X12_never_293 rfl (by decide) rfl ?_
                      refine Tr.pick [1, 2, 0, 3] (ls2 := [(0, (2, 120)), (1, (0, r8)), (3, (0, r292)), (4, (0, p266_4))]) rfl ?_
                      exact J294 _ _ hS (by and_intros <;> omega) k266_136_1 k266_9030_0
              refine Tr.pick [2, 3, 1, 0] (ls2 := [(0, (2, 120)), (1, (0, r8)), (3, (0, 0)), (4, (0, 0))]) rfl ?_
              exact J266 _ _ _ _ hS (by omega) (by omega) k40_136_1 k40_9030_0 (Nat.lt_succ_self _)
            · have c41b : 1 ≤ p40_2 ∧ p40_2 ≤ 1 := by omega
              replace c41 := hd_i c41
              refine Tr.iconst (pc := 44) d_X12_never_44 (by decide) ?_
              refine Tr.istore_n (pc := 45) (i := 2) (ls2 := [(2, (0, 0)), (0, (2, 120)), (1, (0, r8))]) d_X12_never_45 rfl (by decide) rfl ?_
              refine Tr.iconst (pc := 46) d_X12_never_46 (by decide) ?_
              refine Tr.istore_n (pc := 47) (i := 3) (ls2 := [(3, (0, 0)), (2, (0, 0)), (0, (2, 120)), (1, (0, r8))]) d_X12_never_47 rfl (by decide) rfl ?_
              have J48 : ∀ (n48 : Nat) (M : Mem) (p48_2 p48_3 u48_9030_0 : Int), St Tru ws_X12_never_120_w1 as_X12_never_120_w1 M0 M → (0 ≤ p48_2 ∧ p48_2 ≤ 1) → (0 ≤ p48_3 ∧ p48_3 ≤ 200) → (0 ≤ u48_9030_0 ∧ u48_9030_0 ≤ 12864) → rd M 136 1 = r8 → cmv M = u48_9030_0 → (u40_9030_0 ≤ u48_9030_0) → (p48_2 = 0 ∨ u40_9030_0 < u48_9030_0) → (p48_2 = 0 ∨ p48_2 = 1) → (200 - p48_3).toNat < n48 → Tr l K 1 mX12_never 48 [(0, (2, 120)), (1, (0, r8)), (2, (0, p48_2)), (3, (0, p48_3))] [] M (q_X12_never_120_w1 M0) := by
                intro n48
                induction n48 with
                | zero => intro M p48_2 p48_3 u48_9030_0 hS bp48_2 bp48_3 bu48_9030_0 k48_136_1 k48_9030_0 t48_0 t48_1 t48_2 hm48; exact absurd hm48 (Nat.not_lt_zero _)
                | succ n48 J48 =>
                  intro M p48_2 p48_3 u48_9030_0 hS bp48_2 bp48_3 bu48_9030_0 k48_136_1 k48_9030_0 t48_0 t48_1 t48_2 hm48
                  clear k40_136_1 k40_9030_0
                  replace t48_1 := hd_i t48_1
                  replace t48_2 := hd_i t48_2
                  refine Tr.iload_n (pc := 48) (i := 3) d_X12_never_48 rfl rfl ?_
                  refine Tr.iload_n (pc := 49) (i := 1) d_X12_never_49 rfl rfl ?_
                  refine Tr.icmp_ge (pc := 50) (tgt := 258) d_X12_never_50 rfl (fun c50 => ?_) (fun c50 => ?_)
                  · refine Tr.goto (pc := 258) (tgt := 40) d_X12_never_258 rfl ?_
                    refine Tr.pick [0, 1, 2] (ls2 := [(0, (2, 120)), (1, (0, r8)), (2, (0, p48_2))]) rfl ?_
                    exact J40 _ _ _ hS (by and_intros <;> omega) (by and_intros <;> omega) k48_136_1 k48_9030_0 (by first | exact (hd_o t48_2) | exact (hd_o t48_2).elim (fun h1 => by omega) (fun h1 => by omega)) (me_lt hm40 (by exact (hd_o t48_1).elim (fun h1 => by omega) (fun h1 => by omega)) (by omega))
                  · refine Tr.sipush (pc := 53) d_X12_never_53 rfl (by decide) ?_
                    refine Tr.aload_n (pc := 56) (i := 0) d_X12_never_56 rfl rfl ?_
                    refine Tr.getf (pc := 57) d_X12_never_57 f_12_48 (by decide) (by decide) (ty_120 hS.1.1) ?_
                    refine Tr.tp 1 ((kp_X12_never_120_w1_120_12 hS).trans en_120_12) ?_
                    refine Tr.imul (pc := 60) d_X12_never_60 ?_
                    refine Tr.tp 200 (by decide) ?_
                    refine Tr.iload_n (pc := 61) (i := 3) d_X12_never_61 rfl rfl ?_
                    refine Tr.iadd (pc := 62) d_X12_never_62 ?_
                    refine Tr.tp (p48_3 + 200) ((w32_id (by and_intros <;> omega)).trans (by omega)) ?_
                    refine Tr.istore (pc := 63) (i := 4) (ls2 := [(4, (0, (p48_3 + 200))), (0, (2, 120)), (1, (0, r8)), (2, (0, p48_2)), (3, (0, p48_3))]) d_X12_never_63 (by decide) rfl ?_
                    refine Tr.aload_n (pc := 65) (i := 0) d_X12_never_65 rfl rfl ?_
                    refine Tr.getf (pc := 66) d_X12_never_66 f_12_375 (by decide) (by decide) (ty_120 hS.1.1) ?_
                    refine Tr.tp 190 (fx_120_120 hS.1.1) ?_
                    refine Tr.iload_n (pc := 69) (i := 3) d_X12_never_69 rfl rfl ?_
                    refine Tr.lald (pc := 70) d_X12_never_70 (ty_190 hS.1.1) (by omega) (by omega) ?_
                    refine Tr.gen (P := fun v => (-9223372036854775808) ≤ v ∧ v ≤ 9223372036854775807) (ar_190 hS.1.2.1 _) (fun r70 er70 br70 => ?_)
                    refine Tr.lstore (pc := 71) (i := 5) (ls2 := [(5, (1, r70)), (4, (0, (p48_3 + 200))), (0, (2, 120)), (1, (0, r8)), (2, (0, p48_2)), (3, (0, p48_3))]) d_X12_never_71 (by decide) rfl ?_
                    refine Tr.aload_n (pc := 73) (i := 0) d_X12_never_73 rfl rfl ?_
                    refine Tr.getf (pc := 74) d_X12_never_74 f_12_97 (by decide) (by decide) (ty_120 hS.1.1) ?_
                    refine Tr.tp 137 (fx_120_28 hS.1.1) ?_
                    refine Tr.iload (pc := 77) (i := 4) d_X12_never_77 rfl ?_
                    refine Tr.iald (pc := 79) d_X12_never_79 (ty_137 hS.1.1) (by omega) (by omega) ?_
                    refine Tr.gen (P := fun v => 0 ≤ v ∧ v ≤ 8) (ar_137 hS.1.2.1 _) (fun r79 er79 br79 => ?_)
                    refine Tr.iconst (pc := 80) d_X12_never_80 (by decide) ?_
                    have J125 : ∀ (M : Mem) (p125_5 : Int), St Tru ws_X12_never_120_w1 as_X12_never_120_w1 M0 M → ((-9223372036854775808) ≤ p125_5 ∧ p125_5 ≤ 9223372036854775807) → rd M 136 1 = r8 → rd M 137 (p48_3 + 200) = r79 → rd M 190 p48_3 = r70 → cmv M = u48_9030_0 → Tr l K 1 mX12_never 125 [(0, (2, 120)), (1, (0, r8)), (2, (0, p48_2)), (3, (0, p48_3)), (4, (0, (p48_3 + 200))), (5, (1, p125_5))] [] M (q_X12_never_120_w1 M0) := by
                      intro M p125_5 hS bp125_5 k125_136_1 k125_137_p48_31200 k125_190_p48_310 k125_9030_0
                      clear k48_136_1 k48_9030_0 er70 er79
                      refine Tr.aload_n (pc := 125) (i := 0) d_X12_never_125 rfl rfl ?_
                      refine Tr.getf (pc := 126) d_X12_never_126 f_12_97 (by decide) (by decide) (ty_120 hS.1.1) ?_
                      refine Tr.tp 137 (fx_120_28 hS.1.1) ?_
                      refine Tr.iload (pc := 129) (i := 4) d_X12_never_129 rfl ?_
                      refine Tr.iald (pc := 131) d_X12_never_131 (ty_137 hS.1.1) (by omega) (by omega) ?_
                      refine Tr.tp r79 k125_137_p48_31200 ?_
                      have J148 : ∀ (M : Mem) (q148_0 : Int), St Tru ws_X12_never_120_w1 as_X12_never_120_w1 M0 M → (0 ≤ q148_0 ∧ q148_0 ≤ 200) → rd M 136 1 = r8 → rd M 137 (p48_3 + 200) = r79 → rd M 190 p48_3 = r70 → cmv M = u48_9030_0 → Tr l K 1 mX12_never 148 [(0, (2, 120)), (1, (0, r8)), (2, (0, p48_2)), (3, (0, p48_3)), (4, (0, (p48_3 + 200))), (5, (1, p125_5))] [(0, q148_0)] M (q_X12_never_120_w1 M0) := by
                        intro M q148_0 hS bq148_0 k148_136_1 k148_137_p48_31200 k148_190_p48_310 k148_9030_0
                        clear k125_136_1 k125_137_p48_31200 k125_190_p48_310 k125_9030_0
                        refine Tr.istore (pc := 148) (i := 7) (ls2 := [(7, (0, q148_0)), (0, (2, 120)), (1, (0, r8)), (2, (0, p48_2)), (3, (0, p48_3)), (4, (0, (p48_3 + 200))), (5, (1, p125_5))]) d_X12_never_148 (by decide) rfl ?_
                        refine Tr.aload_n (pc := 150) (i := 0) d_X12_never_150 rfl rfl ?_
                        refine Tr.getf (pc := 151) d_X12_never_151 f_12_97 (by decide) (by decide) (ty_120 hS.1.1) ?_
                        refine Tr.tp 137 (fx_120_28 hS.1.1) ?_
                        refine Tr.iload (pc := 154) (i := 4) d_X12_never_154 rfl ?_
                        refine Tr.iald (pc := 156) d_X12_never_156 (ty_137 hS.1.1) (by omega) (by omega) ?_
                        refine Tr.tp r79 k148_137_p48_31200 ?_
                        refine Tr.bipush (pc := 157) d_X12_never_157 rfl (by decide) ?_
                        have J174 : ∀ (M : Mem) (q174_0 : Int), St Tru ws_X12_never_120_w1 as_X12_never_120_w1 M0 M → (0 ≤ q174_0 ∧ q174_0 ≤ 200) → rd M 136 1 = r8 → rd M 137 (p48_3 + 200) = r79 → rd M 190 p48_3 = r70 → cmv M = u48_9030_0 → Tr l K 1 mX12_never 174 [(0, (2, 120)), (1, (0, r8)), (2, (0, p48_2)), (3, (0, p48_3)), (5, (1, p125_5)), (7, (0, q148_0))] [(0, q174_0)] M (q_X12_never_120_w1 M0) := by
                          intro M q174_0 hS bq174_0 k174_136_1 k174_137_p48_31200 k174_190_p48_310 k174_9030_0
                          clear k148_136_1 k148_137_p48_31200 k148_190_p48_310 k148_9030_0
                          refine Tr.istore (pc := 174) (i := 8) (ls2 := [(8, (0, q174_0)), (0, (2, 120)), (1, (0, r8)), (2, (0, p48_2)), (3, (0, p48_3)), (5, (1, p125_5)), (7, (0, q148_0))]) d_X12_never_174 (by decide) rfl ?_
                          refine Tr.iload_n (pc := 176) (i := 2) d_X12_never_176 rfl rfl ?_
                          have J227 : ∀ (M : Mem) (q227_0 : Int), St Tru ws_X12_never_120_w1 as_X12_never_120_w1 M0 M → (0 ≤ q227_0 ∧ q227_0 ≤ 1) → rd M 136 1 = r8 → rd M 137 (p48_3 + 200) = r79 → rd M 190 p48_3 = r70 → cmv M = u48_9030_0 → (q227_0 = 0 ∨ p48_2 ≠ 0 ∨ Nv M q148_0 q174_0 p125_5) → Tr l K 1 mX12_never 227 [(0, (2, 120)), (1, (0, r8)), (3, (0, p48_3)), (5, (1, p125_5)), (7, (0, q148_0)), (8, (0, q174_0))] [(0, q227_0)] M (q_X12_never_120_w1 M0) := by
                            intro M q227_0 hS bq227_0 k227_136_1 k227_137_p48_31200 k227_190_p48_310 k227_9030_0 tp227_0
                            clear k174_136_1 k174_137_p48_31200 k174_190_p48_310 k174_9030_0
                            refine Tr.istore_n (pc := 227) (i := 2) (ls2 := [(2, (0, q227_0)), (0, (2, 120)), (1, (0, r8)), (3, (0, p48_3)), (5, (1, p125_5)), (7, (0, q148_0)), (8, (0, q174_0))]) d_X12_never_227 rfl (by decide) rfl ?_
                            refine Tr.aload_n (pc := 228) (i := 0) d_X12_never_228 rfl rfl ?_
                            refine Tr.getf (pc := 229) d_X12_never_229 f_12_375 (by decide) (by decide) (ty_120 hS.1.1) ?_
                            refine Tr.tp 190 (fx_120_120 hS.1.1) ?_
                            refine Tr.iload (pc := 232) (i := 7) d_X12_never_232 rfl ?_
                            refine Tr.dup2 (pc := 234) d_X12_never_234 ne01 ne21 ?_
                            refine Tr.lald (pc := 235) d_X12_never_235 (ty_190 hS.1.1) (by omega) (by omega) ?_
                            refine Tr.gen (P := fun v => (-9223372036854775808) ≤ v ∧ v ≤ 9223372036854775807) (ar_190 hS.1.2.1 _) (fun r235 er235 br235 => ?_)
                            refine Tr.lload (pc := 236) (i := 5) d_X12_never_236 rfl ?_
                            refine Tr.lor (pc := 238) d_X12_never_238 ?_
                            refine Tr.gen (P := fun v => (-9223372036854775808) ≤ v ∧ v ≤ 9223372036854775807) (i64_b _) (fun r238 er238 br238 => ?_)
                            have hV9 := hS.1.2.1
                            refine Tr.lastS (pc := 239) (P := St Tru ws_X12_never_120_w1 as_X12_never_120_w1 M0) d_X12_never_239 (ty_190 hS.1.1) (by omega) (by omega) (sa_190 hS (by decide) (by omega) trivial) (fun M239 hS w239 => ?_)
                            refine Tr.aload_n (pc := 240) (i := 0) d_X12_never_240 rfl rfl ?_
                            refine Tr.getf (pc := 241) d_X12_never_241 f_12_375 (by decide) (by decide) (ty_120 hS.1.1) ?_
                            refine Tr.tp 190 (fx_120_120 hS.1.1) ?_
                            refine Tr.iload (pc := 244) (i := 8) d_X12_never_244 rfl ?_
                            refine Tr.dup2 (pc := 246) d_X12_never_246 ne01 ne21 ?_
                            refine Tr.lald (pc := 247) d_X12_never_247 (ty_190 hS.1.1) (by omega) (by omega) ?_
                            refine Tr.gen (P := fun v => (-9223372036854775808) ≤ v ∧ v ≤ 9223372036854775807) (ar_190 hS.1.2.1 _) (fun r247 er247 br247 => ?_)
                            refine Tr.lload (pc := 248) (i := 5) d_X12_never_248 rfl ?_
                            refine Tr.lor (pc := 250) d_X12_never_250 ?_
                            refine Tr.gen (P := fun v => (-9223372036854775808) ≤ v ∧ v ≤ 9223372036854775807) (i64_b _) (fun r250 er250 br250 => ?_)
                            have hV8 := hS.1.2.1
                            refine Tr.lastS (pc := 251) (P := St Tru ws_X12_never_120_w1 as_X12_never_120_w1 M0) d_X12_never_251 (ty_190 hS.1.1) (by omega) (by omega) (sa_190 hS (by decide) (by omega) trivial) (fun M251 hS w251 => ?_)
                            obtain ⟨v251_9030, ev251_9030⟩ : ∃ v, cmv M251 = v := ⟨_, rfl⟩
                            have bv251_9030 : 0 ≤ v251_9030 ∧ v251_9030 ≤ 12864 := by rw [← ev251_9030]; exact cmv_b hS.1.2.1
                            have fv251_9030 := cm_two tp227_0 w239 w251 (by rw [er235]; exact er238) (by rw [er247]; exact er250) hV9 hV8 (by omega) (by omega) (by omega) (by omega)
                            rw [ev251_9030, show cmv M = u48_9030_0 from k227_9030_0] at fv251_9030
                            have fv251_9030d0 := hd_i fv251_9030.2
                            replace fv251_9030 := fv251_9030.1
                            refine Tr.iincV (pc := 252) (n2 := (p48_3 + 1)) (ls2 := [(3, (0, (p48_3 + 1))), (2, (0, q227_0)), (0, (2, 120)), (1, (0, r8)), (5, (1, p125_5)), (7, (0, q148_0)), (8, (0, q174_0))]) d_X12_never_252 rfl (by decide) ((w32_id (by and_intros <;> omega)).trans (by omega)) rfl ?_
                            refine Tr.goto (pc := 255) (tgt := 48) d_X12_never_255 rfl ?_
                            refine Tr.pick [2, 3, 1, 0] (ls2 := [(0, (2, 120)), (1, (0, r8)), (2, (0, q227_0)), (3, (0, (p48_3 + 1)))]) rfl ?_
                            exact J48 _ _ _ _ hS (by and_intros <;> omega) (by and_intros <;> omega) (by and_intros <;> omega) ((Wr.b w251 rfl).trans ((Wr.b w239 rfl).trans k227_136_1)) ev251_9030 (by omega) (by exact (hd_o fv251_9030d0).elim (fun h1 => by omega) (fun h1 => h1.elim (fun h1 => (ne_o h1).elim (fun h2 => by omega) (fun h2 => (hd_o t48_1).elim (fun h3 => by omega) (fun h3 => by omega))) (fun h1 => by omega))) (by omega) (me_lt hm48 (by omega) (by omega))
                          have J222 : ∀ (M : Mem), St Tru ws_X12_never_120_w1 as_X12_never_120_w1 M0 M → rd M 136 1 = r8 → rd M 137 (p48_3 + 200) = r79 → rd M 190 p48_3 = r70 → cmv M = u48_9030_0 → (p48_2 ≠ 0 ∨ Nv M q148_0 q174_0 p125_5) → Tr l K 1 mX12_never 222 [(0, (2, 120)), (1, (0, r8)), (3, (0, p48_3)), (5, (1, p125_5)), (7, (0, q148_0)), (8, (0, q174_0))] [] M (q_X12_never_120_w1 M0) := by
                            intro M  hS  k222_136_1 k222_137_p48_31200 k222_190_p48_310 k222_9030_0 tp222_0
                            clear k174_136_1 k174_137_p48_31200 k174_190_p48_310 k174_9030_0
                            refine Tr.iconst (pc := 222) d_X12_never_222 (by decide) ?_
                            refine Tr.goto (pc := 223) (tgt := 227) d_X12_never_223 rfl ?_
                            refine Tr.pick [0, 1, 2, 3, 4, 5] (ls2 := [(0, (2, 120)), (1, (0, r8)), (3, (0, p48_3)), (5, (1, p125_5)), (7, (0, q148_0)), (8, (0, q174_0))]) rfl ?_
                            exact J227 _ _ hS (by omega) k222_136_1 k222_137_p48_31200 k222_190_p48_310 k222_9030_0 (Or.inr tp222_0)
                          refine Tr.if_ne (pc := 177) (tgt := 222) d_X12_never_177 rfl (fun c177 => ?_) (fun c177 => ?_)
                          · have c177b : 1 ≤ p48_2 ∧ p48_2 ≤ 1 := by omega
                            replace c177 := hd_i c177
                            refine Tr.pick [1, 2, 4, 5, 6, 0] (ls2 := [(0, (2, 120)), (1, (0, r8)), (3, (0, p48_3)), (5, (1, p125_5)), (7, (0, q148_0)), (8, (0, q174_0))]) rfl ?_
                            exact J222 _ hS k174_136_1 k174_137_p48_31200 k174_190_p48_310 k174_9030_0 (Or.inl (by omega))
                          · refine Tr.aload_n (pc := 180) (i := 0) d_X12_never_180 rfl rfl ?_
                            refine Tr.getf (pc := 181) d_X12_never_181 f_12_375 (by decide) (by decide) (ty_120 hS.1.1) ?_
                            refine Tr.tp 190 (fx_120_120 hS.1.1) ?_
                            refine Tr.iload (pc := 184) (i := 7) d_X12_never_184 rfl ?_
                            refine Tr.lald (pc := 186) d_X12_never_186 (ty_190 hS.1.1) (by omega) (by omega) ?_
                            refine Tr.gen (P := fun v => (-9223372036854775808) ≤ v ∧ v ≤ 9223372036854775807) (ar_190 hS.1.2.1 _) (fun r186 er186 br186 => ?_)
                            refine Tr.lload (pc := 187) (i := 5) d_X12_never_187 rfl ?_
                            refine Tr.lor (pc := 189) d_X12_never_189 ?_
                            refine Tr.gen (P := fun v => (-9223372036854775808) ≤ v ∧ v ≤ 9223372036854775807) (i64_b _) (fun r189 er189 br189 => ?_)
                            refine Tr.aload_n (pc := 190) (i := 0) d_X12_never_190 rfl rfl ?_
                            refine Tr.getf (pc := 191) d_X12_never_191 f_12_375 (by decide) (by decide) (ty_120 hS.1.1) ?_
                            refine Tr.tp 190 (fx_120_120 hS.1.1) ?_
                            refine Tr.iload (pc := 194) (i := 7) d_X12_never_194 rfl ?_
                            refine Tr.lald (pc := 196) d_X12_never_196 (ty_190 hS.1.1) (by omega) (by omega) ?_
                            refine Tr.tp r186 er186 ?_
                            refine Tr.lcmp (pc := 197) d_X12_never_197 ?_
                            refine Tr.gen (P := fun v => (v = 1 ∧ r186 < r189) ∨ (v = 0 ∧ r189 = r186) ∨ (v = -1 ∧ r189 < r186)) (f_lcmp_c _ _) (fun r197 er197 br197 => ?_)
                            replace br197 := hd_i br197
                            refine Tr.if_ne (pc := 198) (tgt := 222) d_X12_never_198 rfl (fun c198 => ?_) (fun c198 => ?_)
                            · replace c198 := hd_i c198
                              refine Tr.pick [1, 2, 4, 5, 6, 0] (ls2 := [(0, (2, 120)), (1, (0, r8)), (3, (0, p48_3)), (5, (1, p125_5)), (7, (0, q148_0)), (8, (0, q174_0))]) rfl ?_
                              exact J222 _ hS k174_136_1 k174_137_p48_31200 k174_190_p48_310 k174_9030_0 (Or.inr (Or.inl (by rw [er186, er189]; exact (by exact (ne_o (hd_o c198)).elim (fun h1 => (hd_o br197).elim (fun h2 => by omega) (fun h2 => h2.elim (fun h2 => by omega) (fun h2 => by omega))) (fun h1 => (hd_o br197).elim (fun h2 => by omega) (fun h2 => h2.elim (fun h2 => by omega) (fun h2 => by omega)))))))
                            · refine Tr.aload_n (pc := 201) (i := 0) d_X12_never_201 rfl rfl ?_
                              refine Tr.getf (pc := 202) d_X12_never_202 f_12_375 (by decide) (by decide) (ty_120 hS.1.1) ?_
                              refine Tr.tp 190 (fx_120_120 hS.1.1) ?_
                              refine Tr.iload (pc := 205) (i := 8) d_X12_never_205 rfl ?_
                              refine Tr.lald (pc := 207) d_X12_never_207 (ty_190 hS.1.1) (by omega) (by omega) ?_
                              refine Tr.gen (P := fun v => (-9223372036854775808) ≤ v ∧ v ≤ 9223372036854775807) (ar_190 hS.1.2.1 _) (fun r207 er207 br207 => ?_)
                              refine Tr.lload (pc := 208) (i := 5) d_X12_never_208 rfl ?_
                              refine Tr.lor (pc := 210) d_X12_never_210 ?_
                              refine Tr.gen (P := fun v => (-9223372036854775808) ≤ v ∧ v ≤ 9223372036854775807) (i64_b _) (fun r210 er210 br210 => ?_)
                              refine Tr.aload_n (pc := 211) (i := 0) d_X12_never_211 rfl rfl ?_
                              refine Tr.getf (pc := 212) d_X12_never_212 f_12_375 (by decide) (by decide) (ty_120 hS.1.1) ?_
                              refine Tr.tp 190 (fx_120_120 hS.1.1) ?_
                              refine Tr.iload (pc := 215) (i := 8) d_X12_never_215 rfl ?_
                              refine Tr.lald (pc := 217) d_X12_never_217 (ty_190 hS.1.1) (by omega) (by omega) ?_
                              refine Tr.tp r207 er207 ?_
                              refine Tr.lcmp (pc := 218) d_X12_never_218 ?_
                              refine Tr.gen (P := fun v => (v = 1 ∧ r207 < r210) ∨ (v = 0 ∧ r210 = r207) ∨ (v = -1 ∧ r210 < r207)) (f_lcmp_c _ _) (fun r218 er218 br218 => ?_)
                              replace br218 := hd_i br218
                              refine Tr.if_eq (pc := 219) (tgt := 226) d_X12_never_219 rfl (fun c219 => ?_) (fun c219 => ?_)
                              · refine Tr.iconst (pc := 226) d_X12_never_226 (by decide) ?_
                                refine Tr.pick [1, 2, 4, 5, 6, 0] (ls2 := [(0, (2, 120)), (1, (0, r8)), (3, (0, p48_3)), (5, (1, p125_5)), (7, (0, q148_0)), (8, (0, q174_0))]) rfl ?_
                                exact J227 _ _ hS (by omega) k174_136_1 k174_137_p48_31200 k174_190_p48_310 k174_9030_0 (Or.inl rfl)
                              · replace c219 := hd_i c219
                                refine Tr.pick [1, 2, 4, 5, 6, 0] (ls2 := [(0, (2, 120)), (1, (0, r8)), (3, (0, p48_3)), (5, (1, p125_5)), (7, (0, q148_0)), (8, (0, q174_0))]) rfl ?_
                                exact J222 _ hS k174_136_1 k174_137_p48_31200 k174_190_p48_310 k174_9030_0 (Or.inr (Or.inr (by rw [show rd M 190 q174_0 = r207 from er207, er210]; exact (by exact (ne_o (hd_o c219)).elim (fun h1 => (hd_o br218).elim (fun h2 => by omega) (fun h2 => h2.elim (fun h2 => by omega) (fun h2 => by omega))) (fun h1 => (hd_o br218).elim (fun h2 => by omega) (fun h2 => h2.elim (fun h2 => by omega) (fun h2 => by omega)))))))
                        refine Tr.icmp_lt (pc := 159) (tgt := 172) d_X12_never_159 rfl (fun c159 => ?_) (fun c159 => ?_)
                        · refine Tr.iload (pc := 172) (i := 7) d_X12_never_172 rfl ?_
                          refine Tr.pick [1, 2, 3, 4, 6, 0] (ls2 := [(0, (2, 120)), (1, (0, r8)), (2, (0, p48_2)), (3, (0, p48_3)), (5, (1, p125_5)), (7, (0, q148_0))]) rfl ?_
                          exact J174 _ _ hS (by and_intros <;> omega) k148_136_1 k148_137_p48_31200 k148_190_p48_310 k148_9030_0
                        · refine Tr.aload_n (pc := 162) (i := 0) d_X12_never_162 rfl rfl ?_
                          refine Tr.getf (pc := 163) d_X12_never_163 f_12_112 (by decide) (by decide) (ty_120 hS.1.1) ?_
                          refine Tr.tp 142 (fx_120_33 hS.1.1) ?_
                          refine Tr.iload (pc := 166) (i := 4) d_X12_never_166 rfl ?_
                          refine Tr.iald (pc := 168) d_X12_never_168 (ty_142 hS.1.1) (by omega) (by omega) ?_
                          refine Tr.gen (P := fun v => 0 ≤ v ∧ v ≤ 200) (ar_142 hS.1.2.1 _) (fun r168 er168 br168 => ?_)
                          refine Tr.goto (pc := 169) (tgt := 174) d_X12_never_169 rfl ?_
                          refine Tr.pick [1, 2, 3, 4, 6, 0] (ls2 := [(0, (2, 120)), (1, (0, r8)), (2, (0, p48_2)), (3, (0, p48_3)), (5, (1, p125_5)), (7, (0, q148_0))]) rfl ?_
                          exact J174 _ _ hS (by and_intros <;> omega) k148_136_1 k148_137_p48_31200 k148_190_p48_310 k148_9030_0
                      refine Tr.if_ne (pc := 132) (tgt := 145) d_X12_never_132 rfl (fun c132 => ?_) (fun c132 => ?_)
                      · have c132b : 1 ≤ r79 ∧ r79 ≤ 8 := by omega
                        replace c132 := hd_i c132
                        refine Tr.iload_n (pc := 145) (i := 3) d_X12_never_145 rfl rfl ?_
                        refine Tr.iconst (pc := 146) d_X12_never_146 (by decide) ?_
                        refine Tr.iadd (pc := 147) d_X12_never_147 ?_
                        refine Tr.tp (p48_3 + 1) ((w32_id (by and_intros <;> omega)).trans (by omega)) ?_
                        refine Tr.pick [0, 1, 2, 3, 4, 5] (ls2 := [(0, (2, 120)), (1, (0, r8)), (2, (0, p48_2)), (3, (0, p48_3)), (4, (0, (p48_3 + 200))), (5, (1, p125_5))]) rfl ?_
                        exact J148 _ _ hS (by and_intros <;> omega) k125_136_1 k125_137_p48_31200 k125_190_p48_310 k125_9030_0
                      · refine Tr.aload_n (pc := 135) (i := 0) d_X12_never_135 rfl rfl ?_
                        refine Tr.getf (pc := 136) d_X12_never_136 f_12_112 (by decide) (by decide) (ty_120 hS.1.1) ?_
                        refine Tr.tp 142 (fx_120_33 hS.1.1) ?_
                        refine Tr.iload (pc := 139) (i := 4) d_X12_never_139 rfl ?_
                        refine Tr.iald (pc := 141) d_X12_never_141 (ty_142 hS.1.1) (by omega) (by omega) ?_
                        refine Tr.gen (P := fun v => 0 ≤ v ∧ v ≤ 200) (ar_142 hS.1.2.1 _) (fun r141 er141 br141 => ?_)
                        refine Tr.goto (pc := 142) (tgt := 148) d_X12_never_142 rfl ?_
                        refine Tr.pick [0, 1, 2, 3, 4, 5] (ls2 := [(0, (2, 120)), (1, (0, r8)), (2, (0, p48_2)), (3, (0, p48_3)), (4, (0, (p48_3 + 200))), (5, (1, p125_5))]) rfl ?_
                        exact J148 _ _ hS (by and_intros <;> omega) k125_136_1 k125_137_p48_31200 k125_190_p48_310 k125_9030_0
                    have J95 : ∀ (M : Mem), St Tru ws_X12_never_120_w1 as_X12_never_120_w1 M0 M → (3 ≤ r79 ∧ r79 ≤ 4) → rd M 136 1 = r8 → rd M 137 (p48_3 + 200) = r79 → rd M 190 p48_3 = r70 → cmv M = u48_9030_0 → Tr l K 1 mX12_never 95 [(0, (2, 120)), (1, (0, r8)), (2, (0, p48_2)), (3, (0, p48_3)), (4, (0, (p48_3 + 200))), (5, (1, r70))] [] M (q_X12_never_120_w1 M0) := by
                      intro M  hS z95r79 k95_136_1 k95_137_p48_31200 k95_190_p48_310 k95_9030_0
                      clear k48_136_1 k48_9030_0 er70 er79
                      refine Tr.lload (pc := 95) (i := 5) d_X12_never_95 rfl ?_
                      refine Tr.aload_n (pc := 97) (i := 0) d_X12_never_97 rfl rfl ?_
                      refine Tr.getf (pc := 98) d_X12_never_98 f_12_103 (by decide) (by decide) (ty_120 hS.1.1) ?_
                      refine Tr.tp 139 (fx_120_30 hS.1.1) ?_
                      refine Tr.iload (pc := 101) (i := 4) d_X12_never_101 rfl ?_
                      refine Tr.iald (pc := 103) d_X12_never_103 (ty_139 hS.1.1) (by omega) (by omega) ?_
                      refine Tr.gen (P := fun v => (-1) ≤ v ∧ v ≤ 5) (ar_139 hS.1.2.1 _) (fun r103 er103 br103 => ?_)
                      refine Tr.aload_n (pc := 104) (i := 0) d_X12_never_104 rfl rfl ?_
                      refine Tr.getf (pc := 105) d_X12_never_105 f_12_97 (by decide) (by decide) (ty_120 hS.1.1) ?_
                      refine Tr.tp 137 (fx_120_28 hS.1.1) ?_
                      refine Tr.iload (pc := 108) (i := 4) d_X12_never_108 rfl ?_
                      refine Tr.iald (pc := 110) d_X12_never_110 (ty_137 hS.1.1) (by omega) (by omega) ?_
                      refine Tr.tp r79 k95_137_p48_31200 ?_
                      refine Tr.iconst (pc := 111) d_X12_never_111 (by decide) ?_
                      have J120 : ∀ (M : Mem) (q120_2 : Int), St Tru ws_X12_never_120_w1 as_X12_never_120_w1 M0 M → (0 ≤ q120_2 ∧ q120_2 ≤ 1) → rd M 136 1 = r8 → rd M 137 (p48_3 + 200) = r79 → rd M 139 (p48_3 + 200) = r103 → rd M 190 p48_3 = r70 → cmv M = u48_9030_0 → Tr l K 1 mX12_never 120 [(0, (2, 120)), (1, (0, r8)), (2, (0, p48_2)), (3, (0, p48_3)), (4, (0, (p48_3 + 200)))] [(0, q120_2), (0, r103), (1, r70)] M (q_X12_never_120_w1 M0) := by
                        intro M q120_2 hS bq120_2 k120_136_1 k120_137_p48_31200 k120_139_p48_31200 k120_190_p48_310 k120_9030_0
                        clear k95_136_1 k95_137_p48_31200 k95_190_p48_310 k95_9030_0 er103
                        refine Tr.callS (pc := 120) (as := [_, _, _]) d_X12_never_120 s_12_692 ok_X12_moved rfl rfl (Nat.le_of_ble_eq_true rfl) (Nat.le_of_ble_eq_true rfl) ?_
                        refine Tr.imp (Tr.deep (by decide) (sp_X12_moved hS.1 r70 (by omega) r103 (by and_intros <;> omega) q120_2 (by and_intros <;> omega))) ?_
                        rintro M120 _ ⟨h120, r120, rfl, lr120, ur120⟩
                        have hS := St.tr hS h120 (by decide) (by decide)
                        refine Tr.sc [(1, r120)] rfl ?_
                        refine Tr.lstore (pc := 123) (i := 5) (ls2 := [(5, (1, r120)), (0, (2, 120)), (1, (0, r8)), (2, (0, p48_2)), (3, (0, p48_3)), (4, (0, (p48_3 + 200)))]) d_X12_never_123 (by decide) rfl ?_
                        refine Tr.pick [1, 2, 3, 4, 5, 0] (ls2 := [(0, (2, 120)), (1, (0, r8)), (2, (0, p48_2)), (3, (0, p48_3)), (4, (0, (p48_3 + 200))), (5, (1, r120))]) rfl ?_
                        exact J125 _ _ hS (by omega) ((kp_X12_moved_136_1 h120).trans k120_136_1) ((ka_X12_moved_137 h120 _).trans k120_137_p48_31200) ((ka_X12_moved_190 h120 _).trans k120_190_p48_310) ((cmv_of (fun j => ((ka_X12_moved_190 h120 _).trans rfl))).trans k120_9030_0)
                      refine Tr.icmp_ne (pc := 112) (tgt := 119) d_X12_never_112 rfl (fun c112 => ?_) (fun c112 => ?_)
                      · have c112b : 4 ≤ r79 ∧ r79 ≤ 4 := by omega
                        replace c112 := hd_i c112
                        refine Tr.iconst (pc := 119) d_X12_never_119 (by decide) ?_
                        refine Tr.pick [0, 1, 2, 3, 4] (ls2 := [(0, (2, 120)), (1, (0, r8)), (2, (0, p48_2)), (3, (0, p48_3)), (4, (0, (p48_3 + 200)))]) rfl ?_
                        exact J120 _ _ hS (by omega) k95_136_1 k95_137_p48_31200 er103 k95_190_p48_310 k95_9030_0
                      · refine Tr.iconst (pc := 115) d_X12_never_115 (by decide) ?_
                        refine Tr.goto (pc := 116) (tgt := 120) d_X12_never_116 rfl ?_
                        refine Tr.pick [0, 1, 2, 3, 4] (ls2 := [(0, (2, 120)), (1, (0, r8)), (2, (0, p48_2)), (3, (0, p48_3)), (4, (0, (p48_3 + 200)))]) rfl ?_
                        exact J120 _ _ hS (by omega) k95_136_1 k95_137_p48_31200 er103 k95_190_p48_310 k95_9030_0
                    refine Tr.icmp_eq (pc := 81) (tgt := 95) d_X12_never_81 rfl (fun c81 => ?_) (fun c81 => ?_)
                    · refine Tr.pick [2, 3, 4, 5, 1, 0] (ls2 := [(0, (2, 120)), (1, (0, r8)), (2, (0, p48_2)), (3, (0, p48_3)), (4, (0, (p48_3 + 200))), (5, (1, r70))]) rfl ?_
                      exact J95 _ hS (by and_intros <;> omega) k48_136_1 er79 er70 k48_9030_0
                    · replace c81 := hd_i c81
                      refine Tr.aload_n (pc := 84) (i := 0) d_X12_never_84 rfl rfl ?_
                      refine Tr.getf (pc := 85) d_X12_never_85 f_12_97 (by decide) (by decide) (ty_120 hS.1.1) ?_
                      refine Tr.tp 137 (fx_120_28 hS.1.1) ?_
                      refine Tr.iload (pc := 88) (i := 4) d_X12_never_88 rfl ?_
                      refine Tr.iald (pc := 90) d_X12_never_90 (ty_137 hS.1.1) (by omega) (by omega) ?_
                      refine Tr.tp r79 er79 ?_
                      refine Tr.iconst (pc := 91) d_X12_never_91 (by decide) ?_
                      refine Tr.icmp_ne (pc := 92) (tgt := 125) d_X12_never_92 rfl (fun c92 => ?_) (fun c92 => ?_)
                      · replace c92 := hd_i c92
                        refine Tr.pick [2, 3, 4, 5, 1, 0] (ls2 := [(0, (2, 120)), (1, (0, r8)), (2, (0, p48_2)), (3, (0, p48_3)), (4, (0, (p48_3 + 200))), (5, (1, r70))]) rfl ?_
                        exact J125 _ _ hS (by omega) k48_136_1 er79 er70 k48_9030_0
                      · refine Tr.pick [2, 3, 4, 5, 1, 0] (ls2 := [(0, (2, 120)), (1, (0, r8)), (2, (0, p48_2)), (3, (0, p48_3)), (4, (0, (p48_3 + 200))), (5, (1, r70))]) rfl ?_
                        exact J95 _ hS (by and_intros <;> omega) k48_136_1 er79 er70 k48_9030_0
              refine Tr.pick [2, 3, 1, 0] (ls2 := [(0, (2, 120)), (1, (0, r8)), (2, (0, 0)), (3, (0, 0))]) rfl ?_
              exact J48 _ _ _ _ _ hS (by omega) (by omega) (by and_intros <;> omega) k40_136_1 k40_9030_0 (by omega) (by omega) (by omega) (Nat.lt_succ_self _)
        refine Tr.pick [1, 2, 0] (ls2 := [(0, (2, 120)), (1, (0, r8)), (2, (0, 1))]) rfl ?_
        exact J40 _ _ _ _ hS (by omega) (by and_intros <;> omega) k12_136_1 k12_9030_0 (by omega) (Nat.lt_succ_self _)
      · refine Tr.aload_n (pc := 17) (i := 0) d_X12_never_17 rfl rfl ?_
        refine Tr.getf (pc := 18) d_X12_never_18 f_12_375 (by decide) (by decide) (ty_120 hS.1.1) ?_
        refine Tr.tp 190 (fx_120_120 hS.1.1) ?_
        refine Tr.iload_n (pc := 21) (i := 2) d_X12_never_21 rfl rfl ?_
        refine Tr.iload_n (pc := 22) (i := 2) d_X12_never_22 rfl rfl ?_
        have J31 : ∀ (M : Mem) (q31_2 : Int), St Tru ws_X12_never_120_w1 as_X12_never_120_w1 M0 M → (0 ≤ q31_2 ∧ q31_2 ≤ 1) → rd M 136 1 = r8 → cmv M = u12_9030_0 → Tr l K 1 mX12_never 31 [(0, (2, 120)), (1, (0, r8)), (2, (0, p12_2))] [(1, q31_2), (0, p12_2), (2, 190)] M (q_X12_never_120_w1 M0) := by
          intro M q31_2 hS bq31_2 k31_136_1 k31_9030_0
          clear k12_136_1 k12_9030_0
          refine Tr.lastS (pc := 31) (P := St Tru ws_X12_never_120_w1 as_X12_never_120_w1 M0) d_X12_never_31 (ty_190 hS.1.1) (by omega) (by omega) (sa_190 hS (by decide) (by omega) trivial) (fun M31 hS w31 => ?_)
          refine Tr.iincV (pc := 32) (n2 := (p12_2 + 1)) (ls2 := [(2, (0, (p12_2 + 1))), (0, (2, 120)), (1, (0, r8))]) d_X12_never_32 rfl (by decide) ((w32_id (by and_intros <;> omega)).trans (by omega)) rfl ?_
          refine Tr.goto (pc := 35) (tgt := 12) d_X12_never_35 rfl ?_
          refine Tr.pick [1, 2, 0] (ls2 := [(0, (2, 120)), (1, (0, r8)), (2, (0, (p12_2 + 1)))]) rfl ?_
          obtain ⟨w12p35_9030_0, ew12p35_9030_0⟩ : ∃ v, cmv M31 = v := ⟨_, rfl⟩
          have bw12p35_9030_0 : 0 ≤ w12p35_9030_0 ∧ w12p35_9030_0 ≤ 12864 := by rw [← ew12p35_9030_0]; exact (cmv_b hS.1.2.1)
          exact J12 _ _ _ hS (by and_intros <;> omega) (by and_intros <;> omega) ((Wr.b w31 rfl).trans k31_136_1) ew12p35_9030_0 (me_lt hm12 (by omega) (by omega))
        refine Tr.if_ne (pc := 23) (tgt := 30) d_X12_never_23 rfl (fun c23 => ?_) (fun c23 => ?_)
        · have c23b : 1 ≤ p12_2 ∧ p12_2 ≤ 200 := by omega
          replace c23 := hd_i c23
          refine Tr.lconst (pc := 30) (v := 0) d_X12_never_30 rfl (by decide) ?_
          refine Tr.pick [0, 1, 2] (ls2 := [(0, (2, 120)), (1, (0, r8)), (2, (0, p12_2))]) rfl ?_
          exact J31 _ _ hS (by omega) k12_136_1 k12_9030_0
        · refine Tr.lconst (pc := 26) (v := 1) d_X12_never_26 rfl (by decide) ?_
          refine Tr.goto (pc := 27) (tgt := 31) d_X12_never_27 rfl ?_
          refine Tr.pick [0, 1, 2] (ls2 := [(0, (2, 120)), (1, (0, r8)), (2, (0, p12_2))]) rfl ?_
          exact J31 _ _ hS (by omega) k12_136_1 k12_9030_0
  refine Tr.pick [2, 1, 0] (ls2 := [(0, (2, 120)), (1, (0, r8)), (2, (0, 0))]) rfl ?_
  exact J12 _ _ _ _ hS (by omega) (by and_intros <;> omega) er8 eg9030_0 (Nat.lt_succ_self _)
end
