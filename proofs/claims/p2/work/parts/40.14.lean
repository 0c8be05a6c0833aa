set_option maxRecDepth 100000 in
set_option maxHeartbeats 4000000 in
theorem ns_X12_statement_120_w1 {l : Launch} {K : EC} {M0 : Mem} {G120_3 G120_4 G120_5 G120_7 G120_8 G120_36 G120_44 G120_50 G129_0 G136_0 G9006_0 G9010_0 : Int} (hI : In Pm0 M0) (k120_3 : rd M0 120 3 = G120_3) (k120_4 : rd M0 120 4 = G120_4) (k120_5 : rd M0 120 5 = G120_5) (k120_7 : rd M0 120 7 = G120_7) (k120_8 : rd M0 120 8 = G120_8) (k120_36 : rd M0 120 36 = G120_36) (k120_44 : rd M0 120 44 = G120_44) (k120_50 : rd M0 120 50 = G120_50) (k129_0 : rd M0 129 0 = G129_0) (k136_0 : rd M0 136 0 = G136_0) (k9006_0 : nwv M0 = G9006_0) (k9010_0 : tav M0 = G9010_0) (en_120_37 : rd M0 120 37 = 0)   (hq0 : G120_3 = 0 ∨ G120_4 + 1 ≤ G120_5) (hq1 : G120_4 ≤ G120_5) (hq2 : G120_3 ≠ 1 ∨ G120_4 + 2 ≤ G120_5 ∨ G120_7 < 256) (hq3 : G120_8 = 0) (hq4 : G120_50 ≤ G120_44) (hq5 : G136_0 + G9006_0 ≤ 2 * G129_0) (hq6 : G120_36 + G120_44 ≤ G120_4) : Tr l K 5 mX12_statement 0 [(0, (2, 120))] [] M0 (fun M' r => St Pm0 ws_X12_statement_120_w1 as_X12_statement_120_w1 M0 M' ∧ ∃ S120_3 S120_4 S120_5 S120_7 S120_8 S120_36 S120_44 S120_50 S129_0 S136_0 S9006_0 S9010_0 : Int, rd M' 120 3 = S120_3 ∧ (0 ≤ S120_3 ∧ S120_3 ≤ 3) ∧ rd M' 120 4 = S120_4 ∧ (0 ≤ S120_4 ∧ S120_4 ≤ 900) ∧ rd M' 120 5 = S120_5 ∧ (0 ≤ S120_5 ∧ S120_5 ≤ 900) ∧ rd M' 120 7 = S120_7 ∧ ((-9223372036854775808) ≤ S120_7 ∧ S120_7 ≤ 9223372036854775807) ∧ rd M' 120 8 = S120_8 ∧ (0 ≤ S120_8 ∧ S120_8 ≤ 5) ∧ rd M' 120 36 = S120_36 ∧ (0 ≤ S120_36 ∧ S120_36 ≤ 900) ∧ rd M' 120 44 = S120_44 ∧ (0 ≤ S120_44 ∧ S120_44 ≤ 8) ∧ rd M' 120 50 = S120_50 ∧ (0 ≤ S120_50 ∧ S120_50 ≤ 20) ∧ rd M' 129 0 = S129_0 ∧ (0 ≤ S129_0 ∧ S129_0 ≤ 60) ∧ rd M' 136 0 = S136_0 ∧ (0 ≤ S136_0 ∧ S136_0 ≤ 200) ∧ nwv M' = S9006_0 ∧ (0 ≤ S9006_0 ∧ S9006_0 ≤ 20) ∧ tav M' = S9010_0 ∧ ((-1) ≤ S9010_0 ∧ S9010_0 ≤ 1800) ∧ r = none ∧ Hd (S120_3 = 0 ∨ S120_4 + 1 ≤ S120_5) ∧ (S120_4 ≤ S120_5) ∧ Hd (S120_3 ≠ 1 ∨ S120_4 + 2 ≤ S120_5 ∨ S120_7 < 256) ∧ (G120_4 ≤ S120_4 ∧ G120_5 ≤ S120_5 ∧ G9010_0 ≤ S9010_0) ∧ Hd (G120_8 = 0 ∨ S120_8 = G120_8) ∧ Hd (1 ≤ S120_8 ∨ G9010_0 < S9010_0) ∧ Hd (1 ≤ S120_8 ∨ S136_0 + S9006_0 ≤ 2 * S129_0) ∧ (S120_50 ≤ S120_44) ∧ (S120_36 + S120_44 ≤ S120_4)) := by
  subst k120_3
  subst k120_4
  subst k120_5
  subst k120_7
  subst k120_8
  subst k120_36
  subst k120_44
  subst k120_50
  subst k129_0
  subst k136_0
  subst k9006_0
  subst k9010_0
  refine Tr.imp (sp_X12_statement_120_w1 hI en_120_37 hq0 hq1 hq2 hq3 hq4 hq5 hq6) ?_
  rintro M' _ ⟨hS, rfl, z0, z1, z2, z3, z4, z5, z6, z7, z8⟩
  exact ⟨hS, _, _, _, _, _, _, _, _, _, _, _, _, rfl, ir_120_3 hS.1.2.1, rfl, ir_120_4 hS.1.2.1, rfl, ir_120_5 hS.1.2.1, rfl, ir_120_7 hS.1.2.1, rfl, ir_120_8 hS.1.2.1, rfl, ir_120_36 hS.1.2.1, rfl, ir_120_44 hS.1.2.1, rfl, ir_120_50 hS.1.2.1, rfl, ir_129_0 hS.1.2.1, rfl, ir_136_0 hS.1.2.1, rfl, (nwv_b hS.1.2.1), rfl, (tav_b hS.1.2.1), rfl, hd_i z0, z1, hd_i z2, z3, hd_i z4, hd_i z5, hd_i z6, z7, z8⟩

def ws_X12_closesBlock_120_w1 : List (Int × Int) := [(120, 3), (120, 4), (120, 5), (120, 6), (120, 7), (120, 8), (120, 9), (120, 44), (120, 50), (136, 0)]
def as_X12_closesBlock_120_w1 : List Int := [137, 138, 139, 140, 141, 142, 151, 152]
def q_X12_closesBlock_120_w1 (M0 M' : Mem) (r : Option PV) : Prop := St Pm0 ws_X12_closesBlock_120_w1 as_X12_closesBlock_120_w1 M0 M' ∧ r = none ∧ (rd M' 120 3 = 0 ∨ rd M' 120 4 + 1 ≤ rd M' 120 5) ∧ (rd M' 120 4 ≤ rd M' 120 5) ∧ (rd M' 120 3 ≠ 1 ∨ rd M' 120 4 + 2 ≤ rd M' 120 5 ∨ rd M' 120 7 < 256) ∧ (rd M0 120 4 ≤ rd M' 120 4 ∧ rd M0 120 5 ≤ rd M' 120 5 ∧ tav M0 ≤ tav M') ∧ (rd M0 120 8 = 0 ∨ rd M' 120 8 = rd M0 120 8) ∧ (1 ≤ rd M' 120 8 ∨ tav M0 < tav M') ∧ (rd M' 120 50 ≤ rd M' 120 44) ∧ (rd M' 136 0 + nwv M' ≤ 2 * rd M' 129 0) ∧ (rd M' 120 36 + rd M' 120 44 ≤ rd M' 120 4)
theorem kp_X12_closesBlock_120_w1_120_37 {q : Mem → Prop} {M0 M : Mem} (h : St q ws_X12_closesBlock_120_w1 as_X12_closesBlock_120_w1 M0 M) : rd M 120 37 = rd M0 120 37 := St.kp h (by decide) (by decide) (by decide)
theorem kp_X12_isWord_120_129_0 {q : Mem → Prop} {M0 M : Mem} (h : St q ws_X12_isWord_120 as_X12_isWord_120 M0 M) : rd M 129 0 = rd M0 129 0 := St.kp h (by decide) (by decide) (by decide)
theorem ka_X12_next_120_w1_152 {q : Mem → Prop} {M0 M : Mem} (h : St q ws_X12_next_120_w1 as_X12_next_120_w1 M0 M) (j : Int) : rd M 152 j = rd M0 152 j := St.ka h (by decide) (by decide) (by decide)
theorem kp_X12_spot_120_w1_120_4 {q : Mem → Prop} {M0 M : Mem} (h : St q ws_X12_spot_120_w1 as_X12_spot_120_w1 M0 M) : rd M 120 4 = rd M0 120 4 := St.kp h (by decide) (by decide) (by decide)
theorem kp_X12_spot_120_w1_120_7 {q : Mem → Prop} {M0 M : Mem} (h : St q ws_X12_spot_120_w1 as_X12_spot_120_w1 M0 M) : rd M 120 7 = rd M0 120 7 := St.kp h (by decide) (by decide) (by decide)
theorem ka_X12_spot_120_w1_152 {q : Mem → Prop} {M0 M : Mem} (h : St q ws_X12_spot_120_w1 as_X12_spot_120_w1 M0 M) (j : Int) : rd M 152 j = rd M0 152 j := St.ka h (by decide) (by decide) (by decide)
set_option maxRecDepth 100000 in
set_option maxHeartbeats 4000000 in
theorem sp_X12_closesBlock_120_w1 {l : Launch} {K : EC} {M0 : Mem} (hI : In Pm0 M0) (en_120_37 : rd M0 120 37 = 0)   (hq0 : rd M0 120 3 = 0 ∨ rd M0 120 4 + 1 ≤ rd M0 120 5) (hq1 : rd M0 120 4 ≤ rd M0 120 5) (hq2 : rd M0 120 3 ≠ 1 ∨ rd M0 120 4 + 2 ≤ rd M0 120 5 ∨ rd M0 120 7 < 256) (hq3 : 1 ≤ rd M0 120 50) (hq4 : rd M0 120 50 ≤ rd M0 120 44) (hq5 : rd M0 136 0 + nwv M0 ≤ 2 * rd M0 129 0) (hq6 : rd M0 120 3 ≠ 0) (hq7 : rd M0 120 36 + rd M0 120 44 ≤ rd M0 120 4) (hq8 : rd M0 120 8 = 0) : Tr l K 3 mX12_closesBlock 0 [(0, (2, 120))] [] M0 (q_X12_closesBlock_120_w1 M0) := by
  have hS : St Pm0 ws_X12_closesBlock_120_w1 as_X12_closesBlock_120_w1 M0 M0 := St.rf hI
  obtain ⟨g120_8, eg120_8⟩ : ∃ v, rd M0 120 8 = v := ⟨_, rfl⟩
  have bg120_8 : 0 ≤ g120_8 ∧ g120_8 ≤ 5 := by rw [← eg120_8]; exact ir_120_8 hI.2.1
  obtain ⟨g120_3, eg120_3⟩ : ∃ v, rd M0 120 3 = v := ⟨_, rfl⟩
  have bg120_3 : 0 ≤ g120_3 ∧ g120_3 ≤ 3 := by rw [← eg120_3]; exact ir_120_3 hI.2.1
  obtain ⟨g120_4, eg120_4⟩ : ∃ v, rd M0 120 4 = v := ⟨_, rfl⟩
  have bg120_4 : 0 ≤ g120_4 ∧ g120_4 ≤ 900 := by rw [← eg120_4]; exact ir_120_4 hI.2.1
  obtain ⟨g120_5, eg120_5⟩ : ∃ v, rd M0 120 5 = v := ⟨_, rfl⟩
  have bg120_5 : 0 ≤ g120_5 ∧ g120_5 ≤ 900 := by rw [← eg120_5]; exact ir_120_5 hI.2.1
  obtain ⟨g120_7, eg120_7⟩ : ∃ v, rd M0 120 7 = v := ⟨_, rfl⟩
  have bg120_7 : (-9223372036854775808) ≤ g120_7 ∧ g120_7 ≤ 9223372036854775807 := by rw [← eg120_7]; exact ir_120_7 hI.2.1
  obtain ⟨g9010_0, eg9010_0⟩ : ∃ v, tav M0 = v := ⟨_, rfl⟩
  have bg9010_0 : (-1) ≤ g9010_0 ∧ g9010_0 ≤ 1800 := by rw [← eg9010_0]; exact (tav_b hI.2.1)
  obtain ⟨g120_44, eg120_44⟩ : ∃ v, rd M0 120 44 = v := ⟨_, rfl⟩
  have bg120_44 : 0 ≤ g120_44 ∧ g120_44 ≤ 8 := by rw [← eg120_44]; exact ir_120_44 hI.2.1
  obtain ⟨g120_50, eg120_50⟩ : ∃ v, rd M0 120 50 = v := ⟨_, rfl⟩
  have bg120_50 : 0 ≤ g120_50 ∧ g120_50 ≤ 20 := by rw [← eg120_50]; exact ir_120_50 hI.2.1
  obtain ⟨g136_0, eg136_0⟩ : ∃ v, rd M0 136 0 = v := ⟨_, rfl⟩
  have bg136_0 : 0 ≤ g136_0 ∧ g136_0 ≤ 200 := by rw [← eg136_0]; exact ir_136_0 hI.2.1
  obtain ⟨g9006_0, eg9006_0⟩ : ∃ v, nwv M0 = v := ⟨_, rfl⟩
  have bg9006_0 : 0 ≤ g9006_0 ∧ g9006_0 ≤ 20 := by rw [← eg9006_0]; exact (nwv_b hI.2.1)
  obtain ⟨g120_36, eg120_36⟩ : ∃ v, rd M0 120 36 = v := ⟨_, rfl⟩
  have bg120_36 : 0 ≤ g120_36 ∧ g120_36 ≤ 900 := by rw [← eg120_36]; exact ir_120_36 hI.2.1
  obtain ⟨g129_0, eg129_0⟩ : ∃ v, rd M0 129 0 = v := ⟨_, rfl⟩
  have bg129_0 : 0 ≤ g129_0 ∧ g129_0 ≤ 60 := by rw [← eg129_0]; exact ir_129_0 hI.2.1
  replace hq0 := hd_i hq0
  replace hq2 := hd_i hq2
  replace hq6 := hd_i hq6
  refine Tr.aload_n (pc := 0) (i := 0) d_X12_closesBlock_0 rfl rfl ?_
  refine Tr.dup (pc := 1) d_X12_closesBlock_1 ne21 ?_
  refine Tr.getf (pc := 2) d_X12_closesBlock_2 f_12_146 (by decide) (by decide) (ty_120 hS.1.1) ?_
  refine Tr.tp g120_44 eg120_44 ?_
  refine Tr.iconst (pc := 5) d_X12_closesBlock_5 (by decide) ?_
  refine Tr.isub (pc := 6) d_X12_closesBlock_6 ?_
  refine Tr.tp (g120_44 - 1) ((w32_id (by and_intros <;> omega)).trans (by omega)) ?_
  refine Tr.putfS (pc := 7) (P := St Pm0 ws_X12_closesBlock_120_w1 as_X12_closesBlock_120_w1 M0) d_X12_closesBlock_7 f_12_146 (by decide) (by decide) (ty_120 hS.1.1) (st_120_44 hS (by decide) (by and_intros <;> omega) (Pm0.of hS.1.2.2.2.2 (fun _ => rd_wb _ rfl) (fun _ => rd_wb _ rfl) (fun _ => rd_wb _ rfl) (fun _ => rd_wb _ rfl) (fun _ => rd_wb _ rfl) (fun _ => rd_wb _ rfl) (fun _ => rd_wb _ rfl) (fun _ => rd_wb _ rfl) (fun _ => rd_wb _ rfl) (fun _ => rd_wb _ rfl) (rd_wb _ rfl) (rd_wb _ rfl) (rd_wb _ rfl) (rd_wb _ rfl) (rd_wb _ rfl) (rd_wb _ rfl) (rd_wb _ rfl) (rd_wb _ rfl) (rd_wb _ rfl) (rd_wb _ rfl) (rd_wb _ rfl))) (fun M7 hS w7 => ?_)
  refine Tr.aload_n (pc := 10) (i := 0) d_X12_closesBlock_10 rfl rfl ?_
  refine Tr.dup (pc := 11) d_X12_closesBlock_11 ne21 ?_
  refine Tr.getf (pc := 12) d_X12_closesBlock_12 f_12_165 (by decide) (by decide) (ty_120 hS.1.1) ?_
  refine Tr.tp g120_50 ((Wr.b w7 rfl).trans eg120_50) ?_
  refine Tr.iconst (pc := 15) d_X12_closesBlock_15 (by decide) ?_
  refine Tr.isub (pc := 16) d_X12_closesBlock_16 ?_
  refine Tr.tp (g120_50 - 1) ((w32_id (by and_intros <;> omega)).trans (by omega)) ?_
  have kb17_120_50 : rd M7 120 50 = g120_50 := ((Wr.b w7 rfl).trans eg120_50)
  have kb17_136_0 : rd M7 136 0 = g136_0 := ((Wr.b w7 rfl).trans eg136_0)
  have hp9 := hS.1.2.2.2.2.2.2.2.2.2.2.2.2.2 (g120_50 - 1) (by omega) (by omega)
  rewrite [kb17_136_0] at hp9
  have kx_120_50 : rd M7 120 50 = g120_50 := ((Wr.b w7 rfl).trans eg120_50)
  refine Tr.putfS (pc := 17) (P := St Pm0 ws_X12_closesBlock_120_w1 as_X12_closesBlock_120_w1 M0) d_X12_closesBlock_17 f_12_165 (by decide) (by decide) (ty_120 hS.1.1) (st_120_50 hS (by decide) (by and_intros <;> omega) (Pm0_blm hS.1.2.2.2.2 hS.1.2.1 (by omega) (by omega))) (fun M17 hS w17 => ?_)
  obtain ⟨v17_9006, ev17_9006⟩ : ∃ v, nwv M17 = v := ⟨_, rfl⟩
  have bv17_9006 : 0 ≤ v17_9006 ∧ v17_9006 ≤ 20 := by rw [← ev17_9006]; exact (nwv_b hS.1.2.1)
  have fv17_9006 : (rd M17 151 (g120_50 - 1) = 1 ∧ g9006_0 = v17_9006) ∨ (rd M17 151 (g120_50 - 1) ≠ 1 ∧ g9006_0 = v17_9006 + 1) := by have h8 := ct_pop (x := 151) (j := 50) (e := 1) (a := 0) (b := 1) (M := M7) (M2 := M17) (n := g120_50) (((Wr.b w7 rfl).trans eg120_50)) w17.1 (fun i => Wr.b w17 rfl) (by omega); have h7 : ctV 151 50 1 0 1 M17 = v17_9006 := ev17_9006; have h6 : ctV 151 50 1 0 1 M7 = g9006_0 := ((nwv_of (fun j => ((Wr.b w7 rfl).trans rfl)) ((Wr.b w7 rfl).trans rfl)).trans eg9006_0); omega
  replace fv17_9006 := hd_i fv17_9006
  refine Tr.aload_n (pc := 20) (i := 0) d_X12_closesBlock_20 rfl rfl ?_
  refine Tr.getf (pc := 21) d_X12_closesBlock_21 f_12_159 (by decide) (by decide) (ty_120 hS.1.1) ?_
  refine Tr.tp 151 (fx_120_48 hS.1.1) ?_
  refine Tr.aload_n (pc := 24) (i := 0) d_X12_closesBlock_24 rfl rfl ?_
  refine Tr.getf (pc := 25) d_X12_closesBlock_25 f_12_165 (by decide) (by decide) (ty_120 hS.1.1) ?_
  refine Tr.tp (g120_50 - 1) w17.1 ?_
  refine Tr.iald (pc := 28) d_X12_closesBlock_28 (ty_151 hS.1.1) (by omega) (by omega) ?_
  refine Tr.gen (P := fun v => 0 ≤ v ∧ v ≤ 2) (ar_151 hS.1.2.1 _) (fun r28 er28 br28 => ?_)
  refine Tr.istore_n (pc := 29) (i := 1) (ls2 := [(1, (0, r28)), (0, (2, 120))]) d_X12_closesBlock_29 rfl (by decide) rfl ?_
  refine Tr.aload_n (pc := 30) (i := 0) d_X12_closesBlock_30 rfl rfl ?_
  refine Tr.getf (pc := 31) d_X12_closesBlock_31 f_12_162 (by decide) (by decide) (ty_120 hS.1.1) ?_
  refine Tr.tp 152 (fx_120_49 hS.1.1) ?_
  refine Tr.aload_n (pc := 34) (i := 0) d_X12_closesBlock_34 rfl rfl ?_
  refine Tr.getf (pc := 35) d_X12_closesBlock_35 f_12_165 (by decide) (by decide) (ty_120 hS.1.1) ?_
  refine Tr.tp (g120_50 - 1) w17.1 ?_
  refine Tr.iald (pc := 38) d_X12_closesBlock_38 (ty_152 hS.1.1) (by omega) (by omega) ?_
  refine Tr.gen (P := fun v => 0 ≤ v ∧ v ≤ 399) (ar_152 hS.1.2.1 _) (fun r38 er38 br38 => ?_)
  have q151 : rd M7 151 (g120_50 - 1) = r28 := (Wr.b w17 rfl).symm.trans er28
  have q152 : rd M7 152 (g120_50 - 1) = r38 := (Wr.b w17 rfl).symm.trans er38
  rw [q151, q152] at hp9
  have f39 := hd_o fv17_9006
  rewrite [er28] at f39
  replace f39 := hd_i f39
  obtain ⟨d38, ed38⟩ : ∃ v, rd M17 137 r38 = v := ⟨_, rfl⟩
  have e137 : rd M7 137 r38 = d38 := (Wr.b w17 rfl).symm.trans ed38
  rw [e137] at hp9
  have hp9d0 := hd_i hp9.2.2
  replace hp9 := And.intro hp9.1  (hp9.2.1)
  have bd38 : 0 ≤ d38 ∧ d38 ≤ 8 := by rw [← ed38]; have := ar_137 hS.1.2.1 r38; omega
  refine Tr.istore_n (pc := 39) (i := 2) (ls2 := [(2, (0, r38)), (1, (0, r28)), (0, (2, 120))]) d_X12_closesBlock_39 rfl (by decide) rfl ?_
  refine Tr.aload_n (pc := 40) (i := 0) d_X12_closesBlock_40 rfl rfl ?_
  refine Tr.callV (pc := 41) (as := []) d_X12_closesBlock_41 s_12_396 ok_X12_next rfl rfl (Nat.le_of_ble_eq_true rfl) (Nat.le_of_ble_eq_true rfl) (by decide) (ty_120 hS.1.1) ?_
  refine Tr.imp (Tr.deep (by decide) (ns_X12_next_120_w1 (G120_3 := g120_3) (G120_5 := g120_5) (G120_8 := g120_8) (G9010_0 := g9010_0) hS.1 (((Wr.b w17 rfl).trans ((Wr.b w7 rfl).trans eg120_3))) (((Wr.b w17 rfl).trans ((Wr.b w7 rfl).trans eg120_5))) (((Wr.b w17 rfl).trans ((Wr.b w7 rfl).trans eg120_8))) (((tav_of ((Wr.b w17 rfl).trans ((Wr.b w7 rfl).trans rfl)) ((Wr.b w17 rfl).trans ((Wr.b w7 rfl).trans rfl))).trans eg9010_0)))) ?_
  rintro M41 _ ⟨h41, s41_120_3, s41_120_4, s41_120_5, s41_120_7, s41_120_8, s41_9010_0, es41_120_3, bs41_120_3, es41_120_4, bs41_120_4, es41_120_5, bs41_120_5, es41_120_7, bs41_120_7, es41_120_8, bs41_120_8, es41_9010_0, bs41_9010_0, rfl, z41_0, z41_1, z41_2, z41_3, z41_4, z41_5, z41_6⟩
  have hS := St.tr hS h41 (by decide) (by decide)
  refine Tr.sc [] rfl ?_
  refine Tr.aload_n (pc := 44) (i := 0) d_X12_closesBlock_44 rfl rfl ?_
  refine Tr.getf (pc := 45) d_X12_closesBlock_45 f_12_36 (by decide) (by decide) (ty_120 hS.1.1) ?_
  refine Tr.tp s41_120_8 es41_120_8 ?_
  refine Tr.if_le (pc := 48) (tgt := 52) d_X12_closesBlock_48 rfl (fun c48 => ?_) (fun c48 => ?_)
  · refine Tr.iload_n (pc := 52) (i := 1) d_X12_closesBlock_52 rfl rfl ?_
    refine Tr.iconst (pc := 53) d_X12_closesBlock_53 (by decide) ?_
    have J78 : ∀ (M : Mem) (u78_136_0 : Int), St Pm0 ws_X12_closesBlock_120_w1 as_X12_closesBlock_120_w1 M0 M → (0 ≤ u78_136_0 ∧ u78_136_0 ≤ 200) → rd M 120 3 = s41_120_3 → rd M 120 36 = g120_36 → rd M 120 4 = s41_120_4 → rd M 120 44 = (g120_44 - 1) → rd M 120 5 = s41_120_5 → rd M 120 50 = (g120_50 - 1) → rd M 120 7 = s41_120_7 → rd M 120 8 = s41_120_8 → rd M 129 0 = g129_0 → rd M 136 0 = u78_136_0 → rd M 137 r38 = d38 → rd M 151 (g120_50 - 1) = r28 → rd M 152 (g120_50 - 1) = r38 → nwv M = v17_9006 → tav M = s41_9010_0 → ((r28 = 2 ∧ u78_136_0 + v17_9006 ≤ 2 * g129_0) ∨ (r28 ≠ 2 ∧ u78_136_0 = g136_0)) → (g136_0 ≤ u78_136_0) → Tr l K 3 mX12_closesBlock 78 [(0, (2, 120)), (1, (0, r28)), (2, (0, r38))] [] M (q_X12_closesBlock_120_w1 M0) := by
      intro M u78_136_0 hS bu78_136_0 k78_120_3 k78_120_36 k78_120_4 k78_120_44 k78_120_5 k78_120_50 k78_120_7 k78_120_8 k78_129_0 k78_136_0 k78_137_r3810 k78_151_g120_501n1 k78_152_g120_501n1 k78_9006_0 k78_9010_0 t78_0 t78_1
      clear w7 kb17_120_50 kb17_136_0 kx_120_50 w17 ev17_9006 er28 er38 ed38 es41_120_3 es41_120_4 es41_120_5 es41_120_7 es41_120_8 es41_9010_0
      replace t78_0 := hd_i t78_0
      refine Tr.iload_n (pc := 78) (i := 1) d_X12_closesBlock_78 rfl rfl ?_
      have J125 : ∀ (M : Mem), St Pm0 ws_X12_closesBlock_120_w1 as_X12_closesBlock_120_w1 M0 M → rd M 120 3 = s41_120_3 → rd M 120 36 = g120_36 → rd M 120 4 = s41_120_4 → rd M 120 44 = (g120_44 - 1) → rd M 120 5 = s41_120_5 → rd M 120 50 = (g120_50 - 1) → rd M 120 7 = s41_120_7 → rd M 120 8 = s41_120_8 → rd M 129 0 = g129_0 → rd M 136 0 = u78_136_0 → rd M 137 r38 = d38 → rd M 151 (g120_50 - 1) = r28 → rd M 152 (g120_50 - 1) = r38 → nwv M = v17_9006 → tav M = s41_9010_0 → (g136_0 ≤ u78_136_0 ∧ u78_136_0 + v17_9006 ≤ 2 * g129_0) → Tr l K 3 mX12_closesBlock 125 [(0, (2, 120)), (2, (0, r38))] [] M (q_X12_closesBlock_120_w1 M0) := by
        intro M  hS  k125_120_3 k125_120_36 k125_120_4 k125_120_44 k125_120_5 k125_120_50 k125_120_7 k125_120_8 k125_129_0 k125_136_0 k125_137_r3810 k125_151_g120_501n1 k125_152_g120_501n1 k125_9006_0 k125_9010_0 t125_0
        clear k78_120_3 k78_120_36 k78_120_4 k78_120_44 k78_120_5 k78_120_50 k78_120_7 k78_120_8 k78_129_0 k78_136_0 k78_137_r3810 k78_151_g120_501n1 k78_152_g120_501n1 k78_9006_0 k78_9010_0
        refine Tr.aload_n (pc := 125) (i := 0) d_X12_closesBlock_125 rfl rfl ?_
        refine Tr.getf (pc := 126) d_X12_closesBlock_126 f_12_112 (by decide) (by decide) (ty_120 hS.1.1) ?_
        refine Tr.tp 142 (fx_120_33 hS.1.1) ?_
        refine Tr.iload_n (pc := 129) (i := 2) d_X12_closesBlock_129 rfl rfl ?_
        refine Tr.aload_n (pc := 130) (i := 0) d_X12_closesBlock_130 rfl rfl ?_
        refine Tr.getf (pc := 131) d_X12_closesBlock_131 f_12_94 (by decide) (by decide) (ty_120 hS.1.1) ?_
        refine Tr.tp 136 (fx_120_27 hS.1.1) ?_
        refine Tr.aload_n (pc := 134) (i := 0) d_X12_closesBlock_134 rfl rfl ?_
        refine Tr.getf (pc := 135) d_X12_closesBlock_135 f_12_124 (by decide) (by decide) (ty_120 hS.1.1) ?_
        refine Tr.tp 0 ((kp_X12_closesBlock_120_w1_120_37 hS).trans en_120_37) ?_
        refine Tr.iald (pc := 138) d_X12_closesBlock_138 (ty_136 hS.1.1) (by omega) (by omega) ?_
        refine Tr.tp u78_136_0 k125_136_0 ?_
        refine Tr.iastS (pc := 139) (P := St Pm0 ws_X12_closesBlock_120_w1 as_X12_closesBlock_120_w1 M0) d_X12_closesBlock_139 (ty_142 hS.1.1) (by omega) (by omega) (sa_142 hS (by decide) (by and_intros <;> omega) (Pm0_goes hS.1.2.2.2.2 hS.1.2.1 (by omega) (by omega) (Or.inl (by omega)))) (fun M139 hS w139 => ?_)
        have kr_120_3 : rd M139 120 3 = s41_120_3 := ((Wr.b w139 rfl).trans k125_120_3)
        have kr_120_4 : rd M139 120 4 = s41_120_4 := ((Wr.b w139 rfl).trans k125_120_4)
        have kr_120_5 : rd M139 120 5 = s41_120_5 := ((Wr.b w139 rfl).trans k125_120_5)
        have kr_120_7 : rd M139 120 7 = s41_120_7 := ((Wr.b w139 rfl).trans k125_120_7)
        have kr_120_8 : rd M139 120 8 = s41_120_8 := ((Wr.b w139 rfl).trans k125_120_8)
        have kr_120_36 : rd M139 120 36 = g120_36 := ((Wr.b w139 rfl).trans k125_120_36)
        have kr_120_44 : rd M139 120 44 = (g120_44 - 1) := ((Wr.b w139 rfl).trans k125_120_44)
        have kr_120_50 : rd M139 120 50 = (g120_50 - 1) := ((Wr.b w139 rfl).trans k125_120_50)
        have kr_129_0 : rd M139 129 0 = g129_0 := ((Wr.b w139 rfl).trans k125_129_0)
        have kr_136_0 : rd M139 136 0 = u78_136_0 := ((Wr.b w139 rfl).trans k125_136_0)
        have kr_9006_0 : nwv M139 = v17_9006 := ((nwv_of (fun j => ((Wr.b w139 rfl).trans rfl)) ((Wr.b w139 rfl).trans rfl)).trans k125_9006_0)
        have kr_9010_0 : tav M139 = s41_9010_0 := ((tav_of ((Wr.b w139 rfl).trans rfl) ((Wr.b w139 rfl).trans rfl)).trans k125_9010_0)
        exact Tr.vret (pc := 140) d_X12_closesBlock_140 rfl ⟨hS, rfl, (by first | exact (hd_o z41_0) | exact (hd_o z41_0).elim (fun h1 => by omega) (fun h1 => by omega)), (by omega), (by first | exact (hd_o z41_2) | exact (hd_o z41_2).elim (fun h1 => by omega) (fun h1 => h1.elim (fun h1 => by omega) (fun h1 => by omega))), (by and_intros <;> omega), (by first | exact (hd_o z41_6) | exact (hd_o z41_6).elim (fun h1 => by omega) (fun h1 => by omega)), (by exact (ne_o (hd_o hq6)).elim (fun h1 => by omega) (fun h1 => (hd_o z41_5).elim (fun h2 => by omega) (fun h2 => by omega))), (by omega), (by omega), (by omega)⟩
      refine Tr.if_ne (pc := 79) (tgt := 125) d_X12_closesBlock_79 rfl (fun c79 => ?_) (fun c79 => ?_)
      · have c79b : 1 ≤ r28 ∧ r28 ≤ 2 := by omega
        replace c79 := hd_i c79
        refine Tr.pick [0, 2] (ls2 := [(0, (2, 120)), (2, (0, r38))]) rfl ?_
        exact J125 _ hS k78_120_3 k78_120_36 k78_120_4 k78_120_44 k78_120_5 k78_120_50 k78_120_7 k78_120_8 k78_129_0 k78_136_0 k78_137_r3810 k78_151_g120_501n1 k78_152_g120_501n1 k78_9006_0 k78_9010_0 (by exact (hd_o t78_0).elim (fun h1 => by omega) (fun h1 => (hd_o f39).elim (fun h2 => by omega) (fun h2 => by omega)))
      · refine Tr.aload_n (pc := 82) (i := 0) d_X12_closesBlock_82 rfl rfl ?_
        refine Tr.ldc2 (pc := 83) d_X12_closesBlock_83 kl_12_433 (by decide) ?_
        refine Tr.callV (pc := 86) (as := [_]) d_X12_closesBlock_86 s_12_484 ok_X12_isWord rfl rfl (Nat.le_of_ble_eq_true rfl) (Nat.le_of_ble_eq_true rfl) (by decide) (ty_120 hS.1.1) ?_
        refine Tr.imp (Tr.deep (by decide) (ns_X12_isWord_120 (G120_3 := s41_120_3) (G120_7 := s41_120_7) hS.1.wk (k78_120_3) (k78_120_7) 1701606245 (by omega))) ?_
        rintro M86 _ ⟨h86, r86, rfl, lr86, ur86, z86_0⟩
        have h86 := St.rn h86 (Pm0.of hS.1.2.2.2.2 (fun _ => (ka_X12_isWord_120_131 h86 _)) (fun _ => (ka_X12_isWord_120_137 h86 _)) (fun _ => (ka_X12_isWord_120_138 h86 _)) (fun _ => (ka_X12_isWord_120_139 h86 _)) (fun _ => (ka_X12_isWord_120_140 h86 _)) (fun _ => (ka_X12_isWord_120_141 h86 _)) (fun _ => (ka_X12_isWord_120_142 h86 _)) (fun _ => (ka_X12_isWord_120_143 h86 _)) (fun _ => (ka_X12_isWord_120_151 h86 _)) (fun _ => (ka_X12_isWord_120_152 h86 _)) (kp_X12_isWord_120_126_0 h86) (kp_X12_isWord_120_126_1 h86) (kp_X12_isWord_120_136_0 h86) (kp_X12_isWord_120_136_1 h86) (kp_X12_isWord_120_123_0 h86) (kp_X12_isWord_120_123_1 h86) (kp_X12_isWord_120_124_0 h86) (kp_X12_isWord_120_124_1 h86) (kp_X12_isWord_120_120_8 h86) (kp_X12_isWord_120_120_36 h86) (kp_X12_isWord_120_120_50 h86))
        have hS := St.tr hS h86 (by decide) (by decide)
        refine Tr.sc [(0, r86)] rfl ?_
        refine Tr.if_eq (pc := 89) (tgt := 125) d_X12_closesBlock_89 rfl (fun c89 => ?_) (fun c89 => ?_)
        · refine Tr.pick [0, 2] (ls2 := [(0, (2, 120)), (2, (0, r38))]) rfl ?_
          exact J125 _ hS ((kp_X12_isWord_120_120_3 h86).trans k78_120_3) ((kp_X12_isWord_120_120_36 h86).trans k78_120_36) ((kp_X12_isWord_120_120_4 h86).trans k78_120_4) ((kp_X12_isWord_120_120_44 h86).trans k78_120_44) ((kp_X12_isWord_120_120_5 h86).trans k78_120_5) ((kp_X12_isWord_120_120_50 h86).trans k78_120_50) ((kp_X12_isWord_120_120_7 h86).trans k78_120_7) ((kp_X12_isWord_120_120_8 h86).trans k78_120_8) ((kp_X12_isWord_120_129_0 h86).trans k78_129_0) ((kp_X12_isWord_120_136_0 h86).trans k78_136_0) ((ka_X12_isWord_120_137 h86 _).trans k78_137_r3810) ((ka_X12_isWord_120_151 h86 _).trans k78_151_g120_501n1) ((ka_X12_isWord_120_152 h86 _).trans k78_152_g120_501n1) ((nwv_of (fun j => ((ka_X12_isWord_120_151 h86 _).trans rfl)) ((kp_X12_isWord_120_120_50 h86).trans rfl)).trans k78_9006_0) ((tav_of ((kp_X12_isWord_120_120_5 h86).trans rfl) ((kp_X12_isWord_120_120_3 h86).trans rfl)).trans k78_9010_0) (by exact (hd_o t78_0).elim (fun h1 => by omega) (fun h1 => (hd_o f39).elim (fun h2 => by omega) (fun h2 => by omega)))
        · have c89b : 1 ≤ r86 ∧ r86 ≤ 1 := by omega
          replace c89 := hd_i c89
          refine Tr.aload_n (pc := 92) (i := 0) d_X12_closesBlock_92 rfl rfl ?_
          refine Tr.iconst (pc := 93) d_X12_closesBlock_93 (by decide) ?_
          refine Tr.iconst (pc := 94) d_X12_closesBlock_94 (by decide) ?_
          refine Tr.callV (pc := 95) (as := [_, _]) d_X12_closesBlock_95 s_12_531 ok_X12_spot rfl rfl (Nat.le_of_ble_eq_true rfl) (Nat.le_of_ble_eq_true rfl) (by decide) (ty_120 hS.1.1) ?_
          refine Tr.imp (Tr.deep (by decide) (ns_X12_spot_120_w1 (G136_0 := u78_136_0) hS.1 (((kp_X12_isWord_120_136_0 h86).trans k78_136_0)) ((kp_X12_closesBlock_120_w1_120_37 hS).trans en_120_37) 0 (by omega) (-1) (by omega) (by exact (hd_o t78_0).elim (fun h1 => by omega) (fun h1 => by omega)) (by omega) (by omega))) ?_
          rintro M95 _ ⟨h95, s95_136_0, es95_136_0, bs95_136_0, r95, rfl, lr95, ur95, z95_0, z95_1, z95_2, z95_3⟩
          have hS := St.tr hS h95 (by decide) (by decide)
          refine Tr.sc [(0, r95)] rfl ?_
          have kz95 : rd M86 136 0 = u78_136_0 := ((kp_X12_isWord_120_136_0 h86).trans k78_136_0)
          have ed95 : rd M95 137 r38 = d38 := (z95_2 r38 (by omega)).trans (((ka_X12_isWord_120_137 h86 _).trans k78_137_r3810))
          refine Tr.istore_n (pc := 98) (i := 3) (ls2 := [(3, (0, r95)), (0, (2, 120)), (1, (0, r28)), (2, (0, r38))]) d_X12_closesBlock_98 rfl (by decide) rfl ?_
          refine Tr.aload_n (pc := 99) (i := 0) d_X12_closesBlock_99 rfl rfl ?_
          refine Tr.getf (pc := 100) d_X12_closesBlock_100 f_12_112 (by decide) (by decide) (ty_120 hS.1.1) ?_
          refine Tr.tp 142 (fx_120_33 hS.1.1) ?_
          refine Tr.iload_n (pc := 103) (i := 2) d_X12_closesBlock_103 rfl rfl ?_
          refine Tr.aload_n (pc := 104) (i := 0) d_X12_closesBlock_104 rfl rfl ?_
          refine Tr.getf (pc := 105) d_X12_closesBlock_105 f_12_94 (by decide) (by decide) (ty_120 hS.1.1) ?_
          refine Tr.tp 136 (fx_120_27 hS.1.1) ?_
          refine Tr.aload_n (pc := 108) (i := 0) d_X12_closesBlock_108 rfl rfl ?_
          refine Tr.getf (pc := 109) d_X12_closesBlock_109 f_12_124 (by decide) (by decide) (ty_120 hS.1.1) ?_
          refine Tr.tp 0 ((kp_X12_closesBlock_120_w1_120_37 hS).trans en_120_37) ?_
          refine Tr.iald (pc := 112) d_X12_closesBlock_112 (ty_136 hS.1.1) (by omega) (by omega) ?_
          refine Tr.tp s95_136_0 es95_136_0 ?_
          refine Tr.iastS (pc := 113) (P := St Pm0 ws_X12_closesBlock_120_w1 as_X12_closesBlock_120_w1 M0) d_X12_closesBlock_113 (ty_142 hS.1.1) (by omega) (by omega) (sa_142 hS (by decide) (by and_intros <;> omega) (Pm0_goes hS.1.2.2.2.2 hS.1.2.1 (by omega) (by omega) (Or.inl (by omega)))) (fun M113 hS w113 => ?_)
          refine Tr.aload_n (pc := 114) (i := 0) d_X12_closesBlock_114 rfl rfl ?_
          refine Tr.callV (pc := 115) (as := []) d_X12_closesBlock_115 s_12_396 ok_X12_next rfl rfl (Nat.le_of_ble_eq_true rfl) (Nat.le_of_ble_eq_true rfl) (by decide) (ty_120 hS.1.1) ?_
          refine Tr.imp (Tr.deep (by decide) (ns_X12_next_120_w1 (G120_3 := s41_120_3) (G120_5 := s41_120_5) (G120_8 := s41_120_8) (G9010_0 := s41_9010_0) hS.1 (((Wr.b w113 rfl).trans ((kp_X12_spot_120_w1_120_3 h95).trans ((kp_X12_isWord_120_120_3 h86).trans k78_120_3)))) (((Wr.b w113 rfl).trans ((kp_X12_spot_120_w1_120_5 h95).trans ((kp_X12_isWord_120_120_5 h86).trans k78_120_5)))) (((Wr.b w113 rfl).trans ((kp_X12_spot_120_w1_120_8 h95).trans ((kp_X12_isWord_120_120_8 h86).trans k78_120_8)))) (((tav_of ((Wr.b w113 rfl).trans ((kp_X12_spot_120_w1_120_5 h95).trans ((kp_X12_isWord_120_120_5 h86).trans rfl))) ((Wr.b w113 rfl).trans ((kp_X12_spot_120_w1_120_3 h95).trans ((kp_X12_isWord_120_120_3 h86).trans rfl)))).trans k78_9010_0)))) ?_
          rintro M115 _ ⟨h115, s115_120_3, s115_120_4, s115_120_5, s115_120_7, s115_120_8, s115_9010_0, es115_120_3, bs115_120_3, es115_120_4, bs115_120_4, es115_120_5, bs115_120_5, es115_120_7, bs115_120_7, es115_120_8, bs115_120_8, es115_9010_0, bs115_9010_0, rfl, z115_0, z115_1, z115_2, z115_3, z115_4, z115_5, z115_6⟩
          have hS := St.tr hS h115 (by decide) (by decide)
          refine Tr.sc [] rfl ?_
          refine Tr.aload_n (pc := 118) (i := 0) d_X12_closesBlock_118 rfl rfl ?_
          refine Tr.iconst (pc := 119) d_X12_closesBlock_119 (by decide) ?_
          refine Tr.iload_n (pc := 120) (i := 3) d_X12_closesBlock_120 rfl rfl ?_
          refine Tr.callV (pc := 121) (as := [_, _]) d_X12_closesBlock_121 s_12_534 ok_X12_opensBlock rfl rfl (Nat.le_of_ble_eq_true rfl) (Nat.le_of_ble_eq_true rfl) (by decide) (ty_120 hS.1.1) ?_
          refine Tr.imp (Tr.deep (by decide) (ns_X12_opensBlock_120_w1 (G120_3 := s115_120_3) (G120_4 := s115_120_4) (G120_5 := s115_120_5) (G120_7 := s115_120_7) (G120_8 := s115_120_8) (G120_36 := g120_36) (G120_44 := (g120_44 - 1)) (G120_50 := (g120_50 - 1)) (G136_0 := s95_136_0) (G9006_0 := v17_9006) (G9010_0 := s115_9010_0) hS.1 (es115_120_3) (es115_120_4) (es115_120_5) (es115_120_7) (es115_120_8) (((kp_X12_next_120_w1_120_36 h115).trans ((Wr.b w113 rfl).trans ((kp_X12_spot_120_w1_120_36 h95).trans ((kp_X12_isWord_120_120_36 h86).trans k78_120_36))))) (((kp_X12_next_120_w1_120_44 h115).trans ((Wr.b w113 rfl).trans ((kp_X12_spot_120_w1_120_44 h95).trans ((kp_X12_isWord_120_120_44 h86).trans k78_120_44))))) (((kp_X12_next_120_w1_120_50 h115).trans ((Wr.b w113 rfl).trans ((kp_X12_spot_120_w1_120_50 h95).trans ((kp_X12_isWord_120_120_50 h86).trans k78_120_50))))) (((kp_X12_next_120_w1_136_0 h115).trans ((Wr.b w113 rfl).trans es95_136_0))) (((nwv_of (fun j => ((ka_X12_next_120_w1_151 h115 _).trans ((Wr.b w113 rfl).trans ((ka_X12_spot_120_w1_151 h95 _).trans ((ka_X12_isWord_120_151 h86 _).trans rfl))))) ((kp_X12_next_120_w1_120_50 h115).trans ((Wr.b w113 rfl).trans ((kp_X12_spot_120_w1_120_50 h95).trans ((kp_X12_isWord_120_120_50 h86).trans rfl))))).trans k78_9006_0)) (es115_9010_0) 1 (by omega) r95 (by and_intros <;> omega) (by first | exact (hd_o z115_0) | exact (hd_o z115_0).elim (fun h1 => by omega) (fun h1 => by omega)) (by omega) (by first | exact (hd_o z115_2) | exact (hd_o z115_2).elim (fun h1 => by omega) (fun h1 => h1.elim (fun h1 => by omega) (fun h1 => by omega))) (by omega) (by omega) (by and_intros <;> omega) (by omega))) ?_
          rintro M121 _ ⟨h121, s121_120_3, s121_120_4, s121_120_5, s121_120_7, s121_120_8, s121_120_44, s121_120_50, s121_9006_0, s121_9010_0, es121_120_3, bs121_120_3, es121_120_4, bs121_120_4, es121_120_5, bs121_120_5, es121_120_7, bs121_120_7, es121_120_8, bs121_120_8, es121_120_44, bs121_120_44, es121_120_50, bs121_120_50, es121_9006_0, bs121_9006_0, es121_9010_0, bs121_9010_0, rfl, z121_0, z121_1, z121_2, z121_3, z121_4, z121_5, z121_6, z121_7, z121_8⟩
          have hS := St.tr hS h121 (by decide) (by decide)
          refine Tr.sc [] rfl ?_
          have kr_120_3 : rd M121 120 3 = s121_120_3 := es121_120_3
          have kr_120_4 : rd M121 120 4 = s121_120_4 := es121_120_4
          have kr_120_5 : rd M121 120 5 = s121_120_5 := es121_120_5
          have kr_120_7 : rd M121 120 7 = s121_120_7 := es121_120_7
          have kr_120_8 : rd M121 120 8 = s121_120_8 := es121_120_8
          have kr_120_36 : rd M121 120 36 = g120_36 := ((kp_X12_opensBlock_120_w1_120_36 h121).trans ((kp_X12_next_120_w1_120_36 h115).trans ((Wr.b w113 rfl).trans ((kp_X12_spot_120_w1_120_36 h95).trans ((kp_X12_isWord_120_120_36 h86).trans k78_120_36)))))
          have kr_120_44 : rd M121 120 44 = s121_120_44 := es121_120_44
          have kr_120_50 : rd M121 120 50 = s121_120_50 := es121_120_50
          have kr_129_0 : rd M121 129 0 = g129_0 := ((kp_X12_opensBlock_120_w1_129_0 h121).trans ((kp_X12_next_120_w1_129_0 h115).trans ((Wr.b w113 rfl).trans ((kp_X12_spot_120_w1_129_0 h95).trans ((kp_X12_isWord_120_129_0 h86).trans k78_129_0)))))
          have kr_136_0 : rd M121 136 0 = s95_136_0 := ((kp_X12_opensBlock_120_w1_136_0 h121).trans ((kp_X12_next_120_w1_136_0 h115).trans ((Wr.b w113 rfl).trans es95_136_0)))
          have kr_9006_0 : nwv M121 = s121_9006_0 := es121_9006_0
          have kr_9010_0 : tav M121 = s121_9010_0 := es121_9010_0
          exact Tr.vret (pc := 124) d_X12_closesBlock_124 rfl ⟨hS, rfl, (by first | exact (hd_o z121_0) | exact (hd_o z121_0).elim (fun h1 => by omega) (fun h1 => by omega)), (by omega), (by first | exact (hd_o z121_2) | exact (hd_o z121_2).elim (fun h1 => by omega) (fun h1 => h1.elim (fun h1 => by omega) (fun h1 => by omega))), (by and_intros <;> omega), (by omega), (by exact (hd_o z121_5).elim (fun h1 => by omega) (fun h1 => by omega)), (by omega), (by exact (hd_o t78_0).elim (fun h1 => by omega) (fun h1 => (hd_o f39).elim (fun h2 => by omega) (fun h2 => (hd_o z121_8).elim (fun h3 => by omega) (fun h3 => (ne_o h3.1).elim (fun h4 => by omega) (fun h4 => by omega))))), (by omega)⟩
    refine Tr.icmp_ne (pc := 54) (tgt := 78) d_X12_closesBlock_54 rfl (fun c54 => ?_) (fun c54 => ?_)
    · have c54b : 0 ≤ r28 ∧ r28 ≤ 1 := by omega
      replace c54 := hd_i c54
      refine Tr.pick [2, 1, 0] (ls2 := [(0, (2, 120)), (1, (0, r28)), (2, (0, r38))]) rfl ?_
      exact J78 _ _ hS (by and_intros <;> omega) es41_120_3 ((kp_X12_next_120_w1_120_36 h41).trans ((Wr.b w17 rfl).trans ((Wr.b w7 rfl).trans eg120_36))) es41_120_4 ((kp_X12_next_120_w1_120_44 h41).trans ((Wr.b w17 rfl).trans w7.1)) es41_120_5 ((kp_X12_next_120_w1_120_50 h41).trans w17.1) es41_120_7 es41_120_8 ((kp_X12_next_120_w1_129_0 h41).trans ((Wr.b w17 rfl).trans ((Wr.b w7 rfl).trans eg129_0))) ((kp_X12_next_120_w1_136_0 h41).trans ((Wr.b w17 rfl).trans ((Wr.b w7 rfl).trans eg136_0))) ((ka_X12_next_120_w1_137 h41 _).trans ed38) ((ka_X12_next_120_w1_151 h41 _).trans er28) ((ka_X12_next_120_w1_152 h41 _).trans er38) ((nwv_of (fun j => ((ka_X12_next_120_w1_151 h41 _).trans rfl)) ((kp_X12_next_120_w1_120_50 h41).trans rfl)).trans ev17_9006) es41_9010_0 (by omega) (by omega)
    · refine Tr.aload_n (pc := 57) (i := 0) d_X12_closesBlock_57 rfl rfl ?_
      refine Tr.getf (pc := 58) d_X12_closesBlock_58 f_12_112 (by decide) (by decide) (ty_120 hS.1.1) ?_
      refine Tr.tp 142 (fx_120_33 hS.1.1) ?_
      refine Tr.aload_n (pc := 61) (i := 0) d_X12_closesBlock_61 rfl rfl ?_
      refine Tr.iconst (pc := 62) d_X12_closesBlock_62 (by decide) ?_
      refine Tr.iconst (pc := 63) d_X12_closesBlock_63 (by decide) ?_
      refine Tr.callV (pc := 64) (as := [_, _]) d_X12_closesBlock_64 s_12_531 ok_X12_spot rfl rfl (Nat.le_of_ble_eq_true rfl) (Nat.le_of_ble_eq_true rfl) (by decide) (ty_120 hS.1.1) ?_
      refine Tr.imp (Tr.deep (by decide) (ns_X12_spot_120_w1 (G136_0 := g136_0) hS.1 (((kp_X12_next_120_w1_136_0 h41).trans ((Wr.b w17 rfl).trans ((Wr.b w7 rfl).trans eg136_0)))) ((kp_X12_closesBlock_120_w1_120_37 hS).trans en_120_37) 0 (by omega) (-1) (by omega) (by omega) (by omega) (by omega))) ?_
      rintro M64 _ ⟨h64, s64_136_0, es64_136_0, bs64_136_0, r64, rfl, lr64, ur64, z64_0, z64_1, z64_2, z64_3⟩
      have hS := St.tr hS h64 (by decide) (by decide)
      refine Tr.sc [(0, r64), (2, 142)] rfl ?_
      have kz64 : rd M41 136 0 = g136_0 := ((kp_X12_next_120_w1_136_0 h41).trans ((Wr.b w17 rfl).trans ((Wr.b w7 rfl).trans eg136_0)))
      have ed64 : rd M64 137 r38 = d38 := (z64_2 r38 (by omega)).trans (((ka_X12_next_120_w1_137 h41 _).trans ed38))
      refine Tr.iload_n (pc := 67) (i := 2) d_X12_closesBlock_67 rfl rfl ?_
      refine Tr.sipush (pc := 68) d_X12_closesBlock_68 rfl (by decide) ?_
      refine Tr.aload_n (pc := 71) (i := 0) d_X12_closesBlock_71 rfl rfl ?_
      refine Tr.getf (pc := 72) d_X12_closesBlock_72 f_12_124 (by decide) (by decide) (ty_120 hS.1.1) ?_
      refine Tr.tp 0 ((kp_X12_closesBlock_120_w1_120_37 hS).trans en_120_37) ?_
      refine Tr.imul (pc := 75) d_X12_closesBlock_75 ?_
      refine Tr.tp 0 (by decide) ?_
      refine Tr.isub (pc := 76) d_X12_closesBlock_76 ?_
      refine Tr.tp r38 ((w32_id (by and_intros <;> omega)).trans (by omega)) ?_
      refine Tr.iastS (pc := 77) (P := St Pm0 ws_X12_closesBlock_120_w1 as_X12_closesBlock_120_w1 M0) d_X12_closesBlock_77 (ty_142 hS.1.1) (by omega) (by omega) (sa_142 hS (by decide) (by and_intros <;> omega) (Pm0_goes hS.1.2.2.2.2 hS.1.2.1 (by omega) (by omega) (Or.inr (Or.inl (by rw [show 0 + r38 = r38 by omega, show rd M64 137 r38 = d38 from ed64]; exact (by exact (Decidable.not_or_of_imp (hd_o hp9d0)).elim (fun h1 => by omega) (fun h1 => (ne_o h1).elim (fun h2 => by omega) (fun h2 => by omega)))))))) (fun M77 hS w77 => ?_)
      refine Tr.pick [2, 1, 0] (ls2 := [(0, (2, 120)), (1, (0, r28)), (2, (0, r38))]) rfl ?_
      exact J78 _ _ hS (by and_intros <;> omega) ((Wr.b w77 rfl).trans ((kp_X12_spot_120_w1_120_3 h64).trans es41_120_3)) ((Wr.b w77 rfl).trans ((kp_X12_spot_120_w1_120_36 h64).trans ((kp_X12_next_120_w1_120_36 h41).trans ((Wr.b w17 rfl).trans ((Wr.b w7 rfl).trans eg120_36))))) ((Wr.b w77 rfl).trans ((kp_X12_spot_120_w1_120_4 h64).trans es41_120_4)) ((Wr.b w77 rfl).trans ((kp_X12_spot_120_w1_120_44 h64).trans ((kp_X12_next_120_w1_120_44 h41).trans ((Wr.b w17 rfl).trans w7.1)))) ((Wr.b w77 rfl).trans ((kp_X12_spot_120_w1_120_5 h64).trans es41_120_5)) ((Wr.b w77 rfl).trans ((kp_X12_spot_120_w1_120_50 h64).trans ((kp_X12_next_120_w1_120_50 h41).trans w17.1))) ((Wr.b w77 rfl).trans ((kp_X12_spot_120_w1_120_7 h64).trans es41_120_7)) ((Wr.b w77 rfl).trans ((kp_X12_spot_120_w1_120_8 h64).trans es41_120_8)) ((Wr.b w77 rfl).trans ((kp_X12_spot_120_w1_129_0 h64).trans ((kp_X12_next_120_w1_129_0 h41).trans ((Wr.b w17 rfl).trans ((Wr.b w7 rfl).trans eg129_0))))) ((Wr.b w77 rfl).trans es64_136_0) ((Wr.b w77 rfl).trans ed64) ((Wr.b w77 rfl).trans ((ka_X12_spot_120_w1_151 h64 _).trans ((ka_X12_next_120_w1_151 h41 _).trans er28))) ((Wr.b w77 rfl).trans ((ka_X12_spot_120_w1_152 h64 _).trans ((ka_X12_next_120_w1_152 h41 _).trans er38))) ((nwv_of (fun j => ((Wr.b w77 rfl).trans ((ka_X12_spot_120_w1_151 h64 _).trans ((ka_X12_next_120_w1_151 h41 _).trans rfl)))) ((Wr.b w77 rfl).trans ((kp_X12_spot_120_w1_120_50 h64).trans ((kp_X12_next_120_w1_120_50 h41).trans rfl)))).trans ev17_9006) ((tav_of ((Wr.b w77 rfl).trans ((kp_X12_spot_120_w1_120_5 h64).trans rfl)) ((Wr.b w77 rfl).trans ((kp_X12_spot_120_w1_120_3 h64).trans rfl))).trans es41_9010_0) (by exact (hd_o f39).elim (fun h1 => by omega) (fun h1 => by omega)) (by omega)
  · have kr_120_3 : rd M41 120 3 = s41_120_3 := es41_120_3
    have kr_120_4 : rd M41 120 4 = s41_120_4 := es41_120_4
    have kr_120_5 : rd M41 120 5 = s41_120_5 := es41_120_5
    have kr_120_7 : rd M41 120 7 = s41_120_7 := es41_120_7
    have kr_120_8 : rd M41 120 8 = s41_120_8 := es41_120_8
    have kr_120_36 : rd M41 120 36 = g120_36 := ((kp_X12_next_120_w1_120_36 h41).trans ((Wr.b w17 rfl).trans ((Wr.b w7 rfl).trans eg120_36)))
    have kr_120_44 : rd M41 120 44 = (g120_44 - 1) := ((kp_X12_next_120_w1_120_44 h41).trans ((Wr.b w17 rfl).trans w7.1))
    have kr_120_50 : rd M41 120 50 = (g120_50 - 1) := ((kp_X12_next_120_w1_120_50 h41).trans w17.1)
    have kr_129_0 : rd M41 129 0 = g129_0 := ((kp_X12_next_120_w1_129_0 h41).trans ((Wr.b w17 rfl).trans ((Wr.b w7 rfl).trans eg129_0)))
    have kr_136_0 : rd M41 136 0 = g136_0 := ((kp_X12_next_120_w1_136_0 h41).trans ((Wr.b w17 rfl).trans ((Wr.b w7 rfl).trans eg136_0)))
    have kr_9006_0 : nwv M41 = v17_9006 := ((nwv_of (fun j => ((ka_X12_next_120_w1_151 h41 _).trans rfl)) ((kp_X12_next_120_w1_120_50 h41).trans rfl)).trans ev17_9006)
    have kr_9010_0 : tav M41 = s41_9010_0 := es41_9010_0
    exact Tr.vret (pc := 51) d_X12_closesBlock_51 rfl ⟨hS, rfl, (by first | exact (hd_o z41_0) | exact (hd_o z41_0).elim (fun h1 => by omega) (fun h1 => by omega)), (by omega), (by first | exact (hd_o z41_2) | exact (hd_o z41_2).elim (fun h1 => by omega) (fun h1 => h1.elim (fun h1 => by omega) (fun h1 => by omega))), (by and_intros <;> omega), (by first | exact (hd_o z41_6) | exact (hd_o z41_6).elim (fun h1 => by omega) (fun h1 => by omega)), (by omega), (by omega), (by exact (hd_o f39).elim (fun h1 => by omega) (fun h1 => by omega)), (by omega)⟩

set_option maxRecDepth 100000 in
set_option maxHeartbeats 4000000 in
theorem ns_X12_closesBlock_120_w1 {l : Launch} {K : EC} {M0 : Mem} {G120_3 G120_4 G120_5 G120_7 G120_8 G120_36 G120_44 G120_50 G129_0 G136_0 G9006_0 G9010_0 : Int} (hI : In Pm0 M0) (k120_3 : rd M0 120 3 = G120_3) (k120_4 : rd M0 120 4 = G120_4) (k120_5 : rd M0 120 5 = G120_5) (k120_7 : rd M0 120 7 = G120_7) (k120_8 : rd M0 120 8 = G120_8) (k120_36 : rd M0 120 36 = G120_36) (k120_44 : rd M0 120 44 = G120_44) (k120_50 : rd M0 120 50 = G120_50) (k129_0 : rd M0 129 0 = G129_0) (k136_0 : rd M0 136 0 = G136_0) (k9006_0 : nwv M0 = G9006_0) (k9010_0 : tav M0 = G9010_0) (en_120_37 : rd M0 120 37 = 0)   (hq0 : G120_3 = 0 ∨ G120_4 + 1 ≤ G120_5) (hq1 : G120_4 ≤ G120_5) (hq2 : G120_3 ≠ 1 ∨ G120_4 + 2 ≤ G120_5 ∨ G120_7 < 256) (hq3 : 1 ≤ G120_50) (hq4 : G120_50 ≤ G120_44) (hq5 : G136_0 + G9006_0 ≤ 2 * G129_0) (hq6 : G120_3 ≠ 0) (hq7 : G120_36 + G120_44 ≤ G120_4) (hq8 : G120_8 = 0) : Tr l K 3 mX12_closesBlock 0 [(0, (2, 120))] [] M0 (fun M' r => St Pm0 ws_X12_closesBlock_120_w1 as_X12_closesBlock_120_w1 M0 M' ∧ ∃ S120_3 S120_4 S120_5 S120_7 S120_8 S120_44 S120_50 S136_0 S9006_0 S9010_0 : Int, rd M' 120 3 = S120_3 ∧ (0 ≤ S120_3 ∧ S120_3 ≤ 3) ∧ rd M' 120 4 = S120_4 ∧ (0 ≤ S120_4 ∧ S120_4 ≤ 900) ∧ rd M' 120 5 = S120_5 ∧ (0 ≤ S120_5 ∧ S120_5 ≤ 900) ∧ rd M' 120 7 = S120_7 ∧ ((-9223372036854775808) ≤ S120_7 ∧ S120_7 ≤ 9223372036854775807) ∧ rd M' 120 8 = S120_8 ∧ (0 ≤ S120_8 ∧ S120_8 ≤ 5) ∧ rd M' 120 44 = S120_44 ∧ (0 ≤ S120_44 ∧ S120_44 ≤ 8) ∧ rd M' 120 50 = S120_50 ∧ (0 ≤ S120_50 ∧ S120_50 ≤ 20) ∧ rd M' 136 0 = S136_0 ∧ (0 ≤ S136_0 ∧ S136_0 ≤ 200) ∧ nwv M' = S9006_0 ∧ (0 ≤ S9006_0 ∧ S9006_0 ≤ 20) ∧ tav M' = S9010_0 ∧ ((-1) ≤ S9010_0 ∧ S9010_0 ≤ 1800) ∧ r = none ∧ Hd (S120_3 = 0 ∨ S120_4 + 1 ≤ S120_5) ∧ (S120_4 ≤ S120_5) ∧ Hd (S120_3 ≠ 1 ∨ S120_4 + 2 ≤ S120_5 ∨ S120_7 < 256) ∧ (G120_4 ≤ S120_4 ∧ G120_5 ≤ S120_5 ∧ G9010_0 ≤ S9010_0) ∧ Hd (G120_8 = 0 ∨ S120_8 = G120_8) ∧ Hd (1 ≤ S120_8 ∨ G9010_0 < S9010_0) ∧ (S120_50 ≤ S120_44) ∧ (S136_0 + S9006_0 ≤ 2 * G129_0) ∧ (G120_36 + S120_44 ≤ S120_4)) := by
  subst k120_3
  subst k120_4
  subst k120_5
  subst k120_7
  subst k120_8
  subst k120_36
  subst k120_44
  subst k120_50
  subst k129_0
  subst k136_0
  subst k9006_0
  subst k9010_0
  refine Tr.imp (sp_X12_closesBlock_120_w1 hI en_120_37 hq0 hq1 hq2 hq3 hq4 hq5 hq6 hq7 hq8) ?_
  rintro M' _ ⟨hS, rfl, z0, z1, z2, z3, z4, z5, z6, z7, z8⟩
  rewrite [show rd M' 129 0 = rd M0 129 0 from ((St.kp hS (by decide) (by decide) (by decide)).trans rfl)] at z7
  rewrite [show rd M' 120 36 = rd M0 120 36 from ((St.kp hS (by decide) (by decide) (by decide)).trans rfl)] at z8
  exact ⟨hS, _, _, _, _, _, _, _, _, _, _, rfl, ir_120_3 hS.1.2.1, rfl, ir_120_4 hS.1.2.1, rfl, ir_120_5 hS.1.2.1, rfl, ir_120_7 hS.1.2.1, rfl, ir_120_8 hS.1.2.1, rfl, ir_120_44 hS.1.2.1, rfl, ir_120_50 hS.1.2.1, rfl, ir_136_0 hS.1.2.1, rfl, (nwv_b hS.1.2.1), rfl, (tav_b hS.1.2.1), rfl, hd_i z0, z1, hd_i z2, z3, hd_i z4, hd_i z5, z6, z7, z8⟩

def ws_X12_text_120_w1 : List (Int × Int) := [(120, 1), (120, 2), (120, 3), (120, 4), (120, 5), (120, 6), (120, 7), (120, 8), (120, 9), (120, 10), (120, 11), (120, 12), (120, 36), (120, 37), (120, 43), (120, 44), (120, 46), (120, 47), (120, 50), (120, 85), (120, 104), (120, 106), (120, 109), (122, 0), (123, 0), (124, 0), (125, 0), (126, 0), (127, 0), (128, 0), (129, 0), (136, 0)]
def as_X12_text_120_w1 : List Int := [130, 131, 132, 133, 134, 135, 137, 138, 139, 140, 141, 142, 143, 144, 145, 146, 147, 148, 149, 150, 151, 152, 153]
def q_X12_text_120_w1 (M0 M' : Mem) (r : Option PV) : Prop := St Tru ws_X12_text_120_w1 as_X12_text_120_w1 M0 M' ∧ ∃ v : Int, r = some (0, v) ∧ (-1) ≤ v ∧ v ≤ 60 ∧ (rd M' 120 1 = 0) ∧ ((v = -1 ∧ rd M' 120 12 = 1 ∧ Bk1 M') ∨ (0 ≤ v ∧ rd M' 120 12 = 0 ∧ Bk0 M'))
theorem kp_X12_statement_120_w1_120_1 {q : Mem → Prop} {M0 M : Mem} (h : St q ws_X12_statement_120_w1 as_X12_statement_120_w1 M0 M) : rd M 120 1 = rd M0 120 1 := St.kp h (by decide) (by decide) (by decide)
theorem kp_X12_statement_120_w1_120_12 {q : Mem → Prop} {M0 M : Mem} (h : St q ws_X12_statement_120_w1 as_X12_statement_120_w1 M0 M) : rd M 120 12 = rd M0 120 12 := St.kp h (by decide) (by decide) (by decide)
theorem kp_X12_statement_120_w1_120_2 {q : Mem → Prop} {M0 M : Mem} (h : St q ws_X12_statement_120_w1 as_X12_statement_120_w1 M0 M) : rd M 120 2 = rd M0 120 2 := St.kp h (by decide) (by decide) (by decide)
theorem kp_X12_isSign_120_129_0 {q : Mem → Prop} {M0 M : Mem} (h : St q ws_X12_isSign_120 as_X12_isSign_120 M0 M) : rd M 129 0 = rd M0 129 0 := St.kp h (by decide) (by decide) (by decide)
theorem kp_X12_closesBlock_120_w1_120_1 {q : Mem → Prop} {M0 M : Mem} (h : St q ws_X12_closesBlock_120_w1 as_X12_closesBlock_120_w1 M0 M) : rd M 120 1 = rd M0 120 1 := St.kp h (by decide) (by decide) (by decide)
theorem kp_X12_closesBlock_120_w1_120_12 {q : Mem → Prop} {M0 M : Mem} (h : St q ws_X12_closesBlock_120_w1 as_X12_closesBlock_120_w1 M0 M) : rd M 120 12 = rd M0 120 12 := St.kp h (by decide) (by decide) (by decide)
theorem kp_X12_closesBlock_120_w1_120_2 {q : Mem → Prop} {M0 M : Mem} (h : St q ws_X12_closesBlock_120_w1 as_X12_closesBlock_120_w1 M0 M) : rd M 120 2 = rd M0 120 2 := St.kp h (by decide) (by decide) (by decide)
theorem kp_X12_closesBlock_120_w1_120_36 {q : Mem → Prop} {M0 M : Mem} (h : St q ws_X12_closesBlock_120_w1 as_X12_closesBlock_120_w1 M0 M) : rd M 120 36 = rd M0 120 36 := St.kp h (by decide) (by decide) (by decide)
theorem kp_X12_closesBlock_120_w1_129_0 {q : Mem → Prop} {M0 M : Mem} (h : St q ws_X12_closesBlock_120_w1 as_X12_closesBlock_120_w1 M0 M) : rd M 129 0 = rd M0 129 0 := St.kp h (by decide) (by decide) (by decide)
theorem kp_X12_declares_120_w1_120_1 {q : Mem → Prop} {M0 M : Mem} (h : St q ws_X12_declares_120_w1 as_X12_declares_120_w1 M0 M) : rd M 120 1 = rd M0 120 1 := St.kp h (by decide) (by decide) (by decide)
theorem kp_X12_declares_120_w1_120_12 {q : Mem → Prop} {M0 M : Mem} (h : St q ws_X12_declares_120_w1 as_X12_declares_120_w1 M0 M) : rd M 120 12 = rd M0 120 12 := St.kp h (by decide) (by decide) (by decide)
theorem kp_X12_declares_120_w1_120_2 {q : Mem → Prop} {M0 M : Mem} (h : St q ws_X12_declares_120_w1 as_X12_declares_120_w1 M0 M) : rd M 120 2 = rd M0 120 2 := St.kp h (by decide) (by decide) (by decide)
theorem kp_X12_declares_120_w1_120_36 {q : Mem → Prop} {M0 M : Mem} (h : St q ws_X12_declares_120_w1 as_X12_declares_120_w1 M0 M) : rd M 120 36 = rd M0 120 36 := St.kp h (by decide) (by decide) (by decide)
theorem kp_X12_declares_120_w1_120_44 {q : Mem → Prop} {M0 M : Mem} (h : St q ws_X12_declares_120_w1 as_X12_declares_120_w1 M0 M) : rd M 120 44 = rd M0 120 44 := St.kp h (by decide) (by decide) (by decide)
theorem kp_X12_declares_120_w1_120_50 {q : Mem → Prop} {M0 M : Mem} (h : St q ws_X12_declares_120_w1 as_X12_declares_120_w1 M0 M) : rd M 120 50 = rd M0 120 50 := St.kp h (by decide) (by decide) (by decide)
theorem kp_X12_declares_120_w1_129_0 {q : Mem → Prop} {M0 M : Mem} (h : St q ws_X12_declares_120_w1 as_X12_declares_120_w1 M0 M) : rd M 129 0 = rd M0 129 0 := St.kp h (by decide) (by decide) (by decide)
theorem kp_X12_declares_120_w1_136_0 {q : Mem → Prop} {M0 M : Mem} (h : St q ws_X12_declares_120_w1 as_X12_declares_120_w1 M0 M) : rd M 136 0 = rd M0 136 0 := St.kp h (by decide) (by decide) (by decide)
theorem ka_X12_declares_120_w1_151 {q : Mem → Prop} {M0 M : Mem} (h : St q ws_X12_declares_120_w1 as_X12_declares_120_w1 M0 M) (j : Int) : rd M 151 j = rd M0 151 j := St.ka h (by decide) (by decide) (by decide)
theorem kp_X12_next_120_w1_120_1 {q : Mem → Prop} {M0 M : Mem} (h : St q ws_X12_next_120_w1 as_X12_next_120_w1 M0 M) : rd M 120 1 = rd M0 120 1 := St.kp h (by decide) (by decide) (by decide)
theorem kp_X12_next_120_w1_120_12 {q : Mem → Prop} {M0 M : Mem} (h : St q ws_X12_next_120_w1 as_X12_next_120_w1 M0 M) : rd M 120 12 = rd M0 120 12 := St.kp h (by decide) (by decide) (by decide)
theorem kp_X12_next_120_w1_120_2 {q : Mem → Prop} {M0 M : Mem} (h : St q ws_X12_next_120_w1 as_X12_next_120_w1 M0 M) : rd M 120 2 = rd M0 120 2 := St.kp h (by decide) (by decide) (by decide)
theorem kp_X12_next_120_w1_120_37 {q : Mem → Prop} {M0 M : Mem} (h : St q ws_X12_next_120_w1 as_X12_next_120_w1 M0 M) : rd M 120 37 = rd M0 120 37 := St.kp h (by decide) (by decide) (by decide)
set_option maxRecDepth 100000 in
set_option maxHeartbeats 4000000 in
theorem sp_X12_text_120_w1 {l : Launch} {K : EC} {M0 : Mem} (hI : In Tru M0) (en_120_12 : rd M0 120 12 = 1)   (hF_Bk1 : Bk1 M0) : Tr l K 6 mX12_text 0 [(0, (2, 120))] [] M0 (q_X12_text_120_w1 M0) := by
  have hS : St Tru ws_X12_text_120_w1 as_X12_text_120_w1 M0 M0 := St.rf hI
  obtain ⟨g120_8, eg120_8⟩ : ∃ v, rd M0 120 8 = v := ⟨_, rfl⟩
  have bg120_8 : 0 ≤ g120_8 ∧ g120_8 ≤ 5 := by rw [← eg120_8]; exact ir_120_8 hI.2.1
  obtain ⟨g120_3, eg120_3⟩ : ∃ v, rd M0 120 3 = v := ⟨_, rfl⟩
  have bg120_3 : 0 ≤ g120_3 ∧ g120_3 ≤ 3 := by rw [← eg120_3]; exact ir_120_3 hI.2.1
  obtain ⟨g120_4, eg120_4⟩ : ∃ v, rd M0 120 4 = v := ⟨_, rfl⟩
  have bg120_4 : 0 ≤ g120_4 ∧ g120_4 ≤ 900 := by rw [← eg120_4]; exact ir_120_4 hI.2.1
  obtain ⟨g120_5, eg120_5⟩ : ∃ v, rd M0 120 5 = v := ⟨_, rfl⟩
  have bg120_5 : 0 ≤ g120_5 ∧ g120_5 ≤ 900 := by rw [← eg120_5]; exact ir_120_5 hI.2.1
  obtain ⟨g120_7, eg120_7⟩ : ∃ v, rd M0 120 7 = v := ⟨_, rfl⟩
  have bg120_7 : (-9223372036854775808) ≤ g120_7 ∧ g120_7 ≤ 9223372036854775807 := by rw [← eg120_7]; exact ir_120_7 hI.2.1
  obtain ⟨g9010_0, eg9010_0⟩ : ∃ v, tav M0 = v := ⟨_, rfl⟩
  have bg9010_0 : (-1) ≤ g9010_0 ∧ g9010_0 ≤ 1800 := by rw [← eg9010_0]; exact (tav_b hI.2.1)
  obtain ⟨g120_6, eg120_6⟩ : ∃ v, rd M0 120 6 = v := ⟨_, rfl⟩
  have bg120_6 : (-2147483648) ≤ g120_6 ∧ g120_6 ≤ 2147483647 := by rw [← eg120_6]; exact ir_120_6 hI.2.1
  obtain ⟨g120_36, eg120_36⟩ : ∃ v, rd M0 120 36 = v := ⟨_, rfl⟩
  have bg120_36 : 0 ≤ g120_36 ∧ g120_36 ≤ 900 := by rw [← eg120_36]; exact ir_120_36 hI.2.1
  obtain ⟨g120_44, eg120_44⟩ : ∃ v, rd M0 120 44 = v := ⟨_, rfl⟩
  have bg120_44 : 0 ≤ g120_44 ∧ g120_44 ≤ 8 := by rw [← eg120_44]; exact ir_120_44 hI.2.1
  obtain ⟨g120_50, eg120_50⟩ : ∃ v, rd M0 120 50 = v := ⟨_, rfl⟩
  have bg120_50 : 0 ≤ g120_50 ∧ g120_50 ≤ 20 := by rw [← eg120_50]; exact ir_120_50 hI.2.1
  obtain ⟨g136_0, eg136_0⟩ : ∃ v, rd M0 136 0 = v := ⟨_, rfl⟩
  have bg136_0 : 0 ≤ g136_0 ∧ g136_0 ≤ 200 := by rw [← eg136_0]; exact ir_136_0 hI.2.1
  obtain ⟨g9006_0, eg9006_0⟩ : ∃ v, nwv M0 = v := ⟨_, rfl⟩
  have bg9006_0 : 0 ≤ g9006_0 ∧ g9006_0 ≤ 20 := by rw [← eg9006_0]; exact (nwv_b hI.2.1)
  obtain ⟨g129_0, eg129_0⟩ : ∃ v, rd M0 129 0 = v := ⟨_, rfl⟩
  have bg129_0 : 0 ≤ g129_0 ∧ g129_0 ≤ 60 := by rw [← eg129_0]; exact ir_129_0 hI.2.1
  refine Tr.aload_n (pc := 0) (i := 0) d_X12_text_0 rfl rfl ?_
  refine Tr.aload_n (pc := 1) (i := 0) d_X12_text_1 rfl rfl ?_
  refine Tr.getf (pc := 2) d_X12_text_2 f_12_13 (by decide) (by decide) (ty_120 hS.1.1) ?_
  refine Tr.gen (P := fun v => 0 ≤ v ∧ v ≤ 900) (ir_120_1 hS.1.2.1) (fun r2 er2 br2 => ?_)
  refine Tr.putfS (pc := 5) (P := St Tru ws_X12_text_120_w1 as_X12_text_120_w1 M0) d_X12_text_5 f_12_17 (by decide) (by decide) (ty_120 hS.1.1) (st_120_2 hS (by decide) (by and_intros <;> omega) trivial) (fun M5 hS w5 => ?_)
  refine Tr.aload_n (pc := 8) (i := 0) d_X12_text_8 rfl rfl ?_
  refine Tr.iconst (pc := 9) d_X12_text_9 (by decide) ?_
  refine Tr.putfS (pc := 10) (P := St Tru ws_X12_text_120_w1 as_X12_text_120_w1 M0) d_X12_text_10 f_12_13 (by decide) (by decide) (ty_120 hS.1.1) (st_120_1 hS (by decide) (by omega) trivial) (fun M10 hS w10 => ?_)
  refine Tr.aload_n (pc := 13) (i := 0) d_X12_text_13 rfl rfl ?_
  refine Tr.iconst (pc := 14) d_X12_text_14 (by decide) ?_
  refine Tr.putfS (pc := 15) (P := St Tru ws_X12_text_120_w1 as_X12_text_120_w1 M0) d_X12_text_15 f_12_26 (by decide) (by decide) (ty_120 hS.1.1) (st_120_5 hS (by decide) (by omega) trivial) (fun M15 hS w15 => ?_)
  refine Tr.aload_n (pc := 18) (i := 0) d_X12_text_18 rfl rfl ?_
  refine Tr.iconst (pc := 19) d_X12_text_19 (by decide) ?_
  refine Tr.putfS (pc := 20) (P := St Tru ws_X12_text_120_w1 as_X12_text_120_w1 M0) d_X12_text_20 f_12_36 (by decide) (by decide) (ty_120 hS.1.1) (st_120_8 hS (by decide) (by omega) trivial) (fun M20 hS w20 => ?_)
  refine Tr.aload_n (pc := 23) (i := 0) d_X12_text_23 rfl rfl ?_
  refine Tr.iconst (pc := 24) d_X12_text_24 (by decide) ?_
  refine Tr.putfS (pc := 25) (P := St Tru ws_X12_text_120_w1 as_X12_text_120_w1 M0) d_X12_text_25 f_12_39 (by decide) (by decide) (ty_120 hS.1.1) (st_120_9 hS (by decide) (by omega) trivial) (fun M25 hS w25 => ?_)
  refine Tr.aload_n (pc := 28) (i := 0) d_X12_text_28 rfl rfl ?_
  refine Tr.iconst (pc := 29) d_X12_text_29 (by decide) ?_
  refine Tr.aload_n (pc := 30) (i := 0) d_X12_text_30 rfl rfl ?_
  refine Tr.getf (pc := 31) d_X12_text_31 f_12_48 (by decide) (by decide) (ty_120 hS.1.1) ?_
  refine Tr.tp 1 ((Wr.b w25 rfl).trans ((Wr.b w20 rfl).trans ((Wr.b w15 rfl).trans ((Wr.b w10 rfl).trans ((Wr.b w5 rfl).trans en_120_12))))) ?_
  refine Tr.isub (pc := 34) d_X12_text_34 ?_
  refine Tr.tp 0 (by decide) ?_
  refine Tr.putfS (pc := 35) (P := St Tru ws_X12_text_120_w1 as_X12_text_120_w1 M0) d_X12_text_35 f_12_124 (by decide) (by decide) (ty_120 hS.1.1) (st_120_37 hS (by decide) (by omega) trivial) (fun M35 hS w35 => ?_)
  refine Tr.aload_n (pc := 38) (i := 0) d_X12_text_38 rfl rfl ?_
  refine Tr.getf (pc := 39) d_X12_text_39 f_12_51 (by decide) (by decide) (ty_120 hS.1.1) ?_
  refine Tr.tp 122 (fx_120_13 hS.1.1) ?_
  refine Tr.aload_n (pc := 42) (i := 0) d_X12_text_42 rfl rfl ?_
  refine Tr.getf (pc := 43) d_X12_text_43 f_12_124 (by decide) (by decide) (ty_120 hS.1.1) ?_
  refine Tr.tp 0 w35.1 ?_
  refine Tr.iconst (pc := 46) d_X12_text_46 (by decide) ?_
  refine Tr.iastS (pc := 47) (P := St Tru ws_X12_text_120_w1 as_X12_text_120_w1 M0) d_X12_text_47 (ty_122 hS.1.1) (by omega) (by omega) (st_122_0 hS (by decide) (by omega) trivial) (fun M47 hS w47 => ?_)
  refine Tr.aload_n (pc := 48) (i := 0) d_X12_text_48 rfl rfl ?_
  refine Tr.getf (pc := 49) d_X12_text_49 f_12_54 (by decide) (by decide) (ty_120 hS.1.1) ?_
  refine Tr.tp 123 (fx_120_14 hS.1.1) ?_
  refine Tr.aload_n (pc := 52) (i := 0) d_X12_text_52 rfl rfl ?_
  refine Tr.getf (pc := 53) d_X12_text_53 f_12_124 (by decide) (by decide) (ty_120 hS.1.1) ?_
  refine Tr.tp 0 ((Wr.b w47 rfl).trans w35.1) ?_
  refine Tr.iconst (pc := 56) d_X12_text_56 (by decide) ?_
  refine Tr.iastS (pc := 57) (P := St Tru ws_X12_text_120_w1 as_X12_text_120_w1 M0) d_X12_text_57 (ty_123 hS.1.1) (by omega) (by omega) (st_123_0 hS (by decide) (by omega) trivial) (fun M57 hS w57 => ?_)
  refine Tr.aload_n (pc := 58) (i := 0) d_X12_text_58 rfl rfl ?_
  refine Tr.getf (pc := 59) d_X12_text_59 f_12_57 (by decide) (by decide) (ty_120 hS.1.1) ?_
  refine Tr.tp 124 (fx_120_15 hS.1.1) ?_
  refine Tr.aload_n (pc := 62) (i := 0) d_X12_text_62 rfl rfl ?_
  refine Tr.getf (pc := 63) d_X12_text_63 f_12_124 (by decide) (by decide) (ty_120 hS.1.1) ?_
  refine Tr.tp 0 ((Wr.b w57 rfl).trans ((Wr.b w47 rfl).trans w35.1)) ?_
  refine Tr.iconst (pc := 66) d_X12_text_66 (by decide) ?_
  refine Tr.iastS (pc := 67) (P := St Tru ws_X12_text_120_w1 as_X12_text_120_w1 M0) d_X12_text_67 (ty_124 hS.1.1) (by omega) (by omega) (st_124_0 hS (by decide) (by omega) trivial) (fun M67 hS w67 => ?_)
  refine Tr.aload_n (pc := 68) (i := 0) d_X12_text_68 rfl rfl ?_
  refine Tr.getf (pc := 69) d_X12_text_69 f_12_60 (by decide) (by decide) (ty_120 hS.1.1) ?_
  refine Tr.tp 125 (fx_120_16 hS.1.1) ?_
  refine Tr.aload_n (pc := 72) (i := 0) d_X12_text_72 rfl rfl ?_
  refine Tr.getf (pc := 73) d_X12_text_73 f_12_124 (by decide) (by decide) (ty_120 hS.1.1) ?_
  refine Tr.tp 0 ((Wr.b w67 rfl).trans ((Wr.b w57 rfl).trans ((Wr.b w47 rfl).trans w35.1))) ?_
  refine Tr.iconst (pc := 76) d_X12_text_76 (by decide) ?_
  refine Tr.iastS (pc := 77) (P := St Tru ws_X12_text_120_w1 as_X12_text_120_w1 M0) d_X12_text_77 (ty_125 hS.1.1) (by omega) (by omega) (st_125_0 hS (by decide) (by omega) trivial) (fun M77 hS w77 => ?_)
  refine Tr.aload_n (pc := 78) (i := 0) d_X12_text_78 rfl rfl ?_
  refine Tr.getf (pc := 79) d_X12_text_79 f_12_63 (by decide) (by decide) (ty_120 hS.1.1) ?_
  refine Tr.tp 126 (fx_120_17 hS.1.1) ?_
  refine Tr.aload_n (pc := 82) (i := 0) d_X12_text_82 rfl rfl ?_
  refine Tr.getf (pc := 83) d_X12_text_83 f_12_124 (by decide) (by decide) (ty_120 hS.1.1) ?_
  refine Tr.tp 0 ((Wr.b w77 rfl).trans ((Wr.b w67 rfl).trans ((Wr.b w57 rfl).trans ((Wr.b w47 rfl).trans w35.1)))) ?_
  refine Tr.iconst (pc := 86) d_X12_text_86 (by decide) ?_
  refine Tr.iastS (pc := 87) (P := St Tru ws_X12_text_120_w1 as_X12_text_120_w1 M0) d_X12_text_87 (ty_126 hS.1.1) (by omega) (by omega) (st_126_0 hS (by decide) (by omega) trivial) (fun M87 hS w87 => ?_)
  refine Tr.aload_n (pc := 88) (i := 0) d_X12_text_88 rfl rfl ?_
  refine Tr.getf (pc := 89) d_X12_text_89 f_12_66 (by decide) (by decide) (ty_120 hS.1.1) ?_
  refine Tr.tp 127 (fx_120_18 hS.1.1) ?_
  refine Tr.aload_n (pc := 92) (i := 0) d_X12_text_92 rfl rfl ?_
  refine Tr.getf (pc := 93) d_X12_text_93 f_12_124 (by decide) (by decide) (ty_120 hS.1.1) ?_
  refine Tr.tp 0 ((Wr.b w87 rfl).trans ((Wr.b w77 rfl).trans ((Wr.b w67 rfl).trans ((Wr.b w57 rfl).trans ((Wr.b w47 rfl).trans w35.1))))) ?_
  refine Tr.iconst (pc := 96) d_X12_text_96 (by decide) ?_
  refine Tr.iastS (pc := 97) (P := St Tru ws_X12_text_120_w1 as_X12_text_120_w1 M0) d_X12_text_97 (ty_127 hS.1.1) (by omega) (by omega) (st_127_0 hS (by decide) (by omega) trivial) (fun M97 hS w97 => ?_)
  refine Tr.aload_n (pc := 98) (i := 0) d_X12_text_98 rfl rfl ?_
  refine Tr.getf (pc := 99) d_X12_text_99 f_12_69 (by decide) (by decide) (ty_120 hS.1.1) ?_
  refine Tr.tp 128 (fx_120_19 hS.1.1) ?_
  refine Tr.aload_n (pc := 102) (i := 0) d_X12_text_102 rfl rfl ?_
  refine Tr.getf (pc := 103) d_X12_text_103 f_12_124 (by decide) (by decide) (ty_120 hS.1.1) ?_
  refine Tr.tp 0 ((Wr.b w97 rfl).trans ((Wr.b w87 rfl).trans ((Wr.b w77 rfl).trans ((Wr.b w67 rfl).trans ((Wr.b w57 rfl).trans ((Wr.b w47 rfl).trans w35.1)))))) ?_
  refine Tr.iconst (pc := 106) d_X12_text_106 (by decide) ?_
  refine Tr.iastS (pc := 107) (P := St Tru ws_X12_text_120_w1 as_X12_text_120_w1 M0) d_X12_text_107 (ty_128 hS.1.1) (by omega) (by omega) (st_128_0 hS (by decide) (by omega) trivial) (fun M107 hS w107 => ?_)
  refine Tr.aload_n (pc := 108) (i := 0) d_X12_text_108 rfl rfl ?_
  refine Tr.getf (pc := 109) d_X12_text_109 f_12_72 (by decide) (by decide) (ty_120 hS.1.1) ?_
  refine Tr.tp 129 (fx_120_20 hS.1.1) ?_
  refine Tr.aload_n (pc := 112) (i := 0) d_X12_text_112 rfl rfl ?_
  refine Tr.getf (pc := 113) d_X12_text_113 f_12_124 (by decide) (by decide) (ty_120 hS.1.1) ?_
  refine Tr.tp 0 ((Wr.b w107 rfl).trans ((Wr.b w97 rfl).trans ((Wr.b w87 rfl).trans ((Wr.b w77 rfl).trans ((Wr.b w67 rfl).trans ((Wr.b w57 rfl).trans ((Wr.b w47 rfl).trans w35.1))))))) ?_
  refine Tr.iconst (pc := 116) d_X12_text_116 (by decide) ?_
  refine Tr.iastS (pc := 117) (P := St Tru ws_X12_text_120_w1 as_X12_text_120_w1 M0) d_X12_text_117 (ty_129 hS.1.1) (by omega) (by omega) (st_129_0 hS (by decide) (by omega) trivial) (fun M117 hS w117 => ?_)
  refine Tr.aload_n (pc := 118) (i := 0) d_X12_text_118 rfl rfl ?_
  refine Tr.getf (pc := 119) d_X12_text_119 f_12_94 (by decide) (by decide) (ty_120 hS.1.1) ?_
  refine Tr.tp 136 (fx_120_27 hS.1.1) ?_
  refine Tr.aload_n (pc := 122) (i := 0) d_X12_text_122 rfl rfl ?_
  refine Tr.getf (pc := 123) d_X12_text_123 f_12_124 (by decide) (by decide) (ty_120 hS.1.1) ?_
  refine Tr.tp 0 ((Wr.b w117 rfl).trans ((Wr.b w107 rfl).trans ((Wr.b w97 rfl).trans ((Wr.b w87 rfl).trans ((Wr.b w77 rfl).trans ((Wr.b w67 rfl).trans ((Wr.b w57 rfl).trans ((Wr.b w47 rfl).trans w35.1)))))))) ?_
  refine Tr.iconst (pc := 126) d_X12_text_126 (by decide) ?_
  refine Tr.iastS (pc := 127) (P := St Tru ws_X12_text_120_w1 as_X12_text_120_w1 M0) d_X12_text_127 (ty_136 hS.1.1) (by omega) (by omega) (st_136_0 hS (by decide) (by omega) trivial) (fun M127 hS w127 => ?_)
  refine Tr.aload_n (pc := 128) (i := 0) d_X12_text_128 rfl rfl ?_
  refine Tr.iconst (pc := 129) d_X12_text_129 (by decide) ?_
  refine Tr.putfS (pc := 130) (P := St Tru ws_X12_text_120_w1 as_X12_text_120_w1 M0) d_X12_text_130 f_12_121 (by decide) (by decide) (ty_120 hS.1.1) (st_120_36 hS (by decide) (by omega) trivial) (fun M130 hS w130 => ?_)
  refine Tr.aload_n (pc := 133) (i := 0) d_X12_text_133 rfl rfl ?_
  refine Tr.iconst (pc := 134) d_X12_text_134 (by decide) ?_
  refine Tr.putfS (pc := 135) (P := St Tru ws_X12_text_120_w1 as_X12_text_120_w1 M0) d_X12_text_135 f_12_146 (by decide) (by decide) (ty_120 hS.1.1) (st_120_44 hS (by decide) (by omega) trivial) (fun M135 hS w135 => ?_)
  refine Tr.aload_n (pc := 138) (i := 0) d_X12_text_138 rfl rfl ?_
  refine Tr.iconst (pc := 139) d_X12_text_139 (by decide) ?_
  refine Tr.putfS (pc := 140) (P := St Tru ws_X12_text_120_w1 as_X12_text_120_w1 M0) d_X12_text_140 f_12_165 (by decide) (by decide) (ty_120 hS.1.1) (st_120_50 hS (by decide) (by omega) trivial) (fun M140 hS w140 => ?_)
  obtain ⟨v140_9006, ev140_9006⟩ : ∃ v, nwv M140 = v := ⟨_, rfl⟩
  have bv140_9006 : 0 ≤ v140_9006 ∧ v140_9006 ≤ 20 := by rw [← ev140_9006]; exact (nwv_b hS.1.2.1)
  have fv140_9006 : v140_9006 = 0 := by have h8 := ct_zero (x := 151) (j := 50) (e := 1) (a := 0) (b := 1) (M := M140) w140.1; have h7 : ctV 151 50 1 0 1 M140 = v140_9006 := ev140_9006; omega
  have hS := St.rn (r := Pm0) hS (Pm0_new (Bk1.of hF_Bk1 (fun j => ((Wr.b w140 rfl).trans ((Wr.b w135 rfl).trans ((Wr.b w130 rfl).trans ((Wr.b w127 rfl).trans ((Wr.b w117 rfl).trans ((Wr.b w107 rfl).trans ((Wr.b w97 rfl).trans ((Wr.b w87 rfl).trans ((Wr.b w77 rfl).trans ((Wr.b w67 rfl).trans ((Wr.b w57 rfl).trans ((Wr.b w47 rfl).trans ((Wr.b w35 rfl).trans ((Wr.b w25 rfl).trans ((Wr.b w20 rfl).trans ((Wr.b w15 rfl).trans ((Wr.b w10 rfl).trans ((Wr.b w5 rfl).trans rfl))))))))))))))))))) (fun j => ((Wr.b w140 rfl).trans ((Wr.b w135 rfl).trans ((Wr.b w130 rfl).trans ((Wr.b w127 rfl).trans ((Wr.b w117 rfl).trans ((Wr.b w107 rfl).trans ((Wr.b w97 rfl).trans ((Wr.b w87 rfl).trans ((Wr.b w77 rfl).trans ((Wr.b w67 rfl).trans ((Wr.b w57 rfl).trans ((Wr.b w47 rfl).trans ((Wr.b w35 rfl).trans ((Wr.b w25 rfl).trans ((Wr.b w20 rfl).trans ((Wr.b w15 rfl).trans ((Wr.b w10 rfl).trans ((Wr.b w5 rfl).trans rfl))))))))))))))))))) (fun j => ((Wr.b w140 rfl).trans ((Wr.b w135 rfl).trans ((Wr.b w130 rfl).trans ((Wr.b w127 rfl).trans ((Wr.b w117 rfl).trans ((Wr.b w107 rfl).trans ((Wr.b w97 rfl).trans ((Wr.b w87 rfl).trans ((Wr.b w77 rfl).trans ((Wr.b w67 rfl).trans ((Wr.b w57 rfl).trans ((Wr.b w47 rfl).trans ((Wr.b w35 rfl).trans ((Wr.b w25 rfl).trans ((Wr.b w20 rfl).trans ((Wr.b w15 rfl).trans ((Wr.b w10 rfl).trans ((Wr.b w5 rfl).trans rfl))))))))))))))))))) (fun j => ((Wr.b w140 rfl).trans ((Wr.b w135 rfl).trans ((Wr.b w130 rfl).trans ((Wr.b w127 rfl).trans ((Wr.b w117 rfl).trans ((Wr.b w107 rfl).trans ((Wr.b w97 rfl).trans ((Wr.b w87 rfl).trans ((Wr.b w77 rfl).trans ((Wr.b w67 rfl).trans ((Wr.b w57 rfl).trans ((Wr.b w47 rfl).trans ((Wr.b w35 rfl).trans ((Wr.b w25 rfl).trans ((Wr.b w20 rfl).trans ((Wr.b w15 rfl).trans ((Wr.b w10 rfl).trans ((Wr.b w5 rfl).trans rfl))))))))))))))))))) (fun j => ((Wr.b w140 rfl).trans ((Wr.b w135 rfl).trans ((Wr.b w130 rfl).trans ((Wr.b w127 rfl).trans ((Wr.b w117 rfl).trans ((Wr.b w107 rfl).trans ((Wr.b w97 rfl).trans ((Wr.b w87 rfl).trans ((Wr.b w77 rfl).trans ((Wr.b w67 rfl).trans ((Wr.b w57 rfl).trans ((Wr.b w47 rfl).trans ((Wr.b w35 rfl).trans ((Wr.b w25 rfl).trans ((Wr.b w20 rfl).trans ((Wr.b w15 rfl).trans ((Wr.b w10 rfl).trans ((Wr.b w5 rfl).trans rfl))))))))))))))))))) (fun j => ((Wr.b w140 rfl).trans ((Wr.b w135 rfl).trans ((Wr.b w130 rfl).trans ((Wr.b w127 rfl).trans ((Wr.b w117 rfl).trans ((Wr.b w107 rfl).trans ((Wr.b w97 rfl).trans ((Wr.b w87 rfl).trans ((Wr.b w77 rfl).trans ((Wr.b w67 rfl).trans ((Wr.b w57 rfl).trans ((Wr.b w47 rfl).trans ((Wr.b w35 rfl).trans ((Wr.b w25 rfl).trans ((Wr.b w20 rfl).trans ((Wr.b w15 rfl).trans ((Wr.b w10 rfl).trans ((Wr.b w5 rfl).trans rfl))))))))))))))))))) (fun j => ((Wr.b w140 rfl).trans ((Wr.b w135 rfl).trans ((Wr.b w130 rfl).trans ((Wr.b w127 rfl).trans ((Wr.b w117 rfl).trans ((Wr.b w107 rfl).trans ((Wr.b w97 rfl).trans ((Wr.b w87 rfl).trans ((Wr.b w77 rfl).trans ((Wr.b w67 rfl).trans ((Wr.b w57 rfl).trans ((Wr.b w47 rfl).trans ((Wr.b w35 rfl).trans ((Wr.b w25 rfl).trans ((Wr.b w20 rfl).trans ((Wr.b w15 rfl).trans ((Wr.b w10 rfl).trans ((Wr.b w5 rfl).trans rfl))))))))))))))))))) (fun j => ((Wr.b w140 rfl).trans ((Wr.b w135 rfl).trans ((Wr.b w130 rfl).trans ((Wr.b w127 rfl).trans ((Wr.b w117 rfl).trans ((Wr.b w107 rfl).trans ((Wr.b w97 rfl).trans ((Wr.b w87 rfl).trans ((Wr.b w77 rfl).trans ((Wr.b w67 rfl).trans ((Wr.b w57 rfl).trans ((Wr.b w47 rfl).trans ((Wr.b w35 rfl).trans ((Wr.b w25 rfl).trans ((Wr.b w20 rfl).trans ((Wr.b w15 rfl).trans ((Wr.b w10 rfl).trans ((Wr.b w5 rfl).trans rfl))))))))))))))))))) ((Wr.b w140 rfl).trans ((Wr.b w135 rfl).trans ((Wr.b w130 rfl).trans ((Wr.b w127 rfl).trans ((Wr.b w117 rfl).trans ((Wr.b w107 rfl).trans ((Wr.b w97 rfl).trans ((Wr.b w87 rfl).trans ((Wr.b w77 rfl).trans ((Wr.b w67 rfl).trans ((Wr.b w57 rfl).trans ((Wr.b w47 rfl).trans ((Wr.b w35 rfl).trans ((Wr.b w25 rfl).trans ((Wr.b w20 rfl).trans ((Wr.b w15 rfl).trans ((Wr.b w10 rfl).trans ((Wr.b w5 rfl).trans rfl)))))))))))))))))) ((Wr.b w140 rfl).trans ((Wr.b w135 rfl).trans ((Wr.b w130 rfl).trans ((Wr.b w127 rfl).trans ((Wr.b w117 rfl).trans ((Wr.b w107 rfl).trans ((Wr.b w97 rfl).trans ((Wr.b w87 rfl).trans ((Wr.b w77 rfl).trans ((Wr.b w67 rfl).trans ((Wr.b w57 rfl).trans ((Wr.b w47 rfl).trans ((Wr.b w35 rfl).trans ((Wr.b w25 rfl).trans ((Wr.b w20 rfl).trans ((Wr.b w15 rfl).trans ((Wr.b w10 rfl).trans ((Wr.b w5 rfl).trans rfl)))))))))))))))))) ((Wr.b w140 rfl).trans ((Wr.b w135 rfl).trans ((Wr.b w130 rfl).trans ((Wr.b w127 rfl).trans ((Wr.b w117 rfl).trans ((Wr.b w107 rfl).trans ((Wr.b w97 rfl).trans ((Wr.b w87 rfl).trans ((Wr.b w77 rfl).trans ((Wr.b w67 rfl).trans ((Wr.b w57 rfl).trans ((Wr.b w47 rfl).trans ((Wr.b w35 rfl).trans ((Wr.b w25 rfl).trans ((Wr.b w20 rfl).trans ((Wr.b w15 rfl).trans ((Wr.b w10 rfl).trans ((Wr.b w5 rfl).trans rfl)))))))))))))))))) ((Wr.b w140 rfl).trans ((Wr.b w135 rfl).trans ((Wr.b w130 rfl).trans ((Wr.b w127 rfl).trans ((Wr.b w117 rfl).trans ((Wr.b w107 rfl).trans ((Wr.b w97 rfl).trans ((Wr.b w87 rfl).trans ((Wr.b w77 rfl).trans ((Wr.b w67 rfl).trans ((Wr.b w57 rfl).trans ((Wr.b w47 rfl).trans ((Wr.b w35 rfl).trans ((Wr.b w25 rfl).trans ((Wr.b w20 rfl).trans ((Wr.b w15 rfl).trans ((Wr.b w10 rfl).trans ((Wr.b w5 rfl).trans rfl))))))))))))))))))) (((Wr.b w140 rfl).trans ((Wr.b w135 rfl).trans ((Wr.b w130 rfl).trans ((Wr.b w127 rfl).trans ((Wr.b w117 rfl).trans ((Wr.b w107 rfl).trans ((Wr.b w97 rfl).trans w87.1)))))))) (((Wr.b w140 rfl).trans ((Wr.b w135 rfl).trans ((Wr.b w130 rfl).trans w127.1)))) (((Wr.b w140 rfl).trans ((Wr.b w135 rfl).trans ((Wr.b w130 rfl).trans ((Wr.b w127 rfl).trans ((Wr.b w117 rfl).trans ((Wr.b w107 rfl).trans ((Wr.b w97 rfl).trans ((Wr.b w87 rfl).trans ((Wr.b w77 rfl).trans ((Wr.b w67 rfl).trans w57.1))))))))))) (((Wr.b w140 rfl).trans ((Wr.b w135 rfl).trans ((Wr.b w130 rfl).trans ((Wr.b w127 rfl).trans ((Wr.b w117 rfl).trans ((Wr.b w107 rfl).trans ((Wr.b w97 rfl).trans ((Wr.b w87 rfl).trans ((Wr.b w77 rfl).trans w67.1)))))))))) (w140.1))
  refine Tr.aload_n (pc := 143) (i := 0) d_X12_text_143 rfl rfl ?_
  refine Tr.callV (pc := 144) (as := []) d_X12_text_144 s_12_396 ok_X12_next rfl rfl (Nat.le_of_ble_eq_true rfl) (Nat.le_of_ble_eq_true rfl) (by decide) (ty_120 hS.1.1) ?_
  obtain ⟨w144_9010_0, ew144_9010_0⟩ : ∃ v, tav M140 = v := ⟨_, rfl⟩
  have bw144_9010_0 : (-1) ≤ w144_9010_0 ∧ w144_9010_0 ≤ 1800 := by rw [← ew144_9010_0]; exact (tav_b hS.1.2.1)
  refine Tr.imp (Tr.deep (by decide) (ns_X12_next_120_w1 (G120_3 := g120_3) (G120_5 := 0) (G120_8 := 0) (G9010_0 := w144_9010_0) hS.1 (((Wr.b w140 rfl).trans ((Wr.b w135 rfl).trans ((Wr.b w130 rfl).trans ((Wr.b w127 rfl).trans ((Wr.b w117 rfl).trans ((Wr.b w107 rfl).trans ((Wr.b w97 rfl).trans ((Wr.b w87 rfl).trans ((Wr.b w77 rfl).trans ((Wr.b w67 rfl).trans ((Wr.b w57 rfl).trans ((Wr.b w47 rfl).trans ((Wr.b w35 rfl).trans ((Wr.b w25 rfl).trans ((Wr.b w20 rfl).trans ((Wr.b w15 rfl).trans ((Wr.b w10 rfl).trans ((Wr.b w5 rfl).trans eg120_3))))))))))))))))))) (((Wr.b w140 rfl).trans ((Wr.b w135 rfl).trans ((Wr.b w130 rfl).trans ((Wr.b w127 rfl).trans ((Wr.b w117 rfl).trans ((Wr.b w107 rfl).trans ((Wr.b w97 rfl).trans ((Wr.b w87 rfl).trans ((Wr.b w77 rfl).trans ((Wr.b w67 rfl).trans ((Wr.b w57 rfl).trans ((Wr.b w47 rfl).trans ((Wr.b w35 rfl).trans ((Wr.b w25 rfl).trans ((Wr.b w20 rfl).trans w15.1)))))))))))))))) (((Wr.b w140 rfl).trans ((Wr.b w135 rfl).trans ((Wr.b w130 rfl).trans ((Wr.b w127 rfl).trans ((Wr.b w117 rfl).trans ((Wr.b w107 rfl).trans ((Wr.b w97 rfl).trans ((Wr.b w87 rfl).trans ((Wr.b w77 rfl).trans ((Wr.b w67 rfl).trans ((Wr.b w57 rfl).trans ((Wr.b w47 rfl).trans ((Wr.b w35 rfl).trans ((Wr.b w25 rfl).trans w20.1))))))))))))))) (ew144_9010_0))) ?_
  rintro M144 _ ⟨h144, s144_120_3, s144_120_4, s144_120_5, s144_120_7, s144_120_8, s144_9010_0, es144_120_3, bs144_120_3, es144_120_4, bs144_120_4, es144_120_5, bs144_120_5, es144_120_7, bs144_120_7, es144_120_8, bs144_120_8, es144_9010_0, bs144_9010_0, rfl, z144_0, z144_1, z144_2, z144_3, z144_4, z144_5, z144_6⟩
  have hS := St.tr hS h144 (by decide) (by decide)
  refine Tr.sc [] rfl ?_
  refine Tr.iconst (pc := 147) d_X12_text_147 (by decide) ?_
  refine Tr.istore_n (pc := 148) (i := 1) (ls2 := [(1, (0, 1)), (0, (2, 120))]) d_X12_text_148 rfl (by decide) rfl ?_
  have J149 : ∀ (n149 : Nat) (M : Mem) (p149_1 u149_120_3 u149_120_4 u149_120_5 u149_120_6 u149_120_7 u149_120_8 u149_9010_0 : Int), St Pm0 ws_X12_text_120_w1 as_X12_text_120_w1 M0 M → (0 ≤ p149_1 ∧ p149_1 ≤ 1) → (0 ≤ u149_120_3 ∧ u149_120_3 ≤ 3) → (0 ≤ u149_120_4 ∧ u149_120_4 ≤ 900) → (0 ≤ u149_120_5 ∧ u149_120_5 ≤ 900) → ((-2147483648) ≤ u149_120_6 ∧ u149_120_6 ≤ 2147483647) → ((-9223372036854775808) ≤ u149_120_7 ∧ u149_120_7 ≤ 9223372036854775807) → (0 ≤ u149_120_8 ∧ u149_120_8 ≤ 5) → ((-1) ≤ u149_9010_0 ∧ u149_9010_0 ≤ 1800) → rd M 120 1 = 0 → rd M 120 12 = 1 → rd M 120 2 = r2 → rd M 120 3 = u149_120_3 → rd M 120 36 = 0 → rd M 120 37 = 0 → rd M 120 4 = u149_120_4 → rd M 120 44 = 0 → rd M 120 5 = u149_120_5 → rd M 120 50 = 0 → rd M 120 6 = u149_120_6 → rd M 120 7 = u149_120_7 → rd M 120 8 = u149_120_8 → rd M 129 0 = 0 → rd M 136 0 = 0 → nwv M = v140_9006 → tav M = u149_9010_0 → (u149_120_3 = 0 ∨ u149_120_4 + 1 ≤ u149_120_5) → (u149_120_4 ≤ u149_120_5) → (u149_120_3 ≠ 1 ∨ u149_120_4 + 2 ≤ u149_120_5 ∨ u149_120_7 < 256) → (0 ≤ 0) → (0 + 0 ≤ u149_120_4) → (1 ≤ u149_120_8 ∨ 0 + v140_9006 ≤ 2 * 0) → (4 * (1802 - u149_9010_0) + 2 * (5 - u149_120_8) + p149_1).toNat < n149 → Tr l K 6 mX12_text 149 [(0, (2, 120)), (1, (0, p149_1))] [] M (q_X12_text_120_w1 M0) := by
    intro n149
    induction n149 with
    | zero => intro M p149_1 u149_120_3 u149_120_4 u149_120_5 u149_120_6 u149_120_7 u149_120_8 u149_9010_0 hS bp149_1 bu149_120_3 bu149_120_4 bu149_120_5 bu149_120_6 bu149_120_7 bu149_120_8 bu149_9010_0 k149_120_1 k149_120_12 k149_120_2 k149_120_3 k149_120_36 k149_120_37 k149_120_4 k149_120_44 k149_120_5 k149_120_50 k149_120_6 k149_120_7 k149_120_8 k149_129_0 k149_136_0 k149_9006_0 k149_9010_0 t149_0 t149_1 t149_2 t149_3 t149_4 t149_5 hm149; exact absurd hm149 (Nat.not_lt_zero _)
    | succ n149 J149 =>
      intro M p149_1 u149_120_3 u149_120_4 u149_120_5 u149_120_6 u149_120_7 u149_120_8 u149_9010_0 hS bp149_1 bu149_120_3 bu149_120_4 bu149_120_5 bu149_120_6 bu149_120_7 bu149_120_8 bu149_9010_0 k149_120_1 k149_120_12 k149_120_2 k149_120_3 k149_120_36 k149_120_37 k149_120_4 k149_120_44 k149_120_5 k149_120_50 k149_120_6 k149_120_7 k149_120_8 k149_129_0 k149_136_0 k149_9006_0 k149_9010_0 t149_0 t149_1 t149_2 t149_3 t149_4 t149_5 hm149
      clear er2 w5 w10 w15 w20 w25 w35 w47 w57 w67 w77 w87 w97 w107 w117 w127 w130 w135 w140 ev140_9006 ew144_9010_0 es144_120_3 es144_120_4 es144_120_5 es144_120_7 es144_120_8 es144_9010_0
      replace t149_0 := hd_i t149_0
      replace t149_2 := hd_i t149_2
      replace t149_5 := hd_i t149_5
      refine Tr.aload_n (pc := 149) (i := 0) d_X12_text_149 rfl rfl ?_
      refine Tr.getf (pc := 150) d_X12_text_150 f_12_36 (by decide) (by decide) (ty_120 hS.1.1) ?_
      refine Tr.tp u149_120_8 k149_120_8 ?_
      have J183 : ∀ (n183 : Nat) (M : Mem) (u183_120_3 u183_120_4 u183_120_5 u183_120_6 u183_120_7 u183_120_8 u183_120_36 u183_120_44 u183_120_50 u183_129_0 u183_136_0 u183_9006_0 u183_9010_0 : Int), St Pm0 ws_X12_text_120_w1 as_X12_text_120_w1 M0 M → (0 ≤ u183_120_3 ∧ u183_120_3 ≤ 3) → (0 ≤ u183_120_4 ∧ u183_120_4 ≤ 900) → (0 ≤ u183_120_5 ∧ u183_120_5 ≤ 900) → ((-2147483648) ≤ u183_120_6 ∧ u183_120_6 ≤ 2147483647) → ((-9223372036854775808) ≤ u183_120_7 ∧ u183_120_7 ≤ 9223372036854775807) → (0 ≤ u183_120_8 ∧ u183_120_8 ≤ 5) → (0 ≤ u183_120_36 ∧ u183_120_36 ≤ 900) → (0 ≤ u183_120_44 ∧ u183_120_44 ≤ 8) → (0 ≤ u183_120_50 ∧ u183_120_50 ≤ 20) → (0 ≤ u183_129_0 ∧ u183_129_0 ≤ 60) → (0 ≤ u183_136_0 ∧ u183_136_0 ≤ 200) → (0 ≤ u183_9006_0 ∧ u183_9006_0 ≤ 20) → ((-1) ≤ u183_9010_0 ∧ u183_9010_0 ≤ 1800) → rd M 120 1 = 0 → rd M 120 12 = 1 → rd M 120 2 = r2 → rd M 120 3 = u183_120_3 → rd M 120 36 = u183_120_36 → rd M 120 37 = 0 → rd M 120 4 = u183_120_4 → rd M 120 44 = u183_120_44 → rd M 120 5 = u183_120_5 → rd M 120 50 = u183_120_50 → rd M 120 6 = u183_120_6 → rd M 120 7 = u183_120_7 → rd M 120 8 = u183_120_8 → rd M 129 0 = u183_129_0 → rd M 136 0 = u183_136_0 → nwv M = u183_9006_0 → tav M = u183_9010_0 → (u183_120_3 = 0 ∨ u183_120_4 + 1 ≤ u183_120_5) → (u183_120_4 ≤ u183_120_5) → (u183_120_3 ≠ 1 ∨ u183_120_4 + 2 ≤ u183_120_5 ∨ u183_120_7 < 256) → (u183_120_50 ≤ u183_120_44) → (u183_120_36 + u183_120_44 ≤ u183_120_4) → (1 ≤ u183_120_8 ∨ u183_136_0 + u183_9006_0 ≤ 2 * u183_129_0) → (2 * (1802 - u183_9010_0) + (5 - u183_120_8)).toNat < n183 → Tr l K 6 mX12_text 183 [(0, (2, 120))] [] M (q_X12_text_120_w1 M0) := by
        intro n183
        induction n183 with
        | zero => intro M u183_120_3 u183_120_4 u183_120_5 u183_120_6 u183_120_7 u183_120_8 u183_120_36 u183_120_44 u183_120_50 u183_129_0 u183_136_0 u183_9006_0 u183_9010_0 hS bu183_120_3 bu183_120_4 bu183_120_5 bu183_120_6 bu183_120_7 bu183_120_8 bu183_120_36 bu183_120_44 bu183_120_50 bu183_129_0 bu183_136_0 bu183_9006_0 bu183_9010_0 k183_120_1 k183_120_12 k183_120_2 k183_120_3 k183_120_36 k183_120_37 k183_120_4 k183_120_44 k183_120_5 k183_120_50 k183_120_6 k183_120_7 k183_120_8 k183_129_0 k183_136_0 k183_9006_0 k183_9010_0 t183_0 t183_1 t183_2 t183_3 t183_4 t183_5 hm183; exact absurd hm183 (Nat.not_lt_zero _)
        | succ n183 J183 =>
          intro M u183_120_3 u183_120_4 u183_120_5 u183_120_6 u183_120_7 u183_120_8 u183_120_36 u183_120_44 u183_120_50 u183_129_0 u183_136_0 u183_9006_0 u183_9010_0 hS bu183_120_3 bu183_120_4 bu183_120_5 bu183_120_6 bu183_120_7 bu183_120_8 bu183_120_36 bu183_120_44 bu183_120_50 bu183_129_0 bu183_136_0 bu183_9006_0 bu183_9010_0 k183_120_1 k183_120_12 k183_120_2 k183_120_3 k183_120_36 k183_120_37 k183_120_4 k183_120_44 k183_120_5 k183_120_50 k183_120_6 k183_120_7 k183_120_8 k183_129_0 k183_136_0 k183_9006_0 k183_9010_0 t183_0 t183_1 t183_2 t183_3 t183_4 t183_5 hm183
          clear k149_120_1 k149_120_12 k149_120_2 k149_120_3 k149_120_36 k149_120_37 k149_120_4 k149_120_44 k149_120_5 k149_120_50 k149_120_6 k149_120_7 k149_120_8 k149_129_0 k149_136_0 k149_9006_0 k149_9010_0
          replace t183_0 := hd_i t183_0
          replace t183_2 := hd_i t183_2
          replace t183_5 := hd_i t183_5
          refine Tr.aload_n (pc := 183) (i := 0) d_X12_text_183 rfl rfl ?_
          refine Tr.getf (pc := 184) d_X12_text_184 f_12_36 (by decide) (by decide) (ty_120 hS.1.1) ?_
          refine Tr.tp u183_120_8 k183_120_8 ?_
          have J234 : ∀ (M : Mem), St Pm0 ws_X12_text_120_w1 as_X12_text_120_w1 M0 M → rd M 120 1 = 0 → rd M 120 12 = 1 → rd M 120 2 = r2 → rd M 120 3 = u183_120_3 → rd M 120 36 = u183_120_36 → rd M 120 37 = 0 → rd M 120 4 = u183_120_4 → rd M 120 44 = u183_120_44 → rd M 120 5 = u183_120_5 → rd M 120 50 = u183_120_50 → rd M 120 6 = u183_120_6 → rd M 120 7 = u183_120_7 → rd M 120 8 = u183_120_8 → rd M 129 0 = u183_129_0 → rd M 136 0 = u183_136_0 → nwv M = u183_9006_0 → tav M = u183_9010_0 → Tr l K 6 mX12_text 234 [(0, (2, 120))] [] M (q_X12_text_120_w1 M0) := by
            intro M  hS  k234_120_1 k234_120_12 k234_120_2 k234_120_3 k234_120_36 k234_120_37 k234_120_4 k234_120_44 k234_120_5 k234_120_50 k234_120_6 k234_120_7 k234_120_8 k234_129_0 k234_136_0 k234_9006_0 k234_9010_0
            clear k183_120_1 k183_120_12 k183_120_2 k183_120_3 k183_120_36 k183_120_37 k183_120_4 k183_120_44 k183_120_5 k183_120_50 k183_120_6 k183_120_7 k183_120_8 k183_129_0 k183_136_0 k183_9006_0 k183_9010_0
            refine Tr.aload_n (pc := 234) (i := 0) d_X12_text_234 rfl rfl ?_
            refine Tr.aload_n (pc := 235) (i := 0) d_X12_text_235 rfl rfl ?_
            refine Tr.getf (pc := 236) d_X12_text_236 f_12_36 (by decide) (by decide) (ty_120 hS.1.1) ?_
            refine Tr.tp u183_120_8 k234_120_8 ?_
            refine Tr.putfS (pc := 239) (P := St Pm0 ws_X12_text_120_w1 as_X12_text_120_w1 M0) d_X12_text_239 f_12_42 (by decide) (by decide) (ty_120 hS.1.1) (st_120_10 hS (by decide) (by and_intros <;> omega) (Pm0.of hS.1.2.2.2.2 (fun _ => rd_wb _ rfl) (fun _ => rd_wb _ rfl) (fun _ => rd_wb _ rfl) (fun _ => rd_wb _ rfl) (fun _ => rd_wb _ rfl) (fun _ => rd_wb _ rfl) (fun _ => rd_wb _ rfl) (fun _ => rd_wb _ rfl) (fun _ => rd_wb _ rfl) (fun _ => rd_wb _ rfl) (rd_wb _ rfl) (rd_wb _ rfl) (rd_wb _ rfl) (rd_wb _ rfl) (rd_wb _ rfl) (rd_wb _ rfl) (rd_wb _ rfl) (rd_wb _ rfl) (rd_wb _ rfl) (rd_wb _ rfl) (rd_wb _ rfl))) (fun M239 hS w239 => ?_)
            refine Tr.aload_n (pc := 242) (i := 0) d_X12_text_242 rfl rfl ?_
            refine Tr.aload_n (pc := 243) (i := 0) d_X12_text_243 rfl rfl ?_
            refine Tr.getf (pc := 244) d_X12_text_244 f_12_39 (by decide) (by decide) (ty_120 hS.1.1) ?_
            refine Tr.gen (P := fun v => (-2147483648) ≤ v ∧ v ≤ 2147483647) (ir_120_9 hS.1.2.1) (fun r244 er244 br244 => ?_)
            refine Tr.putfS (pc := 247) (P := St Pm0 ws_X12_text_120_w1 as_X12_text_120_w1 M0) d_X12_text_247 f_12_45 (by decide) (by decide) (ty_120 hS.1.1) (st_120_11 hS (by decide) (by and_intros <;> omega) (Pm0.of hS.1.2.2.2.2 (fun _ => rd_wb _ rfl) (fun _ => rd_wb _ rfl) (fun _ => rd_wb _ rfl) (fun _ => rd_wb _ rfl) (fun _ => rd_wb _ rfl) (fun _ => rd_wb _ rfl) (fun _ => rd_wb _ rfl) (fun _ => rd_wb _ rfl) (fun _ => rd_wb _ rfl) (fun _ => rd_wb _ rfl) (rd_wb _ rfl) (rd_wb _ rfl) (rd_wb _ rfl) (rd_wb _ rfl) (rd_wb _ rfl) (rd_wb _ rfl) (rd_wb _ rfl) (rd_wb _ rfl) (rd_wb _ rfl) (rd_wb _ rfl) (rd_wb _ rfl))) (fun M247 hS w247 => ?_)
            refine Tr.aload_n (pc := 250) (i := 0) d_X12_text_250 rfl rfl ?_
            refine Tr.getf (pc := 251) d_X12_text_251 f_12_36 (by decide) (by decide) (ty_120 hS.1.1) ?_
            refine Tr.tp u183_120_8 ((Wr.b w247 rfl).trans ((Wr.b w239 rfl).trans k234_120_8)) ?_
            refine Tr.if_le (pc := 254) (tgt := 259) d_X12_text_254 rfl (fun c254 => ?_) (fun c254 => ?_)
            · refine Tr.aload_n (pc := 259) (i := 0) d_X12_text_259 rfl rfl ?_
              refine Tr.aload_n (pc := 260) (i := 0) d_X12_text_260 rfl rfl ?_
              refine Tr.getf (pc := 261) d_X12_text_261 f_12_124 (by decide) (by decide) (ty_120 hS.1.1) ?_
              refine Tr.tp 0 ((Wr.b w247 rfl).trans ((Wr.b w239 rfl).trans k234_120_37)) ?_
              refine Tr.putfS (pc := 264) (P := St Pm0 ws_X12_text_120_w1 as_X12_text_120_w1 M0) d_X12_text_264 f_12_48 (by decide) (by decide) (ty_120 hS.1.1) (st_120_12 hS (by decide) (by omega) (Pm0.of hS.1.2.2.2.2 (fun _ => rd_wb _ rfl) (fun _ => rd_wb _ rfl) (fun _ => rd_wb _ rfl) (fun _ => rd_wb _ rfl) (fun _ => rd_wb _ rfl) (fun _ => rd_wb _ rfl) (fun _ => rd_wb _ rfl) (fun _ => rd_wb _ rfl) (fun _ => rd_wb _ rfl) (fun _ => rd_wb _ rfl) (rd_wb _ rfl) (rd_wb _ rfl) (rd_wb _ rfl) (rd_wb _ rfl) (rd_wb _ rfl) (rd_wb _ rfl) (rd_wb _ rfl) (rd_wb _ rfl) (rd_wb _ rfl) (rd_wb _ rfl) (rd_wb _ rfl))) (fun M264 hS w264 => ?_)
              refine Tr.iconst (pc := 267) d_X12_text_267 (by decide) ?_
              refine Tr.istore_n (pc := 268) (i := 2) (ls2 := [(2, (0, 0)), (0, (2, 120))]) d_X12_text_268 rfl (by decide) rfl ?_
              have J269 : ∀ (n269 : Nat) (M : Mem) (p269_2 : Int), St Pm0 ws_X12_text_120_w1 as_X12_text_120_w1 M0 M → (0 ≤ p269_2 ∧ p269_2 ≤ 3) → rd M 120 1 = 0 → rd M 120 10 = u183_120_8 → rd M 120 11 = r244 → rd M 120 12 = 0 → rd M 120 2 = r2 → rd M 120 3 = u183_120_3 → rd M 120 36 = u183_120_36 → rd M 120 37 = 0 → rd M 120 4 = u183_120_4 → rd M 120 44 = u183_120_44 → rd M 120 5 = u183_120_5 → rd M 120 50 = u183_120_50 → rd M 120 6 = u183_120_6 → rd M 120 7 = u183_120_7 → rd M 120 8 = u183_120_8 → rd M 120 9 = r244 → rd M 129 0 = u183_129_0 → rd M 136 0 = u183_136_0 → nwv M = u183_9006_0 → tav M = u183_9010_0 → (3 - p269_2).toNat < n269 → Tr l K 6 mX12_text 269 [(0, (2, 120)), (2, (0, p269_2))] [] M (q_X12_text_120_w1 M0) := by
                intro n269
                induction n269 with
                | zero => intro M p269_2 hS bp269_2 k269_120_1 k269_120_10 k269_120_11 k269_120_12 k269_120_2 k269_120_3 k269_120_36 k269_120_37 k269_120_4 k269_120_44 k269_120_5 k269_120_50 k269_120_6 k269_120_7 k269_120_8 k269_120_9 k269_129_0 k269_136_0 k269_9006_0 k269_9010_0 hm269; exact absurd hm269 (Nat.not_lt_zero _)
                | succ n269 J269 =>
                  intro M p269_2 hS bp269_2 k269_120_1 k269_120_10 k269_120_11 k269_120_12 k269_120_2 k269_120_3 k269_120_36 k269_120_37 k269_120_4 k269_120_44 k269_120_5 k269_120_50 k269_120_6 k269_120_7 k269_120_8 k269_120_9 k269_129_0 k269_136_0 k269_9006_0 k269_9010_0 hm269
                  clear k234_120_1 k234_120_12 k234_120_2 k234_120_3 k234_120_36 k234_120_37 k234_120_4 k234_120_44 k234_120_5 k234_120_50 k234_120_6 k234_120_7 k234_120_8 k234_129_0 k234_136_0 k234_9006_0 k234_9010_0 w239 er244 w247 w264
                  refine Tr.iload_n (pc := 269) (i := 2) d_X12_text_269 rfl rfl ?_
                  refine Tr.iconst (pc := 270) d_X12_text_270 (by decide) ?_
                  refine Tr.icmp_ge (pc := 271) (tgt := 316) d_X12_text_271 rfl (fun c271 => ?_) (fun c271 => ?_)
                  · refine Tr.aload_n (pc := 316) (i := 0) d_X12_text_316 rfl rfl ?_
                    refine Tr.iconst (pc := 317) d_X12_text_317 (by decide) ?_
                    refine Tr.putzS (pc := 318) (P := St Pm0 ws_X12_text_120_w1 as_X12_text_120_w1 M0) d_X12_text_318 f_12_270 (by decide) (ty_120 hS.1.1) (by omega) (st_120_85 hS (by decide) (by omega) (Pm0.of hS.1.2.2.2.2 (fun _ => rd_wb _ rfl) (fun _ => rd_wb _ rfl) (fun _ => rd_wb _ rfl) (fun _ => rd_wb _ rfl) (fun _ => rd_wb _ rfl) (fun _ => rd_wb _ rfl) (fun _ => rd_wb _ rfl) (fun _ => rd_wb _ rfl) (fun _ => rd_wb _ rfl) (fun _ => rd_wb _ rfl) (rd_wb _ rfl) (rd_wb _ rfl) (rd_wb _ rfl) (rd_wb _ rfl) (rd_wb _ rfl) (rd_wb _ rfl) (rd_wb _ rfl) (rd_wb _ rfl) (rd_wb _ rfl) (rd_wb _ rfl) (rd_wb _ rfl))) (fun M318 hS w318 => ?_)
                    refine Tr.aload_n (pc := 321) (i := 0) d_X12_text_321 rfl rfl ?_
                    refine Tr.iconst (pc := 322) d_X12_text_322 (by decide) ?_
                    refine Tr.putzS (pc := 323) (P := St Pm0 ws_X12_text_120_w1 as_X12_text_120_w1 M0) d_X12_text_323 f_12_327 (by decide) (ty_120 hS.1.1) (by omega) (st_120_104 hS (by decide) (by omega) (Pm0.of hS.1.2.2.2.2 (fun _ => rd_wb _ rfl) (fun _ => rd_wb _ rfl) (fun _ => rd_wb _ rfl) (fun _ => rd_wb _ rfl) (fun _ => rd_wb _ rfl) (fun _ => rd_wb _ rfl) (fun _ => rd_wb _ rfl) (fun _ => rd_wb _ rfl) (fun _ => rd_wb _ rfl) (fun _ => rd_wb _ rfl) (rd_wb _ rfl) (rd_wb _ rfl) (rd_wb _ rfl) (rd_wb _ rfl) (rd_wb _ rfl) (rd_wb _ rfl) (rd_wb _ rfl) (rd_wb _ rfl) (rd_wb _ rfl) (rd_wb _ rfl) (rd_wb _ rfl))) (fun M323 hS w323 => ?_)
                    refine Tr.aload_n (pc := 326) (i := 0) d_X12_text_326 rfl rfl ?_
                    refine Tr.iconst (pc := 327) d_X12_text_327 (by decide) ?_
                    refine Tr.putfS (pc := 328) (P := St Pm0 ws_X12_text_120_w1 as_X12_text_120_w1 M0) d_X12_text_328 f_12_333 (by decide) (by decide) (ty_120 hS.1.1) (st_120_106 hS (by decide) (by omega) (Pm0.of hS.1.2.2.2.2 (fun _ => rd_wb _ rfl) (fun _ => rd_wb _ rfl) (fun _ => rd_wb _ rfl) (fun _ => rd_wb _ rfl) (fun _ => rd_wb _ rfl) (fun _ => rd_wb _ rfl) (fun _ => rd_wb _ rfl) (fun _ => rd_wb _ rfl) (fun _ => rd_wb _ rfl) (fun _ => rd_wb _ rfl) (rd_wb _ rfl) (rd_wb _ rfl) (rd_wb _ rfl) (rd_wb _ rfl) (rd_wb _ rfl) (rd_wb _ rfl) (rd_wb _ rfl) (rd_wb _ rfl) (rd_wb _ rfl) (rd_wb _ rfl) (rd_wb _ rfl))) (fun M328 hS w328 => ?_)
                    refine Tr.aload_n (pc := 331) (i := 0) d_X12_text_331 rfl rfl ?_
                    refine Tr.iconst (pc := 332) d_X12_text_332 (by decide) ?_
                    refine Tr.putzS (pc := 333) (P := St Pm0 ws_X12_text_120_w1 as_X12_text_120_w1 M0) d_X12_text_333 f_12_342 (by decide) (ty_120 hS.1.1) (by omega) (st_120_109 hS (by decide) (by omega) (Pm0.of hS.1.2.2.2.2 (fun _ => rd_wb _ rfl) (fun _ => rd_wb _ rfl) (fun _ => rd_wb _ rfl) (fun _ => rd_wb _ rfl) (fun _ => rd_wb _ rfl) (fun _ => rd_wb _ rfl) (fun _ => rd_wb _ rfl) (fun _ => rd_wb _ rfl) (fun _ => rd_wb _ rfl) (fun _ => rd_wb _ rfl) (rd_wb _ rfl) (rd_wb _ rfl) (rd_wb _ rfl) (rd_wb _ rfl) (rd_wb _ rfl) (rd_wb _ rfl) (rd_wb _ rfl) (rd_wb _ rfl) (rd_wb _ rfl) (rd_wb _ rfl) (rd_wb _ rfl))) (fun M333 hS w333 => ?_)
                    refine Tr.aload_n (pc := 336) (i := 0) d_X12_text_336 rfl rfl ?_
                    refine Tr.getf (pc := 337) d_X12_text_337 f_12_72 (by decide) (by decide) (ty_120 hS.1.1) ?_
                    refine Tr.tp 129 (fx_120_20 hS.1.1) ?_
                    refine Tr.aload_n (pc := 340) (i := 0) d_X12_text_340 rfl rfl ?_
                    refine Tr.getf (pc := 341) d_X12_text_341 f_12_48 (by decide) (by decide) (ty_120 hS.1.1) ?_
                    refine Tr.tp 0 ((Wr.b w333 rfl).trans ((Wr.b w328 rfl).trans ((Wr.b w323 rfl).trans ((Wr.b w318 rfl).trans k269_120_12)))) ?_
                    refine Tr.iald (pc := 344) d_X12_text_344 (ty_129 hS.1.1) (by omega) (by omega) ?_
                    refine Tr.tp u183_129_0 ((Wr.b w333 rfl).trans ((Wr.b w328 rfl).trans ((Wr.b w323 rfl).trans ((Wr.b w318 rfl).trans k269_129_0)))) ?_
                    have hPm := hS.1.2.2.2.2
                    have hfk : rd M333 120 8 = u183_120_8 := ((Wr.b w333 rfl).trans ((Wr.b w328 rfl).trans ((Wr.b w323 rfl).trans ((Wr.b w318 rfl).trans k269_120_8))))
                    have kr_120_1 : rd M333 120 1 = 0 := ((Wr.b w333 rfl).trans ((Wr.b w328 rfl).trans ((Wr.b w323 rfl).trans ((Wr.b w318 rfl).trans k269_120_1))))
                    have hS := hS.wk
                    exact Tr.iret (pc := 345) d_X12_text_345 rfl ⟨hS, _, rfl, (by omega), (by omega), (by omega), (Or.inr ⟨by omega, ((Wr.b w333 rfl).trans ((Wr.b w328 rfl).trans ((Wr.b w323 rfl).trans ((Wr.b w318 rfl).trans k269_120_12)))), Pm0_end hPm (by have e9 := hfk; omega)⟩)⟩
                  · refine Tr.aload_n (pc := 274) (i := 0) d_X12_text_274 rfl rfl ?_
                    refine Tr.getf (pc := 275) d_X12_text_275 f_12_168 (by decide) (by decide) (ty_120 hS.1.1) ?_
                    refine Tr.tp 153 (fx_120_51 hS.1.1) ?_
                    refine Tr.iload_n (pc := 278) (i := 2) d_X12_text_278 rfl rfl ?_
                    refine Tr.iload_n (pc := 279) (i := 2) d_X12_text_279 rfl rfl ?_
                    refine Tr.aload_n (pc := 280) (i := 0) d_X12_text_280 rfl rfl ?_
                    refine Tr.getf (pc := 281) d_X12_text_281 f_12_66 (by decide) (by decide) (ty_120 hS.1.1) ?_
                    refine Tr.tp 127 (fx_120_18 hS.1.1) ?_
                    refine Tr.aload_n (pc := 284) (i := 0) d_X12_text_284 rfl rfl ?_
                    refine Tr.getf (pc := 285) d_X12_text_285 f_12_48 (by decide) (by decide) (ty_120 hS.1.1) ?_
                    refine Tr.tp 0 k269_120_12 ?_
                    refine Tr.iald (pc := 288) d_X12_text_288 (ty_127 hS.1.1) (by omega) (by omega) ?_
                    refine Tr.gen (P := fun v => 0 ≤ v ∧ v ≤ 3) (ir_127_0 hS.1.2.1) (fun r288 er288 br288 => ?_)
                    have J309 : ∀ (M : Mem) (q309_2 : Int), St Pm0 ws_X12_text_120_w1 as_X12_text_120_w1 M0 M → ((-2147483648) ≤ q309_2 ∧ q309_2 ≤ 2147483647) → rd M 120 1 = 0 → rd M 120 10 = u183_120_8 → rd M 120 11 = r244 → rd M 120 12 = 0 → rd M 120 2 = r2 → rd M 120 3 = u183_120_3 → rd M 120 36 = u183_120_36 → rd M 120 37 = 0 → rd M 120 4 = u183_120_4 → rd M 120 44 = u183_120_44 → rd M 120 5 = u183_120_5 → rd M 120 50 = u183_120_50 → rd M 120 6 = u183_120_6 → rd M 120 7 = u183_120_7 → rd M 120 8 = u183_120_8 → rd M 120 9 = r244 → rd M 127 0 = r288 → rd M 129 0 = u183_129_0 → rd M 136 0 = u183_136_0 → nwv M = u183_9006_0 → tav M = u183_9010_0 → Tr l K 6 mX12_text 309 [(0, (2, 120)), (2, (0, p269_2))] [(0, q309_2), (0, p269_2), (2, 153)] M (q_X12_text_120_w1 M0) := by
                      intro M q309_2 hS bq309_2 k309_120_1 k309_120_10 k309_120_11 k309_120_12 k309_120_2 k309_120_3 k309_120_36 k309_120_37 k309_120_4 k309_120_44 k309_120_5 k309_120_50 k309_120_6 k309_120_7 k309_120_8 k309_120_9 k309_127_0 k309_129_0 k309_136_0 k309_9006_0 k309_9010_0
                      clear k269_120_1 k269_120_10 k269_120_11 k269_120_12 k269_120_2 k269_120_3 k269_120_36 k269_120_37 k269_120_4 k269_120_44 k269_120_5 k269_120_50 k269_120_6 k269_120_7 k269_120_8 k269_120_9 k269_129_0 k269_136_0 k269_9006_0 k269_9010_0 er288
                      refine Tr.iastS (pc := 309) (P := St Pm0 ws_X12_text_120_w1 as_X12_text_120_w1 M0) d_X12_text_309 (ty_153 hS.1.1) (by omega) (by omega) (sa_153 hS (by decide) (by and_intros <;> omega) (Pm0.of hS.1.2.2.2.2 (fun _ => rd_wb _ rfl) (fun _ => rd_wb _ rfl) (fun _ => rd_wb _ rfl) (fun _ => rd_wb _ rfl) (fun _ => rd_wb _ rfl) (fun _ => rd_wb _ rfl) (fun _ => rd_wb _ rfl) (fun _ => rd_wb _ rfl) (fun _ => rd_wb _ rfl) (fun _ => rd_wb _ rfl) (rd_wb _ rfl) (rd_wb _ rfl) (rd_wb _ rfl) (rd_wb _ rfl) (rd_wb _ rfl) (rd_wb _ rfl) (rd_wb _ rfl) (rd_wb _ rfl) (rd_wb _ rfl) (rd_wb _ rfl) (rd_wb _ rfl))) (fun M309 hS w309 => ?_)
                      refine Tr.iincV (pc := 310) (n2 := (p269_2 + 1)) (ls2 := [(2, (0, (p269_2 + 1))), (0, (2, 120))]) d_X12_text_310 rfl (by decide) ((w32_id (by and_intros <;> omega)).trans (by omega)) rfl ?_
                      refine Tr.goto (pc := 313) (tgt := 269) d_X12_text_313 rfl ?_
                      refine Tr.pick [1, 0] (ls2 := [(0, (2, 120)), (2, (0, (p269_2 + 1)))]) rfl ?_
                      exact J269 _ _ hS (by and_intros <;> omega) ((Wr.b w309 rfl).trans k309_120_1) ((Wr.b w309 rfl).trans k309_120_10) ((Wr.b w309 rfl).trans k309_120_11) ((Wr.b w309 rfl).trans k309_120_12) ((Wr.b w309 rfl).trans k309_120_2) ((Wr.b w309 rfl).trans k309_120_3) ((Wr.b w309 rfl).trans k309_120_36) ((Wr.b w309 rfl).trans k309_120_37) ((Wr.b w309 rfl).trans k309_120_4) ((Wr.b w309 rfl).trans k309_120_44) ((Wr.b w309 rfl).trans k309_120_5) ((Wr.b w309 rfl).trans k309_120_50) ((Wr.b w309 rfl).trans k309_120_6) ((Wr.b w309 rfl).trans k309_120_7) ((Wr.b w309 rfl).trans k309_120_8) ((Wr.b w309 rfl).trans k309_120_9) ((Wr.b w309 rfl).trans k309_129_0) ((Wr.b w309 rfl).trans k309_136_0) ((nwv_of (fun j => ((Wr.b w309 rfl).trans rfl)) ((Wr.b w309 rfl).trans rfl)).trans k309_9006_0) ((tav_of ((Wr.b w309 rfl).trans rfl) ((Wr.b w309 rfl).trans rfl)).trans k309_9010_0) (me_lt hm269 (by omega) (by omega))
                    refine Tr.icmp_ge (pc := 289) (tgt := 308) d_X12_text_289 rfl (fun c289 => ?_) (fun c289 => ?_)
                    · refine Tr.iconst (pc := 308) d_X12_text_308 (by decide) ?_
                      refine Tr.pick [0, 1] (ls2 := [(0, (2, 120)), (2, (0, p269_2))]) rfl ?_
                      exact J309 _ _ hS (by omega) k269_120_1 k269_120_10 k269_120_11 k269_120_12 k269_120_2 k269_120_3 k269_120_36 k269_120_37 k269_120_4 k269_120_44 k269_120_5 k269_120_50 k269_120_6 k269_120_7 k269_120_8 k269_120_9 er288 k269_129_0 k269_136_0 k269_9006_0 k269_9010_0
                    · refine Tr.aload_n (pc := 292) (i := 0) d_X12_text_292 rfl rfl ?_
                      refine Tr.getf (pc := 293) d_X12_text_293 f_12_85 (by decide) (by decide) (ty_120 hS.1.1) ?_
                      refine Tr.tp 133 (fx_120_24 hS.1.1) ?_
                      refine Tr.iconst (pc := 296) d_X12_text_296 (by decide) ?_
                      refine Tr.aload_n (pc := 297) (i := 0) d_X12_text_297 rfl rfl ?_
                      refine Tr.getf (pc := 298) d_X12_text_298 f_12_48 (by decide) (by decide) (ty_120 hS.1.1) ?_
                      refine Tr.tp 0 k269_120_12 ?_
                      refine Tr.imul (pc := 301) d_X12_text_301 ?_
                      refine Tr.tp 0 (by decide) ?_
                      refine Tr.iload_n (pc := 302) (i := 2) d_X12_text_302 rfl rfl ?_
                      refine Tr.iadd (pc := 303) d_X12_text_303 ?_
                      refine Tr.tp p269_2 ((w32_id (by and_intros <;> omega)).trans (by omega)) ?_
                      refine Tr.iald (pc := 304) d_X12_text_304 (ty_133 hS.1.1) (by omega) (by omega) ?_
                      refine Tr.gen (P := fun v => (-2147483648) ≤ v ∧ v ≤ 2147483647) (ar_133 hS.1.2.1 _) (fun r304 er304 br304 => ?_)
                      refine Tr.goto (pc := 305) (tgt := 309) d_X12_text_305 rfl ?_
                      refine Tr.pick [0, 1] (ls2 := [(0, (2, 120)), (2, (0, p269_2))]) rfl ?_
                      exact J309 _ _ hS (by and_intros <;> omega) k269_120_1 k269_120_10 k269_120_11 k269_120_12 k269_120_2 k269_120_3 k269_120_36 k269_120_37 k269_120_4 k269_120_44 k269_120_5 k269_120_50 k269_120_6 k269_120_7 k269_120_8 k269_120_9 er288 k269_129_0 k269_136_0 k269_9006_0 k269_9010_0
              refine Tr.pick [1, 0] (ls2 := [(0, (2, 120)), (2, (0, 0))]) rfl ?_
              exact J269 _ _ _ hS (by omega) ((Wr.b w264 rfl).trans ((Wr.b w247 rfl).trans ((Wr.b w239 rfl).trans k234_120_1))) ((Wr.b w264 rfl).trans ((Wr.b w247 rfl).trans w239.1)) ((Wr.b w264 rfl).trans w247.1) w264.1 ((Wr.b w264 rfl).trans ((Wr.b w247 rfl).trans ((Wr.b w239 rfl).trans k234_120_2))) ((Wr.b w264 rfl).trans ((Wr.b w247 rfl).trans ((Wr.b w239 rfl).trans k234_120_3))) ((Wr.b w264 rfl).trans ((Wr.b w247 rfl).trans ((Wr.b w239 rfl).trans k234_120_36))) ((Wr.b w264 rfl).trans ((Wr.b w247 rfl).trans ((Wr.b w239 rfl).trans k234_120_37))) ((Wr.b w264 rfl).trans ((Wr.b w247 rfl).trans ((Wr.b w239 rfl).trans k234_120_4))) ((Wr.b w264 rfl).trans ((Wr.b w247 rfl).trans ((Wr.b w239 rfl).trans k234_120_44))) ((Wr.b w264 rfl).trans ((Wr.b w247 rfl).trans ((Wr.b w239 rfl).trans k234_120_5))) ((Wr.b w264 rfl).trans ((Wr.b w247 rfl).trans ((Wr.b w239 rfl).trans k234_120_50))) ((Wr.b w264 rfl).trans ((Wr.b w247 rfl).trans ((Wr.b w239 rfl).trans k234_120_6))) ((Wr.b w264 rfl).trans ((Wr.b w247 rfl).trans ((Wr.b w239 rfl).trans k234_120_7))) ((Wr.b w264 rfl).trans ((Wr.b w247 rfl).trans ((Wr.b w239 rfl).trans k234_120_8))) ((Wr.b w264 rfl).trans ((Wr.b w247 rfl).trans er244)) ((Wr.b w264 rfl).trans ((Wr.b w247 rfl).trans ((Wr.b w239 rfl).trans k234_129_0))) ((Wr.b w264 rfl).trans ((Wr.b w247 rfl).trans ((Wr.b w239 rfl).trans k234_136_0))) ((nwv_of (fun j => ((Wr.b w264 rfl).trans ((Wr.b w247 rfl).trans ((Wr.b w239 rfl).trans rfl)))) ((Wr.b w264 rfl).trans ((Wr.b w247 rfl).trans ((Wr.b w239 rfl).trans rfl)))).trans k234_9006_0) ((tav_of ((Wr.b w264 rfl).trans ((Wr.b w247 rfl).trans ((Wr.b w239 rfl).trans rfl))) ((Wr.b w264 rfl).trans ((Wr.b w247 rfl).trans ((Wr.b w239 rfl).trans rfl)))).trans k234_9010_0) (Nat.lt_succ_self _)
            · refine Tr.iconst (pc := 257) d_X12_text_257 (by decide) ?_
              have hPm := hS.1.2.2.2.2
              have hfk : rd M247 120 8 = u183_120_8 := ((Wr.b w247 rfl).trans ((Wr.b w239 rfl).trans k234_120_8))
              have kr_120_1 : rd M247 120 1 = 0 := ((Wr.b w247 rfl).trans ((Wr.b w239 rfl).trans k234_120_1))
              have hS := hS.wk
              exact Tr.iret (pc := 258) d_X12_text_258 rfl ⟨hS, _, rfl, by omega, by omega, (by omega), (Or.inl ⟨rfl, ((Wr.b w247 rfl).trans ((Wr.b w239 rfl).trans k234_120_12)), hPm.1⟩)⟩
          refine Tr.if_ne (pc := 187) (tgt := 234) d_X12_text_187 rfl (fun c187 => ?_) (fun c187 => ?_)
          · have c187b : 1 ≤ u183_120_8 ∧ u183_120_8 ≤ 5 := by omega
            replace c187 := hd_i c187
            refine Tr.pick [0] (ls2 := [(0, (2, 120))]) rfl ?_
            exact J234 _ hS k183_120_1 k183_120_12 k183_120_2 k183_120_3 k183_120_36 k183_120_37 k183_120_4 k183_120_44 k183_120_5 k183_120_50 k183_120_6 k183_120_7 k183_120_8 k183_129_0 k183_136_0 k183_9006_0 k183_9010_0
          · refine Tr.aload_n (pc := 190) (i := 0) d_X12_text_190 rfl rfl ?_
            refine Tr.getf (pc := 191) d_X12_text_191 f_12_20 (by decide) (by decide) (ty_120 hS.1.1) ?_
            refine Tr.tp u183_120_3 k183_120_3 ?_
            have J204 : ∀ (M : Mem), St Pm0 ws_X12_text_120_w1 as_X12_text_120_w1 M0 M → rd M 120 1 = 0 → rd M 120 12 = 1 → rd M 120 2 = r2 → rd M 120 3 = u183_120_3 → rd M 120 36 = u183_120_36 → rd M 120 37 = 0 → rd M 120 4 = u183_120_4 → rd M 120 44 = u183_120_44 → rd M 120 5 = u183_120_5 → rd M 120 50 = u183_120_50 → rd M 120 6 = u183_120_6 → rd M 120 7 = u183_120_7 → rd M 120 8 = u183_120_8 → rd M 129 0 = u183_129_0 → rd M 136 0 = u183_136_0 → nwv M = u183_9006_0 → tav M = u183_9010_0 → (u183_120_3 ≠ 0 ∨ 1 ≤ u183_120_50) → Tr l K 6 mX12_text 204 [(0, (2, 120))] [] M (q_X12_text_120_w1 M0) := by
              intro M  hS  k204_120_1 k204_120_12 k204_120_2 k204_120_3 k204_120_36 k204_120_37 k204_120_4 k204_120_44 k204_120_5 k204_120_50 k204_120_6 k204_120_7 k204_120_8 k204_129_0 k204_136_0 k204_9006_0 k204_9010_0 t204_0
              clear k183_120_1 k183_120_12 k183_120_2 k183_120_3 k183_120_36 k183_120_37 k183_120_4 k183_120_44 k183_120_5 k183_120_50 k183_120_6 k183_120_7 k183_120_8 k183_129_0 k183_136_0 k183_9006_0 k183_9010_0
              replace t204_0 := hd_i t204_0
              refine Tr.aload_n (pc := 204) (i := 0) d_X12_text_204 rfl rfl ?_
              refine Tr.getf (pc := 205) d_X12_text_205 f_12_165 (by decide) (by decide) (ty_120 hS.1.1) ?_
              refine Tr.tp u183_120_50 k204_120_50 ?_
              have J227 : ∀ (M : Mem), St Pm0 ws_X12_text_120_w1 as_X12_text_120_w1 M0 M → rd M 120 1 = 0 → rd M 120 12 = 1 → rd M 120 2 = r2 → rd M 120 3 = u183_120_3 → rd M 120 36 = u183_120_36 → rd M 120 37 = 0 → rd M 120 4 = u183_120_4 → rd M 120 44 = u183_120_44 → rd M 120 5 = u183_120_5 → rd M 120 50 = u183_120_50 → rd M 120 6 = u183_120_6 → rd M 120 7 = u183_120_7 → rd M 120 8 = u183_120_8 → rd M 129 0 = u183_129_0 → rd M 136 0 = u183_136_0 → nwv M = u183_9006_0 → tav M = u183_9010_0 → Tr l K 6 mX12_text 227 [(0, (2, 120))] [] M (q_X12_text_120_w1 M0) := by
                intro M  hS  k227_120_1 k227_120_12 k227_120_2 k227_120_3 k227_120_36 k227_120_37 k227_120_4 k227_120_44 k227_120_5 k227_120_50 k227_120_6 k227_120_7 k227_120_8 k227_129_0 k227_136_0 k227_9006_0 k227_9010_0
                clear k204_120_1 k204_120_12 k204_120_2 k204_120_3 k204_120_36 k204_120_37 k204_120_4 k204_120_44 k204_120_5 k204_120_50 k204_120_6 k204_120_7 k204_120_8 k204_129_0 k204_136_0 k204_9006_0 k204_9010_0
                refine Tr.aload_n (pc := 227) (i := 0) d_X12_text_227 rfl rfl ?_
                refine Tr.callV (pc := 228) (as := []) d_X12_text_228 s_12_550 ok_X12_statement rfl rfl (Nat.le_of_ble_eq_true rfl) (Nat.le_of_ble_eq_true rfl) (by decide) (ty_120 hS.1.1) ?_
                refine Tr.imp (Tr.deep (by decide) (ns_X12_statement_120_w1 (G120_3 := u183_120_3) (G120_4 := u183_120_4) (G120_5 := u183_120_5) (G120_7 := u183_120_7) (G120_8 := u183_120_8) (G120_36 := u183_120_36) (G120_44 := u183_120_44) (G120_50 := u183_120_50) (G129_0 := u183_129_0) (G136_0 := u183_136_0) (G9006_0 := u183_9006_0) (G9010_0 := u183_9010_0) hS.1 (k227_120_3) (k227_120_4) (k227_120_5) (k227_120_7) (k227_120_8) (k227_120_36) (k227_120_44) (k227_120_50) (k227_129_0) (k227_136_0) (k227_9006_0) (k227_9010_0) k227_120_37 (by first | exact (hd_o t183_0) | exact (hd_o t183_0).elim (fun h1 => by omega) (fun h1 => by omega)) (by omega) (by first | exact (hd_o t183_2) | exact (hd_o t183_2).elim (fun h1 => by omega) (fun h1 => h1.elim (fun h1 => by omega) (fun h1 => by omega))) (by omega) (by omega) (by exact (hd_o t183_5).elim (fun h1 => by omega) (fun h1 => by omega)) (by omega))) ?_
                rintro M228 _ ⟨h228, s228_120_3, s228_120_4, s228_120_5, s228_120_7, s228_120_8, s228_120_36, s228_120_44, s228_120_50, s228_129_0, s228_136_0, s228_9006_0, s228_9010_0, es228_120_3, bs228_120_3, es228_120_4, bs228_120_4, es228_120_5, bs228_120_5, es228_120_7, bs228_120_7, es228_120_8, bs228_120_8, es228_120_36, bs228_120_36, es228_120_44, bs228_120_44, es228_120_50, bs228_120_50, es228_129_0, bs228_129_0, es228_136_0, bs228_136_0, es228_9006_0, bs228_9006_0, es228_9010_0, bs228_9010_0, rfl, z228_0, z228_1, z228_2, z228_3, z228_4, z228_5, z228_6, z228_7, z228_8⟩
                have hS := St.tr hS h228 (by decide) (by decide)
                refine Tr.sc [] rfl ?_
                refine Tr.goto (pc := 231) (tgt := 183) d_X12_text_231 rfl ?_
                refine Tr.pick [0] (ls2 := [(0, (2, 120))]) rfl ?_
                obtain ⟨w183p231_120_6, ew183p231_120_6⟩ : ∃ v, rd M228 120 6 = v := ⟨_, rfl⟩
                have bw183p231_120_6 : (-2147483648) ≤ w183p231_120_6 ∧ w183p231_120_6 ≤ 2147483647 := by rw [← ew183p231_120_6]; exact ir_120_6 hS.1.2.1
                exact J183 _ _ _ _ _ _ _ _ _ _ _ _ _ _ hS (by and_intros <;> omega) (by and_intros <;> omega) (by and_intros <;> omega) (by and_intros <;> omega) (by omega) (by and_intros <;> omega) (by and_intros <;> omega) (by and_intros <;> omega) (by and_intros <;> omega) (by and_intros <;> omega) (by and_intros <;> omega) (by and_intros <;> omega) (by and_intros <;> omega) ((kp_X12_statement_120_w1_120_1 h228).trans k227_120_1) ((kp_X12_statement_120_w1_120_12 h228).trans k227_120_12) ((kp_X12_statement_120_w1_120_2 h228).trans k227_120_2) es228_120_3 es228_120_36 ((kp_X12_statement_120_w1_120_37 h228).trans k227_120_37) es228_120_4 es228_120_44 es228_120_5 es228_120_50 ew183p231_120_6 es228_120_7 es228_120_8 es228_129_0 es228_136_0 es228_9006_0 es228_9010_0 (by first | exact (hd_o z228_0) | exact (hd_o z228_0).elim (fun h1 => by omega) (fun h1 => by omega)) (by omega) (by first | exact (hd_o z228_2) | exact (hd_o z228_2).elim (fun h1 => by omega) (fun h1 => h1.elim (fun h1 => by omega) (fun h1 => by omega))) (by omega) (by omega) (by first | exact (hd_o z228_6) | exact (hd_o z228_6).elim (fun h1 => by omega) (fun h1 => by omega)) (me_lt hm183 (by exact (hd_o z228_5).elim (fun h1 => by omega) (fun h1 => by omega)) (by omega))
              refine Tr.if_le (pc := 208) (tgt := 227) d_X12_text_208 rfl (fun c208 => ?_) (fun c208 => ?_)
              · refine Tr.pick [0] (ls2 := [(0, (2, 120))]) rfl ?_
                exact J227 _ hS k204_120_1 k204_120_12 k204_120_2 k204_120_3 k204_120_36 k204_120_37 k204_120_4 k204_120_44 k204_120_5 k204_120_50 k204_120_6 k204_120_7 k204_120_8 k204_129_0 k204_136_0 k204_9006_0 k204_9010_0
              · refine Tr.aload_n (pc := 211) (i := 0) d_X12_text_211 rfl rfl ?_
                refine Tr.bipush (pc := 212) d_X12_text_212 rfl (by decide) ?_
                refine Tr.callV (pc := 214) (as := [_]) d_X12_text_214 s_12_393 ok_X12_isSign rfl rfl (Nat.le_of_ble_eq_true rfl) (Nat.le_of_ble_eq_true rfl) (by decide) (ty_120 hS.1.1) ?_
                refine Tr.imp (Tr.deep (by decide) (ns_X12_isSign_120 (G120_3 := u183_120_3) (G120_6 := u183_120_6) hS.1.wk (k204_120_3) (k204_120_6) 125 (by omega))) ?_
                rintro M214 _ ⟨h214, r214, rfl, lr214, ur214, z214_0⟩
                have h214 := St.rn h214 (Pm0.of hS.1.2.2.2.2 (fun _ => (ka_X12_isSign_120_131 h214 _)) (fun _ => (ka_X12_isSign_120_137 h214 _)) (fun _ => (ka_X12_isSign_120_138 h214 _)) (fun _ => (ka_X12_isSign_120_139 h214 _)) (fun _ => (ka_X12_isSign_120_140 h214 _)) (fun _ => (ka_X12_isSign_120_141 h214 _)) (fun _ => (ka_X12_isSign_120_142 h214 _)) (fun _ => (ka_X12_isSign_120_143 h214 _)) (fun _ => (ka_X12_isSign_120_151 h214 _)) (fun _ => (ka_X12_isSign_120_152 h214 _)) (kp_X12_isSign_120_126_0 h214) (kp_X12_isSign_120_126_1 h214) (kp_X12_isSign_120_136_0 h214) (kp_X12_isSign_120_136_1 h214) (kp_X12_isSign_120_123_0 h214) (kp_X12_isSign_120_123_1 h214) (kp_X12_isSign_120_124_0 h214) (kp_X12_isSign_120_124_1 h214) (kp_X12_isSign_120_120_8 h214) (kp_X12_isSign_120_120_36 h214) (kp_X12_isSign_120_120_50 h214))
                have hS := St.tr hS h214 (by decide) (by decide)
                refine Tr.sc [(0, r214)] rfl ?_
                refine Tr.if_eq (pc := 217) (tgt := 227) d_X12_text_217 rfl (fun c217 => ?_) (fun c217 => ?_)
                · refine Tr.pick [0] (ls2 := [(0, (2, 120))]) rfl ?_
                  exact J227 _ hS ((kp_X12_isSign_120_120_1 h214).trans k204_120_1) ((kp_X12_isSign_120_120_12 h214).trans k204_120_12) ((kp_X12_isSign_120_120_2 h214).trans k204_120_2) ((kp_X12_isSign_120_120_3 h214).trans k204_120_3) ((kp_X12_isSign_120_120_36 h214).trans k204_120_36) ((kp_X12_isSign_120_120_37 h214).trans k204_120_37) ((kp_X12_isSign_120_120_4 h214).trans k204_120_4) ((kp_X12_isSign_120_120_44 h214).trans k204_120_44) ((kp_X12_isSign_120_120_5 h214).trans k204_120_5) ((kp_X12_isSign_120_120_50 h214).trans k204_120_50) ((kp_X12_isSign_120_120_6 h214).trans k204_120_6) ((kp_X12_isSign_120_120_7 h214).trans k204_120_7) ((kp_X12_isSign_120_120_8 h214).trans k204_120_8) ((kp_X12_isSign_120_129_0 h214).trans k204_129_0) ((kp_X12_isSign_120_136_0 h214).trans k204_136_0) ((nwv_of (fun j => ((ka_X12_isSign_120_151 h214 _).trans rfl)) ((kp_X12_isSign_120_120_50 h214).trans rfl)).trans k204_9006_0) ((tav_of ((kp_X12_isSign_120_120_5 h214).trans rfl) ((kp_X12_isSign_120_120_3 h214).trans rfl)).trans k204_9010_0)
                · have c217b : 1 ≤ r214 ∧ r214 ≤ 1 := by omega
                  replace c217 := hd_i c217
                  refine Tr.aload_n (pc := 220) (i := 0) d_X12_text_220 rfl rfl ?_
                  refine Tr.callV (pc := 221) (as := []) d_X12_text_221 s_12_547 ok_X12_closesBlock rfl rfl (Nat.le_of_ble_eq_true rfl) (Nat.le_of_ble_eq_true rfl) (by decide) (ty_120 hS.1.1) ?_
                  refine Tr.imp (Tr.deep (by decide) (ns_X12_closesBlock_120_w1 (G120_3 := u183_120_3) (G120_4 := u183_120_4) (G120_5 := u183_120_5) (G120_7 := u183_120_7) (G120_8 := u183_120_8) (G120_36 := u183_120_36) (G120_44 := u183_120_44) (G120_50 := u183_120_50) (G129_0 := u183_129_0) (G136_0 := u183_136_0) (G9006_0 := u183_9006_0) (G9010_0 := u183_9010_0) hS.1 (((kp_X12_isSign_120_120_3 h214).trans k204_120_3)) (((kp_X12_isSign_120_120_4 h214).trans k204_120_4)) (((kp_X12_isSign_120_120_5 h214).trans k204_120_5)) (((kp_X12_isSign_120_120_7 h214).trans k204_120_7)) (((kp_X12_isSign_120_120_8 h214).trans k204_120_8)) (((kp_X12_isSign_120_120_36 h214).trans k204_120_36)) (((kp_X12_isSign_120_120_44 h214).trans k204_120_44)) (((kp_X12_isSign_120_120_50 h214).trans k204_120_50)) (((kp_X12_isSign_120_129_0 h214).trans k204_129_0)) (((kp_X12_isSign_120_136_0 h214).trans k204_136_0)) (((nwv_of (fun j => ((ka_X12_isSign_120_151 h214 _).trans rfl)) ((kp_X12_isSign_120_120_50 h214).trans rfl)).trans k204_9006_0)) (((tav_of ((kp_X12_isSign_120_120_5 h214).trans rfl) ((kp_X12_isSign_120_120_3 h214).trans rfl)).trans k204_9010_0)) ((kp_X12_isSign_120_120_37 h214).trans k204_120_37) (by first | exact (hd_o t183_0) | exact (hd_o t183_0).elim (fun h1 => by omega) (fun h1 => by omega)) (by omega) (by first | exact (hd_o t183_2) | exact (hd_o t183_2).elim (fun h1 => by omega) (fun h1 => h1.elim (fun h1 => by omega) (fun h1 => by omega))) (by omega) (by omega) (by exact (hd_o t183_5).elim (fun h1 => by omega) (fun h1 => by omega)) (by exact (hd_o z214_0).elim (fun h1 => by omega) (fun h1 => by omega)) (by omega) (by omega))) ?_
                  rintro M221 _ ⟨h221, s221_120_3, s221_120_4, s221_120_5, s221_120_7, s221_120_8, s221_120_44, s221_120_50, s221_136_0, s221_9006_0, s221_9010_0, es221_120_3, bs221_120_3, es221_120_4, bs221_120_4, es221_120_5, bs221_120_5, es221_120_7, bs221_120_7, es221_120_8, bs221_120_8, es221_120_44, bs221_120_44, es221_120_50, bs221_120_50, es221_136_0, bs221_136_0, es221_9006_0, bs221_9006_0, es221_9010_0, bs221_9010_0, rfl, z221_0, z221_1, z221_2, z221_3, z221_4, z221_5, z221_6, z221_7, z221_8⟩
                  have hS := St.tr hS h221 (by decide) (by decide)
                  refine Tr.sc [] rfl ?_
                  refine Tr.goto (pc := 224) (tgt := 183) d_X12_text_224 rfl ?_
                  refine Tr.pick [0] (ls2 := [(0, (2, 120))]) rfl ?_
                  obtain ⟨w183p224_120_6, ew183p224_120_6⟩ : ∃ v, rd M221 120 6 = v := ⟨_, rfl⟩
                  have bw183p224_120_6 : (-2147483648) ≤ w183p224_120_6 ∧ w183p224_120_6 ≤ 2147483647 := by rw [← ew183p224_120_6]; exact ir_120_6 hS.1.2.1
                  exact J183 _ _ _ _ _ _ _ _ _ _ _ _ _ _ hS (by and_intros <;> omega) (by and_intros <;> omega) (by and_intros <;> omega) (by and_intros <;> omega) (by omega) (by and_intros <;> omega) (by and_intros <;> omega) (by and_intros <;> omega) (by and_intros <;> omega) (by and_intros <;> omega) (by and_intros <;> omega) (by and_intros <;> omega) (by and_intros <;> omega) ((kp_X12_closesBlock_120_w1_120_1 h221).trans ((kp_X12_isSign_120_120_1 h214).trans k204_120_1)) ((kp_X12_closesBlock_120_w1_120_12 h221).trans ((kp_X12_isSign_120_120_12 h214).trans k204_120_12)) ((kp_X12_closesBlock_120_w1_120_2 h221).trans ((kp_X12_isSign_120_120_2 h214).trans k204_120_2)) es221_120_3 ((kp_X12_closesBlock_120_w1_120_36 h221).trans ((kp_X12_isSign_120_120_36 h214).trans k204_120_36)) ((kp_X12_closesBlock_120_w1_120_37 h221).trans ((kp_X12_isSign_120_120_37 h214).trans k204_120_37)) es221_120_4 es221_120_44 es221_120_5 es221_120_50 ew183p224_120_6 es221_120_7 es221_120_8 ((kp_X12_closesBlock_120_w1_129_0 h221).trans ((kp_X12_isSign_120_129_0 h214).trans k204_129_0)) es221_136_0 es221_9006_0 es221_9010_0 (by first | exact (hd_o z221_0) | exact (hd_o z221_0).elim (fun h1 => by omega) (fun h1 => by omega)) (by omega) (by first | exact (hd_o z221_2) | exact (hd_o z221_2).elim (fun h1 => by omega) (fun h1 => h1.elim (fun h1 => by omega) (fun h1 => by omega))) (by omega) (by omega) (by omega) (me_lt hm183 (by exact (hd_o z221_5).elim (fun h1 => by omega) (fun h1 => by omega)) (by omega))
            refine Tr.if_ne (pc := 194) (tgt := 204) d_X12_text_194 rfl (fun c194 => ?_) (fun c194 => ?_)
            · have c194b : 1 ≤ u183_120_3 ∧ u183_120_3 ≤ 3 := by omega
              replace c194 := hd_i c194
              refine Tr.pick [0] (ls2 := [(0, (2, 120))]) rfl ?_
              exact J204 _ hS k183_120_1 k183_120_12 k183_120_2 k183_120_3 k183_120_36 k183_120_37 k183_120_4 k183_120_44 k183_120_5 k183_120_50 k183_120_6 k183_120_7 k183_120_8 k183_129_0 k183_136_0 k183_9006_0 k183_9010_0 (by omega)
            · refine Tr.aload_n (pc := 197) (i := 0) d_X12_text_197 rfl rfl ?_
              refine Tr.getf (pc := 198) d_X12_text_198 f_12_165 (by decide) (by decide) (ty_120 hS.1.1) ?_
              refine Tr.tp u183_120_50 k183_120_50 ?_
              refine Tr.if_le (pc := 201) (tgt := 234) d_X12_text_201 rfl (fun c201 => ?_) (fun c201 => ?_)
              · refine Tr.pick [0] (ls2 := [(0, (2, 120))]) rfl ?_
                exact J234 _ hS k183_120_1 k183_120_12 k183_120_2 k183_120_3 k183_120_36 k183_120_37 k183_120_4 k183_120_44 k183_120_5 k183_120_50 k183_120_6 k183_120_7 k183_120_8 k183_129_0 k183_136_0 k183_9006_0 k183_9010_0
              · refine Tr.pick [0] (ls2 := [(0, (2, 120))]) rfl ?_
                exact J204 _ hS k183_120_1 k183_120_12 k183_120_2 k183_120_3 k183_120_36 k183_120_37 k183_120_4 k183_120_44 k183_120_5 k183_120_50 k183_120_6 k183_120_7 k183_120_8 k183_129_0 k183_136_0 k183_9006_0 k183_9010_0 (by omega)
      refine Tr.if_ne (pc := 153) (tgt := 183) d_X12_text_153 rfl (fun c153 => ?_) (fun c153 => ?_)
      · have c153b : 1 ≤ u149_120_8 ∧ u149_120_8 ≤ 5 := by omega
        replace c153 := hd_i c153
        refine Tr.pick [0] (ls2 := [(0, (2, 120))]) rfl ?_
        exact J183 _ _ _ _ _ _ _ _ _ _ _ _ _ _ _ hS (by and_intros <;> omega) (by and_intros <;> omega) (by and_intros <;> omega) (by and_intros <;> omega) (by omega) (by and_intros <;> omega) (by omega) (by omega) (by omega) (by omega) (by omega) (by and_intros <;> omega) (by and_intros <;> omega) k149_120_1 k149_120_12 k149_120_2 k149_120_3 k149_120_36 k149_120_37 k149_120_4 k149_120_44 k149_120_5 k149_120_50 k149_120_6 k149_120_7 k149_120_8 k149_129_0 k149_136_0 k149_9006_0 k149_9010_0 (by first | exact (hd_o t149_0) | exact (hd_o t149_0).elim (fun h1 => by omega) (fun h1 => by omega)) (by omega) (by first | exact (hd_o t149_2) | exact (hd_o t149_2).elim (fun h1 => by omega) (fun h1 => h1.elim (fun h1 => by omega) (fun h1 => by omega))) (by omega) (by omega) (by first | exact (hd_o t149_5) | exact (hd_o t149_5).elim (fun h1 => by omega) (fun h1 => by omega)) (Nat.lt_succ_self _)
      · refine Tr.iload_n (pc := 156) (i := 1) d_X12_text_156 rfl rfl ?_
        refine Tr.if_eq (pc := 157) (tgt := 183) d_X12_text_157 rfl (fun c157 => ?_) (fun c157 => ?_)
        · refine Tr.pick [0] (ls2 := [(0, (2, 120))]) rfl ?_
          exact J183 _ _ _ _ _ _ _ _ _ _ _ _ _ _ _ hS (by and_intros <;> omega) (by and_intros <;> omega) (by and_intros <;> omega) (by and_intros <;> omega) (by omega) (by and_intros <;> omega) (by omega) (by omega) (by omega) (by omega) (by omega) (by and_intros <;> omega) (by and_intros <;> omega) k149_120_1 k149_120_12 k149_120_2 k149_120_3 k149_120_36 k149_120_37 k149_120_4 k149_120_44 k149_120_5 k149_120_50 k149_120_6 k149_120_7 k149_120_8 k149_129_0 k149_136_0 k149_9006_0 k149_9010_0 (by first | exact (hd_o t149_0) | exact (hd_o t149_0).elim (fun h1 => by omega) (fun h1 => by omega)) (by omega) (by first | exact (hd_o t149_2) | exact (hd_o t149_2).elim (fun h1 => by omega) (fun h1 => h1.elim (fun h1 => by omega) (fun h1 => by omega))) (by omega) (by omega) (by first | exact (hd_o t149_5) | exact (hd_o t149_5).elim (fun h1 => by omega) (fun h1 => by omega)) (Nat.lt_succ_self _)
        · have c157b : 1 ≤ p149_1 ∧ p149_1 ≤ 1 := by omega
          replace c157 := hd_i c157
          refine Tr.aload_n (pc := 160) (i := 0) d_X12_text_160 rfl rfl ?_
          refine Tr.getf (pc := 161) d_X12_text_161 f_12_20 (by decide) (by decide) (ty_120 hS.1.1) ?_
          refine Tr.tp u149_120_3 k149_120_3 ?_
          have J179 : ∀ (M : Mem) (q179_0 u179_120_3 u179_120_4 u179_120_5 u179_120_6 u179_120_7 u179_120_8 u179_9010_0 : Int), St Pm0 ws_X12_text_120_w1 as_X12_text_120_w1 M0 M → (0 ≤ q179_0 ∧ q179_0 ≤ 1) → (0 ≤ u179_120_3 ∧ u179_120_3 ≤ 3) → (0 ≤ u179_120_4 ∧ u179_120_4 ≤ 900) → (0 ≤ u179_120_5 ∧ u179_120_5 ≤ 900) → ((-2147483648) ≤ u179_120_6 ∧ u179_120_6 ≤ 2147483647) → ((-9223372036854775808) ≤ u179_120_7 ∧ u179_120_7 ≤ 9223372036854775807) → (0 ≤ u179_120_8 ∧ u179_120_8 ≤ 5) → ((-1) ≤ u179_9010_0 ∧ u179_9010_0 ≤ 1800) → rd M 120 1 = 0 → rd M 120 12 = 1 → rd M 120 2 = r2 → rd M 120 3 = u179_120_3 → rd M 120 36 = 0 → rd M 120 37 = 0 → rd M 120 4 = u179_120_4 → rd M 120 44 = 0 → rd M 120 5 = u179_120_5 → rd M 120 50 = 0 → rd M 120 6 = u179_120_6 → rd M 120 7 = u179_120_7 → rd M 120 8 = u179_120_8 → rd M 129 0 = 0 → rd M 136 0 = 0 → nwv M = v140_9006 → tav M = u179_9010_0 → (u179_120_3 = 0 ∨ u179_120_4 + 1 ≤ u179_120_5) → (u179_120_4 ≤ u179_120_5) → (u179_120_3 ≠ 1 ∨ u179_120_4 + 2 ≤ u179_120_5 ∨ u179_120_7 < 256) → (0 ≤ 0) → (0 + 0 ≤ u179_120_4) → (1 ≤ u179_120_8 ∨ 0 + v140_9006 ≤ 2 * 0) → ((u149_9010_0 ≤ u179_9010_0 ∧ q179_0 = 0) ∨ (u149_9010_0 < u179_9010_0) ∨ (1 ≤ u179_120_8 ∧ u149_9010_0 ≤ u179_9010_0)) → Tr l K 6 mX12_text 179 [(0, (2, 120))] [(0, q179_0)] M (q_X12_text_120_w1 M0) := by
            intro M q179_0 u179_120_3 u179_120_4 u179_120_5 u179_120_6 u179_120_7 u179_120_8 u179_9010_0 hS bq179_0 bu179_120_3 bu179_120_4 bu179_120_5 bu179_120_6 bu179_120_7 bu179_120_8 bu179_9010_0 k179_120_1 k179_120_12 k179_120_2 k179_120_3 k179_120_36 k179_120_37 k179_120_4 k179_120_44 k179_120_5 k179_120_50 k179_120_6 k179_120_7 k179_120_8 k179_129_0 k179_136_0 k179_9006_0 k179_9010_0 t179_0 t179_1 t179_2 t179_3 t179_4 t179_5 t179_6
            clear k149_120_1 k149_120_12 k149_120_2 k149_120_3 k149_120_36 k149_120_37 k149_120_4 k149_120_44 k149_120_5 k149_120_50 k149_120_6 k149_120_7 k149_120_8 k149_129_0 k149_136_0 k149_9006_0 k149_9010_0
            replace t179_0 := hd_i t179_0
            replace t179_2 := hd_i t179_2
            replace t179_5 := hd_i t179_5
            replace t179_6 := hd_i t179_6
            refine Tr.istore_n (pc := 179) (i := 1) (ls2 := [(1, (0, q179_0)), (0, (2, 120))]) d_X12_text_179 rfl (by decide) rfl ?_
            refine Tr.goto (pc := 180) (tgt := 149) d_X12_text_180 rfl ?_
            refine Tr.pick [1, 0] (ls2 := [(0, (2, 120)), (1, (0, q179_0))]) rfl ?_
            exact J149 _ _ _ _ _ _ _ _ _ hS (by and_intros <;> omega) (by and_intros <;> omega) (by and_intros <;> omega) (by and_intros <;> omega) (by and_intros <;> omega) (by omega) (by and_intros <;> omega) (by and_intros <;> omega) k179_120_1 k179_120_12 k179_120_2 k179_120_3 k179_120_36 k179_120_37 k179_120_4 k179_120_44 k179_120_5 k179_120_50 k179_120_6 k179_120_7 k179_120_8 k179_129_0 k179_136_0 k179_9006_0 k179_9010_0 (by first | exact (hd_o t179_0) | exact (hd_o t179_0).elim (fun h1 => by omega) (fun h1 => by omega)) (by omega) (by first | exact (hd_o t179_2) | exact (hd_o t179_2).elim (fun h1 => by omega) (fun h1 => h1.elim (fun h1 => by omega) (fun h1 => by omega))) (by omega) (by omega) (by first | exact (hd_o t179_5) | exact (hd_o t179_5).elim (fun h1 => by omega) (fun h1 => by omega)) (me_lt hm149 (by exact (hd_o t179_6).elim (fun h1 => by omega) (fun h1 => h1.elim (fun h1 => by omega) (fun h1 => by omega))) (by omega))
          have J178 : ∀ (M : Mem) (u178_120_3 u178_120_4 u178_120_5 u178_120_6 u178_120_7 u178_120_8 u178_9010_0 : Int), St Pm0 ws_X12_text_120_w1 as_X12_text_120_w1 M0 M → (0 ≤ u178_120_3 ∧ u178_120_3 ≤ 3) → (0 ≤ u178_120_4 ∧ u178_120_4 ≤ 900) → (0 ≤ u178_120_5 ∧ u178_120_5 ≤ 900) → ((-2147483648) ≤ u178_120_6 ∧ u178_120_6 ≤ 2147483647) → ((-9223372036854775808) ≤ u178_120_7 ∧ u178_120_7 ≤ 9223372036854775807) → (0 ≤ u178_120_8 ∧ u178_120_8 ≤ 5) → ((-1) ≤ u178_9010_0 ∧ u178_9010_0 ≤ 1800) → rd M 120 1 = 0 → rd M 120 12 = 1 → rd M 120 2 = r2 → rd M 120 3 = u178_120_3 → rd M 120 36 = 0 → rd M 120 37 = 0 → rd M 120 4 = u178_120_4 → rd M 120 44 = 0 → rd M 120 5 = u178_120_5 → rd M 120 50 = 0 → rd M 120 6 = u178_120_6 → rd M 120 7 = u178_120_7 → rd M 120 8 = u178_120_8 → rd M 129 0 = 0 → rd M 136 0 = 0 → nwv M = v140_9006 → tav M = u178_9010_0 → (u178_120_3 = 0 ∨ u178_120_4 + 1 ≤ u178_120_5) → (u178_120_4 ≤ u178_120_5) → (u178_120_3 ≠ 1 ∨ u178_120_4 + 2 ≤ u178_120_5 ∨ u178_120_7 < 256) → (0 ≤ 0) → (0 + 0 ≤ u178_120_4) → (1 ≤ u178_120_8 ∨ 0 + v140_9006 ≤ 2 * 0) → (u149_9010_0 ≤ u178_9010_0) → Tr l K 6 mX12_text 178 [(0, (2, 120))] [] M (q_X12_text_120_w1 M0) := by
            intro M u178_120_3 u178_120_4 u178_120_5 u178_120_6 u178_120_7 u178_120_8 u178_9010_0 hS bu178_120_3 bu178_120_4 bu178_120_5 bu178_120_6 bu178_120_7 bu178_120_8 bu178_9010_0 k178_120_1 k178_120_12 k178_120_2 k178_120_3 k178_120_36 k178_120_37 k178_120_4 k178_120_44 k178_120_5 k178_120_50 k178_120_6 k178_120_7 k178_120_8 k178_129_0 k178_136_0 k178_9006_0 k178_9010_0 t178_0 t178_1 t178_2 t178_3 t178_4 t178_5 t178_6
            clear k149_120_1 k149_120_12 k149_120_2 k149_120_3 k149_120_36 k149_120_37 k149_120_4 k149_120_44 k149_120_5 k149_120_50 k149_120_6 k149_120_7 k149_120_8 k149_129_0 k149_136_0 k149_9006_0 k149_9010_0
            replace t178_0 := hd_i t178_0
            replace t178_2 := hd_i t178_2
            replace t178_5 := hd_i t178_5
            refine Tr.iconst (pc := 178) d_X12_text_178 (by decide) ?_
            refine Tr.pick [0] (ls2 := [(0, (2, 120))]) rfl ?_
            exact J179 _ _ _ _ _ _ _ _ _ hS (by omega) (by and_intros <;> omega) (by and_intros <;> omega) (by and_intros <;> omega) (by and_intros <;> omega) (by omega) (by and_intros <;> omega) (by and_intros <;> omega) k178_120_1 k178_120_12 k178_120_2 k178_120_3 k178_120_36 k178_120_37 k178_120_4 k178_120_44 k178_120_5 k178_120_50 k178_120_6 k178_120_7 k178_120_8 k178_129_0 k178_136_0 k178_9006_0 k178_9010_0 (by first | exact (hd_o t178_0) | exact (hd_o t178_0).elim (fun h1 => by omega) (fun h1 => by omega)) (by omega) (by first | exact (hd_o t178_2) | exact (hd_o t178_2).elim (fun h1 => by omega) (fun h1 => h1.elim (fun h1 => by omega) (fun h1 => by omega))) (by omega) (by omega) (by first | exact (hd_o t178_5) | exact (hd_o t178_5).elim (fun h1 => by omega) (fun h1 => by omega)) (by omega)
          refine Tr.if_eq (pc := 164) (tgt := 178) d_X12_text_164 rfl (fun c164 => ?_) (fun c164 => ?_)
          · refine Tr.pick [0] (ls2 := [(0, (2, 120))]) rfl ?_
            exact J178 _ _ _ _ _ _ _ _ hS (by and_intros <;> omega) (by and_intros <;> omega) (by and_intros <;> omega) (by and_intros <;> omega) (by omega) (by and_intros <;> omega) (by and_intros <;> omega) k149_120_1 k149_120_12 k149_120_2 k149_120_3 k149_120_36 k149_120_37 k149_120_4 k149_120_44 k149_120_5 k149_120_50 k149_120_6 k149_120_7 k149_120_8 k149_129_0 k149_136_0 k149_9006_0 k149_9010_0 (by first | exact (hd_o t149_0) | exact (hd_o t149_0).elim (fun h1 => by omega) (fun h1 => by omega)) (by omega) (by first | exact (hd_o t149_2) | exact (hd_o t149_2).elim (fun h1 => by omega) (fun h1 => h1.elim (fun h1 => by omega) (fun h1 => by omega))) (by omega) (by omega) (by first | exact (hd_o t149_5) | exact (hd_o t149_5).elim (fun h1 => by omega) (fun h1 => by omega)) (by omega)
          · have c164b : 1 ≤ u149_120_3 ∧ u149_120_3 ≤ 3 := by omega
            replace c164 := hd_i c164
            refine Tr.aload_n (pc := 167) (i := 0) d_X12_text_167 rfl rfl ?_
            refine Tr.callV (pc := 168) (as := []) d_X12_text_168 s_12_544 ok_X12_declares rfl rfl (Nat.le_of_ble_eq_true rfl) (Nat.le_of_ble_eq_true rfl) (by decide) (ty_120 hS.1.1) ?_
            refine Tr.imp (Tr.deep (by decide) (ns_X12_declares_120_w1 (G120_3 := u149_120_3) (G120_4 := u149_120_4) (G120_5 := u149_120_5) (G120_7 := u149_120_7) (G120_8 := u149_120_8) (G9010_0 := u149_9010_0) hS.1 (k149_120_3) (k149_120_4) (k149_120_5) (k149_120_7) (k149_120_8) (k149_9010_0) k149_120_37 (by first | exact (hd_o t149_0) | exact (hd_o t149_0).elim (fun h1 => by omega) (fun h1 => by omega)) (by omega) (by first | exact (hd_o t149_2) | exact (hd_o t149_2).elim (fun h1 => by omega) (fun h1 => h1.elim (fun h1 => by omega) (fun h1 => by omega))) (by have h1 := (hd_o c164); omega) (by omega))) ?_
            rintro M168 _ ⟨h168, s168_120_3, s168_120_4, s168_120_5, s168_120_7, s168_120_8, s168_9010_0, es168_120_3, bs168_120_3, es168_120_4, bs168_120_4, es168_120_5, bs168_120_5, es168_120_7, bs168_120_7, es168_120_8, bs168_120_8, es168_9010_0, bs168_9010_0, r168, rfl, lr168, ur168, z168_0, z168_1, z168_2, z168_3, z168_4, z168_5⟩
            have hS := St.tr hS h168 (by decide) (by decide)
            refine Tr.sc [(0, r168)] rfl ?_
            refine Tr.if_eq (pc := 171) (tgt := 178) d_X12_text_171 rfl (fun c171 => ?_) (fun c171 => ?_)
            · refine Tr.pick [0] (ls2 := [(0, (2, 120))]) rfl ?_
              obtain ⟨w178p171_120_6, ew178p171_120_6⟩ : ∃ v, rd M168 120 6 = v := ⟨_, rfl⟩
              have bw178p171_120_6 : (-2147483648) ≤ w178p171_120_6 ∧ w178p171_120_6 ≤ 2147483647 := by rw [← ew178p171_120_6]; exact ir_120_6 hS.1.2.1
              exact J178 _ _ _ _ _ _ _ _ hS (by and_intros <;> omega) (by and_intros <;> omega) (by and_intros <;> omega) (by and_intros <;> omega) (by omega) (by and_intros <;> omega) (by and_intros <;> omega) ((kp_X12_declares_120_w1_120_1 h168).trans k149_120_1) ((kp_X12_declares_120_w1_120_12 h168).trans k149_120_12) ((kp_X12_declares_120_w1_120_2 h168).trans k149_120_2) es168_120_3 ((kp_X12_declares_120_w1_120_36 h168).trans k149_120_36) ((kp_X12_declares_120_w1_120_37 h168).trans k149_120_37) es168_120_4 ((kp_X12_declares_120_w1_120_44 h168).trans k149_120_44) es168_120_5 ((kp_X12_declares_120_w1_120_50 h168).trans k149_120_50) ew178p171_120_6 es168_120_7 es168_120_8 ((kp_X12_declares_120_w1_129_0 h168).trans k149_129_0) ((kp_X12_declares_120_w1_136_0 h168).trans k149_136_0) ((nwv_of (fun j => ((ka_X12_declares_120_w1_151 h168 _).trans rfl)) ((kp_X12_declares_120_w1_120_50 h168).trans rfl)).trans k149_9006_0) es168_9010_0 (by first | exact (hd_o z168_0) | exact (hd_o z168_0).elim (fun h1 => by omega) (fun h1 => by omega)) (by omega) (by first | exact (hd_o z168_2) | exact (hd_o z168_2).elim (fun h1 => by omega) (fun h1 => h1.elim (fun h1 => by omega) (fun h1 => by omega))) (by omega) (by omega) (by omega) (by omega)
            · have c171b : 1 ≤ r168 ∧ r168 ≤ 1 := by omega
              replace c171 := hd_i c171
              refine Tr.iconst (pc := 174) d_X12_text_174 (by decide) ?_
              refine Tr.goto (pc := 175) (tgt := 179) d_X12_text_175 rfl ?_
              refine Tr.pick [0] (ls2 := [(0, (2, 120))]) rfl ?_
              obtain ⟨w179p175_120_6, ew179p175_120_6⟩ : ∃ v, rd M168 120 6 = v := ⟨_, rfl⟩
              have bw179p175_120_6 : (-2147483648) ≤ w179p175_120_6 ∧ w179p175_120_6 ≤ 2147483647 := by rw [← ew179p175_120_6]; exact ir_120_6 hS.1.2.1
              exact J179 _ _ _ _ _ _ _ _ _ hS (by omega) (by and_intros <;> omega) (by and_intros <;> omega) (by and_intros <;> omega) (by and_intros <;> omega) (by omega) (by and_intros <;> omega) (by and_intros <;> omega) ((kp_X12_declares_120_w1_120_1 h168).trans k149_120_1) ((kp_X12_declares_120_w1_120_12 h168).trans k149_120_12) ((kp_X12_declares_120_w1_120_2 h168).trans k149_120_2) es168_120_3 ((kp_X12_declares_120_w1_120_36 h168).trans k149_120_36) ((kp_X12_declares_120_w1_120_37 h168).trans k149_120_37) es168_120_4 ((kp_X12_declares_120_w1_120_44 h168).trans k149_120_44) es168_120_5 ((kp_X12_declares_120_w1_120_50 h168).trans k149_120_50) ew179p175_120_6 es168_120_7 es168_120_8 ((kp_X12_declares_120_w1_129_0 h168).trans k149_129_0) ((kp_X12_declares_120_w1_136_0 h168).trans k149_136_0) ((nwv_of (fun j => ((ka_X12_declares_120_w1_151 h168 _).trans rfl)) ((kp_X12_declares_120_w1_120_50 h168).trans rfl)).trans k149_9006_0) es168_9010_0 (by first | exact (hd_o z168_0) | exact (hd_o z168_0).elim (fun h1 => by omega) (fun h1 => by omega)) (by omega) (by first | exact (hd_o z168_2) | exact (hd_o z168_2).elim (fun h1 => by omega) (fun h1 => h1.elim (fun h1 => by omega) (fun h1 => by omega))) (by omega) (by omega) (by omega) (by exact (hd_o z168_5).elim (fun h1 => by omega) (fun h1 => h1.elim (fun h1 => by omega) (fun h1 => by omega)))
  refine Tr.pick [1, 0] (ls2 := [(0, (2, 120)), (1, (0, 1))]) rfl ?_
  obtain ⟨w149p148_120_6, ew149p148_120_6⟩ : ∃ v, rd M144 120 6 = v := ⟨_, rfl⟩
  have bw149p148_120_6 : (-2147483648) ≤ w149p148_120_6 ∧ w149p148_120_6 ≤ 2147483647 := by rw [← ew149p148_120_6]; exact ir_120_6 hS.1.2.1
  exact J149 _ _ _ _ _ _ _ _ _ _ hS (by omega) (by and_intros <;> omega) (by and_intros <;> omega) (by and_intros <;> omega) (by and_intros <;> omega) (by omega) (by and_intros <;> omega) (by and_intros <;> omega) ((kp_X12_next_120_w1_120_1 h144).trans ((Wr.b w140 rfl).trans ((Wr.b w135 rfl).trans ((Wr.b w130 rfl).trans ((Wr.b w127 rfl).trans ((Wr.b w117 rfl).trans ((Wr.b w107 rfl).trans ((Wr.b w97 rfl).trans ((Wr.b w87 rfl).trans ((Wr.b w77 rfl).trans ((Wr.b w67 rfl).trans ((Wr.b w57 rfl).trans ((Wr.b w47 rfl).trans ((Wr.b w35 rfl).trans ((Wr.b w25 rfl).trans ((Wr.b w20 rfl).trans ((Wr.b w15 rfl).trans w10.1))))))))))))))))) ((kp_X12_next_120_w1_120_12 h144).trans ((Wr.b w140 rfl).trans ((Wr.b w135 rfl).trans ((Wr.b w130 rfl).trans ((Wr.b w127 rfl).trans ((Wr.b w117 rfl).trans ((Wr.b w107 rfl).trans ((Wr.b w97 rfl).trans ((Wr.b w87 rfl).trans ((Wr.b w77 rfl).trans ((Wr.b w67 rfl).trans ((Wr.b w57 rfl).trans ((Wr.b w47 rfl).trans ((Wr.b w35 rfl).trans ((Wr.b w25 rfl).trans ((Wr.b w20 rfl).trans ((Wr.b w15 rfl).trans ((Wr.b w10 rfl).trans ((Wr.b w5 rfl).trans en_120_12))))))))))))))))))) ((kp_X12_next_120_w1_120_2 h144).trans ((Wr.b w140 rfl).trans ((Wr.b w135 rfl).trans ((Wr.b w130 rfl).trans ((Wr.b w127 rfl).trans ((Wr.b w117 rfl).trans ((Wr.b w107 rfl).trans ((Wr.b w97 rfl).trans ((Wr.b w87 rfl).trans ((Wr.b w77 rfl).trans ((Wr.b w67 rfl).trans ((Wr.b w57 rfl).trans ((Wr.b w47 rfl).trans ((Wr.b w35 rfl).trans ((Wr.b w25 rfl).trans ((Wr.b w20 rfl).trans ((Wr.b w15 rfl).trans ((Wr.b w10 rfl).trans w5.1)))))))))))))))))) es144_120_3 ((kp_X12_next_120_w1_120_36 h144).trans ((Wr.b w140 rfl).trans ((Wr.b w135 rfl).trans w130.1))) ((kp_X12_next_120_w1_120_37 h144).trans ((Wr.b w140 rfl).trans ((Wr.b w135 rfl).trans ((Wr.b w130 rfl).trans ((Wr.b w127 rfl).trans ((Wr.b w117 rfl).trans ((Wr.b w107 rfl).trans ((Wr.b w97 rfl).trans ((Wr.b w87 rfl).trans ((Wr.b w77 rfl).trans ((Wr.b w67 rfl).trans ((Wr.b w57 rfl).trans ((Wr.b w47 rfl).trans w35.1))))))))))))) es144_120_4 ((kp_X12_next_120_w1_120_44 h144).trans ((Wr.b w140 rfl).trans w135.1)) es144_120_5 ((kp_X12_next_120_w1_120_50 h144).trans w140.1) ew149p148_120_6 es144_120_7 es144_120_8 ((kp_X12_next_120_w1_129_0 h144).trans ((Wr.b w140 rfl).trans ((Wr.b w135 rfl).trans ((Wr.b w130 rfl).trans ((Wr.b w127 rfl).trans w117.1))))) ((kp_X12_next_120_w1_136_0 h144).trans ((Wr.b w140 rfl).trans ((Wr.b w135 rfl).trans ((Wr.b w130 rfl).trans w127.1)))) ((nwv_of (fun j => ((ka_X12_next_120_w1_151 h144 _).trans rfl)) ((kp_X12_next_120_w1_120_50 h144).trans rfl)).trans ev140_9006) es144_9010_0 (by first | exact (hd_o z144_0) | exact (hd_o z144_0).elim (fun h1 => by omega) (fun h1 => by omega)) (by omega) (by first | exact (hd_o z144_2) | exact (hd_o z144_2).elim (fun h1 => by omega) (fun h1 => h1.elim (fun h1 => by omega) (fun h1 => by omega))) (by omega) (by omega) (by omega) (Nat.lt_succ_self _)
