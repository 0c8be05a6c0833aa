set_option maxRecDepth 100000 in
set_option maxHeartbeats 4000000 in
theorem ns_X12_pushes_120 {l : Launch} {K : EC} {M0 : Mem} {G120_43 G9002_0 G9005_0 : Int} (hI : In Pm1 M0) (k120_43 : rd M0 120 43 = G120_43) (k9002_0 : n4v M0 = G9002_0) (k9005_0 : fr0 M0 = G9005_0)  (a1 : Int) (ha1 : 0 ≤ a1 ∧ a1 ≤ 5)  (hq0 : G120_43 ≤ 19) (hq1 : a1 ≠ 4) (hq2 : 1 ≤ G120_43 ∨ a1 ≤ 1) (hq3 : G9005_0 ≤ 1 ∨ G120_43 = 0) : Tr l K 0 mX12_pushes 0 [(0, (2, 120)), (1, (0, a1))] [] M0 (fun M' r => St Pm1 ws_X12_pushes_120 as_X12_pushes_120 M0 M' ∧ ∃ S120_43 S9002_0 S9005_0 : Int, rd M' 120 43 = S120_43 ∧ (0 ≤ S120_43 ∧ S120_43 ≤ 20) ∧ n4v M' = S9002_0 ∧ (0 ≤ S9002_0 ∧ S9002_0 ≤ 20) ∧ fr0 M' = S9005_0 ∧ (0 ≤ S9005_0 ∧ S9005_0 ≤ 5) ∧ r = none ∧ (S120_43 = G120_43 + 1) ∧ (S9002_0 = G9002_0) ∧ (S9005_0 ≤ 1)) := by
  subst k120_43
  subst k9002_0
  subst k9005_0
  refine Tr.imp (sp_X12_pushes_120 hI a1 ha1 hq0 hq1 hq2 hq3) ?_
  rintro M' _ ⟨hS, rfl, z0, z1, z2⟩
  exact ⟨hS, _, _, _, rfl, ir_120_43 hS.1.2.1, rfl, (n4v_b hS.1.2.1), rfl, (fr0_b hS.1.2.1), rfl, z0, z1, z2⟩

def ws_X12_holdsBack_120 : List (Int × Int) := [(120, 46)]
def as_X12_holdsBack_120 : List Int := [150]
def q_X12_holdsBack_120 (a1 : Int) (M0 M' : Mem) (r : Option PV) : Prop := St Pm1 ws_X12_holdsBack_120 as_X12_holdsBack_120 M0 M' ∧ r = none ∧ (rd M' 120 46 = rd M0 120 46 + 1) ∧ ((a1 = 18 ∧ nb2v M' = nb2v M0) ∨ (a1 ≠ 18 ∧ nb2v M' = nb2v M0 + 1))
set_option maxRecDepth 100000 in
set_option maxHeartbeats 4000000 in
theorem sp_X12_holdsBack_120 {l : Launch} {K : EC} {M0 : Mem} (hI : In Pm1 M0)  (a1 : Int) (ha1 : 6 ≤ a1 ∧ a1 ≤ 18)  (hq0 : rd M0 120 46 ≤ 499) : Tr l K 0 mX12_holdsBack 0 [(0, (2, 120)), (1, (0, a1))] [] M0 (q_X12_holdsBack_120 a1 M0) := by
  have hS : St Pm1 ws_X12_holdsBack_120 as_X12_holdsBack_120 M0 M0 := St.rf hI
  obtain ⟨g120_46, eg120_46⟩ : ∃ v, rd M0 120 46 = v := ⟨_, rfl⟩
  have bg120_46 : 0 ≤ g120_46 ∧ g120_46 ≤ 500 := by rw [← eg120_46]; exact ir_120_46 hI.2.1
  obtain ⟨g9001_0, eg9001_0⟩ : ∃ v, nb2v M0 = v := ⟨_, rfl⟩
  have bg9001_0 : 0 ≤ g9001_0 ∧ g9001_0 ≤ 1000000 := by rw [← eg9001_0]; exact (nb2v_b hI.2.1)
  refine Tr.aload_n (pc := 0) (i := 0) d_X12_holdsBack_0 rfl rfl ?_
  refine Tr.getf (pc := 1) d_X12_holdsBack_1 f_12_149 (by decide) (by decide) (ty_120 hS.1.1) ?_
  refine Tr.tp 150 (fx_120_45 hS.1.1) ?_
  refine Tr.aload_n (pc := 4) (i := 0) d_X12_holdsBack_4 rfl rfl ?_
  refine Tr.getf (pc := 5) d_X12_holdsBack_5 f_12_152 (by decide) (by decide) (ty_120 hS.1.1) ?_
  refine Tr.tp g120_46 eg120_46 ?_
  refine Tr.iload_n (pc := 8) (i := 1) d_X12_holdsBack_8 rfl rfl ?_
  refine Tr.iastS (pc := 9) (P := St Pm1 ws_X12_holdsBack_120 as_X12_holdsBack_120 M0) d_X12_holdsBack_9 (ty_150 hS.1.1) (by omega) (by omega) (sa_150 hS (by decide) (by and_intros <;> omega) (Pm1.of hS.1.2.2.2.2 (fun _ => rd_wb _ rfl) (fun _ => rd_wb _ rfl) (fun _ => rd_wb _ rfl) (fun _ => rd_wb _ rfl) (fun _ => rd_wb _ rfl) (fun _ => rd_wb _ rfl) (fun _ => rd_wb _ rfl) (fun _ => rd_wb _ rfl) (fun _ => rd_wb _ rfl) (fun _ => rd_wb _ rfl) (rd_wb _ rfl) (rd_wb _ rfl) (rd_wb _ rfl) (rd_wb _ rfl) (rd_wb _ rfl) (rd_wb _ rfl) (rd_wb _ rfl) (rd_wb _ rfl) (rd_wb _ rfl) (rd_wb _ rfl) (rd_wb _ rfl))) (fun M9 hS w9 => ?_)
  refine Tr.aload_n (pc := 10) (i := 0) d_X12_holdsBack_10 rfl rfl ?_
  refine Tr.dup (pc := 11) d_X12_holdsBack_11 ne21 ?_
  refine Tr.getf (pc := 12) d_X12_holdsBack_12 f_12_152 (by decide) (by decide) (ty_120 hS.1.1) ?_
  refine Tr.tp g120_46 ((Wr.b w9 rfl).trans eg120_46) ?_
  refine Tr.iconst (pc := 15) d_X12_holdsBack_15 (by decide) ?_
  refine Tr.iadd (pc := 16) d_X12_holdsBack_16 ?_
  refine Tr.tp (g120_46 + 1) ((w32_id (by and_intros <;> omega)).trans (by omega)) ?_
  refine Tr.putfS (pc := 17) (P := St Pm1 ws_X12_holdsBack_120 as_X12_holdsBack_120 M0) d_X12_holdsBack_17 f_12_152 (by decide) (by decide) (ty_120 hS.1.1) (st_120_46 hS (by decide) (by and_intros <;> omega) (Pm1.of hS.1.2.2.2.2 (fun _ => rd_wb _ rfl) (fun _ => rd_wb _ rfl) (fun _ => rd_wb _ rfl) (fun _ => rd_wb _ rfl) (fun _ => rd_wb _ rfl) (fun _ => rd_wb _ rfl) (fun _ => rd_wb _ rfl) (fun _ => rd_wb _ rfl) (fun _ => rd_wb _ rfl) (fun _ => rd_wb _ rfl) (rd_wb _ rfl) (rd_wb _ rfl) (rd_wb _ rfl) (rd_wb _ rfl) (rd_wb _ rfl) (rd_wb _ rfl) (rd_wb _ rfl) (rd_wb _ rfl) (rd_wb _ rfl) (rd_wb _ rfl) (rd_wb _ rfl))) (fun M17 hS w17 => ?_)
  obtain ⟨v17_9001, ev17_9001⟩ : ∃ v, nb2v M17 = v := ⟨_, rfl⟩
  have bv17_9001 : 0 ≤ v17_9001 ∧ v17_9001 ≤ 1000000 := by rw [← ev17_9001]; exact (nb2v_b hS.1.2.1)
  have fv17_9001 : (a1 = 18 ∧ v17_9001 = g9001_0) ∨ (a1 ≤ 5 ∧ v17_9001 = g9001_0 + 2000) ∨ (5 < a1 ∧ a1 ≠ 18 ∧ v17_9001 = g9001_0 + 1) := by have h8 := nb2_push (M := M0) (M2 := M17) (n := g120_46) (v := a1) eg120_46 (w17.1.trans (by omega)) ((Wr.b w17 rfl).trans w9.1) (fun i hi => (Wr.b w17 rfl).trans (w9.2 _ _ (fun c => hi c.2))) (by omega); have h7 : nb2v M17 = v17_9001 := ev17_9001; have h6 : nb2v M0 = g9001_0 := eg9001_0; rw [h7, h6] at h8; exact h8
  replace fv17_9001 := hd_i fv17_9001
  have kr_120_46 : rd M17 120 46 = (g120_46 + 1) := w17.1
  have kr_9001_0 : nb2v M17 = v17_9001 := ev17_9001
  exact Tr.vret (pc := 20) d_X12_holdsBack_20 rfl ⟨hS, rfl, (by omega), (by exact (hd_o fv17_9001).elim (fun h1 => by omega) (fun h1 => h1.elim (fun h1 => by omega) (fun h1 => (ne_o h1.2.1).elim (fun h2 => by omega) (fun h2 => by omega))))⟩

set_option maxRecDepth 100000 in
set_option maxHeartbeats 4000000 in
theorem ns_X12_holdsBack_120 {l : Launch} {K : EC} {M0 : Mem} {G120_46 G9001_0 : Int} (hI : In Pm1 M0) (k120_46 : rd M0 120 46 = G120_46) (k9001_0 : nb2v M0 = G9001_0)  (a1 : Int) (ha1 : 6 ≤ a1 ∧ a1 ≤ 18)  (hq0 : G120_46 ≤ 499) : Tr l K 0 mX12_holdsBack 0 [(0, (2, 120)), (1, (0, a1))] [] M0 (fun M' r => St Pm1 ws_X12_holdsBack_120 as_X12_holdsBack_120 M0 M' ∧ ∃ S120_46 S9001_0 : Int, rd M' 120 46 = S120_46 ∧ (0 ≤ S120_46 ∧ S120_46 ≤ 500) ∧ nb2v M' = S9001_0 ∧ (0 ≤ S9001_0 ∧ S9001_0 ≤ 1000000) ∧ r = none ∧ (S120_46 = G120_46 + 1) ∧ Hd ((a1 = 18 ∧ S9001_0 = G9001_0) ∨ (a1 ≠ 18 ∧ S9001_0 = G9001_0 + 1))) := by
  subst k120_46
  subst k9001_0
  refine Tr.imp (sp_X12_holdsBack_120 hI a1 ha1 hq0) ?_
  rintro M' _ ⟨hS, rfl, z0, z1⟩
  exact ⟨hS, _, _, rfl, ir_120_46 hS.1.2.1, rfl, (nb2v_b hS.1.2.1), rfl, z0, hd_i z1⟩

def ws_X12_opens_120 : List (Int × Int) := [(120, 3), (120, 4), (120, 5), (120, 6), (120, 7), (120, 8), (120, 9), (120, 43), (120, 44)]
def as_X12_opens_120 : List Int := [145, 146, 147, 149]
def q_X12_opens_120 (a1 : Int) (M0 M' : Mem) (r : Option PV) : Prop := St Pm1 ws_X12_opens_120 as_X12_opens_120 M0 M' ∧ r = none ∧ (rd M' 120 3 = 0 ∨ rd M' 120 4 + 1 ≤ rd M' 120 5) ∧ (rd M' 120 4 ≤ rd M' 120 5) ∧ (rd M' 120 3 ≠ 1 ∨ rd M' 120 4 + 2 ≤ rd M' 120 5 ∨ rd M' 120 7 < 256) ∧ (rd M0 120 4 ≤ rd M' 120 4 ∧ rd M0 120 5 ≤ rd M' 120 5 ∧ tav M0 ≤ tav M') ∧ (rd M0 120 8 = 0 ∨ rd M' 120 8 = rd M0 120 8) ∧ (1 ≤ rd M' 120 8 ∨ tav M0 < tav M') ∧ (rd M' 120 43 - rd M0 120 43 = rd M' 120 44 - rd M0 120 44 ∧ rd M0 120 44 ≤ rd M' 120 44 ∧ rd M' 120 44 ≤ rd M0 120 44 + 1) ∧ (rd M' 120 44 = rd M0 120 44 ∨ rd M0 120 5 ≤ rd M' 120 4) ∧ (n4v M' = n4v M0) ∧ (fr0 M' ≤ 1) ∧ (rd M' 120 44 = rd M0 120 44 + 1 ∨ 1 ≤ rd M' 120 8)
theorem kp_X12_next_120_120_43 {q : Mem → Prop} {M0 M : Mem} (h : St q ws_X12_next_120 as_X12_next_120 M0 M) : rd M 120 43 = rd M0 120 43 := St.kp h (by decide) (by decide) (by decide)
theorem ka_X12_next_120_145 {q : Mem → Prop} {M0 M : Mem} (h : St q ws_X12_next_120 as_X12_next_120 M0 M) (j : Int) : rd M 145 j = rd M0 145 j := St.ka h (by decide) (by decide) (by decide)
theorem kp_X12_pushes_120_120_3 {q : Mem → Prop} {M0 M : Mem} (h : St q ws_X12_pushes_120 as_X12_pushes_120 M0 M) : rd M 120 3 = rd M0 120 3 := St.kp h (by decide) (by decide) (by decide)
theorem kp_X12_pushes_120_120_4 {q : Mem → Prop} {M0 M : Mem} (h : St q ws_X12_pushes_120 as_X12_pushes_120 M0 M) : rd M 120 4 = rd M0 120 4 := St.kp h (by decide) (by decide) (by decide)
theorem kp_X12_pushes_120_120_5 {q : Mem → Prop} {M0 M : Mem} (h : St q ws_X12_pushes_120 as_X12_pushes_120 M0 M) : rd M 120 5 = rd M0 120 5 := St.kp h (by decide) (by decide) (by decide)
theorem kp_X12_pushes_120_120_7 {q : Mem → Prop} {M0 M : Mem} (h : St q ws_X12_pushes_120 as_X12_pushes_120 M0 M) : rd M 120 7 = rd M0 120 7 := St.kp h (by decide) (by decide) (by decide)
theorem kp_X12_pushes_120_120_8 {q : Mem → Prop} {M0 M : Mem} (h : St q ws_X12_pushes_120 as_X12_pushes_120 M0 M) : rd M 120 8 = rd M0 120 8 := St.kp h (by decide) (by decide) (by decide)
theorem kp_X12_next_120_120_44 {q : Mem → Prop} {M0 M : Mem} (h : St q ws_X12_next_120 as_X12_next_120 M0 M) : rd M 120 44 = rd M0 120 44 := St.kp h (by decide) (by decide) (by decide)
theorem kp_X12_pushes_120_120_44 {q : Mem → Prop} {M0 M : Mem} (h : St q ws_X12_pushes_120 as_X12_pushes_120 M0 M) : rd M 120 44 = rd M0 120 44 := St.kp h (by decide) (by decide) (by decide)
theorem kp_X12_blame_120_120_43 {q : Mem → Prop} {M0 M : Mem} (h : St q ws_X12_blame_120 as_X12_blame_120 M0 M) : rd M 120 43 = rd M0 120 43 := St.kp h (by decide) (by decide) (by decide)
theorem kp_X12_blame_120_120_44 {q : Mem → Prop} {M0 M : Mem} (h : St q ws_X12_blame_120 as_X12_blame_120 M0 M) : rd M 120 44 = rd M0 120 44 := St.kp h (by decide) (by decide) (by decide)
theorem kp_X12_blame_120_120_46 {q : Mem → Prop} {M0 M : Mem} (h : St q ws_X12_blame_120 as_X12_blame_120 M0 M) : rd M 120 46 = rd M0 120 46 := St.kp h (by decide) (by decide) (by decide)
theorem ka_X12_blame_120_145 {q : Mem → Prop} {M0 M : Mem} (h : St q ws_X12_blame_120 as_X12_blame_120 M0 M) (j : Int) : rd M 145 j = rd M0 145 j := St.ka h (by decide) (by decide) (by decide)
set_option maxRecDepth 100000 in
set_option maxHeartbeats 4000000 in
theorem sp_X12_opens_120 {l : Launch} {K : EC} {M0 : Mem} (hI : In Pm1 M0)  (a1 : Int) (ha1 : 2 ≤ a1 ∧ a1 ≤ 5)  (hq0 : rd M0 120 3 = 0 ∨ rd M0 120 4 + 1 ≤ rd M0 120 5) (hq1 : rd M0 120 4 ≤ rd M0 120 5) (hq2 : rd M0 120 3 ≠ 1 ∨ rd M0 120 4 + 2 ≤ rd M0 120 5 ∨ rd M0 120 7 < 256) (hq3 : 1 ≤ rd M0 120 43 ∧ rd M0 120 43 ≤ 19) (hq4 : rd M0 120 3 ≠ 0 ∨ 1 ≤ rd M0 120 8) (hq5 : fr0 M0 ≤ 1) (hq6 : a1 ≠ 4) : Tr l K 2 mX12_opens 0 [(0, (2, 120)), (1, (0, a1))] [] M0 (q_X12_opens_120 a1 M0) := by
  have hS : St Pm1 ws_X12_opens_120 as_X12_opens_120 M0 M0 := St.rf hI
  obtain ⟨g120_8, eg120_8⟩ : ∃ v, rd M0 120 8 = v := ⟨_, rfl⟩
  have bg120_8 : 0 ≤ g120_8 ∧ g120_8 ≤ 5 := by rw [← eg120_8]; exact ir_120_8 hI.2.1
  obtain ⟨g120_3, eg120_3⟩ : ∃ v, rd M0 120 3 = v := ⟨_, rfl⟩
  have bg120_3 : 0 ≤ g120_3 ∧ g120_3 ≤ 3 := by rw [← eg120_3]; exact ir_120_3 hI.2.1
  obtain ⟨g120_4, eg120_4⟩ : ∃ v, rd M0 120 4 = v := ⟨_, rfl⟩
  have bg120_4 : 0 ≤ g120_4 ∧ g120_4 ≤ 900 := by rw [← eg120_4]; exact ir_120_4 hI.2.1
  obtain ⟨g120_5, eg120_5⟩ : ∃ v, rd M0 120 5 = v := ⟨_, rfl⟩
  have bg120_5 : 0 ≤ g120_5 ∧ g120_5 ≤ 900 := by rw [← eg120_5]; exact ir_120_5 hI.2.1
  obtain ⟨g120_7, eg120_7⟩ : ∃ v, rd M0 120 7 = v := ⟨_, rfl⟩
  have bg120_7 : (-9223372036854775808) ≤ g120_7 ∧ g120_7 ≤ 9223372036854775807 := by rw [← eg120_7]; exact ir_120_7 hI.2.1
  obtain ⟨g9010_0, eg9010_0⟩ : ∃ v, tav M0 = v := ⟨_, rfl⟩
  have bg9010_0 : (-1) ≤ g9010_0 ∧ g9010_0 ≤ 1800 := by rw [← eg9010_0]; exact (tav_b hI.2.1)
  obtain ⟨g120_44, eg120_44⟩ : ∃ v, rd M0 120 44 = v := ⟨_, rfl⟩
  have bg120_44 : 0 ≤ g120_44 ∧ g120_44 ≤ 8 := by rw [← eg120_44]; exact ir_120_44 hI.2.1
  obtain ⟨g120_43, eg120_43⟩ : ∃ v, rd M0 120 43 = v := ⟨_, rfl⟩
  have bg120_43 : 0 ≤ g120_43 ∧ g120_43 ≤ 20 := by rw [← eg120_43]; exact ir_120_43 hI.2.1
  obtain ⟨g9002_0, eg9002_0⟩ : ∃ v, n4v M0 = v := ⟨_, rfl⟩
  have bg9002_0 : 0 ≤ g9002_0 ∧ g9002_0 ≤ 20 := by rw [← eg9002_0]; exact (n4v_b hI.2.1)
  obtain ⟨g9005_0, eg9005_0⟩ : ∃ v, fr0 M0 = v := ⟨_, rfl⟩
  have bg9005_0 : 0 ≤ g9005_0 ∧ g9005_0 ≤ 5 := by rw [← eg9005_0]; exact (fr0_b hI.2.1)
  obtain ⟨g120_46, eg120_46⟩ : ∃ v, rd M0 120 46 = v := ⟨_, rfl⟩
  have bg120_46 : 0 ≤ g120_46 ∧ g120_46 ≤ 500 := by rw [← eg120_46]; exact ir_120_46 hI.2.1
  replace hq0 := hd_i hq0
  replace hq2 := hd_i hq2
  replace hq4 := hd_i hq4
  replace hq6 := hd_i hq6
  refine Tr.aload_n (pc := 0) (i := 0) d_X12_opens_0 rfl rfl ?_
  refine Tr.getf (pc := 1) d_X12_opens_1 f_12_146 (by decide) (by decide) (ty_120 hS.1.1) ?_
  refine Tr.tp g120_44 eg120_44 ?_
  refine Tr.bipush (pc := 4) d_X12_opens_4 rfl (by decide) ?_
  have J18 : ∀ (M : Mem) (u18_120_8 : Int), St Pm1 ws_X12_opens_120 as_X12_opens_120 M0 M → (0 ≤ u18_120_8 ∧ u18_120_8 ≤ 5) → rd M 120 3 = g120_3 → rd M 120 4 = g120_4 → rd M 120 43 = g120_43 → rd M 120 44 = g120_44 → rd M 120 46 = g120_46 → rd M 120 5 = g120_5 → rd M 120 7 = g120_7 → rd M 120 8 = u18_120_8 → n4v M = g9002_0 → fr0 M = g9005_0 → tav M = g9010_0 → ((u18_120_8 = 0 ∧ g120_44 ≤ 7) ∨ 1 ≤ u18_120_8) → (g120_8 = 0 ∨ u18_120_8 = g120_8) → Tr l K 2 mX12_opens 18 [(0, (2, 120)), (1, (0, a1))] [] M (q_X12_opens_120 a1 M0) := by
    intro M u18_120_8 hS bu18_120_8 k18_120_3 k18_120_4 k18_120_43 k18_120_44 k18_120_46 k18_120_5 k18_120_7 k18_120_8 k18_9002_0 k18_9005_0 k18_9010_0 t18_0 t18_1
    replace t18_0 := hd_i t18_0
    replace t18_1 := hd_i t18_1
    refine Tr.aload_n (pc := 18) (i := 0) d_X12_opens_18 rfl rfl ?_
    refine Tr.getf (pc := 19) d_X12_opens_19 f_12_36 (by decide) (by decide) (ty_120 hS.1.1) ?_
    refine Tr.tp u18_120_8 k18_120_8 ?_
    refine Tr.if_le (pc := 22) (tgt := 26) d_X12_opens_22 rfl (fun c22 => ?_) (fun c22 => ?_)
    · refine Tr.aload_n (pc := 26) (i := 0) d_X12_opens_26 rfl rfl ?_
      refine Tr.dup (pc := 27) d_X12_opens_27 ne21 ?_
      refine Tr.getf (pc := 28) d_X12_opens_28 f_12_146 (by decide) (by decide) (ty_120 hS.1.1) ?_
      refine Tr.tp g120_44 k18_120_44 ?_
      refine Tr.iconst (pc := 31) d_X12_opens_31 (by decide) ?_
      refine Tr.iadd (pc := 32) d_X12_opens_32 ?_
      refine Tr.tp (g120_44 + 1) ((w32_id (by and_intros <;> omega)).trans (by omega)) ?_
      refine Tr.putfS (pc := 33) (P := St Pm1 ws_X12_opens_120 as_X12_opens_120 M0) d_X12_opens_33 f_12_146 (by decide) (by decide) (ty_120 hS.1.1) (st_120_44 hS (by decide) (by exact (hd_o t18_0).elim (fun h1 => by omega) (fun h1 => by omega)) (Pm1.of hS.1.2.2.2.2 (fun _ => rd_wb _ rfl) (fun _ => rd_wb _ rfl) (fun _ => rd_wb _ rfl) (fun _ => rd_wb _ rfl) (fun _ => rd_wb _ rfl) (fun _ => rd_wb _ rfl) (fun _ => rd_wb _ rfl) (fun _ => rd_wb _ rfl) (fun _ => rd_wb _ rfl) (fun _ => rd_wb _ rfl) (rd_wb _ rfl) (rd_wb _ rfl) (rd_wb _ rfl) (rd_wb _ rfl) (rd_wb _ rfl) (rd_wb _ rfl) (rd_wb _ rfl) (rd_wb _ rfl) (rd_wb _ rfl) (rd_wb _ rfl) (rd_wb _ rfl))) (fun M33 hS w33 => ?_)
      refine Tr.aload_n (pc := 36) (i := 0) d_X12_opens_36 rfl rfl ?_
      refine Tr.callV (pc := 37) (as := []) d_X12_opens_37 s_12_396 ok_X12_next rfl rfl (Nat.le_of_ble_eq_true rfl) (Nat.le_of_ble_eq_true rfl) (by decide) (ty_120 hS.1.1) ?_
      refine Tr.imp (Tr.deep (by decide) (ns_X12_next_120 (G120_3 := g120_3) (G120_5 := g120_5) (G120_8 := u18_120_8) (G9010_0 := g9010_0) hS.1 (((Wr.b w33 rfl).trans k18_120_3)) (((Wr.b w33 rfl).trans k18_120_5)) (((Wr.b w33 rfl).trans k18_120_8)) (((tav_of ((Wr.b w33 rfl).trans rfl) ((Wr.b w33 rfl).trans rfl)).trans k18_9010_0)))) ?_
      rintro M37 _ ⟨h37, s37_120_3, s37_120_4, s37_120_5, s37_120_7, s37_120_8, s37_9010_0, es37_120_3, bs37_120_3, es37_120_4, bs37_120_4, es37_120_5, bs37_120_5, es37_120_7, bs37_120_7, es37_120_8, bs37_120_8, es37_9010_0, bs37_9010_0, rfl, z37_0, z37_1, z37_2, z37_3, z37_4, z37_5, z37_6⟩
      have hS := St.tr hS h37 (by decide) (by decide)
      refine Tr.sc [] rfl ?_
      refine Tr.aload_n (pc := 40) (i := 0) d_X12_opens_40 rfl rfl ?_
      refine Tr.iload_n (pc := 41) (i := 1) d_X12_opens_41 rfl rfl ?_
      refine Tr.callV (pc := 42) (as := [_]) d_X12_opens_42 s_12_478 ok_X12_pushes rfl rfl (Nat.le_of_ble_eq_true rfl) (Nat.le_of_ble_eq_true rfl) (by decide) (ty_120 hS.1.1) ?_
      refine Tr.imp (Tr.deep (by decide) (ns_X12_pushes_120 (G120_43 := g120_43) (G9002_0 := g9002_0) (G9005_0 := g9005_0) hS.1 (((kp_X12_next_120_120_43 h37).trans ((Wr.b w33 rfl).trans k18_120_43))) (((n4v_of (fun j => ((ka_X12_next_120_145 h37 _).trans ((Wr.b w33 rfl).trans rfl))) ((kp_X12_next_120_120_43 h37).trans ((Wr.b w33 rfl).trans rfl))).trans k18_9002_0)) (((fr0_of (fun j => ((ka_X12_next_120_145 h37 _).trans ((Wr.b w33 rfl).trans rfl)))).trans k18_9005_0)) a1 (by and_intros <;> omega) (by omega) (by have h1 := (hd_o hq6); omega) (by omega) (by omega))) ?_
      rintro M42 _ ⟨h42, s42_120_43, s42_9002_0, s42_9005_0, es42_120_43, bs42_120_43, es42_9002_0, bs42_9002_0, es42_9005_0, bs42_9005_0, rfl, z42_0, z42_1, z42_2⟩
      have hS := St.tr hS h42 (by decide) (by decide)
      refine Tr.sc [] rfl ?_
      have kr_120_3 : rd M42 120 3 = s37_120_3 := ((kp_X12_pushes_120_120_3 h42).trans es37_120_3)
      have kr_120_4 : rd M42 120 4 = s37_120_4 := ((kp_X12_pushes_120_120_4 h42).trans es37_120_4)
      have kr_120_5 : rd M42 120 5 = s37_120_5 := ((kp_X12_pushes_120_120_5 h42).trans es37_120_5)
      have kr_120_7 : rd M42 120 7 = s37_120_7 := ((kp_X12_pushes_120_120_7 h42).trans es37_120_7)
      have kr_120_8 : rd M42 120 8 = s37_120_8 := ((kp_X12_pushes_120_120_8 h42).trans es37_120_8)
      have kr_120_43 : rd M42 120 43 = s42_120_43 := es42_120_43
      have kr_120_44 : rd M42 120 44 = (g120_44 + 1) := ((kp_X12_pushes_120_120_44 h42).trans ((kp_X12_next_120_120_44 h37).trans w33.1))
      have kr_9002_0 : n4v M42 = s42_9002_0 := es42_9002_0
      have kr_9005_0 : fr0 M42 = s42_9005_0 := es42_9005_0
      have kr_9010_0 : tav M42 = s37_9010_0 := ((tav_of ((kp_X12_pushes_120_120_5 h42).trans rfl) ((kp_X12_pushes_120_120_3 h42).trans rfl)).trans es37_9010_0)
      exact Tr.vret (pc := 45) d_X12_opens_45 rfl ⟨hS, rfl, (by first | exact (hd_o z37_0) | exact (hd_o z37_0).elim (fun h1 => by omega) (fun h1 => by omega)), (by omega), (by first | exact (hd_o z37_2) | exact (hd_o z37_2).elim (fun h1 => by omega) (fun h1 => h1.elim (fun h1 => by omega) (fun h1 => by omega))), (by and_intros <;> omega), (by exact (hd_o t18_1).elim (fun h1 => by omega) (fun h1 => by omega)), (by exact (hd_o hq4).elim (fun h1 => (ne_o h1).elim (fun h2 => by omega) (fun h2 => (hd_o z37_5).elim (fun h3 => by omega) (fun h3 => by omega))) (fun h1 => (hd_o t18_1).elim (fun h2 => by omega) (fun h2 => by omega))), (by and_intros <;> omega), (by omega), (by omega), (by omega), (by omega)⟩
    · have kr_120_3 : rd M 120 3 = g120_3 := k18_120_3
      have kr_120_4 : rd M 120 4 = g120_4 := k18_120_4
      have kr_120_5 : rd M 120 5 = g120_5 := k18_120_5
      have kr_120_7 : rd M 120 7 = g120_7 := k18_120_7
      have kr_120_8 : rd M 120 8 = u18_120_8 := k18_120_8
      have kr_120_43 : rd M 120 43 = g120_43 := k18_120_43
      have kr_120_44 : rd M 120 44 = g120_44 := k18_120_44
      have kr_9002_0 : n4v M = g9002_0 := k18_9002_0
      have kr_9005_0 : fr0 M = g9005_0 := k18_9005_0
      have kr_9010_0 : tav M = g9010_0 := k18_9010_0
      exact Tr.vret (pc := 25) d_X12_opens_25 rfl ⟨hS, rfl, (by first | exact (hd_o hq0) | exact (hd_o hq0).elim (fun h1 => by omega) (fun h1 => by omega)), (by omega), (by first | exact (hd_o hq2) | exact (hd_o hq2).elim (fun h1 => by omega) (fun h1 => h1.elim (fun h1 => by omega) (fun h1 => by omega))), (by and_intros <;> omega), (by first | exact (hd_o t18_1) | exact (hd_o t18_1).elim (fun h1 => by omega) (fun h1 => by omega)), (by omega), (by and_intros <;> omega), (by omega), (by omega), (by omega), (by omega)⟩
  refine Tr.icmp_ne (pc := 6) (tgt := 18) d_X12_opens_6 rfl (fun c6 => ?_) (fun c6 => ?_)
  · have c6b : 0 ≤ g120_44 ∧ g120_44 ≤ 7 := by omega
    replace c6 := hd_i c6
    refine Tr.pick [0, 1] (ls2 := [(0, (2, 120)), (1, (0, a1))]) rfl ?_
    exact J18 _ _ hS (by and_intros <;> omega) eg120_3 eg120_4 eg120_43 eg120_44 eg120_46 eg120_5 eg120_7 eg120_8 eg9002_0 eg9005_0 eg9010_0 (by omega) (by omega)
  · refine Tr.aload_n (pc := 9) (i := 0) d_X12_opens_9 rfl rfl ?_
    refine Tr.iconst (pc := 10) d_X12_opens_10 (by decide) ?_
    refine Tr.aload_n (pc := 11) (i := 0) d_X12_opens_11 rfl rfl ?_
    refine Tr.getf (pc := 12) d_X12_opens_12 f_12_23 (by decide) (by decide) (ty_120 hS.1.1) ?_
    refine Tr.tp g120_4 eg120_4 ?_
    refine Tr.callV (pc := 15) (as := [_, _]) d_X12_opens_15 s_12_389 ok_X12_blame rfl rfl (Nat.le_of_ble_eq_true rfl) (Nat.le_of_ble_eq_true rfl) (by decide) (ty_120 hS.1.1) ?_
    refine Tr.imp (Tr.deep (by decide) (ns_X12_blame_120 (G120_8 := g120_8) hS.1 (eg120_8) 5 (by omega) g120_4 (by and_intros <;> omega))) ?_
    rintro M15 _ ⟨h15, s15_120_8, es15_120_8, bs15_120_8, rfl, z15_0⟩
    have hS := St.tr hS h15 (by decide) (by decide)
    refine Tr.sc [] rfl ?_
    refine Tr.pick [0, 1] (ls2 := [(0, (2, 120)), (1, (0, a1))]) rfl ?_
    exact J18 _ _ hS (by and_intros <;> omega) ((kp_X12_blame_120_120_3 h15).trans eg120_3) ((kp_X12_blame_120_120_4 h15).trans eg120_4) ((kp_X12_blame_120_120_43 h15).trans eg120_43) ((kp_X12_blame_120_120_44 h15).trans eg120_44) ((kp_X12_blame_120_120_46 h15).trans eg120_46) ((kp_X12_blame_120_120_5 h15).trans eg120_5) ((kp_X12_blame_120_120_7 h15).trans eg120_7) es15_120_8 ((n4v_of (fun j => ((ka_X12_blame_120_145 h15 _).trans rfl)) ((kp_X12_blame_120_120_43 h15).trans rfl)).trans eg9002_0) ((fr0_of (fun j => ((ka_X12_blame_120_145 h15 _).trans rfl))).trans eg9005_0) ((tav_of ((kp_X12_blame_120_120_5 h15).trans rfl) ((kp_X12_blame_120_120_3 h15).trans rfl)).trans eg9010_0) (by exact (hd_o z15_0).elim (fun h1 => by omega) (fun h1 => by omega)) (by exact (hd_o z15_0).elim (fun h1 => by omega) (fun h1 => by omega))

set_option maxRecDepth 100000 in
set_option maxHeartbeats 4000000 in
theorem ns_X12_opens_120 {l : Launch} {K : EC} {M0 : Mem} {G120_3 G120_4 G120_5 G120_7 G120_8 G120_43 G120_44 G9002_0 G9005_0 G9010_0 : Int} (hI : In Pm1 M0) (k120_3 : rd M0 120 3 = G120_3) (k120_4 : rd M0 120 4 = G120_4) (k120_5 : rd M0 120 5 = G120_5) (k120_7 : rd M0 120 7 = G120_7) (k120_8 : rd M0 120 8 = G120_8) (k120_43 : rd M0 120 43 = G120_43) (k120_44 : rd M0 120 44 = G120_44) (k9002_0 : n4v M0 = G9002_0) (k9005_0 : fr0 M0 = G9005_0) (k9010_0 : tav M0 = G9010_0)  (a1 : Int) (ha1 : 2 ≤ a1 ∧ a1 ≤ 5)  (hq0 : G120_3 = 0 ∨ G120_4 + 1 ≤ G120_5) (hq1 : G120_4 ≤ G120_5) (hq2 : G120_3 ≠ 1 ∨ G120_4 + 2 ≤ G120_5 ∨ G120_7 < 256) (hq3 : 1 ≤ G120_43 ∧ G120_43 ≤ 19) (hq4 : G120_3 ≠ 0 ∨ 1 ≤ G120_8) (hq5 : G9005_0 ≤ 1) (hq6 : a1 ≠ 4) : Tr l K 2 mX12_opens 0 [(0, (2, 120)), (1, (0, a1))] [] M0 (fun M' r => St Pm1 ws_X12_opens_120 as_X12_opens_120 M0 M' ∧ ∃ S120_3 S120_4 S120_5 S120_7 S120_8 S120_43 S120_44 S9002_0 S9005_0 S9010_0 : Int, rd M' 120 3 = S120_3 ∧ (0 ≤ S120_3 ∧ S120_3 ≤ 3) ∧ rd M' 120 4 = S120_4 ∧ (0 ≤ S120_4 ∧ S120_4 ≤ 900) ∧ rd M' 120 5 = S120_5 ∧ (0 ≤ S120_5 ∧ S120_5 ≤ 900) ∧ rd M' 120 7 = S120_7 ∧ ((-9223372036854775808) ≤ S120_7 ∧ S120_7 ≤ 9223372036854775807) ∧ rd M' 120 8 = S120_8 ∧ (0 ≤ S120_8 ∧ S120_8 ≤ 5) ∧ rd M' 120 43 = S120_43 ∧ (0 ≤ S120_43 ∧ S120_43 ≤ 20) ∧ rd M' 120 44 = S120_44 ∧ (0 ≤ S120_44 ∧ S120_44 ≤ 8) ∧ n4v M' = S9002_0 ∧ (0 ≤ S9002_0 ∧ S9002_0 ≤ 20) ∧ fr0 M' = S9005_0 ∧ (0 ≤ S9005_0 ∧ S9005_0 ≤ 5) ∧ tav M' = S9010_0 ∧ ((-1) ≤ S9010_0 ∧ S9010_0 ≤ 1800) ∧ r = none ∧ Hd (S120_3 = 0 ∨ S120_4 + 1 ≤ S120_5) ∧ (S120_4 ≤ S120_5) ∧ Hd (S120_3 ≠ 1 ∨ S120_4 + 2 ≤ S120_5 ∨ S120_7 < 256) ∧ (G120_4 ≤ S120_4 ∧ G120_5 ≤ S120_5 ∧ G9010_0 ≤ S9010_0) ∧ Hd (G120_8 = 0 ∨ S120_8 = G120_8) ∧ Hd (1 ≤ S120_8 ∨ G9010_0 < S9010_0) ∧ (S120_43 - G120_43 = S120_44 - G120_44 ∧ G120_44 ≤ S120_44 ∧ S120_44 ≤ G120_44 + 1) ∧ Hd (S120_44 = G120_44 ∨ G120_5 ≤ S120_4) ∧ (S9002_0 = G9002_0) ∧ (S9005_0 ≤ 1) ∧ Hd (S120_44 = G120_44 + 1 ∨ 1 ≤ S120_8)) := by
  subst k120_3
  subst k120_4
  subst k120_5
  subst k120_7
  subst k120_8
  subst k120_43
  subst k120_44
  subst k9002_0
  subst k9005_0
  subst k9010_0
  refine Tr.imp (sp_X12_opens_120 hI a1 ha1 hq0 hq1 hq2 hq3 hq4 hq5 hq6) ?_
  rintro M' _ ⟨hS, rfl, z0, z1, z2, z3, z4, z5, z6, z7, z8, z9, z10⟩
  exact ⟨hS, _, _, _, _, _, _, _, _, _, _, rfl, ir_120_3 hS.1.2.1, rfl, ir_120_4 hS.1.2.1, rfl, ir_120_5 hS.1.2.1, rfl, ir_120_7 hS.1.2.1, rfl, ir_120_8 hS.1.2.1, rfl, ir_120_43 hS.1.2.1, rfl, ir_120_44 hS.1.2.1, rfl, (n4v_b hS.1.2.1), rfl, (fr0_b hS.1.2.1), rfl, (tav_b hS.1.2.1), rfl, hd_i z0, z1, hd_i z2, z3, hd_i z4, hd_i z5, z6, hd_i z7, z8, z9, hd_i z10⟩

def ws_X12_add_120 : List (Int × Int) := [(120, 36)]
def as_X12_add_120 : List Int := [143, 144]
def q_X12_add_120 (a1 a2 : Int) (M0 M' : Mem) (r : Option PV) : Prop := St Pm1 ws_X12_add_120 as_X12_add_120 M0 M' ∧ r = none ∧ (rd M' 120 36 = rd M0 120 36 + 1) ∧ ((a1 ≤ 5 ∧ Dv1 M' = Dv1 M0 + 1) ∨ (a1 = 18 ∧ Dv1 M' = Dv1 M0) ∨ (5 < a1 ∧ a1 ≠ 18 ∧ Dv1 M' = Dv1 M0 - 1))
set_option maxRecDepth 100000 in
set_option maxHeartbeats 4000000 in
theorem sp_X12_add_120 {l : Launch} {K : EC} {M0 : Mem} (hI : In Pm1 M0) (en_120_37 : rd M0 120 37 = 1) (a1 : Int) (ha1 : -2147483648 ≤ a1 ∧ a1 ≤ 2147483647) (a2 : Int) (ha2 : -2147483648 ≤ a2 ∧ a2 ≤ 2147483647) (hp0 : (a1 = 1 → 0 ≤ a2 ∧ a2 ≤ 2) ∧ (a1 = 2 ∨ a1 = 4 → 0 ≤ a2 ∧ a2 ≤ 5)) (hq0 : rd M0 120 36 ≤ 899) (hq1 : 1 ≤ rd M0 136 1) (hq2 : a1 ≤ 5 ∨ 1 ≤ Dv1 M0) (hq3 : a1 ≤ 5 ∨ a1 = 18 ∨ 2 ≤ Dv1 M0) : Tr l K 0 mX12_add 0 [(0, (2, 120)), (1, (0, a1)), (2, (0, a2))] [] M0 (q_X12_add_120 a1 a2 M0) := by
  have hS : St Pm1 ws_X12_add_120 as_X12_add_120 M0 M0 := St.rf hI
  obtain ⟨n, hn⟩ : ∃ v, rd M0 120 36 = v := ⟨_, rfl⟩
  have hb := ir_120_36 hI.2.1
  refine Tr.aload_n (pc := 0) (i := 0) d_X12_add_0 rfl rfl ?_
  refine Tr.getf (pc := 1) d_X12_add_1 f_12_115 (by decide) (by decide) (ty_120 hS.1.1) ?_
  refine Tr.tp 143 (fx_120_34 hS.1.1) ?_
  refine Tr.sipush (pc := 4) d_X12_add_4 rfl (by decide) ?_
  refine Tr.aload_n (pc := 7) (i := 0) d_X12_add_7 rfl rfl ?_
  refine Tr.getf (pc := 8) d_X12_add_8 f_12_124 (by decide) (by decide) (ty_120 hS.1.1) ?_
  refine Tr.tp 1 en_120_37 ?_
  refine Tr.imul (pc := 11) d_X12_add_11 ?_
  refine Tr.tp 900 (by decide) ?_
  refine Tr.aload_n (pc := 12) (i := 0) d_X12_add_12 rfl rfl ?_
  refine Tr.getf (pc := 13) d_X12_add_13 f_12_121 (by decide) (by decide) (ty_120 hS.1.1) ?_
  refine Tr.tp n hn ?_
  refine Tr.iadd (pc := 16) d_X12_add_16 ?_
  refine Tr.tp (900 + n) (w32_id (by omega)) ?_
  refine Tr.iload_n (pc := 17) (i := 1) d_X12_add_17 rfl rfl ?_
  refine Tr.iast (pc := 18) d_X12_add_18 (ty_143 hS.1.1) (by omega) (by omega) ?_
  refine Tr.aload_n (pc := 19) (i := 0) d_X12_add_19 rfl rfl ?_
  refine Tr.getf (pc := 20) d_X12_add_20 f_12_118 (by decide) (by decide) (show mT (wr M0 143 (900 + n) a1) 120 = (12, 121) from ty_120 (M := M0) hS.1.1) ?_
  refine Tr.tp 144 ((rd_wb _ rfl).trans (fx_120_35 (M := M0) hS.1.1)) ?_
  refine Tr.sipush (pc := 23) d_X12_add_23 rfl (by decide) ?_
  refine Tr.aload_n (pc := 26) (i := 0) d_X12_add_26 rfl rfl ?_
  refine Tr.getf (pc := 27) d_X12_add_27 f_12_124 (by decide) (by decide) (show mT (wr M0 143 (900 + n) a1) 120 = (12, 121) from ty_120 (M := M0) hS.1.1) ?_
  refine Tr.tp 1 ((rd_wb _ rfl).trans en_120_37) ?_
  refine Tr.imul (pc := 30) d_X12_add_30 ?_
  refine Tr.tp 900 (by decide) ?_
  refine Tr.aload_n (pc := 31) (i := 0) d_X12_add_31 rfl rfl ?_
  refine Tr.getf (pc := 32) d_X12_add_32 f_12_121 (by decide) (by decide) (show mT (wr M0 143 (900 + n) a1) 120 = (12, 121) from ty_120 (M := M0) hS.1.1) ?_
  refine Tr.tp n ((rd_wb _ rfl).trans hn) ?_
  refine Tr.iadd (pc := 35) d_X12_add_35 ?_
  refine Tr.tp (900 + n) (w32_id (by omega)) ?_
  refine Tr.iload_n (pc := 36) (i := 2) d_X12_add_36 rfl rfl ?_
  refine Tr.iastS (pc := 37) (P := fun M1 => St Tru ws_X12_add_120 as_X12_add_120 M0 M1) d_X12_add_37 (show mT (wr M0 143 (900 + n) a1) 144 = (20, 1800) from ty_144 (M := M0) hS.1.1) (by omega) (by omega) (St.two (x := 143) (y := 144) 96 97 hS.wk (by decide) hp0 (by decide) (by decide) rfl (by decide +kernel) (by decide +kernel) (by decide +kernel) (by omega) rfl (by decide +kernel) (by decide +kernel) (by decide +kernel) (by omega) trivial) (fun M37 hS9 w37 => ?_)
  have ho : ∀ y j : Int, ¬ (y = 143 ∧ j = 900 + n) → y ≠ 144 → rd M37 y j = rd M0 y j := fun y j c1 c2 => by rw [w37.2 _ _ (fun d => c2 d.1), rd_wn _ c1]
  have e1 : rd M37 143 (900 + n) = a1 := by rw [w37.2 _ _ (fun d => absurd d.1 (by decide)), rd_ws]
  have hA := Pm1_add (w := 0) hI.2.2.2.2 hI.2.1 hn (by omega) (by omega) e1 ho (fun c => by omega) (fun c c2 => by omega)
  refine Tr.aload_n (pc := 38) (i := 0) d_X12_add_38 rfl rfl ?_
  refine Tr.dup (pc := 39) d_X12_add_39 ne21 ?_
  refine Tr.getf (pc := 40) d_X12_add_40 f_12_121 (by decide) (by decide) (ty_120 hS9.1.1) ?_
  refine Tr.tp n ((ho 120 36 (fun d => absurd d.1 (by decide)) (by decide)).trans hn) ?_
  refine Tr.iconst (pc := 43) d_X12_add_43 (by decide) ?_
  refine Tr.iadd (pc := 44) d_X12_add_44 ?_
  refine Tr.tp (n + 1) (w32_id (by omega)) ?_
  have hS8 : St Tru ws_X12_add_120 as_X12_add_120 M0 (wr M37 120 36 (n + 1)) := st_120_36 hS9 (by decide) (by omega) trivial
  have hq := hA.2
  have hl := dl_c a1
  have hc : rd (wr M37 120 36 (n + 1)) 120 36 = n + 1 := rd_ws _ _ _ _
  refine Tr.putf (pc := 45) d_X12_add_45 f_12_121 (by decide) (by decide) (ty_120 hS9.1.1) ?_
  exact Tr.vret (pc := 48) d_X12_add_48 rfl ⟨St.rn hS8 hA.1, rfl, by omega, by omega⟩

set_option maxRecDepth 100000 in
set_option maxHeartbeats 4000000 in
theorem ns_X12_add_120 {l : Launch} {K : EC} {M0 : Mem} {G120_36 G136_1 G9004_0 : Int} (hI : In Pm1 M0) (k120_36 : rd M0 120 36 = G120_36) (k136_1 : rd M0 136 1 = G136_1) (k9004_0 : Dv1 M0 = G9004_0) (en_120_37 : rd M0 120 37 = 1) (a1 : Int) (ha1 : (-2147483648) ≤ a1 ∧ a1 ≤ 2147483647) (a2 : Int) (ha2 : (-2147483648) ≤ a2 ∧ a2 ≤ 2147483647) (hp0 : (a1 = 1 → 0 ≤ a2 ∧ a2 ≤ 2) ∧ (a1 = 2 ∨ a1 = 4 → 0 ≤ a2 ∧ a2 ≤ 5)) (hq0 : G120_36 ≤ 899) (hq1 : 1 ≤ G136_1) (hq2 : a1 ≤ 5 ∨ 1 ≤ G9004_0) (hq3 : a1 ≤ 5 ∨ a1 = 18 ∨ 2 ≤ G9004_0) : Tr l K 0 mX12_add 0 [(0, (2, 120)), (1, (0, a1)), (2, (0, a2))] [] M0 (fun M' r => St Pm1 ws_X12_add_120 as_X12_add_120 M0 M' ∧ ∃ S120_36 S9004_0 : Int, rd M' 120 36 = S120_36 ∧ (0 ≤ S120_36 ∧ S120_36 ≤ 900) ∧ Dv1 M' = S9004_0 ∧ ((-1000) ≤ S9004_0 ∧ S9004_0 ≤ 1000) ∧ r = none ∧ (S120_36 = G120_36 + 1) ∧ Hd ((a1 ≤ 5 ∧ S9004_0 = G9004_0 + 1) ∨ (a1 = 18 ∧ S9004_0 = G9004_0) ∨ (5 < a1 ∧ a1 ≠ 18 ∧ S9004_0 = G9004_0 - 1))) := by
  subst k120_36
  subst k136_1
  subst k9004_0
  refine Tr.imp (sp_X12_add_120 hI en_120_37 a1 ha1 a2 ha2 hp0 hq0 hq1 hq2 hq3) ?_
  rintro M' _ ⟨hS, rfl, z0, z1⟩
  exact ⟨hS, _, _, rfl, ir_120_36 hS.1.2.1, rfl, (Dv1_b hS.1.2.1), rfl, z0, hd_i z1⟩

def ws_X12_add_120_w1 : List (Int × Int) := [(120, 36)]
def as_X12_add_120_w1 : List Int := [143, 144]
def q_X12_add_120_w1 (a1 a2 : Int) (M0 M' : Mem) (r : Option PV) : Prop := St Pm1 ws_X12_add_120_w1 as_X12_add_120_w1 M0 M' ∧ r = none ∧ (rd M' 120 36 = rd M0 120 36 + 1) ∧ ((a1 ≤ 5 ∧ Dv1 M' = Dv1 M0 + 1) ∨ (a1 = 18 ∧ Dv1 M' = Dv1 M0) ∨ (5 < a1 ∧ a1 ≠ 18 ∧ Dv1 M' = Dv1 M0 - 1))
set_option maxRecDepth 100000 in
set_option maxHeartbeats 4000000 in
theorem sp_X12_add_120_w1 {l : Launch} {K : EC} {M0 : Mem} (hI : In Pm1 M0) (en_120_37 : rd M0 120 37 = 1) (a1 : Int) (ha1 : -2147483648 ≤ a1 ∧ a1 ≤ 2147483647) (a2 : Int) (ha2 : -2147483648 ≤ a2 ∧ a2 ≤ 2147483647) (hp0 : (a1 = 1 → 0 ≤ a2 ∧ a2 ≤ 2) ∧ (a1 = 2 ∨ a1 = 4 → 0 ≤ a2 ∧ a2 ≤ 5)) (hq0 : rd M0 120 36 ≤ 899) (hq1 : 1 ≤ rd M0 136 1) (hq2 : a1 ≤ 5 ∨ 1 ≤ Dv1 M0) (hq3 : a1 ≤ 5 ∨ a1 = 18 ∨ 2 ≤ Dv1 M0) : Tr l K 0 mX12_add 0 [(0, (2, 120)), (1, (0, a1)), (2, (0, a2))] [] M0 (q_X12_add_120_w1 a1 a2 M0) := by
  have hS : St Pm1 ws_X12_add_120_w1 as_X12_add_120_w1 M0 M0 := St.rf hI
  obtain ⟨n, hn⟩ : ∃ v, rd M0 120 36 = v := ⟨_, rfl⟩
  have hb := ir_120_36 hI.2.1
  refine Tr.aload_n (pc := 0) (i := 0) d_X12_add_0 rfl rfl ?_
  refine Tr.getf (pc := 1) d_X12_add_1 f_12_115 (by decide) (by decide) (ty_120 hS.1.1) ?_
  refine Tr.tp 143 (fx_120_34 hS.1.1) ?_
  refine Tr.sipush (pc := 4) d_X12_add_4 rfl (by decide) ?_
  refine Tr.aload_n (pc := 7) (i := 0) d_X12_add_7 rfl rfl ?_
  refine Tr.getf (pc := 8) d_X12_add_8 f_12_124 (by decide) (by decide) (ty_120 hS.1.1) ?_
  refine Tr.tp 1 en_120_37 ?_
  refine Tr.imul (pc := 11) d_X12_add_11 ?_
  refine Tr.tp 900 (by decide) ?_
  refine Tr.aload_n (pc := 12) (i := 0) d_X12_add_12 rfl rfl ?_
  refine Tr.getf (pc := 13) d_X12_add_13 f_12_121 (by decide) (by decide) (ty_120 hS.1.1) ?_
  refine Tr.tp n hn ?_
  refine Tr.iadd (pc := 16) d_X12_add_16 ?_
  refine Tr.tp (900 + n) (w32_id (by omega)) ?_
  refine Tr.iload_n (pc := 17) (i := 1) d_X12_add_17 rfl rfl ?_
  refine Tr.iast (pc := 18) d_X12_add_18 (ty_143 hS.1.1) (by omega) (by omega) ?_
  refine Tr.aload_n (pc := 19) (i := 0) d_X12_add_19 rfl rfl ?_
  refine Tr.getf (pc := 20) d_X12_add_20 f_12_118 (by decide) (by decide) (show mT (wr M0 143 (900 + n) a1) 120 = (12, 121) from ty_120 (M := M0) hS.1.1) ?_
  refine Tr.tp 144 ((rd_wb _ rfl).trans (fx_120_35 (M := M0) hS.1.1)) ?_
  refine Tr.sipush (pc := 23) d_X12_add_23 rfl (by decide) ?_
  refine Tr.aload_n (pc := 26) (i := 0) d_X12_add_26 rfl rfl ?_
  refine Tr.getf (pc := 27) d_X12_add_27 f_12_124 (by decide) (by decide) (show mT (wr M0 143 (900 + n) a1) 120 = (12, 121) from ty_120 (M := M0) hS.1.1) ?_
  refine Tr.tp 1 ((rd_wb _ rfl).trans en_120_37) ?_
  refine Tr.imul (pc := 30) d_X12_add_30 ?_
  refine Tr.tp 900 (by decide) ?_
  refine Tr.aload_n (pc := 31) (i := 0) d_X12_add_31 rfl rfl ?_
  refine Tr.getf (pc := 32) d_X12_add_32 f_12_121 (by decide) (by decide) (show mT (wr M0 143 (900 + n) a1) 120 = (12, 121) from ty_120 (M := M0) hS.1.1) ?_
  refine Tr.tp n ((rd_wb _ rfl).trans hn) ?_
  refine Tr.iadd (pc := 35) d_X12_add_35 ?_
  refine Tr.tp (900 + n) (w32_id (by omega)) ?_
  refine Tr.iload_n (pc := 36) (i := 2) d_X12_add_36 rfl rfl ?_
  refine Tr.iastS (pc := 37) (P := fun M1 => St Tru ws_X12_add_120_w1 as_X12_add_120_w1 M0 M1) d_X12_add_37 (show mT (wr M0 143 (900 + n) a1) 144 = (20, 1800) from ty_144 (M := M0) hS.1.1) (by omega) (by omega) (St.two (x := 143) (y := 144) 96 97 hS.wk (by decide) hp0 (by decide) (by decide) rfl (by decide +kernel) (by decide +kernel) (by decide +kernel) (by omega) rfl (by decide +kernel) (by decide +kernel) (by decide +kernel) (by omega) trivial) (fun M37 hS9 w37 => ?_)
  have ho : ∀ y j : Int, ¬ (y = 143 ∧ j = 900 + n) → y ≠ 144 → rd M37 y j = rd M0 y j := fun y j c1 c2 => by rw [w37.2 _ _ (fun d => c2 d.1), rd_wn _ c1]
  have e1 : rd M37 143 (900 + n) = a1 := by rw [w37.2 _ _ (fun d => absurd d.1 (by decide)), rd_ws]
  have hA := Pm1_add (w := 0) hI.2.2.2.2 hI.2.1 hn (by omega) (by omega) e1 ho (fun c => by omega) (fun c c2 => by omega)
  refine Tr.aload_n (pc := 38) (i := 0) d_X12_add_38 rfl rfl ?_
  refine Tr.dup (pc := 39) d_X12_add_39 ne21 ?_
  refine Tr.getf (pc := 40) d_X12_add_40 f_12_121 (by decide) (by decide) (ty_120 hS9.1.1) ?_
  refine Tr.tp n ((ho 120 36 (fun d => absurd d.1 (by decide)) (by decide)).trans hn) ?_
  refine Tr.iconst (pc := 43) d_X12_add_43 (by decide) ?_
  refine Tr.iadd (pc := 44) d_X12_add_44 ?_
  refine Tr.tp (n + 1) (w32_id (by omega)) ?_
  have hS8 : St Tru ws_X12_add_120_w1 as_X12_add_120_w1 M0 (wr M37 120 36 (n + 1)) := st_120_36 hS9 (by decide) (by omega) trivial
  have hq := hA.2
  have hl := dl_c a1
  have hc : rd (wr M37 120 36 (n + 1)) 120 36 = n + 1 := rd_ws _ _ _ _
  refine Tr.putf (pc := 45) d_X12_add_45 f_12_121 (by decide) (by decide) (ty_120 hS9.1.1) ?_
  exact Tr.vret (pc := 48) d_X12_add_48 rfl ⟨St.rn hS8 hA.1, rfl, by omega, by omega⟩

set_option maxRecDepth 100000 in
set_option maxHeartbeats 4000000 in
theorem ns_X12_add_120_w1 {l : Launch} {K : EC} {M0 : Mem} {G120_36 G136_1 G9004_0 : Int} (hI : In Pm1 M0) (k120_36 : rd M0 120 36 = G120_36) (k136_1 : rd M0 136 1 = G136_1) (k9004_0 : Dv1 M0 = G9004_0) (en_120_37 : rd M0 120 37 = 1) (a1 : Int) (ha1 : (-2147483648) ≤ a1 ∧ a1 ≤ 2147483647) (a2 : Int) (ha2 : (-2147483648) ≤ a2 ∧ a2 ≤ 2147483647) (hp0 : (a1 = 1 → 0 ≤ a2 ∧ a2 ≤ 2) ∧ (a1 = 2 ∨ a1 = 4 → 0 ≤ a2 ∧ a2 ≤ 5)) (hq0 : G120_36 ≤ 899) (hq1 : 1 ≤ G136_1) (hq2 : a1 ≤ 5 ∨ 1 ≤ G9004_0) (hq3 : a1 ≤ 5 ∨ a1 = 18 ∨ 2 ≤ G9004_0) : Tr l K 0 mX12_add 0 [(0, (2, 120)), (1, (0, a1)), (2, (0, a2))] [] M0 (fun M' r => St Pm1 ws_X12_add_120_w1 as_X12_add_120_w1 M0 M' ∧ ∃ S120_36 S9004_0 : Int, rd M' 120 36 = S120_36 ∧ (0 ≤ S120_36 ∧ S120_36 ≤ 900) ∧ Dv1 M' = S9004_0 ∧ ((-1000) ≤ S9004_0 ∧ S9004_0 ≤ 1000) ∧ r = none ∧ (S120_36 = G120_36 + 1) ∧ Hd ((a1 ≤ 5 ∧ S9004_0 = G9004_0 + 1) ∨ (a1 = 18 ∧ S9004_0 = G9004_0) ∨ (5 < a1 ∧ a1 ≠ 18 ∧ S9004_0 = G9004_0 - 1))) := by
  subst k120_36
  subst k136_1
  subst k9004_0
  refine Tr.imp (sp_X12_add_120_w1 hI en_120_37 a1 ha1 a2 ha2 hp0 hq0 hq1 hq2 hq3) ?_
  rintro M' _ ⟨hS, rfl, z0, z1⟩
  exact ⟨hS, _, _, rfl, ir_120_36 hS.1.2.1, rfl, (Dv1_b hS.1.2.1), rfl, z0, hd_i z1⟩

def ws_X12_add_120_w2 : List (Int × Int) := [(120, 36)]
def as_X12_add_120_w2 : List Int := [143, 144]
def q_X12_add_120_w2 (a1 a2 : Int) (M0 M' : Mem) (r : Option PV) : Prop := St Pm1 ws_X12_add_120_w2 as_X12_add_120_w2 M0 M' ∧ r = none ∧ (rd M' 120 36 = rd M0 120 36 + 1) ∧ ((a1 ≤ 5 ∧ Dv1 M' = Dv1 M0 + 1) ∨ (a1 = 18 ∧ Dv1 M' = Dv1 M0) ∨ (5 < a1 ∧ a1 ≠ 18 ∧ Dv1 M' = Dv1 M0 - 1))
set_option maxRecDepth 100000 in
set_option maxHeartbeats 4000000 in
theorem sp_X12_add_120_w2 {l : Launch} {K : EC} {M0 : Mem} (hI : In Pm1 M0) (en_120_37 : rd M0 120 37 = 1) (a1 : Int) (ha1 : -2147483648 ≤ a1 ∧ a1 ≤ 2147483647) (a2 : Int) (ha2 : -2147483648 ≤ a2 ∧ a2 ≤ 2147483647) (hp0 : (a1 = 1 → 0 ≤ a2 ∧ a2 ≤ 2) ∧ (a1 = 2 ∨ a1 = 4 → 0 ≤ a2 ∧ a2 ≤ 5)) (hq0 : rd M0 120 36 ≤ 899) (hq1 : 1 ≤ rd M0 136 1) (hq2 : a1 ≤ 5 ∨ 1 ≤ Dv1 M0) (hq3 : a1 ≤ 5 ∨ a1 = 18 ∨ 2 ≤ Dv1 M0) : Tr l K 0 mX12_add 0 [(0, (2, 120)), (1, (0, a1)), (2, (0, a2))] [] M0 (q_X12_add_120_w2 a1 a2 M0) := by
  have hS : St Pm1 ws_X12_add_120_w2 as_X12_add_120_w2 M0 M0 := St.rf hI
  obtain ⟨n, hn⟩ : ∃ v, rd M0 120 36 = v := ⟨_, rfl⟩
  have hb := ir_120_36 hI.2.1
  refine Tr.aload_n (pc := 0) (i := 0) d_X12_add_0 rfl rfl ?_
  refine Tr.getf (pc := 1) d_X12_add_1 f_12_115 (by decide) (by decide) (ty_120 hS.1.1) ?_
  refine Tr.tp 143 (fx_120_34 hS.1.1) ?_
  refine Tr.sipush (pc := 4) d_X12_add_4 rfl (by decide) ?_
  refine Tr.aload_n (pc := 7) (i := 0) d_X12_add_7 rfl rfl ?_
  refine Tr.getf (pc := 8) d_X12_add_8 f_12_124 (by decide) (by decide) (ty_120 hS.1.1) ?_
  refine Tr.tp 1 en_120_37 ?_
  refine Tr.imul (pc := 11) d_X12_add_11 ?_
  refine Tr.tp 900 (by decide) ?_
  refine Tr.aload_n (pc := 12) (i := 0) d_X12_add_12 rfl rfl ?_
  refine Tr.getf (pc := 13) d_X12_add_13 f_12_121 (by decide) (by decide) (ty_120 hS.1.1) ?_
  refine Tr.tp n hn ?_
  refine Tr.iadd (pc := 16) d_X12_add_16 ?_
  refine Tr.tp (900 + n) (w32_id (by omega)) ?_
  refine Tr.iload_n (pc := 17) (i := 1) d_X12_add_17 rfl rfl ?_
  refine Tr.iast (pc := 18) d_X12_add_18 (ty_143 hS.1.1) (by omega) (by omega) ?_
  refine Tr.aload_n (pc := 19) (i := 0) d_X12_add_19 rfl rfl ?_
  refine Tr.getf (pc := 20) d_X12_add_20 f_12_118 (by decide) (by decide) (show mT (wr M0 143 (900 + n) a1) 120 = (12, 121) from ty_120 (M := M0) hS.1.1) ?_
  refine Tr.tp 144 ((rd_wb _ rfl).trans (fx_120_35 (M := M0) hS.1.1)) ?_
  refine Tr.sipush (pc := 23) d_X12_add_23 rfl (by decide) ?_
  refine Tr.aload_n (pc := 26) (i := 0) d_X12_add_26 rfl rfl ?_
  refine Tr.getf (pc := 27) d_X12_add_27 f_12_124 (by decide) (by decide) (show mT (wr M0 143 (900 + n) a1) 120 = (12, 121) from ty_120 (M := M0) hS.1.1) ?_
  refine Tr.tp 1 ((rd_wb _ rfl).trans en_120_37) ?_
  refine Tr.imul (pc := 30) d_X12_add_30 ?_
  refine Tr.tp 900 (by decide) ?_
  refine Tr.aload_n (pc := 31) (i := 0) d_X12_add_31 rfl rfl ?_
  refine Tr.getf (pc := 32) d_X12_add_32 f_12_121 (by decide) (by decide) (show mT (wr M0 143 (900 + n) a1) 120 = (12, 121) from ty_120 (M := M0) hS.1.1) ?_
  refine Tr.tp n ((rd_wb _ rfl).trans hn) ?_
  refine Tr.iadd (pc := 35) d_X12_add_35 ?_
  refine Tr.tp (900 + n) (w32_id (by omega)) ?_
  refine Tr.iload_n (pc := 36) (i := 2) d_X12_add_36 rfl rfl ?_
  refine Tr.iastS (pc := 37) (P := fun M1 => St Tru ws_X12_add_120_w2 as_X12_add_120_w2 M0 M1) d_X12_add_37 (show mT (wr M0 143 (900 + n) a1) 144 = (20, 1800) from ty_144 (M := M0) hS.1.1) (by omega) (by omega) (St.two (x := 143) (y := 144) 96 97 hS.wk (by decide) hp0 (by decide) (by decide) rfl (by decide +kernel) (by decide +kernel) (by decide +kernel) (by omega) rfl (by decide +kernel) (by decide +kernel) (by decide +kernel) (by omega) trivial) (fun M37 hS9 w37 => ?_)
  have ho : ∀ y j : Int, ¬ (y = 143 ∧ j = 900 + n) → y ≠ 144 → rd M37 y j = rd M0 y j := fun y j c1 c2 => by rw [w37.2 _ _ (fun d => c2 d.1), rd_wn _ c1]
  have e1 : rd M37 143 (900 + n) = a1 := by rw [w37.2 _ _ (fun d => absurd d.1 (by decide)), rd_ws]
  have hA := Pm1_add (w := 0) hI.2.2.2.2 hI.2.1 hn (by omega) (by omega) e1 ho (fun c => by omega) (fun c c2 => by omega)
  refine Tr.aload_n (pc := 38) (i := 0) d_X12_add_38 rfl rfl ?_
  refine Tr.dup (pc := 39) d_X12_add_39 ne21 ?_
  refine Tr.getf (pc := 40) d_X12_add_40 f_12_121 (by decide) (by decide) (ty_120 hS9.1.1) ?_
  refine Tr.tp n ((ho 120 36 (fun d => absurd d.1 (by decide)) (by decide)).trans hn) ?_
  refine Tr.iconst (pc := 43) d_X12_add_43 (by decide) ?_
  refine Tr.iadd (pc := 44) d_X12_add_44 ?_
  refine Tr.tp (n + 1) (w32_id (by omega)) ?_
  have hS8 : St Tru ws_X12_add_120_w2 as_X12_add_120_w2 M0 (wr M37 120 36 (n + 1)) := st_120_36 hS9 (by decide) (by omega) trivial
  have hq := hA.2
  have hl := dl_c a1
  have hc : rd (wr M37 120 36 (n + 1)) 120 36 = n + 1 := rd_ws _ _ _ _
  refine Tr.putf (pc := 45) d_X12_add_45 f_12_121 (by decide) (by decide) (ty_120 hS9.1.1) ?_
  exact Tr.vret (pc := 48) d_X12_add_48 rfl ⟨St.rn hS8 hA.1, rfl, by omega, by omega⟩

set_option maxRecDepth 100000 in
set_option maxHeartbeats 4000000 in
theorem ns_X12_add_120_w2 {l : Launch} {K : EC} {M0 : Mem} {G120_36 G136_1 G9004_0 : Int} (hI : In Pm1 M0) (k120_36 : rd M0 120 36 = G120_36) (k136_1 : rd M0 136 1 = G136_1) (k9004_0 : Dv1 M0 = G9004_0) (en_120_37 : rd M0 120 37 = 1) (a1 : Int) (ha1 : (-2147483648) ≤ a1 ∧ a1 ≤ 2147483647) (a2 : Int) (ha2 : (-2147483648) ≤ a2 ∧ a2 ≤ 2147483647) (hp0 : (a1 = 1 → 0 ≤ a2 ∧ a2 ≤ 2) ∧ (a1 = 2 ∨ a1 = 4 → 0 ≤ a2 ∧ a2 ≤ 5)) (hq0 : G120_36 ≤ 899) (hq1 : 1 ≤ G136_1) (hq2 : a1 ≤ 5 ∨ 1 ≤ G9004_0) (hq3 : a1 ≤ 5 ∨ a1 = 18 ∨ 2 ≤ G9004_0) : Tr l K 0 mX12_add 0 [(0, (2, 120)), (1, (0, a1)), (2, (0, a2))] [] M0 (fun M' r => St Pm1 ws_X12_add_120_w2 as_X12_add_120_w2 M0 M' ∧ ∃ S120_36 S9004_0 : Int, rd M' 120 36 = S120_36 ∧ (0 ≤ S120_36 ∧ S120_36 ≤ 900) ∧ Dv1 M' = S9004_0 ∧ ((-1000) ≤ S9004_0 ∧ S9004_0 ≤ 1000) ∧ r = none ∧ (S120_36 = G120_36 + 1) ∧ Hd ((a1 ≤ 5 ∧ S9004_0 = G9004_0 + 1) ∨ (a1 = 18 ∧ S9004_0 = G9004_0) ∨ (5 < a1 ∧ a1 ≠ 18 ∧ S9004_0 = G9004_0 - 1))) := by
  subst k120_36
  subst k136_1
  subst k9004_0
  refine Tr.imp (sp_X12_add_120_w2 hI en_120_37 a1 ha1 a2 ha2 hp0 hq0 hq1 hq2 hq3) ?_
  rintro M' _ ⟨hS, rfl, z0, z1⟩
  exact ⟨hS, _, _, rfl, ir_120_36 hS.1.2.1, rfl, (Dv1_b hS.1.2.1), rfl, z0, hd_i z1⟩

def ws_X12_operand_120 : List (Int × Int) := [(120, 3), (120, 4), (120, 5), (120, 6), (120, 7), (120, 8), (120, 9), (120, 36), (120, 43), (120, 44), (120, 46)]
def as_X12_operand_120 : List Int := [143, 144, 145, 146, 147, 148, 149, 150]
def q_X12_operand_120 (M0 M' : Mem) (r : Option PV) : Prop := St Pm1 ws_X12_operand_120 as_X12_operand_120 M0 M' ∧ ∃ v : Int, r = some (0, v) ∧ 0 ≤ v ∧ v ≤ 1 ∧ (rd M' 120 3 = 0 ∨ rd M' 120 4 + 1 ≤ rd M' 120 5) ∧ (rd M' 120 4 ≤ rd M' 120 5) ∧ (rd M' 120 3 ≠ 1 ∨ rd M' 120 4 + 2 ≤ rd M' 120 5 ∨ rd M' 120 7 < 256) ∧ (rd M0 120 4 ≤ rd M' 120 4 ∧ rd M0 120 5 ≤ rd M' 120 5 ∧ tav M0 ≤ tav M') ∧ (rd M0 120 8 = 0 ∨ rd M' 120 8 = rd M0 120 8) ∧ (1 ≤ rd M' 120 8 ∨ tav M0 < tav M') ∧ (rd M' 120 36 + rd M' 120 46 + rd M' 120 44 ≤ rd M' 120 4) ∧ (1 ≤ rd M' 120 43) ∧ (rd M' 120 50 + rd M' 120 43 ≤ rd M' 120 44 + 1) ∧ (fr0 M' ≤ 1) ∧ (1 ≤ rd M' 136 1) ∧ (1 ≤ rd M' 120 8 ∨ 2 * rd M' 120 46 + v ≤ rd M' 120 4) ∧ (1 ≤ rd M' 120 8 ∨ nb2v M' + n4v M' + v ≤ Dv1 M')
theorem ka_X12_isTest_131 {q : Mem → Prop} {M0 M : Mem} (h : St q ws_X12_isTest as_X12_isTest M0 M) (j : Int) : rd M 131 j = rd M0 131 j := St.ka h (by decide) (by decide) (by decide)
theorem ka_X12_isTest_137 {q : Mem → Prop} {M0 M : Mem} (h : St q ws_X12_isTest as_X12_isTest M0 M) (j : Int) : rd M 137 j = rd M0 137 j := St.ka h (by decide) (by decide) (by decide)
theorem ka_X12_isTest_138 {q : Mem → Prop} {M0 M : Mem} (h : St q ws_X12_isTest as_X12_isTest M0 M) (j : Int) : rd M 138 j = rd M0 138 j := St.ka h (by decide) (by decide) (by decide)
theorem ka_X12_isTest_139 {q : Mem → Prop} {M0 M : Mem} (h : St q ws_X12_isTest as_X12_isTest M0 M) (j : Int) : rd M 139 j = rd M0 139 j := St.ka h (by decide) (by decide) (by decide)
theorem ka_X12_isTest_140 {q : Mem → Prop} {M0 M : Mem} (h : St q ws_X12_isTest as_X12_isTest M0 M) (j : Int) : rd M 140 j = rd M0 140 j := St.ka h (by decide) (by decide) (by decide)
theorem ka_X12_isTest_141 {q : Mem → Prop} {M0 M : Mem} (h : St q ws_X12_isTest as_X12_isTest M0 M) (j : Int) : rd M 141 j = rd M0 141 j := St.ka h (by decide) (by decide) (by decide)
theorem ka_X12_isTest_142 {q : Mem → Prop} {M0 M : Mem} (h : St q ws_X12_isTest as_X12_isTest M0 M) (j : Int) : rd M 142 j = rd M0 142 j := St.ka h (by decide) (by decide) (by decide)
theorem ka_X12_isTest_143 {q : Mem → Prop} {M0 M : Mem} (h : St q ws_X12_isTest as_X12_isTest M0 M) (j : Int) : rd M 143 j = rd M0 143 j := St.ka h (by decide) (by decide) (by decide)
theorem ka_X12_isTest_151 {q : Mem → Prop} {M0 M : Mem} (h : St q ws_X12_isTest as_X12_isTest M0 M) (j : Int) : rd M 151 j = rd M0 151 j := St.ka h (by decide) (by decide) (by decide)
theorem ka_X12_isTest_152 {q : Mem → Prop} {M0 M : Mem} (h : St q ws_X12_isTest as_X12_isTest M0 M) (j : Int) : rd M 152 j = rd M0 152 j := St.ka h (by decide) (by decide) (by decide)
theorem kp_X12_isTest_126_0 {q : Mem → Prop} {M0 M : Mem} (h : St q ws_X12_isTest as_X12_isTest M0 M) : rd M 126 0 = rd M0 126 0 := St.kp h (by decide) (by decide) (by decide)
theorem kp_X12_isTest_126_1 {q : Mem → Prop} {M0 M : Mem} (h : St q ws_X12_isTest as_X12_isTest M0 M) : rd M 126 1 = rd M0 126 1 := St.kp h (by decide) (by decide) (by decide)
theorem kp_X12_isTest_136_0 {q : Mem → Prop} {M0 M : Mem} (h : St q ws_X12_isTest as_X12_isTest M0 M) : rd M 136 0 = rd M0 136 0 := St.kp h (by decide) (by decide) (by decide)
theorem kp_X12_isTest_136_1 {q : Mem → Prop} {M0 M : Mem} (h : St q ws_X12_isTest as_X12_isTest M0 M) : rd M 136 1 = rd M0 136 1 := St.kp h (by decide) (by decide) (by decide)
theorem kp_X12_isTest_123_0 {q : Mem → Prop} {M0 M : Mem} (h : St q ws_X12_isTest as_X12_isTest M0 M) : rd M 123 0 = rd M0 123 0 := St.kp h (by decide) (by decide) (by decide)
theorem kp_X12_isTest_123_1 {q : Mem → Prop} {M0 M : Mem} (h : St q ws_X12_isTest as_X12_isTest M0 M) : rd M 123 1 = rd M0 123 1 := St.kp h (by decide) (by decide) (by decide)
theorem kp_X12_isTest_124_0 {q : Mem → Prop} {M0 M : Mem} (h : St q ws_X12_isTest as_X12_isTest M0 M) : rd M 124 0 = rd M0 124 0 := St.kp h (by decide) (by decide) (by decide)
theorem kp_X12_isTest_124_1 {q : Mem → Prop} {M0 M : Mem} (h : St q ws_X12_isTest as_X12_isTest M0 M) : rd M 124 1 = rd M0 124 1 := St.kp h (by decide) (by decide) (by decide)
theorem kp_X12_isTest_120_8 {q : Mem → Prop} {M0 M : Mem} (h : St q ws_X12_isTest as_X12_isTest M0 M) : rd M 120 8 = rd M0 120 8 := St.kp h (by decide) (by decide) (by decide)
theorem kp_X12_isTest_120_36 {q : Mem → Prop} {M0 M : Mem} (h : St q ws_X12_isTest as_X12_isTest M0 M) : rd M 120 36 = rd M0 120 36 := St.kp h (by decide) (by decide) (by decide)
theorem kp_X12_isTest_120_50 {q : Mem → Prop} {M0 M : Mem} (h : St q ws_X12_isTest as_X12_isTest M0 M) : rd M 120 50 = rd M0 120 50 := St.kp h (by decide) (by decide) (by decide)
theorem kp_X12_opens_120_120_36 {q : Mem → Prop} {M0 M : Mem} (h : St q ws_X12_opens_120 as_X12_opens_120 M0 M) : rd M 120 36 = rd M0 120 36 := St.kp h (by decide) (by decide) (by decide)
theorem kp_X12_opens_120_120_46 {q : Mem → Prop} {M0 M : Mem} (h : St q ws_X12_opens_120 as_X12_opens_120 M0 M) : rd M 120 46 = rd M0 120 46 := St.kp h (by decide) (by decide) (by decide)
theorem kp_X12_opens_120_120_50 {q : Mem → Prop} {M0 M : Mem} (h : St q ws_X12_opens_120 as_X12_opens_120 M0 M) : rd M 120 50 = rd M0 120 50 := St.kp h (by decide) (by decide) (by decide)
theorem kp_X12_opens_120_136_1 {q : Mem → Prop} {M0 M : Mem} (h : St q ws_X12_opens_120 as_X12_opens_120 M0 M) : rd M 136 1 = rd M0 136 1 := St.kp h (by decide) (by decide) (by decide)
theorem ka_X12_opens_120_150 {q : Mem → Prop} {M0 M : Mem} (h : St q ws_X12_opens_120 as_X12_opens_120 M0 M) (j : Int) : rd M 150 j = rd M0 150 j := St.ka h (by decide) (by decide) (by decide)
theorem ka_X12_opens_120_143 {q : Mem → Prop} {M0 M : Mem} (h : St q ws_X12_opens_120 as_X12_opens_120 M0 M) (j : Int) : rd M 143 j = rd M0 143 j := St.ka h (by decide) (by decide) (by decide)
theorem ka_X12_opens_120_140 {q : Mem → Prop} {M0 M : Mem} (h : St q ws_X12_opens_120 as_X12_opens_120 M0 M) (j : Int) : rd M 140 j = rd M0 140 j := St.ka h (by decide) (by decide) (by decide)
theorem kp_X12_next_120_120_36 {q : Mem → Prop} {M0 M : Mem} (h : St q ws_X12_next_120 as_X12_next_120 M0 M) : rd M 120 36 = rd M0 120 36 := St.kp h (by decide) (by decide) (by decide)
theorem kp_X12_isSign_120_120_43 {q : Mem → Prop} {M0 M : Mem} (h : St q ws_X12_isSign_120 as_X12_isSign_120 M0 M) : rd M 120 43 = rd M0 120 43 := St.kp h (by decide) (by decide) (by decide)
theorem kp_X12_isSign_120_120_44 {q : Mem → Prop} {M0 M : Mem} (h : St q ws_X12_isSign_120 as_X12_isSign_120 M0 M) : rd M 120 44 = rd M0 120 44 := St.kp h (by decide) (by decide) (by decide)
theorem kp_X12_next_120_120_46 {q : Mem → Prop} {M0 M : Mem} (h : St q ws_X12_next_120 as_X12_next_120 M0 M) : rd M 120 46 = rd M0 120 46 := St.kp h (by decide) (by decide) (by decide)
theorem kp_X12_isSign_120_120_46 {q : Mem → Prop} {M0 M : Mem} (h : St q ws_X12_isSign_120 as_X12_isSign_120 M0 M) : rd M 120 46 = rd M0 120 46 := St.kp h (by decide) (by decide) (by decide)
theorem kp_X12_next_120_120_50 {q : Mem → Prop} {M0 M : Mem} (h : St q ws_X12_next_120 as_X12_next_120 M0 M) : rd M 120 50 = rd M0 120 50 := St.kp h (by decide) (by decide) (by decide)
theorem kp_X12_next_120_136_1 {q : Mem → Prop} {M0 M : Mem} (h : St q ws_X12_next_120 as_X12_next_120 M0 M) : rd M 136 1 = rd M0 136 1 := St.kp h (by decide) (by decide) (by decide)
theorem ka_X12_isSign_120_145 {q : Mem → Prop} {M0 M : Mem} (h : St q ws_X12_isSign_120 as_X12_isSign_120 M0 M) (j : Int) : rd M 145 j = rd M0 145 j := St.ka h (by decide) (by decide) (by decide)
theorem ka_X12_next_120_147 {q : Mem → Prop} {M0 M : Mem} (h : St q ws_X12_next_120 as_X12_next_120 M0 M) (j : Int) : rd M 147 j = rd M0 147 j := St.ka h (by decide) (by decide) (by decide)
theorem ka_X12_isSign_120_147 {q : Mem → Prop} {M0 M : Mem} (h : St q ws_X12_isSign_120 as_X12_isSign_120 M0 M) (j : Int) : rd M 147 j = rd M0 147 j := St.ka h (by decide) (by decide) (by decide)
theorem ka_X12_next_120_150 {q : Mem → Prop} {M0 M : Mem} (h : St q ws_X12_next_120 as_X12_next_120 M0 M) (j : Int) : rd M 150 j = rd M0 150 j := St.ka h (by decide) (by decide) (by decide)
theorem ka_X12_isSign_120_150 {q : Mem → Prop} {M0 M : Mem} (h : St q ws_X12_isSign_120 as_X12_isSign_120 M0 M) (j : Int) : rd M 150 j = rd M0 150 j := St.ka h (by decide) (by decide) (by decide)
theorem ka_X12_next_120_143 {q : Mem → Prop} {M0 M : Mem} (h : St q ws_X12_next_120 as_X12_next_120 M0 M) (j : Int) : rd M 143 j = rd M0 143 j := St.ka h (by decide) (by decide) (by decide)
theorem ka_X12_next_120_140 {q : Mem → Prop} {M0 M : Mem} (h : St q ws_X12_next_120 as_X12_next_120 M0 M) (j : Int) : rd M 140 j = rd M0 140 j := St.ka h (by decide) (by decide) (by decide)
theorem kp_X12_blame_120_120_36 {q : Mem → Prop} {M0 M : Mem} (h : St q ws_X12_blame_120 as_X12_blame_120 M0 M) : rd M 120 36 = rd M0 120 36 := St.kp h (by decide) (by decide) (by decide)
theorem kp_X12_blame_120_120_50 {q : Mem → Prop} {M0 M : Mem} (h : St q ws_X12_blame_120 as_X12_blame_120 M0 M) : rd M 120 50 = rd M0 120 50 := St.kp h (by decide) (by decide) (by decide)
theorem kp_X12_blame_120_136_1 {q : Mem → Prop} {M0 M : Mem} (h : St q ws_X12_blame_120 as_X12_blame_120 M0 M) : rd M 136 1 = rd M0 136 1 := St.kp h (by decide) (by decide) (by decide)
theorem ka_X12_blame_120_147 {q : Mem → Prop} {M0 M : Mem} (h : St q ws_X12_blame_120 as_X12_blame_120 M0 M) (j : Int) : rd M 147 j = rd M0 147 j := St.ka h (by decide) (by decide) (by decide)
theorem ka_X12_blame_120_150 {q : Mem → Prop} {M0 M : Mem} (h : St q ws_X12_blame_120 as_X12_blame_120 M0 M) (j : Int) : rd M 150 j = rd M0 150 j := St.ka h (by decide) (by decide) (by decide)
theorem ka_X12_blame_120_143 {q : Mem → Prop} {M0 M : Mem} (h : St q ws_X12_blame_120 as_X12_blame_120 M0 M) (j : Int) : rd M 143 j = rd M0 143 j := St.ka h (by decide) (by decide) (by decide)
theorem ka_X12_blame_120_140 {q : Mem → Prop} {M0 M : Mem} (h : St q ws_X12_blame_120 as_X12_blame_120 M0 M) (j : Int) : rd M 140 j = rd M0 140 j := St.ka h (by decide) (by decide) (by decide)
theorem kp_X12_isWord_120_120_43 {q : Mem → Prop} {M0 M : Mem} (h : St q ws_X12_isWord_120 as_X12_isWord_120 M0 M) : rd M 120 43 = rd M0 120 43 := St.kp h (by decide) (by decide) (by decide)
theorem kp_X12_isWord_120_120_44 {q : Mem → Prop} {M0 M : Mem} (h : St q ws_X12_isWord_120 as_X12_isWord_120 M0 M) : rd M 120 44 = rd M0 120 44 := St.kp h (by decide) (by decide) (by decide)
theorem kp_X12_isWord_120_120_46 {q : Mem → Prop} {M0 M : Mem} (h : St q ws_X12_isWord_120 as_X12_isWord_120 M0 M) : rd M 120 46 = rd M0 120 46 := St.kp h (by decide) (by decide) (by decide)
theorem kp_X12_isWord_120_120_6 {q : Mem → Prop} {M0 M : Mem} (h : St q ws_X12_isWord_120 as_X12_isWord_120 M0 M) : rd M 120 6 = rd M0 120 6 := St.kp h (by decide) (by decide) (by decide)
theorem ka_X12_isWord_120_145 {q : Mem → Prop} {M0 M : Mem} (h : St q ws_X12_isWord_120 as_X12_isWord_120 M0 M) (j : Int) : rd M 145 j = rd M0 145 j := St.ka h (by decide) (by decide) (by decide)
theorem ka_X12_isWord_120_147 {q : Mem → Prop} {M0 M : Mem} (h : St q ws_X12_isWord_120 as_X12_isWord_120 M0 M) (j : Int) : rd M 147 j = rd M0 147 j := St.ka h (by decide) (by decide) (by decide)
theorem ka_X12_isWord_120_150 {q : Mem → Prop} {M0 M : Mem} (h : St q ws_X12_isWord_120 as_X12_isWord_120 M0 M) (j : Int) : rd M 150 j = rd M0 150 j := St.ka h (by decide) (by decide) (by decide)
theorem kp_X12_operand_120_120_37 {q : Mem → Prop} {M0 M : Mem} (h : St q ws_X12_operand_120 as_X12_operand_120 M0 M) : rd M 120 37 = rd M0 120 37 := St.kp h (by decide) (by decide) (by decide)
theorem kp_X12_add_120_w2_120_3 {q : Mem → Prop} {M0 M : Mem} (h : St q ws_X12_add_120_w2 as_X12_add_120_w2 M0 M) : rd M 120 3 = rd M0 120 3 := St.kp h (by decide) (by decide) (by decide)
theorem kp_X12_add_120_w2_120_5 {q : Mem → Prop} {M0 M : Mem} (h : St q ws_X12_add_120_w2 as_X12_add_120_w2 M0 M) : rd M 120 5 = rd M0 120 5 := St.kp h (by decide) (by decide) (by decide)
theorem kp_X12_add_120_w2_120_8 {q : Mem → Prop} {M0 M : Mem} (h : St q ws_X12_add_120_w2 as_X12_add_120_w2 M0 M) : rd M 120 8 = rd M0 120 8 := St.kp h (by decide) (by decide) (by decide)
theorem kp_X12_add_120_w2_120_43 {q : Mem → Prop} {M0 M : Mem} (h : St q ws_X12_add_120_w2 as_X12_add_120_w2 M0 M) : rd M 120 43 = rd M0 120 43 := St.kp h (by decide) (by decide) (by decide)
theorem kp_X12_add_120_w2_120_44 {q : Mem → Prop} {M0 M : Mem} (h : St q ws_X12_add_120_w2 as_X12_add_120_w2 M0 M) : rd M 120 44 = rd M0 120 44 := St.kp h (by decide) (by decide) (by decide)
theorem kp_X12_add_120_w2_120_46 {q : Mem → Prop} {M0 M : Mem} (h : St q ws_X12_add_120_w2 as_X12_add_120_w2 M0 M) : rd M 120 46 = rd M0 120 46 := St.kp h (by decide) (by decide) (by decide)
theorem kp_X12_add_120_w2_120_50 {q : Mem → Prop} {M0 M : Mem} (h : St q ws_X12_add_120_w2 as_X12_add_120_w2 M0 M) : rd M 120 50 = rd M0 120 50 := St.kp h (by decide) (by decide) (by decide)
theorem kp_X12_add_120_w2_136_1 {q : Mem → Prop} {M0 M : Mem} (h : St q ws_X12_add_120_w2 as_X12_add_120_w2 M0 M) : rd M 136 1 = rd M0 136 1 := St.kp h (by decide) (by decide) (by decide)
theorem ka_X12_add_120_w2_150 {q : Mem → Prop} {M0 M : Mem} (h : St q ws_X12_add_120_w2 as_X12_add_120_w2 M0 M) (j : Int) : rd M 150 j = rd M0 150 j := St.ka h (by decide) (by decide) (by decide)
theorem ka_X12_add_120_w2_145 {q : Mem → Prop} {M0 M : Mem} (h : St q ws_X12_add_120_w2 as_X12_add_120_w2 M0 M) (j : Int) : rd M 145 j = rd M0 145 j := St.ka h (by decide) (by decide) (by decide)
theorem kp_X12_varOf_120_120_43 {q : Mem → Prop} {M0 M : Mem} (h : St q ws_X12_varOf_120 as_X12_varOf_120 M0 M) : rd M 120 43 = rd M0 120 43 := St.kp h (by decide) (by decide) (by decide)
theorem kp_X12_varOf_120_120_44 {q : Mem → Prop} {M0 M : Mem} (h : St q ws_X12_varOf_120 as_X12_varOf_120 M0 M) : rd M 120 44 = rd M0 120 44 := St.kp h (by decide) (by decide) (by decide)
theorem kp_X12_varOf_120_120_46 {q : Mem → Prop} {M0 M : Mem} (h : St q ws_X12_varOf_120 as_X12_varOf_120 M0 M) : rd M 120 46 = rd M0 120 46 := St.kp h (by decide) (by decide) (by decide)
theorem kp_X12_varOf_120_120_6 {q : Mem → Prop} {M0 M : Mem} (h : St q ws_X12_varOf_120 as_X12_varOf_120 M0 M) : rd M 120 6 = rd M0 120 6 := St.kp h (by decide) (by decide) (by decide)
theorem ka_X12_varOf_120_145 {q : Mem → Prop} {M0 M : Mem} (h : St q ws_X12_varOf_120 as_X12_varOf_120 M0 M) (j : Int) : rd M 145 j = rd M0 145 j := St.ka h (by decide) (by decide) (by decide)
theorem ka_X12_varOf_120_147 {q : Mem → Prop} {M0 M : Mem} (h : St q ws_X12_varOf_120 as_X12_varOf_120 M0 M) (j : Int) : rd M 147 j = rd M0 147 j := St.ka h (by decide) (by decide) (by decide)
theorem ka_X12_varOf_120_150 {q : Mem → Prop} {M0 M : Mem} (h : St q ws_X12_varOf_120 as_X12_varOf_120 M0 M) (j : Int) : rd M 150 j = rd M0 150 j := St.ka h (by decide) (by decide) (by decide)
theorem kp_X12_inputOf_120_120_43 {q : Mem → Prop} {M0 M : Mem} (h : St q ws_X12_inputOf_120 as_X12_inputOf_120 M0 M) : rd M 120 43 = rd M0 120 43 := St.kp h (by decide) (by decide) (by decide)
theorem kp_X12_inputOf_120_120_44 {q : Mem → Prop} {M0 M : Mem} (h : St q ws_X12_inputOf_120 as_X12_inputOf_120 M0 M) : rd M 120 44 = rd M0 120 44 := St.kp h (by decide) (by decide) (by decide)
theorem kp_X12_inputOf_120_120_46 {q : Mem → Prop} {M0 M : Mem} (h : St q ws_X12_inputOf_120 as_X12_inputOf_120 M0 M) : rd M 120 46 = rd M0 120 46 := St.kp h (by decide) (by decide) (by decide)
theorem kp_X12_inputOf_120_120_6 {q : Mem → Prop} {M0 M : Mem} (h : St q ws_X12_inputOf_120 as_X12_inputOf_120 M0 M) : rd M 120 6 = rd M0 120 6 := St.kp h (by decide) (by decide) (by decide)
theorem ka_X12_inputOf_120_145 {q : Mem → Prop} {M0 M : Mem} (h : St q ws_X12_inputOf_120 as_X12_inputOf_120 M0 M) (j : Int) : rd M 145 j = rd M0 145 j := St.ka h (by decide) (by decide) (by decide)
theorem ka_X12_inputOf_120_147 {q : Mem → Prop} {M0 M : Mem} (h : St q ws_X12_inputOf_120 as_X12_inputOf_120 M0 M) (j : Int) : rd M 147 j = rd M0 147 j := St.ka h (by decide) (by decide) (by decide)
theorem ka_X12_inputOf_120_150 {q : Mem → Prop} {M0 M : Mem} (h : St q ws_X12_inputOf_120 as_X12_inputOf_120 M0 M) (j : Int) : rd M 150 j = rd M0 150 j := St.ka h (by decide) (by decide) (by decide)
theorem kp_X12_isOwn_120_120_43 {q : Mem → Prop} {M0 M : Mem} (h : St q ws_X12_isOwn_120 as_X12_isOwn_120 M0 M) : rd M 120 43 = rd M0 120 43 := St.kp h (by decide) (by decide) (by decide)
theorem kp_X12_isOwn_120_120_44 {q : Mem → Prop} {M0 M : Mem} (h : St q ws_X12_isOwn_120 as_X12_isOwn_120 M0 M) : rd M 120 44 = rd M0 120 44 := St.kp h (by decide) (by decide) (by decide)
theorem kp_X12_isOwn_120_120_46 {q : Mem → Prop} {M0 M : Mem} (h : St q ws_X12_isOwn_120 as_X12_isOwn_120 M0 M) : rd M 120 46 = rd M0 120 46 := St.kp h (by decide) (by decide) (by decide)
theorem kp_X12_isOwn_120_120_6 {q : Mem → Prop} {M0 M : Mem} (h : St q ws_X12_isOwn_120 as_X12_isOwn_120 M0 M) : rd M 120 6 = rd M0 120 6 := St.kp h (by decide) (by decide) (by decide)
theorem ka_X12_isOwn_120_145 {q : Mem → Prop} {M0 M : Mem} (h : St q ws_X12_isOwn_120 as_X12_isOwn_120 M0 M) (j : Int) : rd M 145 j = rd M0 145 j := St.ka h (by decide) (by decide) (by decide)
theorem ka_X12_isOwn_120_147 {q : Mem → Prop} {M0 M : Mem} (h : St q ws_X12_isOwn_120 as_X12_isOwn_120 M0 M) (j : Int) : rd M 147 j = rd M0 147 j := St.ka h (by decide) (by decide) (by decide)
theorem ka_X12_isOwn_120_150 {q : Mem → Prop} {M0 M : Mem} (h : St q ws_X12_isOwn_120 as_X12_isOwn_120 M0 M) (j : Int) : rd M 150 j = rd M0 150 j := St.ka h (by decide) (by decide) (by decide)
theorem kp_X12_asked_120_120_36 {q : Mem → Prop} {M0 M : Mem} (h : St q ws_X12_asked_120 as_X12_asked_120 M0 M) : rd M 120 36 = rd M0 120 36 := St.kp h (by decide) (by decide) (by decide)
theorem kp_X12_asked_120_120_43 {q : Mem → Prop} {M0 M : Mem} (h : St q ws_X12_asked_120 as_X12_asked_120 M0 M) : rd M 120 43 = rd M0 120 43 := St.kp h (by decide) (by decide) (by decide)
theorem kp_X12_asked_120_120_44 {q : Mem → Prop} {M0 M : Mem} (h : St q ws_X12_asked_120 as_X12_asked_120 M0 M) : rd M 120 44 = rd M0 120 44 := St.kp h (by decide) (by decide) (by decide)
theorem kp_X12_asked_120_120_46 {q : Mem → Prop} {M0 M : Mem} (h : St q ws_X12_asked_120 as_X12_asked_120 M0 M) : rd M 120 46 = rd M0 120 46 := St.kp h (by decide) (by decide) (by decide)
theorem kp_X12_asked_120_120_50 {q : Mem → Prop} {M0 M : Mem} (h : St q ws_X12_asked_120 as_X12_asked_120 M0 M) : rd M 120 50 = rd M0 120 50 := St.kp h (by decide) (by decide) (by decide)
theorem kp_X12_asked_120_136_1 {q : Mem → Prop} {M0 M : Mem} (h : St q ws_X12_asked_120 as_X12_asked_120 M0 M) : rd M 136 1 = rd M0 136 1 := St.kp h (by decide) (by decide) (by decide)
theorem ka_X12_asked_120_145 {q : Mem → Prop} {M0 M : Mem} (h : St q ws_X12_asked_120 as_X12_asked_120 M0 M) (j : Int) : rd M 145 j = rd M0 145 j := St.ka h (by decide) (by decide) (by decide)
theorem ka_X12_asked_120_147 {q : Mem → Prop} {M0 M : Mem} (h : St q ws_X12_asked_120 as_X12_asked_120 M0 M) (j : Int) : rd M 147 j = rd M0 147 j := St.ka h (by decide) (by decide) (by decide)
theorem ka_X12_asked_120_150 {q : Mem → Prop} {M0 M : Mem} (h : St q ws_X12_asked_120 as_X12_asked_120 M0 M) (j : Int) : rd M 150 j = rd M0 150 j := St.ka h (by decide) (by decide) (by decide)
theorem ka_X12_asked_120_143 {q : Mem → Prop} {M0 M : Mem} (h : St q ws_X12_asked_120 as_X12_asked_120 M0 M) (j : Int) : rd M 143 j = rd M0 143 j := St.ka h (by decide) (by decide) (by decide)
theorem ka_X12_asked_120_140 {q : Mem → Prop} {M0 M : Mem} (h : St q ws_X12_asked_120 as_X12_asked_120 M0 M) (j : Int) : rd M 140 j = rd M0 140 j := St.ka h (by decide) (by decide) (by decide)
theorem kp_X12_add_120_w1_120_3 {q : Mem → Prop} {M0 M : Mem} (h : St q ws_X12_add_120_w1 as_X12_add_120_w1 M0 M) : rd M 120 3 = rd M0 120 3 := St.kp h (by decide) (by decide) (by decide)
theorem kp_X12_add_120_w1_120_4 {q : Mem → Prop} {M0 M : Mem} (h : St q ws_X12_add_120_w1 as_X12_add_120_w1 M0 M) : rd M 120 4 = rd M0 120 4 := St.kp h (by decide) (by decide) (by decide)
theorem kp_X12_add_120_w1_120_43 {q : Mem → Prop} {M0 M : Mem} (h : St q ws_X12_add_120_w1 as_X12_add_120_w1 M0 M) : rd M 120 43 = rd M0 120 43 := St.kp h (by decide) (by decide) (by decide)
theorem kp_X12_add_120_w1_120_44 {q : Mem → Prop} {M0 M : Mem} (h : St q ws_X12_add_120_w1 as_X12_add_120_w1 M0 M) : rd M 120 44 = rd M0 120 44 := St.kp h (by decide) (by decide) (by decide)
theorem kp_X12_add_120_w1_120_46 {q : Mem → Prop} {M0 M : Mem} (h : St q ws_X12_add_120_w1 as_X12_add_120_w1 M0 M) : rd M 120 46 = rd M0 120 46 := St.kp h (by decide) (by decide) (by decide)
theorem kp_X12_add_120_w1_120_5 {q : Mem → Prop} {M0 M : Mem} (h : St q ws_X12_add_120_w1 as_X12_add_120_w1 M0 M) : rd M 120 5 = rd M0 120 5 := St.kp h (by decide) (by decide) (by decide)
theorem kp_X12_add_120_w1_120_50 {q : Mem → Prop} {M0 M : Mem} (h : St q ws_X12_add_120_w1 as_X12_add_120_w1 M0 M) : rd M 120 50 = rd M0 120 50 := St.kp h (by decide) (by decide) (by decide)
theorem kp_X12_add_120_w1_120_7 {q : Mem → Prop} {M0 M : Mem} (h : St q ws_X12_add_120_w1 as_X12_add_120_w1 M0 M) : rd M 120 7 = rd M0 120 7 := St.kp h (by decide) (by decide) (by decide)
theorem kp_X12_add_120_w1_120_8 {q : Mem → Prop} {M0 M : Mem} (h : St q ws_X12_add_120_w1 as_X12_add_120_w1 M0 M) : rd M 120 8 = rd M0 120 8 := St.kp h (by decide) (by decide) (by decide)
theorem kp_X12_add_120_w1_136_1 {q : Mem → Prop} {M0 M : Mem} (h : St q ws_X12_add_120_w1 as_X12_add_120_w1 M0 M) : rd M 136 1 = rd M0 136 1 := St.kp h (by decide) (by decide) (by decide)
theorem ka_X12_add_120_w1_145 {q : Mem → Prop} {M0 M : Mem} (h : St q ws_X12_add_120_w1 as_X12_add_120_w1 M0 M) (j : Int) : rd M 145 j = rd M0 145 j := St.ka h (by decide) (by decide) (by decide)
theorem ka_X12_add_120_w1_147 {q : Mem → Prop} {M0 M : Mem} (h : St q ws_X12_add_120_w1 as_X12_add_120_w1 M0 M) (j : Int) : rd M 147 j = rd M0 147 j := St.ka h (by decide) (by decide) (by decide)
theorem ka_X12_add_120_w1_150 {q : Mem → Prop} {M0 M : Mem} (h : St q ws_X12_add_120_w1 as_X12_add_120_w1 M0 M) (j : Int) : rd M 150 j = rd M0 150 j := St.ka h (by decide) (by decide) (by decide)
theorem kp_X12_add_120_120_3 {q : Mem → Prop} {M0 M : Mem} (h : St q ws_X12_add_120 as_X12_add_120 M0 M) : rd M 120 3 = rd M0 120 3 := St.kp h (by decide) (by decide) (by decide)
theorem kp_X12_add_120_120_5 {q : Mem → Prop} {M0 M : Mem} (h : St q ws_X12_add_120 as_X12_add_120 M0 M) : rd M 120 5 = rd M0 120 5 := St.kp h (by decide) (by decide) (by decide)
theorem kp_X12_add_120_120_8 {q : Mem → Prop} {M0 M : Mem} (h : St q ws_X12_add_120 as_X12_add_120 M0 M) : rd M 120 8 = rd M0 120 8 := St.kp h (by decide) (by decide) (by decide)
theorem kp_X12_add_120_120_43 {q : Mem → Prop} {M0 M : Mem} (h : St q ws_X12_add_120 as_X12_add_120 M0 M) : rd M 120 43 = rd M0 120 43 := St.kp h (by decide) (by decide) (by decide)
theorem kp_X12_add_120_120_44 {q : Mem → Prop} {M0 M : Mem} (h : St q ws_X12_add_120 as_X12_add_120 M0 M) : rd M 120 44 = rd M0 120 44 := St.kp h (by decide) (by decide) (by decide)
theorem kp_X12_add_120_120_46 {q : Mem → Prop} {M0 M : Mem} (h : St q ws_X12_add_120 as_X12_add_120 M0 M) : rd M 120 46 = rd M0 120 46 := St.kp h (by decide) (by decide) (by decide)
theorem kp_X12_add_120_120_50 {q : Mem → Prop} {M0 M : Mem} (h : St q ws_X12_add_120 as_X12_add_120 M0 M) : rd M 120 50 = rd M0 120 50 := St.kp h (by decide) (by decide) (by decide)
theorem kp_X12_add_120_136_1 {q : Mem → Prop} {M0 M : Mem} (h : St q ws_X12_add_120 as_X12_add_120 M0 M) : rd M 136 1 = rd M0 136 1 := St.kp h (by decide) (by decide) (by decide)
theorem ka_X12_add_120_150 {q : Mem → Prop} {M0 M : Mem} (h : St q ws_X12_add_120 as_X12_add_120 M0 M) (j : Int) : rd M 150 j = rd M0 150 j := St.ka h (by decide) (by decide) (by decide)
theorem ka_X12_add_120_145 {q : Mem → Prop} {M0 M : Mem} (h : St q ws_X12_add_120 as_X12_add_120 M0 M) (j : Int) : rd M 145 j = rd M0 145 j := St.ka h (by decide) (by decide) (by decide)
theorem kp_X12_holdsBack_120_120_3 {q : Mem → Prop} {M0 M : Mem} (h : St q ws_X12_holdsBack_120 as_X12_holdsBack_120 M0 M) : rd M 120 3 = rd M0 120 3 := St.kp h (by decide) (by decide) (by decide)
theorem kp_X12_holdsBack_120_120_5 {q : Mem → Prop} {M0 M : Mem} (h : St q ws_X12_holdsBack_120 as_X12_holdsBack_120 M0 M) : rd M 120 5 = rd M0 120 5 := St.kp h (by decide) (by decide) (by decide)
theorem kp_X12_holdsBack_120_120_8 {q : Mem → Prop} {M0 M : Mem} (h : St q ws_X12_holdsBack_120 as_X12_holdsBack_120 M0 M) : rd M 120 8 = rd M0 120 8 := St.kp h (by decide) (by decide) (by decide)
theorem kp_X12_holdsBack_120_120_36 {q : Mem → Prop} {M0 M : Mem} (h : St q ws_X12_holdsBack_120 as_X12_holdsBack_120 M0 M) : rd M 120 36 = rd M0 120 36 := St.kp h (by decide) (by decide) (by decide)
theorem kp_X12_holdsBack_120_120_43 {q : Mem → Prop} {M0 M : Mem} (h : St q ws_X12_holdsBack_120 as_X12_holdsBack_120 M0 M) : rd M 120 43 = rd M0 120 43 := St.kp h (by decide) (by decide) (by decide)
theorem kp_X12_holdsBack_120_120_44 {q : Mem → Prop} {M0 M : Mem} (h : St q ws_X12_holdsBack_120 as_X12_holdsBack_120 M0 M) : rd M 120 44 = rd M0 120 44 := St.kp h (by decide) (by decide) (by decide)
theorem kp_X12_holdsBack_120_120_50 {q : Mem → Prop} {M0 M : Mem} (h : St q ws_X12_holdsBack_120 as_X12_holdsBack_120 M0 M) : rd M 120 50 = rd M0 120 50 := St.kp h (by decide) (by decide) (by decide)
theorem kp_X12_holdsBack_120_136_1 {q : Mem → Prop} {M0 M : Mem} (h : St q ws_X12_holdsBack_120 as_X12_holdsBack_120 M0 M) : rd M 136 1 = rd M0 136 1 := St.kp h (by decide) (by decide) (by decide)
theorem ka_X12_holdsBack_120_145 {q : Mem → Prop} {M0 M : Mem} (h : St q ws_X12_holdsBack_120 as_X12_holdsBack_120 M0 M) (j : Int) : rd M 145 j = rd M0 145 j := St.ka h (by decide) (by decide) (by decide)
theorem ka_X12_holdsBack_120_143 {q : Mem → Prop} {M0 M : Mem} (h : St q ws_X12_holdsBack_120 as_X12_holdsBack_120 M0 M) (j : Int) : rd M 143 j = rd M0 143 j := St.ka h (by decide) (by decide) (by decide)
theorem ka_X12_holdsBack_120_140 {q : Mem → Prop} {M0 M : Mem} (h : St q ws_X12_holdsBack_120 as_X12_holdsBack_120 M0 M) (j : Int) : rd M 140 j = rd M0 140 j := St.ka h (by decide) (by decide) (by decide)
theorem kp_X12_isTest_120_3 {q : Mem → Prop} {M0 M : Mem} (h : St q ws_X12_isTest as_X12_isTest M0 M) : rd M 120 3 = rd M0 120 3 := St.kp h (by decide) (by decide) (by decide)
theorem kp_X12_isTest_120_4 {q : Mem → Prop} {M0 M : Mem} (h : St q ws_X12_isTest as_X12_isTest M0 M) : rd M 120 4 = rd M0 120 4 := St.kp h (by decide) (by decide) (by decide)
theorem kp_X12_isTest_120_43 {q : Mem → Prop} {M0 M : Mem} (h : St q ws_X12_isTest as_X12_isTest M0 M) : rd M 120 43 = rd M0 120 43 := St.kp h (by decide) (by decide) (by decide)
theorem kp_X12_isTest_120_44 {q : Mem → Prop} {M0 M : Mem} (h : St q ws_X12_isTest as_X12_isTest M0 M) : rd M 120 44 = rd M0 120 44 := St.kp h (by decide) (by decide) (by decide)
theorem kp_X12_isTest_120_46 {q : Mem → Prop} {M0 M : Mem} (h : St q ws_X12_isTest as_X12_isTest M0 M) : rd M 120 46 = rd M0 120 46 := St.kp h (by decide) (by decide) (by decide)
theorem kp_X12_isTest_120_5 {q : Mem → Prop} {M0 M : Mem} (h : St q ws_X12_isTest as_X12_isTest M0 M) : rd M 120 5 = rd M0 120 5 := St.kp h (by decide) (by decide) (by decide)
theorem kp_X12_isTest_120_6 {q : Mem → Prop} {M0 M : Mem} (h : St q ws_X12_isTest as_X12_isTest M0 M) : rd M 120 6 = rd M0 120 6 := St.kp h (by decide) (by decide) (by decide)
theorem kp_X12_isTest_120_7 {q : Mem → Prop} {M0 M : Mem} (h : St q ws_X12_isTest as_X12_isTest M0 M) : rd M 120 7 = rd M0 120 7 := St.kp h (by decide) (by decide) (by decide)
theorem ka_X12_isTest_145 {q : Mem → Prop} {M0 M : Mem} (h : St q ws_X12_isTest as_X12_isTest M0 M) (j : Int) : rd M 145 j = rd M0 145 j := St.ka h (by decide) (by decide) (by decide)
theorem ka_X12_isTest_150 {q : Mem → Prop} {M0 M : Mem} (h : St q ws_X12_isTest as_X12_isTest M0 M) (j : Int) : rd M 150 j = rd M0 150 j := St.ka h (by decide) (by decide) (by decide)
set_option maxRecDepth 100000 in
set_option maxHeartbeats 4000000 in
theorem sp_X12_operand_120 {l : Launch} {K : EC} {M0 : Mem} (hI : In Pm1 M0) (en_120_37 : rd M0 120 37 = 1)   (hq0 : rd M0 120 3 = 0 ∨ rd M0 120 4 + 1 ≤ rd M0 120 5) (hq1 : rd M0 120 4 ≤ rd M0 120 5) (hq2 : rd M0 120 3 ≠ 1 ∨ rd M0 120 4 + 2 ≤ rd M0 120 5 ∨ rd M0 120 7 < 256) (hq3 : rd M0 120 8 = 0) (hq4 : 2 * rd M0 120 46 ≤ rd M0 120 4) (hq5 : nb2v M0 + n4v M0 ≤ Dv1 M0) (hq6 : rd M0 120 36 + rd M0 120 46 + rd M0 120 44 ≤ rd M0 120 4) (hq7 : 1 ≤ rd M0 120 43) (hq8 : rd M0 120 50 + rd M0 120 43 ≤ rd M0 120 44 + 1) (hq9 : fr0 M0 ≤ 1) (hq10 : 1 ≤ rd M0 136 1) : Tr l K 3 mX12_operand 0 [(0, (2, 120))] [] M0 (q_X12_operand_120 M0) := by
  have hS : St Pm1 ws_X12_operand_120 as_X12_operand_120 M0 M0 := St.rf hI
  obtain ⟨g120_8, eg120_8⟩ : ∃ v, rd M0 120 8 = v := ⟨_, rfl⟩
  have bg120_8 : 0 ≤ g120_8 ∧ g120_8 ≤ 5 := by rw [← eg120_8]; exact ir_120_8 hI.2.1
  obtain ⟨g120_3, eg120_3⟩ : ∃ v, rd M0 120 3 = v := ⟨_, rfl⟩
  have bg120_3 : 0 ≤ g120_3 ∧ g120_3 ≤ 3 := by rw [← eg120_3]; exact ir_120_3 hI.2.1
  obtain ⟨g120_4, eg120_4⟩ : ∃ v, rd M0 120 4 = v := ⟨_, rfl⟩
  have bg120_4 : 0 ≤ g120_4 ∧ g120_4 ≤ 900 := by rw [← eg120_4]; exact ir_120_4 hI.2.1
  obtain ⟨g120_5, eg120_5⟩ : ∃ v, rd M0 120 5 = v := ⟨_, rfl⟩
  have bg120_5 : 0 ≤ g120_5 ∧ g120_5 ≤ 900 := by rw [← eg120_5]; exact ir_120_5 hI.2.1
  obtain ⟨g120_7, eg120_7⟩ : ∃ v, rd M0 120 7 = v := ⟨_, rfl⟩
  have bg120_7 : (-9223372036854775808) ≤ g120_7 ∧ g120_7 ≤ 9223372036854775807 := by rw [← eg120_7]; exact ir_120_7 hI.2.1
  obtain ⟨g9010_0, eg9010_0⟩ : ∃ v, tav M0 = v := ⟨_, rfl⟩
  have bg9010_0 : (-1) ≤ g9010_0 ∧ g9010_0 ≤ 1800 := by rw [← eg9010_0]; exact (tav_b hI.2.1)
  obtain ⟨g120_6, eg120_6⟩ : ∃ v, rd M0 120 6 = v := ⟨_, rfl⟩
  have bg120_6 : (-2147483648) ≤ g120_6 ∧ g120_6 ≤ 2147483647 := by rw [← eg120_6]; exact ir_120_6 hI.2.1
  obtain ⟨g120_36, eg120_36⟩ : ∃ v, rd M0 120 36 = v := ⟨_, rfl⟩
  have bg120_36 : 0 ≤ g120_36 ∧ g120_36 ≤ 900 := by rw [← eg120_36]; exact ir_120_36 hI.2.1
  obtain ⟨g120_46, eg120_46⟩ : ∃ v, rd M0 120 46 = v := ⟨_, rfl⟩
  have bg120_46 : 0 ≤ g120_46 ∧ g120_46 ≤ 500 := by rw [← eg120_46]; exact ir_120_46 hI.2.1
  obtain ⟨g120_44, eg120_44⟩ : ∃ v, rd M0 120 44 = v := ⟨_, rfl⟩
  have bg120_44 : 0 ≤ g120_44 ∧ g120_44 ≤ 8 := by rw [← eg120_44]; exact ir_120_44 hI.2.1
  obtain ⟨g120_43, eg120_43⟩ : ∃ v, rd M0 120 43 = v := ⟨_, rfl⟩
  have bg120_43 : 0 ≤ g120_43 ∧ g120_43 ≤ 20 := by rw [← eg120_43]; exact ir_120_43 hI.2.1
  obtain ⟨g120_50, eg120_50⟩ : ∃ v, rd M0 120 50 = v := ⟨_, rfl⟩
  have bg120_50 : 0 ≤ g120_50 ∧ g120_50 ≤ 20 := by rw [← eg120_50]; exact ir_120_50 hI.2.1
  obtain ⟨g9001_0, eg9001_0⟩ : ∃ v, nb2v M0 = v := ⟨_, rfl⟩
  have bg9001_0 : 0 ≤ g9001_0 ∧ g9001_0 ≤ 1000000 := by rw [← eg9001_0]; exact (nb2v_b hI.2.1)
  obtain ⟨g9002_0, eg9002_0⟩ : ∃ v, n4v M0 = v := ⟨_, rfl⟩
  have bg9002_0 : 0 ≤ g9002_0 ∧ g9002_0 ≤ 20 := by rw [← eg9002_0]; exact (n4v_b hI.2.1)
  obtain ⟨g9005_0, eg9005_0⟩ : ∃ v, fr0 M0 = v := ⟨_, rfl⟩
  have bg9005_0 : 0 ≤ g9005_0 ∧ g9005_0 ≤ 5 := by rw [← eg9005_0]; exact (fr0_b hI.2.1)
  obtain ⟨g9004_0, eg9004_0⟩ : ∃ v, Dv1 M0 = v := ⟨_, rfl⟩
  have bg9004_0 : (-1000) ≤ g9004_0 ∧ g9004_0 ≤ 1000 := by rw [← eg9004_0]; exact (Dv1_b hI.2.1)
  obtain ⟨g136_1, eg136_1⟩ : ∃ v, rd M0 136 1 = v := ⟨_, rfl⟩
  have bg136_1 : 0 ≤ g136_1 ∧ g136_1 ≤ 200 := by rw [← eg136_1]; exact ir_136_1 hI.2.1
  replace hq0 := hd_i hq0
  replace hq2 := hd_i hq2
  refine Tr.aload_n (pc := 0) (i := 0) d_X12_operand_0 rfl rfl ?_
  refine Tr.getf (pc := 1) d_X12_operand_1 f_12_143 (by decide) (by decide) (ty_120 hS.1.1) ?_
  refine Tr.tp g120_43 eg120_43 ?_
  refine Tr.iconst (pc := 4) d_X12_operand_4 (by decide) ?_
  refine Tr.isub (pc := 5) d_X12_operand_5 ?_
  refine Tr.tp (g120_43 - 1) ((w32_id (by and_intros <;> omega)).trans (by omega)) ?_
  refine Tr.istore_n (pc := 6) (i := 1) (ls2 := [(1, (0, (g120_43 - 1))), (0, (2, 120))]) d_X12_operand_6 rfl (by decide) rfl ?_
  refine Tr.aload_n (pc := 7) (i := 0) d_X12_operand_7 rfl rfl ?_
  refine Tr.getf (pc := 8) d_X12_operand_8 f_12_127 (by decide) (by decide) (ty_120 hS.1.1) ?_
  refine Tr.tp 145 (fx_120_38 hS.1.1) ?_
  refine Tr.iload_n (pc := 11) (i := 1) d_X12_operand_11 rfl rfl ?_
  refine Tr.iald (pc := 12) d_X12_operand_12 (ty_145 hS.1.1) (by omega) (by omega) ?_
  refine Tr.gen (P := fun v => (0 ≤ v ∧ v ≤ 5) ∧ ((g120_43 - 1) ≠ 0 ∨ v = g9005_0)) (by have h9 := (ar_145 hS.1.2.1 ((g120_43 - 1))); have h8 : fr0 M0 = g9005_0 := eg9005_0; refine ⟨h9, ?_⟩; by_cases c : (g120_43 - 1) = 0; (refine Or.inr ?_; rw [c]; exact h8); exact Or.inl c) (fun r12 er12 br12 => ?_)
  have br12d0 := hd_i br12.2
  replace br12 := And.intro br12.1.1  (br12.1.2)
  refine Tr.callS (pc := 13) (as := [_]) d_X12_operand_13 s_12_481 ok_X12_isTest rfl rfl (Nat.le_of_ble_eq_true rfl) (Nat.le_of_ble_eq_true rfl) ?_
  refine Tr.imp (Tr.deep (by decide) (sp_X12_isTest hS.1.wk r12 (by and_intros <;> omega))) ?_
  rintro M13 _ ⟨h13, r13, rfl, lr13, ur13, wr13⟩
  have h13 := St.rn h13 (Pm1.of hS.1.2.2.2.2 (fun _ => (ka_X12_isTest_131 h13 _)) (fun _ => (ka_X12_isTest_137 h13 _)) (fun _ => (ka_X12_isTest_138 h13 _)) (fun _ => (ka_X12_isTest_139 h13 _)) (fun _ => (ka_X12_isTest_140 h13 _)) (fun _ => (ka_X12_isTest_141 h13 _)) (fun _ => (ka_X12_isTest_142 h13 _)) (fun _ => (ka_X12_isTest_143 h13 _)) (fun _ => (ka_X12_isTest_151 h13 _)) (fun _ => (ka_X12_isTest_152 h13 _)) (kp_X12_isTest_126_0 h13) (kp_X12_isTest_126_1 h13) (kp_X12_isTest_136_0 h13) (kp_X12_isTest_136_1 h13) (kp_X12_isTest_123_0 h13) (kp_X12_isTest_123_1 h13) (kp_X12_isTest_124_0 h13) (kp_X12_isTest_124_1 h13) (kp_X12_isTest_120_8 h13) (kp_X12_isTest_120_36 h13) (kp_X12_isTest_120_50 h13))
  have hS := St.tr hS h13 (by decide) (by decide)
  replace wr13 := hd_i wr13
  refine Tr.sc [(0, r13)] rfl ?_
  have J33 : ∀ (M : Mem) (q33_0 : Int), St Pm1 ws_X12_operand_120 as_X12_operand_120 M0 M → (0 ≤ q33_0 ∧ q33_0 ≤ 1) → rd M 120 3 = g120_3 → rd M 120 36 = g120_36 → rd M 120 4 = g120_4 → rd M 120 43 = g120_43 → rd M 120 44 = g120_44 → rd M 120 46 = g120_46 → rd M 120 5 = g120_5 → rd M 120 50 = g120_50 → rd M 120 6 = g120_6 → rd M 120 7 = g120_7 → rd M 120 8 = g120_8 → rd M 136 1 = g136_1 → rd M 145 (g120_43 - 1) = r12 → nb2v M = g9001_0 → n4v M = g9002_0 → Dv1 M = g9004_0 → fr0 M = g9005_0 → tav M = g9010_0 → (g120_3 = 0 ∨ g120_4 + 1 ≤ g120_5) → (g120_4 ≤ g120_5) → (g120_3 ≠ 1 ∨ g120_4 + 2 ≤ g120_5 ∨ g120_7 < 256) → (g120_4 ≤ g120_4 ∧ g120_5 ≤ g120_5 ∧ g9010_0 ≤ g9010_0) → (g120_8 = 0 ∨ g120_8 = g120_8) → Tr l K 3 mX12_operand 33 [(0, (2, 120)), (1, (0, (g120_43 - 1)))] [(0, q33_0)] M (q_X12_operand_120 M0) := by
    intro M q33_0 hS bq33_0 k33_120_3 k33_120_36 k33_120_4 k33_120_43 k33_120_44 k33_120_46 k33_120_5 k33_120_50 k33_120_6 k33_120_7 k33_120_8 k33_136_1 k33_145_g120_431n1 k33_9001_0 k33_9002_0 k33_9004_0 k33_9005_0 k33_9010_0 t33_0 t33_1 t33_2 t33_3 t33_4
    clear er12
    replace t33_0 := hd_i t33_0
    replace t33_2 := hd_i t33_2
    replace t33_4 := hd_i t33_4
    refine Tr.istore_n (pc := 33) (i := 2) (ls2 := [(2, (0, q33_0)), (0, (2, 120)), (1, (0, (g120_43 - 1)))]) d_X12_operand_33 rfl (by decide) rfl ?_
    refine Tr.iload_n (pc := 34) (i := 2) d_X12_operand_34 rfl rfl ?_
    have J60 : ∀ (M : Mem), St Pm1 ws_X12_operand_120 as_X12_operand_120 M0 M → rd M 120 3 = g120_3 → rd M 120 36 = g120_36 → rd M 120 4 = g120_4 → rd M 120 43 = g120_43 → rd M 120 44 = g120_44 → rd M 120 46 = g120_46 → rd M 120 5 = g120_5 → rd M 120 50 = g120_50 → rd M 120 6 = g120_6 → rd M 120 7 = g120_7 → rd M 120 8 = g120_8 → rd M 136 1 = g136_1 → rd M 145 (g120_43 - 1) = r12 → nb2v M = g9001_0 → n4v M = g9002_0 → Dv1 M = g9004_0 → fr0 M = g9005_0 → tav M = g9010_0 → (g120_3 = 0 ∨ g120_4 + 1 ≤ g120_5) → (g120_4 ≤ g120_5) → (g120_3 ≠ 1 ∨ g120_4 + 2 ≤ g120_5 ∨ g120_7 < 256) → (g120_4 ≤ g120_4 ∧ g120_5 ≤ g120_5 ∧ g9010_0 ≤ g9010_0) → (g120_8 = 0 ∨ g120_8 = g120_8) → Tr l K 3 mX12_operand 60 [(0, (2, 120)), (1, (0, (g120_43 - 1))), (2, (0, q33_0))] [] M (q_X12_operand_120 M0) := by
      intro M  hS  k60_120_3 k60_120_36 k60_120_4 k60_120_43 k60_120_44 k60_120_46 k60_120_5 k60_120_50 k60_120_6 k60_120_7 k60_120_8 k60_136_1 k60_145_g120_431n1 k60_9001_0 k60_9002_0 k60_9004_0 k60_9005_0 k60_9010_0 t60_0 t60_1 t60_2 t60_3 t60_4
      clear k33_120_3 k33_120_36 k33_120_4 k33_120_43 k33_120_44 k33_120_46 k33_120_5 k33_120_50 k33_120_6 k33_120_7 k33_120_8 k33_136_1 k33_145_g120_431n1 k33_9001_0 k33_9002_0 k33_9004_0 k33_9005_0 k33_9010_0
      replace t60_0 := hd_i t60_0
      replace t60_2 := hd_i t60_2
      replace t60_4 := hd_i t60_4
      refine Tr.aload_n (pc := 60) (i := 0) d_X12_operand_60 rfl rfl ?_
      refine Tr.getf (pc := 61) d_X12_operand_61 f_12_133 (by decide) (by decide) (ty_120 hS.1.1) ?_
      refine Tr.tp 147 (fx_120_40 hS.1.1) ?_
      refine Tr.iload_n (pc := 64) (i := 1) d_X12_operand_64 rfl rfl ?_
      refine Tr.iconst (pc := 65) d_X12_operand_65 (by decide) ?_
      refine Tr.zastS (pc := 66) (P := St Pm1 ws_X12_operand_120 as_X12_operand_120 M0) d_X12_operand_66 (ty_147 hS.1.1) (by omega) (by omega) (by omega) (sa_147 hS (by decide) (by omega) (Pm1.of hS.1.2.2.2.2 (fun _ => rd_wb _ rfl) (fun _ => rd_wb _ rfl) (fun _ => rd_wb _ rfl) (fun _ => rd_wb _ rfl) (fun _ => rd_wb _ rfl) (fun _ => rd_wb _ rfl) (fun _ => rd_wb _ rfl) (fun _ => rd_wb _ rfl) (fun _ => rd_wb _ rfl) (fun _ => rd_wb _ rfl) (rd_wb _ rfl) (rd_wb _ rfl) (rd_wb _ rfl) (rd_wb _ rfl) (rd_wb _ rfl) (rd_wb _ rfl) (rd_wb _ rfl) (rd_wb _ rfl) (rd_wb _ rfl) (rd_wb _ rfl) (rd_wb _ rfl))) (fun M66 hS w66 => ?_)
      refine Tr.iload_n (pc := 67) (i := 2) d_X12_operand_67 rfl rfl ?_
      have J87 : ∀ (M : Mem), St Pm1 ws_X12_operand_120 as_X12_operand_120 M0 M → rd M 120 3 = g120_3 → rd M 120 36 = g120_36 → rd M 120 4 = g120_4 → rd M 120 43 = g120_43 → rd M 120 44 = g120_44 → rd M 120 46 = g120_46 → rd M 120 5 = g120_5 → rd M 120 50 = g120_50 → rd M 120 6 = g120_6 → rd M 120 7 = g120_7 → rd M 120 8 = g120_8 → rd M 136 1 = g136_1 → rd M 145 (g120_43 - 1) = r12 → rd M 147 (g120_43 - 1) = 0 → nb2v M = g9001_0 → n4v M = g9002_0 → Dv1 M = g9004_0 → fr0 M = g9005_0 → tav M = g9010_0 → (g120_3 = 0 ∨ g120_4 + 1 ≤ g120_5) → (g120_4 ≤ g120_5) → (g120_3 ≠ 1 ∨ g120_4 + 2 ≤ g120_5 ∨ g120_7 < 256) → (g120_4 ≤ g120_4 ∧ g120_5 ≤ g120_5 ∧ g9010_0 ≤ g9010_0) → (g120_8 = 0 ∨ g120_8 = g120_8) → Tr l K 3 mX12_operand 87 [(0, (2, 120)), (1, (0, (g120_43 - 1))), (2, (0, q33_0))] [] M (q_X12_operand_120 M0) := by
        intro M  hS  k87_120_3 k87_120_36 k87_120_4 k87_120_43 k87_120_44 k87_120_46 k87_120_5 k87_120_50 k87_120_6 k87_120_7 k87_120_8 k87_136_1 k87_145_g120_431n1 k87_147_g120_431n1 k87_9001_0 k87_9002_0 k87_9004_0 k87_9005_0 k87_9010_0 t87_0 t87_1 t87_2 t87_3 t87_4
        clear k60_120_3 k60_120_36 k60_120_4 k60_120_43 k60_120_44 k60_120_46 k60_120_5 k60_120_50 k60_120_6 k60_120_7 k60_120_8 k60_136_1 k60_145_g120_431n1 k60_9001_0 k60_9002_0 k60_9004_0 k60_9005_0 k60_9010_0 w66
        replace t87_0 := hd_i t87_0
        replace t87_2 := hd_i t87_2
        replace t87_4 := hd_i t87_4
        refine Tr.iload_n (pc := 87) (i := 2) d_X12_operand_87 rfl rfl ?_
        have J120 : ∀ (M : Mem), St Pm1 ws_X12_operand_120 as_X12_operand_120 M0 M → rd M 120 3 = g120_3 → rd M 120 36 = g120_36 → rd M 120 4 = g120_4 → rd M 120 43 = g120_43 → rd M 120 44 = g120_44 → rd M 120 46 = g120_46 → rd M 120 5 = g120_5 → rd M 120 50 = g120_50 → rd M 120 6 = g120_6 → rd M 120 7 = g120_7 → rd M 120 8 = g120_8 → rd M 136 1 = g136_1 → rd M 145 (g120_43 - 1) = r12 → rd M 147 (g120_43 - 1) = 0 → nb2v M = g9001_0 → n4v M = g9002_0 → Dv1 M = g9004_0 → fr0 M = g9005_0 → tav M = g9010_0 → (g120_3 = 0 ∨ g120_4 + 1 ≤ g120_5) → (g120_4 ≤ g120_5) → (g120_3 ≠ 1 ∨ g120_4 + 2 ≤ g120_5 ∨ g120_7 < 256) → (g120_4 ≤ g120_4 ∧ g120_5 ≤ g120_5 ∧ g9010_0 ≤ g9010_0) → (g120_8 = 0 ∨ g120_8 = g120_8) → Tr l K 3 mX12_operand 120 [(0, (2, 120)), (1, (0, (g120_43 - 1))), (2, (0, q33_0))] [] M (q_X12_operand_120 M0) := by
          intro M  hS  k120_120_3 k120_120_36 k120_120_4 k120_120_43 k120_120_44 k120_120_46 k120_120_5 k120_120_50 k120_120_6 k120_120_7 k120_120_8 k120_136_1 k120_145_g120_431n1 k120_147_g120_431n1 k120_9001_0 k120_9002_0 k120_9004_0 k120_9005_0 k120_9010_0 t120_0 t120_1 t120_2 t120_3 t120_4
          clear k87_120_3 k87_120_36 k87_120_4 k87_120_43 k87_120_44 k87_120_46 k87_120_5 k87_120_50 k87_120_6 k87_120_7 k87_120_8 k87_136_1 k87_145_g120_431n1 k87_147_g120_431n1 k87_9001_0 k87_9002_0 k87_9004_0 k87_9005_0 k87_9010_0
          replace t120_0 := hd_i t120_0
          replace t120_2 := hd_i t120_2
          replace t120_4 := hd_i t120_4
          refine Tr.iload_n (pc := 120) (i := 2) d_X12_operand_120 rfl rfl ?_
          have J166 : ∀ (M : Mem), St Pm1 ws_X12_operand_120 as_X12_operand_120 M0 M → rd M 120 3 = g120_3 → rd M 120 36 = g120_36 → rd M 120 4 = g120_4 → rd M 120 43 = g120_43 → rd M 120 44 = g120_44 → rd M 120 46 = g120_46 → rd M 120 5 = g120_5 → rd M 120 50 = g120_50 → rd M 120 6 = g120_6 → rd M 120 7 = g120_7 → rd M 120 8 = g120_8 → rd M 136 1 = g136_1 → rd M 145 (g120_43 - 1) = r12 → rd M 147 (g120_43 - 1) = 0 → nb2v M = g9001_0 → n4v M = g9002_0 → Dv1 M = g9004_0 → fr0 M = g9005_0 → tav M = g9010_0 → (g120_3 = 0 ∨ g120_4 + 1 ≤ g120_5) → (g120_4 ≤ g120_5) → (g120_3 ≠ 1 ∨ g120_4 + 2 ≤ g120_5 ∨ g120_7 < 256) → (g120_4 ≤ g120_4 ∧ g120_5 ≤ g120_5 ∧ g9010_0 ≤ g9010_0) → (g120_8 = 0 ∨ g120_8 = g120_8) → Tr l K 3 mX12_operand 166 [(0, (2, 120))] [] M (q_X12_operand_120 M0) := by
            intro M  hS  k166_120_3 k166_120_36 k166_120_4 k166_120_43 k166_120_44 k166_120_46 k166_120_5 k166_120_50 k166_120_6 k166_120_7 k166_120_8 k166_136_1 k166_145_g120_431n1 k166_147_g120_431n1 k166_9001_0 k166_9002_0 k166_9004_0 k166_9005_0 k166_9010_0 t166_0 t166_1 t166_2 t166_3 t166_4
            clear k120_120_3 k120_120_36 k120_120_4 k120_120_43 k120_120_44 k120_120_46 k120_120_5 k120_120_50 k120_120_6 k120_120_7 k120_120_8 k120_136_1 k120_145_g120_431n1 k120_147_g120_431n1 k120_9001_0 k120_9002_0 k120_9004_0 k120_9005_0 k120_9010_0
            replace t166_0 := hd_i t166_0
            replace t166_2 := hd_i t166_2
            replace t166_4 := hd_i t166_4
            refine Tr.aload_n (pc := 166) (i := 0) d_X12_operand_166 rfl rfl ?_
            refine Tr.bipush (pc := 167) d_X12_operand_167 rfl (by decide) ?_
            refine Tr.callV (pc := 169) (as := [_]) d_X12_operand_169 s_12_393 ok_X12_isSign rfl rfl (Nat.le_of_ble_eq_true rfl) (Nat.le_of_ble_eq_true rfl) (by decide) (ty_120 hS.1.1) ?_
            refine Tr.imp (Tr.deep (by decide) (ns_X12_isSign_120 (G120_3 := g120_3) (G120_6 := g120_6) hS.1.wk (k166_120_3) (k166_120_6) 40 (by omega))) ?_
            rintro M169 _ ⟨h169, r169, rfl, lr169, ur169, z169_0⟩
            have h169 := St.rn h169 (Pm1.of hS.1.2.2.2.2 (fun _ => (ka_X12_isSign_120_131 h169 _)) (fun _ => (ka_X12_isSign_120_137 h169 _)) (fun _ => (ka_X12_isSign_120_138 h169 _)) (fun _ => (ka_X12_isSign_120_139 h169 _)) (fun _ => (ka_X12_isSign_120_140 h169 _)) (fun _ => (ka_X12_isSign_120_141 h169 _)) (fun _ => (ka_X12_isSign_120_142 h169 _)) (fun _ => (ka_X12_isSign_120_143 h169 _)) (fun _ => (ka_X12_isSign_120_151 h169 _)) (fun _ => (ka_X12_isSign_120_152 h169 _)) (kp_X12_isSign_120_126_0 h169) (kp_X12_isSign_120_126_1 h169) (kp_X12_isSign_120_136_0 h169) (kp_X12_isSign_120_136_1 h169) (kp_X12_isSign_120_123_0 h169) (kp_X12_isSign_120_123_1 h169) (kp_X12_isSign_120_124_0 h169) (kp_X12_isSign_120_124_1 h169) (kp_X12_isSign_120_120_8 h169) (kp_X12_isSign_120_120_36 h169) (kp_X12_isSign_120_120_50 h169))
            have hS := St.tr hS h169 (by decide) (by decide)
            refine Tr.sc [(0, r169)] rfl ?_
            refine Tr.if_eq (pc := 172) (tgt := 182) d_X12_operand_172 rfl (fun c172 => ?_) (fun c172 => ?_)
            · refine Tr.aload_n (pc := 182) (i := 0) d_X12_operand_182 rfl rfl ?_
              refine Tr.ldc2 (pc := 183) d_X12_operand_183 kl_12_449 (by decide) ?_
              refine Tr.callV (pc := 186) (as := [_]) d_X12_operand_186 s_12_484 ok_X12_isWord rfl rfl (Nat.le_of_ble_eq_true rfl) (Nat.le_of_ble_eq_true rfl) (by decide) (ty_120 hS.1.1) ?_
              refine Tr.imp (Tr.deep (by decide) (ns_X12_isWord_120 (G120_3 := g120_3) (G120_7 := g120_7) hS.1.wk (((kp_X12_isSign_120_120_3 h169).trans k166_120_3)) (((kp_X12_isSign_120_120_7 h169).trans k166_120_7)) 7170414 (by omega))) ?_
              rintro M186 _ ⟨h186, r186, rfl, lr186, ur186, z186_0⟩
              have h186 := St.rn h186 (Pm1.of hS.1.2.2.2.2 (fun _ => (ka_X12_isWord_120_131 h186 _)) (fun _ => (ka_X12_isWord_120_137 h186 _)) (fun _ => (ka_X12_isWord_120_138 h186 _)) (fun _ => (ka_X12_isWord_120_139 h186 _)) (fun _ => (ka_X12_isWord_120_140 h186 _)) (fun _ => (ka_X12_isWord_120_141 h186 _)) (fun _ => (ka_X12_isWord_120_142 h186 _)) (fun _ => (ka_X12_isWord_120_143 h186 _)) (fun _ => (ka_X12_isWord_120_151 h186 _)) (fun _ => (ka_X12_isWord_120_152 h186 _)) (kp_X12_isWord_120_126_0 h186) (kp_X12_isWord_120_126_1 h186) (kp_X12_isWord_120_136_0 h186) (kp_X12_isWord_120_136_1 h186) (kp_X12_isWord_120_123_0 h186) (kp_X12_isWord_120_123_1 h186) (kp_X12_isWord_120_124_0 h186) (kp_X12_isWord_120_124_1 h186) (kp_X12_isWord_120_120_8 h186) (kp_X12_isWord_120_120_36 h186) (kp_X12_isWord_120_120_50 h186))
              have hS := St.tr hS h186 (by decide) (by decide)
              refine Tr.sc [(0, r186)] rfl ?_
              have J202 : ∀ (M : Mem), St Pm1 ws_X12_operand_120 as_X12_operand_120 M0 M → rd M 120 3 = g120_3 → rd M 120 36 = g120_36 → rd M 120 4 = g120_4 → rd M 120 43 = g120_43 → rd M 120 44 = g120_44 → rd M 120 46 = g120_46 → rd M 120 5 = g120_5 → rd M 120 50 = g120_50 → rd M 120 6 = g120_6 → rd M 120 7 = g120_7 → rd M 120 8 = g120_8 → rd M 136 1 = g136_1 → rd M 145 (g120_43 - 1) = r12 → rd M 147 (g120_43 - 1) = 0 → nb2v M = g9001_0 → n4v M = g9002_0 → Dv1 M = g9004_0 → fr0 M = g9005_0 → tav M = g9010_0 → (g120_3 = 1) → Tr l K 3 mX12_operand 202 [(0, (2, 120))] [] M (q_X12_operand_120 M0) := by
                intro M  hS  k202_120_3 k202_120_36 k202_120_4 k202_120_43 k202_120_44 k202_120_46 k202_120_5 k202_120_50 k202_120_6 k202_120_7 k202_120_8 k202_136_1 k202_145_g120_431n1 k202_147_g120_431n1 k202_9001_0 k202_9002_0 k202_9004_0 k202_9005_0 k202_9010_0 t202_0
                clear k166_120_3 k166_120_36 k166_120_4 k166_120_43 k166_120_44 k166_120_46 k166_120_5 k166_120_50 k166_120_6 k166_120_7 k166_120_8 k166_136_1 k166_145_g120_431n1 k166_147_g120_431n1 k166_9001_0 k166_9002_0 k166_9004_0 k166_9005_0 k166_9010_0
                refine Tr.aload_n (pc := 202) (i := 0) d_X12_operand_202 rfl rfl ?_
                refine Tr.ldc2 (pc := 203) d_X12_operand_203 kl_12_449 (by decide) ?_
                refine Tr.callV (pc := 206) (as := [_]) d_X12_operand_206 s_12_484 ok_X12_isWord rfl rfl (Nat.le_of_ble_eq_true rfl) (Nat.le_of_ble_eq_true rfl) (by decide) (ty_120 hS.1.1) ?_
                refine Tr.imp (Tr.deep (by decide) (ns_X12_isWord_120 (G120_3 := g120_3) (G120_7 := g120_7) hS.1.wk (k202_120_3) (k202_120_7) 7170414 (by omega))) ?_
                rintro M206 _ ⟨h206, r206, rfl, lr206, ur206, z206_0⟩
                have h206 := St.rn h206 (Pm1.of hS.1.2.2.2.2 (fun _ => (ka_X12_isWord_120_131 h206 _)) (fun _ => (ka_X12_isWord_120_137 h206 _)) (fun _ => (ka_X12_isWord_120_138 h206 _)) (fun _ => (ka_X12_isWord_120_139 h206 _)) (fun _ => (ka_X12_isWord_120_140 h206 _)) (fun _ => (ka_X12_isWord_120_141 h206 _)) (fun _ => (ka_X12_isWord_120_142 h206 _)) (fun _ => (ka_X12_isWord_120_143 h206 _)) (fun _ => (ka_X12_isWord_120_151 h206 _)) (fun _ => (ka_X12_isWord_120_152 h206 _)) (kp_X12_isWord_120_126_0 h206) (kp_X12_isWord_120_126_1 h206) (kp_X12_isWord_120_136_0 h206) (kp_X12_isWord_120_136_1 h206) (kp_X12_isWord_120_123_0 h206) (kp_X12_isWord_120_123_1 h206) (kp_X12_isWord_120_124_0 h206) (kp_X12_isWord_120_124_1 h206) (kp_X12_isWord_120_120_8 h206) (kp_X12_isWord_120_120_36 h206) (kp_X12_isWord_120_120_50 h206))
                have hS := St.tr hS h206 (by decide) (by decide)
                refine Tr.sc [(0, r206)] rfl ?_
                have J219 : ∀ (M : Mem) (q219_0 : Int), St Pm1 ws_X12_operand_120 as_X12_operand_120 M0 M → (11 ≤ q219_0 ∧ q219_0 ≤ 12) → rd M 120 3 = g120_3 → rd M 120 36 = g120_36 → rd M 120 4 = g120_4 → rd M 120 43 = g120_43 → rd M 120 44 = g120_44 → rd M 120 46 = g120_46 → rd M 120 5 = g120_5 → rd M 120 50 = g120_50 → rd M 120 6 = g120_6 → rd M 120 7 = g120_7 → rd M 120 8 = g120_8 → rd M 136 1 = g136_1 → rd M 145 (g120_43 - 1) = r12 → rd M 147 (g120_43 - 1) = 0 → nb2v M = g9001_0 → n4v M = g9002_0 → Dv1 M = g9004_0 → fr0 M = g9005_0 → tav M = g9010_0 → (g120_3 = 0 ∨ g120_4 + 1 ≤ g120_5) → (g120_4 ≤ g120_5) → (g120_3 ≠ 1 ∨ g120_4 + 2 ≤ g120_5 ∨ g120_7 < 256) → (g120_4 ≤ g120_4 ∧ g120_5 ≤ g120_5 ∧ g9010_0 ≤ g9010_0) → (g120_8 = 0 ∨ g120_8 = g120_8) → Tr l K 3 mX12_operand 219 [(0, (2, 120))] [(0, q219_0)] M (q_X12_operand_120 M0) := by
                  intro M q219_0 hS bq219_0 k219_120_3 k219_120_36 k219_120_4 k219_120_43 k219_120_44 k219_120_46 k219_120_5 k219_120_50 k219_120_6 k219_120_7 k219_120_8 k219_136_1 k219_145_g120_431n1 k219_147_g120_431n1 k219_9001_0 k219_9002_0 k219_9004_0 k219_9005_0 k219_9010_0 t219_0 t219_1 t219_2 t219_3 t219_4
                  clear k202_120_3 k202_120_36 k202_120_4 k202_120_43 k202_120_44 k202_120_46 k202_120_5 k202_120_50 k202_120_6 k202_120_7 k202_120_8 k202_136_1 k202_145_g120_431n1 k202_147_g120_431n1 k202_9001_0 k202_9002_0 k202_9004_0 k202_9005_0 k202_9010_0
                  replace t219_0 := hd_i t219_0
                  replace t219_2 := hd_i t219_2
                  replace t219_4 := hd_i t219_4
                  refine Tr.istore_n (pc := 219) (i := 3) (ls2 := [(3, (0, q219_0)), (0, (2, 120))]) d_X12_operand_219 rfl (by decide) rfl ?_
                  refine Tr.aload_n (pc := 220) (i := 0) d_X12_operand_220 rfl rfl ?_
                  refine Tr.callV (pc := 221) (as := []) d_X12_operand_221 s_12_396 ok_X12_next rfl rfl (Nat.le_of_ble_eq_true rfl) (Nat.le_of_ble_eq_true rfl) (by decide) (ty_120 hS.1.1) ?_
                  refine Tr.imp (Tr.deep (by decide) (ns_X12_next_120 (G120_3 := g120_3) (G120_5 := g120_5) (G120_8 := g120_8) (G9010_0 := g9010_0) hS.1 (k219_120_3) (k219_120_5) (k219_120_8) (k219_9010_0))) ?_
                  rintro M221 _ ⟨h221, s221_120_3, s221_120_4, s221_120_5, s221_120_7, s221_120_8, s221_9010_0, es221_120_3, bs221_120_3, es221_120_4, bs221_120_4, es221_120_5, bs221_120_5, es221_120_7, bs221_120_7, es221_120_8, bs221_120_8, es221_9010_0, bs221_9010_0, rfl, z221_0, z221_1, z221_2, z221_3, z221_4, z221_5, z221_6⟩
                  have hS := St.tr hS h221 (by decide) (by decide)
                  refine Tr.sc [] rfl ?_
                  refine Tr.aload_n (pc := 224) (i := 0) d_X12_operand_224 rfl rfl ?_
                  refine Tr.bipush (pc := 225) d_X12_operand_225 rfl (by decide) ?_
                  refine Tr.callV (pc := 227) (as := [_]) d_X12_operand_227 s_12_393 ok_X12_isSign rfl rfl (Nat.le_of_ble_eq_true rfl) (Nat.le_of_ble_eq_true rfl) (by decide) (ty_120 hS.1.1) ?_
                  obtain ⟨w227_120_6, ew227_120_6⟩ : ∃ v, rd M221 120 6 = v := ⟨_, rfl⟩
                  have bw227_120_6 : (-2147483648) ≤ w227_120_6 ∧ w227_120_6 ≤ 2147483647 := by rw [← ew227_120_6]; exact ir_120_6 hS.1.2.1
                  refine Tr.imp (Tr.deep (by decide) (ns_X12_isSign_120 (G120_3 := s221_120_3) (G120_6 := w227_120_6) hS.1.wk (es221_120_3) (ew227_120_6) 40 (by omega))) ?_
                  rintro M227 _ ⟨h227, r227, rfl, lr227, ur227, z227_0⟩
                  have h227 := St.rn h227 (Pm1.of hS.1.2.2.2.2 (fun _ => (ka_X12_isSign_120_131 h227 _)) (fun _ => (ka_X12_isSign_120_137 h227 _)) (fun _ => (ka_X12_isSign_120_138 h227 _)) (fun _ => (ka_X12_isSign_120_139 h227 _)) (fun _ => (ka_X12_isSign_120_140 h227 _)) (fun _ => (ka_X12_isSign_120_141 h227 _)) (fun _ => (ka_X12_isSign_120_142 h227 _)) (fun _ => (ka_X12_isSign_120_143 h227 _)) (fun _ => (ka_X12_isSign_120_151 h227 _)) (fun _ => (ka_X12_isSign_120_152 h227 _)) (kp_X12_isSign_120_126_0 h227) (kp_X12_isSign_120_126_1 h227) (kp_X12_isSign_120_136_0 h227) (kp_X12_isSign_120_136_1 h227) (kp_X12_isSign_120_123_0 h227) (kp_X12_isSign_120_123_1 h227) (kp_X12_isSign_120_124_0 h227) (kp_X12_isSign_120_124_1 h227) (kp_X12_isSign_120_120_8 h227) (kp_X12_isSign_120_120_36 h227) (kp_X12_isSign_120_120_50 h227))
                  have hS := St.tr hS h227 (by decide) (by decide)
                  refine Tr.sc [(0, r227)] rfl ?_
                  have J242 : ∀ (M : Mem) (u242_120_8 : Int), St Pm1 ws_X12_operand_120 as_X12_operand_120 M0 M → (0 ≤ u242_120_8 ∧ u242_120_8 ≤ 5) → rd M 120 3 = s221_120_3 → rd M 120 36 = g120_36 → rd M 120 4 = s221_120_4 → rd M 120 43 = g120_43 → rd M 120 44 = g120_44 → rd M 120 46 = g120_46 → rd M 120 5 = s221_120_5 → rd M 120 50 = g120_50 → rd M 120 6 = w227_120_6 → rd M 120 7 = s221_120_7 → rd M 120 8 = u242_120_8 → rd M 136 1 = g136_1 → rd M 145 (g120_43 - 1) = r12 → rd M 147 (g120_43 - 1) = 0 → nb2v M = g9001_0 → n4v M = g9002_0 → Dv1 M = g9004_0 → fr0 M = g9005_0 → tav M = s221_9010_0 → (1 ≤ u242_120_8 ∨ s221_120_3 ≠ 0) → (g120_8 = 0 ∨ u242_120_8 = g120_8) → Tr l K 3 mX12_operand 242 [(0, (2, 120)), (3, (0, q219_0))] [] M (q_X12_operand_120 M0) := by
                    intro M u242_120_8 hS bu242_120_8 k242_120_3 k242_120_36 k242_120_4 k242_120_43 k242_120_44 k242_120_46 k242_120_5 k242_120_50 k242_120_6 k242_120_7 k242_120_8 k242_136_1 k242_145_g120_431n1 k242_147_g120_431n1 k242_9001_0 k242_9002_0 k242_9004_0 k242_9005_0 k242_9010_0 t242_0 t242_1
                    clear k219_120_3 k219_120_36 k219_120_4 k219_120_43 k219_120_44 k219_120_46 k219_120_5 k219_120_50 k219_120_6 k219_120_7 k219_120_8 k219_136_1 k219_145_g120_431n1 k219_147_g120_431n1 k219_9001_0 k219_9002_0 k219_9004_0 k219_9005_0 k219_9010_0 es221_120_3 es221_120_4 es221_120_5 es221_120_7 es221_120_8 es221_9010_0 ew227_120_6
                    replace t242_0 := hd_i t242_0
                    replace t242_1 := hd_i t242_1
                    refine Tr.aload_n (pc := 242) (i := 0) d_X12_operand_242 rfl rfl ?_
                    refine Tr.iconst (pc := 243) d_X12_operand_243 (by decide) ?_
                    refine Tr.callV (pc := 244) (as := [_]) d_X12_operand_244 s_12_490 ok_X12_opens rfl rfl (Nat.le_of_ble_eq_true rfl) (Nat.le_of_ble_eq_true rfl) (by decide) (ty_120 hS.1.1) ?_
                    refine Tr.imp (Tr.deep (by decide) (ns_X12_opens_120 (G120_3 := s221_120_3) (G120_4 := s221_120_4) (G120_5 := s221_120_5) (G120_7 := s221_120_7) (G120_8 := u242_120_8) (G120_43 := g120_43) (G120_44 := g120_44) (G9002_0 := g9002_0) (G9005_0 := g9005_0) (G9010_0 := s221_9010_0) hS.1 (k242_120_3) (k242_120_4) (k242_120_5) (k242_120_7) (k242_120_8) (k242_120_43) (k242_120_44) (k242_9002_0) (k242_9005_0) (k242_9010_0) 3 (by omega) (by first | exact (hd_o z221_0) | exact (hd_o z221_0).elim (fun h1 => by omega) (fun h1 => by omega)) (by omega) (by first | exact (hd_o z221_2) | exact (hd_o z221_2).elim (fun h1 => by omega) (fun h1 => h1.elim (fun h1 => by omega) (fun h1 => by omega))) (by and_intros <;> omega) (by exact (hd_o t242_0).elim (fun h1 => by omega) (fun h1 => (ne_o h1).elim (fun h2 => by omega) (fun h2 => by omega))) (by omega) (by omega))) ?_
                    rintro M244 _ ⟨h244, s244_120_3, s244_120_4, s244_120_5, s244_120_7, s244_120_8, s244_120_43, s244_120_44, s244_9002_0, s244_9005_0, s244_9010_0, es244_120_3, bs244_120_3, es244_120_4, bs244_120_4, es244_120_5, bs244_120_5, es244_120_7, bs244_120_7, es244_120_8, bs244_120_8, es244_120_43, bs244_120_43, es244_120_44, bs244_120_44, es244_9002_0, bs244_9002_0, es244_9005_0, bs244_9005_0, es244_9010_0, bs244_9010_0, rfl, z244_0, z244_1, z244_2, z244_3, z244_4, z244_5, z244_6, z244_7, z244_8, z244_9, z244_10⟩
                    have hS := St.tr hS h244 (by decide) (by decide)
                    refine Tr.sc [] rfl ?_
                    refine Tr.aload_n (pc := 247) (i := 0) d_X12_operand_247 rfl rfl ?_
                    refine Tr.getf (pc := 248) d_X12_operand_248 f_12_36 (by decide) (by decide) (ty_120 hS.1.1) ?_
                    refine Tr.tp s244_120_8 es244_120_8 ?_
                    refine Tr.if_ne (pc := 251) (tgt := 266) d_X12_operand_251 rfl (fun c251 => ?_) (fun c251 => ?_)
                    · have c251b : 1 ≤ s244_120_8 ∧ s244_120_8 ≤ 5 := by omega
                      replace c251 := hd_i c251
                      refine Tr.iconst (pc := 266) d_X12_operand_266 (by decide) ?_
                      have kr_120_3 : rd M244 120 3 = s244_120_3 := es244_120_3
                      have kr_120_4 : rd M244 120 4 = s244_120_4 := es244_120_4
                      have kr_120_5 : rd M244 120 5 = s244_120_5 := es244_120_5
                      have kr_120_7 : rd M244 120 7 = s244_120_7 := es244_120_7
                      have kr_120_8 : rd M244 120 8 = s244_120_8 := es244_120_8
                      have kr_120_36 : rd M244 120 36 = g120_36 := ((kp_X12_opens_120_120_36 h244).trans k242_120_36)
                      have kr_120_43 : rd M244 120 43 = s244_120_43 := es244_120_43
                      have kr_120_44 : rd M244 120 44 = s244_120_44 := es244_120_44
                      have kr_120_46 : rd M244 120 46 = g120_46 := ((kp_X12_opens_120_120_46 h244).trans k242_120_46)
                      have kr_120_50 : rd M244 120 50 = g120_50 := ((kp_X12_opens_120_120_50 h244).trans k242_120_50)
                      have kr_136_1 : rd M244 136 1 = g136_1 := ((kp_X12_opens_120_136_1 h244).trans k242_136_1)
                      have kr_9001_0 : nb2v M244 = g9001_0 := ((nb2v_of (fun j => ((ka_X12_opens_120_150 h244 _).trans rfl)) ((kp_X12_opens_120_120_46 h244).trans rfl)).trans k242_9001_0)
                      have kr_9002_0 : n4v M244 = s244_9002_0 := es244_9002_0
                      have kr_9004_0 : Dv1 M244 = g9004_0 := ((Dv1_of (fun j => ((ka_X12_opens_120_143 h244 _).trans rfl)) (fun j => ((ka_X12_opens_120_140 h244 _).trans rfl)) ((kp_X12_opens_120_136_1 h244).trans rfl) ((kp_X12_opens_120_120_36 h244).trans rfl)).trans k242_9004_0)
                      have kr_9005_0 : fr0 M244 = s244_9005_0 := es244_9005_0
                      have kr_9010_0 : tav M244 = s244_9010_0 := es244_9010_0
                      exact Tr.zret (pc := 267) d_X12_operand_267 rfl (by omega) ⟨hS, _, rfl, by omega, by omega, (by first | exact (hd_o z244_0) | exact (hd_o z244_0).elim (fun h1 => by omega) (fun h1 => by omega)), (by omega), (by first | exact (hd_o z244_2) | exact (hd_o z244_2).elim (fun h1 => by omega) (fun h1 => h1.elim (fun h1 => by omega) (fun h1 => by omega))), (by and_intros <;> omega), (by omega), (by omega), (by exact (hd_o t219_0).elim (fun h1 => by omega) (fun h1 => by omega)), (by omega), (by omega), (by omega), (by omega), (by omega), (by omega)⟩
                    · refine Tr.aload_n (pc := 254) (i := 0) d_X12_operand_254 rfl rfl ?_
                      refine Tr.getf (pc := 255) d_X12_operand_255 f_12_137 (by decide) (by decide) (ty_120 hS.1.1) ?_
                      refine Tr.tp 148 (fx_120_41 hS.1.1) ?_
                      refine Tr.aload_n (pc := 258) (i := 0) d_X12_operand_258 rfl rfl ?_
                      refine Tr.getf (pc := 259) d_X12_operand_259 f_12_143 (by decide) (by decide) (ty_120 hS.1.1) ?_
                      refine Tr.tp s244_120_43 es244_120_43 ?_
                      refine Tr.iconst (pc := 262) d_X12_operand_262 (by decide) ?_
                      refine Tr.isub (pc := 263) d_X12_operand_263 ?_
                      refine Tr.tp (s244_120_43 - 1) ((w32_id (by and_intros <;> omega)).trans (by omega)) ?_
                      refine Tr.iload_n (pc := 264) (i := 3) d_X12_operand_264 rfl rfl ?_
                      refine Tr.iastS (pc := 265) (P := St Pm1 ws_X12_operand_120 as_X12_operand_120 M0) d_X12_operand_265 (ty_148 hS.1.1) (by omega) (by omega) (sa_148 hS (by decide) (by and_intros <;> omega) (Pm1.of hS.1.2.2.2.2 (fun _ => rd_wb _ rfl) (fun _ => rd_wb _ rfl) (fun _ => rd_wb _ rfl) (fun _ => rd_wb _ rfl) (fun _ => rd_wb _ rfl) (fun _ => rd_wb _ rfl) (fun _ => rd_wb _ rfl) (fun _ => rd_wb _ rfl) (fun _ => rd_wb _ rfl) (fun _ => rd_wb _ rfl) (rd_wb _ rfl) (rd_wb _ rfl) (rd_wb _ rfl) (rd_wb _ rfl) (rd_wb _ rfl) (rd_wb _ rfl) (rd_wb _ rfl) (rd_wb _ rfl) (rd_wb _ rfl) (rd_wb _ rfl) (rd_wb _ rfl))) (fun M265 hS w265 => ?_)
                      refine Tr.iconst (pc := 266) d_X12_operand_266 (by decide) ?_
                      have kr_120_3 : rd M265 120 3 = s244_120_3 := ((Wr.b w265 rfl).trans es244_120_3)
                      have kr_120_4 : rd M265 120 4 = s244_120_4 := ((Wr.b w265 rfl).trans es244_120_4)
                      have kr_120_5 : rd M265 120 5 = s244_120_5 := ((Wr.b w265 rfl).trans es244_120_5)
                      have kr_120_7 : rd M265 120 7 = s244_120_7 := ((Wr.b w265 rfl).trans es244_120_7)
                      have kr_120_8 : rd M265 120 8 = s244_120_8 := ((Wr.b w265 rfl).trans es244_120_8)
                      have kr_120_36 : rd M265 120 36 = g120_36 := ((Wr.b w265 rfl).trans ((kp_X12_opens_120_120_36 h244).trans k242_120_36))
                      have kr_120_43 : rd M265 120 43 = s244_120_43 := ((Wr.b w265 rfl).trans es244_120_43)
                      have kr_120_44 : rd M265 120 44 = s244_120_44 := ((Wr.b w265 rfl).trans es244_120_44)
                      have kr_120_46 : rd M265 120 46 = g120_46 := ((Wr.b w265 rfl).trans ((kp_X12_opens_120_120_46 h244).trans k242_120_46))
                      have kr_120_50 : rd M265 120 50 = g120_50 := ((Wr.b w265 rfl).trans ((kp_X12_opens_120_120_50 h244).trans k242_120_50))
                      have kr_136_1 : rd M265 136 1 = g136_1 := ((Wr.b w265 rfl).trans ((kp_X12_opens_120_136_1 h244).trans k242_136_1))
                      have kr_9001_0 : nb2v M265 = g9001_0 := ((nb2v_of (fun j => ((Wr.b w265 rfl).trans ((ka_X12_opens_120_150 h244 _).trans rfl))) ((Wr.b w265 rfl).trans ((kp_X12_opens_120_120_46 h244).trans rfl))).trans k242_9001_0)
                      have kr_9002_0 : n4v M265 = s244_9002_0 := ((n4v_of (fun j => ((Wr.b w265 rfl).trans rfl)) ((Wr.b w265 rfl).trans rfl)).trans es244_9002_0)
                      have kr_9004_0 : Dv1 M265 = g9004_0 := ((Dv1_of (fun j => ((Wr.b w265 rfl).trans ((ka_X12_opens_120_143 h244 _).trans rfl))) (fun j => ((Wr.b w265 rfl).trans ((ka_X12_opens_120_140 h244 _).trans rfl))) ((Wr.b w265 rfl).trans ((kp_X12_opens_120_136_1 h244).trans rfl)) ((Wr.b w265 rfl).trans ((kp_X12_opens_120_120_36 h244).trans rfl))).trans k242_9004_0)
                      have kr_9005_0 : fr0 M265 = s244_9005_0 := ((fr0_of (fun j => ((Wr.b w265 rfl).trans rfl))).trans es244_9005_0)
                      have kr_9010_0 : tav M265 = s244_9010_0 := ((tav_of ((Wr.b w265 rfl).trans rfl) ((Wr.b w265 rfl).trans rfl)).trans es244_9010_0)
                      exact Tr.zret (pc := 267) d_X12_operand_267 rfl (by omega) ⟨hS, _, rfl, by omega, by omega, (by first | exact (hd_o z244_0) | exact (hd_o z244_0).elim (fun h1 => by omega) (fun h1 => by omega)), (by omega), (by first | exact (hd_o z244_2) | exact (hd_o z244_2).elim (fun h1 => by omega) (fun h1 => h1.elim (fun h1 => by omega) (fun h1 => by omega))), (by and_intros <;> omega), (by omega), (by exact (hd_o z244_5).elim (fun h1 => by omega) (fun h1 => by omega)), (by exact (hd_o z244_7).elim (fun h1 => by omega) (fun h1 => (hd_o t242_0).elim (fun h2 => (hd_o z244_4).elim (fun h3 => by omega) (fun h3 => by omega)) (fun h2 => (ne_o h2).elim (fun h3 => by omega) (fun h3 => (hd_o z221_0).elim (fun h4 => by omega) (fun h4 => by omega))))), (by omega), (by omega), (by omega), (by omega), (by omega), (by omega)⟩
                  refine Tr.if_ne (pc := 230) (tgt := 242) d_X12_operand_230 rfl (fun c230 => ?_) (fun c230 => ?_)
                  · have c230b : 1 ≤ r227 ∧ r227 ≤ 1 := by omega
                    replace c230 := hd_i c230
                    refine Tr.pick [1, 0] (ls2 := [(0, (2, 120)), (3, (0, q219_0))]) rfl ?_
                    exact J242 _ _ hS (by and_intros <;> omega) ((kp_X12_isSign_120_120_3 h227).trans es221_120_3) ((kp_X12_isSign_120_120_36 h227).trans ((kp_X12_next_120_120_36 h221).trans k219_120_36)) ((kp_X12_isSign_120_120_4 h227).trans es221_120_4) ((kp_X12_isSign_120_120_43 h227).trans ((kp_X12_next_120_120_43 h221).trans k219_120_43)) ((kp_X12_isSign_120_120_44 h227).trans ((kp_X12_next_120_120_44 h221).trans k219_120_44)) ((kp_X12_isSign_120_120_46 h227).trans ((kp_X12_next_120_120_46 h221).trans k219_120_46)) ((kp_X12_isSign_120_120_5 h227).trans es221_120_5) ((kp_X12_isSign_120_120_50 h227).trans ((kp_X12_next_120_120_50 h221).trans k219_120_50)) ((kp_X12_isSign_120_120_6 h227).trans ew227_120_6) ((kp_X12_isSign_120_120_7 h227).trans es221_120_7) ((kp_X12_isSign_120_120_8 h227).trans es221_120_8) ((kp_X12_isSign_120_136_1 h227).trans ((kp_X12_next_120_136_1 h221).trans k219_136_1)) ((ka_X12_isSign_120_145 h227 _).trans ((ka_X12_next_120_145 h221 _).trans k219_145_g120_431n1)) ((ka_X12_isSign_120_147 h227 _).trans ((ka_X12_next_120_147 h221 _).trans k219_147_g120_431n1)) ((nb2v_of (fun j => ((ka_X12_isSign_120_150 h227 _).trans ((ka_X12_next_120_150 h221 _).trans rfl))) ((kp_X12_isSign_120_120_46 h227).trans ((kp_X12_next_120_120_46 h221).trans rfl))).trans k219_9001_0) ((n4v_of (fun j => ((ka_X12_isSign_120_145 h227 _).trans ((ka_X12_next_120_145 h221 _).trans rfl))) ((kp_X12_isSign_120_120_43 h227).trans ((kp_X12_next_120_120_43 h221).trans rfl))).trans k219_9002_0) ((Dv1_of (fun j => ((ka_X12_isSign_120_143 h227 _).trans ((ka_X12_next_120_143 h221 _).trans rfl))) (fun j => ((ka_X12_isSign_120_140 h227 _).trans ((ka_X12_next_120_140 h221 _).trans rfl))) ((kp_X12_isSign_120_136_1 h227).trans ((kp_X12_next_120_136_1 h221).trans rfl)) ((kp_X12_isSign_120_120_36 h227).trans ((kp_X12_next_120_120_36 h221).trans rfl))).trans k219_9004_0) ((fr0_of (fun j => ((ka_X12_isSign_120_145 h227 _).trans ((ka_X12_next_120_145 h221 _).trans rfl)))).trans k219_9005_0) ((tav_of ((kp_X12_isSign_120_120_5 h227).trans rfl) ((kp_X12_isSign_120_120_3 h227).trans rfl)).trans es221_9010_0) (by exact (hd_o z227_0).elim (fun h1 => by omega) (fun h1 => by omega)) (by first | exact (hd_o z221_6) | exact (hd_o z221_6).elim (fun h1 => by omega) (fun h1 => by omega))
                  · refine Tr.aload_n (pc := 233) (i := 0) d_X12_operand_233 rfl rfl ?_
                    refine Tr.iconst (pc := 234) d_X12_operand_234 (by decide) ?_
                    refine Tr.aload_n (pc := 235) (i := 0) d_X12_operand_235 rfl rfl ?_
                    refine Tr.getf (pc := 236) d_X12_operand_236 f_12_23 (by decide) (by decide) (ty_120 hS.1.1) ?_
                    refine Tr.tp s221_120_4 ((kp_X12_isSign_120_120_4 h227).trans es221_120_4) ?_
                    refine Tr.callV (pc := 239) (as := [_, _]) d_X12_operand_239 s_12_389 ok_X12_blame rfl rfl (Nat.le_of_ble_eq_true rfl) (Nat.le_of_ble_eq_true rfl) (by decide) (ty_120 hS.1.1) ?_
                    refine Tr.imp (Tr.deep (by decide) (ns_X12_blame_120 (G120_8 := s221_120_8) hS.1 (((kp_X12_isSign_120_120_8 h227).trans es221_120_8)) 1 (by omega) s221_120_4 (by and_intros <;> omega))) ?_
                    rintro M239 _ ⟨h239, s239_120_8, es239_120_8, bs239_120_8, rfl, z239_0⟩
                    have hS := St.tr hS h239 (by decide) (by decide)
                    refine Tr.sc [] rfl ?_
                    refine Tr.pick [1, 0] (ls2 := [(0, (2, 120)), (3, (0, q219_0))]) rfl ?_
                    exact J242 _ _ hS (by and_intros <;> omega) ((kp_X12_blame_120_120_3 h239).trans ((kp_X12_isSign_120_120_3 h227).trans es221_120_3)) ((kp_X12_blame_120_120_36 h239).trans ((kp_X12_isSign_120_120_36 h227).trans ((kp_X12_next_120_120_36 h221).trans k219_120_36))) ((kp_X12_blame_120_120_4 h239).trans ((kp_X12_isSign_120_120_4 h227).trans es221_120_4)) ((kp_X12_blame_120_120_43 h239).trans ((kp_X12_isSign_120_120_43 h227).trans ((kp_X12_next_120_120_43 h221).trans k219_120_43))) ((kp_X12_blame_120_120_44 h239).trans ((kp_X12_isSign_120_120_44 h227).trans ((kp_X12_next_120_120_44 h221).trans k219_120_44))) ((kp_X12_blame_120_120_46 h239).trans ((kp_X12_isSign_120_120_46 h227).trans ((kp_X12_next_120_120_46 h221).trans k219_120_46))) ((kp_X12_blame_120_120_5 h239).trans ((kp_X12_isSign_120_120_5 h227).trans es221_120_5)) ((kp_X12_blame_120_120_50 h239).trans ((kp_X12_isSign_120_120_50 h227).trans ((kp_X12_next_120_120_50 h221).trans k219_120_50))) ((kp_X12_blame_120_120_6 h239).trans ((kp_X12_isSign_120_120_6 h227).trans ew227_120_6)) ((kp_X12_blame_120_120_7 h239).trans ((kp_X12_isSign_120_120_7 h227).trans es221_120_7)) es239_120_8 ((kp_X12_blame_120_136_1 h239).trans ((kp_X12_isSign_120_136_1 h227).trans ((kp_X12_next_120_136_1 h221).trans k219_136_1))) ((ka_X12_blame_120_145 h239 _).trans ((ka_X12_isSign_120_145 h227 _).trans ((ka_X12_next_120_145 h221 _).trans k219_145_g120_431n1))) ((ka_X12_blame_120_147 h239 _).trans ((ka_X12_isSign_120_147 h227 _).trans ((ka_X12_next_120_147 h221 _).trans k219_147_g120_431n1))) ((nb2v_of (fun j => ((ka_X12_blame_120_150 h239 _).trans ((ka_X12_isSign_120_150 h227 _).trans ((ka_X12_next_120_150 h221 _).trans rfl)))) ((kp_X12_blame_120_120_46 h239).trans ((kp_X12_isSign_120_120_46 h227).trans ((kp_X12_next_120_120_46 h221).trans rfl)))).trans k219_9001_0) ((n4v_of (fun j => ((ka_X12_blame_120_145 h239 _).trans ((ka_X12_isSign_120_145 h227 _).trans ((ka_X12_next_120_145 h221 _).trans rfl)))) ((kp_X12_blame_120_120_43 h239).trans ((kp_X12_isSign_120_120_43 h227).trans ((kp_X12_next_120_120_43 h221).trans rfl)))).trans k219_9002_0) ((Dv1_of (fun j => ((ka_X12_blame_120_143 h239 _).trans ((ka_X12_isSign_120_143 h227 _).trans ((ka_X12_next_120_143 h221 _).trans rfl)))) (fun j => ((ka_X12_blame_120_140 h239 _).trans ((ka_X12_isSign_120_140 h227 _).trans ((ka_X12_next_120_140 h221 _).trans rfl)))) ((kp_X12_blame_120_136_1 h239).trans ((kp_X12_isSign_120_136_1 h227).trans ((kp_X12_next_120_136_1 h221).trans rfl))) ((kp_X12_blame_120_120_36 h239).trans ((kp_X12_isSign_120_120_36 h227).trans ((kp_X12_next_120_120_36 h221).trans rfl)))).trans k219_9004_0) ((fr0_of (fun j => ((ka_X12_blame_120_145 h239 _).trans ((ka_X12_isSign_120_145 h227 _).trans ((ka_X12_next_120_145 h221 _).trans rfl))))).trans k219_9005_0) ((tav_of ((kp_X12_blame_120_120_5 h239).trans ((kp_X12_isSign_120_120_5 h227).trans rfl)) ((kp_X12_blame_120_120_3 h239).trans ((kp_X12_isSign_120_120_3 h227).trans rfl))).trans es221_9010_0) (by exact (hd_o z239_0).elim (fun h1 => by omega) (fun h1 => by omega)) (by omega)
                refine Tr.if_eq (pc := 209) (tgt := 217) d_X12_operand_209 rfl (fun c209 => ?_) (fun c209 => ?_)
                · refine Tr.bipush (pc := 217) d_X12_operand_217 rfl (by decide) ?_
                  refine Tr.pick [0] (ls2 := [(0, (2, 120))]) rfl ?_
                  exact J219 _ _ hS (by omega) ((kp_X12_isWord_120_120_3 h206).trans k202_120_3) ((kp_X12_isWord_120_120_36 h206).trans k202_120_36) ((kp_X12_isWord_120_120_4 h206).trans k202_120_4) ((kp_X12_isWord_120_120_43 h206).trans k202_120_43) ((kp_X12_isWord_120_120_44 h206).trans k202_120_44) ((kp_X12_isWord_120_120_46 h206).trans k202_120_46) ((kp_X12_isWord_120_120_5 h206).trans k202_120_5) ((kp_X12_isWord_120_120_50 h206).trans k202_120_50) ((kp_X12_isWord_120_120_6 h206).trans k202_120_6) ((kp_X12_isWord_120_120_7 h206).trans k202_120_7) ((kp_X12_isWord_120_120_8 h206).trans k202_120_8) ((kp_X12_isWord_120_136_1 h206).trans k202_136_1) ((ka_X12_isWord_120_145 h206 _).trans k202_145_g120_431n1) ((ka_X12_isWord_120_147 h206 _).trans k202_147_g120_431n1) ((nb2v_of (fun j => ((ka_X12_isWord_120_150 h206 _).trans rfl)) ((kp_X12_isWord_120_120_46 h206).trans rfl)).trans k202_9001_0) ((n4v_of (fun j => ((ka_X12_isWord_120_145 h206 _).trans rfl)) ((kp_X12_isWord_120_120_43 h206).trans rfl)).trans k202_9002_0) ((Dv1_of (fun j => ((ka_X12_isWord_120_143 h206 _).trans rfl)) (fun j => ((ka_X12_isWord_120_140 h206 _).trans rfl)) ((kp_X12_isWord_120_136_1 h206).trans rfl) ((kp_X12_isWord_120_120_36 h206).trans rfl)).trans k202_9004_0) ((fr0_of (fun j => ((ka_X12_isWord_120_145 h206 _).trans rfl))).trans k202_9005_0) ((tav_of ((kp_X12_isWord_120_120_5 h206).trans rfl) ((kp_X12_isWord_120_120_3 h206).trans rfl)).trans k202_9010_0) (by first | exact (hd_o t166_0) | exact (hd_o t166_0).elim (fun h1 => by omega) (fun h1 => by omega)) (by omega) (by first | exact (hd_o t166_2) | exact (hd_o t166_2).elim (fun h1 => by omega) (fun h1 => h1.elim (fun h1 => by omega) (fun h1 => by omega))) (by and_intros <;> omega) (by first | exact (hd_o t166_4) | exact (hd_o t166_4).elim (fun h1 => by omega) (fun h1 => by omega))
                · have c209b : 1 ≤ r206 ∧ r206 ≤ 1 := by omega
                  replace c209 := hd_i c209
                  refine Tr.bipush (pc := 212) d_X12_operand_212 rfl (by decide) ?_
                  refine Tr.goto (pc := 214) (tgt := 219) d_X12_operand_214 rfl ?_
                  refine Tr.pick [0] (ls2 := [(0, (2, 120))]) rfl ?_
                  exact J219 _ _ hS (by omega) ((kp_X12_isWord_120_120_3 h206).trans k202_120_3) ((kp_X12_isWord_120_120_36 h206).trans k202_120_36) ((kp_X12_isWord_120_120_4 h206).trans k202_120_4) ((kp_X12_isWord_120_120_43 h206).trans k202_120_43) ((kp_X12_isWord_120_120_44 h206).trans k202_120_44) ((kp_X12_isWord_120_120_46 h206).trans k202_120_46) ((kp_X12_isWord_120_120_5 h206).trans k202_120_5) ((kp_X12_isWord_120_120_50 h206).trans k202_120_50) ((kp_X12_isWord_120_120_6 h206).trans k202_120_6) ((kp_X12_isWord_120_120_7 h206).trans k202_120_7) ((kp_X12_isWord_120_120_8 h206).trans k202_120_8) ((kp_X12_isWord_120_136_1 h206).trans k202_136_1) ((ka_X12_isWord_120_145 h206 _).trans k202_145_g120_431n1) ((ka_X12_isWord_120_147 h206 _).trans k202_147_g120_431n1) ((nb2v_of (fun j => ((ka_X12_isWord_120_150 h206 _).trans rfl)) ((kp_X12_isWord_120_120_46 h206).trans rfl)).trans k202_9001_0) ((n4v_of (fun j => ((ka_X12_isWord_120_145 h206 _).trans rfl)) ((kp_X12_isWord_120_120_43 h206).trans rfl)).trans k202_9002_0) ((Dv1_of (fun j => ((ka_X12_isWord_120_143 h206 _).trans rfl)) (fun j => ((ka_X12_isWord_120_140 h206 _).trans rfl)) ((kp_X12_isWord_120_136_1 h206).trans rfl) ((kp_X12_isWord_120_120_36 h206).trans rfl)).trans k202_9004_0) ((fr0_of (fun j => ((ka_X12_isWord_120_145 h206 _).trans rfl))).trans k202_9005_0) ((tav_of ((kp_X12_isWord_120_120_5 h206).trans rfl) ((kp_X12_isWord_120_120_3 h206).trans rfl)).trans k202_9010_0) (by first | exact (hd_o t166_0) | exact (hd_o t166_0).elim (fun h1 => by omega) (fun h1 => by omega)) (by omega) (by first | exact (hd_o t166_2) | exact (hd_o t166_2).elim (fun h1 => by omega) (fun h1 => h1.elim (fun h1 => by omega) (fun h1 => by omega))) (by and_intros <;> omega) (by first | exact (hd_o t166_4) | exact (hd_o t166_4).elim (fun h1 => by omega) (fun h1 => by omega))
              refine Tr.if_ne (pc := 189) (tgt := 202) d_X12_operand_189 rfl (fun c189 => ?_) (fun c189 => ?_)
              · have c189b : 1 ≤ r186 ∧ r186 ≤ 1 := by omega
                replace c189 := hd_i c189
                refine Tr.pick [0] (ls2 := [(0, (2, 120))]) rfl ?_
                exact J202 _ hS ((kp_X12_isWord_120_120_3 h186).trans ((kp_X12_isSign_120_120_3 h169).trans k166_120_3)) ((kp_X12_isWord_120_120_36 h186).trans ((kp_X12_isSign_120_120_36 h169).trans k166_120_36)) ((kp_X12_isWord_120_120_4 h186).trans ((kp_X12_isSign_120_120_4 h169).trans k166_120_4)) ((kp_X12_isWord_120_120_43 h186).trans ((kp_X12_isSign_120_120_43 h169).trans k166_120_43)) ((kp_X12_isWord_120_120_44 h186).trans ((kp_X12_isSign_120_120_44 h169).trans k166_120_44)) ((kp_X12_isWord_120_120_46 h186).trans ((kp_X12_isSign_120_120_46 h169).trans k166_120_46)) ((kp_X12_isWord_120_120_5 h186).trans ((kp_X12_isSign_120_120_5 h169).trans k166_120_5)) ((kp_X12_isWord_120_120_50 h186).trans ((kp_X12_isSign_120_120_50 h169).trans k166_120_50)) ((kp_X12_isWord_120_120_6 h186).trans ((kp_X12_isSign_120_120_6 h169).trans k166_120_6)) ((kp_X12_isWord_120_120_7 h186).trans ((kp_X12_isSign_120_120_7 h169).trans k166_120_7)) ((kp_X12_isWord_120_120_8 h186).trans ((kp_X12_isSign_120_120_8 h169).trans k166_120_8)) ((kp_X12_isWord_120_136_1 h186).trans ((kp_X12_isSign_120_136_1 h169).trans k166_136_1)) ((ka_X12_isWord_120_145 h186 _).trans ((ka_X12_isSign_120_145 h169 _).trans k166_145_g120_431n1)) ((ka_X12_isWord_120_147 h186 _).trans ((ka_X12_isSign_120_147 h169 _).trans k166_147_g120_431n1)) ((nb2v_of (fun j => ((ka_X12_isWord_120_150 h186 _).trans ((ka_X12_isSign_120_150 h169 _).trans rfl))) ((kp_X12_isWord_120_120_46 h186).trans ((kp_X12_isSign_120_120_46 h169).trans rfl))).trans k166_9001_0) ((n4v_of (fun j => ((ka_X12_isWord_120_145 h186 _).trans ((ka_X12_isSign_120_145 h169 _).trans rfl))) ((kp_X12_isWord_120_120_43 h186).trans ((kp_X12_isSign_120_120_43 h169).trans rfl))).trans k166_9002_0) ((Dv1_of (fun j => ((ka_X12_isWord_120_143 h186 _).trans ((ka_X12_isSign_120_143 h169 _).trans rfl))) (fun j => ((ka_X12_isWord_120_140 h186 _).trans ((ka_X12_isSign_120_140 h169 _).trans rfl))) ((kp_X12_isWord_120_136_1 h186).trans ((kp_X12_isSign_120_136_1 h169).trans rfl)) ((kp_X12_isWord_120_120_36 h186).trans ((kp_X12_isSign_120_120_36 h169).trans rfl))).trans k166_9004_0) ((fr0_of (fun j => ((ka_X12_isWord_120_145 h186 _).trans ((ka_X12_isSign_120_145 h169 _).trans rfl)))).trans k166_9005_0) ((tav_of ((kp_X12_isWord_120_120_5 h186).trans ((kp_X12_isSign_120_120_5 h169).trans rfl)) ((kp_X12_isWord_120_120_3 h186).trans ((kp_X12_isSign_120_120_3 h169).trans rfl))).trans k166_9010_0) (by exact (hd_o z186_0).elim (fun h1 => by omega) (fun h1 => by omega))
              · refine Tr.aload_n (pc := 192) (i := 0) d_X12_operand_192 rfl rfl ?_
                refine Tr.ldc2 (pc := 193) d_X12_operand_193 kl_12_451 (by decide) ?_
                refine Tr.callV (pc := 196) (as := [_]) d_X12_operand_196 s_12_484 ok_X12_isWord rfl rfl (Nat.le_of_ble_eq_true rfl) (Nat.le_of_ble_eq_true rfl) (by decide) (ty_120 hS.1.1) ?_
                refine Tr.imp (Tr.deep (by decide) (ns_X12_isWord_120 (G120_3 := g120_3) (G120_7 := g120_7) hS.1.wk (((kp_X12_isWord_120_120_3 h186).trans ((kp_X12_isSign_120_120_3 h169).trans k166_120_3))) (((kp_X12_isWord_120_120_7 h186).trans ((kp_X12_isSign_120_120_7 h169).trans k166_120_7))) 7168376 (by omega))) ?_
                rintro M196 _ ⟨h196, r196, rfl, lr196, ur196, z196_0⟩
                have h196 := St.rn h196 (Pm1.of hS.1.2.2.2.2 (fun _ => (ka_X12_isWord_120_131 h196 _)) (fun _ => (ka_X12_isWord_120_137 h196 _)) (fun _ => (ka_X12_isWord_120_138 h196 _)) (fun _ => (ka_X12_isWord_120_139 h196 _)) (fun _ => (ka_X12_isWord_120_140 h196 _)) (fun _ => (ka_X12_isWord_120_141 h196 _)) (fun _ => (ka_X12_isWord_120_142 h196 _)) (fun _ => (ka_X12_isWord_120_143 h196 _)) (fun _ => (ka_X12_isWord_120_151 h196 _)) (fun _ => (ka_X12_isWord_120_152 h196 _)) (kp_X12_isWord_120_126_0 h196) (kp_X12_isWord_120_126_1 h196) (kp_X12_isWord_120_136_0 h196) (kp_X12_isWord_120_136_1 h196) (kp_X12_isWord_120_123_0 h196) (kp_X12_isWord_120_123_1 h196) (kp_X12_isWord_120_124_0 h196) (kp_X12_isWord_120_124_1 h196) (kp_X12_isWord_120_120_8 h196) (kp_X12_isWord_120_120_36 h196) (kp_X12_isWord_120_120_50 h196))
                have hS := St.tr hS h196 (by decide) (by decide)
                refine Tr.sc [(0, r196)] rfl ?_
                refine Tr.if_eq (pc := 199) (tgt := 268) d_X12_operand_199 rfl (fun c199 => ?_) (fun c199 => ?_)
                · refine Tr.aload_n (pc := 268) (i := 0) d_X12_operand_268 rfl rfl ?_
                  refine Tr.getf (pc := 269) d_X12_operand_269 f_12_20 (by decide) (by decide) (ty_120 hS.1.1) ?_
                  refine Tr.tp g120_3 ((kp_X12_isWord_120_120_3 h196).trans ((kp_X12_isWord_120_120_3 h186).trans ((kp_X12_isSign_120_120_3 h169).trans k166_120_3))) ?_
                  refine Tr.iconst (pc := 272) d_X12_operand_272 (by decide) ?_
                  have J295 : ∀ (M : Mem) (q295_0 : Int), St Pm1 ws_X12_operand_120 as_X12_operand_120 M0 M → (0 ≤ q295_0 ∧ q295_0 ≤ 3) → rd M 120 3 = g120_3 → rd M 120 36 = g120_36 → rd M 120 4 = g120_4 → rd M 120 43 = g120_43 → rd M 120 44 = g120_44 → rd M 120 46 = g120_46 → rd M 120 5 = g120_5 → rd M 120 50 = g120_50 → rd M 120 6 = g120_6 → rd M 120 7 = g120_7 → rd M 120 8 = g120_8 → rd M 136 1 = g136_1 → rd M 145 (g120_43 - 1) = r12 → rd M 147 (g120_43 - 1) = 0 → nb2v M = g9001_0 → n4v M = g9002_0 → Dv1 M = g9004_0 → fr0 M = g9005_0 → tav M = g9010_0 → (q295_0 = 1 ∨ g120_3 ≠ 0) → (q295_0 = 0 ∨ q295_0 = 1 ∨ q295_0 = 3) → Tr l K 3 mX12_operand 295 [(0, (2, 120))] [(0, q295_0)] M (q_X12_operand_120 M0) := by
                    intro M q295_0 hS bq295_0 k295_120_3 k295_120_36 k295_120_4 k295_120_43 k295_120_44 k295_120_46 k295_120_5 k295_120_50 k295_120_6 k295_120_7 k295_120_8 k295_136_1 k295_145_g120_431n1 k295_147_g120_431n1 k295_9001_0 k295_9002_0 k295_9004_0 k295_9005_0 k295_9010_0 t295_0 t295_1
                    clear k166_120_3 k166_120_36 k166_120_4 k166_120_43 k166_120_44 k166_120_46 k166_120_5 k166_120_50 k166_120_6 k166_120_7 k166_120_8 k166_136_1 k166_145_g120_431n1 k166_147_g120_431n1 k166_9001_0 k166_9002_0 k166_9004_0 k166_9005_0 k166_9010_0
                    replace t295_0 := hd_i t295_0
                    replace t295_1 := hd_i t295_1
                    refine Tr.istore_n (pc := 295) (i := 3) (ls2 := [(3, (0, q295_0)), (0, (2, 120))]) d_X12_operand_295 rfl (by decide) rfl ?_
                    refine Tr.aload_n (pc := 296) (i := 0) d_X12_operand_296 rfl rfl ?_
                    refine Tr.getf (pc := 297) d_X12_operand_297 f_12_29 (by decide) (by decide) (ty_120 hS.1.1) ?_
                    refine Tr.tp g120_6 k295_120_6 ?_
                    refine Tr.istore (pc := 300) (i := 4) (ls2 := [(4, (0, g120_6)), (3, (0, q295_0)), (0, (2, 120))]) d_X12_operand_300 (by decide) rfl ?_
                    refine Tr.iload_n (pc := 302) (i := 3) d_X12_operand_302 rfl rfl ?_
                    refine Tr.iconst (pc := 303) d_X12_operand_303 (by decide) ?_
                    have J396 : ∀ (M : Mem) (p396_3 p396_4 u396_120_8 : Int), St Pm1 ws_X12_operand_120 as_X12_operand_120 M0 M → (0 ≤ p396_3 ∧ p396_3 ≤ 3) → ((-2147483648) ≤ p396_4 ∧ p396_4 ≤ 2147483647) → (0 ≤ u396_120_8 ∧ u396_120_8 ≤ 5) → rd M 120 3 = g120_3 → rd M 120 36 = g120_36 → rd M 120 4 = g120_4 → rd M 120 43 = g120_43 → rd M 120 44 = g120_44 → rd M 120 46 = g120_46 → rd M 120 5 = g120_5 → rd M 120 50 = g120_50 → rd M 120 6 = g120_6 → rd M 120 7 = g120_7 → rd M 120 8 = u396_120_8 → rd M 136 1 = g136_1 → rd M 145 (g120_43 - 1) = r12 → rd M 147 (g120_43 - 1) = 0 → nb2v M = g9001_0 → n4v M = g9002_0 → Dv1 M = g9004_0 → fr0 M = g9005_0 → tav M = g9010_0 → (1 ≤ u396_120_8 ∨ p396_3 = 0 ∨ p396_3 = 3 ∨ (p396_3 = 1 ∧ 0 ≤ p396_4 ∧ p396_4 ≤ 2) ∨ (p396_3 = 2 ∧ 0 ≤ p396_4 ∧ p396_4 ≤ 5)) → (u396_120_8 ≠ 0 ∨ g120_3 ≠ 0) → Tr l K 3 mX12_operand 396 [(0, (2, 120)), (3, (0, p396_3)), (4, (0, p396_4))] [] M (q_X12_operand_120 M0) := by
                      intro M p396_3 p396_4 u396_120_8 hS bp396_3 bp396_4 bu396_120_8 k396_120_3 k396_120_36 k396_120_4 k396_120_43 k396_120_44 k396_120_46 k396_120_5 k396_120_50 k396_120_6 k396_120_7 k396_120_8 k396_136_1 k396_145_g120_431n1 k396_147_g120_431n1 k396_9001_0 k396_9002_0 k396_9004_0 k396_9005_0 k396_9010_0 t396_0 t396_1
                      clear k295_120_3 k295_120_36 k295_120_4 k295_120_43 k295_120_44 k295_120_46 k295_120_5 k295_120_50 k295_120_6 k295_120_7 k295_120_8 k295_136_1 k295_145_g120_431n1 k295_147_g120_431n1 k295_9001_0 k295_9002_0 k295_9004_0 k295_9005_0 k295_9010_0
                      replace t396_0 := hd_i t396_0
                      replace t396_1 := hd_i t396_1
                      refine Tr.aload_n (pc := 396) (i := 0) d_X12_operand_396 rfl rfl ?_
                      refine Tr.getf (pc := 397) d_X12_operand_397 f_12_36 (by decide) (by decide) (ty_120 hS.1.1) ?_
                      refine Tr.tp u396_120_8 k396_120_8 ?_
                      refine Tr.if_le (pc := 400) (tgt := 405) d_X12_operand_400 rfl (fun c400 => ?_) (fun c400 => ?_)
                      · refine Tr.aload_n (pc := 405) (i := 0) d_X12_operand_405 rfl rfl ?_
                        refine Tr.iload_n (pc := 406) (i := 3) d_X12_operand_406 rfl rfl ?_
                        refine Tr.iload (pc := 407) (i := 4) d_X12_operand_407 rfl ?_
                        refine Tr.callV (pc := 409) (as := [_, _]) d_X12_operand_409 s_12_475 ok_X12_add rfl rfl (Nat.le_of_ble_eq_true rfl) (Nat.le_of_ble_eq_true rfl) (by decide) (ty_120 hS.1.1) ?_
                        refine Tr.imp (Tr.deep (by decide) (ns_X12_add_120_w2 (G120_36 := g120_36) (G136_1 := g136_1) (G9004_0 := g9004_0) hS.1 (k396_120_36) (k396_136_1) (k396_9004_0) ((kp_X12_operand_120_120_37 hS).trans en_120_37) p396_3 (by and_intros <;> omega) p396_4 (by and_intros <;> omega) (by exact (hd_o t396_0).elim (fun h1 => by omega) (fun h1 => h1.elim (fun h1 => by omega) (fun h1 => h1.elim (fun h1 => by omega) (fun h1 => h1.elim (fun h1 => by omega) (fun h1 => by omega))))) (by exact (hd_o t396_1).elim (fun h1 => (ne_o h1).elim (fun h2 => by omega) (fun h2 => by omega)) (fun h1 => (ne_o h1).elim (fun h2 => by omega) (fun h2 => (hd_o t166_0).elim (fun h3 => by omega) (fun h3 => by omega)))) (by omega) (by omega) (by omega))) ?_
                        rintro M409 _ ⟨h409, s409_120_36, s409_9004_0, es409_120_36, bs409_120_36, es409_9004_0, bs409_9004_0, rfl, z409_0, z409_1⟩
                        have hS := St.tr hS h409 (by decide) (by decide)
                        refine Tr.sc [] rfl ?_
                        refine Tr.aload_n (pc := 412) (i := 0) d_X12_operand_412 rfl rfl ?_
                        refine Tr.callV (pc := 413) (as := []) d_X12_operand_413 s_12_396 ok_X12_next rfl rfl (Nat.le_of_ble_eq_true rfl) (Nat.le_of_ble_eq_true rfl) (by decide) (ty_120 hS.1.1) ?_
                        refine Tr.imp (Tr.deep (by decide) (ns_X12_next_120 (G120_3 := g120_3) (G120_5 := g120_5) (G120_8 := u396_120_8) (G9010_0 := g9010_0) hS.1 (((kp_X12_add_120_w2_120_3 h409).trans k396_120_3)) (((kp_X12_add_120_w2_120_5 h409).trans k396_120_5)) (((kp_X12_add_120_w2_120_8 h409).trans k396_120_8)) (((tav_of ((kp_X12_add_120_w2_120_5 h409).trans rfl) ((kp_X12_add_120_w2_120_3 h409).trans rfl)).trans k396_9010_0)))) ?_
                        rintro M413 _ ⟨h413, s413_120_3, s413_120_4, s413_120_5, s413_120_7, s413_120_8, s413_9010_0, es413_120_3, bs413_120_3, es413_120_4, bs413_120_4, es413_120_5, bs413_120_5, es413_120_7, bs413_120_7, es413_120_8, bs413_120_8, es413_9010_0, bs413_9010_0, rfl, z413_0, z413_1, z413_2, z413_3, z413_4, z413_5, z413_6⟩
                        have hS := St.tr hS h413 (by decide) (by decide)
                        refine Tr.sc [] rfl ?_
                        refine Tr.iconst (pc := 416) d_X12_operand_416 (by decide) ?_
                        have kr_120_3 : rd M413 120 3 = s413_120_3 := es413_120_3
                        have kr_120_4 : rd M413 120 4 = s413_120_4 := es413_120_4
                        have kr_120_5 : rd M413 120 5 = s413_120_5 := es413_120_5
                        have kr_120_7 : rd M413 120 7 = s413_120_7 := es413_120_7
                        have kr_120_8 : rd M413 120 8 = s413_120_8 := es413_120_8
                        have kr_120_36 : rd M413 120 36 = s409_120_36 := ((kp_X12_next_120_120_36 h413).trans es409_120_36)
                        have kr_120_43 : rd M413 120 43 = g120_43 := ((kp_X12_next_120_120_43 h413).trans ((kp_X12_add_120_w2_120_43 h409).trans k396_120_43))
                        have kr_120_44 : rd M413 120 44 = g120_44 := ((kp_X12_next_120_120_44 h413).trans ((kp_X12_add_120_w2_120_44 h409).trans k396_120_44))
                        have kr_120_46 : rd M413 120 46 = g120_46 := ((kp_X12_next_120_120_46 h413).trans ((kp_X12_add_120_w2_120_46 h409).trans k396_120_46))
                        have kr_120_50 : rd M413 120 50 = g120_50 := ((kp_X12_next_120_120_50 h413).trans ((kp_X12_add_120_w2_120_50 h409).trans k396_120_50))
                        have kr_136_1 : rd M413 136 1 = g136_1 := ((kp_X12_next_120_136_1 h413).trans ((kp_X12_add_120_w2_136_1 h409).trans k396_136_1))
                        have kr_9001_0 : nb2v M413 = g9001_0 := ((nb2v_of (fun j => ((ka_X12_next_120_150 h413 _).trans ((ka_X12_add_120_w2_150 h409 _).trans rfl))) ((kp_X12_next_120_120_46 h413).trans ((kp_X12_add_120_w2_120_46 h409).trans rfl))).trans k396_9001_0)
                        have kr_9002_0 : n4v M413 = g9002_0 := ((n4v_of (fun j => ((ka_X12_next_120_145 h413 _).trans ((ka_X12_add_120_w2_145 h409 _).trans rfl))) ((kp_X12_next_120_120_43 h413).trans ((kp_X12_add_120_w2_120_43 h409).trans rfl))).trans k396_9002_0)
                        have kr_9004_0 : Dv1 M413 = s409_9004_0 := ((Dv1_of (fun j => ((ka_X12_next_120_143 h413 _).trans rfl)) (fun j => ((ka_X12_next_120_140 h413 _).trans rfl)) ((kp_X12_next_120_136_1 h413).trans rfl) ((kp_X12_next_120_120_36 h413).trans rfl)).trans es409_9004_0)
                        have kr_9005_0 : fr0 M413 = g9005_0 := ((fr0_of (fun j => ((ka_X12_next_120_145 h413 _).trans ((ka_X12_add_120_w2_145 h409 _).trans rfl)))).trans k396_9005_0)
                        have kr_9010_0 : tav M413 = s413_9010_0 := es413_9010_0
                        exact Tr.zret (pc := 417) d_X12_operand_417 rfl (by omega) ⟨hS, _, rfl, by omega, by omega, (by first | exact (hd_o z413_0) | exact (hd_o z413_0).elim (fun h1 => by omega) (fun h1 => by omega)), (by omega), (by first | exact (hd_o z413_2) | exact (hd_o z413_2).elim (fun h1 => by omega) (fun h1 => h1.elim (fun h1 => by omega) (fun h1 => by omega))), (by and_intros <;> omega), (by omega), (by exact (hd_o t396_1).elim (fun h1 => (ne_o h1).elim (fun h2 => by omega) (fun h2 => by omega)) (fun h1 => (ne_o h1).elim (fun h2 => by omega) (fun h2 => (hd_o z413_5).elim (fun h3 => by omega) (fun h3 => by omega)))), (by exact (hd_o t396_1).elim (fun h1 => (ne_o h1).elim (fun h2 => by omega) (fun h2 => by omega)) (fun h1 => (ne_o h1).elim (fun h2 => by omega) (fun h2 => (hd_o t166_0).elim (fun h3 => by omega) (fun h3 => by omega)))), (by omega), (by omega), (by omega), (by omega), (by exact (hd_o t396_1).elim (fun h1 => (ne_o h1).elim (fun h2 => by omega) (fun h2 => by omega)) (fun h1 => (ne_o h1).elim (fun h2 => by omega) (fun h2 => (hd_o t166_0).elim (fun h3 => by omega) (fun h3 => by omega)))), (by exact (hd_o z409_1).elim (fun h1 => by omega) (fun h1 => h1.elim (fun h1 => by omega) (fun h1 => by omega)))⟩
                      · refine Tr.iconst (pc := 403) d_X12_operand_403 (by decide) ?_
                        have kr_120_3 : rd M 120 3 = g120_3 := k396_120_3
                        have kr_120_4 : rd M 120 4 = g120_4 := k396_120_4
                        have kr_120_5 : rd M 120 5 = g120_5 := k396_120_5
                        have kr_120_7 : rd M 120 7 = g120_7 := k396_120_7
                        have kr_120_8 : rd M 120 8 = u396_120_8 := k396_120_8
                        have kr_120_36 : rd M 120 36 = g120_36 := k396_120_36
                        have kr_120_43 : rd M 120 43 = g120_43 := k396_120_43
                        have kr_120_44 : rd M 120 44 = g120_44 := k396_120_44
                        have kr_120_46 : rd M 120 46 = g120_46 := k396_120_46
                        have kr_120_50 : rd M 120 50 = g120_50 := k396_120_50
                        have kr_136_1 : rd M 136 1 = g136_1 := k396_136_1
                        have kr_9001_0 : nb2v M = g9001_0 := k396_9001_0
                        have kr_9002_0 : n4v M = g9002_0 := k396_9002_0
                        have kr_9004_0 : Dv1 M = g9004_0 := k396_9004_0
                        have kr_9005_0 : fr0 M = g9005_0 := k396_9005_0
                        have kr_9010_0 : tav M = g9010_0 := k396_9010_0
                        exact Tr.zret (pc := 404) d_X12_operand_404 rfl (by omega) ⟨hS, _, rfl, by omega, by omega, (by first | exact (hd_o t166_0) | exact (hd_o t166_0).elim (fun h1 => by omega) (fun h1 => by omega)), (by omega), (by first | exact (hd_o t166_2) | exact (hd_o t166_2).elim (fun h1 => by omega) (fun h1 => h1.elim (fun h1 => by omega) (fun h1 => by omega))), (by and_intros <;> omega), (by omega), (by omega), (by omega), (by omega), (by omega), (by omega), (by omega), (by omega), (by omega)⟩
                    refine Tr.icmp_ne (pc := 304) (tgt := 396) d_X12_operand_304 rfl (fun c304 => ?_) (fun c304 => ?_)
                    · replace c304 := hd_i c304
                      refine Tr.pick [2, 1, 0] (ls2 := [(0, (2, 120)), (3, (0, q295_0)), (4, (0, g120_6))]) rfl ?_
                      exact J396 _ _ _ _ hS (by and_intros <;> omega) (by and_intros <;> omega) (by and_intros <;> omega) k295_120_3 k295_120_36 k295_120_4 k295_120_43 k295_120_44 k295_120_46 k295_120_5 k295_120_50 k295_120_6 k295_120_7 k295_120_8 k295_136_1 k295_145_g120_431n1 k295_147_g120_431n1 k295_9001_0 k295_9002_0 k295_9004_0 k295_9005_0 k295_9010_0 (by exact (hd_o t295_1).elim (fun h1 => by omega) (fun h1 => h1.elim (fun h1 => (ne_o (hd_o c304)).elim (fun h2 => by omega) (fun h2 => by omega)) (fun h1 => by omega))) (by exact (hd_o t295_0).elim (fun h1 => (ne_o (hd_o c304)).elim (fun h2 => by omega) (fun h2 => by omega)) (fun h1 => (ne_o h1).elim (fun h2 => by omega) (fun h2 => by omega)))
                    · refine Tr.aload_n (pc := 307) (i := 0) d_X12_operand_307 rfl rfl ?_
                      refine Tr.getf (pc := 308) d_X12_operand_308 f_12_20 (by decide) (by decide) (ty_120 hS.1.1) ?_
                      refine Tr.tp g120_3 k295_120_3 ?_
                      refine Tr.iconst (pc := 311) d_X12_operand_311 (by decide) ?_
                      have J335 : ∀ (M : Mem) (u335_120_8 : Int), St Pm1 ws_X12_operand_120 as_X12_operand_120 M0 M → (0 ≤ u335_120_8 ∧ u335_120_8 ≤ 5) → rd M 120 3 = g120_3 → rd M 120 36 = g120_36 → rd M 120 4 = g120_4 → rd M 120 43 = g120_43 → rd M 120 44 = g120_44 → rd M 120 46 = g120_46 → rd M 120 5 = g120_5 → rd M 120 50 = g120_50 → rd M 120 6 = g120_6 → rd M 120 7 = g120_7 → rd M 120 8 = u335_120_8 → rd M 136 1 = g136_1 → rd M 145 (g120_43 - 1) = r12 → rd M 147 (g120_43 - 1) = 0 → nb2v M = g9001_0 → n4v M = g9002_0 → Dv1 M = g9004_0 → fr0 M = g9005_0 → tav M = g9010_0 → (u335_120_8 ≠ 0 ∨ g120_3 ≠ 0) → Tr l K 3 mX12_operand 335 [(0, (2, 120)), (3, (0, q295_0))] [] M (q_X12_operand_120 M0) := by
                        intro M u335_120_8 hS bu335_120_8 k335_120_3 k335_120_36 k335_120_4 k335_120_43 k335_120_44 k335_120_46 k335_120_5 k335_120_50 k335_120_6 k335_120_7 k335_120_8 k335_136_1 k335_145_g120_431n1 k335_147_g120_431n1 k335_9001_0 k335_9002_0 k335_9004_0 k335_9005_0 k335_9010_0 t335_0
                        clear k295_120_3 k295_120_36 k295_120_4 k295_120_43 k295_120_44 k295_120_46 k295_120_5 k295_120_50 k295_120_6 k295_120_7 k295_120_8 k295_136_1 k295_145_g120_431n1 k295_147_g120_431n1 k295_9001_0 k295_9002_0 k295_9004_0 k295_9005_0 k295_9010_0
                        replace t335_0 := hd_i t335_0
                        refine Tr.aload_n (pc := 335) (i := 0) d_X12_operand_335 rfl rfl ?_
                        refine Tr.getf (pc := 336) d_X12_operand_336 f_12_36 (by decide) (by decide) (ty_120 hS.1.1) ?_
                        refine Tr.tp u335_120_8 k335_120_8 ?_
                        have J354 : ∀ (M : Mem) (q354_0 : Int), St Pm1 ws_X12_operand_120 as_X12_operand_120 M0 M → ((-1) ≤ q354_0 ∧ q354_0 ≤ 2) → rd M 120 3 = g120_3 → rd M 120 36 = g120_36 → rd M 120 4 = g120_4 → rd M 120 43 = g120_43 → rd M 120 44 = g120_44 → rd M 120 46 = g120_46 → rd M 120 5 = g120_5 → rd M 120 50 = g120_50 → rd M 120 6 = g120_6 → rd M 120 7 = g120_7 → rd M 120 8 = u335_120_8 → rd M 136 1 = g136_1 → rd M 145 (g120_43 - 1) = r12 → rd M 147 (g120_43 - 1) = 0 → nb2v M = g9001_0 → n4v M = g9002_0 → Dv1 M = g9004_0 → fr0 M = g9005_0 → tav M = g9010_0 → (-1 ≤ q354_0 ∧ q354_0 ≤ 2) → Tr l K 3 mX12_operand 354 [(0, (2, 120)), (3, (0, q295_0))] [(0, q354_0)] M (q_X12_operand_120 M0) := by
                          intro M q354_0 hS bq354_0 k354_120_3 k354_120_36 k354_120_4 k354_120_43 k354_120_44 k354_120_46 k354_120_5 k354_120_50 k354_120_6 k354_120_7 k354_120_8 k354_136_1 k354_145_g120_431n1 k354_147_g120_431n1 k354_9001_0 k354_9002_0 k354_9004_0 k354_9005_0 k354_9010_0 t354_0
                          clear k335_120_3 k335_120_36 k335_120_4 k335_120_43 k335_120_44 k335_120_46 k335_120_5 k335_120_50 k335_120_6 k335_120_7 k335_120_8 k335_136_1 k335_145_g120_431n1 k335_147_g120_431n1 k335_9001_0 k335_9002_0 k335_9004_0 k335_9005_0 k335_9010_0
                          refine Tr.istore (pc := 354) (i := 4) (ls2 := [(4, (0, q354_0)), (0, (2, 120)), (3, (0, q295_0))]) d_X12_operand_354 (by decide) rfl ?_
                          refine Tr.iload (pc := 356) (i := 4) d_X12_operand_356 rfl ?_
                          refine Tr.iconst (pc := 358) d_X12_operand_358 (by decide) ?_
                          have J374 : ∀ (M : Mem) (p374_3 p374_4 : Int), St Pm1 ws_X12_operand_120 as_X12_operand_120 M0 M → (1 ≤ p374_3 ∧ p374_3 ≤ 2) → ((-1) ≤ p374_4 ∧ p374_4 ≤ 5) → rd M 120 3 = g120_3 → rd M 120 36 = g120_36 → rd M 120 4 = g120_4 → rd M 120 43 = g120_43 → rd M 120 44 = g120_44 → rd M 120 46 = g120_46 → rd M 120 5 = g120_5 → rd M 120 50 = g120_50 → rd M 120 6 = g120_6 → rd M 120 7 = g120_7 → rd M 120 8 = u335_120_8 → rd M 136 1 = g136_1 → rd M 145 (g120_43 - 1) = r12 → rd M 147 (g120_43 - 1) = 0 → nb2v M = g9001_0 → n4v M = g9002_0 → Dv1 M = g9004_0 → fr0 M = g9005_0 → tav M = g9010_0 → ((p374_3 = 1 ∧ 0 ≤ p374_4 ∧ p374_4 ≤ 2) ∨ (p374_3 = 2 ∧ -1 ≤ p374_4 ∧ p374_4 ≤ 5)) → (u335_120_8 ≠ 0 ∨ g120_3 ≠ 0) → Tr l K 3 mX12_operand 374 [(0, (2, 120)), (3, (0, p374_3)), (4, (0, p374_4))] [] M (q_X12_operand_120 M0) := by
                            intro M p374_3 p374_4 hS bp374_3 bp374_4 k374_120_3 k374_120_36 k374_120_4 k374_120_43 k374_120_44 k374_120_46 k374_120_5 k374_120_50 k374_120_6 k374_120_7 k374_120_8 k374_136_1 k374_145_g120_431n1 k374_147_g120_431n1 k374_9001_0 k374_9002_0 k374_9004_0 k374_9005_0 k374_9010_0 t374_0 t374_1
                            clear k354_120_3 k354_120_36 k354_120_4 k354_120_43 k354_120_44 k354_120_46 k354_120_5 k354_120_50 k354_120_6 k354_120_7 k354_120_8 k354_136_1 k354_145_g120_431n1 k354_147_g120_431n1 k354_9001_0 k354_9002_0 k354_9004_0 k354_9005_0 k354_9010_0
                            replace t374_0 := hd_i t374_0
                            replace t374_1 := hd_i t374_1
                            refine Tr.aload_n (pc := 374) (i := 0) d_X12_operand_374 rfl rfl ?_
                            refine Tr.getf (pc := 375) d_X12_operand_375 f_12_36 (by decide) (by decide) (ty_120 hS.1.1) ?_
                            refine Tr.tp u335_120_8 k374_120_8 ?_
                            refine Tr.if_ne (pc := 378) (tgt := 396) d_X12_operand_378 rfl (fun c378 => ?_) (fun c378 => ?_)
                            · have c378b : 1 ≤ u335_120_8 ∧ u335_120_8 ≤ 5 := by omega
                              replace c378 := hd_i c378
                              refine Tr.pick [0, 1, 2] (ls2 := [(0, (2, 120)), (3, (0, p374_3)), (4, (0, p374_4))]) rfl ?_
                              exact J396 _ _ _ _ hS (by and_intros <;> omega) (by and_intros <;> omega) (by and_intros <;> omega) k374_120_3 k374_120_36 k374_120_4 k374_120_43 k374_120_44 k374_120_46 k374_120_5 k374_120_50 k374_120_6 k374_120_7 k374_120_8 k374_136_1 k374_145_g120_431n1 k374_147_g120_431n1 k374_9001_0 k374_9002_0 k374_9004_0 k374_9005_0 k374_9010_0 (by omega) (by first | exact (hd_o t374_1) | exact (hd_o t374_1).elim (fun h1 => by omega) (fun h1 => by omega))
                            · refine Tr.iload (pc := 381) (i := 4) d_X12_operand_381 rfl ?_
                              refine Tr.iconst (pc := 383) d_X12_operand_383 (by decide) ?_
                              refine Tr.icmp_ne (pc := 384) (tgt := 396) d_X12_operand_384 rfl (fun c384 => ?_) (fun c384 => ?_)
                              · have c384b : 0 ≤ p374_4 ∧ p374_4 ≤ 5 := by omega
                                replace c384 := hd_i c384
                                refine Tr.pick [0, 1, 2] (ls2 := [(0, (2, 120)), (3, (0, p374_3)), (4, (0, p374_4))]) rfl ?_
                                exact J396 _ _ _ _ hS (by and_intros <;> omega) (by and_intros <;> omega) (by and_intros <;> omega) k374_120_3 k374_120_36 k374_120_4 k374_120_43 k374_120_44 k374_120_46 k374_120_5 k374_120_50 k374_120_6 k374_120_7 k374_120_8 k374_136_1 k374_145_g120_431n1 k374_147_g120_431n1 k374_9001_0 k374_9002_0 k374_9004_0 k374_9005_0 k374_9010_0 (by exact (hd_o t374_0).elim (fun h1 => by omega) (fun h1 => by omega)) (by first | exact (hd_o t374_1) | exact (hd_o t374_1).elim (fun h1 => by omega) (fun h1 => by omega))
                              · refine Tr.aload_n (pc := 387) (i := 0) d_X12_operand_387 rfl rfl ?_
                                refine Tr.iconst (pc := 388) d_X12_operand_388 (by decide) ?_
                                refine Tr.aload_n (pc := 389) (i := 0) d_X12_operand_389 rfl rfl ?_
                                refine Tr.getf (pc := 390) d_X12_operand_390 f_12_23 (by decide) (by decide) (ty_120 hS.1.1) ?_
                                refine Tr.tp g120_4 k374_120_4 ?_
                                refine Tr.callV (pc := 393) (as := [_, _]) d_X12_operand_393 s_12_389 ok_X12_blame rfl rfl (Nat.le_of_ble_eq_true rfl) (Nat.le_of_ble_eq_true rfl) (by decide) (ty_120 hS.1.1) ?_
                                refine Tr.imp (Tr.deep (by decide) (ns_X12_blame_120 (G120_8 := u335_120_8) hS.1 (k374_120_8) 3 (by omega) g120_4 (by and_intros <;> omega))) ?_
                                rintro M393 _ ⟨h393, s393_120_8, es393_120_8, bs393_120_8, rfl, z393_0⟩
                                have hS := St.tr hS h393 (by decide) (by decide)
                                refine Tr.sc [] rfl ?_
                                refine Tr.pick [0, 1, 2] (ls2 := [(0, (2, 120)), (3, (0, p374_3)), (4, (0, p374_4))]) rfl ?_
                                exact J396 _ _ _ _ hS (by and_intros <;> omega) (by and_intros <;> omega) (by and_intros <;> omega) ((kp_X12_blame_120_120_3 h393).trans k374_120_3) ((kp_X12_blame_120_120_36 h393).trans k374_120_36) ((kp_X12_blame_120_120_4 h393).trans k374_120_4) ((kp_X12_blame_120_120_43 h393).trans k374_120_43) ((kp_X12_blame_120_120_44 h393).trans k374_120_44) ((kp_X12_blame_120_120_46 h393).trans k374_120_46) ((kp_X12_blame_120_120_5 h393).trans k374_120_5) ((kp_X12_blame_120_120_50 h393).trans k374_120_50) ((kp_X12_blame_120_120_6 h393).trans k374_120_6) ((kp_X12_blame_120_120_7 h393).trans k374_120_7) es393_120_8 ((kp_X12_blame_120_136_1 h393).trans k374_136_1) ((ka_X12_blame_120_145 h393 _).trans k374_145_g120_431n1) ((ka_X12_blame_120_147 h393 _).trans k374_147_g120_431n1) ((nb2v_of (fun j => ((ka_X12_blame_120_150 h393 _).trans rfl)) ((kp_X12_blame_120_120_46 h393).trans rfl)).trans k374_9001_0) ((n4v_of (fun j => ((ka_X12_blame_120_145 h393 _).trans rfl)) ((kp_X12_blame_120_120_43 h393).trans rfl)).trans k374_9002_0) ((Dv1_of (fun j => ((ka_X12_blame_120_143 h393 _).trans rfl)) (fun j => ((ka_X12_blame_120_140 h393 _).trans rfl)) ((kp_X12_blame_120_136_1 h393).trans rfl) ((kp_X12_blame_120_120_36 h393).trans rfl)).trans k374_9004_0) ((fr0_of (fun j => ((ka_X12_blame_120_145 h393 _).trans rfl))).trans k374_9005_0) ((tav_of ((kp_X12_blame_120_120_5 h393).trans rfl) ((kp_X12_blame_120_120_3 h393).trans rfl)).trans k374_9010_0) (by exact (hd_o z393_0).elim (fun h1 => by omega) (fun h1 => by omega)) (by exact (hd_o z393_0).elim (fun h1 => by omega) (fun h1 => by omega))
                          refine Tr.icmp_ne (pc := 359) (tgt := 374) d_X12_operand_359 rfl (fun c359 => ?_) (fun c359 => ?_)
                          · have c359b : 0 ≤ q354_0 ∧ q354_0 ≤ 2 := by omega
                            replace c359 := hd_i c359
                            refine Tr.pick [1, 2, 0] (ls2 := [(0, (2, 120)), (3, (0, q295_0)), (4, (0, q354_0))]) rfl ?_
                            exact J374 _ _ _ hS (by and_intros <;> omega) (by and_intros <;> omega) k354_120_3 k354_120_36 k354_120_4 k354_120_43 k354_120_44 k354_120_46 k354_120_5 k354_120_50 k354_120_6 k354_120_7 k354_120_8 k354_136_1 k354_145_g120_431n1 k354_147_g120_431n1 k354_9001_0 k354_9002_0 k354_9004_0 k354_9005_0 k354_9010_0 (by omega) (by first | exact (hd_o t335_0) | exact (hd_o t335_0).elim (fun h1 => by omega) (fun h1 => by omega))
                          · refine Tr.iconst (pc := 362) d_X12_operand_362 (by decide) ?_
                            refine Tr.istore_n (pc := 363) (i := 3) (ls2 := [(3, (0, 2)), (4, (0, q354_0)), (0, (2, 120))]) d_X12_operand_363 rfl (by decide) rfl ?_
                            refine Tr.aload_n (pc := 364) (i := 0) d_X12_operand_364 rfl rfl ?_
                            refine Tr.aload_n (pc := 365) (i := 0) d_X12_operand_365 rfl rfl ?_
                            refine Tr.getf (pc := 366) d_X12_operand_366 f_12_32 (by decide) (by decide) (ty_120 hS.1.1) ?_
                            refine Tr.tp g120_7 k354_120_7 ?_
                            refine Tr.callV (pc := 369) (as := [_]) d_X12_operand_369 s_12_464 ok_X12_varOf rfl rfl (Nat.le_of_ble_eq_true rfl) (Nat.le_of_ble_eq_true rfl) (by decide) (ty_120 hS.1.1) ?_
                            refine Tr.imp (Tr.deep (by decide) (sp_X12_varOf_120 hS.1.wk ((kp_X12_operand_120_120_37 hS).trans en_120_37) g120_7 (by omega))) ?_
                            rintro M369 _ ⟨h369, r369, rfl, lr369, ur369⟩
                            have h369 := St.rn h369 (Pm1.of hS.1.2.2.2.2 (fun _ => (ka_X12_varOf_120_131 h369 _)) (fun _ => (ka_X12_varOf_120_137 h369 _)) (fun _ => (ka_X12_varOf_120_138 h369 _)) (fun _ => (ka_X12_varOf_120_139 h369 _)) (fun _ => (ka_X12_varOf_120_140 h369 _)) (fun _ => (ka_X12_varOf_120_141 h369 _)) (fun _ => (ka_X12_varOf_120_142 h369 _)) (fun _ => (ka_X12_varOf_120_143 h369 _)) (fun _ => (ka_X12_varOf_120_151 h369 _)) (fun _ => (ka_X12_varOf_120_152 h369 _)) (kp_X12_varOf_120_126_0 h369) (kp_X12_varOf_120_126_1 h369) (kp_X12_varOf_120_136_0 h369) (kp_X12_varOf_120_136_1 h369) (kp_X12_varOf_120_123_0 h369) (kp_X12_varOf_120_123_1 h369) (kp_X12_varOf_120_124_0 h369) (kp_X12_varOf_120_124_1 h369) (kp_X12_varOf_120_120_8 h369) (kp_X12_varOf_120_120_36 h369) (kp_X12_varOf_120_120_50 h369))
                            have hS := St.tr hS h369 (by decide) (by decide)
                            refine Tr.sc [(0, r369)] rfl ?_
                            refine Tr.istore (pc := 372) (i := 4) (ls2 := [(4, (0, r369)), (3, (0, 2)), (0, (2, 120))]) d_X12_operand_372 (by decide) rfl ?_
                            refine Tr.pick [2, 1, 0] (ls2 := [(0, (2, 120)), (3, (0, 2)), (4, (0, r369))]) rfl ?_
                            exact J374 _ _ _ hS (by omega) (by and_intros <;> omega) ((kp_X12_varOf_120_120_3 h369).trans k354_120_3) ((kp_X12_varOf_120_120_36 h369).trans k354_120_36) ((kp_X12_varOf_120_120_4 h369).trans k354_120_4) ((kp_X12_varOf_120_120_43 h369).trans k354_120_43) ((kp_X12_varOf_120_120_44 h369).trans k354_120_44) ((kp_X12_varOf_120_120_46 h369).trans k354_120_46) ((kp_X12_varOf_120_120_5 h369).trans k354_120_5) ((kp_X12_varOf_120_120_50 h369).trans k354_120_50) ((kp_X12_varOf_120_120_6 h369).trans k354_120_6) ((kp_X12_varOf_120_120_7 h369).trans k354_120_7) ((kp_X12_varOf_120_120_8 h369).trans k354_120_8) ((kp_X12_varOf_120_136_1 h369).trans k354_136_1) ((ka_X12_varOf_120_145 h369 _).trans k354_145_g120_431n1) ((ka_X12_varOf_120_147 h369 _).trans k354_147_g120_431n1) ((nb2v_of (fun j => ((ka_X12_varOf_120_150 h369 _).trans rfl)) ((kp_X12_varOf_120_120_46 h369).trans rfl)).trans k354_9001_0) ((n4v_of (fun j => ((ka_X12_varOf_120_145 h369 _).trans rfl)) ((kp_X12_varOf_120_120_43 h369).trans rfl)).trans k354_9002_0) ((Dv1_of (fun j => ((ka_X12_varOf_120_143 h369 _).trans rfl)) (fun j => ((ka_X12_varOf_120_140 h369 _).trans rfl)) ((kp_X12_varOf_120_136_1 h369).trans rfl) ((kp_X12_varOf_120_120_36 h369).trans rfl)).trans k354_9004_0) ((fr0_of (fun j => ((ka_X12_varOf_120_145 h369 _).trans rfl))).trans k354_9005_0) ((tav_of ((kp_X12_varOf_120_120_5 h369).trans rfl) ((kp_X12_varOf_120_120_3 h369).trans rfl)).trans k354_9010_0) (by omega) (by first | exact (hd_o t335_0) | exact (hd_o t335_0).elim (fun h1 => by omega) (fun h1 => by omega))
                        refine Tr.if_le (pc := 339) (tgt := 346) d_X12_operand_339 rfl (fun c339 => ?_) (fun c339 => ?_)
                        · refine Tr.aload_n (pc := 346) (i := 0) d_X12_operand_346 rfl rfl ?_
                          refine Tr.aload_n (pc := 347) (i := 0) d_X12_operand_347 rfl rfl ?_
                          refine Tr.getf (pc := 348) d_X12_operand_348 f_12_32 (by decide) (by decide) (ty_120 hS.1.1) ?_
                          refine Tr.tp g120_7 k335_120_7 ?_
                          refine Tr.callV (pc := 351) (as := [_]) d_X12_operand_351 s_12_461 ok_X12_inputOf rfl rfl (Nat.le_of_ble_eq_true rfl) (Nat.le_of_ble_eq_true rfl) (by decide) (ty_120 hS.1.1) ?_
                          refine Tr.imp (Tr.deep (by decide) (sp_X12_inputOf_120 hS.1.wk ((kp_X12_operand_120_120_37 hS).trans en_120_37) g120_7 (by omega))) ?_
                          rintro M351 _ ⟨h351, r351, rfl, lr351, ur351⟩
                          have h351 := St.rn h351 (Pm1.of hS.1.2.2.2.2 (fun _ => (ka_X12_inputOf_120_131 h351 _)) (fun _ => (ka_X12_inputOf_120_137 h351 _)) (fun _ => (ka_X12_inputOf_120_138 h351 _)) (fun _ => (ka_X12_inputOf_120_139 h351 _)) (fun _ => (ka_X12_inputOf_120_140 h351 _)) (fun _ => (ka_X12_inputOf_120_141 h351 _)) (fun _ => (ka_X12_inputOf_120_142 h351 _)) (fun _ => (ka_X12_inputOf_120_143 h351 _)) (fun _ => (ka_X12_inputOf_120_151 h351 _)) (fun _ => (ka_X12_inputOf_120_152 h351 _)) (kp_X12_inputOf_120_126_0 h351) (kp_X12_inputOf_120_126_1 h351) (kp_X12_inputOf_120_136_0 h351) (kp_X12_inputOf_120_136_1 h351) (kp_X12_inputOf_120_123_0 h351) (kp_X12_inputOf_120_123_1 h351) (kp_X12_inputOf_120_124_0 h351) (kp_X12_inputOf_120_124_1 h351) (kp_X12_inputOf_120_120_8 h351) (kp_X12_inputOf_120_120_36 h351) (kp_X12_inputOf_120_120_50 h351))
                          have hS := St.tr hS h351 (by decide) (by decide)
                          refine Tr.sc [(0, r351)] rfl ?_
                          refine Tr.pick [0, 1] (ls2 := [(0, (2, 120)), (3, (0, q295_0))]) rfl ?_
                          exact J354 _ _ hS (by and_intros <;> omega) ((kp_X12_inputOf_120_120_3 h351).trans k335_120_3) ((kp_X12_inputOf_120_120_36 h351).trans k335_120_36) ((kp_X12_inputOf_120_120_4 h351).trans k335_120_4) ((kp_X12_inputOf_120_120_43 h351).trans k335_120_43) ((kp_X12_inputOf_120_120_44 h351).trans k335_120_44) ((kp_X12_inputOf_120_120_46 h351).trans k335_120_46) ((kp_X12_inputOf_120_120_5 h351).trans k335_120_5) ((kp_X12_inputOf_120_120_50 h351).trans k335_120_50) ((kp_X12_inputOf_120_120_6 h351).trans k335_120_6) ((kp_X12_inputOf_120_120_7 h351).trans k335_120_7) ((kp_X12_inputOf_120_120_8 h351).trans k335_120_8) ((kp_X12_inputOf_120_136_1 h351).trans k335_136_1) ((ka_X12_inputOf_120_145 h351 _).trans k335_145_g120_431n1) ((ka_X12_inputOf_120_147 h351 _).trans k335_147_g120_431n1) ((nb2v_of (fun j => ((ka_X12_inputOf_120_150 h351 _).trans rfl)) ((kp_X12_inputOf_120_120_46 h351).trans rfl)).trans k335_9001_0) ((n4v_of (fun j => ((ka_X12_inputOf_120_145 h351 _).trans rfl)) ((kp_X12_inputOf_120_120_43 h351).trans rfl)).trans k335_9002_0) ((Dv1_of (fun j => ((ka_X12_inputOf_120_143 h351 _).trans rfl)) (fun j => ((ka_X12_inputOf_120_140 h351 _).trans rfl)) ((kp_X12_inputOf_120_136_1 h351).trans rfl) ((kp_X12_inputOf_120_120_36 h351).trans rfl)).trans k335_9004_0) ((fr0_of (fun j => ((ka_X12_inputOf_120_145 h351 _).trans rfl))).trans k335_9005_0) ((tav_of ((kp_X12_inputOf_120_120_5 h351).trans rfl) ((kp_X12_inputOf_120_120_3 h351).trans rfl)).trans k335_9010_0) (by and_intros <;> omega)
                        · refine Tr.iconst (pc := 342) d_X12_operand_342 (by decide) ?_
                          refine Tr.goto (pc := 343) (tgt := 354) d_X12_operand_343 rfl ?_
                          refine Tr.pick [0, 1] (ls2 := [(0, (2, 120)), (3, (0, q295_0))]) rfl ?_
                          exact J354 _ _ hS (by omega) k335_120_3 k335_120_36 k335_120_4 k335_120_43 k335_120_44 k335_120_46 k335_120_5 k335_120_50 k335_120_6 k335_120_7 k335_120_8 k335_136_1 k335_145_g120_431n1 k335_147_g120_431n1 k335_9001_0 k335_9002_0 k335_9004_0 k335_9005_0 k335_9010_0 (by and_intros <;> omega)
                      have J326 : ∀ (M : Mem), St Pm1 ws_X12_operand_120 as_X12_operand_120 M0 M → rd M 120 3 = g120_3 → rd M 120 36 = g120_36 → rd M 120 4 = g120_4 → rd M 120 43 = g120_43 → rd M 120 44 = g120_44 → rd M 120 46 = g120_46 → rd M 120 5 = g120_5 → rd M 120 50 = g120_50 → rd M 120 6 = g120_6 → rd M 120 7 = g120_7 → rd M 120 8 = g120_8 → rd M 136 1 = g136_1 → rd M 145 (g120_43 - 1) = r12 → rd M 147 (g120_43 - 1) = 0 → nb2v M = g9001_0 → n4v M = g9002_0 → Dv1 M = g9004_0 → fr0 M = g9005_0 → tav M = g9010_0 → (g120_3 = 0 ∨ g120_4 + 1 ≤ g120_5) → (g120_4 ≤ g120_5) → (g120_3 ≠ 1 ∨ g120_4 + 2 ≤ g120_5 ∨ g120_7 < 256) → (g120_4 ≤ g120_4 ∧ g120_5 ≤ g120_5 ∧ g9010_0 ≤ g9010_0) → (g120_8 = 0 ∨ g120_8 = g120_8) → Tr l K 3 mX12_operand 326 [(0, (2, 120)), (3, (0, q295_0))] [] M (q_X12_operand_120 M0) := by
                        intro M  hS  k326_120_3 k326_120_36 k326_120_4 k326_120_43 k326_120_44 k326_120_46 k326_120_5 k326_120_50 k326_120_6 k326_120_7 k326_120_8 k326_136_1 k326_145_g120_431n1 k326_147_g120_431n1 k326_9001_0 k326_9002_0 k326_9004_0 k326_9005_0 k326_9010_0 t326_0 t326_1 t326_2 t326_3 t326_4
                        clear k295_120_3 k295_120_36 k295_120_4 k295_120_43 k295_120_44 k295_120_46 k295_120_5 k295_120_50 k295_120_6 k295_120_7 k295_120_8 k295_136_1 k295_145_g120_431n1 k295_147_g120_431n1 k295_9001_0 k295_9002_0 k295_9004_0 k295_9005_0 k295_9010_0
                        replace t326_0 := hd_i t326_0
                        replace t326_2 := hd_i t326_2
                        replace t326_4 := hd_i t326_4
                        refine Tr.aload_n (pc := 326) (i := 0) d_X12_operand_326 rfl rfl ?_
                        refine Tr.iconst (pc := 327) d_X12_operand_327 (by decide) ?_
                        refine Tr.aload_n (pc := 328) (i := 0) d_X12_operand_328 rfl rfl ?_
                        refine Tr.getf (pc := 329) d_X12_operand_329 f_12_23 (by decide) (by decide) (ty_120 hS.1.1) ?_
                        refine Tr.tp g120_4 k326_120_4 ?_
                        refine Tr.callV (pc := 332) (as := [_, _]) d_X12_operand_332 s_12_389 ok_X12_blame rfl rfl (Nat.le_of_ble_eq_true rfl) (Nat.le_of_ble_eq_true rfl) (by decide) (ty_120 hS.1.1) ?_
                        refine Tr.imp (Tr.deep (by decide) (ns_X12_blame_120 (G120_8 := g120_8) hS.1 (k326_120_8) 1 (by omega) g120_4 (by and_intros <;> omega))) ?_
                        rintro M332 _ ⟨h332, s332_120_8, es332_120_8, bs332_120_8, rfl, z332_0⟩
                        have hS := St.tr hS h332 (by decide) (by decide)
                        refine Tr.sc [] rfl ?_
                        refine Tr.pick [0, 1] (ls2 := [(0, (2, 120)), (3, (0, q295_0))]) rfl ?_
                        exact J335 _ _ hS (by and_intros <;> omega) ((kp_X12_blame_120_120_3 h332).trans k326_120_3) ((kp_X12_blame_120_120_36 h332).trans k326_120_36) ((kp_X12_blame_120_120_4 h332).trans k326_120_4) ((kp_X12_blame_120_120_43 h332).trans k326_120_43) ((kp_X12_blame_120_120_44 h332).trans k326_120_44) ((kp_X12_blame_120_120_46 h332).trans k326_120_46) ((kp_X12_blame_120_120_5 h332).trans k326_120_5) ((kp_X12_blame_120_120_50 h332).trans k326_120_50) ((kp_X12_blame_120_120_6 h332).trans k326_120_6) ((kp_X12_blame_120_120_7 h332).trans k326_120_7) es332_120_8 ((kp_X12_blame_120_136_1 h332).trans k326_136_1) ((ka_X12_blame_120_145 h332 _).trans k326_145_g120_431n1) ((ka_X12_blame_120_147 h332 _).trans k326_147_g120_431n1) ((nb2v_of (fun j => ((ka_X12_blame_120_150 h332 _).trans rfl)) ((kp_X12_blame_120_120_46 h332).trans rfl)).trans k326_9001_0) ((n4v_of (fun j => ((ka_X12_blame_120_145 h332 _).trans rfl)) ((kp_X12_blame_120_120_43 h332).trans rfl)).trans k326_9002_0) ((Dv1_of (fun j => ((ka_X12_blame_120_143 h332 _).trans rfl)) (fun j => ((ka_X12_blame_120_140 h332 _).trans rfl)) ((kp_X12_blame_120_136_1 h332).trans rfl) ((kp_X12_blame_120_120_36 h332).trans rfl)).trans k326_9004_0) ((fr0_of (fun j => ((ka_X12_blame_120_145 h332 _).trans rfl))).trans k326_9005_0) ((tav_of ((kp_X12_blame_120_120_5 h332).trans rfl) ((kp_X12_blame_120_120_3 h332).trans rfl)).trans k326_9010_0) (by exact (hd_o z332_0).elim (fun h1 => by omega) (fun h1 => by omega))
                      refine Tr.icmp_ne (pc := 312) (tgt := 326) d_X12_operand_312 rfl (fun c312 => ?_) (fun c312 => ?_)
                      · replace c312 := hd_i c312
                        refine Tr.pick [2, 1] (ls2 := [(0, (2, 120)), (3, (0, q295_0))]) rfl ?_
                        exact J326 _ hS k295_120_3 k295_120_36 k295_120_4 k295_120_43 k295_120_44 k295_120_46 k295_120_5 k295_120_50 k295_120_6 k295_120_7 k295_120_8 k295_136_1 k295_145_g120_431n1 k295_147_g120_431n1 k295_9001_0 k295_9002_0 k295_9004_0 k295_9005_0 k295_9010_0 (by first | exact (hd_o t166_0) | exact (hd_o t166_0).elim (fun h1 => by omega) (fun h1 => by omega)) (by omega) (by first | exact (hd_o t166_2) | exact (hd_o t166_2).elim (fun h1 => by omega) (fun h1 => h1.elim (fun h1 => by omega) (fun h1 => by omega))) (by and_intros <;> omega) (by first | exact (hd_o t166_4) | exact (hd_o t166_4).elim (fun h1 => by omega) (fun h1 => by omega))
                      · refine Tr.aload_n (pc := 315) (i := 0) d_X12_operand_315 rfl rfl ?_
                        refine Tr.aload_n (pc := 316) (i := 0) d_X12_operand_316 rfl rfl ?_
                        refine Tr.getf (pc := 317) d_X12_operand_317 f_12_32 (by decide) (by decide) (ty_120 hS.1.1) ?_
                        refine Tr.tp g120_7 k295_120_7 ?_
                        refine Tr.callV (pc := 320) (as := [_]) d_X12_operand_320 s_12_453 ok_X12_isOwn rfl rfl (Nat.le_of_ble_eq_true rfl) (Nat.le_of_ble_eq_true rfl) (by decide) (ty_120 hS.1.1) ?_
                        refine Tr.imp (Tr.deep (by decide) (sp_X12_isOwn_120 hS.1.wk g120_7 (by omega))) ?_
                        rintro M320 _ ⟨h320, r320, rfl, lr320, ur320⟩
                        have h320 := St.rn h320 (Pm1.of hS.1.2.2.2.2 (fun _ => (ka_X12_isOwn_120_131 h320 _)) (fun _ => (ka_X12_isOwn_120_137 h320 _)) (fun _ => (ka_X12_isOwn_120_138 h320 _)) (fun _ => (ka_X12_isOwn_120_139 h320 _)) (fun _ => (ka_X12_isOwn_120_140 h320 _)) (fun _ => (ka_X12_isOwn_120_141 h320 _)) (fun _ => (ka_X12_isOwn_120_142 h320 _)) (fun _ => (ka_X12_isOwn_120_143 h320 _)) (fun _ => (ka_X12_isOwn_120_151 h320 _)) (fun _ => (ka_X12_isOwn_120_152 h320 _)) (kp_X12_isOwn_120_126_0 h320) (kp_X12_isOwn_120_126_1 h320) (kp_X12_isOwn_120_136_0 h320) (kp_X12_isOwn_120_136_1 h320) (kp_X12_isOwn_120_123_0 h320) (kp_X12_isOwn_120_123_1 h320) (kp_X12_isOwn_120_124_0 h320) (kp_X12_isOwn_120_124_1 h320) (kp_X12_isOwn_120_120_8 h320) (kp_X12_isOwn_120_120_36 h320) (kp_X12_isOwn_120_120_50 h320))
                        have hS := St.tr hS h320 (by decide) (by decide)
                        refine Tr.sc [(0, r320)] rfl ?_
                        refine Tr.if_eq (pc := 323) (tgt := 335) d_X12_operand_323 rfl (fun c323 => ?_) (fun c323 => ?_)
                        · refine Tr.pick [2, 1] (ls2 := [(0, (2, 120)), (3, (0, q295_0))]) rfl ?_
                          exact J335 _ _ hS (by and_intros <;> omega) ((kp_X12_isOwn_120_120_3 h320).trans k295_120_3) ((kp_X12_isOwn_120_120_36 h320).trans k295_120_36) ((kp_X12_isOwn_120_120_4 h320).trans k295_120_4) ((kp_X12_isOwn_120_120_43 h320).trans k295_120_43) ((kp_X12_isOwn_120_120_44 h320).trans k295_120_44) ((kp_X12_isOwn_120_120_46 h320).trans k295_120_46) ((kp_X12_isOwn_120_120_5 h320).trans k295_120_5) ((kp_X12_isOwn_120_120_50 h320).trans k295_120_50) ((kp_X12_isOwn_120_120_6 h320).trans k295_120_6) ((kp_X12_isOwn_120_120_7 h320).trans k295_120_7) ((kp_X12_isOwn_120_120_8 h320).trans k295_120_8) ((kp_X12_isOwn_120_136_1 h320).trans k295_136_1) ((ka_X12_isOwn_120_145 h320 _).trans k295_145_g120_431n1) ((ka_X12_isOwn_120_147 h320 _).trans k295_147_g120_431n1) ((nb2v_of (fun j => ((ka_X12_isOwn_120_150 h320 _).trans rfl)) ((kp_X12_isOwn_120_120_46 h320).trans rfl)).trans k295_9001_0) ((n4v_of (fun j => ((ka_X12_isOwn_120_145 h320 _).trans rfl)) ((kp_X12_isOwn_120_120_43 h320).trans rfl)).trans k295_9002_0) ((Dv1_of (fun j => ((ka_X12_isOwn_120_143 h320 _).trans rfl)) (fun j => ((ka_X12_isOwn_120_140 h320 _).trans rfl)) ((kp_X12_isOwn_120_136_1 h320).trans rfl) ((kp_X12_isOwn_120_120_36 h320).trans rfl)).trans k295_9004_0) ((fr0_of (fun j => ((ka_X12_isOwn_120_145 h320 _).trans rfl))).trans k295_9005_0) ((tav_of ((kp_X12_isOwn_120_120_5 h320).trans rfl) ((kp_X12_isOwn_120_120_3 h320).trans rfl)).trans k295_9010_0) (by omega)
                        · have c323b : 1 ≤ r320 ∧ r320 ≤ 1 := by omega
                          replace c323 := hd_i c323
                          refine Tr.pick [2, 1] (ls2 := [(0, (2, 120)), (3, (0, q295_0))]) rfl ?_
                          exact J326 _ hS ((kp_X12_isOwn_120_120_3 h320).trans k295_120_3) ((kp_X12_isOwn_120_120_36 h320).trans k295_120_36) ((kp_X12_isOwn_120_120_4 h320).trans k295_120_4) ((kp_X12_isOwn_120_120_43 h320).trans k295_120_43) ((kp_X12_isOwn_120_120_44 h320).trans k295_120_44) ((kp_X12_isOwn_120_120_46 h320).trans k295_120_46) ((kp_X12_isOwn_120_120_5 h320).trans k295_120_5) ((kp_X12_isOwn_120_120_50 h320).trans k295_120_50) ((kp_X12_isOwn_120_120_6 h320).trans k295_120_6) ((kp_X12_isOwn_120_120_7 h320).trans k295_120_7) ((kp_X12_isOwn_120_120_8 h320).trans k295_120_8) ((kp_X12_isOwn_120_136_1 h320).trans k295_136_1) ((ka_X12_isOwn_120_145 h320 _).trans k295_145_g120_431n1) ((ka_X12_isOwn_120_147 h320 _).trans k295_147_g120_431n1) ((nb2v_of (fun j => ((ka_X12_isOwn_120_150 h320 _).trans rfl)) ((kp_X12_isOwn_120_120_46 h320).trans rfl)).trans k295_9001_0) ((n4v_of (fun j => ((ka_X12_isOwn_120_145 h320 _).trans rfl)) ((kp_X12_isOwn_120_120_43 h320).trans rfl)).trans k295_9002_0) ((Dv1_of (fun j => ((ka_X12_isOwn_120_143 h320 _).trans rfl)) (fun j => ((ka_X12_isOwn_120_140 h320 _).trans rfl)) ((kp_X12_isOwn_120_136_1 h320).trans rfl) ((kp_X12_isOwn_120_120_36 h320).trans rfl)).trans k295_9004_0) ((fr0_of (fun j => ((ka_X12_isOwn_120_145 h320 _).trans rfl))).trans k295_9005_0) ((tav_of ((kp_X12_isOwn_120_120_5 h320).trans rfl) ((kp_X12_isOwn_120_120_3 h320).trans rfl)).trans k295_9010_0) (by first | exact (hd_o t166_0) | exact (hd_o t166_0).elim (fun h1 => by omega) (fun h1 => by omega)) (by omega) (by first | exact (hd_o t166_2) | exact (hd_o t166_2).elim (fun h1 => by omega) (fun h1 => h1.elim (fun h1 => by omega) (fun h1 => by omega))) (by and_intros <;> omega) (by first | exact (hd_o t166_4) | exact (hd_o t166_4).elim (fun h1 => by omega) (fun h1 => by omega))
                  refine Tr.icmp_ne (pc := 273) (tgt := 280) d_X12_operand_273 rfl (fun c273 => ?_) (fun c273 => ?_)
                  · replace c273 := hd_i c273
                    refine Tr.aload_n (pc := 280) (i := 0) d_X12_operand_280 rfl rfl ?_
                    refine Tr.ldc2 (pc := 281) d_X12_operand_281 kl_12_447 (by decide) ?_
                    refine Tr.callV (pc := 284) (as := [_]) d_X12_operand_284 s_12_484 ok_X12_isWord rfl rfl (Nat.le_of_ble_eq_true rfl) (Nat.le_of_ble_eq_true rfl) (by decide) (ty_120 hS.1.1) ?_
                    refine Tr.imp (Tr.deep (by decide) (ns_X12_isWord_120 (G120_3 := g120_3) (G120_7 := g120_7) hS.1.wk (((kp_X12_isWord_120_120_3 h196).trans ((kp_X12_isWord_120_120_3 h186).trans ((kp_X12_isSign_120_120_3 h169).trans k166_120_3)))) (((kp_X12_isWord_120_120_7 h196).trans ((kp_X12_isWord_120_120_7 h186).trans ((kp_X12_isSign_120_120_7 h169).trans k166_120_7)))) 1953063787 (by omega))) ?_
                    rintro M284 _ ⟨h284, r284, rfl, lr284, ur284, z284_0⟩
                    have h284 := St.rn h284 (Pm1.of hS.1.2.2.2.2 (fun _ => (ka_X12_isWord_120_131 h284 _)) (fun _ => (ka_X12_isWord_120_137 h284 _)) (fun _ => (ka_X12_isWord_120_138 h284 _)) (fun _ => (ka_X12_isWord_120_139 h284 _)) (fun _ => (ka_X12_isWord_120_140 h284 _)) (fun _ => (ka_X12_isWord_120_141 h284 _)) (fun _ => (ka_X12_isWord_120_142 h284 _)) (fun _ => (ka_X12_isWord_120_143 h284 _)) (fun _ => (ka_X12_isWord_120_151 h284 _)) (fun _ => (ka_X12_isWord_120_152 h284 _)) (kp_X12_isWord_120_126_0 h284) (kp_X12_isWord_120_126_1 h284) (kp_X12_isWord_120_136_0 h284) (kp_X12_isWord_120_136_1 h284) (kp_X12_isWord_120_123_0 h284) (kp_X12_isWord_120_123_1 h284) (kp_X12_isWord_120_124_0 h284) (kp_X12_isWord_120_124_1 h284) (kp_X12_isWord_120_120_8 h284) (kp_X12_isWord_120_120_36 h284) (kp_X12_isWord_120_120_50 h284))
                    have hS := St.tr hS h284 (by decide) (by decide)
                    refine Tr.sc [(0, r284)] rfl ?_
                    refine Tr.if_eq (pc := 287) (tgt := 294) d_X12_operand_287 rfl (fun c287 => ?_) (fun c287 => ?_)
                    · refine Tr.iconst (pc := 294) d_X12_operand_294 (by decide) ?_
                      refine Tr.pick [0] (ls2 := [(0, (2, 120))]) rfl ?_
                      exact J295 _ _ hS (by omega) ((kp_X12_isWord_120_120_3 h284).trans ((kp_X12_isWord_120_120_3 h196).trans ((kp_X12_isWord_120_120_3 h186).trans ((kp_X12_isSign_120_120_3 h169).trans k166_120_3)))) ((kp_X12_isWord_120_120_36 h284).trans ((kp_X12_isWord_120_120_36 h196).trans ((kp_X12_isWord_120_120_36 h186).trans ((kp_X12_isSign_120_120_36 h169).trans k166_120_36)))) ((kp_X12_isWord_120_120_4 h284).trans ((kp_X12_isWord_120_120_4 h196).trans ((kp_X12_isWord_120_120_4 h186).trans ((kp_X12_isSign_120_120_4 h169).trans k166_120_4)))) ((kp_X12_isWord_120_120_43 h284).trans ((kp_X12_isWord_120_120_43 h196).trans ((kp_X12_isWord_120_120_43 h186).trans ((kp_X12_isSign_120_120_43 h169).trans k166_120_43)))) ((kp_X12_isWord_120_120_44 h284).trans ((kp_X12_isWord_120_120_44 h196).trans ((kp_X12_isWord_120_120_44 h186).trans ((kp_X12_isSign_120_120_44 h169).trans k166_120_44)))) ((kp_X12_isWord_120_120_46 h284).trans ((kp_X12_isWord_120_120_46 h196).trans ((kp_X12_isWord_120_120_46 h186).trans ((kp_X12_isSign_120_120_46 h169).trans k166_120_46)))) ((kp_X12_isWord_120_120_5 h284).trans ((kp_X12_isWord_120_120_5 h196).trans ((kp_X12_isWord_120_120_5 h186).trans ((kp_X12_isSign_120_120_5 h169).trans k166_120_5)))) ((kp_X12_isWord_120_120_50 h284).trans ((kp_X12_isWord_120_120_50 h196).trans ((kp_X12_isWord_120_120_50 h186).trans ((kp_X12_isSign_120_120_50 h169).trans k166_120_50)))) ((kp_X12_isWord_120_120_6 h284).trans ((kp_X12_isWord_120_120_6 h196).trans ((kp_X12_isWord_120_120_6 h186).trans ((kp_X12_isSign_120_120_6 h169).trans k166_120_6)))) ((kp_X12_isWord_120_120_7 h284).trans ((kp_X12_isWord_120_120_7 h196).trans ((kp_X12_isWord_120_120_7 h186).trans ((kp_X12_isSign_120_120_7 h169).trans k166_120_7)))) ((kp_X12_isWord_120_120_8 h284).trans ((kp_X12_isWord_120_120_8 h196).trans ((kp_X12_isWord_120_120_8 h186).trans ((kp_X12_isSign_120_120_8 h169).trans k166_120_8)))) ((kp_X12_isWord_120_136_1 h284).trans ((kp_X12_isWord_120_136_1 h196).trans ((kp_X12_isWord_120_136_1 h186).trans ((kp_X12_isSign_120_136_1 h169).trans k166_136_1)))) ((ka_X12_isWord_120_145 h284 _).trans ((ka_X12_isWord_120_145 h196 _).trans ((ka_X12_isWord_120_145 h186 _).trans ((ka_X12_isSign_120_145 h169 _).trans k166_145_g120_431n1)))) ((ka_X12_isWord_120_147 h284 _).trans ((ka_X12_isWord_120_147 h196 _).trans ((ka_X12_isWord_120_147 h186 _).trans ((ka_X12_isSign_120_147 h169 _).trans k166_147_g120_431n1)))) ((nb2v_of (fun j => ((ka_X12_isWord_120_150 h284 _).trans ((ka_X12_isWord_120_150 h196 _).trans ((ka_X12_isWord_120_150 h186 _).trans ((ka_X12_isSign_120_150 h169 _).trans rfl))))) ((kp_X12_isWord_120_120_46 h284).trans ((kp_X12_isWord_120_120_46 h196).trans ((kp_X12_isWord_120_120_46 h186).trans ((kp_X12_isSign_120_120_46 h169).trans rfl))))).trans k166_9001_0) ((n4v_of (fun j => ((ka_X12_isWord_120_145 h284 _).trans ((ka_X12_isWord_120_145 h196 _).trans ((ka_X12_isWord_120_145 h186 _).trans ((ka_X12_isSign_120_145 h169 _).trans rfl))))) ((kp_X12_isWord_120_120_43 h284).trans ((kp_X12_isWord_120_120_43 h196).trans ((kp_X12_isWord_120_120_43 h186).trans ((kp_X12_isSign_120_120_43 h169).trans rfl))))).trans k166_9002_0) ((Dv1_of (fun j => ((ka_X12_isWord_120_143 h284 _).trans ((ka_X12_isWord_120_143 h196 _).trans ((ka_X12_isWord_120_143 h186 _).trans ((ka_X12_isSign_120_143 h169 _).trans rfl))))) (fun j => ((ka_X12_isWord_120_140 h284 _).trans ((ka_X12_isWord_120_140 h196 _).trans ((ka_X12_isWord_120_140 h186 _).trans ((ka_X12_isSign_120_140 h169 _).trans rfl))))) ((kp_X12_isWord_120_136_1 h284).trans ((kp_X12_isWord_120_136_1 h196).trans ((kp_X12_isWord_120_136_1 h186).trans ((kp_X12_isSign_120_136_1 h169).trans rfl)))) ((kp_X12_isWord_120_120_36 h284).trans ((kp_X12_isWord_120_120_36 h196).trans ((kp_X12_isWord_120_120_36 h186).trans ((kp_X12_isSign_120_120_36 h169).trans rfl))))).trans k166_9004_0) ((fr0_of (fun j => ((ka_X12_isWord_120_145 h284 _).trans ((ka_X12_isWord_120_145 h196 _).trans ((ka_X12_isWord_120_145 h186 _).trans ((ka_X12_isSign_120_145 h169 _).trans rfl)))))).trans k166_9005_0) ((tav_of ((kp_X12_isWord_120_120_5 h284).trans ((kp_X12_isWord_120_120_5 h196).trans ((kp_X12_isWord_120_120_5 h186).trans ((kp_X12_isSign_120_120_5 h169).trans rfl)))) ((kp_X12_isWord_120_120_3 h284).trans ((kp_X12_isWord_120_120_3 h196).trans ((kp_X12_isWord_120_120_3 h186).trans ((kp_X12_isSign_120_120_3 h169).trans rfl))))).trans k166_9010_0) (by omega) (by omega)
                    · have c287b : 1 ≤ r284 ∧ r284 ≤ 1 := by omega
                      replace c287 := hd_i c287
                      refine Tr.iconst (pc := 290) d_X12_operand_290 (by decide) ?_
                      refine Tr.goto (pc := 291) (tgt := 295) d_X12_operand_291 rfl ?_
                      refine Tr.pick [0] (ls2 := [(0, (2, 120))]) rfl ?_
                      exact J295 _ _ hS (by omega) ((kp_X12_isWord_120_120_3 h284).trans ((kp_X12_isWord_120_120_3 h196).trans ((kp_X12_isWord_120_120_3 h186).trans ((kp_X12_isSign_120_120_3 h169).trans k166_120_3)))) ((kp_X12_isWord_120_120_36 h284).trans ((kp_X12_isWord_120_120_36 h196).trans ((kp_X12_isWord_120_120_36 h186).trans ((kp_X12_isSign_120_120_36 h169).trans k166_120_36)))) ((kp_X12_isWord_120_120_4 h284).trans ((kp_X12_isWord_120_120_4 h196).trans ((kp_X12_isWord_120_120_4 h186).trans ((kp_X12_isSign_120_120_4 h169).trans k166_120_4)))) ((kp_X12_isWord_120_120_43 h284).trans ((kp_X12_isWord_120_120_43 h196).trans ((kp_X12_isWord_120_120_43 h186).trans ((kp_X12_isSign_120_120_43 h169).trans k166_120_43)))) ((kp_X12_isWord_120_120_44 h284).trans ((kp_X12_isWord_120_120_44 h196).trans ((kp_X12_isWord_120_120_44 h186).trans ((kp_X12_isSign_120_120_44 h169).trans k166_120_44)))) ((kp_X12_isWord_120_120_46 h284).trans ((kp_X12_isWord_120_120_46 h196).trans ((kp_X12_isWord_120_120_46 h186).trans ((kp_X12_isSign_120_120_46 h169).trans k166_120_46)))) ((kp_X12_isWord_120_120_5 h284).trans ((kp_X12_isWord_120_120_5 h196).trans ((kp_X12_isWord_120_120_5 h186).trans ((kp_X12_isSign_120_120_5 h169).trans k166_120_5)))) ((kp_X12_isWord_120_120_50 h284).trans ((kp_X12_isWord_120_120_50 h196).trans ((kp_X12_isWord_120_120_50 h186).trans ((kp_X12_isSign_120_120_50 h169).trans k166_120_50)))) ((kp_X12_isWord_120_120_6 h284).trans ((kp_X12_isWord_120_120_6 h196).trans ((kp_X12_isWord_120_120_6 h186).trans ((kp_X12_isSign_120_120_6 h169).trans k166_120_6)))) ((kp_X12_isWord_120_120_7 h284).trans ((kp_X12_isWord_120_120_7 h196).trans ((kp_X12_isWord_120_120_7 h186).trans ((kp_X12_isSign_120_120_7 h169).trans k166_120_7)))) ((kp_X12_isWord_120_120_8 h284).trans ((kp_X12_isWord_120_120_8 h196).trans ((kp_X12_isWord_120_120_8 h186).trans ((kp_X12_isSign_120_120_8 h169).trans k166_120_8)))) ((kp_X12_isWord_120_136_1 h284).trans ((kp_X12_isWord_120_136_1 h196).trans ((kp_X12_isWord_120_136_1 h186).trans ((kp_X12_isSign_120_136_1 h169).trans k166_136_1)))) ((ka_X12_isWord_120_145 h284 _).trans ((ka_X12_isWord_120_145 h196 _).trans ((ka_X12_isWord_120_145 h186 _).trans ((ka_X12_isSign_120_145 h169 _).trans k166_145_g120_431n1)))) ((ka_X12_isWord_120_147 h284 _).trans ((ka_X12_isWord_120_147 h196 _).trans ((ka_X12_isWord_120_147 h186 _).trans ((ka_X12_isSign_120_147 h169 _).trans k166_147_g120_431n1)))) ((nb2v_of (fun j => ((ka_X12_isWord_120_150 h284 _).trans ((ka_X12_isWord_120_150 h196 _).trans ((ka_X12_isWord_120_150 h186 _).trans ((ka_X12_isSign_120_150 h169 _).trans rfl))))) ((kp_X12_isWord_120_120_46 h284).trans ((kp_X12_isWord_120_120_46 h196).trans ((kp_X12_isWord_120_120_46 h186).trans ((kp_X12_isSign_120_120_46 h169).trans rfl))))).trans k166_9001_0) ((n4v_of (fun j => ((ka_X12_isWord_120_145 h284 _).trans ((ka_X12_isWord_120_145 h196 _).trans ((ka_X12_isWord_120_145 h186 _).trans ((ka_X12_isSign_120_145 h169 _).trans rfl))))) ((kp_X12_isWord_120_120_43 h284).trans ((kp_X12_isWord_120_120_43 h196).trans ((kp_X12_isWord_120_120_43 h186).trans ((kp_X12_isSign_120_120_43 h169).trans rfl))))).trans k166_9002_0) ((Dv1_of (fun j => ((ka_X12_isWord_120_143 h284 _).trans ((ka_X12_isWord_120_143 h196 _).trans ((ka_X12_isWord_120_143 h186 _).trans ((ka_X12_isSign_120_143 h169 _).trans rfl))))) (fun j => ((ka_X12_isWord_120_140 h284 _).trans ((ka_X12_isWord_120_140 h196 _).trans ((ka_X12_isWord_120_140 h186 _).trans ((ka_X12_isSign_120_140 h169 _).trans rfl))))) ((kp_X12_isWord_120_136_1 h284).trans ((kp_X12_isWord_120_136_1 h196).trans ((kp_X12_isWord_120_136_1 h186).trans ((kp_X12_isSign_120_136_1 h169).trans rfl)))) ((kp_X12_isWord_120_120_36 h284).trans ((kp_X12_isWord_120_120_36 h196).trans ((kp_X12_isWord_120_120_36 h186).trans ((kp_X12_isSign_120_120_36 h169).trans rfl))))).trans k166_9004_0) ((fr0_of (fun j => ((ka_X12_isWord_120_145 h284 _).trans ((ka_X12_isWord_120_145 h196 _).trans ((ka_X12_isWord_120_145 h186 _).trans ((ka_X12_isSign_120_145 h169 _).trans rfl)))))).trans k166_9005_0) ((tav_of ((kp_X12_isWord_120_120_5 h284).trans ((kp_X12_isWord_120_120_5 h196).trans ((kp_X12_isWord_120_120_5 h186).trans ((kp_X12_isSign_120_120_5 h169).trans rfl)))) ((kp_X12_isWord_120_120_3 h284).trans ((kp_X12_isWord_120_120_3 h196).trans ((kp_X12_isWord_120_120_3 h186).trans ((kp_X12_isSign_120_120_3 h169).trans rfl))))).trans k166_9010_0) (by exact (hd_o z284_0).elim (fun h1 => by omega) (fun h1 => by omega)) (by omega)
                  · refine Tr.iconst (pc := 276) d_X12_operand_276 (by decide) ?_
                    refine Tr.goto (pc := 277) (tgt := 295) d_X12_operand_277 rfl ?_
                    refine Tr.pick [0] (ls2 := [(0, (2, 120))]) rfl ?_
                    exact J295 _ _ hS (by omega) ((kp_X12_isWord_120_120_3 h196).trans ((kp_X12_isWord_120_120_3 h186).trans ((kp_X12_isSign_120_120_3 h169).trans k166_120_3))) ((kp_X12_isWord_120_120_36 h196).trans ((kp_X12_isWord_120_120_36 h186).trans ((kp_X12_isSign_120_120_36 h169).trans k166_120_36))) ((kp_X12_isWord_120_120_4 h196).trans ((kp_X12_isWord_120_120_4 h186).trans ((kp_X12_isSign_120_120_4 h169).trans k166_120_4))) ((kp_X12_isWord_120_120_43 h196).trans ((kp_X12_isWord_120_120_43 h186).trans ((kp_X12_isSign_120_120_43 h169).trans k166_120_43))) ((kp_X12_isWord_120_120_44 h196).trans ((kp_X12_isWord_120_120_44 h186).trans ((kp_X12_isSign_120_120_44 h169).trans k166_120_44))) ((kp_X12_isWord_120_120_46 h196).trans ((kp_X12_isWord_120_120_46 h186).trans ((kp_X12_isSign_120_120_46 h169).trans k166_120_46))) ((kp_X12_isWord_120_120_5 h196).trans ((kp_X12_isWord_120_120_5 h186).trans ((kp_X12_isSign_120_120_5 h169).trans k166_120_5))) ((kp_X12_isWord_120_120_50 h196).trans ((kp_X12_isWord_120_120_50 h186).trans ((kp_X12_isSign_120_120_50 h169).trans k166_120_50))) ((kp_X12_isWord_120_120_6 h196).trans ((kp_X12_isWord_120_120_6 h186).trans ((kp_X12_isSign_120_120_6 h169).trans k166_120_6))) ((kp_X12_isWord_120_120_7 h196).trans ((kp_X12_isWord_120_120_7 h186).trans ((kp_X12_isSign_120_120_7 h169).trans k166_120_7))) ((kp_X12_isWord_120_120_8 h196).trans ((kp_X12_isWord_120_120_8 h186).trans ((kp_X12_isSign_120_120_8 h169).trans k166_120_8))) ((kp_X12_isWord_120_136_1 h196).trans ((kp_X12_isWord_120_136_1 h186).trans ((kp_X12_isSign_120_136_1 h169).trans k166_136_1))) ((ka_X12_isWord_120_145 h196 _).trans ((ka_X12_isWord_120_145 h186 _).trans ((ka_X12_isSign_120_145 h169 _).trans k166_145_g120_431n1))) ((ka_X12_isWord_120_147 h196 _).trans ((ka_X12_isWord_120_147 h186 _).trans ((ka_X12_isSign_120_147 h169 _).trans k166_147_g120_431n1))) ((nb2v_of (fun j => ((ka_X12_isWord_120_150 h196 _).trans ((ka_X12_isWord_120_150 h186 _).trans ((ka_X12_isSign_120_150 h169 _).trans rfl)))) ((kp_X12_isWord_120_120_46 h196).trans ((kp_X12_isWord_120_120_46 h186).trans ((kp_X12_isSign_120_120_46 h169).trans rfl)))).trans k166_9001_0) ((n4v_of (fun j => ((ka_X12_isWord_120_145 h196 _).trans ((ka_X12_isWord_120_145 h186 _).trans ((ka_X12_isSign_120_145 h169 _).trans rfl)))) ((kp_X12_isWord_120_120_43 h196).trans ((kp_X12_isWord_120_120_43 h186).trans ((kp_X12_isSign_120_120_43 h169).trans rfl)))).trans k166_9002_0) ((Dv1_of (fun j => ((ka_X12_isWord_120_143 h196 _).trans ((ka_X12_isWord_120_143 h186 _).trans ((ka_X12_isSign_120_143 h169 _).trans rfl)))) (fun j => ((ka_X12_isWord_120_140 h196 _).trans ((ka_X12_isWord_120_140 h186 _).trans ((ka_X12_isSign_120_140 h169 _).trans rfl)))) ((kp_X12_isWord_120_136_1 h196).trans ((kp_X12_isWord_120_136_1 h186).trans ((kp_X12_isSign_120_136_1 h169).trans rfl))) ((kp_X12_isWord_120_120_36 h196).trans ((kp_X12_isWord_120_120_36 h186).trans ((kp_X12_isSign_120_120_36 h169).trans rfl)))).trans k166_9004_0) ((fr0_of (fun j => ((ka_X12_isWord_120_145 h196 _).trans ((ka_X12_isWord_120_145 h186 _).trans ((ka_X12_isSign_120_145 h169 _).trans rfl))))).trans k166_9005_0) ((tav_of ((kp_X12_isWord_120_120_5 h196).trans ((kp_X12_isWord_120_120_5 h186).trans ((kp_X12_isSign_120_120_5 h169).trans rfl))) ((kp_X12_isWord_120_120_3 h196).trans ((kp_X12_isWord_120_120_3 h186).trans ((kp_X12_isSign_120_120_3 h169).trans rfl)))).trans k166_9010_0) (by omega) (by omega)
                · have c199b : 1 ≤ r196 ∧ r196 ≤ 1 := by omega
                  replace c199 := hd_i c199
                  refine Tr.pick [0] (ls2 := [(0, (2, 120))]) rfl ?_
                  exact J202 _ hS ((kp_X12_isWord_120_120_3 h196).trans ((kp_X12_isWord_120_120_3 h186).trans ((kp_X12_isSign_120_120_3 h169).trans k166_120_3))) ((kp_X12_isWord_120_120_36 h196).trans ((kp_X12_isWord_120_120_36 h186).trans ((kp_X12_isSign_120_120_36 h169).trans k166_120_36))) ((kp_X12_isWord_120_120_4 h196).trans ((kp_X12_isWord_120_120_4 h186).trans ((kp_X12_isSign_120_120_4 h169).trans k166_120_4))) ((kp_X12_isWord_120_120_43 h196).trans ((kp_X12_isWord_120_120_43 h186).trans ((kp_X12_isSign_120_120_43 h169).trans k166_120_43))) ((kp_X12_isWord_120_120_44 h196).trans ((kp_X12_isWord_120_120_44 h186).trans ((kp_X12_isSign_120_120_44 h169).trans k166_120_44))) ((kp_X12_isWord_120_120_46 h196).trans ((kp_X12_isWord_120_120_46 h186).trans ((kp_X12_isSign_120_120_46 h169).trans k166_120_46))) ((kp_X12_isWord_120_120_5 h196).trans ((kp_X12_isWord_120_120_5 h186).trans ((kp_X12_isSign_120_120_5 h169).trans k166_120_5))) ((kp_X12_isWord_120_120_50 h196).trans ((kp_X12_isWord_120_120_50 h186).trans ((kp_X12_isSign_120_120_50 h169).trans k166_120_50))) ((kp_X12_isWord_120_120_6 h196).trans ((kp_X12_isWord_120_120_6 h186).trans ((kp_X12_isSign_120_120_6 h169).trans k166_120_6))) ((kp_X12_isWord_120_120_7 h196).trans ((kp_X12_isWord_120_120_7 h186).trans ((kp_X12_isSign_120_120_7 h169).trans k166_120_7))) ((kp_X12_isWord_120_120_8 h196).trans ((kp_X12_isWord_120_120_8 h186).trans ((kp_X12_isSign_120_120_8 h169).trans k166_120_8))) ((kp_X12_isWord_120_136_1 h196).trans ((kp_X12_isWord_120_136_1 h186).trans ((kp_X12_isSign_120_136_1 h169).trans k166_136_1))) ((ka_X12_isWord_120_145 h196 _).trans ((ka_X12_isWord_120_145 h186 _).trans ((ka_X12_isSign_120_145 h169 _).trans k166_145_g120_431n1))) ((ka_X12_isWord_120_147 h196 _).trans ((ka_X12_isWord_120_147 h186 _).trans ((ka_X12_isSign_120_147 h169 _).trans k166_147_g120_431n1))) ((nb2v_of (fun j => ((ka_X12_isWord_120_150 h196 _).trans ((ka_X12_isWord_120_150 h186 _).trans ((ka_X12_isSign_120_150 h169 _).trans rfl)))) ((kp_X12_isWord_120_120_46 h196).trans ((kp_X12_isWord_120_120_46 h186).trans ((kp_X12_isSign_120_120_46 h169).trans rfl)))).trans k166_9001_0) ((n4v_of (fun j => ((ka_X12_isWord_120_145 h196 _).trans ((ka_X12_isWord_120_145 h186 _).trans ((ka_X12_isSign_120_145 h169 _).trans rfl)))) ((kp_X12_isWord_120_120_43 h196).trans ((kp_X12_isWord_120_120_43 h186).trans ((kp_X12_isSign_120_120_43 h169).trans rfl)))).trans k166_9002_0) ((Dv1_of (fun j => ((ka_X12_isWord_120_143 h196 _).trans ((ka_X12_isWord_120_143 h186 _).trans ((ka_X12_isSign_120_143 h169 _).trans rfl)))) (fun j => ((ka_X12_isWord_120_140 h196 _).trans ((ka_X12_isWord_120_140 h186 _).trans ((ka_X12_isSign_120_140 h169 _).trans rfl)))) ((kp_X12_isWord_120_136_1 h196).trans ((kp_X12_isWord_120_136_1 h186).trans ((kp_X12_isSign_120_136_1 h169).trans rfl))) ((kp_X12_isWord_120_120_36 h196).trans ((kp_X12_isWord_120_120_36 h186).trans ((kp_X12_isSign_120_120_36 h169).trans rfl)))).trans k166_9004_0) ((fr0_of (fun j => ((ka_X12_isWord_120_145 h196 _).trans ((ka_X12_isWord_120_145 h186 _).trans ((ka_X12_isSign_120_145 h169 _).trans rfl))))).trans k166_9005_0) ((tav_of ((kp_X12_isWord_120_120_5 h196).trans ((kp_X12_isWord_120_120_5 h186).trans ((kp_X12_isSign_120_120_5 h169).trans rfl))) ((kp_X12_isWord_120_120_3 h196).trans ((kp_X12_isWord_120_120_3 h186).trans ((kp_X12_isSign_120_120_3 h169).trans rfl)))).trans k166_9010_0) (by exact (hd_o z196_0).elim (fun h1 => by omega) (fun h1 => by omega))
            · have c172b : 1 ≤ r169 ∧ r169 ≤ 1 := by omega
              replace c172 := hd_i c172
              refine Tr.aload_n (pc := 175) (i := 0) d_X12_operand_175 rfl rfl ?_
              refine Tr.iconst (pc := 176) d_X12_operand_176 (by decide) ?_
              refine Tr.callV (pc := 177) (as := [_]) d_X12_operand_177 s_12_490 ok_X12_opens rfl rfl (Nat.le_of_ble_eq_true rfl) (Nat.le_of_ble_eq_true rfl) (by decide) (ty_120 hS.1.1) ?_
              refine Tr.imp (Tr.deep (by decide) (ns_X12_opens_120 (G120_3 := g120_3) (G120_4 := g120_4) (G120_5 := g120_5) (G120_7 := g120_7) (G120_8 := g120_8) (G120_43 := g120_43) (G120_44 := g120_44) (G9002_0 := g9002_0) (G9005_0 := g9005_0) (G9010_0 := g9010_0) hS.1 (((kp_X12_isSign_120_120_3 h169).trans k166_120_3)) (((kp_X12_isSign_120_120_4 h169).trans k166_120_4)) (((kp_X12_isSign_120_120_5 h169).trans k166_120_5)) (((kp_X12_isSign_120_120_7 h169).trans k166_120_7)) (((kp_X12_isSign_120_120_8 h169).trans k166_120_8)) (((kp_X12_isSign_120_120_43 h169).trans k166_120_43)) (((kp_X12_isSign_120_120_44 h169).trans k166_120_44)) (((n4v_of (fun j => ((ka_X12_isSign_120_145 h169 _).trans rfl)) ((kp_X12_isSign_120_120_43 h169).trans rfl)).trans k166_9002_0)) (((fr0_of (fun j => ((ka_X12_isSign_120_145 h169 _).trans rfl))).trans k166_9005_0)) (((tav_of ((kp_X12_isSign_120_120_5 h169).trans rfl) ((kp_X12_isSign_120_120_3 h169).trans rfl)).trans k166_9010_0)) 2 (by omega) (by first | exact (hd_o t166_0) | exact (hd_o t166_0).elim (fun h1 => by omega) (fun h1 => by omega)) (by omega) (by first | exact (hd_o t166_2) | exact (hd_o t166_2).elim (fun h1 => by omega) (fun h1 => h1.elim (fun h1 => by omega) (fun h1 => by omega))) (by and_intros <;> omega) (by exact (hd_o z169_0).elim (fun h1 => by omega) (fun h1 => by omega)) (by omega) (by omega))) ?_
              rintro M177 _ ⟨h177, s177_120_3, s177_120_4, s177_120_5, s177_120_7, s177_120_8, s177_120_43, s177_120_44, s177_9002_0, s177_9005_0, s177_9010_0, es177_120_3, bs177_120_3, es177_120_4, bs177_120_4, es177_120_5, bs177_120_5, es177_120_7, bs177_120_7, es177_120_8, bs177_120_8, es177_120_43, bs177_120_43, es177_120_44, bs177_120_44, es177_9002_0, bs177_9002_0, es177_9005_0, bs177_9005_0, es177_9010_0, bs177_9010_0, rfl, z177_0, z177_1, z177_2, z177_3, z177_4, z177_5, z177_6, z177_7, z177_8, z177_9, z177_10⟩
              have hS := St.tr hS h177 (by decide) (by decide)
              refine Tr.sc [] rfl ?_
              refine Tr.iconst (pc := 180) d_X12_operand_180 (by decide) ?_
              have kr_120_3 : rd M177 120 3 = s177_120_3 := es177_120_3
              have kr_120_4 : rd M177 120 4 = s177_120_4 := es177_120_4
              have kr_120_5 : rd M177 120 5 = s177_120_5 := es177_120_5
              have kr_120_7 : rd M177 120 7 = s177_120_7 := es177_120_7
              have kr_120_8 : rd M177 120 8 = s177_120_8 := es177_120_8
              have kr_120_36 : rd M177 120 36 = g120_36 := ((kp_X12_opens_120_120_36 h177).trans ((kp_X12_isSign_120_120_36 h169).trans k166_120_36))
              have kr_120_43 : rd M177 120 43 = s177_120_43 := es177_120_43
              have kr_120_44 : rd M177 120 44 = s177_120_44 := es177_120_44
              have kr_120_46 : rd M177 120 46 = g120_46 := ((kp_X12_opens_120_120_46 h177).trans ((kp_X12_isSign_120_120_46 h169).trans k166_120_46))
              have kr_120_50 : rd M177 120 50 = g120_50 := ((kp_X12_opens_120_120_50 h177).trans ((kp_X12_isSign_120_120_50 h169).trans k166_120_50))
              have kr_136_1 : rd M177 136 1 = g136_1 := ((kp_X12_opens_120_136_1 h177).trans ((kp_X12_isSign_120_136_1 h169).trans k166_136_1))
              have kr_9001_0 : nb2v M177 = g9001_0 := ((nb2v_of (fun j => ((ka_X12_opens_120_150 h177 _).trans ((ka_X12_isSign_120_150 h169 _).trans rfl))) ((kp_X12_opens_120_120_46 h177).trans ((kp_X12_isSign_120_120_46 h169).trans rfl))).trans k166_9001_0)
              have kr_9002_0 : n4v M177 = s177_9002_0 := es177_9002_0
              have kr_9004_0 : Dv1 M177 = g9004_0 := ((Dv1_of (fun j => ((ka_X12_opens_120_143 h177 _).trans ((ka_X12_isSign_120_143 h169 _).trans rfl))) (fun j => ((ka_X12_opens_120_140 h177 _).trans ((ka_X12_isSign_120_140 h169 _).trans rfl))) ((kp_X12_opens_120_136_1 h177).trans ((kp_X12_isSign_120_136_1 h169).trans rfl)) ((kp_X12_opens_120_120_36 h177).trans ((kp_X12_isSign_120_120_36 h169).trans rfl))).trans k166_9004_0)
              have kr_9005_0 : fr0 M177 = s177_9005_0 := es177_9005_0
              have kr_9010_0 : tav M177 = s177_9010_0 := es177_9010_0
              exact Tr.zret (pc := 181) d_X12_operand_181 rfl (by omega) ⟨hS, _, rfl, by omega, by omega, (by first | exact (hd_o z177_0) | exact (hd_o z177_0).elim (fun h1 => by omega) (fun h1 => by omega)), (by omega), (by first | exact (hd_o z177_2) | exact (hd_o z177_2).elim (fun h1 => by omega) (fun h1 => h1.elim (fun h1 => by omega) (fun h1 => by omega))), (by and_intros <;> omega), (by first | exact (hd_o z177_4) | exact (hd_o z177_4).elim (fun h1 => by omega) (fun h1 => by omega)), (by first | exact (hd_o z177_5) | exact (hd_o z177_5).elim (fun h1 => by omega) (fun h1 => by omega)), (by exact (hd_o z177_7).elim (fun h1 => by omega) (fun h1 => (hd_o z169_0).elim (fun h2 => (hd_o t166_0).elim (fun h3 => by omega) (fun h3 => by omega)) (fun h2 => by omega))), (by omega), (by omega), (by omega), (by omega), (by omega), (by omega)⟩
          refine Tr.if_eq (pc := 121) (tgt := 166) d_X12_operand_121 rfl (fun c121 => ?_) (fun c121 => ?_)
          · refine Tr.pick [0] (ls2 := [(0, (2, 120))]) rfl ?_
            exact J166 _ hS k120_120_3 k120_120_36 k120_120_4 k120_120_43 k120_120_44 k120_120_46 k120_120_5 k120_120_50 k120_120_6 k120_120_7 k120_120_8 k120_136_1 k120_145_g120_431n1 k120_147_g120_431n1 k120_9001_0 k120_9002_0 k120_9004_0 k120_9005_0 k120_9010_0 (by first | exact (hd_o t120_0) | exact (hd_o t120_0).elim (fun h1 => by omega) (fun h1 => by omega)) (by omega) (by first | exact (hd_o t120_2) | exact (hd_o t120_2).elim (fun h1 => by omega) (fun h1 => h1.elim (fun h1 => by omega) (fun h1 => by omega))) (by and_intros <;> omega) (by first | exact (hd_o t120_4) | exact (hd_o t120_4).elim (fun h1 => by omega) (fun h1 => by omega))
          · have c121b : 1 ≤ q33_0 ∧ q33_0 ≤ 1 := by omega
            replace c121 := hd_i c121
            refine Tr.aload_n (pc := 124) (i := 0) d_X12_operand_124 rfl rfl ?_
            refine Tr.ldc2 (pc := 125) d_X12_operand_125 kl_12_445 (by decide) ?_
            refine Tr.callV (pc := 128) (as := [_]) d_X12_operand_128 s_12_484 ok_X12_isWord rfl rfl (Nat.le_of_ble_eq_true rfl) (Nat.le_of_ble_eq_true rfl) (by decide) (ty_120 hS.1.1) ?_
            refine Tr.imp (Tr.deep (by decide) (ns_X12_isWord_120 (G120_3 := g120_3) (G120_7 := g120_7) hS.1.wk (k120_120_3) (k120_120_7) 1751477348 (by omega))) ?_
            rintro M128 _ ⟨h128, r128, rfl, lr128, ur128, z128_0⟩
            have h128 := St.rn h128 (Pm1.of hS.1.2.2.2.2 (fun _ => (ka_X12_isWord_120_131 h128 _)) (fun _ => (ka_X12_isWord_120_137 h128 _)) (fun _ => (ka_X12_isWord_120_138 h128 _)) (fun _ => (ka_X12_isWord_120_139 h128 _)) (fun _ => (ka_X12_isWord_120_140 h128 _)) (fun _ => (ka_X12_isWord_120_141 h128 _)) (fun _ => (ka_X12_isWord_120_142 h128 _)) (fun _ => (ka_X12_isWord_120_143 h128 _)) (fun _ => (ka_X12_isWord_120_151 h128 _)) (fun _ => (ka_X12_isWord_120_152 h128 _)) (kp_X12_isWord_120_126_0 h128) (kp_X12_isWord_120_126_1 h128) (kp_X12_isWord_120_136_0 h128) (kp_X12_isWord_120_136_1 h128) (kp_X12_isWord_120_123_0 h128) (kp_X12_isWord_120_123_1 h128) (kp_X12_isWord_120_124_0 h128) (kp_X12_isWord_120_124_1 h128) (kp_X12_isWord_120_120_8 h128) (kp_X12_isWord_120_120_36 h128) (kp_X12_isWord_120_120_50 h128))
            have hS := St.tr hS h128 (by decide) (by decide)
            refine Tr.sc [(0, r128)] rfl ?_
            refine Tr.if_eq (pc := 131) (tgt := 166) d_X12_operand_131 rfl (fun c131 => ?_) (fun c131 => ?_)
            · refine Tr.pick [0] (ls2 := [(0, (2, 120))]) rfl ?_
              exact J166 _ hS ((kp_X12_isWord_120_120_3 h128).trans k120_120_3) ((kp_X12_isWord_120_120_36 h128).trans k120_120_36) ((kp_X12_isWord_120_120_4 h128).trans k120_120_4) ((kp_X12_isWord_120_120_43 h128).trans k120_120_43) ((kp_X12_isWord_120_120_44 h128).trans k120_120_44) ((kp_X12_isWord_120_120_46 h128).trans k120_120_46) ((kp_X12_isWord_120_120_5 h128).trans k120_120_5) ((kp_X12_isWord_120_120_50 h128).trans k120_120_50) ((kp_X12_isWord_120_120_6 h128).trans k120_120_6) ((kp_X12_isWord_120_120_7 h128).trans k120_120_7) ((kp_X12_isWord_120_120_8 h128).trans k120_120_8) ((kp_X12_isWord_120_136_1 h128).trans k120_136_1) ((ka_X12_isWord_120_145 h128 _).trans k120_145_g120_431n1) ((ka_X12_isWord_120_147 h128 _).trans k120_147_g120_431n1) ((nb2v_of (fun j => ((ka_X12_isWord_120_150 h128 _).trans rfl)) ((kp_X12_isWord_120_120_46 h128).trans rfl)).trans k120_9001_0) ((n4v_of (fun j => ((ka_X12_isWord_120_145 h128 _).trans rfl)) ((kp_X12_isWord_120_120_43 h128).trans rfl)).trans k120_9002_0) ((Dv1_of (fun j => ((ka_X12_isWord_120_143 h128 _).trans rfl)) (fun j => ((ka_X12_isWord_120_140 h128 _).trans rfl)) ((kp_X12_isWord_120_136_1 h128).trans rfl) ((kp_X12_isWord_120_120_36 h128).trans rfl)).trans k120_9004_0) ((fr0_of (fun j => ((ka_X12_isWord_120_145 h128 _).trans rfl))).trans k120_9005_0) ((tav_of ((kp_X12_isWord_120_120_5 h128).trans rfl) ((kp_X12_isWord_120_120_3 h128).trans rfl)).trans k120_9010_0) (by first | exact (hd_o t120_0) | exact (hd_o t120_0).elim (fun h1 => by omega) (fun h1 => by omega)) (by omega) (by first | exact (hd_o t120_2) | exact (hd_o t120_2).elim (fun h1 => by omega) (fun h1 => h1.elim (fun h1 => by omega) (fun h1 => by omega))) (by and_intros <;> omega) (by first | exact (hd_o t120_4) | exact (hd_o t120_4).elim (fun h1 => by omega) (fun h1 => by omega))
            · have c131b : 1 ≤ r128 ∧ r128 ≤ 1 := by omega
              replace c131 := hd_i c131
              refine Tr.aload_n (pc := 134) (i := 0) d_X12_operand_134 rfl rfl ?_
              refine Tr.callV (pc := 135) (as := []) d_X12_operand_135 s_12_396 ok_X12_next rfl rfl (Nat.le_of_ble_eq_true rfl) (Nat.le_of_ble_eq_true rfl) (by decide) (ty_120 hS.1.1) ?_
              refine Tr.imp (Tr.deep (by decide) (ns_X12_next_120 (G120_3 := g120_3) (G120_5 := g120_5) (G120_8 := g120_8) (G9010_0 := g9010_0) hS.1 (((kp_X12_isWord_120_120_3 h128).trans k120_120_3)) (((kp_X12_isWord_120_120_5 h128).trans k120_120_5)) (((kp_X12_isWord_120_120_8 h128).trans k120_120_8)) (((tav_of ((kp_X12_isWord_120_120_5 h128).trans rfl) ((kp_X12_isWord_120_120_3 h128).trans rfl)).trans k120_9010_0)))) ?_
              rintro M135 _ ⟨h135, s135_120_3, s135_120_4, s135_120_5, s135_120_7, s135_120_8, s135_9010_0, es135_120_3, bs135_120_3, es135_120_4, bs135_120_4, es135_120_5, bs135_120_5, es135_120_7, bs135_120_7, es135_120_8, bs135_120_8, es135_9010_0, bs135_9010_0, rfl, z135_0, z135_1, z135_2, z135_3, z135_4, z135_5, z135_6⟩
              have hS := St.tr hS h135 (by decide) (by decide)
              refine Tr.sc [] rfl ?_
              refine Tr.aload_n (pc := 138) (i := 0) d_X12_operand_138 rfl rfl ?_
              refine Tr.iconst (pc := 139) d_X12_operand_139 (by decide) ?_
              refine Tr.callV (pc := 140) (as := [_]) d_X12_operand_140 s_12_493 ok_X12_asked rfl rfl (Nat.le_of_ble_eq_true rfl) (Nat.le_of_ble_eq_true rfl) (by decide) (ty_120 hS.1.1) ?_
              refine Tr.imp (Tr.deep (by decide) (ns_X12_asked_120 (G120_3 := s135_120_3) (G120_4 := s135_120_4) (G120_5 := s135_120_5) (G120_7 := s135_120_7) (G120_8 := s135_120_8) (G9010_0 := s135_9010_0) hS.1 (es135_120_3) (es135_120_4) (es135_120_5) (es135_120_7) (es135_120_8) (es135_9010_0) ((kp_X12_operand_120_120_37 hS).trans en_120_37) 0 (by omega) (by first | exact (hd_o z135_0) | exact (hd_o z135_0).elim (fun h1 => by omega) (fun h1 => by omega)) (by omega) (by first | exact (hd_o z135_2) | exact (hd_o z135_2).elim (fun h1 => by omega) (fun h1 => h1.elim (fun h1 => by omega) (fun h1 => by omega))))) ?_
              rintro M140 _ ⟨h140, s140_120_3, s140_120_4, s140_120_5, s140_120_7, s140_120_8, s140_9010_0, es140_120_3, bs140_120_3, es140_120_4, bs140_120_4, es140_120_5, bs140_120_5, es140_120_7, bs140_120_7, es140_120_8, bs140_120_8, es140_9010_0, bs140_9010_0, r140, rfl, lr140, ur140, z140_0, z140_1, z140_2, z140_3, z140_4, z140_5, z140_6⟩
              have hS := St.tr hS h140 (by decide) (by decide)
              refine Tr.sc [(0, r140)] rfl ?_
              refine Tr.istore_n (pc := 143) (i := 3) (ls2 := [(3, (0, r140)), (0, (2, 120)), (1, (0, (g120_43 - 1))), (2, (0, q33_0))]) d_X12_operand_143 rfl (by decide) rfl ?_
              refine Tr.aload_n (pc := 144) (i := 0) d_X12_operand_144 rfl rfl ?_
              refine Tr.getf (pc := 145) d_X12_operand_145 f_12_36 (by decide) (by decide) (ty_120 hS.1.1) ?_
              refine Tr.tp s140_120_8 es140_120_8 ?_
              have J157 : ∀ (M : Mem) (u157_120_6 u157_120_36 u157_9004_0 : Int), St Pm1 ws_X12_operand_120 as_X12_operand_120 M0 M → ((-2147483648) ≤ u157_120_6 ∧ u157_120_6 ≤ 2147483647) → (0 ≤ u157_120_36 ∧ u157_120_36 ≤ 900) → ((-1000) ≤ u157_9004_0 ∧ u157_9004_0 ≤ 1000) → rd M 120 3 = s140_120_3 → rd M 120 36 = u157_120_36 → rd M 120 4 = s140_120_4 → rd M 120 43 = g120_43 → rd M 120 44 = g120_44 → rd M 120 46 = g120_46 → rd M 120 5 = s140_120_5 → rd M 120 50 = g120_50 → rd M 120 6 = u157_120_6 → rd M 120 7 = s140_120_7 → rd M 120 8 = s140_120_8 → rd M 136 1 = g136_1 → rd M 145 (g120_43 - 1) = r12 → rd M 147 (g120_43 - 1) = 0 → nb2v M = g9001_0 → n4v M = g9002_0 → Dv1 M = u157_9004_0 → fr0 M = g9005_0 → tav M = s140_9010_0 → (1 ≤ s140_120_8 ∨ g9001_0 + g9002_0 + 1 ≤ u157_9004_0) → (u157_120_36 + g120_46 + g120_44 ≤ s140_120_4) → (2 * g120_46 + 1 ≤ s140_120_4) → Tr l K 3 mX12_operand 157 [(0, (2, 120)), (1, (0, (g120_43 - 1)))] [] M (q_X12_operand_120 M0) := by
                intro M u157_120_6 u157_120_36 u157_9004_0 hS bu157_120_6 bu157_120_36 bu157_9004_0 k157_120_3 k157_120_36 k157_120_4 k157_120_43 k157_120_44 k157_120_46 k157_120_5 k157_120_50 k157_120_6 k157_120_7 k157_120_8 k157_136_1 k157_145_g120_431n1 k157_147_g120_431n1 k157_9001_0 k157_9002_0 k157_9004_0 k157_9005_0 k157_9010_0 t157_0 t157_1 t157_2
                clear k120_120_3 k120_120_36 k120_120_4 k120_120_43 k120_120_44 k120_120_46 k120_120_5 k120_120_50 k120_120_6 k120_120_7 k120_120_8 k120_136_1 k120_145_g120_431n1 k120_147_g120_431n1 k120_9001_0 k120_9002_0 k120_9004_0 k120_9005_0 k120_9010_0 es135_120_3 es135_120_4 es135_120_5 es135_120_7 es135_120_8 es135_9010_0 es140_120_3 es140_120_4 es140_120_5 es140_120_7 es140_120_8 es140_9010_0
                replace t157_0 := hd_i t157_0
                refine Tr.aload_n (pc := 157) (i := 0) d_X12_operand_157 rfl rfl ?_
                refine Tr.getf (pc := 158) d_X12_operand_158 f_12_130 (by decide) (by decide) (ty_120 hS.1.1) ?_
                refine Tr.tp 146 (fx_120_39 hS.1.1) ?_
                refine Tr.iload_n (pc := 161) (i := 1) d_X12_operand_161 rfl rfl ?_
                refine Tr.iconst (pc := 162) d_X12_operand_162 (by decide) ?_
                refine Tr.iastS (pc := 163) (P := St Pm1 ws_X12_operand_120 as_X12_operand_120 M0) d_X12_operand_163 (ty_146 hS.1.1) (by omega) (by omega) (sa_146 hS (by decide) (by omega) (Pm1.of hS.1.2.2.2.2 (fun _ => rd_wb _ rfl) (fun _ => rd_wb _ rfl) (fun _ => rd_wb _ rfl) (fun _ => rd_wb _ rfl) (fun _ => rd_wb _ rfl) (fun _ => rd_wb _ rfl) (fun _ => rd_wb _ rfl) (fun _ => rd_wb _ rfl) (fun _ => rd_wb _ rfl) (fun _ => rd_wb _ rfl) (rd_wb _ rfl) (rd_wb _ rfl) (rd_wb _ rfl) (rd_wb _ rfl) (rd_wb _ rfl) (rd_wb _ rfl) (rd_wb _ rfl) (rd_wb _ rfl) (rd_wb _ rfl) (rd_wb _ rfl) (rd_wb _ rfl))) (fun M163 hS w163 => ?_)
                refine Tr.iconst (pc := 164) d_X12_operand_164 (by decide) ?_
                have kr_120_3 : rd M163 120 3 = s140_120_3 := ((Wr.b w163 rfl).trans k157_120_3)
                have kr_120_4 : rd M163 120 4 = s140_120_4 := ((Wr.b w163 rfl).trans k157_120_4)
                have kr_120_5 : rd M163 120 5 = s140_120_5 := ((Wr.b w163 rfl).trans k157_120_5)
                have kr_120_7 : rd M163 120 7 = s140_120_7 := ((Wr.b w163 rfl).trans k157_120_7)
                have kr_120_8 : rd M163 120 8 = s140_120_8 := ((Wr.b w163 rfl).trans k157_120_8)
                have kr_120_36 : rd M163 120 36 = u157_120_36 := ((Wr.b w163 rfl).trans k157_120_36)
                have kr_120_43 : rd M163 120 43 = g120_43 := ((Wr.b w163 rfl).trans k157_120_43)
                have kr_120_44 : rd M163 120 44 = g120_44 := ((Wr.b w163 rfl).trans k157_120_44)
                have kr_120_46 : rd M163 120 46 = g120_46 := ((Wr.b w163 rfl).trans k157_120_46)
                have kr_120_50 : rd M163 120 50 = g120_50 := ((Wr.b w163 rfl).trans k157_120_50)
                have kr_136_1 : rd M163 136 1 = g136_1 := ((Wr.b w163 rfl).trans k157_136_1)
                have kr_9001_0 : nb2v M163 = g9001_0 := ((nb2v_of (fun j => ((Wr.b w163 rfl).trans rfl)) ((Wr.b w163 rfl).trans rfl)).trans k157_9001_0)
                have kr_9002_0 : n4v M163 = g9002_0 := ((n4v_of (fun j => ((Wr.b w163 rfl).trans rfl)) ((Wr.b w163 rfl).trans rfl)).trans k157_9002_0)
                have kr_9004_0 : Dv1 M163 = u157_9004_0 := ((Dv1_of (fun j => ((Wr.b w163 rfl).trans rfl)) (fun j => ((Wr.b w163 rfl).trans rfl)) ((Wr.b w163 rfl).trans rfl) ((Wr.b w163 rfl).trans rfl)).trans k157_9004_0)
                have kr_9005_0 : fr0 M163 = g9005_0 := ((fr0_of (fun j => ((Wr.b w163 rfl).trans rfl))).trans k157_9005_0)
                have kr_9010_0 : tav M163 = s140_9010_0 := ((tav_of ((Wr.b w163 rfl).trans rfl) ((Wr.b w163 rfl).trans rfl)).trans k157_9010_0)
                exact Tr.zret (pc := 165) d_X12_operand_165 rfl (by omega) ⟨hS, _, rfl, by omega, by omega, (by first | exact (hd_o z140_0) | exact (hd_o z140_0).elim (fun h1 => by omega) (fun h1 => by omega)), (by omega), (by first | exact (hd_o z140_2) | exact (hd_o z140_2).elim (fun h1 => by omega) (fun h1 => h1.elim (fun h1 => by omega) (fun h1 => by omega))), (by and_intros <;> omega), (by omega), (by exact (hd_o z140_5).elim (fun h1 => by omega) (fun h1 => by omega)), (by omega), (by omega), (by omega), (by omega), (by omega), (by omega), (by first | exact (hd_o t157_0) | exact (hd_o t157_0).elim (fun h1 => by omega) (fun h1 => by omega))⟩
              refine Tr.if_ne (pc := 148) (tgt := 157) d_X12_operand_148 rfl (fun c148 => ?_) (fun c148 => ?_)
              · have c148b : 1 ≤ s140_120_8 ∧ s140_120_8 ≤ 5 := by omega
                replace c148 := hd_i c148
                refine Tr.pick [1, 2] (ls2 := [(0, (2, 120)), (1, (0, (g120_43 - 1)))]) rfl ?_
                obtain ⟨w157p148_120_6, ew157p148_120_6⟩ : ∃ v, rd M140 120 6 = v := ⟨_, rfl⟩
                have bw157p148_120_6 : (-2147483648) ≤ w157p148_120_6 ∧ w157p148_120_6 ≤ 2147483647 := by rw [← ew157p148_120_6]; exact ir_120_6 hS.1.2.1
                exact J157 _ _ _ _ hS (by and_intros <;> omega) (by and_intros <;> omega) (by and_intros <;> omega) es140_120_3 ((kp_X12_asked_120_120_36 h140).trans ((kp_X12_next_120_120_36 h135).trans ((kp_X12_isWord_120_120_36 h128).trans k120_120_36))) es140_120_4 ((kp_X12_asked_120_120_43 h140).trans ((kp_X12_next_120_120_43 h135).trans ((kp_X12_isWord_120_120_43 h128).trans k120_120_43))) ((kp_X12_asked_120_120_44 h140).trans ((kp_X12_next_120_120_44 h135).trans ((kp_X12_isWord_120_120_44 h128).trans k120_120_44))) ((kp_X12_asked_120_120_46 h140).trans ((kp_X12_next_120_120_46 h135).trans ((kp_X12_isWord_120_120_46 h128).trans k120_120_46))) es140_120_5 ((kp_X12_asked_120_120_50 h140).trans ((kp_X12_next_120_120_50 h135).trans ((kp_X12_isWord_120_120_50 h128).trans k120_120_50))) ew157p148_120_6 es140_120_7 es140_120_8 ((kp_X12_asked_120_136_1 h140).trans ((kp_X12_next_120_136_1 h135).trans ((kp_X12_isWord_120_136_1 h128).trans k120_136_1))) ((ka_X12_asked_120_145 h140 _).trans ((ka_X12_next_120_145 h135 _).trans ((ka_X12_isWord_120_145 h128 _).trans k120_145_g120_431n1))) ((ka_X12_asked_120_147 h140 _).trans ((ka_X12_next_120_147 h135 _).trans ((ka_X12_isWord_120_147 h128 _).trans k120_147_g120_431n1))) ((nb2v_of (fun j => ((ka_X12_asked_120_150 h140 _).trans ((ka_X12_next_120_150 h135 _).trans ((ka_X12_isWord_120_150 h128 _).trans rfl)))) ((kp_X12_asked_120_120_46 h140).trans ((kp_X12_next_120_120_46 h135).trans ((kp_X12_isWord_120_120_46 h128).trans rfl)))).trans k120_9001_0) ((n4v_of (fun j => ((ka_X12_asked_120_145 h140 _).trans ((ka_X12_next_120_145 h135 _).trans ((ka_X12_isWord_120_145 h128 _).trans rfl)))) ((kp_X12_asked_120_120_43 h140).trans ((kp_X12_next_120_120_43 h135).trans ((kp_X12_isWord_120_120_43 h128).trans rfl)))).trans k120_9002_0) ((Dv1_of (fun j => ((ka_X12_asked_120_143 h140 _).trans ((ka_X12_next_120_143 h135 _).trans ((ka_X12_isWord_120_143 h128 _).trans rfl)))) (fun j => ((ka_X12_asked_120_140 h140 _).trans ((ka_X12_next_120_140 h135 _).trans ((ka_X12_isWord_120_140 h128 _).trans rfl)))) ((kp_X12_asked_120_136_1 h140).trans ((kp_X12_next_120_136_1 h135).trans ((kp_X12_isWord_120_136_1 h128).trans rfl))) ((kp_X12_asked_120_120_36 h140).trans ((kp_X12_next_120_120_36 h135).trans ((kp_X12_isWord_120_120_36 h128).trans rfl)))).trans k120_9004_0) ((fr0_of (fun j => ((ka_X12_asked_120_145 h140 _).trans ((ka_X12_next_120_145 h135 _).trans ((ka_X12_isWord_120_145 h128 _).trans rfl))))).trans k120_9005_0) es140_9010_0 (by omega) (by omega) (by exact (hd_o z128_0).elim (fun h1 => (hd_o t120_0).elim (fun h2 => by omega) (fun h2 => by omega)) (fun h1 => by omega))
              · refine Tr.aload_n (pc := 151) (i := 0) d_X12_operand_151 rfl rfl ?_
                refine Tr.iconst (pc := 152) d_X12_operand_152 (by decide) ?_
                refine Tr.iload_n (pc := 153) (i := 3) d_X12_operand_153 rfl rfl ?_
                refine Tr.callV (pc := 154) (as := [_, _]) d_X12_operand_154 s_12_475 ok_X12_add rfl rfl (Nat.le_of_ble_eq_true rfl) (Nat.le_of_ble_eq_true rfl) (by decide) (ty_120 hS.1.1) ?_
                refine Tr.imp (Tr.deep (by decide) (ns_X12_add_120_w1 (G120_36 := g120_36) (G136_1 := g136_1) (G9004_0 := g9004_0) hS.1 (((kp_X12_asked_120_120_36 h140).trans ((kp_X12_next_120_120_36 h135).trans ((kp_X12_isWord_120_120_36 h128).trans k120_120_36)))) (((kp_X12_asked_120_136_1 h140).trans ((kp_X12_next_120_136_1 h135).trans ((kp_X12_isWord_120_136_1 h128).trans k120_136_1)))) (((Dv1_of (fun j => ((ka_X12_asked_120_143 h140 _).trans ((ka_X12_next_120_143 h135 _).trans ((ka_X12_isWord_120_143 h128 _).trans rfl)))) (fun j => ((ka_X12_asked_120_140 h140 _).trans ((ka_X12_next_120_140 h135 _).trans ((ka_X12_isWord_120_140 h128 _).trans rfl)))) ((kp_X12_asked_120_136_1 h140).trans ((kp_X12_next_120_136_1 h135).trans ((kp_X12_isWord_120_136_1 h128).trans rfl))) ((kp_X12_asked_120_120_36 h140).trans ((kp_X12_next_120_120_36 h135).trans ((kp_X12_isWord_120_120_36 h128).trans rfl)))).trans k120_9004_0)) ((kp_X12_operand_120_120_37 hS).trans en_120_37) 4 (by omega) r140 (by and_intros <;> omega) (by exact (hd_o z140_6).elim (fun h1 => by omega) (fun h1 => by omega)) (by exact (hd_o z128_0).elim (fun h1 => (hd_o t120_0).elim (fun h2 => by omega) (fun h2 => by omega)) (fun h1 => by omega)) (by omega) (by omega) (by omega))) ?_
                rintro M154 _ ⟨h154, s154_120_36, s154_9004_0, es154_120_36, bs154_120_36, es154_9004_0, bs154_9004_0, rfl, z154_0, z154_1⟩
                have hS := St.tr hS h154 (by decide) (by decide)
                refine Tr.sc [] rfl ?_
                refine Tr.pick [1, 2] (ls2 := [(0, (2, 120)), (1, (0, (g120_43 - 1)))]) rfl ?_
                obtain ⟨w157p154_120_6, ew157p154_120_6⟩ : ∃ v, rd M154 120 6 = v := ⟨_, rfl⟩
                have bw157p154_120_6 : (-2147483648) ≤ w157p154_120_6 ∧ w157p154_120_6 ≤ 2147483647 := by rw [← ew157p154_120_6]; exact ir_120_6 hS.1.2.1
                exact J157 _ _ _ _ hS (by and_intros <;> omega) (by and_intros <;> omega) (by and_intros <;> omega) ((kp_X12_add_120_w1_120_3 h154).trans es140_120_3) es154_120_36 ((kp_X12_add_120_w1_120_4 h154).trans es140_120_4) ((kp_X12_add_120_w1_120_43 h154).trans ((kp_X12_asked_120_120_43 h140).trans ((kp_X12_next_120_120_43 h135).trans ((kp_X12_isWord_120_120_43 h128).trans k120_120_43)))) ((kp_X12_add_120_w1_120_44 h154).trans ((kp_X12_asked_120_120_44 h140).trans ((kp_X12_next_120_120_44 h135).trans ((kp_X12_isWord_120_120_44 h128).trans k120_120_44)))) ((kp_X12_add_120_w1_120_46 h154).trans ((kp_X12_asked_120_120_46 h140).trans ((kp_X12_next_120_120_46 h135).trans ((kp_X12_isWord_120_120_46 h128).trans k120_120_46)))) ((kp_X12_add_120_w1_120_5 h154).trans es140_120_5) ((kp_X12_add_120_w1_120_50 h154).trans ((kp_X12_asked_120_120_50 h140).trans ((kp_X12_next_120_120_50 h135).trans ((kp_X12_isWord_120_120_50 h128).trans k120_120_50)))) ew157p154_120_6 ((kp_X12_add_120_w1_120_7 h154).trans es140_120_7) ((kp_X12_add_120_w1_120_8 h154).trans es140_120_8) ((kp_X12_add_120_w1_136_1 h154).trans ((kp_X12_asked_120_136_1 h140).trans ((kp_X12_next_120_136_1 h135).trans ((kp_X12_isWord_120_136_1 h128).trans k120_136_1)))) ((ka_X12_add_120_w1_145 h154 _).trans ((ka_X12_asked_120_145 h140 _).trans ((ka_X12_next_120_145 h135 _).trans ((ka_X12_isWord_120_145 h128 _).trans k120_145_g120_431n1)))) ((ka_X12_add_120_w1_147 h154 _).trans ((ka_X12_asked_120_147 h140 _).trans ((ka_X12_next_120_147 h135 _).trans ((ka_X12_isWord_120_147 h128 _).trans k120_147_g120_431n1)))) ((nb2v_of (fun j => ((ka_X12_add_120_w1_150 h154 _).trans ((ka_X12_asked_120_150 h140 _).trans ((ka_X12_next_120_150 h135 _).trans ((ka_X12_isWord_120_150 h128 _).trans rfl))))) ((kp_X12_add_120_w1_120_46 h154).trans ((kp_X12_asked_120_120_46 h140).trans ((kp_X12_next_120_120_46 h135).trans ((kp_X12_isWord_120_120_46 h128).trans rfl))))).trans k120_9001_0) ((n4v_of (fun j => ((ka_X12_add_120_w1_145 h154 _).trans ((ka_X12_asked_120_145 h140 _).trans ((ka_X12_next_120_145 h135 _).trans ((ka_X12_isWord_120_145 h128 _).trans rfl))))) ((kp_X12_add_120_w1_120_43 h154).trans ((kp_X12_asked_120_120_43 h140).trans ((kp_X12_next_120_120_43 h135).trans ((kp_X12_isWord_120_120_43 h128).trans rfl))))).trans k120_9002_0) es154_9004_0 ((fr0_of (fun j => ((ka_X12_add_120_w1_145 h154 _).trans ((ka_X12_asked_120_145 h140 _).trans ((ka_X12_next_120_145 h135 _).trans ((ka_X12_isWord_120_145 h128 _).trans rfl)))))).trans k120_9005_0) ((tav_of ((kp_X12_add_120_w1_120_5 h154).trans rfl) ((kp_X12_add_120_w1_120_3 h154).trans rfl)).trans es140_9010_0) (by exact (hd_o z154_1).elim (fun h1 => by omega) (fun h1 => h1.elim (fun h1 => by omega) (fun h1 => by omega))) (by exact (hd_o z128_0).elim (fun h1 => (hd_o t120_0).elim (fun h2 => by omega) (fun h2 => by omega)) (fun h1 => by omega)) (by exact (hd_o z128_0).elim (fun h1 => (hd_o t120_0).elim (fun h2 => by omega) (fun h2 => by omega)) (fun h1 => by omega))
        refine Tr.if_eq (pc := 88) (tgt := 120) d_X12_operand_88 rfl (fun c88 => ?_) (fun c88 => ?_)
        · refine Tr.pick [0, 1, 2] (ls2 := [(0, (2, 120)), (1, (0, (g120_43 - 1))), (2, (0, q33_0))]) rfl ?_
          exact J120 _ hS k87_120_3 k87_120_36 k87_120_4 k87_120_43 k87_120_44 k87_120_46 k87_120_5 k87_120_50 k87_120_6 k87_120_7 k87_120_8 k87_136_1 k87_145_g120_431n1 k87_147_g120_431n1 k87_9001_0 k87_9002_0 k87_9004_0 k87_9005_0 k87_9010_0 (by first | exact (hd_o t87_0) | exact (hd_o t87_0).elim (fun h1 => by omega) (fun h1 => by omega)) (by omega) (by first | exact (hd_o t87_2) | exact (hd_o t87_2).elim (fun h1 => by omega) (fun h1 => h1.elim (fun h1 => by omega) (fun h1 => by omega))) (by and_intros <;> omega) (by first | exact (hd_o t87_4) | exact (hd_o t87_4).elim (fun h1 => by omega) (fun h1 => by omega))
        · have c88b : 1 ≤ q33_0 ∧ q33_0 ≤ 1 := by omega
          replace c88 := hd_i c88
          refine Tr.aload_n (pc := 91) (i := 0) d_X12_operand_91 rfl rfl ?_
          refine Tr.ldc2 (pc := 92) d_X12_operand_92 kl_12_443 (by decide) ?_
          refine Tr.callV (pc := 95) (as := [_]) d_X12_operand_95 s_12_484 ok_X12_isWord rfl rfl (Nat.le_of_ble_eq_true rfl) (Nat.le_of_ble_eq_true rfl) (by decide) (ty_120 hS.1.1) ?_
          refine Tr.imp (Tr.deep (by decide) (ns_X12_isWord_120 (G120_3 := g120_3) (G120_7 := g120_7) hS.1.wk (k87_120_3) (k87_120_7) 6384748 (by omega))) ?_
          rintro M95 _ ⟨h95, r95, rfl, lr95, ur95, z95_0⟩
          have h95 := St.rn h95 (Pm1.of hS.1.2.2.2.2 (fun _ => (ka_X12_isWord_120_131 h95 _)) (fun _ => (ka_X12_isWord_120_137 h95 _)) (fun _ => (ka_X12_isWord_120_138 h95 _)) (fun _ => (ka_X12_isWord_120_139 h95 _)) (fun _ => (ka_X12_isWord_120_140 h95 _)) (fun _ => (ka_X12_isWord_120_141 h95 _)) (fun _ => (ka_X12_isWord_120_142 h95 _)) (fun _ => (ka_X12_isWord_120_143 h95 _)) (fun _ => (ka_X12_isWord_120_151 h95 _)) (fun _ => (ka_X12_isWord_120_152 h95 _)) (kp_X12_isWord_120_126_0 h95) (kp_X12_isWord_120_126_1 h95) (kp_X12_isWord_120_136_0 h95) (kp_X12_isWord_120_136_1 h95) (kp_X12_isWord_120_123_0 h95) (kp_X12_isWord_120_123_1 h95) (kp_X12_isWord_120_124_0 h95) (kp_X12_isWord_120_124_1 h95) (kp_X12_isWord_120_120_8 h95) (kp_X12_isWord_120_120_36 h95) (kp_X12_isWord_120_120_50 h95))
          have hS := St.tr hS h95 (by decide) (by decide)
          refine Tr.sc [(0, r95)] rfl ?_
          refine Tr.if_eq (pc := 98) (tgt := 120) d_X12_operand_98 rfl (fun c98 => ?_) (fun c98 => ?_)
          · refine Tr.pick [0, 1, 2] (ls2 := [(0, (2, 120)), (1, (0, (g120_43 - 1))), (2, (0, q33_0))]) rfl ?_
            exact J120 _ hS ((kp_X12_isWord_120_120_3 h95).trans k87_120_3) ((kp_X12_isWord_120_120_36 h95).trans k87_120_36) ((kp_X12_isWord_120_120_4 h95).trans k87_120_4) ((kp_X12_isWord_120_120_43 h95).trans k87_120_43) ((kp_X12_isWord_120_120_44 h95).trans k87_120_44) ((kp_X12_isWord_120_120_46 h95).trans k87_120_46) ((kp_X12_isWord_120_120_5 h95).trans k87_120_5) ((kp_X12_isWord_120_120_50 h95).trans k87_120_50) ((kp_X12_isWord_120_120_6 h95).trans k87_120_6) ((kp_X12_isWord_120_120_7 h95).trans k87_120_7) ((kp_X12_isWord_120_120_8 h95).trans k87_120_8) ((kp_X12_isWord_120_136_1 h95).trans k87_136_1) ((ka_X12_isWord_120_145 h95 _).trans k87_145_g120_431n1) ((ka_X12_isWord_120_147 h95 _).trans k87_147_g120_431n1) ((nb2v_of (fun j => ((ka_X12_isWord_120_150 h95 _).trans rfl)) ((kp_X12_isWord_120_120_46 h95).trans rfl)).trans k87_9001_0) ((n4v_of (fun j => ((ka_X12_isWord_120_145 h95 _).trans rfl)) ((kp_X12_isWord_120_120_43 h95).trans rfl)).trans k87_9002_0) ((Dv1_of (fun j => ((ka_X12_isWord_120_143 h95 _).trans rfl)) (fun j => ((ka_X12_isWord_120_140 h95 _).trans rfl)) ((kp_X12_isWord_120_136_1 h95).trans rfl) ((kp_X12_isWord_120_120_36 h95).trans rfl)).trans k87_9004_0) ((fr0_of (fun j => ((ka_X12_isWord_120_145 h95 _).trans rfl))).trans k87_9005_0) ((tav_of ((kp_X12_isWord_120_120_5 h95).trans rfl) ((kp_X12_isWord_120_120_3 h95).trans rfl)).trans k87_9010_0) (by first | exact (hd_o t87_0) | exact (hd_o t87_0).elim (fun h1 => by omega) (fun h1 => by omega)) (by omega) (by first | exact (hd_o t87_2) | exact (hd_o t87_2).elim (fun h1 => by omega) (fun h1 => h1.elim (fun h1 => by omega) (fun h1 => by omega))) (by and_intros <;> omega) (by first | exact (hd_o t87_4) | exact (hd_o t87_4).elim (fun h1 => by omega) (fun h1 => by omega))
          · have c98b : 1 ≤ r95 ∧ r95 ≤ 1 := by omega
            replace c98 := hd_i c98
            refine Tr.aload_n (pc := 101) (i := 0) d_X12_operand_101 rfl rfl ?_
            refine Tr.iconst (pc := 102) d_X12_operand_102 (by decide) ?_
            refine Tr.iconst (pc := 103) d_X12_operand_103 (by decide) ?_
            refine Tr.callV (pc := 104) (as := [_, _]) d_X12_operand_104 s_12_475 ok_X12_add rfl rfl (Nat.le_of_ble_eq_true rfl) (Nat.le_of_ble_eq_true rfl) (by decide) (ty_120 hS.1.1) ?_
            refine Tr.imp (Tr.deep (by decide) (ns_X12_add_120 (G120_36 := g120_36) (G136_1 := g136_1) (G9004_0 := g9004_0) hS.1 (((kp_X12_isWord_120_120_36 h95).trans k87_120_36)) (((kp_X12_isWord_120_136_1 h95).trans k87_136_1)) (((Dv1_of (fun j => ((ka_X12_isWord_120_143 h95 _).trans rfl)) (fun j => ((ka_X12_isWord_120_140 h95 _).trans rfl)) ((kp_X12_isWord_120_136_1 h95).trans rfl) ((kp_X12_isWord_120_120_36 h95).trans rfl)).trans k87_9004_0)) ((kp_X12_operand_120_120_37 hS).trans en_120_37) 5 (by omega) 0 (by omega) (by omega) (by exact (hd_o z95_0).elim (fun h1 => (hd_o t87_0).elim (fun h2 => by omega) (fun h2 => by omega)) (fun h1 => by omega)) (by omega) (by omega) (by omega))) ?_
            rintro M104 _ ⟨h104, s104_120_36, s104_9004_0, es104_120_36, bs104_120_36, es104_9004_0, bs104_9004_0, rfl, z104_0, z104_1⟩
            have hS := St.tr hS h104 (by decide) (by decide)
            refine Tr.sc [] rfl ?_
            refine Tr.aload_n (pc := 107) (i := 0) d_X12_operand_107 rfl rfl ?_
            refine Tr.getf (pc := 108) d_X12_operand_108 f_12_130 (by decide) (by decide) (ty_120 hS.1.1) ?_
            refine Tr.tp 146 (fx_120_39 hS.1.1) ?_
            refine Tr.iload_n (pc := 111) (i := 1) d_X12_operand_111 rfl rfl ?_
            refine Tr.iconst (pc := 112) d_X12_operand_112 (by decide) ?_
            refine Tr.iastS (pc := 113) (P := St Pm1 ws_X12_operand_120 as_X12_operand_120 M0) d_X12_operand_113 (ty_146 hS.1.1) (by omega) (by omega) (sa_146 hS (by decide) (by omega) (Pm1.of hS.1.2.2.2.2 (fun _ => rd_wb _ rfl) (fun _ => rd_wb _ rfl) (fun _ => rd_wb _ rfl) (fun _ => rd_wb _ rfl) (fun _ => rd_wb _ rfl) (fun _ => rd_wb _ rfl) (fun _ => rd_wb _ rfl) (fun _ => rd_wb _ rfl) (fun _ => rd_wb _ rfl) (fun _ => rd_wb _ rfl) (rd_wb _ rfl) (rd_wb _ rfl) (rd_wb _ rfl) (rd_wb _ rfl) (rd_wb _ rfl) (rd_wb _ rfl) (rd_wb _ rfl) (rd_wb _ rfl) (rd_wb _ rfl) (rd_wb _ rfl) (rd_wb _ rfl))) (fun M113 hS w113 => ?_)
            refine Tr.aload_n (pc := 114) (i := 0) d_X12_operand_114 rfl rfl ?_
            refine Tr.callV (pc := 115) (as := []) d_X12_operand_115 s_12_396 ok_X12_next rfl rfl (Nat.le_of_ble_eq_true rfl) (Nat.le_of_ble_eq_true rfl) (by decide) (ty_120 hS.1.1) ?_
            refine Tr.imp (Tr.deep (by decide) (ns_X12_next_120 (G120_3 := g120_3) (G120_5 := g120_5) (G120_8 := g120_8) (G9010_0 := g9010_0) hS.1 (((Wr.b w113 rfl).trans ((kp_X12_add_120_120_3 h104).trans ((kp_X12_isWord_120_120_3 h95).trans k87_120_3)))) (((Wr.b w113 rfl).trans ((kp_X12_add_120_120_5 h104).trans ((kp_X12_isWord_120_120_5 h95).trans k87_120_5)))) (((Wr.b w113 rfl).trans ((kp_X12_add_120_120_8 h104).trans ((kp_X12_isWord_120_120_8 h95).trans k87_120_8)))) (((tav_of ((Wr.b w113 rfl).trans ((kp_X12_add_120_120_5 h104).trans ((kp_X12_isWord_120_120_5 h95).trans rfl))) ((Wr.b w113 rfl).trans ((kp_X12_add_120_120_3 h104).trans ((kp_X12_isWord_120_120_3 h95).trans rfl)))).trans k87_9010_0)))) ?_
            rintro M115 _ ⟨h115, s115_120_3, s115_120_4, s115_120_5, s115_120_7, s115_120_8, s115_9010_0, es115_120_3, bs115_120_3, es115_120_4, bs115_120_4, es115_120_5, bs115_120_5, es115_120_7, bs115_120_7, es115_120_8, bs115_120_8, es115_9010_0, bs115_9010_0, rfl, z115_0, z115_1, z115_2, z115_3, z115_4, z115_5, z115_6⟩
            have hS := St.tr hS h115 (by decide) (by decide)
            refine Tr.sc [] rfl ?_
            refine Tr.iconst (pc := 118) d_X12_operand_118 (by decide) ?_
            have kr_120_3 : rd M115 120 3 = s115_120_3 := es115_120_3
            have kr_120_4 : rd M115 120 4 = s115_120_4 := es115_120_4
            have kr_120_5 : rd M115 120 5 = s115_120_5 := es115_120_5
            have kr_120_7 : rd M115 120 7 = s115_120_7 := es115_120_7
            have kr_120_8 : rd M115 120 8 = s115_120_8 := es115_120_8
            have kr_120_36 : rd M115 120 36 = s104_120_36 := ((kp_X12_next_120_120_36 h115).trans ((Wr.b w113 rfl).trans es104_120_36))
            have kr_120_43 : rd M115 120 43 = g120_43 := ((kp_X12_next_120_120_43 h115).trans ((Wr.b w113 rfl).trans ((kp_X12_add_120_120_43 h104).trans ((kp_X12_isWord_120_120_43 h95).trans k87_120_43))))
            have kr_120_44 : rd M115 120 44 = g120_44 := ((kp_X12_next_120_120_44 h115).trans ((Wr.b w113 rfl).trans ((kp_X12_add_120_120_44 h104).trans ((kp_X12_isWord_120_120_44 h95).trans k87_120_44))))
            have kr_120_46 : rd M115 120 46 = g120_46 := ((kp_X12_next_120_120_46 h115).trans ((Wr.b w113 rfl).trans ((kp_X12_add_120_120_46 h104).trans ((kp_X12_isWord_120_120_46 h95).trans k87_120_46))))
            have kr_120_50 : rd M115 120 50 = g120_50 := ((kp_X12_next_120_120_50 h115).trans ((Wr.b w113 rfl).trans ((kp_X12_add_120_120_50 h104).trans ((kp_X12_isWord_120_120_50 h95).trans k87_120_50))))
            have kr_136_1 : rd M115 136 1 = g136_1 := ((kp_X12_next_120_136_1 h115).trans ((Wr.b w113 rfl).trans ((kp_X12_add_120_136_1 h104).trans ((kp_X12_isWord_120_136_1 h95).trans k87_136_1))))
            have kr_9001_0 : nb2v M115 = g9001_0 := ((nb2v_of (fun j => ((ka_X12_next_120_150 h115 _).trans ((Wr.b w113 rfl).trans ((ka_X12_add_120_150 h104 _).trans ((ka_X12_isWord_120_150 h95 _).trans rfl))))) ((kp_X12_next_120_120_46 h115).trans ((Wr.b w113 rfl).trans ((kp_X12_add_120_120_46 h104).trans ((kp_X12_isWord_120_120_46 h95).trans rfl))))).trans k87_9001_0)
            have kr_9002_0 : n4v M115 = g9002_0 := ((n4v_of (fun j => ((ka_X12_next_120_145 h115 _).trans ((Wr.b w113 rfl).trans ((ka_X12_add_120_145 h104 _).trans ((ka_X12_isWord_120_145 h95 _).trans rfl))))) ((kp_X12_next_120_120_43 h115).trans ((Wr.b w113 rfl).trans ((kp_X12_add_120_120_43 h104).trans ((kp_X12_isWord_120_120_43 h95).trans rfl))))).trans k87_9002_0)
            have kr_9004_0 : Dv1 M115 = s104_9004_0 := ((Dv1_of (fun j => ((ka_X12_next_120_143 h115 _).trans ((Wr.b w113 rfl).trans rfl))) (fun j => ((ka_X12_next_120_140 h115 _).trans ((Wr.b w113 rfl).trans rfl))) ((kp_X12_next_120_136_1 h115).trans ((Wr.b w113 rfl).trans rfl)) ((kp_X12_next_120_120_36 h115).trans ((Wr.b w113 rfl).trans rfl))).trans es104_9004_0)
            have kr_9005_0 : fr0 M115 = g9005_0 := ((fr0_of (fun j => ((ka_X12_next_120_145 h115 _).trans ((Wr.b w113 rfl).trans ((ka_X12_add_120_145 h104 _).trans ((ka_X12_isWord_120_145 h95 _).trans rfl)))))).trans k87_9005_0)
            have kr_9010_0 : tav M115 = s115_9010_0 := es115_9010_0
            exact Tr.zret (pc := 119) d_X12_operand_119 rfl (by omega) ⟨hS, _, rfl, by omega, by omega, (by first | exact (hd_o z115_0) | exact (hd_o z115_0).elim (fun h1 => by omega) (fun h1 => by omega)), (by omega), (by first | exact (hd_o z115_2) | exact (hd_o z115_2).elim (fun h1 => by omega) (fun h1 => h1.elim (fun h1 => by omega) (fun h1 => by omega))), (by and_intros <;> omega), (by first | exact (hd_o z115_6) | exact (hd_o z115_6).elim (fun h1 => by omega) (fun h1 => by omega)), (by exact (hd_o z95_0).elim (fun h1 => (hd_o z115_5).elim (fun h2 => by omega) (fun h2 => by omega)) (fun h1 => by omega)), (by exact (hd_o z95_0).elim (fun h1 => (hd_o t87_0).elim (fun h2 => by omega) (fun h2 => by omega)) (fun h1 => by omega)), (by omega), (by omega), (by omega), (by omega), (by exact (hd_o z95_0).elim (fun h1 => (hd_o t87_0).elim (fun h2 => by omega) (fun h2 => by omega)) (fun h1 => by omega)), (by exact (hd_o z104_1).elim (fun h1 => by omega) (fun h1 => h1.elim (fun h1 => by omega) (fun h1 => by omega)))⟩
      refine Tr.if_eq (pc := 68) (tgt := 87) d_X12_operand_68 rfl (fun c68 => ?_) (fun c68 => ?_)
      · refine Tr.pick [0, 1, 2] (ls2 := [(0, (2, 120)), (1, (0, (g120_43 - 1))), (2, (0, q33_0))]) rfl ?_
        exact J87 _ hS ((Wr.b w66 rfl).trans k60_120_3) ((Wr.b w66 rfl).trans k60_120_36) ((Wr.b w66 rfl).trans k60_120_4) ((Wr.b w66 rfl).trans k60_120_43) ((Wr.b w66 rfl).trans k60_120_44) ((Wr.b w66 rfl).trans k60_120_46) ((Wr.b w66 rfl).trans k60_120_5) ((Wr.b w66 rfl).trans k60_120_50) ((Wr.b w66 rfl).trans k60_120_6) ((Wr.b w66 rfl).trans k60_120_7) ((Wr.b w66 rfl).trans k60_120_8) ((Wr.b w66 rfl).trans k60_136_1) ((Wr.b w66 rfl).trans k60_145_g120_431n1) w66.1 ((nb2v_of (fun j => ((Wr.b w66 rfl).trans rfl)) ((Wr.b w66 rfl).trans rfl)).trans k60_9001_0) ((n4v_of (fun j => ((Wr.b w66 rfl).trans rfl)) ((Wr.b w66 rfl).trans rfl)).trans k60_9002_0) ((Dv1_of (fun j => ((Wr.b w66 rfl).trans rfl)) (fun j => ((Wr.b w66 rfl).trans rfl)) ((Wr.b w66 rfl).trans rfl) ((Wr.b w66 rfl).trans rfl)).trans k60_9004_0) ((fr0_of (fun j => ((Wr.b w66 rfl).trans rfl))).trans k60_9005_0) ((tav_of ((Wr.b w66 rfl).trans rfl) ((Wr.b w66 rfl).trans rfl)).trans k60_9010_0) (by first | exact (hd_o t60_0) | exact (hd_o t60_0).elim (fun h1 => by omega) (fun h1 => by omega)) (by omega) (by first | exact (hd_o t60_2) | exact (hd_o t60_2).elim (fun h1 => by omega) (fun h1 => h1.elim (fun h1 => by omega) (fun h1 => by omega))) (by and_intros <;> omega) (by first | exact (hd_o t60_4) | exact (hd_o t60_4).elim (fun h1 => by omega) (fun h1 => by omega))
      · have c68b : 1 ≤ q33_0 ∧ q33_0 ≤ 1 := by omega
        replace c68 := hd_i c68
        refine Tr.aload_n (pc := 71) (i := 0) d_X12_operand_71 rfl rfl ?_
        refine Tr.bipush (pc := 72) d_X12_operand_72 rfl (by decide) ?_
        refine Tr.callV (pc := 74) (as := [_]) d_X12_operand_74 s_12_393 ok_X12_isSign rfl rfl (Nat.le_of_ble_eq_true rfl) (Nat.le_of_ble_eq_true rfl) (by decide) (ty_120 hS.1.1) ?_
        refine Tr.imp (Tr.deep (by decide) (ns_X12_isSign_120 (G120_3 := g120_3) (G120_6 := g120_6) hS.1.wk (((Wr.b w66 rfl).trans k60_120_3)) (((Wr.b w66 rfl).trans k60_120_6)) 91 (by omega))) ?_
        rintro M74 _ ⟨h74, r74, rfl, lr74, ur74, z74_0⟩
        have h74 := St.rn h74 (Pm1.of hS.1.2.2.2.2 (fun _ => (ka_X12_isSign_120_131 h74 _)) (fun _ => (ka_X12_isSign_120_137 h74 _)) (fun _ => (ka_X12_isSign_120_138 h74 _)) (fun _ => (ka_X12_isSign_120_139 h74 _)) (fun _ => (ka_X12_isSign_120_140 h74 _)) (fun _ => (ka_X12_isSign_120_141 h74 _)) (fun _ => (ka_X12_isSign_120_142 h74 _)) (fun _ => (ka_X12_isSign_120_143 h74 _)) (fun _ => (ka_X12_isSign_120_151 h74 _)) (fun _ => (ka_X12_isSign_120_152 h74 _)) (kp_X12_isSign_120_126_0 h74) (kp_X12_isSign_120_126_1 h74) (kp_X12_isSign_120_136_0 h74) (kp_X12_isSign_120_136_1 h74) (kp_X12_isSign_120_123_0 h74) (kp_X12_isSign_120_123_1 h74) (kp_X12_isSign_120_124_0 h74) (kp_X12_isSign_120_124_1 h74) (kp_X12_isSign_120_120_8 h74) (kp_X12_isSign_120_120_36 h74) (kp_X12_isSign_120_120_50 h74))
        have hS := St.tr hS h74 (by decide) (by decide)
        refine Tr.sc [(0, r74)] rfl ?_
        refine Tr.if_eq (pc := 77) (tgt := 87) d_X12_operand_77 rfl (fun c77 => ?_) (fun c77 => ?_)
        · refine Tr.pick [0, 1, 2] (ls2 := [(0, (2, 120)), (1, (0, (g120_43 - 1))), (2, (0, q33_0))]) rfl ?_
          exact J87 _ hS ((kp_X12_isSign_120_120_3 h74).trans ((Wr.b w66 rfl).trans k60_120_3)) ((kp_X12_isSign_120_120_36 h74).trans ((Wr.b w66 rfl).trans k60_120_36)) ((kp_X12_isSign_120_120_4 h74).trans ((Wr.b w66 rfl).trans k60_120_4)) ((kp_X12_isSign_120_120_43 h74).trans ((Wr.b w66 rfl).trans k60_120_43)) ((kp_X12_isSign_120_120_44 h74).trans ((Wr.b w66 rfl).trans k60_120_44)) ((kp_X12_isSign_120_120_46 h74).trans ((Wr.b w66 rfl).trans k60_120_46)) ((kp_X12_isSign_120_120_5 h74).trans ((Wr.b w66 rfl).trans k60_120_5)) ((kp_X12_isSign_120_120_50 h74).trans ((Wr.b w66 rfl).trans k60_120_50)) ((kp_X12_isSign_120_120_6 h74).trans ((Wr.b w66 rfl).trans k60_120_6)) ((kp_X12_isSign_120_120_7 h74).trans ((Wr.b w66 rfl).trans k60_120_7)) ((kp_X12_isSign_120_120_8 h74).trans ((Wr.b w66 rfl).trans k60_120_8)) ((kp_X12_isSign_120_136_1 h74).trans ((Wr.b w66 rfl).trans k60_136_1)) ((ka_X12_isSign_120_145 h74 _).trans ((Wr.b w66 rfl).trans k60_145_g120_431n1)) ((ka_X12_isSign_120_147 h74 _).trans w66.1) ((nb2v_of (fun j => ((ka_X12_isSign_120_150 h74 _).trans ((Wr.b w66 rfl).trans rfl))) ((kp_X12_isSign_120_120_46 h74).trans ((Wr.b w66 rfl).trans rfl))).trans k60_9001_0) ((n4v_of (fun j => ((ka_X12_isSign_120_145 h74 _).trans ((Wr.b w66 rfl).trans rfl))) ((kp_X12_isSign_120_120_43 h74).trans ((Wr.b w66 rfl).trans rfl))).trans k60_9002_0) ((Dv1_of (fun j => ((ka_X12_isSign_120_143 h74 _).trans ((Wr.b w66 rfl).trans rfl))) (fun j => ((ka_X12_isSign_120_140 h74 _).trans ((Wr.b w66 rfl).trans rfl))) ((kp_X12_isSign_120_136_1 h74).trans ((Wr.b w66 rfl).trans rfl)) ((kp_X12_isSign_120_120_36 h74).trans ((Wr.b w66 rfl).trans rfl))).trans k60_9004_0) ((fr0_of (fun j => ((ka_X12_isSign_120_145 h74 _).trans ((Wr.b w66 rfl).trans rfl)))).trans k60_9005_0) ((tav_of ((kp_X12_isSign_120_120_5 h74).trans ((Wr.b w66 rfl).trans rfl)) ((kp_X12_isSign_120_120_3 h74).trans ((Wr.b w66 rfl).trans rfl))).trans k60_9010_0) (by first | exact (hd_o t60_0) | exact (hd_o t60_0).elim (fun h1 => by omega) (fun h1 => by omega)) (by omega) (by first | exact (hd_o t60_2) | exact (hd_o t60_2).elim (fun h1 => by omega) (fun h1 => h1.elim (fun h1 => by omega) (fun h1 => by omega))) (by and_intros <;> omega) (by first | exact (hd_o t60_4) | exact (hd_o t60_4).elim (fun h1 => by omega) (fun h1 => by omega))
        · have c77b : 1 ≤ r74 ∧ r74 ≤ 1 := by omega
          replace c77 := hd_i c77
          refine Tr.aload_n (pc := 80) (i := 0) d_X12_operand_80 rfl rfl ?_
          refine Tr.iconst (pc := 81) d_X12_operand_81 (by decide) ?_
          refine Tr.callV (pc := 82) (as := [_]) d_X12_operand_82 s_12_490 ok_X12_opens rfl rfl (Nat.le_of_ble_eq_true rfl) (Nat.le_of_ble_eq_true rfl) (by decide) (ty_120 hS.1.1) ?_
          refine Tr.imp (Tr.deep (by decide) (ns_X12_opens_120 (G120_3 := g120_3) (G120_4 := g120_4) (G120_5 := g120_5) (G120_7 := g120_7) (G120_8 := g120_8) (G120_43 := g120_43) (G120_44 := g120_44) (G9002_0 := g9002_0) (G9005_0 := g9005_0) (G9010_0 := g9010_0) hS.1 (((kp_X12_isSign_120_120_3 h74).trans ((Wr.b w66 rfl).trans k60_120_3))) (((kp_X12_isSign_120_120_4 h74).trans ((Wr.b w66 rfl).trans k60_120_4))) (((kp_X12_isSign_120_120_5 h74).trans ((Wr.b w66 rfl).trans k60_120_5))) (((kp_X12_isSign_120_120_7 h74).trans ((Wr.b w66 rfl).trans k60_120_7))) (((kp_X12_isSign_120_120_8 h74).trans ((Wr.b w66 rfl).trans k60_120_8))) (((kp_X12_isSign_120_120_43 h74).trans ((Wr.b w66 rfl).trans k60_120_43))) (((kp_X12_isSign_120_120_44 h74).trans ((Wr.b w66 rfl).trans k60_120_44))) (((n4v_of (fun j => ((ka_X12_isSign_120_145 h74 _).trans ((Wr.b w66 rfl).trans rfl))) ((kp_X12_isSign_120_120_43 h74).trans ((Wr.b w66 rfl).trans rfl))).trans k60_9002_0)) (((fr0_of (fun j => ((ka_X12_isSign_120_145 h74 _).trans ((Wr.b w66 rfl).trans rfl)))).trans k60_9005_0)) (((tav_of ((kp_X12_isSign_120_120_5 h74).trans ((Wr.b w66 rfl).trans rfl)) ((kp_X12_isSign_120_120_3 h74).trans ((Wr.b w66 rfl).trans rfl))).trans k60_9010_0)) 5 (by omega) (by first | exact (hd_o t60_0) | exact (hd_o t60_0).elim (fun h1 => by omega) (fun h1 => by omega)) (by omega) (by first | exact (hd_o t60_2) | exact (hd_o t60_2).elim (fun h1 => by omega) (fun h1 => h1.elim (fun h1 => by omega) (fun h1 => by omega))) (by and_intros <;> omega) (by exact (hd_o z74_0).elim (fun h1 => by omega) (fun h1 => by omega)) (by omega) (by omega))) ?_
          rintro M82 _ ⟨h82, s82_120_3, s82_120_4, s82_120_5, s82_120_7, s82_120_8, s82_120_43, s82_120_44, s82_9002_0, s82_9005_0, s82_9010_0, es82_120_3, bs82_120_3, es82_120_4, bs82_120_4, es82_120_5, bs82_120_5, es82_120_7, bs82_120_7, es82_120_8, bs82_120_8, es82_120_43, bs82_120_43, es82_120_44, bs82_120_44, es82_9002_0, bs82_9002_0, es82_9005_0, bs82_9005_0, es82_9010_0, bs82_9010_0, rfl, z82_0, z82_1, z82_2, z82_3, z82_4, z82_5, z82_6, z82_7, z82_8, z82_9, z82_10⟩
          have hS := St.tr hS h82 (by decide) (by decide)
          refine Tr.sc [] rfl ?_
          refine Tr.iconst (pc := 85) d_X12_operand_85 (by decide) ?_
          have kr_120_3 : rd M82 120 3 = s82_120_3 := es82_120_3
          have kr_120_4 : rd M82 120 4 = s82_120_4 := es82_120_4
          have kr_120_5 : rd M82 120 5 = s82_120_5 := es82_120_5
          have kr_120_7 : rd M82 120 7 = s82_120_7 := es82_120_7
          have kr_120_8 : rd M82 120 8 = s82_120_8 := es82_120_8
          have kr_120_36 : rd M82 120 36 = g120_36 := ((kp_X12_opens_120_120_36 h82).trans ((kp_X12_isSign_120_120_36 h74).trans ((Wr.b w66 rfl).trans k60_120_36)))
          have kr_120_43 : rd M82 120 43 = s82_120_43 := es82_120_43
          have kr_120_44 : rd M82 120 44 = s82_120_44 := es82_120_44
          have kr_120_46 : rd M82 120 46 = g120_46 := ((kp_X12_opens_120_120_46 h82).trans ((kp_X12_isSign_120_120_46 h74).trans ((Wr.b w66 rfl).trans k60_120_46)))
          have kr_120_50 : rd M82 120 50 = g120_50 := ((kp_X12_opens_120_120_50 h82).trans ((kp_X12_isSign_120_120_50 h74).trans ((Wr.b w66 rfl).trans k60_120_50)))
          have kr_136_1 : rd M82 136 1 = g136_1 := ((kp_X12_opens_120_136_1 h82).trans ((kp_X12_isSign_120_136_1 h74).trans ((Wr.b w66 rfl).trans k60_136_1)))
          have kr_9001_0 : nb2v M82 = g9001_0 := ((nb2v_of (fun j => ((ka_X12_opens_120_150 h82 _).trans ((ka_X12_isSign_120_150 h74 _).trans ((Wr.b w66 rfl).trans rfl)))) ((kp_X12_opens_120_120_46 h82).trans ((kp_X12_isSign_120_120_46 h74).trans ((Wr.b w66 rfl).trans rfl)))).trans k60_9001_0)
          have kr_9002_0 : n4v M82 = s82_9002_0 := es82_9002_0
          have kr_9004_0 : Dv1 M82 = g9004_0 := ((Dv1_of (fun j => ((ka_X12_opens_120_143 h82 _).trans ((ka_X12_isSign_120_143 h74 _).trans ((Wr.b w66 rfl).trans rfl)))) (fun j => ((ka_X12_opens_120_140 h82 _).trans ((ka_X12_isSign_120_140 h74 _).trans ((Wr.b w66 rfl).trans rfl)))) ((kp_X12_opens_120_136_1 h82).trans ((kp_X12_isSign_120_136_1 h74).trans ((Wr.b w66 rfl).trans rfl))) ((kp_X12_opens_120_120_36 h82).trans ((kp_X12_isSign_120_120_36 h74).trans ((Wr.b w66 rfl).trans rfl)))).trans k60_9004_0)
          have kr_9005_0 : fr0 M82 = s82_9005_0 := es82_9005_0
          have kr_9010_0 : tav M82 = s82_9010_0 := es82_9010_0
          exact Tr.zret (pc := 86) d_X12_operand_86 rfl (by omega) ⟨hS, _, rfl, by omega, by omega, (by first | exact (hd_o z82_0) | exact (hd_o z82_0).elim (fun h1 => by omega) (fun h1 => by omega)), (by omega), (by first | exact (hd_o z82_2) | exact (hd_o z82_2).elim (fun h1 => by omega) (fun h1 => h1.elim (fun h1 => by omega) (fun h1 => by omega))), (by and_intros <;> omega), (by first | exact (hd_o z82_4) | exact (hd_o z82_4).elim (fun h1 => by omega) (fun h1 => by omega)), (by first | exact (hd_o z82_5) | exact (hd_o z82_5).elim (fun h1 => by omega) (fun h1 => by omega)), (by exact (hd_o z82_7).elim (fun h1 => by omega) (fun h1 => (hd_o z74_0).elim (fun h2 => (hd_o t60_0).elim (fun h3 => by omega) (fun h3 => by omega)) (fun h2 => by omega))), (by omega), (by omega), (by omega), (by omega), (by omega), (by omega)⟩
    refine Tr.if_eq (pc := 35) (tgt := 60) d_X12_operand_35 rfl (fun c35 => ?_) (fun c35 => ?_)
    · refine Tr.pick [1, 2, 0] (ls2 := [(0, (2, 120)), (1, (0, (g120_43 - 1))), (2, (0, q33_0))]) rfl ?_
      exact J60 _ hS k33_120_3 k33_120_36 k33_120_4 k33_120_43 k33_120_44 k33_120_46 k33_120_5 k33_120_50 k33_120_6 k33_120_7 k33_120_8 k33_136_1 k33_145_g120_431n1 k33_9001_0 k33_9002_0 k33_9004_0 k33_9005_0 k33_9010_0 (by first | exact (hd_o t33_0) | exact (hd_o t33_0).elim (fun h1 => by omega) (fun h1 => by omega)) (by omega) (by first | exact (hd_o t33_2) | exact (hd_o t33_2).elim (fun h1 => by omega) (fun h1 => h1.elim (fun h1 => by omega) (fun h1 => by omega))) (by and_intros <;> omega) (by first | exact (hd_o t33_4) | exact (hd_o t33_4).elim (fun h1 => by omega) (fun h1 => by omega))
    · have c35b : 1 ≤ q33_0 ∧ q33_0 ≤ 1 := by omega
      replace c35 := hd_i c35
      refine Tr.aload_n (pc := 38) (i := 0) d_X12_operand_38 rfl rfl ?_
      refine Tr.ldc2 (pc := 39) d_X12_operand_39 kl_12_441 (by decide) ?_
      refine Tr.callV (pc := 42) (as := [_]) d_X12_operand_42 s_12_484 ok_X12_isWord rfl rfl (Nat.le_of_ble_eq_true rfl) (Nat.le_of_ble_eq_true rfl) (by decide) (ty_120 hS.1.1) ?_
      refine Tr.imp (Tr.deep (by decide) (ns_X12_isWord_120 (G120_3 := g120_3) (G120_7 := g120_7) hS.1.wk (k33_120_3) (k33_120_7) 7237492 (by omega))) ?_
      rintro M42 _ ⟨h42, r42, rfl, lr42, ur42, z42_0⟩
      have h42 := St.rn h42 (Pm1.of hS.1.2.2.2.2 (fun _ => (ka_X12_isWord_120_131 h42 _)) (fun _ => (ka_X12_isWord_120_137 h42 _)) (fun _ => (ka_X12_isWord_120_138 h42 _)) (fun _ => (ka_X12_isWord_120_139 h42 _)) (fun _ => (ka_X12_isWord_120_140 h42 _)) (fun _ => (ka_X12_isWord_120_141 h42 _)) (fun _ => (ka_X12_isWord_120_142 h42 _)) (fun _ => (ka_X12_isWord_120_143 h42 _)) (fun _ => (ka_X12_isWord_120_151 h42 _)) (fun _ => (ka_X12_isWord_120_152 h42 _)) (kp_X12_isWord_120_126_0 h42) (kp_X12_isWord_120_126_1 h42) (kp_X12_isWord_120_136_0 h42) (kp_X12_isWord_120_136_1 h42) (kp_X12_isWord_120_123_0 h42) (kp_X12_isWord_120_123_1 h42) (kp_X12_isWord_120_124_0 h42) (kp_X12_isWord_120_124_1 h42) (kp_X12_isWord_120_120_8 h42) (kp_X12_isWord_120_120_36 h42) (kp_X12_isWord_120_120_50 h42))
      have hS := St.tr hS h42 (by decide) (by decide)
      refine Tr.sc [(0, r42)] rfl ?_
      refine Tr.if_eq (pc := 45) (tgt := 60) d_X12_operand_45 rfl (fun c45 => ?_) (fun c45 => ?_)
      · refine Tr.pick [1, 2, 0] (ls2 := [(0, (2, 120)), (1, (0, (g120_43 - 1))), (2, (0, q33_0))]) rfl ?_
        exact J60 _ hS ((kp_X12_isWord_120_120_3 h42).trans k33_120_3) ((kp_X12_isWord_120_120_36 h42).trans k33_120_36) ((kp_X12_isWord_120_120_4 h42).trans k33_120_4) ((kp_X12_isWord_120_120_43 h42).trans k33_120_43) ((kp_X12_isWord_120_120_44 h42).trans k33_120_44) ((kp_X12_isWord_120_120_46 h42).trans k33_120_46) ((kp_X12_isWord_120_120_5 h42).trans k33_120_5) ((kp_X12_isWord_120_120_50 h42).trans k33_120_50) ((kp_X12_isWord_120_120_6 h42).trans k33_120_6) ((kp_X12_isWord_120_120_7 h42).trans k33_120_7) ((kp_X12_isWord_120_120_8 h42).trans k33_120_8) ((kp_X12_isWord_120_136_1 h42).trans k33_136_1) ((ka_X12_isWord_120_145 h42 _).trans k33_145_g120_431n1) ((nb2v_of (fun j => ((ka_X12_isWord_120_150 h42 _).trans rfl)) ((kp_X12_isWord_120_120_46 h42).trans rfl)).trans k33_9001_0) ((n4v_of (fun j => ((ka_X12_isWord_120_145 h42 _).trans rfl)) ((kp_X12_isWord_120_120_43 h42).trans rfl)).trans k33_9002_0) ((Dv1_of (fun j => ((ka_X12_isWord_120_143 h42 _).trans rfl)) (fun j => ((ka_X12_isWord_120_140 h42 _).trans rfl)) ((kp_X12_isWord_120_136_1 h42).trans rfl) ((kp_X12_isWord_120_120_36 h42).trans rfl)).trans k33_9004_0) ((fr0_of (fun j => ((ka_X12_isWord_120_145 h42 _).trans rfl))).trans k33_9005_0) ((tav_of ((kp_X12_isWord_120_120_5 h42).trans rfl) ((kp_X12_isWord_120_120_3 h42).trans rfl)).trans k33_9010_0) (by first | exact (hd_o t33_0) | exact (hd_o t33_0).elim (fun h1 => by omega) (fun h1 => by omega)) (by omega) (by first | exact (hd_o t33_2) | exact (hd_o t33_2).elim (fun h1 => by omega) (fun h1 => h1.elim (fun h1 => by omega) (fun h1 => by omega))) (by and_intros <;> omega) (by first | exact (hd_o t33_4) | exact (hd_o t33_4).elim (fun h1 => by omega) (fun h1 => by omega))
      · have c45b : 1 ≤ r42 ∧ r42 ≤ 1 := by omega
        replace c45 := hd_i c45
        refine Tr.aload_n (pc := 48) (i := 0) d_X12_operand_48 rfl rfl ?_
        refine Tr.bipush (pc := 49) d_X12_operand_49 rfl (by decide) ?_
        refine Tr.callV (pc := 51) (as := [_]) d_X12_operand_51 s_12_487 ok_X12_holdsBack rfl rfl (Nat.le_of_ble_eq_true rfl) (Nat.le_of_ble_eq_true rfl) (by decide) (ty_120 hS.1.1) ?_
        refine Tr.imp (Tr.deep (by decide) (ns_X12_holdsBack_120 (G120_46 := g120_46) (G9001_0 := g9001_0) hS.1 (((kp_X12_isWord_120_120_46 h42).trans k33_120_46)) (((nb2v_of (fun j => ((ka_X12_isWord_120_150 h42 _).trans rfl)) ((kp_X12_isWord_120_120_46 h42).trans rfl)).trans k33_9001_0)) 18 (by omega) (by omega))) ?_
        rintro M51 _ ⟨h51, s51_120_46, s51_9001_0, es51_120_46, bs51_120_46, es51_9001_0, bs51_9001_0, rfl, z51_0, z51_1⟩
        have hS := St.tr hS h51 (by decide) (by decide)
        refine Tr.sc [] rfl ?_
        refine Tr.aload_n (pc := 54) (i := 0) d_X12_operand_54 rfl rfl ?_
        refine Tr.callV (pc := 55) (as := []) d_X12_operand_55 s_12_396 ok_X12_next rfl rfl (Nat.le_of_ble_eq_true rfl) (Nat.le_of_ble_eq_true rfl) (by decide) (ty_120 hS.1.1) ?_
        refine Tr.imp (Tr.deep (by decide) (ns_X12_next_120 (G120_3 := g120_3) (G120_5 := g120_5) (G120_8 := g120_8) (G9010_0 := g9010_0) hS.1 (((kp_X12_holdsBack_120_120_3 h51).trans ((kp_X12_isWord_120_120_3 h42).trans k33_120_3))) (((kp_X12_holdsBack_120_120_5 h51).trans ((kp_X12_isWord_120_120_5 h42).trans k33_120_5))) (((kp_X12_holdsBack_120_120_8 h51).trans ((kp_X12_isWord_120_120_8 h42).trans k33_120_8))) (((tav_of ((kp_X12_holdsBack_120_120_5 h51).trans ((kp_X12_isWord_120_120_5 h42).trans rfl)) ((kp_X12_holdsBack_120_120_3 h51).trans ((kp_X12_isWord_120_120_3 h42).trans rfl))).trans k33_9010_0)))) ?_
        rintro M55 _ ⟨h55, s55_120_3, s55_120_4, s55_120_5, s55_120_7, s55_120_8, s55_9010_0, es55_120_3, bs55_120_3, es55_120_4, bs55_120_4, es55_120_5, bs55_120_5, es55_120_7, bs55_120_7, es55_120_8, bs55_120_8, es55_9010_0, bs55_9010_0, rfl, z55_0, z55_1, z55_2, z55_3, z55_4, z55_5, z55_6⟩
        have hS := St.tr hS h55 (by decide) (by decide)
        refine Tr.sc [] rfl ?_
        refine Tr.iconst (pc := 58) d_X12_operand_58 (by decide) ?_
        have kr_120_3 : rd M55 120 3 = s55_120_3 := es55_120_3
        have kr_120_4 : rd M55 120 4 = s55_120_4 := es55_120_4
        have kr_120_5 : rd M55 120 5 = s55_120_5 := es55_120_5
        have kr_120_7 : rd M55 120 7 = s55_120_7 := es55_120_7
        have kr_120_8 : rd M55 120 8 = s55_120_8 := es55_120_8
        have kr_120_36 : rd M55 120 36 = g120_36 := ((kp_X12_next_120_120_36 h55).trans ((kp_X12_holdsBack_120_120_36 h51).trans ((kp_X12_isWord_120_120_36 h42).trans k33_120_36)))
        have kr_120_43 : rd M55 120 43 = g120_43 := ((kp_X12_next_120_120_43 h55).trans ((kp_X12_holdsBack_120_120_43 h51).trans ((kp_X12_isWord_120_120_43 h42).trans k33_120_43)))
        have kr_120_44 : rd M55 120 44 = g120_44 := ((kp_X12_next_120_120_44 h55).trans ((kp_X12_holdsBack_120_120_44 h51).trans ((kp_X12_isWord_120_120_44 h42).trans k33_120_44)))
        have kr_120_46 : rd M55 120 46 = s51_120_46 := ((kp_X12_next_120_120_46 h55).trans es51_120_46)
        have kr_120_50 : rd M55 120 50 = g120_50 := ((kp_X12_next_120_120_50 h55).trans ((kp_X12_holdsBack_120_120_50 h51).trans ((kp_X12_isWord_120_120_50 h42).trans k33_120_50)))
        have kr_136_1 : rd M55 136 1 = g136_1 := ((kp_X12_next_120_136_1 h55).trans ((kp_X12_holdsBack_120_136_1 h51).trans ((kp_X12_isWord_120_136_1 h42).trans k33_136_1)))
        have kr_9001_0 : nb2v M55 = s51_9001_0 := ((nb2v_of (fun j => ((ka_X12_next_120_150 h55 _).trans rfl)) ((kp_X12_next_120_120_46 h55).trans rfl)).trans es51_9001_0)
        have kr_9002_0 : n4v M55 = g9002_0 := ((n4v_of (fun j => ((ka_X12_next_120_145 h55 _).trans ((ka_X12_holdsBack_120_145 h51 _).trans ((ka_X12_isWord_120_145 h42 _).trans rfl)))) ((kp_X12_next_120_120_43 h55).trans ((kp_X12_holdsBack_120_120_43 h51).trans ((kp_X12_isWord_120_120_43 h42).trans rfl)))).trans k33_9002_0)
        have kr_9004_0 : Dv1 M55 = g9004_0 := ((Dv1_of (fun j => ((ka_X12_next_120_143 h55 _).trans ((ka_X12_holdsBack_120_143 h51 _).trans ((ka_X12_isWord_120_143 h42 _).trans rfl)))) (fun j => ((ka_X12_next_120_140 h55 _).trans ((ka_X12_holdsBack_120_140 h51 _).trans ((ka_X12_isWord_120_140 h42 _).trans rfl)))) ((kp_X12_next_120_136_1 h55).trans ((kp_X12_holdsBack_120_136_1 h51).trans ((kp_X12_isWord_120_136_1 h42).trans rfl))) ((kp_X12_next_120_120_36 h55).trans ((kp_X12_holdsBack_120_120_36 h51).trans ((kp_X12_isWord_120_120_36 h42).trans rfl)))).trans k33_9004_0)
        have kr_9005_0 : fr0 M55 = g9005_0 := ((fr0_of (fun j => ((ka_X12_next_120_145 h55 _).trans ((ka_X12_holdsBack_120_145 h51 _).trans ((ka_X12_isWord_120_145 h42 _).trans rfl))))).trans k33_9005_0)
        have kr_9010_0 : tav M55 = s55_9010_0 := es55_9010_0
        exact Tr.zret (pc := 59) d_X12_operand_59 rfl (by omega) ⟨hS, _, rfl, by omega, by omega, (by first | exact (hd_o z55_0) | exact (hd_o z55_0).elim (fun h1 => by omega) (fun h1 => by omega)), (by omega), (by first | exact (hd_o z55_2) | exact (hd_o z55_2).elim (fun h1 => by omega) (fun h1 => h1.elim (fun h1 => by omega) (fun h1 => by omega))), (by and_intros <;> omega), (by first | exact (hd_o z55_6) | exact (hd_o z55_6).elim (fun h1 => by omega) (fun h1 => by omega)), (by exact (hd_o z42_0).elim (fun h1 => (hd_o z55_5).elim (fun h2 => by omega) (fun h2 => by omega)) (fun h1 => by omega)), (by exact (hd_o z42_0).elim (fun h1 => (hd_o t33_0).elim (fun h2 => by omega) (fun h2 => by omega)) (fun h1 => by omega)), (by omega), (by omega), (by omega), (by omega), (by exact (hd_o z42_0).elim (fun h1 => (hd_o t33_2).elim (fun h2 => (ne_o h2).elim (fun h3 => by omega) (fun h3 => by omega)) (fun h2 => h2.elim (fun h2 => by omega) (fun h2 => by omega))) (fun h1 => by omega)), (by exact (hd_o z51_1).elim (fun h1 => by omega) (fun h1 => (ne_o h1.1).elim (fun h2 => by omega) (fun h2 => by omega)))⟩
  have J32 : ∀ (M : Mem), St Pm1 ws_X12_operand_120 as_X12_operand_120 M0 M → rd M 120 3 = g120_3 → rd M 120 36 = g120_36 → rd M 120 4 = g120_4 → rd M 120 43 = g120_43 → rd M 120 44 = g120_44 → rd M 120 46 = g120_46 → rd M 120 5 = g120_5 → rd M 120 50 = g120_50 → rd M 120 6 = g120_6 → rd M 120 7 = g120_7 → rd M 120 8 = g120_8 → rd M 136 1 = g136_1 → rd M 145 (g120_43 - 1) = r12 → nb2v M = g9001_0 → n4v M = g9002_0 → Dv1 M = g9004_0 → fr0 M = g9005_0 → tav M = g9010_0 → (g120_3 = 0 ∨ g120_4 + 1 ≤ g120_5) → (g120_4 ≤ g120_5) → (g120_3 ≠ 1 ∨ g120_4 + 2 ≤ g120_5 ∨ g120_7 < 256) → (g120_4 ≤ g120_4 ∧ g120_5 ≤ g120_5 ∧ g9010_0 ≤ g9010_0) → (g120_8 = 0 ∨ g120_8 = g120_8) → Tr l K 3 mX12_operand 32 [(0, (2, 120)), (1, (0, (g120_43 - 1)))] [] M (q_X12_operand_120 M0) := by
    intro M  hS  k32_120_3 k32_120_36 k32_120_4 k32_120_43 k32_120_44 k32_120_46 k32_120_5 k32_120_50 k32_120_6 k32_120_7 k32_120_8 k32_136_1 k32_145_g120_431n1 k32_9001_0 k32_9002_0 k32_9004_0 k32_9005_0 k32_9010_0 t32_0 t32_1 t32_2 t32_3 t32_4
    clear er12
    replace t32_0 := hd_i t32_0
    replace t32_2 := hd_i t32_2
    replace t32_4 := hd_i t32_4
    refine Tr.iconst (pc := 32) d_X12_operand_32 (by decide) ?_
    refine Tr.pick [0, 1] (ls2 := [(0, (2, 120)), (1, (0, (g120_43 - 1)))]) rfl ?_
    exact J33 _ _ hS (by omega) k32_120_3 k32_120_36 k32_120_4 k32_120_43 k32_120_44 k32_120_46 k32_120_5 k32_120_50 k32_120_6 k32_120_7 k32_120_8 k32_136_1 k32_145_g120_431n1 k32_9001_0 k32_9002_0 k32_9004_0 k32_9005_0 k32_9010_0 (by first | exact (hd_o t32_0) | exact (hd_o t32_0).elim (fun h1 => by omega) (fun h1 => by omega)) (by omega) (by first | exact (hd_o t32_2) | exact (hd_o t32_2).elim (fun h1 => by omega) (fun h1 => h1.elim (fun h1 => by omega) (fun h1 => by omega))) (by and_intros <;> omega) (by first | exact (hd_o t32_4) | exact (hd_o t32_4).elim (fun h1 => by omega) (fun h1 => by omega))
  refine Tr.if_eq (pc := 16) (tgt := 32) d_X12_operand_16 rfl (fun c16 => ?_) (fun c16 => ?_)
  · refine Tr.pick [1, 0] (ls2 := [(0, (2, 120)), (1, (0, (g120_43 - 1)))]) rfl ?_
    exact J32 _ hS ((kp_X12_isTest_120_3 h13).trans eg120_3) ((kp_X12_isTest_120_36 h13).trans eg120_36) ((kp_X12_isTest_120_4 h13).trans eg120_4) ((kp_X12_isTest_120_43 h13).trans eg120_43) ((kp_X12_isTest_120_44 h13).trans eg120_44) ((kp_X12_isTest_120_46 h13).trans eg120_46) ((kp_X12_isTest_120_5 h13).trans eg120_5) ((kp_X12_isTest_120_50 h13).trans eg120_50) ((kp_X12_isTest_120_6 h13).trans eg120_6) ((kp_X12_isTest_120_7 h13).trans eg120_7) ((kp_X12_isTest_120_8 h13).trans eg120_8) ((kp_X12_isTest_136_1 h13).trans eg136_1) ((ka_X12_isTest_145 h13 _).trans er12) ((nb2v_of (fun j => ((ka_X12_isTest_150 h13 _).trans rfl)) ((kp_X12_isTest_120_46 h13).trans rfl)).trans eg9001_0) ((n4v_of (fun j => ((ka_X12_isTest_145 h13 _).trans rfl)) ((kp_X12_isTest_120_43 h13).trans rfl)).trans eg9002_0) ((Dv1_of (fun j => ((ka_X12_isTest_143 h13 _).trans rfl)) (fun j => ((ka_X12_isTest_140 h13 _).trans rfl)) ((kp_X12_isTest_136_1 h13).trans rfl) ((kp_X12_isTest_120_36 h13).trans rfl)).trans eg9004_0) ((fr0_of (fun j => ((ka_X12_isTest_145 h13 _).trans rfl))).trans eg9005_0) ((tav_of ((kp_X12_isTest_120_5 h13).trans rfl) ((kp_X12_isTest_120_3 h13).trans rfl)).trans eg9010_0) (by first | exact (hd_o hq0) | exact (hd_o hq0).elim (fun h1 => by omega) (fun h1 => by omega)) (by omega) (by first | exact (hd_o hq2) | exact (hd_o hq2).elim (fun h1 => by omega) (fun h1 => h1.elim (fun h1 => by omega) (fun h1 => by omega))) (by and_intros <;> omega) (by omega)
  · have c16b : 1 ≤ r13 ∧ r13 ≤ 1 := by omega
    replace c16 := hd_i c16
    refine Tr.aload_n (pc := 19) (i := 0) d_X12_operand_19 rfl rfl ?_
    refine Tr.getf (pc := 20) d_X12_operand_20 f_12_133 (by decide) (by decide) (ty_120 hS.1.1) ?_
    refine Tr.tp 147 (fx_120_40 hS.1.1) ?_
    refine Tr.iload_n (pc := 23) (i := 1) d_X12_operand_23 rfl rfl ?_
    refine Tr.zald (pc := 24) d_X12_operand_24 (ty_147 hS.1.1) (by omega) (by omega) ?_
    refine Tr.gen (P := fun v => 0 ≤ v ∧ v ≤ 1) (ar_147 hS.1.2.1 _) (fun r24 er24 br24 => ?_)
    refine Tr.if_eq (pc := 25) (tgt := 32) d_X12_operand_25 rfl (fun c25 => ?_) (fun c25 => ?_)
    · refine Tr.pick [1, 0] (ls2 := [(0, (2, 120)), (1, (0, (g120_43 - 1)))]) rfl ?_
      exact J32 _ hS ((kp_X12_isTest_120_3 h13).trans eg120_3) ((kp_X12_isTest_120_36 h13).trans eg120_36) ((kp_X12_isTest_120_4 h13).trans eg120_4) ((kp_X12_isTest_120_43 h13).trans eg120_43) ((kp_X12_isTest_120_44 h13).trans eg120_44) ((kp_X12_isTest_120_46 h13).trans eg120_46) ((kp_X12_isTest_120_5 h13).trans eg120_5) ((kp_X12_isTest_120_50 h13).trans eg120_50) ((kp_X12_isTest_120_6 h13).trans eg120_6) ((kp_X12_isTest_120_7 h13).trans eg120_7) ((kp_X12_isTest_120_8 h13).trans eg120_8) ((kp_X12_isTest_136_1 h13).trans eg136_1) ((ka_X12_isTest_145 h13 _).trans er12) ((nb2v_of (fun j => ((ka_X12_isTest_150 h13 _).trans rfl)) ((kp_X12_isTest_120_46 h13).trans rfl)).trans eg9001_0) ((n4v_of (fun j => ((ka_X12_isTest_145 h13 _).trans rfl)) ((kp_X12_isTest_120_43 h13).trans rfl)).trans eg9002_0) ((Dv1_of (fun j => ((ka_X12_isTest_143 h13 _).trans rfl)) (fun j => ((ka_X12_isTest_140 h13 _).trans rfl)) ((kp_X12_isTest_136_1 h13).trans rfl) ((kp_X12_isTest_120_36 h13).trans rfl)).trans eg9004_0) ((fr0_of (fun j => ((ka_X12_isTest_145 h13 _).trans rfl))).trans eg9005_0) ((tav_of ((kp_X12_isTest_120_5 h13).trans rfl) ((kp_X12_isTest_120_3 h13).trans rfl)).trans eg9010_0) (by first | exact (hd_o hq0) | exact (hd_o hq0).elim (fun h1 => by omega) (fun h1 => by omega)) (by omega) (by first | exact (hd_o hq2) | exact (hd_o hq2).elim (fun h1 => by omega) (fun h1 => h1.elim (fun h1 => by omega) (fun h1 => by omega))) (by and_intros <;> omega) (by omega)
    · have c25b : 1 ≤ r24 ∧ r24 ≤ 1 := by omega
      replace c25 := hd_i c25
      refine Tr.iconst (pc := 28) d_X12_operand_28 (by decide) ?_
      refine Tr.goto (pc := 29) (tgt := 33) d_X12_operand_29 rfl ?_
      refine Tr.pick [1, 0] (ls2 := [(0, (2, 120)), (1, (0, (g120_43 - 1)))]) rfl ?_
      exact J33 _ _ hS (by omega) ((kp_X12_isTest_120_3 h13).trans eg120_3) ((kp_X12_isTest_120_36 h13).trans eg120_36) ((kp_X12_isTest_120_4 h13).trans eg120_4) ((kp_X12_isTest_120_43 h13).trans eg120_43) ((kp_X12_isTest_120_44 h13).trans eg120_44) ((kp_X12_isTest_120_46 h13).trans eg120_46) ((kp_X12_isTest_120_5 h13).trans eg120_5) ((kp_X12_isTest_120_50 h13).trans eg120_50) ((kp_X12_isTest_120_6 h13).trans eg120_6) ((kp_X12_isTest_120_7 h13).trans eg120_7) ((kp_X12_isTest_120_8 h13).trans eg120_8) ((kp_X12_isTest_136_1 h13).trans eg136_1) ((ka_X12_isTest_145 h13 _).trans er12) ((nb2v_of (fun j => ((ka_X12_isTest_150 h13 _).trans rfl)) ((kp_X12_isTest_120_46 h13).trans rfl)).trans eg9001_0) ((n4v_of (fun j => ((ka_X12_isTest_145 h13 _).trans rfl)) ((kp_X12_isTest_120_43 h13).trans rfl)).trans eg9002_0) ((Dv1_of (fun j => ((ka_X12_isTest_143 h13 _).trans rfl)) (fun j => ((ka_X12_isTest_140 h13 _).trans rfl)) ((kp_X12_isTest_136_1 h13).trans rfl) ((kp_X12_isTest_120_36 h13).trans rfl)).trans eg9004_0) ((fr0_of (fun j => ((ka_X12_isTest_145 h13 _).trans rfl))).trans eg9005_0) ((tav_of ((kp_X12_isTest_120_5 h13).trans rfl) ((kp_X12_isTest_120_3 h13).trans rfl)).trans eg9010_0) (by first | exact (hd_o hq0) | exact (hd_o hq0).elim (fun h1 => by omega) (fun h1 => by omega)) (by omega) (by first | exact (hd_o hq2) | exact (hd_o hq2).elim (fun h1 => by omega) (fun h1 => h1.elim (fun h1 => by omega) (fun h1 => by omega))) (by and_intros <;> omega) (by omega)
