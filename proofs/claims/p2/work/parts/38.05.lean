def ws_X12_operand_120 : List (Int × Int) := [(120, 3), (120, 4), (120, 5), (120, 6), (120, 7), (120, 8), (120, 9), (120, 36), (120, 43), (120, 44), (120, 46)]
def as_X12_operand_120 : List Int := [143, 144, 145, 146, 147, 148, 149, 150]
def q_X12_operand_120 (M0 M' : Mem) (r : Option PV) : Prop := St Pm1 ws_X12_operand_120 as_X12_operand_120 M0 M' ∧ ∃ v : Int, r = some (0, v) ∧ 0 ≤ v ∧ v ≤ 1 ∧ (rd M' 120 3 = 0 ∨ rd M' 120 4 + 1 ≤ rd M' 120 5) ∧ (rd M' 120 4 ≤ rd M' 120 5) ∧ (rd M' 120 3 ≠ 1 ∨ rd M' 120 4 + 2 ≤ rd M' 120 5 ∨ rd M' 120 7 < 256) ∧ (rd M0 120 4 ≤ rd M' 120 4 ∧ rd M0 120 5 ≤ rd M' 120 5 ∧ tav M0 ≤ tav M') ∧ (rd M0 120 8 = 0 ∨ rd M' 120 8 = rd M0 120 8) ∧ (1 ≤ rd M' 120 8 ∨ tav M0 < tav M') ∧ (rd M' 120 36 + rd M' 120 46 + rd M' 120 44 ≤ rd M' 120 4) ∧ (1 ≤ rd M' 120 43) ∧ (rd M' 120 50 + rd M' 120 43 ≤ rd M' 120 44 + 1) ∧ (fr0 M' ≤ 1) ∧ (1 ≤ rd M' 136 1) ∧ (1 ≤ rd M' 120 8 ∨ 2 * rd M' 120 46 + v ≤ rd M' 120 4) ∧ (1 ≤ rd M' 120 8 ∨ nb2v M' + n4v M' + v ≤ Dv1 M')
set_option maxRecDepth 100000 in
set_option maxHeartbeats 4000000 in
theorem sp_X12_operand_120 {l : Launch} {K : EC} {M0 : Mem} (hI : In Pm1 M0) (en_120_37 : rd M0 120 37 = 1)   (hq0 : rd M0 120 3 = 0 ∨ rd M0 120 4 + 1 ≤ rd M0 120 5) (hq1 : rd M0 120 4 ≤ rd M0 120 5) (hq2 : rd M0 120 3 ≠ 1 ∨ rd M0 120 4 + 2 ≤ rd M0 120 5 ∨ rd M0 120 7 < 256) (hq3 : rd M0 120 8 = 0) (hq4 : 2 * rd M0 120 46 ≤ rd M0 120 4) (hq5 : nb2v M0 + n4v M0 ≤ Dv1 M0) (hq6 : rd M0 120 36 + rd M0 120 46 + rd M0 120 44 ≤ rd M0 120 4) (hq7 : 1 ≤ rd M0 120 43) (hq8 : rd M0 120 50 + rd M0 120 43 ≤ rd M0 120 44 + 1) (hq9 : fr0 M0 ≤ 1) (hq10 : 1 ≤ rd M0 136 1) : Tr l K 3 mX12_operand 0 [(0, (2, 120))] [] M0 (q_X12_operand_120 M0) := by
  have hS : St Pm1 ws_X12_operand_120 as_X12_operand_120 M0 M0 := St.rf hI
  obtain ⟨g120_8, eg120_8⟩ : ∃ v, rd M0 120 8 = v := ⟨_, rfl⟩
  have bg120_8 : 0 ≤ g120_8 ∧ g120_8 ≤ 5 := by rw [← eg120_8]; exact ir_120_8 hI.2.1
  obtain ⟨g120_3, eg120_3⟩ : ∃ v, rd M0 120 3 = v := ⟨_, rfl⟩
  have bg120_3 : 0 ≤ g120_3 ∧ g120_3 ≤ 3 := by rw [← eg120_3]; exact ir_120_3 hI.2.1
  obtain ⟨g120_4, eg120_4⟩ : ∃ v, rd M0 120 4 = v := ⟨_, rfl⟩
  have bg120_4 : 0 ≤ g120_4 ∧ g120_4 ≤ 900 := by rw [← eg120_4]; exact ir_120_4 hI.2.1
  obtain ⟨g120_5, eg120_5⟩ : ∃ v, rd M0 120 5 = v := ⟨_, rfl⟩
  have bg120_5 : 0 ≤ g120_5 ∧ g120_5 ≤ 900 := by rw [← eg120_5]; exact ir_120_5 hI.2.1
  obtain ⟨g120_7, eg120_7⟩ : ∃ v, rd M0 120 7 = v := ⟨_, rfl⟩
  have bg120_7 : (-9223372036854775808) ≤ g120_7 ∧ g120_7 ≤ 9223372036854775807 := by rw [← eg120_7]; exact ir_120_7 hI.2.1
  obtain ⟨g9010_0, eg9010_0⟩ : ∃ v, tav M0 = v := ⟨_, rfl⟩
  have bg9010_0 : (-1) ≤ g9010_0 ∧ g9010_0 ≤ 1800 := by rw [← eg9010_0]; exact (tav_b hI.2.1)
  obtain ⟨g120_6, eg120_6⟩ : ∃ v, rd M0 120 6 = v := ⟨_, rfl⟩
  have bg120_6 : (-2147483648) ≤ g120_6 ∧ g120_6 ≤ 2147483647 := by rw [← eg120_6]; exact ir_120_6 hI.2.1
  obtain ⟨g120_36, eg120_36⟩ : ∃ v, rd M0 120 36 = v := ⟨_, rfl⟩
  have bg120_36 : 0 ≤ g120_36 ∧ g120_36 ≤ 900 := by rw [← eg120_36]; exact ir_120_36 hI.2.1
  obtain ⟨g120_46, eg120_46⟩ : ∃ v, rd M0 120 46 = v := ⟨_, rfl⟩
  have bg120_46 : 0 ≤ g120_46 ∧ g120_46 ≤ 500 := by rw [← eg120_46]; exact ir_120_46 hI.2.1
  obtain ⟨g120_44, eg120_44⟩ : ∃ v, rd M0 120 44 = v := ⟨_, rfl⟩
  have bg120_44 : 0 ≤ g120_44 ∧ g120_44 ≤ 8 := by rw [← eg120_44]; exact ir_120_44 hI.2.1
  obtain ⟨g120_43, eg120_43⟩ : ∃ v, rd M0 120 43 = v := ⟨_, rfl⟩
  have bg120_43 : 0 ≤ g120_43 ∧ g120_43 ≤ 20 := by rw [← eg120_43]; exact ir_120_43 hI.2.1
  obtain ⟨g120_50, eg120_50⟩ : ∃ v, rd M0 120 50 = v := ⟨_, rfl⟩
  have bg120_50 : 0 ≤ g120_50 ∧ g120_50 ≤ 20 := by rw [← eg120_50]; exact ir_120_50 hI.2.1
  obtain ⟨g9001_0, eg9001_0⟩ : ∃ v, nb2v M0 = v := ⟨_, rfl⟩
  have bg9001_0 : 0 ≤ g9001_0 ∧ g9001_0 ≤ 1000000 := by rw [← eg9001_0]; exact (nb2v_b hI.2.1)
  obtain ⟨g9002_0, eg9002_0⟩ : ∃ v, n4v M0 = v := ⟨_, rfl⟩
  have bg9002_0 : 0 ≤ g9002_0 ∧ g9002_0 ≤ 20 := by rw [← eg9002_0]; exact (n4v_b hI.2.1)
  obtain ⟨g9005_0, eg9005_0⟩ : ∃ v, fr0 M0 = v := ⟨_, rfl⟩
  have bg9005_0 : 0 ≤ g9005_0 ∧ g9005_0 ≤ 5 := by rw [← eg9005_0]; exact (fr0_b hI.2.1)
  obtain ⟨g9004_0, eg9004_0⟩ : ∃ v, Dv1 M0 = v := ⟨_, rfl⟩
  have bg9004_0 : (-1000) ≤ g9004_0 ∧ g9004_0 ≤ 1000 := by rw [← eg9004_0]; exact (Dv1_b hI.2.1)
  obtain ⟨g136_1, eg136_1⟩ : ∃ v, rd M0 136 1 = v := ⟨_, rfl⟩
  have bg136_1 : 0 ≤ g136_1 ∧ g136_1 ≤ 200 := by rw [← eg136_1]; exact ir_136_1 hI.2.1
  replace hq0 := hd_i hq0
  replace hq2 := hd_i hq2
  refine Tr.aload_n (pc := 0) (i := 0) d_X12_operand_0 rfl rfl ?_
  refine Tr.getf (pc := 1) d_X12_operand_1 f_12_143 (by decide) (by decide) (ty_120 hS.1.1) ?_
  refine Tr.tp g120_43 eg120_43 ?_
  refine Tr.iconst (pc := 4) d_X12_operand_4 (by decide) ?_
  refine Tr.isub (pc := 5) d_X12_operand_5 ?_
  refine Tr.tp (g120_43 - 1) ((w32_id (by and_intros <;> omega)).trans (by omega)) ?_
  refine Tr.istore_n (pc := 6) (i := 1) (ls2 := [(1, (0, (g120_43 - 1))), (0, (2, 120))]) d_X12_operand_6 rfl (by decide) rfl ?_
  refine Tr.aload_n (pc := 7) (i := 0) d_X12_operand_7 rfl rfl ?_
  refine Tr.getf (pc := 8) d_X12_operand_8 f_12_127 (by decide) (by decide) (ty_120 hS.1.1) ?_
  refine Tr.tp 145 (fx_120_38 hS.1.1) ?_
  refine Tr.iload_n (pc := 11) (i := 1) d_X12_operand_11 rfl rfl ?_
  refine Tr.iald (pc := 12) d_X12_operand_12 (ty_145 hS.1.1) (by omega) (by omega) ?_
  refine Tr.gen (P := fun v => (0 ≤ v ∧ v ≤ 5) ∧ ((g120_43 - 1) ≠ 0 ∨ v = g9005_0)) (by have h9 := (ar_145 hS.1.2.1 ((g120_43 - 1))); have h8 : fr0 M0 = g9005_0 := eg9005_0; refine ⟨h9, ?_⟩; by_cases c : (g120_43 - 1) = 0; (refine Or.inr ?_; rw [c]; exact h8); exact Or.inl c) (fun r12 er12 br12 => ?_)
  have br12d0 := hd_i br12.2
  replace br12 := And.intro br12.1.1  (br12.1.2)
  refine Tr.callS (pc := 13) (as := [_]) d_X12_operand_13 s_12_481 ok_X12_isTest rfl rfl (Nat.le_of_ble_eq_true rfl) (Nat.le_of_ble_eq_true rfl) ?_
  refine Tr.imp (Tr.deep (by decide) (sp_X12_isTest hS.1.wk r12 (by and_intros <;> omega))) ?_
  rintro M13 _ ⟨h13, r13, rfl, lr13, ur13, wr13⟩
  have h13 := St.rn h13 (Pm1.of hS.1.2.2.2.2 (fun _ => St.ka h13 (by decide) (by decide) (by decide)) (fun _ => St.ka h13 (by decide) (by decide) (by decide)) (fun _ => St.ka h13 (by decide) (by decide) (by decide)) (fun _ => St.ka h13 (by decide) (by decide) (by decide)) (fun _ => St.ka h13 (by decide) (by decide) (by decide)) (fun _ => St.ka h13 (by decide) (by decide) (by decide)) (fun _ => St.ka h13 (by decide) (by decide) (by decide)) (fun _ => St.ka h13 (by decide) (by decide) (by decide)) (fun _ => St.ka h13 (by decide) (by decide) (by decide)) (fun _ => St.ka h13 (by decide) (by decide) (by decide)) (St.kp h13 (by decide) (by decide) (by decide)) (St.kp h13 (by decide) (by decide) (by decide)) (St.kp h13 (by decide) (by decide) (by decide)) (St.kp h13 (by decide) (by decide) (by decide)) (St.kp h13 (by decide) (by decide) (by decide)) (St.kp h13 (by decide) (by decide) (by decide)) (St.kp h13 (by decide) (by decide) (by decide)) (St.kp h13 (by decide) (by decide) (by decide)) (St.kp h13 (by decide) (by decide) (by decide)) (St.kp h13 (by decide) (by decide) (by decide)) (St.kp h13 (by decide) (by decide) (by decide)))
  have hS := St.tr hS h13 (by decide) (by decide)
  replace wr13 := hd_i wr13
  refine Tr.sc [(0, r13)] rfl ?_
  have J33 : ∀ (M : Mem) (q33_0 : Int), St Pm1 ws_X12_operand_120 as_X12_operand_120 M0 M → (0 ≤ q33_0 ∧ q33_0 ≤ 1) → rd M 120 3 = g120_3 → rd M 120 36 = g120_36 → rd M 120 4 = g120_4 → rd M 120 43 = g120_43 → rd M 120 44 = g120_44 → rd M 120 46 = g120_46 → rd M 120 5 = g120_5 → rd M 120 50 = g120_50 → rd M 120 6 = g120_6 → rd M 120 7 = g120_7 → rd M 120 8 = g120_8 → rd M 136 1 = g136_1 → rd M 145 (g120_43 - 1) = r12 → nb2v M = g9001_0 → n4v M = g9002_0 → Dv1 M = g9004_0 → fr0 M = g9005_0 → tav M = g9010_0 → (g120_3 = 0 ∨ g120_4 + 1 ≤ g120_5) → (g120_4 ≤ g120_5) → (g120_3 ≠ 1 ∨ g120_4 + 2 ≤ g120_5 ∨ g120_7 < 256) → (g120_4 ≤ g120_4 ∧ g120_5 ≤ g120_5 ∧ g9010_0 ≤ g9010_0) → (g120_8 = 0 ∨ g120_8 = g120_8) → Tr l K 3 mX12_operand 33 [(0, (2, 120)), (1, (0, (g120_43 - 1)))] [(0, q33_0)] M (q_X12_operand_120 M0) := by
    intro M q33_0 hS bq33_0 k33_120_3 k33_120_36 k33_120_4 k33_120_43 k33_120_44 k33_120_46 k33_120_5 k33_120_50 k33_120_6 k33_120_7 k33_120_8 k33_136_1 k33_145_g120_431n1 k33_9001_0 k33_9002_0 k33_9004_0 k33_9005_0 k33_9010_0 t33_0 t33_1 t33_2 t33_3 t33_4
    clear er12
    replace t33_0 := hd_i t33_0
    replace t33_2 := hd_i t33_2
    replace t33_4 := hd_i t33_4
    refine Tr.istore_n (pc := 33) (i := 2) (ls2 := [(2, (0, q33_0)), (0, (2, 120)), (1, (0, (g120_43 - 1)))]) d_X12_operand_33 rfl (by decide) rfl ?_
    refine Tr.iload_n (pc := 34) (i := 2) d_X12_operand_34 rfl rfl ?_
    have J60 : ∀ (M : Mem), St Pm1 ws_X12_operand_120 as_X12_operand_120 M0 M → rd M 120 3 = g120_3 → rd M 120 36 = g120_36 → rd M 120 4 = g120_4 → rd M 120 43 = g120_43 → rd M 120 44 = g120_44 → rd M 120 46 = g120_46 → rd M 120 5 = g120_5 → rd M 120 50 = g120_50 → rd M 120 6 = g120_6 → rd M 120 7 = g120_7 → rd M 120 8 = g120_8 → rd M 136 1 = g136_1 → rd M 145 (g120_43 - 1) = r12 → nb2v M = g9001_0 → n4v M = g9002_0 → Dv1 M = g9004_0 → fr0 M = g9005_0 → tav M = g9010_0 → (g120_3 = 0 ∨ g120_4 + 1 ≤ g120_5) → (g120_4 ≤ g120_5) → (g120_3 ≠ 1 ∨ g120_4 + 2 ≤ g120_5 ∨ g120_7 < 256) → (g120_4 ≤ g120_4 ∧ g120_5 ≤ g120_5 ∧ g9010_0 ≤ g9010_0) → (g120_8 = 0 ∨ g120_8 = g120_8) → Tr l K 3 mX12_operand 60 [(0, (2, 120)), (1, (0, (g120_43 - 1))), (2, (0, q33_0))] [] M (q_X12_operand_120 M0) := by
      intro M  hS  k60_120_3 k60_120_36 k60_120_4 k60_120_43 k60_120_44 k60_120_46 k60_120_5 k60_120_50 k60_120_6 k60_120_7 k60_120_8 k60_136_1 k60_145_g120_431n1 k60_9001_0 k60_9002_0 k60_9004_0 k60_9005_0 k60_9010_0 t60_0 t60_1 t60_2 t60_3 t60_4
      clear k33_120_3 k33_120_36 k33_120_4 k33_120_43 k33_120_44 k33_120_46 k33_120_5 k33_120_50 k33_120_6 k33_120_7 k33_120_8 k33_136_1 k33_145_g120_431n1 k33_9001_0 k33_9002_0 k33_9004_0 k33_9005_0 k33_9010_0
      replace t60_0 := hd_i t60_0
      replace t60_2 := hd_i t60_2
      replace t60_4 := hd_i t60_4
      refine Tr.aload_n (pc := 60) (i := 0) d_X12_operand_60 rfl rfl ?_
      refine Tr.getf (pc := 61) d_X12_operand_61 f_12_133 (by decide) (by decide) (ty_120 hS.1.1) ?_
      refine Tr.tp 147 (fx_120_40 hS.1.1) ?_
      refine Tr.iload_n (pc := 64) (i := 1) d_X12_operand_64 rfl rfl ?_
      refine Tr.iconst (pc := 65) d_X12_operand_65 (by decide) ?_
      refine Tr.zastS (pc := 66) (P := St Pm1 ws_X12_operand_120 as_X12_operand_120 M0) d_X12_operand_66 (ty_147 hS.1.1) (by omega) (by omega) (by omega) (sa_147 hS (by decide) (by omega) (Pm1.of hS.1.2.2.2.2 (fun _ => rd_wb _ rfl) (fun _ => rd_wb _ rfl) (fun _ => rd_wb _ rfl) (fun _ => rd_wb _ rfl) (fun _ => rd_wb _ rfl) (fun _ => rd_wb _ rfl) (fun _ => rd_wb _ rfl) (fun _ => rd_wb _ rfl) (fun _ => rd_wb _ rfl) (fun _ => rd_wb _ rfl) (rd_wb _ rfl) (rd_wb _ rfl) (rd_wb _ rfl) (rd_wb _ rfl) (rd_wb _ rfl) (rd_wb _ rfl) (rd_wb _ rfl) (rd_wb _ rfl) (rd_wb _ rfl) (rd_wb _ rfl) (rd_wb _ rfl))) (fun M66 hS w66 => ?_)
      refine Tr.iload_n (pc := 67) (i := 2) d_X12_operand_67 rfl rfl ?_
      have J87 : ∀ (M : Mem), St Pm1 ws_X12_operand_120 as_X12_operand_120 M0 M → rd M 120 3 = g120_3 → rd M 120 36 = g120_36 → rd M 120 4 = g120_4 → rd M 120 43 = g120_43 → rd M 120 44 = g120_44 → rd M 120 46 = g120_46 → rd M 120 5 = g120_5 → rd M 120 50 = g120_50 → rd M 120 6 = g120_6 → rd M 120 7 = g120_7 → rd M 120 8 = g120_8 → rd M 136 1 = g136_1 → rd M 145 (g120_43 - 1) = r12 → rd M 147 (g120_43 - 1) = 0 → nb2v M = g9001_0 → n4v M = g9002_0 → Dv1 M = g9004_0 → fr0 M = g9005_0 → tav M = g9010_0 → (g120_3 = 0 ∨ g120_4 + 1 ≤ g120_5) → (g120_4 ≤ g120_5) → (g120_3 ≠ 1 ∨ g120_4 + 2 ≤ g120_5 ∨ g120_7 < 256) → (g120_4 ≤ g120_4 ∧ g120_5 ≤ g120_5 ∧ g9010_0 ≤ g9010_0) → (g120_8 = 0 ∨ g120_8 = g120_8) → Tr l K 3 mX12_operand 87 [(0, (2, 120)), (1, (0, (g120_43 - 1))), (2, (0, q33_0))] [] M (q_X12_operand_120 M0) := by
        intro M  hS  k87_120_3 k87_120_36 k87_120_4 k87_120_43 k87_120_44 k87_120_46 k87_120_5 k87_120_50 k87_120_6 k87_120_7 k87_120_8 k87_136_1 k87_145_g120_431n1 k87_147_g120_431n1 k87_9001_0 k87_9002_0 k87_9004_0 k87_9005_0 k87_9010_0 t87_0 t87_1 t87_2 t87_3 t87_4
        clear k60_120_3 k60_120_36 k60_120_4 k60_120_43 k60_120_44 k60_120_46 k60_120_5 k60_120_50 k60_120_6 k60_120_7 k60_120_8 k60_136_1 k60_145_g120_431n1 k60_9001_0 k60_9002_0 k60_9004_0 k60_9005_0 k60_9010_0 w66
        replace t87_0 := hd_i t87_0
        replace t87_2 := hd_i t87_2
        replace t87_4 := hd_i t87_4
        refine Tr.iload_n (pc := 87) (i := 2) d_X12_operand_87 rfl rfl ?_
        have J120 : ∀ (M : Mem), St Pm1 ws_X12_operand_120 as_X12_operand_120 M0 M → rd M 120 3 = g120_3 → rd M 120 36 = g120_36 → rd M 120 4 = g120_4 → rd M 120 43 = g120_43 → rd M 120 44 = g120_44 → rd M 120 46 = g120_46 → rd M 120 5 = g120_5 → rd M 120 50 = g120_50 → rd M 120 6 = g120_6 → rd M 120 7 = g120_7 → rd M 120 8 = g120_8 → rd M 136 1 = g136_1 → rd M 145 (g120_43 - 1) = r12 → rd M 147 (g120_43 - 1) = 0 → nb2v M = g9001_0 → n4v M = g9002_0 → Dv1 M = g9004_0 → fr0 M = g9005_0 → tav M = g9010_0 → (g120_3 = 0 ∨ g120_4 + 1 ≤ g120_5) → (g120_4 ≤ g120_5) → (g120_3 ≠ 1 ∨ g120_4 + 2 ≤ g120_5 ∨ g120_7 < 256) → (g120_4 ≤ g120_4 ∧ g120_5 ≤ g120_5 ∧ g9010_0 ≤ g9010_0) → (g120_8 = 0 ∨ g120_8 = g120_8) → Tr l K 3 mX12_operand 120 [(0, (2, 120)), (1, (0, (g120_43 - 1))), (2, (0, q33_0))] [] M (q_X12_operand_120 M0) := by
          intro M  hS  k120_120_3 k120_120_36 k120_120_4 k120_120_43 k120_120_44 k120_120_46 k120_120_5 k120_120_50 k120_120_6 k120_120_7 k120_120_8 k120_136_1 k120_145_g120_431n1 k120_147_g120_431n1 k120_9001_0 k120_9002_0 k120_9004_0 k120_9005_0 k120_9010_0 t120_0 t120_1 t120_2 t120_3 t120_4
          clear k87_120_3 k87_120_36 k87_120_4 k87_120_43 k87_120_44 k87_120_46 k87_120_5 k87_120_50 k87_120_6 k87_120_7 k87_120_8 k87_136_1 k87_145_g120_431n1 k87_147_g120_431n1 k87_9001_0 k87_9002_0 k87_9004_0 k87_9005_0 k87_9010_0
          replace t120_0 := hd_i t120_0
          replace t120_2 := hd_i t120_2
          replace t120_4 := hd_i t120_4
          refine Tr.iload_n (pc := 120) (i := 2) d_X12_operand_120 rfl rfl ?_
          have J166 : ∀ (M : Mem), St Pm1 ws_X12_operand_120 as_X12_operand_120 M0 M → rd M 120 3 = g120_3 → rd M 120 36 = g120_36 → rd M 120 4 = g120_4 → rd M 120 43 = g120_43 → rd M 120 44 = g120_44 → rd M 120 46 = g120_46 → rd M 120 5 = g120_5 → rd M 120 50 = g120_50 → rd M 120 6 = g120_6 → rd M 120 7 = g120_7 → rd M 120 8 = g120_8 → rd M 136 1 = g136_1 → rd M 145 (g120_43 - 1) = r12 → rd M 147 (g120_43 - 1) = 0 → nb2v M = g9001_0 → n4v M = g9002_0 → Dv1 M = g9004_0 → fr0 M = g9005_0 → tav M = g9010_0 → (g120_3 = 0 ∨ g120_4 + 1 ≤ g120_5) → (g120_4 ≤ g120_5) → (g120_3 ≠ 1 ∨ g120_4 + 2 ≤ g120_5 ∨ g120_7 < 256) → (g120_4 ≤ g120_4 ∧ g120_5 ≤ g120_5 ∧ g9010_0 ≤ g9010_0) → (g120_8 = 0 ∨ g120_8 = g120_8) → Tr l K 3 mX12_operand 166 [(0, (2, 120))] [] M (q_X12_operand_120 M0) := by sorry
          refine Tr.if_eq (pc := 121) (tgt := 166) d_X12_operand_121 rfl (fun c121 => ?_) (fun c121 => ?_)
          · refine Tr.pick [0] (ls2 := [(0, (2, 120))]) rfl ?_
            exact J166 _ hS k120_120_3 k120_120_36 k120_120_4 k120_120_43 k120_120_44 k120_120_46 k120_120_5 k120_120_50 k120_120_6 k120_120_7 k120_120_8 k120_136_1 k120_145_g120_431n1 k120_147_g120_431n1 k120_9001_0 k120_9002_0 k120_9004_0 k120_9005_0 k120_9010_0 (by first | exact (hd_o t120_0) | exact (hd_o t120_0).elim (fun h1 => by omega) (fun h1 => by omega)) (by omega) (by first | exact (hd_o t120_2) | exact (hd_o t120_2).elim (fun h1 => by omega) (fun h1 => h1.elim (fun h1 => by omega) (fun h1 => by omega))) (by and_intros <;> omega) (by first | exact (hd_o t120_4) | exact (hd_o t120_4).elim (fun h1 => by omega) (fun h1 => by omega))
          · have c121b : 1 ≤ q33_0 ∧ q33_0 ≤ 1 := by omega
            replace c121 := hd_i c121
            refine Tr.aload_n (pc := 124) (i := 0) d_X12_operand_124 rfl rfl ?_
            refine Tr.ldc2 (pc := 125) d_X12_operand_125 kl_12_445 (by decide) ?_
            refine Tr.callV (pc := 128) (as := [_]) d_X12_operand_128 s_12_484 ok_X12_isWord rfl rfl (Nat.le_of_ble_eq_true rfl) (Nat.le_of_ble_eq_true rfl) (by decide) (ty_120 hS.1.1) ?_
            refine Tr.imp (Tr.deep (by decide) (sp_X12_isWord_120 hS.1.wk 1751477348 (by omega))) ?_
            rintro M128 _ ⟨h128, r128, rfl, lr128, ur128, z128_0⟩
            have h128 := St.rn h128 (Pm1.of hS.1.2.2.2.2 (fun _ => St.ka h128 (by decide) (by decide) (by decide)) (fun _ => St.ka h128 (by decide) (by decide) (by decide)) (fun _ => St.ka h128 (by decide) (by decide) (by decide)) (fun _ => St.ka h128 (by decide) (by decide) (by decide)) (fun _ => St.ka h128 (by decide) (by decide) (by decide)) (fun _ => St.ka h128 (by decide) (by decide) (by decide)) (fun _ => St.ka h128 (by decide) (by decide) (by decide)) (fun _ => St.ka h128 (by decide) (by decide) (by decide)) (fun _ => St.ka h128 (by decide) (by decide) (by decide)) (fun _ => St.ka h128 (by decide) (by decide) (by decide)) (St.kp h128 (by decide) (by decide) (by decide)) (St.kp h128 (by decide) (by decide) (by decide)) (St.kp h128 (by decide) (by decide) (by decide)) (St.kp h128 (by decide) (by decide) (by decide)) (St.kp h128 (by decide) (by decide) (by decide)) (St.kp h128 (by decide) (by decide) (by decide)) (St.kp h128 (by decide) (by decide) (by decide)) (St.kp h128 (by decide) (by decide) (by decide)) (St.kp h128 (by decide) (by decide) (by decide)) (St.kp h128 (by decide) (by decide) (by decide)) (St.kp h128 (by decide) (by decide) (by decide)))
            have hS := St.tr hS h128 (by decide) (by decide)
            have ka128_120_3 : rd M128 120 3 = g120_3 := ((St.kp h128 (by decide) (by decide) (by decide)).trans k120_120_3)
            have ka128_120_7 : rd M128 120 7 = g120_7 := ((St.kp h128 (by decide) (by decide) (by decide)).trans k120_120_7)
            rewrite [ka128_120_3, ka128_120_7] at z128_0
            replace z128_0 := hd_i z128_0
            refine Tr.sc [(0, r128)] rfl ?_
            refine Tr.if_eq (pc := 131) (tgt := 166) d_X12_operand_131 rfl (fun c131 => ?_) (fun c131 => ?_)
            · refine Tr.pick [0] (ls2 := [(0, (2, 120))]) rfl ?_
              exact J166 _ hS ((St.kp h128 (by decide) (by decide) (by decide)).trans k120_120_3) ((St.kp h128 (by decide) (by decide) (by decide)).trans k120_120_36) ((St.kp h128 (by decide) (by decide) (by decide)).trans k120_120_4) ((St.kp h128 (by decide) (by decide) (by decide)).trans k120_120_43) ((St.kp h128 (by decide) (by decide) (by decide)).trans k120_120_44) ((St.kp h128 (by decide) (by decide) (by decide)).trans k120_120_46) ((St.kp h128 (by decide) (by decide) (by decide)).trans k120_120_5) ((St.kp h128 (by decide) (by decide) (by decide)).trans k120_120_50) ((St.kp h128 (by decide) (by decide) (by decide)).trans k120_120_6) ((St.kp h128 (by decide) (by decide) (by decide)).trans k120_120_7) ((St.kp h128 (by decide) (by decide) (by decide)).trans k120_120_8) ((St.kp h128 (by decide) (by decide) (by decide)).trans k120_136_1) ((St.ka h128 (by decide) (by decide) (by decide)).trans k120_145_g120_431n1) ((St.ka h128 (by decide) (by decide) (by decide)).trans k120_147_g120_431n1) ((nb2v_of (fun j => ((St.ka h128 (by decide) (by decide) (by decide)).trans rfl)) ((St.kp h128 (by decide) (by decide) (by decide)).trans rfl)).trans k120_9001_0) ((n4v_of (fun j => ((St.ka h128 (by decide) (by decide) (by decide)).trans rfl)) ((St.kp h128 (by decide) (by decide) (by decide)).trans rfl)).trans k120_9002_0) ((Dv1_of (fun j => ((St.ka h128 (by decide) (by decide) (by decide)).trans rfl)) (fun j => ((St.ka h128 (by decide) (by decide) (by decide)).trans rfl)) ((St.kp h128 (by decide) (by decide) (by decide)).trans rfl) ((St.kp h128 (by decide) (by decide) (by decide)).trans rfl)).trans k120_9004_0) ((fr0_of (fun j => ((St.ka h128 (by decide) (by decide) (by decide)).trans rfl))).trans k120_9005_0) ((tav_of ((St.kp h128 (by decide) (by decide) (by decide)).trans rfl) ((St.kp h128 (by decide) (by decide) (by decide)).trans rfl)).trans k120_9010_0) (by first | exact (hd_o t120_0) | exact (hd_o t120_0).elim (fun h1 => by omega) (fun h1 => by omega)) (by omega) (by first | exact (hd_o t120_2) | exact (hd_o t120_2).elim (fun h1 => by omega) (fun h1 => h1.elim (fun h1 => by omega) (fun h1 => by omega))) (by and_intros <;> omega) (by first | exact (hd_o t120_4) | exact (hd_o t120_4).elim (fun h1 => by omega) (fun h1 => by omega))
            · have c131b : 1 ≤ r128 ∧ r128 ≤ 1 := by omega
              replace c131 := hd_i c131
              refine Tr.aload_n (pc := 134) (i := 0) d_X12_operand_134 rfl rfl ?_
              refine Tr.callV (pc := 135) (as := []) d_X12_operand_135 s_12_396 ok_X12_next rfl rfl (Nat.le_of_ble_eq_true rfl) (Nat.le_of_ble_eq_true rfl) (by decide) (ty_120 hS.1.1) ?_
              have kb135_120_3 : rd M128 120 3 = g120_3 := ((St.kp h128 (by decide) (by decide) (by decide)).trans k120_120_3)
              have kb135_120_5 : rd M128 120 5 = g120_5 := ((St.kp h128 (by decide) (by decide) (by decide)).trans k120_120_5)
              have kb135_120_8 : rd M128 120 8 = g120_8 := ((St.kp h128 (by decide) (by decide) (by decide)).trans k120_120_8)
              have kb135_9010_0 : tav M128 = g9010_0 := ((tav_of ((St.kp h128 (by decide) (by decide) (by decide)).trans rfl) ((St.kp h128 (by decide) (by decide) (by decide)).trans rfl)).trans k120_9010_0)
              refine Tr.imp (Tr.deep (by decide) (sp_X12_next_120 hS.1 )) ?_
              rintro M135 _ ⟨h135, rfl, z135_0, z135_1, z135_2, z135_3, z135_4, z135_5, z135_6⟩
              have hS := St.tr hS h135 (by decide) (by decide)
              obtain ⟨s135_120_3, es135_120_3⟩ : ∃ v, rd M135 120 3 = v := ⟨_, rfl⟩
              have bs135_120_3 : 0 ≤ s135_120_3 ∧ s135_120_3 ≤ 3 := by rw [← es135_120_3]; exact ir_120_3 hS.1.2.1
              obtain ⟨s135_120_4, es135_120_4⟩ : ∃ v, rd M135 120 4 = v := ⟨_, rfl⟩
              have bs135_120_4 : 0 ≤ s135_120_4 ∧ s135_120_4 ≤ 900 := by rw [← es135_120_4]; exact ir_120_4 hS.1.2.1
              obtain ⟨s135_120_5, es135_120_5⟩ : ∃ v, rd M135 120 5 = v := ⟨_, rfl⟩
              have bs135_120_5 : 0 ≤ s135_120_5 ∧ s135_120_5 ≤ 900 := by rw [← es135_120_5]; exact ir_120_5 hS.1.2.1
              obtain ⟨s135_120_7, es135_120_7⟩ : ∃ v, rd M135 120 7 = v := ⟨_, rfl⟩
              have bs135_120_7 : (-9223372036854775808) ≤ s135_120_7 ∧ s135_120_7 ≤ 9223372036854775807 := by rw [← es135_120_7]; exact ir_120_7 hS.1.2.1
              obtain ⟨s135_120_8, es135_120_8⟩ : ∃ v, rd M135 120 8 = v := ⟨_, rfl⟩
              have bs135_120_8 : 0 ≤ s135_120_8 ∧ s135_120_8 ≤ 5 := by rw [← es135_120_8]; exact ir_120_8 hS.1.2.1
              obtain ⟨s135_9010_0, es135_9010_0⟩ : ∃ v, tav M135 = v := ⟨_, rfl⟩
              have bs135_9010_0 : (-1) ≤ s135_9010_0 ∧ s135_9010_0 ≤ 1800 := by rw [← es135_9010_0]; exact (tav_b hS.1.2.1)
              rewrite [es135_120_3, es135_120_4, es135_120_5] at z135_0
              replace z135_0 := hd_i z135_0
              rewrite [es135_120_4, es135_120_5] at z135_1
              rewrite [es135_120_3, es135_120_4, es135_120_5, es135_120_7] at z135_2
              replace z135_2 := hd_i z135_2
              rewrite [es135_120_4, kb135_120_5] at z135_3
              rewrite [es135_9010_0, kb135_9010_0] at z135_4
              rewrite [es135_9010_0, kb135_120_3, kb135_9010_0] at z135_5
              replace z135_5 := hd_i z135_5
              rewrite [es135_120_8, kb135_120_8] at z135_6
              replace z135_6 := hd_i z135_6
              refine Tr.sc [] rfl ?_
              refine Tr.aload_n (pc := 138) (i := 0) d_X12_operand_138 rfl rfl ?_
              refine Tr.iconst (pc := 139) d_X12_operand_139 (by decide) ?_
              refine Tr.callV (pc := 140) (as := [_]) d_X12_operand_140 s_12_493 ok_X12_asked rfl rfl (Nat.le_of_ble_eq_true rfl) (Nat.le_of_ble_eq_true rfl) (by decide) (ty_120 hS.1.1) ?_
              have kb140_120_3 : rd M135 120 3 = s135_120_3 := es135_120_3
              have kb140_120_4 : rd M135 120 4 = s135_120_4 := es135_120_4
              have kb140_120_5 : rd M135 120 5 = s135_120_5 := es135_120_5
              have kb140_120_7 : rd M135 120 7 = s135_120_7 := es135_120_7
              have kb140_120_8 : rd M135 120 8 = s135_120_8 := es135_120_8
              have kb140_9010_0 : tav M135 = s135_9010_0 := es135_9010_0
              refine Tr.imp (Tr.deep (by decide) (sp_X12_asked_120 hS.1 ((St.kp hS (by decide) (by decide) (by decide)).trans en_120_37) 0 (by omega) (by first | exact (hd_o z135_0) | exact (hd_o z135_0).elim (fun h1 => by omega) (fun h1 => by omega)) (by omega) (by first | exact (hd_o z135_2) | exact (hd_o z135_2).elim (fun h1 => by omega) (fun h1 => h1.elim (fun h1 => by omega) (fun h1 => by omega))))) ?_
              rintro M140 _ ⟨h140, r140, rfl, lr140, ur140, z140_0, z140_1, z140_2, z140_3, z140_4, z140_5, z140_6⟩
              have hS := St.tr hS h140 (by decide) (by decide)
              obtain ⟨s140_120_3, es140_120_3⟩ : ∃ v, rd M140 120 3 = v := ⟨_, rfl⟩
              have bs140_120_3 : 0 ≤ s140_120_3 ∧ s140_120_3 ≤ 3 := by rw [← es140_120_3]; exact ir_120_3 hS.1.2.1
              obtain ⟨s140_120_4, es140_120_4⟩ : ∃ v, rd M140 120 4 = v := ⟨_, rfl⟩
              have bs140_120_4 : 0 ≤ s140_120_4 ∧ s140_120_4 ≤ 900 := by rw [← es140_120_4]; exact ir_120_4 hS.1.2.1
              obtain ⟨s140_120_5, es140_120_5⟩ : ∃ v, rd M140 120 5 = v := ⟨_, rfl⟩
              have bs140_120_5 : 0 ≤ s140_120_5 ∧ s140_120_5 ≤ 900 := by rw [← es140_120_5]; exact ir_120_5 hS.1.2.1
              obtain ⟨s140_120_7, es140_120_7⟩ : ∃ v, rd M140 120 7 = v := ⟨_, rfl⟩
              have bs140_120_7 : (-9223372036854775808) ≤ s140_120_7 ∧ s140_120_7 ≤ 9223372036854775807 := by rw [← es140_120_7]; exact ir_120_7 hS.1.2.1
              obtain ⟨s140_120_8, es140_120_8⟩ : ∃ v, rd M140 120 8 = v := ⟨_, rfl⟩
              have bs140_120_8 : 0 ≤ s140_120_8 ∧ s140_120_8 ≤ 5 := by rw [← es140_120_8]; exact ir_120_8 hS.1.2.1
              obtain ⟨s140_9010_0, es140_9010_0⟩ : ∃ v, tav M140 = v := ⟨_, rfl⟩
              have bs140_9010_0 : (-1) ≤ s140_9010_0 ∧ s140_9010_0 ≤ 1800 := by rw [← es140_9010_0]; exact (tav_b hS.1.2.1)
              rewrite [es140_120_3, es140_120_4, es140_120_5] at z140_0
              replace z140_0 := hd_i z140_0
              rewrite [es140_120_4, es140_120_5] at z140_1
              rewrite [es140_120_3, es140_120_4, es140_120_5, es140_120_7] at z140_2
              replace z140_2 := hd_i z140_2
              rewrite [es140_120_4, es140_120_5, es140_9010_0, kb140_120_4, kb140_120_5, kb140_9010_0] at z140_3
              rewrite [es140_120_8, kb140_120_8] at z140_4
              replace z140_4 := hd_i z140_4
              rewrite [es140_120_8, es140_9010_0, kb140_9010_0] at z140_5
              replace z140_5 := hd_i z140_5
              rewrite [es140_120_8] at z140_6
              replace z140_6 := hd_i z140_6
              refine Tr.sc [(0, r140)] rfl ?_
              refine Tr.istore_n (pc := 143) (i := 3) (ls2 := [(3, (0, r140)), (0, (2, 120)), (1, (0, (g120_43 - 1))), (2, (0, q33_0))]) d_X12_operand_143 rfl (by decide) rfl ?_
              refine Tr.aload_n (pc := 144) (i := 0) d_X12_operand_144 rfl rfl ?_
              refine Tr.getf (pc := 145) d_X12_operand_145 f_12_36 (by decide) (by decide) (ty_120 hS.1.1) ?_
              refine Tr.tp s140_120_8 es140_120_8 ?_
              have J157 : ∀ (M : Mem) (u157_120_6 u157_120_36 u157_9004_0 : Int), St Pm1 ws_X12_operand_120 as_X12_operand_120 M0 M → ((-2147483648) ≤ u157_120_6 ∧ u157_120_6 ≤ 2147483647) → (0 ≤ u157_120_36 ∧ u157_120_36 ≤ 900) → ((-1000) ≤ u157_9004_0 ∧ u157_9004_0 ≤ 1000) → rd M 120 3 = s140_120_3 → rd M 120 36 = u157_120_36 → rd M 120 4 = s140_120_4 → rd M 120 43 = g120_43 → rd M 120 44 = g120_44 → rd M 120 46 = g120_46 → rd M 120 5 = s140_120_5 → rd M 120 50 = g120_50 → rd M 120 6 = u157_120_6 → rd M 120 7 = s140_120_7 → rd M 120 8 = s140_120_8 → rd M 136 1 = g136_1 → rd M 145 (g120_43 - 1) = r12 → rd M 147 (g120_43 - 1) = 0 → nb2v M = g9001_0 → n4v M = g9002_0 → Dv1 M = u157_9004_0 → fr0 M = g9005_0 → tav M = s140_9010_0 → (1 ≤ s140_120_8 ∨ g9001_0 + g9002_0 + 1 ≤ u157_9004_0) → (u157_120_36 + g120_46 + g120_44 ≤ s140_120_4) → (2 * g120_46 + 1 ≤ s140_120_4) → Tr l K 3 mX12_operand 157 [(0, (2, 120)), (1, (0, (g120_43 - 1)))] [] M (q_X12_operand_120 M0) := by sorry
              refine Tr.if_ne (pc := 148) (tgt := 157) d_X12_operand_148 rfl (fun c148 => ?_) (fun c148 => ?_)
              · have c148b : 1 ≤ s140_120_8 ∧ s140_120_8 ≤ 5 := by omega
                replace c148 := hd_i c148
                refine Tr.pick [1, 2] (ls2 := [(0, (2, 120)), (1, (0, (g120_43 - 1)))]) rfl ?_
                obtain ⟨w157p148_120_6, ew157p148_120_6⟩ : ∃ v, rd M140 120 6 = v := ⟨_, rfl⟩
                have bw157p148_120_6 : (-2147483648) ≤ w157p148_120_6 ∧ w157p148_120_6 ≤ 2147483647 := by rw [← ew157p148_120_6]; exact ir_120_6 hS.1.2.1
                exact J157 _ _ _ _ hS (by and_intros <;> omega) (by and_intros <;> omega) (by and_intros <;> omega) es140_120_3 ((St.kp h140 (by decide) (by decide) (by decide)).trans ((St.kp h135 (by decide) (by decide) (by decide)).trans ((St.kp h128 (by decide) (by decide) (by decide)).trans k120_120_36))) es140_120_4 ((St.kp h140 (by decide) (by decide) (by decide)).trans ((St.kp h135 (by decide) (by decide) (by decide)).trans ((St.kp h128 (by decide) (by decide) (by decide)).trans k120_120_43))) ((St.kp h140 (by decide) (by decide) (by decide)).trans ((St.kp h135 (by decide) (by decide) (by decide)).trans ((St.kp h128 (by decide) (by decide) (by decide)).trans k120_120_44))) ((St.kp h140 (by decide) (by decide) (by decide)).trans ((St.kp h135 (by decide) (by decide) (by decide)).trans ((St.kp h128 (by decide) (by decide) (by decide)).trans k120_120_46))) es140_120_5 ((St.kp h140 (by decide) (by decide) (by decide)).trans ((St.kp h135 (by decide) (by decide) (by decide)).trans ((St.kp h128 (by decide) (by decide) (by decide)).trans k120_120_50))) ew157p148_120_6 es140_120_7 es140_120_8 ((St.kp h140 (by decide) (by decide) (by decide)).trans ((St.kp h135 (by decide) (by decide) (by decide)).trans ((St.kp h128 (by decide) (by decide) (by decide)).trans k120_136_1))) ((St.ka h140 (by decide) (by decide) (by decide)).trans ((St.ka h135 (by decide) (by decide) (by decide)).trans ((St.ka h128 (by decide) (by decide) (by decide)).trans k120_145_g120_431n1))) ((St.ka h140 (by decide) (by decide) (by decide)).trans ((St.ka h135 (by decide) (by decide) (by decide)).trans ((St.ka h128 (by decide) (by decide) (by decide)).trans k120_147_g120_431n1))) ((nb2v_of (fun j => ((St.ka h140 (by decide) (by decide) (by decide)).trans ((St.ka h135 (by decide) (by decide) (by decide)).trans ((St.ka h128 (by decide) (by decide) (by decide)).trans rfl)))) ((St.kp h140 (by decide) (by decide) (by decide)).trans ((St.kp h135 (by decide) (by decide) (by decide)).trans ((St.kp h128 (by decide) (by decide) (by decide)).trans rfl)))).trans k120_9001_0) ((n4v_of (fun j => ((St.ka h140 (by decide) (by decide) (by decide)).trans ((St.ka h135 (by decide) (by decide) (by decide)).trans ((St.ka h128 (by decide) (by decide) (by decide)).trans rfl)))) ((St.kp h140 (by decide) (by decide) (by decide)).trans ((St.kp h135 (by decide) (by decide) (by decide)).trans ((St.kp h128 (by decide) (by decide) (by decide)).trans rfl)))).trans k120_9002_0) ((Dv1_of (fun j => ((St.ka h140 (by decide) (by decide) (by decide)).trans ((St.ka h135 (by decide) (by decide) (by decide)).trans ((St.ka h128 (by decide) (by decide) (by decide)).trans rfl)))) (fun j => ((St.ka h140 (by decide) (by decide) (by decide)).trans ((St.ka h135 (by decide) (by decide) (by decide)).trans ((St.ka h128 (by decide) (by decide) (by decide)).trans rfl)))) ((St.kp h140 (by decide) (by decide) (by decide)).trans ((St.kp h135 (by decide) (by decide) (by decide)).trans ((St.kp h128 (by decide) (by decide) (by decide)).trans rfl))) ((St.kp h140 (by decide) (by decide) (by decide)).trans ((St.kp h135 (by decide) (by decide) (by decide)).trans ((St.kp h128 (by decide) (by decide) (by decide)).trans rfl)))).trans k120_9004_0) ((fr0_of (fun j => ((St.ka h140 (by decide) (by decide) (by decide)).trans ((St.ka h135 (by decide) (by decide) (by decide)).trans ((St.ka h128 (by decide) (by decide) (by decide)).trans rfl))))).trans k120_9005_0) es140_9010_0 (by omega) (by omega) (by exact (hd_o z128_0).elim (fun h1 => (hd_o t120_0).elim (fun h2 => by omega) (fun h2 => by omega)) (fun h1 => by omega))
              · refine Tr.aload_n (pc := 151) (i := 0) d_X12_operand_151 rfl rfl ?_
                refine Tr.iconst (pc := 152) d_X12_operand_152 (by decide) ?_
                refine Tr.iload_n (pc := 153) (i := 3) d_X12_operand_153 rfl rfl ?_
                refine Tr.callV (pc := 154) (as := [_, _]) d_X12_operand_154 s_12_475 ok_X12_add rfl rfl (Nat.le_of_ble_eq_true rfl) (Nat.le_of_ble_eq_true rfl) (by decide) (ty_120 hS.1.1) ?_
                have kb154_120_36 : rd M140 120 36 = g120_36 := ((St.kp h140 (by decide) (by decide) (by decide)).trans ((St.kp h135 (by decide) (by decide) (by decide)).trans ((St.kp h128 (by decide) (by decide) (by decide)).trans k120_120_36)))
                have kb154_136_1 : rd M140 136 1 = g136_1 := ((St.kp h140 (by decide) (by decide) (by decide)).trans ((St.kp h135 (by decide) (by decide) (by decide)).trans ((St.kp h128 (by decide) (by decide) (by decide)).trans k120_136_1)))
                have kb154_9004_0 : Dv1 M140 = g9004_0 := ((Dv1_of (fun j => ((St.ka h140 (by decide) (by decide) (by decide)).trans ((St.ka h135 (by decide) (by decide) (by decide)).trans ((St.ka h128 (by decide) (by decide) (by decide)).trans rfl)))) (fun j => ((St.ka h140 (by decide) (by decide) (by decide)).trans ((St.ka h135 (by decide) (by decide) (by decide)).trans ((St.ka h128 (by decide) (by decide) (by decide)).trans rfl)))) ((St.kp h140 (by decide) (by decide) (by decide)).trans ((St.kp h135 (by decide) (by decide) (by decide)).trans ((St.kp h128 (by decide) (by decide) (by decide)).trans rfl))) ((St.kp h140 (by decide) (by decide) (by decide)).trans ((St.kp h135 (by decide) (by decide) (by decide)).trans ((St.kp h128 (by decide) (by decide) (by decide)).trans rfl)))).trans k120_9004_0)
                refine Tr.imp (Tr.deep (by decide) (sp_X12_add_120_w1 hS.1 ((St.kp hS (by decide) (by decide) (by decide)).trans en_120_37) 4 (by omega) r140 (by and_intros <;> omega) (by exact (hd_o z140_6).elim (fun h1 => by omega) (fun h1 => by omega)) (by exact (hd_o z128_0).elim (fun h1 => (hd_o t120_0).elim (fun h2 => by omega) (fun h2 => by omega)) (fun h1 => by omega)) (by omega) (by omega) (by omega))) ?_
                rintro M154 _ ⟨h154, rfl, z154_0, z154_1⟩
                have hS := St.tr hS h154 (by decide) (by decide)
                obtain ⟨s154_120_36, es154_120_36⟩ : ∃ v, rd M154 120 36 = v := ⟨_, rfl⟩
                have bs154_120_36 : 0 ≤ s154_120_36 ∧ s154_120_36 ≤ 900 := by rw [← es154_120_36]; exact ir_120_36 hS.1.2.1
                obtain ⟨s154_9004_0, es154_9004_0⟩ : ∃ v, Dv1 M154 = v := ⟨_, rfl⟩
                have bs154_9004_0 : (-1000) ≤ s154_9004_0 ∧ s154_9004_0 ≤ 1000 := by rw [← es154_9004_0]; exact (Dv1_b hS.1.2.1)
                rewrite [es154_120_36, kb154_120_36] at z154_0
                rewrite [es154_9004_0, kb154_9004_0] at z154_1
                replace z154_1 := hd_i z154_1
                refine Tr.sc [] rfl ?_
                refine Tr.pick [1, 2] (ls2 := [(0, (2, 120)), (1, (0, (g120_43 - 1)))]) rfl ?_
                obtain ⟨w157p154_120_6, ew157p154_120_6⟩ : ∃ v, rd M154 120 6 = v := ⟨_, rfl⟩
                have bw157p154_120_6 : (-2147483648) ≤ w157p154_120_6 ∧ w157p154_120_6 ≤ 2147483647 := by rw [← ew157p154_120_6]; exact ir_120_6 hS.1.2.1
                exact J157 _ _ _ _ hS (by and_intros <;> omega) (by and_intros <;> omega) (by and_intros <;> omega) ((St.kp h154 (by decide) (by decide) (by decide)).trans es140_120_3) es154_120_36 ((St.kp h154 (by decide) (by decide) (by decide)).trans es140_120_4) ((St.kp h154 (by decide) (by decide) (by decide)).trans ((St.kp h140 (by decide) (by decide) (by decide)).trans ((St.kp h135 (by decide) (by decide) (by decide)).trans ((St.kp h128 (by decide) (by decide) (by decide)).trans k120_120_43)))) ((St.kp h154 (by decide) (by decide) (by decide)).trans ((St.kp h140 (by decide) (by decide) (by decide)).trans ((St.kp h135 (by decide) (by decide) (by decide)).trans ((St.kp h128 (by decide) (by decide) (by decide)).trans k120_120_44)))) ((St.kp h154 (by decide) (by decide) (by decide)).trans ((St.kp h140 (by decide) (by decide) (by decide)).trans ((St.kp h135 (by decide) (by decide) (by decide)).trans ((St.kp h128 (by decide) (by decide) (by decide)).trans k120_120_46)))) ((St.kp h154 (by decide) (by decide) (by decide)).trans es140_120_5) ((St.kp h154 (by decide) (by decide) (by decide)).trans ((St.kp h140 (by decide) (by decide) (by decide)).trans ((St.kp h135 (by decide) (by decide) (by decide)).trans ((St.kp h128 (by decide) (by decide) (by decide)).trans k120_120_50)))) ew157p154_120_6 ((St.kp h154 (by decide) (by decide) (by decide)).trans es140_120_7) ((St.kp h154 (by decide) (by decide) (by decide)).trans es140_120_8) ((St.kp h154 (by decide) (by decide) (by decide)).trans ((St.kp h140 (by decide) (by decide) (by decide)).trans ((St.kp h135 (by decide) (by decide) (by decide)).trans ((St.kp h128 (by decide) (by decide) (by decide)).trans k120_136_1)))) ((St.ka h154 (by decide) (by decide) (by decide)).trans ((St.ka h140 (by decide) (by decide) (by decide)).trans ((St.ka h135 (by decide) (by decide) (by decide)).trans ((St.ka h128 (by decide) (by decide) (by decide)).trans k120_145_g120_431n1)))) ((St.ka h154 (by decide) (by decide) (by decide)).trans ((St.ka h140 (by decide) (by decide) (by decide)).trans ((St.ka h135 (by decide) (by decide) (by decide)).trans ((St.ka h128 (by decide) (by decide) (by decide)).trans k120_147_g120_431n1)))) ((nb2v_of (fun j => ((St.ka h154 (by decide) (by decide) (by decide)).trans ((St.ka h140 (by decide) (by decide) (by decide)).trans ((St.ka h135 (by decide) (by decide) (by decide)).trans ((St.ka h128 (by decide) (by decide) (by decide)).trans rfl))))) ((St.kp h154 (by decide) (by decide) (by decide)).trans ((St.kp h140 (by decide) (by decide) (by decide)).trans ((St.kp h135 (by decide) (by decide) (by decide)).trans ((St.kp h128 (by decide) (by decide) (by decide)).trans rfl))))).trans k120_9001_0) ((n4v_of (fun j => ((St.ka h154 (by decide) (by decide) (by decide)).trans ((St.ka h140 (by decide) (by decide) (by decide)).trans ((St.ka h135 (by decide) (by decide) (by decide)).trans ((St.ka h128 (by decide) (by decide) (by decide)).trans rfl))))) ((St.kp h154 (by decide) (by decide) (by decide)).trans ((St.kp h140 (by decide) (by decide) (by decide)).trans ((St.kp h135 (by decide) (by decide) (by decide)).trans ((St.kp h128 (by decide) (by decide) (by decide)).trans rfl))))).trans k120_9002_0) es154_9004_0 ((fr0_of (fun j => ((St.ka h154 (by decide) (by decide) (by decide)).trans ((St.ka h140 (by decide) (by decide) (by decide)).trans ((St.ka h135 (by decide) (by decide) (by decide)).trans ((St.ka h128 (by decide) (by decide) (by decide)).trans rfl)))))).trans k120_9005_0) ((tav_of ((St.kp h154 (by decide) (by decide) (by decide)).trans rfl) ((St.kp h154 (by decide) (by decide) (by decide)).trans rfl)).trans es140_9010_0) (by exact (hd_o z154_1).elim (fun h1 => by omega) (fun h1 => h1.elim (fun h1 => by omega) (fun h1 => by omega))) (by exact (hd_o z128_0).elim (fun h1 => (hd_o t120_0).elim (fun h2 => by omega) (fun h2 => by omega)) (fun h1 => by omega)) (by exact (hd_o z128_0).elim (fun h1 => (hd_o t120_0).elim (fun h2 => by omega) (fun h2 => by omega)) (fun h1 => by omega))
        refine Tr.if_eq (pc := 88) (tgt := 120) d_X12_operand_88 rfl (fun c88 => ?_) (fun c88 => ?_)
        · refine Tr.pick [0, 1, 2] (ls2 := [(0, (2, 120)), (1, (0, (g120_43 - 1))), (2, (0, q33_0))]) rfl ?_
          exact J120 _ hS k87_120_3 k87_120_36 k87_120_4 k87_120_43 k87_120_44 k87_120_46 k87_120_5 k87_120_50 k87_120_6 k87_120_7 k87_120_8 k87_136_1 k87_145_g120_431n1 k87_147_g120_431n1 k87_9001_0 k87_9002_0 k87_9004_0 k87_9005_0 k87_9010_0 (by first | exact (hd_o t87_0) | exact (hd_o t87_0).elim (fun h1 => by omega) (fun h1 => by omega)) (by omega) (by first | exact (hd_o t87_2) | exact (hd_o t87_2).elim (fun h1 => by omega) (fun h1 => h1.elim (fun h1 => by omega) (fun h1 => by omega))) (by and_intros <;> omega) (by first | exact (hd_o t87_4) | exact (hd_o t87_4).elim (fun h1 => by omega) (fun h1 => by omega))
        · have c88b : 1 ≤ q33_0 ∧ q33_0 ≤ 1 := by omega
          replace c88 := hd_i c88
          refine Tr.aload_n (pc := 91) (i := 0) d_X12_operand_91 rfl rfl ?_
          refine Tr.ldc2 (pc := 92) d_X12_operand_92 kl_12_443 (by decide) ?_
          refine Tr.callV (pc := 95) (as := [_]) d_X12_operand_95 s_12_484 ok_X12_isWord rfl rfl (Nat.le_of_ble_eq_true rfl) (Nat.le_of_ble_eq_true rfl) (by decide) (ty_120 hS.1.1) ?_
          refine Tr.imp (Tr.deep (by decide) (sp_X12_isWord_120 hS.1.wk 6384748 (by omega))) ?_
          rintro M95 _ ⟨h95, r95, rfl, lr95, ur95, z95_0⟩
          have h95 := St.rn h95 (Pm1.of hS.1.2.2.2.2 (fun _ => St.ka h95 (by decide) (by decide) (by decide)) (fun _ => St.ka h95 (by decide) (by decide) (by decide)) (fun _ => St.ka h95 (by decide) (by decide) (by decide)) (fun _ => St.ka h95 (by decide) (by decide) (by decide)) (fun _ => St.ka h95 (by decide) (by decide) (by decide)) (fun _ => St.ka h95 (by decide) (by decide) (by decide)) (fun _ => St.ka h95 (by decide) (by decide) (by decide)) (fun _ => St.ka h95 (by decide) (by decide) (by decide)) (fun _ => St.ka h95 (by decide) (by decide) (by decide)) (fun _ => St.ka h95 (by decide) (by decide) (by decide)) (St.kp h95 (by decide) (by decide) (by decide)) (St.kp h95 (by decide) (by decide) (by decide)) (St.kp h95 (by decide) (by decide) (by decide)) (St.kp h95 (by decide) (by decide) (by decide)) (St.kp h95 (by decide) (by decide) (by decide)) (St.kp h95 (by decide) (by decide) (by decide)) (St.kp h95 (by decide) (by decide) (by decide)) (St.kp h95 (by decide) (by decide) (by decide)) (St.kp h95 (by decide) (by decide) (by decide)) (St.kp h95 (by decide) (by decide) (by decide)) (St.kp h95 (by decide) (by decide) (by decide)))
          have hS := St.tr hS h95 (by decide) (by decide)
          have ka95_120_3 : rd M95 120 3 = g120_3 := ((St.kp h95 (by decide) (by decide) (by decide)).trans k87_120_3)
          have ka95_120_7 : rd M95 120 7 = g120_7 := ((St.kp h95 (by decide) (by decide) (by decide)).trans k87_120_7)
          rewrite [ka95_120_3, ka95_120_7] at z95_0
          replace z95_0 := hd_i z95_0
          refine Tr.sc [(0, r95)] rfl ?_
          refine Tr.if_eq (pc := 98) (tgt := 120) d_X12_operand_98 rfl (fun c98 => ?_) (fun c98 => ?_)
          · refine Tr.pick [0, 1, 2] (ls2 := [(0, (2, 120)), (1, (0, (g120_43 - 1))), (2, (0, q33_0))]) rfl ?_
            exact J120 _ hS ((St.kp h95 (by decide) (by decide) (by decide)).trans k87_120_3) ((St.kp h95 (by decide) (by decide) (by decide)).trans k87_120_36) ((St.kp h95 (by decide) (by decide) (by decide)).trans k87_120_4) ((St.kp h95 (by decide) (by decide) (by decide)).trans k87_120_43) ((St.kp h95 (by decide) (by decide) (by decide)).trans k87_120_44) ((St.kp h95 (by decide) (by decide) (by decide)).trans k87_120_46) ((St.kp h95 (by decide) (by decide) (by decide)).trans k87_120_5) ((St.kp h95 (by decide) (by decide) (by decide)).trans k87_120_50) ((St.kp h95 (by decide) (by decide) (by decide)).trans k87_120_6) ((St.kp h95 (by decide) (by decide) (by decide)).trans k87_120_7) ((St.kp h95 (by decide) (by decide) (by decide)).trans k87_120_8) ((St.kp h95 (by decide) (by decide) (by decide)).trans k87_136_1) ((St.ka h95 (by decide) (by decide) (by decide)).trans k87_145_g120_431n1) ((St.ka h95 (by decide) (by decide) (by decide)).trans k87_147_g120_431n1) ((nb2v_of (fun j => ((St.ka h95 (by decide) (by decide) (by decide)).trans rfl)) ((St.kp h95 (by decide) (by decide) (by decide)).trans rfl)).trans k87_9001_0) ((n4v_of (fun j => ((St.ka h95 (by decide) (by decide) (by decide)).trans rfl)) ((St.kp h95 (by decide) (by decide) (by decide)).trans rfl)).trans k87_9002_0) ((Dv1_of (fun j => ((St.ka h95 (by decide) (by decide) (by decide)).trans rfl)) (fun j => ((St.ka h95 (by decide) (by decide) (by decide)).trans rfl)) ((St.kp h95 (by decide) (by decide) (by decide)).trans rfl) ((St.kp h95 (by decide) (by decide) (by decide)).trans rfl)).trans k87_9004_0) ((fr0_of (fun j => ((St.ka h95 (by decide) (by decide) (by decide)).trans rfl))).trans k87_9005_0) ((tav_of ((St.kp h95 (by decide) (by decide) (by decide)).trans rfl) ((St.kp h95 (by decide) (by decide) (by decide)).trans rfl)).trans k87_9010_0) (by first | exact (hd_o t87_0) | exact (hd_o t87_0).elim (fun h1 => by omega) (fun h1 => by omega)) (by omega) (by first | exact (hd_o t87_2) | exact (hd_o t87_2).elim (fun h1 => by omega) (fun h1 => h1.elim (fun h1 => by omega) (fun h1 => by omega))) (by and_intros <;> omega) (by first | exact (hd_o t87_4) | exact (hd_o t87_4).elim (fun h1 => by omega) (fun h1 => by omega))
          · have c98b : 1 ≤ r95 ∧ r95 ≤ 1 := by omega
            replace c98 := hd_i c98
            refine Tr.aload_n (pc := 101) (i := 0) d_X12_operand_101 rfl rfl ?_
            refine Tr.iconst (pc := 102) d_X12_operand_102 (by decide) ?_
            refine Tr.iconst (pc := 103) d_X12_operand_103 (by decide) ?_
            refine Tr.callV (pc := 104) (as := [_, _]) d_X12_operand_104 s_12_475 ok_X12_add rfl rfl (Nat.le_of_ble_eq_true rfl) (Nat.le_of_ble_eq_true rfl) (by decide) (ty_120 hS.1.1) ?_
            have kb104_120_36 : rd M95 120 36 = g120_36 := ((St.kp h95 (by decide) (by decide) (by decide)).trans k87_120_36)
            have kb104_136_1 : rd M95 136 1 = g136_1 := ((St.kp h95 (by decide) (by decide) (by decide)).trans k87_136_1)
            have kb104_9004_0 : Dv1 M95 = g9004_0 := ((Dv1_of (fun j => ((St.ka h95 (by decide) (by decide) (by decide)).trans rfl)) (fun j => ((St.ka h95 (by decide) (by decide) (by decide)).trans rfl)) ((St.kp h95 (by decide) (by decide) (by decide)).trans rfl) ((St.kp h95 (by decide) (by decide) (by decide)).trans rfl)).trans k87_9004_0)
            refine Tr.imp (Tr.deep (by decide) (sp_X12_add_120 hS.1 ((St.kp hS (by decide) (by decide) (by decide)).trans en_120_37) 5 (by omega) 0 (by omega) (by omega) (by exact (hd_o z95_0).elim (fun h1 => (hd_o t87_0).elim (fun h2 => by omega) (fun h2 => by omega)) (fun h1 => by omega)) (by omega) (by omega) (by omega))) ?_
            rintro M104 _ ⟨h104, rfl, z104_0, z104_1⟩
            have hS := St.tr hS h104 (by decide) (by decide)
            obtain ⟨s104_120_36, es104_120_36⟩ : ∃ v, rd M104 120 36 = v := ⟨_, rfl⟩
            have bs104_120_36 : 0 ≤ s104_120_36 ∧ s104_120_36 ≤ 900 := by rw [← es104_120_36]; exact ir_120_36 hS.1.2.1
            obtain ⟨s104_9004_0, es104_9004_0⟩ : ∃ v, Dv1 M104 = v := ⟨_, rfl⟩
            have bs104_9004_0 : (-1000) ≤ s104_9004_0 ∧ s104_9004_0 ≤ 1000 := by rw [← es104_9004_0]; exact (Dv1_b hS.1.2.1)
            rewrite [es104_120_36, kb104_120_36] at z104_0
            rewrite [es104_9004_0, kb104_9004_0] at z104_1
            replace z104_1 := hd_i z104_1
            refine Tr.sc [] rfl ?_
            refine Tr.aload_n (pc := 107) (i := 0) d_X12_operand_107 rfl rfl ?_
            refine Tr.getf (pc := 108) d_X12_operand_108 f_12_130 (by decide) (by decide) (ty_120 hS.1.1) ?_
            refine Tr.tp 146 (fx_120_39 hS.1.1) ?_
            refine Tr.iload_n (pc := 111) (i := 1) d_X12_operand_111 rfl rfl ?_
            refine Tr.iconst (pc := 112) d_X12_operand_112 (by decide) ?_
            refine Tr.iastS (pc := 113) (P := St Pm1 ws_X12_operand_120 as_X12_operand_120 M0) d_X12_operand_113 (ty_146 hS.1.1) (by omega) (by omega) (sa_146 hS (by decide) (by omega) (Pm1.of hS.1.2.2.2.2 (fun _ => rd_wb _ rfl) (fun _ => rd_wb _ rfl) (fun _ => rd_wb _ rfl) (fun _ => rd_wb _ rfl) (fun _ => rd_wb _ rfl) (fun _ => rd_wb _ rfl) (fun _ => rd_wb _ rfl) (fun _ => rd_wb _ rfl) (fun _ => rd_wb _ rfl) (fun _ => rd_wb _ rfl) (rd_wb _ rfl) (rd_wb _ rfl) (rd_wb _ rfl) (rd_wb _ rfl) (rd_wb _ rfl) (rd_wb _ rfl) (rd_wb _ rfl) (rd_wb _ rfl) (rd_wb _ rfl) (rd_wb _ rfl) (rd_wb _ rfl))) (fun M113 hS w113 => ?_)
            refine Tr.aload_n (pc := 114) (i := 0) d_X12_operand_114 rfl rfl ?_
            refine Tr.callV (pc := 115) (as := []) d_X12_operand_115 s_12_396 ok_X12_next rfl rfl (Nat.le_of_ble_eq_true rfl) (Nat.le_of_ble_eq_true rfl) (by decide) (ty_120 hS.1.1) ?_
            have kb115_120_3 : rd M113 120 3 = g120_3 := ((Wr.b w113 rfl).trans ((St.kp h104 (by decide) (by decide) (by decide)).trans ((St.kp h95 (by decide) (by decide) (by decide)).trans k87_120_3)))
            have kb115_120_5 : rd M113 120 5 = g120_5 := ((Wr.b w113 rfl).trans ((St.kp h104 (by decide) (by decide) (by decide)).trans ((St.kp h95 (by decide) (by decide) (by decide)).trans k87_120_5)))
            have kb115_120_8 : rd M113 120 8 = g120_8 := ((Wr.b w113 rfl).trans ((St.kp h104 (by decide) (by decide) (by decide)).trans ((St.kp h95 (by decide) (by decide) (by decide)).trans k87_120_8)))
            have kb115_9010_0 : tav M113 = g9010_0 := ((tav_of ((Wr.b w113 rfl).trans ((St.kp h104 (by decide) (by decide) (by decide)).trans ((St.kp h95 (by decide) (by decide) (by decide)).trans rfl))) ((Wr.b w113 rfl).trans ((St.kp h104 (by decide) (by decide) (by decide)).trans ((St.kp h95 (by decide) (by decide) (by decide)).trans rfl)))).trans k87_9010_0)
            refine Tr.imp (Tr.deep (by decide) (sp_X12_next_120 hS.1 )) ?_
            rintro M115 _ ⟨h115, rfl, z115_0, z115_1, z115_2, z115_3, z115_4, z115_5, z115_6⟩
            have hS := St.tr hS h115 (by decide) (by decide)
            obtain ⟨s115_120_3, es115_120_3⟩ : ∃ v, rd M115 120 3 = v := ⟨_, rfl⟩
            have bs115_120_3 : 0 ≤ s115_120_3 ∧ s115_120_3 ≤ 3 := by rw [← es115_120_3]; exact ir_120_3 hS.1.2.1
            obtain ⟨s115_120_4, es115_120_4⟩ : ∃ v, rd M115 120 4 = v := ⟨_, rfl⟩
            have bs115_120_4 : 0 ≤ s115_120_4 ∧ s115_120_4 ≤ 900 := by rw [← es115_120_4]; exact ir_120_4 hS.1.2.1
            obtain ⟨s115_120_5, es115_120_5⟩ : ∃ v, rd M115 120 5 = v := ⟨_, rfl⟩
            have bs115_120_5 : 0 ≤ s115_120_5 ∧ s115_120_5 ≤ 900 := by rw [← es115_120_5]; exact ir_120_5 hS.1.2.1
            obtain ⟨s115_120_7, es115_120_7⟩ : ∃ v, rd M115 120 7 = v := ⟨_, rfl⟩
            have bs115_120_7 : (-9223372036854775808) ≤ s115_120_7 ∧ s115_120_7 ≤ 9223372036854775807 := by rw [← es115_120_7]; exact ir_120_7 hS.1.2.1
            obtain ⟨s115_120_8, es115_120_8⟩ : ∃ v, rd M115 120 8 = v := ⟨_, rfl⟩
            have bs115_120_8 : 0 ≤ s115_120_8 ∧ s115_120_8 ≤ 5 := by rw [← es115_120_8]; exact ir_120_8 hS.1.2.1
            obtain ⟨s115_9010_0, es115_9010_0⟩ : ∃ v, tav M115 = v := ⟨_, rfl⟩
            have bs115_9010_0 : (-1) ≤ s115_9010_0 ∧ s115_9010_0 ≤ 1800 := by rw [← es115_9010_0]; exact (tav_b hS.1.2.1)
            rewrite [es115_120_3, es115_120_4, es115_120_5] at z115_0
            replace z115_0 := hd_i z115_0
            rewrite [es115_120_4, es115_120_5] at z115_1
            rewrite [es115_120_3, es115_120_4, es115_120_5, es115_120_7] at z115_2
            replace z115_2 := hd_i z115_2
            rewrite [es115_120_4, kb115_120_5] at z115_3
            rewrite [es115_9010_0, kb115_9010_0] at z115_4
            rewrite [es115_9010_0, kb115_120_3, kb115_9010_0] at z115_5
            replace z115_5 := hd_i z115_5
            rewrite [es115_120_8, kb115_120_8] at z115_6
            replace z115_6 := hd_i z115_6
            refine Tr.sc [] rfl ?_
            refine Tr.iconst (pc := 118) d_X12_operand_118 (by decide) ?_
            have kr_120_3 : rd M115 120 3 = s115_120_3 := es115_120_3
            have kr_120_4 : rd M115 120 4 = s115_120_4 := es115_120_4
            have kr_120_5 : rd M115 120 5 = s115_120_5 := es115_120_5
            have kr_120_7 : rd M115 120 7 = s115_120_7 := es115_120_7
            have kr_120_8 : rd M115 120 8 = s115_120_8 := es115_120_8
            have kr_120_36 : rd M115 120 36 = s104_120_36 := ((St.kp h115 (by decide) (by decide) (by decide)).trans ((Wr.b w113 rfl).trans es104_120_36))
            have kr_120_43 : rd M115 120 43 = g120_43 := ((St.kp h115 (by decide) (by decide) (by decide)).trans ((Wr.b w113 rfl).trans ((St.kp h104 (by decide) (by decide) (by decide)).trans ((St.kp h95 (by decide) (by decide) (by decide)).trans k87_120_43))))
            have kr_120_44 : rd M115 120 44 = g120_44 := ((St.kp h115 (by decide) (by decide) (by decide)).trans ((Wr.b w113 rfl).trans ((St.kp h104 (by decide) (by decide) (by decide)).trans ((St.kp h95 (by decide) (by decide) (by decide)).trans k87_120_44))))
            have kr_120_46 : rd M115 120 46 = g120_46 := ((St.kp h115 (by decide) (by decide) (by decide)).trans ((Wr.b w113 rfl).trans ((St.kp h104 (by decide) (by decide) (by decide)).trans ((St.kp h95 (by decide) (by decide) (by decide)).trans k87_120_46))))
            have kr_120_50 : rd M115 120 50 = g120_50 := ((St.kp h115 (by decide) (by decide) (by decide)).trans ((Wr.b w113 rfl).trans ((St.kp h104 (by decide) (by decide) (by decide)).trans ((St.kp h95 (by decide) (by decide) (by decide)).trans k87_120_50))))
            have kr_136_1 : rd M115 136 1 = g136_1 := ((St.kp h115 (by decide) (by decide) (by decide)).trans ((Wr.b w113 rfl).trans ((St.kp h104 (by decide) (by decide) (by decide)).trans ((St.kp h95 (by decide) (by decide) (by decide)).trans k87_136_1))))
            have kr_9001_0 : nb2v M115 = g9001_0 := ((nb2v_of (fun j => ((St.ka h115 (by decide) (by decide) (by decide)).trans ((Wr.b w113 rfl).trans ((St.ka h104 (by decide) (by decide) (by decide)).trans ((St.ka h95 (by decide) (by decide) (by decide)).trans rfl))))) ((St.kp h115 (by decide) (by decide) (by decide)).trans ((Wr.b w113 rfl).trans ((St.kp h104 (by decide) (by decide) (by decide)).trans ((St.kp h95 (by decide) (by decide) (by decide)).trans rfl))))).trans k87_9001_0)
            have kr_9002_0 : n4v M115 = g9002_0 := ((n4v_of (fun j => ((St.ka h115 (by decide) (by decide) (by decide)).trans ((Wr.b w113 rfl).trans ((St.ka h104 (by decide) (by decide) (by decide)).trans ((St.ka h95 (by decide) (by decide) (by decide)).trans rfl))))) ((St.kp h115 (by decide) (by decide) (by decide)).trans ((Wr.b w113 rfl).trans ((St.kp h104 (by decide) (by decide) (by decide)).trans ((St.kp h95 (by decide) (by decide) (by decide)).trans rfl))))).trans k87_9002_0)
            have kr_9004_0 : Dv1 M115 = s104_9004_0 := ((Dv1_of (fun j => ((St.ka h115 (by decide) (by decide) (by decide)).trans ((Wr.b w113 rfl).trans rfl))) (fun j => ((St.ka h115 (by decide) (by decide) (by decide)).trans ((Wr.b w113 rfl).trans rfl))) ((St.kp h115 (by decide) (by decide) (by decide)).trans ((Wr.b w113 rfl).trans rfl)) ((St.kp h115 (by decide) (by decide) (by decide)).trans ((Wr.b w113 rfl).trans rfl))).trans es104_9004_0)
            have kr_9005_0 : fr0 M115 = g9005_0 := ((fr0_of (fun j => ((St.ka h115 (by decide) (by decide) (by decide)).trans ((Wr.b w113 rfl).trans ((St.ka h104 (by decide) (by decide) (by decide)).trans ((St.ka h95 (by decide) (by decide) (by decide)).trans rfl)))))).trans k87_9005_0)
            have kr_9010_0 : tav M115 = s115_9010_0 := es115_9010_0
            exact Tr.zret (pc := 119) d_X12_operand_119 rfl (by omega) ⟨hS, _, rfl, by omega, by omega, (by first | exact (hd_o z115_0) | exact (hd_o z115_0).elim (fun h1 => by omega) (fun h1 => by omega)), (by omega), (by first | exact (hd_o z115_2) | exact (hd_o z115_2).elim (fun h1 => by omega) (fun h1 => h1.elim (fun h1 => by omega) (fun h1 => by omega))), (by and_intros <;> omega), (by first | exact (hd_o z115_6) | exact (hd_o z115_6).elim (fun h1 => by omega) (fun h1 => by omega)), (by exact (hd_o z95_0).elim (fun h1 => (hd_o z115_5).elim (fun h2 => by omega) (fun h2 => by omega)) (fun h1 => by omega)), (by exact (hd_o z95_0).elim (fun h1 => (hd_o t87_0).elim (fun h2 => by omega) (fun h2 => by omega)) (fun h1 => by omega)), (by omega), (by omega), (by omega), (by omega), (by exact (hd_o z95_0).elim (fun h1 => (hd_o t87_0).elim (fun h2 => by omega) (fun h2 => by omega)) (fun h1 => by omega)), (by exact (hd_o z104_1).elim (fun h1 => by omega) (fun h1 => h1.elim (fun h1 => by omega) (fun h1 => by omega)))⟩
      refine Tr.if_eq (pc := 68) (tgt := 87) d_X12_operand_68 rfl (fun c68 => ?_) (fun c68 => ?_)
      · refine Tr.pick [0, 1, 2] (ls2 := [(0, (2, 120)), (1, (0, (g120_43 - 1))), (2, (0, q33_0))]) rfl ?_
        exact J87 _ hS ((Wr.b w66 rfl).trans k60_120_3) ((Wr.b w66 rfl).trans k60_120_36) ((Wr.b w66 rfl).trans k60_120_4) ((Wr.b w66 rfl).trans k60_120_43) ((Wr.b w66 rfl).trans k60_120_44) ((Wr.b w66 rfl).trans k60_120_46) ((Wr.b w66 rfl).trans k60_120_5) ((Wr.b w66 rfl).trans k60_120_50) ((Wr.b w66 rfl).trans k60_120_6) ((Wr.b w66 rfl).trans k60_120_7) ((Wr.b w66 rfl).trans k60_120_8) ((Wr.b w66 rfl).trans k60_136_1) ((Wr.b w66 rfl).trans k60_145_g120_431n1) w66.1 ((nb2v_of (fun j => ((Wr.b w66 rfl).trans rfl)) ((Wr.b w66 rfl).trans rfl)).trans k60_9001_0) ((n4v_of (fun j => ((Wr.b w66 rfl).trans rfl)) ((Wr.b w66 rfl).trans rfl)).trans k60_9002_0) ((Dv1_of (fun j => ((Wr.b w66 rfl).trans rfl)) (fun j => ((Wr.b w66 rfl).trans rfl)) ((Wr.b w66 rfl).trans rfl) ((Wr.b w66 rfl).trans rfl)).trans k60_9004_0) ((fr0_of (fun j => ((Wr.b w66 rfl).trans rfl))).trans k60_9005_0) ((tav_of ((Wr.b w66 rfl).trans rfl) ((Wr.b w66 rfl).trans rfl)).trans k60_9010_0) (by first | exact (hd_o t60_0) | exact (hd_o t60_0).elim (fun h1 => by omega) (fun h1 => by omega)) (by omega) (by first | exact (hd_o t60_2) | exact (hd_o t60_2).elim (fun h1 => by omega) (fun h1 => h1.elim (fun h1 => by omega) (fun h1 => by omega))) (by and_intros <;> omega) (by first | exact (hd_o t60_4) | exact (hd_o t60_4).elim (fun h1 => by omega) (fun h1 => by omega))
      · have c68b : 1 ≤ q33_0 ∧ q33_0 ≤ 1 := by omega
        replace c68 := hd_i c68
        refine Tr.aload_n (pc := 71) (i := 0) d_X12_operand_71 rfl rfl ?_
        refine Tr.bipush (pc := 72) d_X12_operand_72 rfl (by decide) ?_
        refine Tr.callV (pc := 74) (as := [_]) d_X12_operand_74 s_12_393 ok_X12_isSign rfl rfl (Nat.le_of_ble_eq_true rfl) (Nat.le_of_ble_eq_true rfl) (by decide) (ty_120 hS.1.1) ?_
        refine Tr.imp (Tr.deep (by decide) (sp_X12_isSign_120 hS.1.wk 91 (by omega))) ?_
        rintro M74 _ ⟨h74, r74, rfl, lr74, ur74, z74_0⟩
        have h74 := St.rn h74 (Pm1.of hS.1.2.2.2.2 (fun _ => St.ka h74 (by decide) (by decide) (by decide)) (fun _ => St.ka h74 (by decide) (by decide) (by decide)) (fun _ => St.ka h74 (by decide) (by decide) (by decide)) (fun _ => St.ka h74 (by decide) (by decide) (by decide)) (fun _ => St.ka h74 (by decide) (by decide) (by decide)) (fun _ => St.ka h74 (by decide) (by decide) (by decide)) (fun _ => St.ka h74 (by decide) (by decide) (by decide)) (fun _ => St.ka h74 (by decide) (by decide) (by decide)) (fun _ => St.ka h74 (by decide) (by decide) (by decide)) (fun _ => St.ka h74 (by decide) (by decide) (by decide)) (St.kp h74 (by decide) (by decide) (by decide)) (St.kp h74 (by decide) (by decide) (by decide)) (St.kp h74 (by decide) (by decide) (by decide)) (St.kp h74 (by decide) (by decide) (by decide)) (St.kp h74 (by decide) (by decide) (by decide)) (St.kp h74 (by decide) (by decide) (by decide)) (St.kp h74 (by decide) (by decide) (by decide)) (St.kp h74 (by decide) (by decide) (by decide)) (St.kp h74 (by decide) (by decide) (by decide)) (St.kp h74 (by decide) (by decide) (by decide)) (St.kp h74 (by decide) (by decide) (by decide)))
        have hS := St.tr hS h74 (by decide) (by decide)
        have ka74_120_3 : rd M74 120 3 = g120_3 := ((St.kp h74 (by decide) (by decide) (by decide)).trans ((Wr.b w66 rfl).trans k60_120_3))
        have ka74_120_6 : rd M74 120 6 = g120_6 := ((St.kp h74 (by decide) (by decide) (by decide)).trans ((Wr.b w66 rfl).trans k60_120_6))
        rewrite [ka74_120_3, ka74_120_6] at z74_0
        replace z74_0 := hd_i z74_0
        refine Tr.sc [(0, r74)] rfl ?_
        refine Tr.if_eq (pc := 77) (tgt := 87) d_X12_operand_77 rfl (fun c77 => ?_) (fun c77 => ?_)
        · refine Tr.pick [0, 1, 2] (ls2 := [(0, (2, 120)), (1, (0, (g120_43 - 1))), (2, (0, q33_0))]) rfl ?_
          exact J87 _ hS ((St.kp h74 (by decide) (by decide) (by decide)).trans ((Wr.b w66 rfl).trans k60_120_3)) ((St.kp h74 (by decide) (by decide) (by decide)).trans ((Wr.b w66 rfl).trans k60_120_36)) ((St.kp h74 (by decide) (by decide) (by decide)).trans ((Wr.b w66 rfl).trans k60_120_4)) ((St.kp h74 (by decide) (by decide) (by decide)).trans ((Wr.b w66 rfl).trans k60_120_43)) ((St.kp h74 (by decide) (by decide) (by decide)).trans ((Wr.b w66 rfl).trans k60_120_44)) ((St.kp h74 (by decide) (by decide) (by decide)).trans ((Wr.b w66 rfl).trans k60_120_46)) ((St.kp h74 (by decide) (by decide) (by decide)).trans ((Wr.b w66 rfl).trans k60_120_5)) ((St.kp h74 (by decide) (by decide) (by decide)).trans ((Wr.b w66 rfl).trans k60_120_50)) ((St.kp h74 (by decide) (by decide) (by decide)).trans ((Wr.b w66 rfl).trans k60_120_6)) ((St.kp h74 (by decide) (by decide) (by decide)).trans ((Wr.b w66 rfl).trans k60_120_7)) ((St.kp h74 (by decide) (by decide) (by decide)).trans ((Wr.b w66 rfl).trans k60_120_8)) ((St.kp h74 (by decide) (by decide) (by decide)).trans ((Wr.b w66 rfl).trans k60_136_1)) ((St.ka h74 (by decide) (by decide) (by decide)).trans ((Wr.b w66 rfl).trans k60_145_g120_431n1)) ((St.ka h74 (by decide) (by decide) (by decide)).trans w66.1) ((nb2v_of (fun j => ((St.ka h74 (by decide) (by decide) (by decide)).trans ((Wr.b w66 rfl).trans rfl))) ((St.kp h74 (by decide) (by decide) (by decide)).trans ((Wr.b w66 rfl).trans rfl))).trans k60_9001_0) ((n4v_of (fun j => ((St.ka h74 (by decide) (by decide) (by decide)).trans ((Wr.b w66 rfl).trans rfl))) ((St.kp h74 (by decide) (by decide) (by decide)).trans ((Wr.b w66 rfl).trans rfl))).trans k60_9002_0) ((Dv1_of (fun j => ((St.ka h74 (by decide) (by decide) (by decide)).trans ((Wr.b w66 rfl).trans rfl))) (fun j => ((St.ka h74 (by decide) (by decide) (by decide)).trans ((Wr.b w66 rfl).trans rfl))) ((St.kp h74 (by decide) (by decide) (by decide)).trans ((Wr.b w66 rfl).trans rfl)) ((St.kp h74 (by decide) (by decide) (by decide)).trans ((Wr.b w66 rfl).trans rfl))).trans k60_9004_0) ((fr0_of (fun j => ((St.ka h74 (by decide) (by decide) (by decide)).trans ((Wr.b w66 rfl).trans rfl)))).trans k60_9005_0) ((tav_of ((St.kp h74 (by decide) (by decide) (by decide)).trans ((Wr.b w66 rfl).trans rfl)) ((St.kp h74 (by decide) (by decide) (by decide)).trans ((Wr.b w66 rfl).trans rfl))).trans k60_9010_0) (by first | exact (hd_o t60_0) | exact (hd_o t60_0).elim (fun h1 => by omega) (fun h1 => by omega)) (by omega) (by first | exact (hd_o t60_2) | exact (hd_o t60_2).elim (fun h1 => by omega) (fun h1 => h1.elim (fun h1 => by omega) (fun h1 => by omega))) (by and_intros <;> omega) (by first | exact (hd_o t60_4) | exact (hd_o t60_4).elim (fun h1 => by omega) (fun h1 => by omega))
        · have c77b : 1 ≤ r74 ∧ r74 ≤ 1 := by omega
          replace c77 := hd_i c77
          refine Tr.aload_n (pc := 80) (i := 0) d_X12_operand_80 rfl rfl ?_
          refine Tr.iconst (pc := 81) d_X12_operand_81 (by decide) ?_
          refine Tr.callV (pc := 82) (as := [_]) d_X12_operand_82 s_12_490 ok_X12_opens rfl rfl (Nat.le_of_ble_eq_true rfl) (Nat.le_of_ble_eq_true rfl) (by decide) (ty_120 hS.1.1) ?_
          have kb82_120_3 : rd M74 120 3 = g120_3 := ((St.kp h74 (by decide) (by decide) (by decide)).trans ((Wr.b w66 rfl).trans k60_120_3))
          have kb82_120_4 : rd M74 120 4 = g120_4 := ((St.kp h74 (by decide) (by decide) (by decide)).trans ((Wr.b w66 rfl).trans k60_120_4))
          have kb82_120_5 : rd M74 120 5 = g120_5 := ((St.kp h74 (by decide) (by decide) (by decide)).trans ((Wr.b w66 rfl).trans k60_120_5))
          have kb82_120_7 : rd M74 120 7 = g120_7 := ((St.kp h74 (by decide) (by decide) (by decide)).trans ((Wr.b w66 rfl).trans k60_120_7))
          have kb82_120_8 : rd M74 120 8 = g120_8 := ((St.kp h74 (by decide) (by decide) (by decide)).trans ((Wr.b w66 rfl).trans k60_120_8))
          have kb82_120_43 : rd M74 120 43 = g120_43 := ((St.kp h74 (by decide) (by decide) (by decide)).trans ((Wr.b w66 rfl).trans k60_120_43))
          have kb82_120_44 : rd M74 120 44 = g120_44 := ((St.kp h74 (by decide) (by decide) (by decide)).trans ((Wr.b w66 rfl).trans k60_120_44))
          have kb82_9002_0 : n4v M74 = g9002_0 := ((n4v_of (fun j => ((St.ka h74 (by decide) (by decide) (by decide)).trans ((Wr.b w66 rfl).trans rfl))) ((St.kp h74 (by decide) (by decide) (by decide)).trans ((Wr.b w66 rfl).trans rfl))).trans k60_9002_0)
          have kb82_9005_0 : fr0 M74 = g9005_0 := ((fr0_of (fun j => ((St.ka h74 (by decide) (by decide) (by decide)).trans ((Wr.b w66 rfl).trans rfl)))).trans k60_9005_0)
          have kb82_9010_0 : tav M74 = g9010_0 := ((tav_of ((St.kp h74 (by decide) (by decide) (by decide)).trans ((Wr.b w66 rfl).trans rfl)) ((St.kp h74 (by decide) (by decide) (by decide)).trans ((Wr.b w66 rfl).trans rfl))).trans k60_9010_0)
          refine Tr.imp (Tr.deep (by decide) (sp_X12_opens_120 hS.1 5 (by omega) (by first | exact (hd_o t60_0) | exact (hd_o t60_0).elim (fun h1 => by omega) (fun h1 => by omega)) (by omega) (by first | exact (hd_o t60_2) | exact (hd_o t60_2).elim (fun h1 => by omega) (fun h1 => h1.elim (fun h1 => by omega) (fun h1 => by omega))) (by and_intros <;> omega) (by exact (hd_o z74_0).elim (fun h1 => by omega) (fun h1 => by omega)) (by omega) (by omega))) ?_
          rintro M82 _ ⟨h82, rfl, z82_0, z82_1, z82_2, z82_3, z82_4, z82_5, z82_6, z82_7, z82_8, z82_9, z82_10⟩
          have hS := St.tr hS h82 (by decide) (by decide)
          obtain ⟨s82_120_3, es82_120_3⟩ : ∃ v, rd M82 120 3 = v := ⟨_, rfl⟩
          have bs82_120_3 : 0 ≤ s82_120_3 ∧ s82_120_3 ≤ 3 := by rw [← es82_120_3]; exact ir_120_3 hS.1.2.1
          obtain ⟨s82_120_4, es82_120_4⟩ : ∃ v, rd M82 120 4 = v := ⟨_, rfl⟩
          have bs82_120_4 : 0 ≤ s82_120_4 ∧ s82_120_4 ≤ 900 := by rw [← es82_120_4]; exact ir_120_4 hS.1.2.1
          obtain ⟨s82_120_5, es82_120_5⟩ : ∃ v, rd M82 120 5 = v := ⟨_, rfl⟩
          have bs82_120_5 : 0 ≤ s82_120_5 ∧ s82_120_5 ≤ 900 := by rw [← es82_120_5]; exact ir_120_5 hS.1.2.1
          obtain ⟨s82_120_7, es82_120_7⟩ : ∃ v, rd M82 120 7 = v := ⟨_, rfl⟩
          have bs82_120_7 : (-9223372036854775808) ≤ s82_120_7 ∧ s82_120_7 ≤ 9223372036854775807 := by rw [← es82_120_7]; exact ir_120_7 hS.1.2.1
          obtain ⟨s82_120_8, es82_120_8⟩ : ∃ v, rd M82 120 8 = v := ⟨_, rfl⟩
          have bs82_120_8 : 0 ≤ s82_120_8 ∧ s82_120_8 ≤ 5 := by rw [← es82_120_8]; exact ir_120_8 hS.1.2.1
          obtain ⟨s82_120_43, es82_120_43⟩ : ∃ v, rd M82 120 43 = v := ⟨_, rfl⟩
          have bs82_120_43 : 0 ≤ s82_120_43 ∧ s82_120_43 ≤ 20 := by rw [← es82_120_43]; exact ir_120_43 hS.1.2.1
          obtain ⟨s82_120_44, es82_120_44⟩ : ∃ v, rd M82 120 44 = v := ⟨_, rfl⟩
          have bs82_120_44 : 0 ≤ s82_120_44 ∧ s82_120_44 ≤ 8 := by rw [← es82_120_44]; exact ir_120_44 hS.1.2.1
          obtain ⟨s82_9002_0, es82_9002_0⟩ : ∃ v, n4v M82 = v := ⟨_, rfl⟩
          have bs82_9002_0 : 0 ≤ s82_9002_0 ∧ s82_9002_0 ≤ 20 := by rw [← es82_9002_0]; exact (n4v_b hS.1.2.1)
          obtain ⟨s82_9005_0, es82_9005_0⟩ : ∃ v, fr0 M82 = v := ⟨_, rfl⟩
          have bs82_9005_0 : 0 ≤ s82_9005_0 ∧ s82_9005_0 ≤ 5 := by rw [← es82_9005_0]; exact (fr0_b hS.1.2.1)
          obtain ⟨s82_9010_0, es82_9010_0⟩ : ∃ v, tav M82 = v := ⟨_, rfl⟩
          have bs82_9010_0 : (-1) ≤ s82_9010_0 ∧ s82_9010_0 ≤ 1800 := by rw [← es82_9010_0]; exact (tav_b hS.1.2.1)
          rewrite [es82_120_3, es82_120_4, es82_120_5] at z82_0
          replace z82_0 := hd_i z82_0
          rewrite [es82_120_4, es82_120_5] at z82_1
          rewrite [es82_120_3, es82_120_4, es82_120_5, es82_120_7] at z82_2
          replace z82_2 := hd_i z82_2
          rewrite [es82_120_4, es82_120_5, es82_9010_0, kb82_120_4, kb82_120_5, kb82_9010_0] at z82_3
          rewrite [es82_120_8, kb82_120_8] at z82_4
          replace z82_4 := hd_i z82_4
          rewrite [es82_120_8, es82_9010_0, kb82_9010_0] at z82_5
          replace z82_5 := hd_i z82_5
          rewrite [es82_120_43, es82_120_44, kb82_120_43, kb82_120_44] at z82_6
          rewrite [es82_120_4, es82_120_44, kb82_120_5, kb82_120_44] at z82_7
          replace z82_7 := hd_i z82_7
          rewrite [es82_9002_0, kb82_9002_0] at z82_8
          rewrite [es82_9005_0] at z82_9
          rewrite [es82_120_8, es82_120_44, kb82_120_44] at z82_10
          replace z82_10 := hd_i z82_10
          refine Tr.sc [] rfl ?_
          refine Tr.iconst (pc := 85) d_X12_operand_85 (by decide) ?_
          have kr_120_3 : rd M82 120 3 = s82_120_3 := es82_120_3
          have kr_120_4 : rd M82 120 4 = s82_120_4 := es82_120_4
          have kr_120_5 : rd M82 120 5 = s82_120_5 := es82_120_5
          have kr_120_7 : rd M82 120 7 = s82_120_7 := es82_120_7
          have kr_120_8 : rd M82 120 8 = s82_120_8 := es82_120_8
          have kr_120_36 : rd M82 120 36 = g120_36 := ((St.kp h82 (by decide) (by decide) (by decide)).trans ((St.kp h74 (by decide) (by decide) (by decide)).trans ((Wr.b w66 rfl).trans k60_120_36)))
          have kr_120_43 : rd M82 120 43 = s82_120_43 := es82_120_43
          have kr_120_44 : rd M82 120 44 = s82_120_44 := es82_120_44
          have kr_120_46 : rd M82 120 46 = g120_46 := ((St.kp h82 (by decide) (by decide) (by decide)).trans ((St.kp h74 (by decide) (by decide) (by decide)).trans ((Wr.b w66 rfl).trans k60_120_46)))
          have kr_120_50 : rd M82 120 50 = g120_50 := ((St.kp h82 (by decide) (by decide) (by decide)).trans ((St.kp h74 (by decide) (by decide) (by decide)).trans ((Wr.b w66 rfl).trans k60_120_50)))
          have kr_136_1 : rd M82 136 1 = g136_1 := ((St.kp h82 (by decide) (by decide) (by decide)).trans ((St.kp h74 (by decide) (by decide) (by decide)).trans ((Wr.b w66 rfl).trans k60_136_1)))
          have kr_9001_0 : nb2v M82 = g9001_0 := ((nb2v_of (fun j => ((St.ka h82 (by decide) (by decide) (by decide)).trans ((St.ka h74 (by decide) (by decide) (by decide)).trans ((Wr.b w66 rfl).trans rfl)))) ((St.kp h82 (by decide) (by decide) (by decide)).trans ((St.kp h74 (by decide) (by decide) (by decide)).trans ((Wr.b w66 rfl).trans rfl)))).trans k60_9001_0)
          have kr_9002_0 : n4v M82 = s82_9002_0 := es82_9002_0
          have kr_9004_0 : Dv1 M82 = g9004_0 := ((Dv1_of (fun j => ((St.ka h82 (by decide) (by decide) (by decide)).trans ((St.ka h74 (by decide) (by decide) (by decide)).trans ((Wr.b w66 rfl).trans rfl)))) (fun j => ((St.ka h82 (by decide) (by decide) (by decide)).trans ((St.ka h74 (by decide) (by decide) (by decide)).trans ((Wr.b w66 rfl).trans rfl)))) ((St.kp h82 (by decide) (by decide) (by decide)).trans ((St.kp h74 (by decide) (by decide) (by decide)).trans ((Wr.b w66 rfl).trans rfl))) ((St.kp h82 (by decide) (by decide) (by decide)).trans ((St.kp h74 (by decide) (by decide) (by decide)).trans ((Wr.b w66 rfl).trans rfl)))).trans k60_9004_0)
          have kr_9005_0 : fr0 M82 = s82_9005_0 := es82_9005_0
          have kr_9010_0 : tav M82 = s82_9010_0 := es82_9010_0
          exact Tr.zret (pc := 86) d_X12_operand_86 rfl (by omega) ⟨hS, _, rfl, by omega, by omega, (by first | exact (hd_o z82_0) | exact (hd_o z82_0).elim (fun h1 => by omega) (fun h1 => by omega)), (by omega), (by first | exact (hd_o z82_2) | exact (hd_o z82_2).elim (fun h1 => by omega) (fun h1 => h1.elim (fun h1 => by omega) (fun h1 => by omega))), (by and_intros <;> omega), (by first | exact (hd_o z82_4) | exact (hd_o z82_4).elim (fun h1 => by omega) (fun h1 => by omega)), (by first | exact (hd_o z82_5) | exact (hd_o z82_5).elim (fun h1 => by omega) (fun h1 => by omega)), (by exact (hd_o z82_7).elim (fun h1 => by omega) (fun h1 => (hd_o z74_0).elim (fun h2 => (hd_o t60_0).elim (fun h3 => by omega) (fun h3 => by omega)) (fun h2 => by omega))), (by omega), (by omega), (by omega), (by omega), (by omega), (by omega)⟩
    refine Tr.if_eq (pc := 35) (tgt := 60) d_X12_operand_35 rfl (fun c35 => ?_) (fun c35 => ?_)
    · refine Tr.pick [1, 2, 0] (ls2 := [(0, (2, 120)), (1, (0, (g120_43 - 1))), (2, (0, q33_0))]) rfl ?_
      exact J60 _ hS k33_120_3 k33_120_36 k33_120_4 k33_120_43 k33_120_44 k33_120_46 k33_120_5 k33_120_50 k33_120_6 k33_120_7 k33_120_8 k33_136_1 k33_145_g120_431n1 k33_9001_0 k33_9002_0 k33_9004_0 k33_9005_0 k33_9010_0 (by first | exact (hd_o t33_0) | exact (hd_o t33_0).elim (fun h1 => by omega) (fun h1 => by omega)) (by omega) (by first | exact (hd_o t33_2) | exact (hd_o t33_2).elim (fun h1 => by omega) (fun h1 => h1.elim (fun h1 => by omega) (fun h1 => by omega))) (by and_intros <;> omega) (by first | exact (hd_o t33_4) | exact (hd_o t33_4).elim (fun h1 => by omega) (fun h1 => by omega))
    · have c35b : 1 ≤ q33_0 ∧ q33_0 ≤ 1 := by omega
      replace c35 := hd_i c35
      refine Tr.aload_n (pc := 38) (i := 0) d_X12_operand_38 rfl rfl ?_
      refine Tr.ldc2 (pc := 39) d_X12_operand_39 kl_12_441 (by decide) ?_
      refine Tr.callV (pc := 42) (as := [_]) d_X12_operand_42 s_12_484 ok_X12_isWord rfl rfl (Nat.le_of_ble_eq_true rfl) (Nat.le_of_ble_eq_true rfl) (by decide) (ty_120 hS.1.1) ?_
      refine Tr.imp (Tr.deep (by decide) (sp_X12_isWord_120 hS.1.wk 7237492 (by omega))) ?_
      rintro M42 _ ⟨h42, r42, rfl, lr42, ur42, z42_0⟩
      have h42 := St.rn h42 (Pm1.of hS.1.2.2.2.2 (fun _ => St.ka h42 (by decide) (by decide) (by decide)) (fun _ => St.ka h42 (by decide) (by decide) (by decide)) (fun _ => St.ka h42 (by decide) (by decide) (by decide)) (fun _ => St.ka h42 (by decide) (by decide) (by decide)) (fun _ => St.ka h42 (by decide) (by decide) (by decide)) (fun _ => St.ka h42 (by decide) (by decide) (by decide)) (fun _ => St.ka h42 (by decide) (by decide) (by decide)) (fun _ => St.ka h42 (by decide) (by decide) (by decide)) (fun _ => St.ka h42 (by decide) (by decide) (by decide)) (fun _ => St.ka h42 (by decide) (by decide) (by decide)) (St.kp h42 (by decide) (by decide) (by decide)) (St.kp h42 (by decide) (by decide) (by decide)) (St.kp h42 (by decide) (by decide) (by decide)) (St.kp h42 (by decide) (by decide) (by decide)) (St.kp h42 (by decide) (by decide) (by decide)) (St.kp h42 (by decide) (by decide) (by decide)) (St.kp h42 (by decide) (by decide) (by decide)) (St.kp h42 (by decide) (by decide) (by decide)) (St.kp h42 (by decide) (by decide) (by decide)) (St.kp h42 (by decide) (by decide) (by decide)) (St.kp h42 (by decide) (by decide) (by decide)))
      have hS := St.tr hS h42 (by decide) (by decide)
      have ka42_120_3 : rd M42 120 3 = g120_3 := ((St.kp h42 (by decide) (by decide) (by decide)).trans k33_120_3)
      have ka42_120_7 : rd M42 120 7 = g120_7 := ((St.kp h42 (by decide) (by decide) (by decide)).trans k33_120_7)
      rewrite [ka42_120_3, ka42_120_7] at z42_0
      replace z42_0 := hd_i z42_0
      refine Tr.sc [(0, r42)] rfl ?_
      refine Tr.if_eq (pc := 45) (tgt := 60) d_X12_operand_45 rfl (fun c45 => ?_) (fun c45 => ?_)
      · refine Tr.pick [1, 2, 0] (ls2 := [(0, (2, 120)), (1, (0, (g120_43 - 1))), (2, (0, q33_0))]) rfl ?_
        exact J60 _ hS ((St.kp h42 (by decide) (by decide) (by decide)).trans k33_120_3) ((St.kp h42 (by decide) (by decide) (by decide)).trans k33_120_36) ((St.kp h42 (by decide) (by decide) (by decide)).trans k33_120_4) ((St.kp h42 (by decide) (by decide) (by decide)).trans k33_120_43) ((St.kp h42 (by decide) (by decide) (by decide)).trans k33_120_44) ((St.kp h42 (by decide) (by decide) (by decide)).trans k33_120_46) ((St.kp h42 (by decide) (by decide) (by decide)).trans k33_120_5) ((St.kp h42 (by decide) (by decide) (by decide)).trans k33_120_50) ((St.kp h42 (by decide) (by decide) (by decide)).trans k33_120_6) ((St.kp h42 (by decide) (by decide) (by decide)).trans k33_120_7) ((St.kp h42 (by decide) (by decide) (by decide)).trans k33_120_8) ((St.kp h42 (by decide) (by decide) (by decide)).trans k33_136_1) ((St.ka h42 (by decide) (by decide) (by decide)).trans k33_145_g120_431n1) ((nb2v_of (fun j => ((St.ka h42 (by decide) (by decide) (by decide)).trans rfl)) ((St.kp h42 (by decide) (by decide) (by decide)).trans rfl)).trans k33_9001_0) ((n4v_of (fun j => ((St.ka h42 (by decide) (by decide) (by decide)).trans rfl)) ((St.kp h42 (by decide) (by decide) (by decide)).trans rfl)).trans k33_9002_0) ((Dv1_of (fun j => ((St.ka h42 (by decide) (by decide) (by decide)).trans rfl)) (fun j => ((St.ka h42 (by decide) (by decide) (by decide)).trans rfl)) ((St.kp h42 (by decide) (by decide) (by decide)).trans rfl) ((St.kp h42 (by decide) (by decide) (by decide)).trans rfl)).trans k33_9004_0) ((fr0_of (fun j => ((St.ka h42 (by decide) (by decide) (by decide)).trans rfl))).trans k33_9005_0) ((tav_of ((St.kp h42 (by decide) (by decide) (by decide)).trans rfl) ((St.kp h42 (by decide) (by decide) (by decide)).trans rfl)).trans k33_9010_0) (by first | exact (hd_o t33_0) | exact (hd_o t33_0).elim (fun h1 => by omega) (fun h1 => by omega)) (by omega) (by first | exact (hd_o t33_2) | exact (hd_o t33_2).elim (fun h1 => by omega) (fun h1 => h1.elim (fun h1 => by omega) (fun h1 => by omega))) (by and_intros <;> omega) (by first | exact (hd_o t33_4) | exact (hd_o t33_4).elim (fun h1 => by omega) (fun h1 => by omega))
      · have c45b : 1 ≤ r42 ∧ r42 ≤ 1 := by omega
        replace c45 := hd_i c45
        refine Tr.aload_n (pc := 48) (i := 0) d_X12_operand_48 rfl rfl ?_
        refine Tr.bipush (pc := 49) d_X12_operand_49 rfl (by decide) ?_
        refine Tr.callV (pc := 51) (as := [_]) d_X12_operand_51 s_12_487 ok_X12_holdsBack rfl rfl (Nat.le_of_ble_eq_true rfl) (Nat.le_of_ble_eq_true rfl) (by decide) (ty_120 hS.1.1) ?_
        have kb51_120_46 : rd M42 120 46 = g120_46 := ((St.kp h42 (by decide) (by decide) (by decide)).trans k33_120_46)
        have kb51_9001_0 : nb2v M42 = g9001_0 := ((nb2v_of (fun j => ((St.ka h42 (by decide) (by decide) (by decide)).trans rfl)) ((St.kp h42 (by decide) (by decide) (by decide)).trans rfl)).trans k33_9001_0)
        refine Tr.imp (Tr.deep (by decide) (sp_X12_holdsBack_120 hS.1 18 (by omega) (by omega))) ?_
        rintro M51 _ ⟨h51, rfl, z51_0, z51_1⟩
        have hS := St.tr hS h51 (by decide) (by decide)
        obtain ⟨s51_120_46, es51_120_46⟩ : ∃ v, rd M51 120 46 = v := ⟨_, rfl⟩
        have bs51_120_46 : 0 ≤ s51_120_46 ∧ s51_120_46 ≤ 500 := by rw [← es51_120_46]; exact ir_120_46 hS.1.2.1
        obtain ⟨s51_9001_0, es51_9001_0⟩ : ∃ v, nb2v M51 = v := ⟨_, rfl⟩
        have bs51_9001_0 : 0 ≤ s51_9001_0 ∧ s51_9001_0 ≤ 1000000 := by rw [← es51_9001_0]; exact (nb2v_b hS.1.2.1)
        rewrite [es51_120_46, kb51_120_46] at z51_0
        rewrite [es51_9001_0, kb51_9001_0] at z51_1
        replace z51_1 := hd_i z51_1
        refine Tr.sc [] rfl ?_
        refine Tr.aload_n (pc := 54) (i := 0) d_X12_operand_54 rfl rfl ?_
        refine Tr.callV (pc := 55) (as := []) d_X12_operand_55 s_12_396 ok_X12_next rfl rfl (Nat.le_of_ble_eq_true rfl) (Nat.le_of_ble_eq_true rfl) (by decide) (ty_120 hS.1.1) ?_
        have kb55_120_3 : rd M51 120 3 = g120_3 := ((St.kp h51 (by decide) (by decide) (by decide)).trans ((St.kp h42 (by decide) (by decide) (by decide)).trans k33_120_3))
        have kb55_120_5 : rd M51 120 5 = g120_5 := ((St.kp h51 (by decide) (by decide) (by decide)).trans ((St.kp h42 (by decide) (by decide) (by decide)).trans k33_120_5))
        have kb55_120_8 : rd M51 120 8 = g120_8 := ((St.kp h51 (by decide) (by decide) (by decide)).trans ((St.kp h42 (by decide) (by decide) (by decide)).trans k33_120_8))
        have kb55_9010_0 : tav M51 = g9010_0 := ((tav_of ((St.kp h51 (by decide) (by decide) (by decide)).trans ((St.kp h42 (by decide) (by decide) (by decide)).trans rfl)) ((St.kp h51 (by decide) (by decide) (by decide)).trans ((St.kp h42 (by decide) (by decide) (by decide)).trans rfl))).trans k33_9010_0)
        refine Tr.imp (Tr.deep (by decide) (sp_X12_next_120 hS.1 )) ?_
        rintro M55 _ ⟨h55, rfl, z55_0, z55_1, z55_2, z55_3, z55_4, z55_5, z55_6⟩
        have hS := St.tr hS h55 (by decide) (by decide)
        obtain ⟨s55_120_3, es55_120_3⟩ : ∃ v, rd M55 120 3 = v := ⟨_, rfl⟩
        have bs55_120_3 : 0 ≤ s55_120_3 ∧ s55_120_3 ≤ 3 := by rw [← es55_120_3]; exact ir_120_3 hS.1.2.1
        obtain ⟨s55_120_4, es55_120_4⟩ : ∃ v, rd M55 120 4 = v := ⟨_, rfl⟩
        have bs55_120_4 : 0 ≤ s55_120_4 ∧ s55_120_4 ≤ 900 := by rw [← es55_120_4]; exact ir_120_4 hS.1.2.1
        obtain ⟨s55_120_5, es55_120_5⟩ : ∃ v, rd M55 120 5 = v := ⟨_, rfl⟩
        have bs55_120_5 : 0 ≤ s55_120_5 ∧ s55_120_5 ≤ 900 := by rw [← es55_120_5]; exact ir_120_5 hS.1.2.1
        obtain ⟨s55_120_7, es55_120_7⟩ : ∃ v, rd M55 120 7 = v := ⟨_, rfl⟩
        have bs55_120_7 : (-9223372036854775808) ≤ s55_120_7 ∧ s55_120_7 ≤ 9223372036854775807 := by rw [← es55_120_7]; exact ir_120_7 hS.1.2.1
        obtain ⟨s55_120_8, es55_120_8⟩ : ∃ v, rd M55 120 8 = v := ⟨_, rfl⟩
        have bs55_120_8 : 0 ≤ s55_120_8 ∧ s55_120_8 ≤ 5 := by rw [← es55_120_8]; exact ir_120_8 hS.1.2.1
        obtain ⟨s55_9010_0, es55_9010_0⟩ : ∃ v, tav M55 = v := ⟨_, rfl⟩
        have bs55_9010_0 : (-1) ≤ s55_9010_0 ∧ s55_9010_0 ≤ 1800 := by rw [← es55_9010_0]; exact (tav_b hS.1.2.1)
        rewrite [es55_120_3, es55_120_4, es55_120_5] at z55_0
        replace z55_0 := hd_i z55_0
        rewrite [es55_120_4, es55_120_5] at z55_1
        rewrite [es55_120_3, es55_120_4, es55_120_5, es55_120_7] at z55_2
        replace z55_2 := hd_i z55_2
        rewrite [es55_120_4, kb55_120_5] at z55_3
        rewrite [es55_9010_0, kb55_9010_0] at z55_4
        rewrite [es55_9010_0, kb55_120_3, kb55_9010_0] at z55_5
        replace z55_5 := hd_i z55_5
        rewrite [es55_120_8, kb55_120_8] at z55_6
        replace z55_6 := hd_i z55_6
        refine Tr.sc [] rfl ?_
        refine Tr.iconst (pc := 58) d_X12_operand_58 (by decide) ?_
        have kr_120_3 : rd M55 120 3 = s55_120_3 := es55_120_3
        have kr_120_4 : rd M55 120 4 = s55_120_4 := es55_120_4
        have kr_120_5 : rd M55 120 5 = s55_120_5 := es55_120_5
        have kr_120_7 : rd M55 120 7 = s55_120_7 := es55_120_7
        have kr_120_8 : rd M55 120 8 = s55_120_8 := es55_120_8
        have kr_120_36 : rd M55 120 36 = g120_36 := ((St.kp h55 (by decide) (by decide) (by decide)).trans ((St.kp h51 (by decide) (by decide) (by decide)).trans ((St.kp h42 (by decide) (by decide) (by decide)).trans k33_120_36)))
        have kr_120_43 : rd M55 120 43 = g120_43 := ((St.kp h55 (by decide) (by decide) (by decide)).trans ((St.kp h51 (by decide) (by decide) (by decide)).trans ((St.kp h42 (by decide) (by decide) (by decide)).trans k33_120_43)))
        have kr_120_44 : rd M55 120 44 = g120_44 := ((St.kp h55 (by decide) (by decide) (by decide)).trans ((St.kp h51 (by decide) (by decide) (by decide)).trans ((St.kp h42 (by decide) (by decide) (by decide)).trans k33_120_44)))
        have kr_120_46 : rd M55 120 46 = s51_120_46 := ((St.kp h55 (by decide) (by decide) (by decide)).trans es51_120_46)
        have kr_120_50 : rd M55 120 50 = g120_50 := ((St.kp h55 (by decide) (by decide) (by decide)).trans ((St.kp h51 (by decide) (by decide) (by decide)).trans ((St.kp h42 (by decide) (by decide) (by decide)).trans k33_120_50)))
        have kr_136_1 : rd M55 136 1 = g136_1 := ((St.kp h55 (by decide) (by decide) (by decide)).trans ((St.kp h51 (by decide) (by decide) (by decide)).trans ((St.kp h42 (by decide) (by decide) (by decide)).trans k33_136_1)))
        have kr_9001_0 : nb2v M55 = s51_9001_0 := ((nb2v_of (fun j => ((St.ka h55 (by decide) (by decide) (by decide)).trans rfl)) ((St.kp h55 (by decide) (by decide) (by decide)).trans rfl)).trans es51_9001_0)
        have kr_9002_0 : n4v M55 = g9002_0 := ((n4v_of (fun j => ((St.ka h55 (by decide) (by decide) (by decide)).trans ((St.ka h51 (by decide) (by decide) (by decide)).trans ((St.ka h42 (by decide) (by decide) (by decide)).trans rfl)))) ((St.kp h55 (by decide) (by decide) (by decide)).trans ((St.kp h51 (by decide) (by decide) (by decide)).trans ((St.kp h42 (by decide) (by decide) (by decide)).trans rfl)))).trans k33_9002_0)
        have kr_9004_0 : Dv1 M55 = g9004_0 := ((Dv1_of (fun j => ((St.ka h55 (by decide) (by decide) (by decide)).trans ((St.ka h51 (by decide) (by decide) (by decide)).trans ((St.ka h42 (by decide) (by decide) (by decide)).trans rfl)))) (fun j => ((St.ka h55 (by decide) (by decide) (by decide)).trans ((St.ka h51 (by decide) (by decide) (by decide)).trans ((St.ka h42 (by decide) (by decide) (by decide)).trans rfl)))) ((St.kp h55 (by decide) (by decide) (by decide)).trans ((St.kp h51 (by decide) (by decide) (by decide)).trans ((St.kp h42 (by decide) (by decide) (by decide)).trans rfl))) ((St.kp h55 (by decide) (by decide) (by decide)).trans ((St.kp h51 (by decide) (by decide) (by decide)).trans ((St.kp h42 (by decide) (by decide) (by decide)).trans rfl)))).trans k33_9004_0)
        have kr_9005_0 : fr0 M55 = g9005_0 := ((fr0_of (fun j => ((St.ka h55 (by decide) (by decide) (by decide)).trans ((St.ka h51 (by decide) (by decide) (by decide)).trans ((St.ka h42 (by decide) (by decide) (by decide)).trans rfl))))).trans k33_9005_0)
        have kr_9010_0 : tav M55 = s55_9010_0 := es55_9010_0
        exact Tr.zret (pc := 59) d_X12_operand_59 rfl (by omega) ⟨hS, _, rfl, by omega, by omega, (by first | exact (hd_o z55_0) | exact (hd_o z55_0).elim (fun h1 => by omega) (fun h1 => by omega)), (by omega), (by first | exact (hd_o z55_2) | exact (hd_o z55_2).elim (fun h1 => by omega) (fun h1 => h1.elim (fun h1 => by omega) (fun h1 => by omega))), (by and_intros <;> omega), (by first | exact (hd_o z55_6) | exact (hd_o z55_6).elim (fun h1 => by omega) (fun h1 => by omega)), (by exact (hd_o z42_0).elim (fun h1 => (hd_o z55_5).elim (fun h2 => by omega) (fun h2 => by omega)) (fun h1 => by omega)), (by exact (hd_o z42_0).elim (fun h1 => (hd_o t33_0).elim (fun h2 => by omega) (fun h2 => by omega)) (fun h1 => by omega)), (by omega), (by omega), (by omega), (by omega), (by exact (hd_o z42_0).elim (fun h1 => (hd_o t33_2).elim (fun h2 => (ne_o h2).elim (fun h3 => by omega) (fun h3 => by omega)) (fun h2 => h2.elim (fun h2 => by omega) (fun h2 => by omega))) (fun h1 => by omega)), (by exact (hd_o z51_1).elim (fun h1 => by omega) (fun h1 => (ne_o h1.1).elim (fun h2 => by omega) (fun h2 => by omega)))⟩
  have J32 : ∀ (M : Mem), St Pm1 ws_X12_operand_120 as_X12_operand_120 M0 M → rd M 120 3 = g120_3 → rd M 120 36 = g120_36 → rd M 120 4 = g120_4 → rd M 120 43 = g120_43 → rd M 120 44 = g120_44 → rd M 120 46 = g120_46 → rd M 120 5 = g120_5 → rd M 120 50 = g120_50 → rd M 120 6 = g120_6 → rd M 120 7 = g120_7 → rd M 120 8 = g120_8 → rd M 136 1 = g136_1 → rd M 145 (g120_43 - 1) = r12 → nb2v M = g9001_0 → n4v M = g9002_0 → Dv1 M = g9004_0 → fr0 M = g9005_0 → tav M = g9010_0 → (g120_3 = 0 ∨ g120_4 + 1 ≤ g120_5) → (g120_4 ≤ g120_5) → (g120_3 ≠ 1 ∨ g120_4 + 2 ≤ g120_5 ∨ g120_7 < 256) → (g120_4 ≤ g120_4 ∧ g120_5 ≤ g120_5 ∧ g9010_0 ≤ g9010_0) → (g120_8 = 0 ∨ g120_8 = g120_8) → Tr l K 3 mX12_operand 32 [(0, (2, 120)), (1, (0, (g120_43 - 1)))] [] M (q_X12_operand_120 M0) := by sorry
  refine Tr.if_eq (pc := 16) (tgt := 32) d_X12_operand_16 rfl (fun c16 => ?_) (fun c16 => ?_)
  · refine Tr.pick [1, 0] (ls2 := [(0, (2, 120)), (1, (0, (g120_43 - 1)))]) rfl ?_
    exact J32 _ hS ((St.kp h13 (by decide) (by decide) (by decide)).trans eg120_3) ((St.kp h13 (by decide) (by decide) (by decide)).trans eg120_36) ((St.kp h13 (by decide) (by decide) (by decide)).trans eg120_4) ((St.kp h13 (by decide) (by decide) (by decide)).trans eg120_43) ((St.kp h13 (by decide) (by decide) (by decide)).trans eg120_44) ((St.kp h13 (by decide) (by decide) (by decide)).trans eg120_46) ((St.kp h13 (by decide) (by decide) (by decide)).trans eg120_5) ((St.kp h13 (by decide) (by decide) (by decide)).trans eg120_50) ((St.kp h13 (by decide) (by decide) (by decide)).trans eg120_6) ((St.kp h13 (by decide) (by decide) (by decide)).trans eg120_7) ((St.kp h13 (by decide) (by decide) (by decide)).trans eg120_8) ((St.kp h13 (by decide) (by decide) (by decide)).trans eg136_1) ((St.ka h13 (by decide) (by decide) (by decide)).trans er12) ((nb2v_of (fun j => ((St.ka h13 (by decide) (by decide) (by decide)).trans rfl)) ((St.kp h13 (by decide) (by decide) (by decide)).trans rfl)).trans eg9001_0) ((n4v_of (fun j => ((St.ka h13 (by decide) (by decide) (by decide)).trans rfl)) ((St.kp h13 (by decide) (by decide) (by decide)).trans rfl)).trans eg9002_0) ((Dv1_of (fun j => ((St.ka h13 (by decide) (by decide) (by decide)).trans rfl)) (fun j => ((St.ka h13 (by decide) (by decide) (by decide)).trans rfl)) ((St.kp h13 (by decide) (by decide) (by decide)).trans rfl) ((St.kp h13 (by decide) (by decide) (by decide)).trans rfl)).trans eg9004_0) ((fr0_of (fun j => ((St.ka h13 (by decide) (by decide) (by decide)).trans rfl))).trans eg9005_0) ((tav_of ((St.kp h13 (by decide) (by decide) (by decide)).trans rfl) ((St.kp h13 (by decide) (by decide) (by decide)).trans rfl)).trans eg9010_0) (by first | exact (hd_o hq0) | exact (hd_o hq0).elim (fun h1 => by omega) (fun h1 => by omega)) (by omega) (by first | exact (hd_o hq2) | exact (hd_o hq2).elim (fun h1 => by omega) (fun h1 => h1.elim (fun h1 => by omega) (fun h1 => by omega))) (by and_intros <;> omega) (by omega)
  · have c16b : 1 ≤ r13 ∧ r13 ≤ 1 := by omega
    replace c16 := hd_i c16
    refine Tr.aload_n (pc := 19) (i := 0) d_X12_operand_19 rfl rfl ?_
    refine Tr.getf (pc := 20) d_X12_operand_20 f_12_133 (by decide) (by decide) (ty_120 hS.1.1) ?_
    refine Tr.tp 147 (fx_120_40 hS.1.1) ?_
    refine Tr.iload_n (pc := 23) (i := 1) d_X12_operand_23 rfl rfl ?_
    refine Tr.zald (pc := 24) d_X12_operand_24 (ty_147 hS.1.1) (by omega) (by omega) ?_
    refine Tr.gen (P := fun v => 0 ≤ v ∧ v ≤ 1) (ar_147 hS.1.2.1 _) (fun r24 er24 br24 => ?_)
    refine Tr.if_eq (pc := 25) (tgt := 32) d_X12_operand_25 rfl (fun c25 => ?_) (fun c25 => ?_)
    · refine Tr.pick [1, 0] (ls2 := [(0, (2, 120)), (1, (0, (g120_43 - 1)))]) rfl ?_
      exact J32 _ hS ((St.kp h13 (by decide) (by decide) (by decide)).trans eg120_3) ((St.kp h13 (by decide) (by decide) (by decide)).trans eg120_36) ((St.kp h13 (by decide) (by decide) (by decide)).trans eg120_4) ((St.kp h13 (by decide) (by decide) (by decide)).trans eg120_43) ((St.kp h13 (by decide) (by decide) (by decide)).trans eg120_44) ((St.kp h13 (by decide) (by decide) (by decide)).trans eg120_46) ((St.kp h13 (by decide) (by decide) (by decide)).trans eg120_5) ((St.kp h13 (by decide) (by decide) (by decide)).trans eg120_50) ((St.kp h13 (by decide) (by decide) (by decide)).trans eg120_6) ((St.kp h13 (by decide) (by decide) (by decide)).trans eg120_7) ((St.kp h13 (by decide) (by decide) (by decide)).trans eg120_8) ((St.kp h13 (by decide) (by decide) (by decide)).trans eg136_1) ((St.ka h13 (by decide) (by decide) (by decide)).trans er12) ((nb2v_of (fun j => ((St.ka h13 (by decide) (by decide) (by decide)).trans rfl)) ((St.kp h13 (by decide) (by decide) (by decide)).trans rfl)).trans eg9001_0) ((n4v_of (fun j => ((St.ka h13 (by decide) (by decide) (by decide)).trans rfl)) ((St.kp h13 (by decide) (by decide) (by decide)).trans rfl)).trans eg9002_0) ((Dv1_of (fun j => ((St.ka h13 (by decide) (by decide) (by decide)).trans rfl)) (fun j => ((St.ka h13 (by decide) (by decide) (by decide)).trans rfl)) ((St.kp h13 (by decide) (by decide) (by decide)).trans rfl) ((St.kp h13 (by decide) (by decide) (by decide)).trans rfl)).trans eg9004_0) ((fr0_of (fun j => ((St.ka h13 (by decide) (by decide) (by decide)).trans rfl))).trans eg9005_0) ((tav_of ((St.kp h13 (by decide) (by decide) (by decide)).trans rfl) ((St.kp h13 (by decide) (by decide) (by decide)).trans rfl)).trans eg9010_0) (by first | exact (hd_o hq0) | exact (hd_o hq0).elim (fun h1 => by omega) (fun h1 => by omega)) (by omega) (by first | exact (hd_o hq2) | exact (hd_o hq2).elim (fun h1 => by omega) (fun h1 => h1.elim (fun h1 => by omega) (fun h1 => by omega))) (by and_intros <;> omega) (by omega)
    · have c25b : 1 ≤ r24 ∧ r24 ≤ 1 := by omega
      replace c25 := hd_i c25
      refine Tr.iconst (pc := 28) d_X12_operand_28 (by decide) ?_
      refine Tr.goto (pc := 29) (tgt := 33) d_X12_operand_29 rfl ?_
      refine Tr.pick [1, 0] (ls2 := [(0, (2, 120)), (1, (0, (g120_43 - 1)))]) rfl ?_
      exact J33 _ _ hS (by omega) ((St.kp h13 (by decide) (by decide) (by decide)).trans eg120_3) ((St.kp h13 (by decide) (by decide) (by decide)).trans eg120_36) ((St.kp h13 (by decide) (by decide) (by decide)).trans eg120_4) ((St.kp h13 (by decide) (by decide) (by decide)).trans eg120_43) ((St.kp h13 (by decide) (by decide) (by decide)).trans eg120_44) ((St.kp h13 (by decide) (by decide) (by decide)).trans eg120_46) ((St.kp h13 (by decide) (by decide) (by decide)).trans eg120_5) ((St.kp h13 (by decide) (by decide) (by decide)).trans eg120_50) ((St.kp h13 (by decide) (by decide) (by decide)).trans eg120_6) ((St.kp h13 (by decide) (by decide) (by decide)).trans eg120_7) ((St.kp h13 (by decide) (by decide) (by decide)).trans eg120_8) ((St.kp h13 (by decide) (by decide) (by decide)).trans eg136_1) ((St.ka h13 (by decide) (by decide) (by decide)).trans er12) ((nb2v_of (fun j => ((St.ka h13 (by decide) (by decide) (by decide)).trans rfl)) ((St.kp h13 (by decide) (by decide) (by decide)).trans rfl)).trans eg9001_0) ((n4v_of (fun j => ((St.ka h13 (by decide) (by decide) (by decide)).trans rfl)) ((St.kp h13 (by decide) (by decide) (by decide)).trans rfl)).trans eg9002_0) ((Dv1_of (fun j => ((St.ka h13 (by decide) (by decide) (by decide)).trans rfl)) (fun j => ((St.ka h13 (by decide) (by decide) (by decide)).trans rfl)) ((St.kp h13 (by decide) (by decide) (by decide)).trans rfl) ((St.kp h13 (by decide) (by decide) (by decide)).trans rfl)).trans eg9004_0) ((fr0_of (fun j => ((St.ka h13 (by decide) (by decide) (by decide)).trans rfl))).trans eg9005_0) ((tav_of ((St.kp h13 (by decide) (by decide) (by decide)).trans rfl) ((St.kp h13 (by decide) (by decide) (by decide)).trans rfl)).trans eg9010_0) (by first | exact (hd_o hq0) | exact (hd_o hq0).elim (fun h1 => by omega) (fun h1 => by omega)) (by omega) (by first | exact (hd_o hq2) | exact (hd_o hq2).elim (fun h1 => by omega) (fun h1 => h1.elim (fun h1 => by omega) (fun h1 => by omega))) (by and_intros <;> omega) (by omega)
