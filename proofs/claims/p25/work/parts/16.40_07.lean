/-! 40.07 -/
section
set_option maxRecDepth 100000 in
set_option maxHeartbeats 4000000 in
theorem ns_X12_blame_120_w1 {l : Launch} {K : EC} {M0 : Mem} {G120_8 : Int} (hI : In Pm0 M0) (k120_8 : rd M0 120 8 = G120_8)  (a1 : Int) (ha1 : 1 ≤ a1 ∧ a1 ≤ 5) (a2 : Int) (ha2 : 0 ≤ a2 ∧ a2 ≤ 900)  : Tr l K 0 mX12_blame 0 [(0, (2, 120)), (1, (0, a1)), (2, (0, a2))] [] M0 (fun M' r => St Pm0 ws_X12_blame_120_w1 as_X12_blame_120_w1 M0 M' ∧ ∃ S120_8 : Int, rd M' 120 8 = S120_8 ∧ (0 ≤ S120_8 ∧ S120_8 ≤ 5) ∧ r = none ∧ Hd ((G120_8 = 0 ∧ S120_8 = a1) ∨ (1 ≤ G120_8 ∧ S120_8 = G120_8))) := by
  subst k120_8
  refine Tr.imp (sp_X12_blame_120_w1 hI a1 ha1 a2 ha2) ?_
  rintro M' _ ⟨hS, rfl, z0⟩
  exact ⟨hS, _, rfl, ir_120_8 hS.1.2.1, rfl, hd_i z0⟩

def ws_X12_next_120_w1 : List (Int × Int) := [(120, 3), (120, 4), (120, 5), (120, 6), (120, 7), (120, 8), (120, 9)]
def as_X12_next_120_w1 : List Int := []
def q_X12_next_120_w1 (M0 M' : Mem) (r : Option PV) : Prop := St Pm0 ws_X12_next_120_w1 as_X12_next_120_w1 M0 M' ∧ r = none ∧ (rd M' 120 3 = 0 ∨ rd M' 120 4 + 1 ≤ rd M' 120 5) ∧ (rd M' 120 4 ≤ rd M' 120 5) ∧ (rd M' 120 3 ≠ 1 ∨ rd M' 120 4 + 2 ≤ rd M' 120 5 ∨ rd M' 120 7 < 256) ∧ (rd M0 120 5 ≤ rd M' 120 4) ∧ (tav M0 ≤ tav M') ∧ (rd M0 120 3 = 0 ∨ tav M0 < tav M') ∧ (rd M0 120 8 = 0 ∨ rd M' 120 8 = rd M0 120 8)
theorem kp_X12_blame_120_w1_120_2 {q : Mem → Prop} {M0 M : Mem} (h : St q ws_X12_blame_120_w1 as_X12_blame_120_w1 M0 M) : rd M 120 2 = rd M0 120 2 := St.kp h (by decide) (by decide) (by decide)
theorem kp_X12_blame_120_w1_120_3 {q : Mem → Prop} {M0 M : Mem} (h : St q ws_X12_blame_120_w1 as_X12_blame_120_w1 M0 M) : rd M 120 3 = rd M0 120 3 := St.kp h (by decide) (by decide) (by decide)
theorem kp_X12_blame_120_w1_120_4 {q : Mem → Prop} {M0 M : Mem} (h : St q ws_X12_blame_120_w1 as_X12_blame_120_w1 M0 M) : rd M 120 4 = rd M0 120 4 := St.kp h (by decide) (by decide) (by decide)
theorem kp_X12_blame_120_w1_120_5 {q : Mem → Prop} {M0 M : Mem} (h : St q ws_X12_blame_120_w1 as_X12_blame_120_w1 M0 M) : rd M 120 5 = rd M0 120 5 := St.kp h (by decide) (by decide) (by decide)
theorem kp_X12_blame_120_w1_120_7 {q : Mem → Prop} {M0 M : Mem} (h : St q ws_X12_blame_120_w1 as_X12_blame_120_w1 M0 M) : rd M 120 7 = rd M0 120 7 := St.kp h (by decide) (by decide) (by decide)
theorem ka_X12_blame_120_w1_121 {q : Mem → Prop} {M0 M : Mem} (h : St q ws_X12_blame_120_w1 as_X12_blame_120_w1 M0 M) (j : Int) : rd M 121 j = rd M0 121 j := St.ka h (by decide) (by decide) (by decide)
set_option maxRecDepth 100000 in
set_option maxHeartbeats 4000000 in
theorem sp_X12_next_120_w1 {l : Launch} {K : EC} {M0 : Mem} (hI : In Pm0 M0)    : Tr l K 1 mX12_next 0 [(0, (2, 120))] [] M0 (q_X12_next_120_w1 M0) := by
  have hS : St Pm0 ws_X12_next_120_w1 as_X12_next_120_w1 M0 M0 := St.rf hI
  obtain ⟨g120_8, eg120_8⟩ : ∃ v, rd M0 120 8 = v := ⟨_, rfl⟩
  have bg120_8 : 0 ≤ g120_8 ∧ g120_8 ≤ 5 := by rw [← eg120_8]; exact ir_120_8 hI.2.1
  obtain ⟨g120_3, eg120_3⟩ : ∃ v, rd M0 120 3 = v := ⟨_, rfl⟩
  have bg120_3 : 0 ≤ g120_3 ∧ g120_3 ≤ 3 := by rw [← eg120_3]; exact ir_120_3 hI.2.1
  obtain ⟨g120_4, eg120_4⟩ : ∃ v, rd M0 120 4 = v := ⟨_, rfl⟩
  have bg120_4 : 0 ≤ g120_4 ∧ g120_4 ≤ 900 := by rw [← eg120_4]; exact ir_120_4 hI.2.1
  obtain ⟨g120_5, eg120_5⟩ : ∃ v, rd M0 120 5 = v := ⟨_, rfl⟩
  have bg120_5 : 0 ≤ g120_5 ∧ g120_5 ≤ 900 := by rw [← eg120_5]; exact ir_120_5 hI.2.1
  obtain ⟨g120_7, eg120_7⟩ : ∃ v, rd M0 120 7 = v := ⟨_, rfl⟩
  have bg120_7 : (-9223372036854775808) ≤ g120_7 ∧ g120_7 ≤ 9223372036854775807 := by rw [← eg120_7]; exact ir_120_7 hI.2.1
  obtain ⟨g9010_0, eg9010_0⟩ : ∃ v, tav M0 = v := ⟨_, rfl⟩
  have bg9010_0 : (-1) ≤ g9010_0 ∧ g9010_0 ≤ 1800 := by rw [← eg9010_0]; exact (tav_b hI.2.1)
  have jt0 := tav_c eg120_5 eg120_3
  rw [eg9010_0] at jt0
  replace jt0 := hd_i jt0
  refine Tr.aload_n (pc := 0) (i := 0) d_X12_next_0 rfl rfl ?_
  refine Tr.getf (pc := 1) d_X12_next_1 f_12_26 (by decide) (by decide) (ty_120 hS.1.1) ?_
  refine Tr.tp g120_5 eg120_5 ?_
  refine Tr.istore_n (pc := 4) (i := 1) (ls2 := [(1, (0, g120_5)), (0, (2, 120))]) d_X12_next_4 rfl (by decide) rfl ?_
  have J5 : ∀ (n5 : Nat) (M : Mem) (p5_1 : Int), St Pm0 ws_X12_next_120_w1 as_X12_next_120_w1 M0 M → (0 ≤ p5_1 ∧ p5_1 ≤ 900) → rd M 120 3 = g120_3 → rd M 120 4 = g120_4 → rd M 120 5 = g120_5 → rd M 120 7 = g120_7 → rd M 120 8 = g120_8 → tav M = g9010_0 → (g120_5 ≤ p5_1 ∧ g120_8 = g120_8) → (900 - p5_1).toNat < n5 → Tr l K 1 mX12_next 5 [(0, (2, 120)), (1, (0, p5_1))] [] M (q_X12_next_120_w1 M0) := by
    intro n5
    induction n5 with
    | zero => intro M p5_1 hS bp5_1 k5_120_3 k5_120_4 k5_120_5 k5_120_7 k5_120_8 k5_9010_0 t5_0 hm5; exact absurd hm5 (Nat.not_lt_zero _)
    | succ n5 J5 =>
      intro M p5_1 hS bp5_1 k5_120_3 k5_120_4 k5_120_5 k5_120_7 k5_120_8 k5_9010_0 t5_0 hm5
      refine Tr.iload_n (pc := 5) (i := 1) d_X12_next_5 rfl rfl ?_
      refine Tr.aload_n (pc := 6) (i := 0) d_X12_next_6 rfl rfl ?_
      refine Tr.getf (pc := 7) d_X12_next_7 f_12_17 (by decide) (by decide) (ty_120 hS.1.1) ?_
      refine Tr.gen (P := fun v => 0 ≤ v ∧ v ≤ 900) (ir_120_2 hS.1.2.1) (fun r7 er7 br7 => ?_)
      have J41 : ∀ (M : Mem), St Pm0 ws_X12_next_120_w1 as_X12_next_120_w1 M0 M → rd M 120 2 = r7 → rd M 120 3 = g120_3 → rd M 120 4 = g120_4 → rd M 120 5 = g120_5 → rd M 120 7 = g120_7 → rd M 120 8 = g120_8 → tav M = g9010_0 → (g120_5 ≤ p5_1 ∧ g120_8 = g120_8) → Tr l K 1 mX12_next 41 [(0, (2, 120)), (1, (0, p5_1))] [] M (q_X12_next_120_w1 M0) := by
        intro M  hS  k41_120_2 k41_120_3 k41_120_4 k41_120_5 k41_120_7 k41_120_8 k41_9010_0 t41_0
        clear k5_120_3 k5_120_4 k5_120_5 k5_120_7 k5_120_8 k5_9010_0 er7
        refine Tr.aload_n (pc := 41) (i := 0) d_X12_next_41 rfl rfl ?_
        refine Tr.iload_n (pc := 42) (i := 1) d_X12_next_42 rfl rfl ?_
        refine Tr.putfS (pc := 43) (P := St Pm0 ws_X12_next_120_w1 as_X12_next_120_w1 M0) d_X12_next_43 f_12_23 (by decide) (by decide) (ty_120 hS.1.1) (st_120_4 hS (by decide) (by and_intros <;> omega) (Pm0.of hS.1.2.2.2.2 (fun _ => rd_wb _ rfl) (fun _ => rd_wb _ rfl) (fun _ => rd_wb _ rfl) (fun _ => rd_wb _ rfl) (fun _ => rd_wb _ rfl) (fun _ => rd_wb _ rfl) (fun _ => rd_wb _ rfl) (fun _ => rd_wb _ rfl) (fun _ => rd_wb _ rfl) (fun _ => rd_wb _ rfl) (rd_wb _ rfl) (rd_wb _ rfl) (rd_wb _ rfl) (rd_wb _ rfl) (rd_wb _ rfl) (rd_wb _ rfl) (rd_wb _ rfl) (rd_wb _ rfl) (rd_wb _ rfl) (rd_wb _ rfl) (rd_wb _ rfl))) (fun M43 hS w43 => ?_)
        refine Tr.aload_n (pc := 46) (i := 0) d_X12_next_46 rfl rfl ?_
        refine Tr.iload_n (pc := 47) (i := 1) d_X12_next_47 rfl rfl ?_
        refine Tr.putfS (pc := 48) (P := St Pm0 ws_X12_next_120_w1 as_X12_next_120_w1 M0) d_X12_next_48 f_12_26 (by decide) (by decide) (ty_120 hS.1.1) (st_120_5 hS (by decide) (by and_intros <;> omega) (Pm0.of hS.1.2.2.2.2 (fun _ => rd_wb _ rfl) (fun _ => rd_wb _ rfl) (fun _ => rd_wb _ rfl) (fun _ => rd_wb _ rfl) (fun _ => rd_wb _ rfl) (fun _ => rd_wb _ rfl) (fun _ => rd_wb _ rfl) (fun _ => rd_wb _ rfl) (fun _ => rd_wb _ rfl) (fun _ => rd_wb _ rfl) (rd_wb _ rfl) (rd_wb _ rfl) (rd_wb _ rfl) (rd_wb _ rfl) (rd_wb _ rfl) (rd_wb _ rfl) (rd_wb _ rfl) (rd_wb _ rfl) (rd_wb _ rfl) (rd_wb _ rfl) (rd_wb _ rfl))) (fun M48 hS w48 => ?_)
        refine Tr.aload_n (pc := 51) (i := 0) d_X12_next_51 rfl rfl ?_
        refine Tr.iconst (pc := 52) d_X12_next_52 (by decide) ?_
        refine Tr.putfS (pc := 53) (P := St Pm0 ws_X12_next_120_w1 as_X12_next_120_w1 M0) d_X12_next_53 f_12_20 (by decide) (by decide) (ty_120 hS.1.1) (st_120_3 hS (by decide) (by omega) (Pm0.of hS.1.2.2.2.2 (fun _ => rd_wb _ rfl) (fun _ => rd_wb _ rfl) (fun _ => rd_wb _ rfl) (fun _ => rd_wb _ rfl) (fun _ => rd_wb _ rfl) (fun _ => rd_wb _ rfl) (fun _ => rd_wb _ rfl) (fun _ => rd_wb _ rfl) (fun _ => rd_wb _ rfl) (fun _ => rd_wb _ rfl) (rd_wb _ rfl) (rd_wb _ rfl) (rd_wb _ rfl) (rd_wb _ rfl) (rd_wb _ rfl) (rd_wb _ rfl) (rd_wb _ rfl) (rd_wb _ rfl) (rd_wb _ rfl) (rd_wb _ rfl) (rd_wb _ rfl))) (fun M53 hS w53 => ?_)
        refine Tr.iload_n (pc := 56) (i := 1) d_X12_next_56 rfl rfl ?_
        refine Tr.aload_n (pc := 57) (i := 0) d_X12_next_57 rfl rfl ?_
        refine Tr.getf (pc := 58) d_X12_next_58 f_12_17 (by decide) (by decide) (ty_120 hS.1.1) ?_
        refine Tr.tp r7 ((Wr.b w53 rfl).trans ((Wr.b w48 rfl).trans ((Wr.b w43 rfl).trans k41_120_2))) ?_
        refine Tr.icmp_lt (pc := 61) (tgt := 65) d_X12_next_61 rfl (fun c61 => ?_) (fun c61 => ?_)
        · refine Tr.aload_n (pc := 65) (i := 0) d_X12_next_65 rfl rfl ?_
          refine Tr.getf (pc := 66) d_X12_next_66 f_12_7 (by decide) (by decide) (ty_120 hS.1.1) ?_
          refine Tr.tp 121 (fx_120_0 hS.1.1) ?_
          refine Tr.iload_n (pc := 69) (i := 1) d_X12_next_69 rfl rfl ?_
          refine Tr.iald (pc := 70) d_X12_next_70 (ty_121 hS.1.1) (by omega) (by omega) ?_
          refine Tr.gen (P := fun v => (-2147483648) ≤ v ∧ v ≤ 2147483647) (ar_121 hS.1.2.1 _) (fun r70 er70 br70 => ?_)
          refine Tr.callS (pc := 71) (as := [_]) d_X12_next_71 s_12_382 ok_X12_isLetter rfl rfl (Nat.le_of_ble_eq_true rfl) (Nat.le_of_ble_eq_true rfl) ?_
          refine Tr.imp (Tr.deep (by decide) (sp_X12_isLetter hS.1.wk r70 (by and_intros <;> omega))) ?_
          rintro M71 _ ⟨h71, r71, rfl, lr71, ur71, wr71⟩
          have h71 := St.rn h71 (Pm0.of hS.1.2.2.2.2 (fun _ => (ka_X12_isLetter_131 h71 _)) (fun _ => (ka_X12_isLetter_137 h71 _)) (fun _ => (ka_X12_isLetter_138 h71 _)) (fun _ => (ka_X12_isLetter_139 h71 _)) (fun _ => (ka_X12_isLetter_140 h71 _)) (fun _ => (ka_X12_isLetter_141 h71 _)) (fun _ => (ka_X12_isLetter_142 h71 _)) (fun _ => (ka_X12_isLetter_143 h71 _)) (fun _ => (ka_X12_isLetter_151 h71 _)) (fun _ => (ka_X12_isLetter_152 h71 _)) (kp_X12_isLetter_126_0 h71) (kp_X12_isLetter_126_1 h71) (kp_X12_isLetter_136_0 h71) (kp_X12_isLetter_136_1 h71) (kp_X12_isLetter_123_0 h71) (kp_X12_isLetter_123_1 h71) (kp_X12_isLetter_124_0 h71) (kp_X12_isLetter_124_1 h71) (kp_X12_isLetter_120_8 h71) (kp_X12_isLetter_120_36 h71) (kp_X12_isLetter_120_50 h71))
          have hS := St.tr hS h71 (by decide) (by decide)
          replace wr71 := hd_i wr71
          refine Tr.sc [(0, r71)] rfl ?_
          refine Tr.istore_n (pc := 74) (i := 2) (ls2 := [(2, (0, r71)), (0, (2, 120)), (1, (0, p5_1))]) d_X12_next_74 rfl (by decide) rfl ?_
          refine Tr.aload_n (pc := 75) (i := 0) d_X12_next_75 rfl rfl ?_
          refine Tr.getf (pc := 76) d_X12_next_76 f_12_7 (by decide) (by decide) (ty_120 hS.1.1) ?_
          refine Tr.tp 121 (fx_120_0 hS.1.1) ?_
          refine Tr.iload_n (pc := 79) (i := 1) d_X12_next_79 rfl rfl ?_
          refine Tr.iald (pc := 80) d_X12_next_80 (ty_121 hS.1.1) (by omega) (by omega) ?_
          refine Tr.tp r70 ((ka_X12_isLetter_121 h71 _).trans er70) ?_
          refine Tr.callS (pc := 81) (as := [_]) d_X12_next_81 s_12_386 ok_X12_isDigit rfl rfl (Nat.le_of_ble_eq_true rfl) (Nat.le_of_ble_eq_true rfl) ?_
          refine Tr.imp (Tr.deep (by decide) (sp_X12_isDigit hS.1.wk r70 (by and_intros <;> omega))) ?_
          rintro M81 _ ⟨h81, r81, rfl, lr81, ur81, wr81⟩
          have h81 := St.rn h81 (Pm0.of hS.1.2.2.2.2 (fun _ => (ka_X12_isDigit_131 h81 _)) (fun _ => (ka_X12_isDigit_137 h81 _)) (fun _ => (ka_X12_isDigit_138 h81 _)) (fun _ => (ka_X12_isDigit_139 h81 _)) (fun _ => (ka_X12_isDigit_140 h81 _)) (fun _ => (ka_X12_isDigit_141 h81 _)) (fun _ => (ka_X12_isDigit_142 h81 _)) (fun _ => (ka_X12_isDigit_143 h81 _)) (fun _ => (ka_X12_isDigit_151 h81 _)) (fun _ => (ka_X12_isDigit_152 h81 _)) (kp_X12_isDigit_126_0 h81) (kp_X12_isDigit_126_1 h81) (kp_X12_isDigit_136_0 h81) (kp_X12_isDigit_136_1 h81) (kp_X12_isDigit_123_0 h81) (kp_X12_isDigit_123_1 h81) (kp_X12_isDigit_124_0 h81) (kp_X12_isDigit_124_1 h81) (kp_X12_isDigit_120_8 h81) (kp_X12_isDigit_120_36 h81) (kp_X12_isDigit_120_50 h81))
          have hS := St.tr hS h81 (by decide) (by decide)
          replace wr81 := hd_i wr81
          refine Tr.sc [(0, r81)] rfl ?_
          refine Tr.istore_n (pc := 84) (i := 3) (ls2 := [(3, (0, r81)), (2, (0, r71)), (0, (2, 120)), (1, (0, p5_1))]) d_X12_next_84 rfl (by decide) rfl ?_
          refine Tr.iload_n (pc := 85) (i := 2) d_X12_next_85 rfl rfl ?_
          have J131 : ∀ (M : Mem) (u131_120_8 u131_9010_0 : Int), St Pm0 ws_X12_next_120_w1 as_X12_next_120_w1 M0 M → (0 ≤ u131_120_8 ∧ u131_120_8 ≤ 5) → ((-1) ≤ u131_9010_0 ∧ u131_9010_0 ≤ 1800) → rd M 120 2 = r7 → rd M 120 3 = 0 → rd M 120 4 = p5_1 → rd M 120 5 = p5_1 → rd M 120 7 = g120_7 → rd M 120 8 = u131_120_8 → rd M 121 p5_1 = r70 → tav M = u131_9010_0 → (g120_5 ≤ p5_1) → (p5_1 = p5_1) → (g120_8 = 0 ∨ u131_120_8 = g120_8) → ((r71 = 1 ∧ 97 ≤ rd M 121 p5_1 ∧ rd M 121 p5_1 ≤ 122) ∨ (r71 = 0 ∧ (rd M 121 p5_1 < 97 ∨ 122 < rd M 121 p5_1))) → ((r81 = 1 ∧ 48 ≤ rd M 121 p5_1 ∧ rd M 121 p5_1 ≤ 57) ∨ (r81 = 0 ∧ (rd M 121 p5_1 < 48 ∨ 57 < rd M 121 p5_1))) → Tr l K 1 mX12_next 131 [(0, (2, 120)), (1, (0, p5_1)), (2, (0, r71)), (3, (0, r81))] [] M (q_X12_next_120_w1 M0) := by
            intro M u131_120_8 u131_9010_0 hS bu131_120_8 bu131_9010_0 k131_120_2 k131_120_3 k131_120_4 k131_120_5 k131_120_7 k131_120_8 k131_121_p5_110 k131_9010_0 t131_0 t131_1 t131_2 t131_3 t131_4
            clear k41_120_2 k41_120_3 k41_120_4 k41_120_5 k41_120_7 k41_120_8 k41_9010_0 w43 w48 w53 er70
            replace t131_2 := hd_i t131_2
            replace t131_3 := hd_i t131_3
            replace t131_4 := hd_i t131_4
            refine Tr.aload_n (pc := 131) (i := 0) d_X12_next_131 rfl rfl ?_
            refine Tr.iconst (pc := 132) d_X12_next_132 (by decide) ?_
            refine Tr.putfS (pc := 133) (P := St Pm0 ws_X12_next_120_w1 as_X12_next_120_w1 M0) d_X12_next_133 f_12_29 (by decide) (by decide) (ty_120 hS.1.1) (st_120_6 hS (by decide) (by omega) (Pm0.of hS.1.2.2.2.2 (fun _ => rd_wb _ rfl) (fun _ => rd_wb _ rfl) (fun _ => rd_wb _ rfl) (fun _ => rd_wb _ rfl) (fun _ => rd_wb _ rfl) (fun _ => rd_wb _ rfl) (fun _ => rd_wb _ rfl) (fun _ => rd_wb _ rfl) (fun _ => rd_wb _ rfl) (fun _ => rd_wb _ rfl) (rd_wb _ rfl) (rd_wb _ rfl) (rd_wb _ rfl) (rd_wb _ rfl) (rd_wb _ rfl) (rd_wb _ rfl) (rd_wb _ rfl) (rd_wb _ rfl) (rd_wb _ rfl) (rd_wb _ rfl) (rd_wb _ rfl))) (fun M133 hS w133 => ?_)
            refine Tr.aload_n (pc := 136) (i := 0) d_X12_next_136 rfl rfl ?_
            refine Tr.lconst (pc := 137) (v := 0) d_X12_next_137 rfl (by decide) ?_
            refine Tr.putfS (pc := 138) (P := St Pm0 ws_X12_next_120_w1 as_X12_next_120_w1 M0) d_X12_next_138 f_12_32 (by decide) (by decide) (ty_120 hS.1.1) (st_120_7 hS (by decide) (by omega) (Pm0.of hS.1.2.2.2.2 (fun _ => rd_wb _ rfl) (fun _ => rd_wb _ rfl) (fun _ => rd_wb _ rfl) (fun _ => rd_wb _ rfl) (fun _ => rd_wb _ rfl) (fun _ => rd_wb _ rfl) (fun _ => rd_wb _ rfl) (fun _ => rd_wb _ rfl) (fun _ => rd_wb _ rfl) (fun _ => rd_wb _ rfl) (rd_wb _ rfl) (rd_wb _ rfl) (rd_wb _ rfl) (rd_wb _ rfl) (rd_wb _ rfl) (rd_wb _ rfl) (rd_wb _ rfl) (rd_wb _ rfl) (rd_wb _ rfl) (rd_wb _ rfl) (rd_wb _ rfl))) (fun M138 hS w138 => ?_)
            refine Tr.aload_n (pc := 141) (i := 0) d_X12_next_141 rfl rfl ?_
            refine Tr.iconst (pc := 142) d_X12_next_142 (by decide) ?_
            refine Tr.putfS (pc := 143) (P := St Pm0 ws_X12_next_120_w1 as_X12_next_120_w1 M0) d_X12_next_143 f_12_20 (by decide) (by decide) (ty_120 hS.1.1) (st_120_3 hS (by decide) (by omega) (Pm0.of hS.1.2.2.2.2 (fun _ => rd_wb _ rfl) (fun _ => rd_wb _ rfl) (fun _ => rd_wb _ rfl) (fun _ => rd_wb _ rfl) (fun _ => rd_wb _ rfl) (fun _ => rd_wb _ rfl) (fun _ => rd_wb _ rfl) (fun _ => rd_wb _ rfl) (fun _ => rd_wb _ rfl) (fun _ => rd_wb _ rfl) (rd_wb _ rfl) (rd_wb _ rfl) (rd_wb _ rfl) (rd_wb _ rfl) (rd_wb _ rfl) (rd_wb _ rfl) (rd_wb _ rfl) (rd_wb _ rfl) (rd_wb _ rfl) (rd_wb _ rfl) (rd_wb _ rfl))) (fun M143 hS w143 => ?_)
            refine Tr.aload_n (pc := 146) (i := 0) d_X12_next_146 rfl rfl ?_
            refine Tr.iload_n (pc := 147) (i := 1) d_X12_next_147 rfl rfl ?_
            refine Tr.iconst (pc := 148) d_X12_next_148 (by decide) ?_
            refine Tr.iadd (pc := 149) d_X12_next_149 ?_
            refine Tr.tp (p5_1 + 1) ((w32_id (by and_intros <;> omega)).trans (by omega)) ?_
            refine Tr.putfS (pc := 150) (P := St Pm0 ws_X12_next_120_w1 as_X12_next_120_w1 M0) d_X12_next_150 f_12_26 (by decide) (by decide) (ty_120 hS.1.1) (st_120_5 hS (by decide) (by and_intros <;> omega) (Pm0.of hS.1.2.2.2.2 (fun _ => rd_wb _ rfl) (fun _ => rd_wb _ rfl) (fun _ => rd_wb _ rfl) (fun _ => rd_wb _ rfl) (fun _ => rd_wb _ rfl) (fun _ => rd_wb _ rfl) (fun _ => rd_wb _ rfl) (fun _ => rd_wb _ rfl) (fun _ => rd_wb _ rfl) (fun _ => rd_wb _ rfl) (rd_wb _ rfl) (rd_wb _ rfl) (rd_wb _ rfl) (rd_wb _ rfl) (rd_wb _ rfl) (rd_wb _ rfl) (rd_wb _ rfl) (rd_wb _ rfl) (rd_wb _ rfl) (rd_wb _ rfl) (rd_wb _ rfl))) (fun M150 hS w150 => ?_)
            refine Tr.iload_n (pc := 153) (i := 2) d_X12_next_153 rfl rfl ?_
            have J172 : ∀ (M : Mem) (u172_9010_0 : Int), St Pm0 ws_X12_next_120_w1 as_X12_next_120_w1 M0 M → ((-1) ≤ u172_9010_0 ∧ u172_9010_0 ≤ 1800) → rd M 120 2 = r7 → rd M 120 3 = 3 → rd M 120 4 = p5_1 → rd M 120 5 = (p5_1 + 1) → rd M 120 6 = 0 → rd M 120 7 = 0 → rd M 120 8 = u131_120_8 → rd M 121 p5_1 = r70 → tav M = u172_9010_0 → (g120_5 ≤ p5_1) → (p5_1 = p5_1) → (g120_8 = 0 ∨ u131_120_8 = g120_8) → ((r71 = 1 ∧ 97 ≤ rd M 121 p5_1 ∧ rd M 121 p5_1 ≤ 122) ∨ (r71 = 0 ∧ (rd M 121 p5_1 < 97 ∨ 122 < rd M 121 p5_1))) → ((r81 = 1 ∧ 48 ≤ rd M 121 p5_1 ∧ rd M 121 p5_1 ≤ 57) ∨ (r81 = 0 ∧ (rd M 121 p5_1 < 48 ∨ 57 < rd M 121 p5_1))) → (r71 = 1 ∨ r81 = 1) → Tr l K 1 mX12_next 172 [(0, (2, 120)), (1, (0, p5_1)), (2, (0, r71)), (3, (0, r81))] [] M (q_X12_next_120_w1 M0) := by
              intro M u172_9010_0 hS bu172_9010_0 k172_120_2 k172_120_3 k172_120_4 k172_120_5 k172_120_6 k172_120_7 k172_120_8 k172_121_p5_110 k172_9010_0 t172_0 t172_1 t172_2 t172_3 t172_4 t172_5
              clear k131_120_2 k131_120_3 k131_120_4 k131_120_5 k131_120_7 k131_120_8 k131_121_p5_110 k131_9010_0 w133 w138 w143 w150
              replace t172_2 := hd_i t172_2
              replace t172_3 := hd_i t172_3
              replace t172_4 := hd_i t172_4
              replace t172_5 := hd_i t172_5
              refine Tr.aload_n (pc := 172) (i := 0) d_X12_next_172 rfl rfl ?_
              refine Tr.iload_n (pc := 173) (i := 2) d_X12_next_173 rfl rfl ?_
              have J182 : ∀ (M : Mem) (q182_1 : Int), St Pm0 ws_X12_next_120_w1 as_X12_next_120_w1 M0 M → (1 ≤ q182_1 ∧ q182_1 ≤ 2) → rd M 120 2 = r7 → rd M 120 3 = 3 → rd M 120 4 = p5_1 → rd M 120 5 = (p5_1 + 1) → rd M 120 6 = 0 → rd M 120 7 = 0 → rd M 120 8 = u131_120_8 → rd M 121 p5_1 = r70 → tav M = u172_9010_0 → (g120_5 ≤ p5_1) → (p5_1 = p5_1) → (g120_8 = 0 ∨ u131_120_8 = g120_8) → ((r71 = 1 ∧ 97 ≤ rd M 121 p5_1 ∧ rd M 121 p5_1 ≤ 122) ∨ (r71 = 0 ∧ (rd M 121 p5_1 < 97 ∨ 122 < rd M 121 p5_1))) → ((r81 = 1 ∧ 48 ≤ rd M 121 p5_1 ∧ rd M 121 p5_1 ≤ 57) ∨ (r81 = 0 ∧ (rd M 121 p5_1 < 48 ∨ 57 < rd M 121 p5_1))) → (r71 = 1 ∨ r81 = 1) → ((r71 = 1 ∧ q182_1 = 1) ∨ (r71 = 0 ∧ q182_1 = 2)) → Tr l K 1 mX12_next 182 [(0, (2, 120)), (1, (0, p5_1)), (2, (0, r71)), (3, (0, r81))] [(0, q182_1), (2, 120)] M (q_X12_next_120_w1 M0) := by
                intro M q182_1 hS bq182_1 k182_120_2 k182_120_3 k182_120_4 k182_120_5 k182_120_6 k182_120_7 k182_120_8 k182_121_p5_110 k182_9010_0 t182_0 t182_1 t182_2 t182_3 t182_4 t182_5 t182_6
                clear k172_120_2 k172_120_3 k172_120_4 k172_120_5 k172_120_6 k172_120_7 k172_120_8 k172_121_p5_110 k172_9010_0
                replace t182_2 := hd_i t182_2
                replace t182_3 := hd_i t182_3
                replace t182_4 := hd_i t182_4
                replace t182_5 := hd_i t182_5
                replace t182_6 := hd_i t182_6
                refine Tr.putfS (pc := 182) (P := St Pm0 ws_X12_next_120_w1 as_X12_next_120_w1 M0) d_X12_next_182 f_12_20 (by decide) (by decide) (ty_120 hS.1.1) (st_120_3 hS (by decide) (by and_intros <;> omega) (Pm0.of hS.1.2.2.2.2 (fun _ => rd_wb _ rfl) (fun _ => rd_wb _ rfl) (fun _ => rd_wb _ rfl) (fun _ => rd_wb _ rfl) (fun _ => rd_wb _ rfl) (fun _ => rd_wb _ rfl) (fun _ => rd_wb _ rfl) (fun _ => rd_wb _ rfl) (fun _ => rd_wb _ rfl) (fun _ => rd_wb _ rfl) (rd_wb _ rfl) (rd_wb _ rfl) (rd_wb _ rfl) (rd_wb _ rfl) (rd_wb _ rfl) (rd_wb _ rfl) (rd_wb _ rfl) (rd_wb _ rfl) (rd_wb _ rfl) (rd_wb _ rfl) (rd_wb _ rfl))) (fun M182 hS w182 => ?_)
                refine Tr.iload_n (pc := 185) (i := 2) d_X12_next_185 rfl rfl ?_
                have J195 : ∀ (M : Mem) (q195_0 u195_9010_0 : Int), St Pm0 ws_X12_next_120_w1 as_X12_next_120_w1 M0 M → (4 ≤ q195_0 ∧ q195_0 ≤ 6) → ((-1) ≤ u195_9010_0 ∧ u195_9010_0 ≤ 1800) → rd M 120 2 = r7 → rd M 120 3 = q182_1 → rd M 120 4 = p5_1 → rd M 120 5 = (p5_1 + 1) → rd M 120 6 = 0 → rd M 120 7 = 0 → rd M 120 8 = u131_120_8 → rd M 121 p5_1 = r70 → tav M = u195_9010_0 → (g120_5 ≤ p5_1) → (p5_1 = p5_1) → (g120_8 = 0 ∨ u131_120_8 = g120_8) → ((r71 = 1 ∧ 97 ≤ rd M 121 p5_1 ∧ rd M 121 p5_1 ≤ 122) ∨ (r71 = 0 ∧ (rd M 121 p5_1 < 97 ∨ 122 < rd M 121 p5_1))) → ((r81 = 1 ∧ 48 ≤ rd M 121 p5_1 ∧ rd M 121 p5_1 ≤ 57) ∨ (r81 = 0 ∧ (rd M 121 p5_1 < 48 ∨ 57 < rd M 121 p5_1))) → (r71 = 1 ∨ r81 = 1) → ((r71 = 1 ∧ q195_0 = 6 ∧ q182_1 = 1) ∨ (r71 = 0 ∧ q195_0 = 4 ∧ q182_1 = 2)) → Tr l K 1 mX12_next 195 [(0, (2, 120)), (1, (0, p5_1)), (2, (0, r71)), (3, (0, r81))] [(0, q195_0)] M (q_X12_next_120_w1 M0) := by
                  intro M q195_0 u195_9010_0 hS bq195_0 bu195_9010_0 k195_120_2 k195_120_3 k195_120_4 k195_120_5 k195_120_6 k195_120_7 k195_120_8 k195_121_p5_110 k195_9010_0 t195_0 t195_1 t195_2 t195_3 t195_4 t195_5 t195_6
                  clear k182_120_2 k182_120_3 k182_120_4 k182_120_5 k182_120_6 k182_120_7 k182_120_8 k182_121_p5_110 k182_9010_0 w182
                  replace t195_2 := hd_i t195_2
                  replace t195_3 := hd_i t195_3
                  replace t195_4 := hd_i t195_4
                  replace t195_5 := hd_i t195_5
                  replace t195_6 := hd_i t195_6
                  refine Tr.istore (pc := 195) (i := 4) (ls2 := [(4, (0, q195_0)), (0, (2, 120)), (1, (0, p5_1)), (2, (0, r71)), (3, (0, r81))]) d_X12_next_195 (by decide) rfl ?_
                  refine Tr.iconst (pc := 197) d_X12_next_197 (by decide) ?_
                  refine Tr.istore (pc := 198) (i := 5) (ls2 := [(5, (0, 0)), (4, (0, q195_0)), (0, (2, 120)), (1, (0, p5_1)), (2, (0, r71)), (3, (0, r81))]) d_X12_next_198 (by decide) rfl ?_
                  have J200 : ∀ (n200 : Nat) (M : Mem) (p200_1 p200_5 u200_120_7 u200_120_8 : Int), St Pm0 ws_X12_next_120_w1 as_X12_next_120_w1 M0 M → (0 ≤ p200_1 ∧ p200_1 ≤ 900) → (0 ≤ p200_5 ∧ p200_5 ≤ 2147483647) → ((-9223372036854775808) ≤ u200_120_7 ∧ u200_120_7 ≤ 9223372036854775807) → (0 ≤ u200_120_8 ∧ u200_120_8 ≤ 5) → rd M 120 2 = r7 → rd M 120 3 = q182_1 → rd M 120 4 = p5_1 → rd M 120 5 = (p5_1 + 1) → rd M 120 7 = u200_120_7 → rd M 120 8 = u200_120_8 → rd M 121 p5_1 = r70 → tav M = u195_9010_0 → (g120_5 ≤ p5_1) → (p200_1 = p5_1 + p200_5 ∧ 0 ≤ p200_5) → (g120_8 = 0 ∨ u200_120_8 = g120_8) → (q182_1 = 1 ∨ q182_1 = 2) → ((r71 = 1 ∧ q195_0 = 6 ∧ q182_1 = 1) ∨ (r71 = 0 ∧ q195_0 = 4 ∧ q182_1 = 2)) → (q182_1 ≠ 1 ∨ p200_5 ≥ 2 ∨ (p200_5 = 1 ∧ 0 ≤ u200_120_7 ∧ u200_120_7 < 256) ∨ (p200_5 = 0 ∧ u200_120_7 = 0)) → (p200_5 ≠ 0 ∨ (r71 = 1 ∧ 97 ≤ rd M 121 p200_1 ∧ rd M 121 p200_1 ≤ 122) ∨ (r71 = 0 ∧ 48 ≤ rd M 121 p200_1 ∧ rd M 121 p200_1 ≤ 57)) → (900 - p200_1).toNat < n200 → Tr l K 1 mX12_next 200 [(0, (2, 120)), (1, (0, p200_1)), (2, (0, r71)), (3, (0, r81)), (4, (0, q195_0)), (5, (0, p200_5))] [] M (q_X12_next_120_w1 M0) := by
                    intro n200
                    induction n200 with
                    | zero => intro M p200_1 p200_5 u200_120_7 u200_120_8 hS bp200_1 bp200_5 bu200_120_7 bu200_120_8 k200_120_2 k200_120_3 k200_120_4 k200_120_5 k200_120_7 k200_120_8 k200_121_p5_110 k200_9010_0 t200_0 t200_1 t200_2 t200_3 t200_4 t200_5 t200_6 hm200; exact absurd hm200 (Nat.not_lt_zero _)
                    | succ n200 J200 =>
                      intro M p200_1 p200_5 u200_120_7 u200_120_8 hS bp200_1 bp200_5 bu200_120_7 bu200_120_8 k200_120_2 k200_120_3 k200_120_4 k200_120_5 k200_120_7 k200_120_8 k200_121_p5_110 k200_9010_0 t200_0 t200_1 t200_2 t200_3 t200_4 t200_5 t200_6 hm200
                      clear k195_120_2 k195_120_3 k195_120_4 k195_120_5 k195_120_6 k195_120_7 k195_120_8 k195_121_p5_110 k195_9010_0
                      replace t200_2 := hd_i t200_2
                      replace t200_3 := hd_i t200_3
                      replace t200_4 := hd_i t200_4
                      replace t200_5 := hd_i t200_5
                      replace t200_6 := hd_i t200_6
                      refine Tr.iload_n (pc := 200) (i := 1) d_X12_next_200 rfl rfl ?_
                      refine Tr.aload_n (pc := 201) (i := 0) d_X12_next_201 rfl rfl ?_
                      refine Tr.getf (pc := 202) d_X12_next_202 f_12_17 (by decide) (by decide) (ty_120 hS.1.1) ?_
                      refine Tr.tp r7 k200_120_2 ?_
                      refine Tr.icmp_ge (pc := 205) (tgt := 323) d_X12_next_205 rfl (fun c205 => ?_) (fun c205 => ?_)
                      · refine Tr.aload_n (pc := 323) (i := 0) d_X12_next_323 rfl rfl ?_
                        refine Tr.iload_n (pc := 324) (i := 1) d_X12_next_324 rfl rfl ?_
                        refine Tr.putfS (pc := 325) (P := St Pm0 ws_X12_next_120_w1 as_X12_next_120_w1 M0) d_X12_next_325 f_12_26 (by decide) (by decide) (ty_120 hS.1.1) (st_120_5 hS (by decide) (by and_intros <;> omega) (Pm0.of hS.1.2.2.2.2 (fun _ => rd_wb _ rfl) (fun _ => rd_wb _ rfl) (fun _ => rd_wb _ rfl) (fun _ => rd_wb _ rfl) (fun _ => rd_wb _ rfl) (fun _ => rd_wb _ rfl) (fun _ => rd_wb _ rfl) (fun _ => rd_wb _ rfl) (fun _ => rd_wb _ rfl) (fun _ => rd_wb _ rfl) (rd_wb _ rfl) (rd_wb _ rfl) (rd_wb _ rfl) (rd_wb _ rfl) (rd_wb _ rfl) (rd_wb _ rfl) (rd_wb _ rfl) (rd_wb _ rfl) (rd_wb _ rfl) (rd_wb _ rfl) (rd_wb _ rfl))) (fun M325 hS w325 => ?_)
                        obtain ⟨w328_9010_0, ew328_9010_0⟩ : ∃ v, tav M325 = v := ⟨_, rfl⟩
                        have bw328_9010_0 : (-1) ≤ w328_9010_0 ∧ w328_9010_0 ≤ 1800 := by rw [← ew328_9010_0]; exact (tav_b hS.1.2.1)
                        have jt := tav_c (w325.1) (((Wr.b w325 rfl).trans k200_120_3))
                        rw [ew328_9010_0] at jt
                        replace jt := hd_i jt
                        have kr_120_3 : rd M325 120 3 = q182_1 := ((Wr.b w325 rfl).trans k200_120_3)
                        have kr_120_4 : rd M325 120 4 = p5_1 := ((Wr.b w325 rfl).trans k200_120_4)
                        have kr_120_5 : rd M325 120 5 = p200_1 := w325.1
                        have kr_120_7 : rd M325 120 7 = u200_120_7 := ((Wr.b w325 rfl).trans k200_120_7)
                        have kr_120_8 : rd M325 120 8 = u200_120_8 := ((Wr.b w325 rfl).trans k200_120_8)
                        have kr_9010_0 : tav M325 = w328_9010_0 := ew328_9010_0
                        exact Tr.vret (pc := 328) d_X12_next_328 rfl ⟨hS, rfl, (by omega), (by omega), (by exact (hd_o t200_5).elim (fun h1 => (ne_o h1).elim (fun h2 => by omega) (fun h2 => by omega)) (fun h1 => h1.elim (fun h1 => by omega) (fun h1 => h1.elim (fun h1 => by omega) (fun h1 => by omega)))), (by omega), (by exact (hd_o jt).elim (fun h1 => by omega) (fun h1 => (hd_o jt0).elim (fun h2 => by omega) (fun h2 => by omega))), (by exact (hd_o jt).elim (fun h1 => by omega) (fun h1 => (hd_o jt0).elim (fun h2 => by omega) (fun h2 => by omega))), (by first | exact (hd_o t200_2) | exact (hd_o t200_2).elim (fun h1 => by omega) (fun h1 => by omega))⟩
                      · refine Tr.iload_n (pc := 208) (i := 2) d_X12_next_208 rfl rfl ?_
                        have J239 : ∀ (M : Mem), St Pm0 ws_X12_next_120_w1 as_X12_next_120_w1 M0 M → rd M 120 2 = r7 → rd M 120 3 = q182_1 → rd M 120 4 = p5_1 → rd M 120 5 = (p5_1 + 1) → rd M 120 7 = u200_120_7 → rd M 120 8 = u200_120_8 → rd M 121 p5_1 = r70 → tav M = u195_9010_0 → (g120_5 ≤ p5_1) → (p200_1 = p5_1 + p200_5 ∧ 0 ≤ p200_5) → (g120_8 = 0 ∨ u200_120_8 = g120_8) → (q182_1 = 1 ∨ q182_1 = 2) → ((r71 = 1 ∧ q195_0 = 6 ∧ q182_1 = 1) ∨ (r71 = 0 ∧ q195_0 = 4 ∧ q182_1 = 2)) → (q182_1 ≠ 1 ∨ p200_5 ≥ 2 ∨ (p200_5 = 1 ∧ 0 ≤ u200_120_7 ∧ u200_120_7 < 256) ∨ (p200_5 = 0 ∧ u200_120_7 = 0)) → (p200_5 ≠ 0 ∨ (r71 = 1 ∧ 97 ≤ rd M 121 p200_1 ∧ rd M 121 p200_1 ≤ 122) ∨ (r71 = 0 ∧ 48 ≤ rd M 121 p200_1 ∧ rd M 121 p200_1 ≤ 57)) → Tr l K 1 mX12_next 239 [(0, (2, 120)), (1, (0, p200_1)), (2, (0, r71)), (3, (0, r81)), (4, (0, q195_0)), (5, (0, p200_5))] [] M (q_X12_next_120_w1 M0) := by
                          intro M  hS  k239_120_2 k239_120_3 k239_120_4 k239_120_5 k239_120_7 k239_120_8 k239_121_p5_110 k239_9010_0 t239_0 t239_1 t239_2 t239_3 t239_4 t239_5 t239_6
                          clear k200_120_2 k200_120_3 k200_120_4 k200_120_5 k200_120_7 k200_120_8 k200_121_p5_110 k200_9010_0
                          replace t239_2 := hd_i t239_2
                          replace t239_3 := hd_i t239_3
                          replace t239_4 := hd_i t239_4
                          replace t239_5 := hd_i t239_5
                          replace t239_6 := hd_i t239_6
                          refine Tr.iload (pc := 239) (i := 5) d_X12_next_239 rfl ?_
                          refine Tr.iload (pc := 241) (i := 4) d_X12_next_241 rfl ?_
                          have J252 : ∀ (M : Mem) (u252_120_8 : Int), St Pm0 ws_X12_next_120_w1 as_X12_next_120_w1 M0 M → (0 ≤ u252_120_8 ∧ u252_120_8 ≤ 5) → rd M 120 2 = r7 → rd M 120 3 = q182_1 → rd M 120 4 = p5_1 → rd M 120 5 = (p5_1 + 1) → rd M 120 7 = u200_120_7 → rd M 120 8 = u252_120_8 → rd M 121 p5_1 = r70 → tav M = u195_9010_0 → (g120_5 ≤ p5_1) → (p200_1 = p5_1 + p200_5 ∧ 0 ≤ p200_5) → (g120_8 = 0 ∨ u252_120_8 = g120_8) → (q182_1 = 1 ∨ q182_1 = 2) → ((r71 = 1 ∧ q195_0 = 6 ∧ q182_1 = 1) ∨ (r71 = 0 ∧ q195_0 = 4 ∧ q182_1 = 2)) → (q182_1 ≠ 1 ∨ p200_5 ≥ 2 ∨ (p200_5 = 1 ∧ 0 ≤ u200_120_7 ∧ u200_120_7 < 256) ∨ (p200_5 = 0 ∧ u200_120_7 = 0)) → (p200_5 ≠ 0 ∨ (r71 = 1 ∧ 97 ≤ rd M 121 p200_1 ∧ rd M 121 p200_1 ≤ 122) ∨ (r71 = 0 ∧ 48 ≤ rd M 121 p200_1 ∧ rd M 121 p200_1 ≤ 57)) → Tr l K 1 mX12_next 252 [(0, (2, 120)), (1, (0, p200_1)), (2, (0, r71)), (3, (0, r81)), (4, (0, q195_0)), (5, (0, p200_5))] [] M (q_X12_next_120_w1 M0) := by
                            intro M u252_120_8 hS bu252_120_8 k252_120_2 k252_120_3 k252_120_4 k252_120_5 k252_120_7 k252_120_8 k252_121_p5_110 k252_9010_0 t252_0 t252_1 t252_2 t252_3 t252_4 t252_5 t252_6
                            clear k239_120_2 k239_120_3 k239_120_4 k239_120_5 k239_120_7 k239_120_8 k239_121_p5_110 k239_9010_0
                            replace t252_2 := hd_i t252_2
                            replace t252_3 := hd_i t252_3
                            replace t252_4 := hd_i t252_4
                            replace t252_5 := hd_i t252_5
                            replace t252_6 := hd_i t252_6
                            refine Tr.iload (pc := 252) (i := 5) d_X12_next_252 rfl ?_
                            refine Tr.iload (pc := 254) (i := 4) d_X12_next_254 rfl ?_
                            have J282 : ∀ (M : Mem) (u282_120_7 : Int), St Pm0 ws_X12_next_120_w1 as_X12_next_120_w1 M0 M → ((-9223372036854775808) ≤ u282_120_7 ∧ u282_120_7 ≤ 9223372036854775807) → rd M 120 2 = r7 → rd M 120 3 = q182_1 → rd M 120 4 = p5_1 → rd M 120 5 = (p5_1 + 1) → rd M 120 7 = u282_120_7 → rd M 120 8 = u252_120_8 → rd M 121 p5_1 = r70 → tav M = u195_9010_0 → (g120_5 ≤ p5_1) → (p200_1 = p5_1 + p200_5 ∧ 0 ≤ p200_5) → (g120_8 = 0 ∨ u252_120_8 = g120_8) → (q182_1 = 1 ∨ q182_1 = 2) → ((r71 = 1 ∧ q195_0 = 6 ∧ q182_1 = 1) ∨ (r71 = 0 ∧ q195_0 = 4 ∧ q182_1 = 2)) → (q182_1 ≠ 1 ∨ p200_5 ≥ 1 ∨ (0 ≤ u282_120_7 ∧ u282_120_7 < 256)) → Tr l K 1 mX12_next 282 [(0, (2, 120)), (1, (0, p200_1)), (2, (0, r71)), (3, (0, r81)), (4, (0, q195_0)), (5, (0, p200_5))] [] M (q_X12_next_120_w1 M0) := by
                              intro M u282_120_7 hS bu282_120_7 k282_120_2 k282_120_3 k282_120_4 k282_120_5 k282_120_7 k282_120_8 k282_121_p5_110 k282_9010_0 t282_0 t282_1 t282_2 t282_3 t282_4 t282_5
                              clear k252_120_2 k252_120_3 k252_120_4 k252_120_5 k252_120_7 k252_120_8 k252_121_p5_110 k252_9010_0
                              replace t282_2 := hd_i t282_2
                              replace t282_3 := hd_i t282_3
                              replace t282_4 := hd_i t282_4
                              replace t282_5 := hd_i t282_5
                              refine Tr.iload (pc := 282) (i := 5) d_X12_next_282 rfl ?_
                              refine Tr.iload (pc := 284) (i := 4) d_X12_next_284 rfl ?_
                              have J314 : ∀ (M : Mem), St Pm0 ws_X12_next_120_w1 as_X12_next_120_w1 M0 M → rd M 120 2 = r7 → rd M 120 3 = q182_1 → rd M 120 4 = p5_1 → rd M 120 5 = (p5_1 + 1) → rd M 120 7 = u282_120_7 → rd M 120 8 = u252_120_8 → rd M 121 p5_1 = r70 → tav M = u195_9010_0 → (g120_5 ≤ p5_1) → (p200_1 = p5_1 + p200_5 ∧ 0 ≤ p200_5) → (g120_8 = 0 ∨ u252_120_8 = g120_8) → (q182_1 = 1 ∨ q182_1 = 2) → ((r71 = 1 ∧ q195_0 = 6 ∧ q182_1 = 1) ∨ (r71 = 0 ∧ q195_0 = 4 ∧ q182_1 = 2)) → (q182_1 ≠ 1 ∨ p200_5 ≥ 1 ∨ (0 ≤ u282_120_7 ∧ u282_120_7 < 256)) → Tr l K 1 mX12_next 314 [(0, (2, 120)), (1, (0, p200_1)), (2, (0, r71)), (3, (0, r81)), (4, (0, q195_0)), (5, (0, p200_5))] [] M (q_X12_next_120_w1 M0) := by
                                intro M  hS  k314_120_2 k314_120_3 k314_120_4 k314_120_5 k314_120_7 k314_120_8 k314_121_p5_110 k314_9010_0 t314_0 t314_1 t314_2 t314_3 t314_4 t314_5
                                clear k282_120_2 k282_120_3 k282_120_4 k282_120_5 k282_120_7 k282_120_8 k282_121_p5_110 k282_9010_0
                                replace t314_2 := hd_i t314_2
                                replace t314_3 := hd_i t314_3
                                replace t314_4 := hd_i t314_4
                                replace t314_5 := hd_i t314_5
                                refine Tr.iincV (pc := 314) (n2 := (p200_5 + 1)) (ls2 := [(5, (0, (p200_5 + 1))), (0, (2, 120)), (1, (0, p200_1)), (2, (0, r71)), (3, (0, r81)), (4, (0, q195_0))]) d_X12_next_314 rfl (by decide) ((w32_id (by and_intros <;> omega)).trans (by omega)) rfl ?_
                                refine Tr.iincV (pc := 317) (n2 := (p200_1 + 1)) (ls2 := [(1, (0, (p200_1 + 1))), (5, (0, (p200_5 + 1))), (0, (2, 120)), (2, (0, r71)), (3, (0, r81)), (4, (0, q195_0))]) d_X12_next_317 rfl (by decide) ((w32_id (by and_intros <;> omega)).trans (by omega)) rfl ?_
                                refine Tr.goto (pc := 320) (tgt := 200) d_X12_next_320 rfl ?_
                                refine Tr.pick [2, 0, 3, 4, 5, 1] (ls2 := [(0, (2, 120)), (1, (0, (p200_1 + 1))), (2, (0, r71)), (3, (0, r81)), (4, (0, q195_0)), (5, (0, (p200_5 + 1)))]) rfl ?_
                                exact J200 _ _ _ _ _ hS (by and_intros <;> omega) (by and_intros <;> omega) (by omega) (by and_intros <;> omega) k314_120_2 k314_120_3 k314_120_4 k314_120_5 k314_120_7 k314_120_8 k314_121_p5_110 k314_9010_0 (by omega) (by and_intros <;> omega) (by first | exact (hd_o t314_2) | exact (hd_o t314_2).elim (fun h1 => by omega) (fun h1 => by omega)) (by first | exact (hd_o t314_3) | exact (hd_o t314_3).elim (fun h1 => by omega) (fun h1 => by omega)) (by first | exact (hd_o t314_4) | exact (hd_o t314_4).elim (fun h1 => by omega) (fun h1 => by omega)) (by exact (hd_o t314_5).elim (fun h1 => (ne_o h1).elim (fun h2 => by omega) (fun h2 => by omega)) (fun h1 => h1.elim (fun h1 => by omega) (fun h1 => by omega))) (by omega) (me_lt hm200 (by omega) (by omega))
                              refine Tr.icmp_ge (pc := 286) (tgt := 314) d_X12_next_286 rfl (fun c286 => ?_) (fun c286 => ?_)
                              · refine Tr.pick [0, 1, 2, 3, 4, 5] (ls2 := [(0, (2, 120)), (1, (0, p200_1)), (2, (0, r71)), (3, (0, r81)), (4, (0, q195_0)), (5, (0, p200_5))]) rfl ?_
                                exact J314 _ hS k282_120_2 k282_120_3 k282_120_4 k282_120_5 k282_120_7 k282_120_8 k282_121_p5_110 k282_9010_0 (by omega) (by and_intros <;> omega) (by first | exact (hd_o t282_2) | exact (hd_o t282_2).elim (fun h1 => by omega) (fun h1 => by omega)) (by first | exact (hd_o t282_3) | exact (hd_o t282_3).elim (fun h1 => by omega) (fun h1 => by omega)) (by first | exact (hd_o t282_4) | exact (hd_o t282_4).elim (fun h1 => by omega) (fun h1 => by omega)) (by first | exact (hd_o t282_5) | exact (hd_o t282_5).elim (fun h1 => by omega) (fun h1 => h1.elim (fun h1 => by omega) (fun h1 => by omega)))
                              · refine Tr.iload_n (pc := 289) (i := 3) d_X12_next_289 rfl rfl ?_
                                refine Tr.if_eq (pc := 290) (tgt := 314) d_X12_next_290 rfl (fun c290 => ?_) (fun c290 => ?_)
                                · refine Tr.pick [0, 1, 2, 3, 4, 5] (ls2 := [(0, (2, 120)), (1, (0, p200_1)), (2, (0, r71)), (3, (0, r81)), (4, (0, q195_0)), (5, (0, p200_5))]) rfl ?_
                                  exact J314 _ hS k282_120_2 k282_120_3 k282_120_4 k282_120_5 k282_120_7 k282_120_8 k282_121_p5_110 k282_9010_0 (by omega) (by and_intros <;> omega) (by first | exact (hd_o t282_2) | exact (hd_o t282_2).elim (fun h1 => by omega) (fun h1 => by omega)) (by first | exact (hd_o t282_3) | exact (hd_o t282_3).elim (fun h1 => by omega) (fun h1 => by omega)) (by first | exact (hd_o t282_4) | exact (hd_o t282_4).elim (fun h1 => by omega) (fun h1 => by omega)) (by first | exact (hd_o t282_5) | exact (hd_o t282_5).elim (fun h1 => by omega) (fun h1 => h1.elim (fun h1 => by omega) (fun h1 => by omega)))
                                · have c290b : 1 ≤ r81 ∧ r81 ≤ 1 := by omega
                                  replace c290 := hd_i c290
                                  refine Tr.aload_n (pc := 293) (i := 0) d_X12_next_293 rfl rfl ?_
                                  refine Tr.bipush (pc := 294) d_X12_next_294 rfl (by decide) ?_
                                  refine Tr.aload_n (pc := 296) (i := 0) d_X12_next_296 rfl rfl ?_
                                  refine Tr.getf (pc := 297) d_X12_next_297 f_12_29 (by decide) (by decide) (ty_120 hS.1.1) ?_
                                  refine Tr.gen (P := fun v => (-2147483648) ≤ v ∧ v ≤ 2147483647) (ir_120_6 hS.1.2.1) (fun r297 er297 br297 => ?_)
                                  refine Tr.imul (pc := 300) d_X12_next_300 ?_
                                  refine Tr.gen (P := fun v => (-2147483648) ≤ v ∧ v ≤ 2147483647) (w32_b _) (fun r300 er300 br300 => ?_)
                                  refine Tr.aload_n (pc := 301) (i := 0) d_X12_next_301 rfl rfl ?_
                                  refine Tr.getf (pc := 302) d_X12_next_302 f_12_7 (by decide) (by decide) (ty_120 hS.1.1) ?_
                                  refine Tr.tp 121 (fx_120_0 hS.1.1) ?_
                                  refine Tr.iload_n (pc := 305) (i := 1) d_X12_next_305 rfl rfl ?_
                                  refine Tr.iald (pc := 306) d_X12_next_306 (ty_121 hS.1.1) (by omega) (by omega) ?_
                                  refine Tr.gen (P := fun v => (-2147483648) ≤ v ∧ v ≤ 2147483647) (ar_121 hS.1.2.1 _) (fun r306 er306 br306 => ?_)
                                  refine Tr.iadd (pc := 307) d_X12_next_307 ?_
                                  refine Tr.gen (P := fun v => (-2147483648) ≤ v ∧ v ≤ 2147483647) (w32_b _) (fun r307 er307 br307 => ?_)
                                  refine Tr.bipush (pc := 308) d_X12_next_308 rfl (by decide) ?_
                                  refine Tr.isub (pc := 310) d_X12_next_310 ?_
                                  refine Tr.gen (P := fun v => (-2147483648) ≤ v ∧ v ≤ 2147483647) (w32_b _) (fun r310 er310 br310 => ?_)
                                  refine Tr.putfS (pc := 311) (P := St Pm0 ws_X12_next_120_w1 as_X12_next_120_w1 M0) d_X12_next_311 f_12_29 (by decide) (by decide) (ty_120 hS.1.1) (st_120_6 hS (by decide) (by and_intros <;> omega) (Pm0.of hS.1.2.2.2.2 (fun _ => rd_wb _ rfl) (fun _ => rd_wb _ rfl) (fun _ => rd_wb _ rfl) (fun _ => rd_wb _ rfl) (fun _ => rd_wb _ rfl) (fun _ => rd_wb _ rfl) (fun _ => rd_wb _ rfl) (fun _ => rd_wb _ rfl) (fun _ => rd_wb _ rfl) (fun _ => rd_wb _ rfl) (rd_wb _ rfl) (rd_wb _ rfl) (rd_wb _ rfl) (rd_wb _ rfl) (rd_wb _ rfl) (rd_wb _ rfl) (rd_wb _ rfl) (rd_wb _ rfl) (rd_wb _ rfl) (rd_wb _ rfl) (rd_wb _ rfl))) (fun M311 hS w311 => ?_)
                                  refine Tr.pick [0, 1, 2, 3, 4, 5] (ls2 := [(0, (2, 120)), (1, (0, p200_1)), (2, (0, r71)), (3, (0, r81)), (4, (0, q195_0)), (5, (0, p200_5))]) rfl ?_
                                  exact J314 _ hS ((Wr.b w311 rfl).trans k282_120_2) ((Wr.b w311 rfl).trans k282_120_3) ((Wr.b w311 rfl).trans k282_120_4) ((Wr.b w311 rfl).trans k282_120_5) ((Wr.b w311 rfl).trans k282_120_7) ((Wr.b w311 rfl).trans k282_120_8) ((Wr.b w311 rfl).trans k282_121_p5_110) ((tav_of ((Wr.b w311 rfl).trans rfl) ((Wr.b w311 rfl).trans rfl)).trans k282_9010_0) (by omega) (by and_intros <;> omega) (by first | exact (hd_o t282_2) | exact (hd_o t282_2).elim (fun h1 => by omega) (fun h1 => by omega)) (by first | exact (hd_o t282_3) | exact (hd_o t282_3).elim (fun h1 => by omega) (fun h1 => by omega)) (by first | exact (hd_o t282_4) | exact (hd_o t282_4).elim (fun h1 => by omega) (fun h1 => by omega)) (by first | exact (hd_o t282_5) | exact (hd_o t282_5).elim (fun h1 => by omega) (fun h1 => h1.elim (fun h1 => by omega) (fun h1 => by omega)))
                            refine Tr.icmp_ge (pc := 256) (tgt := 282) d_X12_next_256 rfl (fun c256 => ?_) (fun c256 => ?_)
                            · refine Tr.pick [0, 1, 2, 3, 4, 5] (ls2 := [(0, (2, 120)), (1, (0, p200_1)), (2, (0, r71)), (3, (0, r81)), (4, (0, q195_0)), (5, (0, p200_5))]) rfl ?_
                              exact J282 _ _ hS (by omega) k252_120_2 k252_120_3 k252_120_4 k252_120_5 k252_120_7 k252_120_8 k252_121_p5_110 k252_9010_0 (by omega) (by and_intros <;> omega) (by first | exact (hd_o t252_2) | exact (hd_o t252_2).elim (fun h1 => by omega) (fun h1 => by omega)) (by first | exact (hd_o t252_3) | exact (hd_o t252_3).elim (fun h1 => by omega) (fun h1 => by omega)) (by first | exact (hd_o t252_4) | exact (hd_o t252_4).elim (fun h1 => by omega) (fun h1 => by omega)) (by omega)
                            · refine Tr.iload_n (pc := 259) (i := 2) d_X12_next_259 rfl rfl ?_
                              refine Tr.if_eq (pc := 260) (tgt := 282) d_X12_next_260 rfl (fun c260 => ?_) (fun c260 => ?_)
                              · refine Tr.pick [0, 1, 2, 3, 4, 5] (ls2 := [(0, (2, 120)), (1, (0, p200_1)), (2, (0, r71)), (3, (0, r81)), (4, (0, q195_0)), (5, (0, p200_5))]) rfl ?_
                                exact J282 _ _ hS (by omega) k252_120_2 k252_120_3 k252_120_4 k252_120_5 k252_120_7 k252_120_8 k252_121_p5_110 k252_9010_0 (by omega) (by and_intros <;> omega) (by first | exact (hd_o t252_2) | exact (hd_o t252_2).elim (fun h1 => by omega) (fun h1 => by omega)) (by first | exact (hd_o t252_3) | exact (hd_o t252_3).elim (fun h1 => by omega) (fun h1 => by omega)) (by first | exact (hd_o t252_4) | exact (hd_o t252_4).elim (fun h1 => by omega) (fun h1 => by omega)) (by exact (hd_o t252_4).elim (fun h1 => by omega) (fun h1 => by omega))
                              · have c260b : 1 ≤ r71 ∧ r71 ≤ 1 := by omega
                                replace c260 := hd_i c260
                                refine Tr.aload_n (pc := 263) (i := 0) d_X12_next_263 rfl rfl ?_
                                refine Tr.aload_n (pc := 264) (i := 0) d_X12_next_264 rfl rfl ?_
                                refine Tr.getf (pc := 265) d_X12_next_265 f_12_32 (by decide) (by decide) (ty_120 hS.1.1) ?_
                                refine Tr.tp u200_120_7 k252_120_7 ?_
                                refine Tr.bipush (pc := 268) d_X12_next_268 rfl (by decide) ?_
                                refine Tr.lshl (pc := 270) d_X12_next_270 ?_
                                refine Tr.gen (P := fun v => ((-9223372036854775808) ≤ v ∧ v ≤ 9223372036854775807) ∧ (u200_120_7 ≠ 0 ∨ v = 0)) (lshl_z _ _) (fun r270 er270 br270 => ?_)
                                have br270d0 := hd_i br270.2
                                replace br270 := And.intro br270.1.1  (br270.1.2)
                                refine Tr.aload_n (pc := 271) (i := 0) d_X12_next_271 rfl rfl ?_
                                refine Tr.getf (pc := 272) d_X12_next_272 f_12_7 (by decide) (by decide) (ty_120 hS.1.1) ?_
                                refine Tr.tp 121 (fx_120_0 hS.1.1) ?_
                                refine Tr.iload_n (pc := 275) (i := 1) d_X12_next_275 rfl rfl ?_
                                refine Tr.iald (pc := 276) d_X12_next_276 (ty_121 hS.1.1) (by omega) (by omega) ?_
                                refine Tr.gen (P := fun v => (-2147483648) ≤ v ∧ v ≤ 2147483647) (ar_121 hS.1.2.1 _) (fun r276 er276 br276 => ?_)
                                refine Tr.i2l (pc := 277) d_X12_next_277 ?_
                                refine Tr.lor (pc := 278) d_X12_next_278 ?_
                                refine Tr.gen (P := fun v => ((-9223372036854775808) ≤ v ∧ v ≤ 9223372036854775807) ∧ (r270 ≠ 0 ∨ v = r276)) (lor_z _ (by omega)) (fun r278 er278 br278 => ?_)
                                have br278d0 := hd_i br278.2
                                replace br278 := And.intro br278.1.1  (br278.1.2)
                                refine Tr.putfS (pc := 279) (P := St Pm0 ws_X12_next_120_w1 as_X12_next_120_w1 M0) d_X12_next_279 f_12_32 (by decide) (by decide) (ty_120 hS.1.1) (st_120_7 hS (by decide) (by omega) (Pm0.of hS.1.2.2.2.2 (fun _ => rd_wb _ rfl) (fun _ => rd_wb _ rfl) (fun _ => rd_wb _ rfl) (fun _ => rd_wb _ rfl) (fun _ => rd_wb _ rfl) (fun _ => rd_wb _ rfl) (fun _ => rd_wb _ rfl) (fun _ => rd_wb _ rfl) (fun _ => rd_wb _ rfl) (fun _ => rd_wb _ rfl) (rd_wb _ rfl) (rd_wb _ rfl) (rd_wb _ rfl) (rd_wb _ rfl) (rd_wb _ rfl) (rd_wb _ rfl) (rd_wb _ rfl) (rd_wb _ rfl) (rd_wb _ rfl) (rd_wb _ rfl) (rd_wb _ rfl))) (fun M279 hS w279 => ?_)
                                refine Tr.pick [0, 1, 2, 3, 4, 5] (ls2 := [(0, (2, 120)), (1, (0, p200_1)), (2, (0, r71)), (3, (0, r81)), (4, (0, q195_0)), (5, (0, p200_5))]) rfl ?_
                                exact J282 _ _ hS (by omega) ((Wr.b w279 rfl).trans k252_120_2) ((Wr.b w279 rfl).trans k252_120_3) ((Wr.b w279 rfl).trans k252_120_4) ((Wr.b w279 rfl).trans k252_120_5) w279.1 ((Wr.b w279 rfl).trans k252_120_8) ((Wr.b w279 rfl).trans k252_121_p5_110) ((tav_of ((Wr.b w279 rfl).trans rfl) ((Wr.b w279 rfl).trans rfl)).trans k252_9010_0) (by omega) (by and_intros <;> omega) (by first | exact (hd_o t252_2) | exact (hd_o t252_2).elim (fun h1 => by omega) (fun h1 => by omega)) (by first | exact (hd_o t252_3) | exact (hd_o t252_3).elim (fun h1 => by omega) (fun h1 => by omega)) (by first | exact (hd_o t252_4) | exact (hd_o t252_4).elim (fun h1 => by omega) (fun h1 => by omega)) (by exact (hd_o br278d0).elim (fun h1 => (ne_o h1).elim (fun h2 => (hd_o br270d0).elim (fun h3 => (ne_o h3).elim (fun h4 => (hd_o t252_5).elim (fun h5 => (ne_o h5).elim (fun h6 => by omega) (fun h6 => by omega)) (fun h5 => h5.elim (fun h5 => by omega) (fun h5 => h5.elim (fun h5 => by omega) (fun h5 => by omega)))) (fun h4 => (hd_o t252_5).elim (fun h5 => (ne_o h5).elim (fun h6 => by omega) (fun h6 => by omega)) (fun h5 => h5.elim (fun h5 => by omega) (fun h5 => h5.elim (fun h5 => by omega) (fun h5 => by omega))))) (fun h3 => by omega)) (fun h2 => (hd_o br270d0).elim (fun h3 => (ne_o h3).elim (fun h4 => (hd_o t252_5).elim (fun h5 => (ne_o h5).elim (fun h6 => by omega) (fun h6 => by omega)) (fun h5 => h5.elim (fun h5 => by omega) (fun h5 => h5.elim (fun h5 => by omega) (fun h5 => by omega)))) (fun h4 => (hd_o t252_5).elim (fun h5 => (ne_o h5).elim (fun h6 => by omega) (fun h6 => by omega)) (fun h5 => h5.elim (fun h5 => by omega) (fun h5 => h5.elim (fun h5 => by omega) (fun h5 => by omega))))) (fun h3 => by omega))) (fun h1 => (hd_o t252_6).elim (fun h2 => (ne_o h2).elim (fun h3 => by omega) (fun h3 => by omega)) (fun h2 => h2.elim (fun h2 => by omega) (fun h2 => by omega))))
                          refine Tr.icmp_ne (pc := 243) (tgt := 252) d_X12_next_243 rfl (fun c243 => ?_) (fun c243 => ?_)
                          · replace c243 := hd_i c243
                            refine Tr.pick [0, 1, 2, 3, 4, 5] (ls2 := [(0, (2, 120)), (1, (0, p200_1)), (2, (0, r71)), (3, (0, r81)), (4, (0, q195_0)), (5, (0, p200_5))]) rfl ?_
                            exact J252 _ _ hS (by and_intros <;> omega) k239_120_2 k239_120_3 k239_120_4 k239_120_5 k239_120_7 k239_120_8 k239_121_p5_110 k239_9010_0 (by omega) (by and_intros <;> omega) (by first | exact (hd_o t239_2) | exact (hd_o t239_2).elim (fun h1 => by omega) (fun h1 => by omega)) (by first | exact (hd_o t239_3) | exact (hd_o t239_3).elim (fun h1 => by omega) (fun h1 => by omega)) (by first | exact (hd_o t239_4) | exact (hd_o t239_4).elim (fun h1 => by omega) (fun h1 => by omega)) (by first | exact (hd_o t239_5) | exact (hd_o t239_5).elim (fun h1 => by omega) (fun h1 => h1.elim (fun h1 => by omega) (fun h1 => h1.elim (fun h1 => by omega) (fun h1 => by omega)))) (by first | exact (hd_o t239_6) | exact (hd_o t239_6).elim (fun h1 => by omega) (fun h1 => h1.elim (fun h1 => by omega) (fun h1 => by omega)))
                          · refine Tr.aload_n (pc := 246) (i := 0) d_X12_next_246 rfl rfl ?_
                            refine Tr.iconst (pc := 247) d_X12_next_247 (by decide) ?_
                            refine Tr.iload_n (pc := 248) (i := 1) d_X12_next_248 rfl rfl ?_
                            refine Tr.callV (pc := 249) (as := [_, _]) d_X12_next_249 s_12_389 ok_X12_blame rfl rfl (Nat.le_of_ble_eq_true rfl) (Nat.le_of_ble_eq_true rfl) (by decide) (ty_120 hS.1.1) ?_
                            refine Tr.imp (Tr.deep (by decide) (ns_X12_blame_120_w1 (G120_8 := u200_120_8) hS.1 (k239_120_8) 1 (by omega) p200_1 (by and_intros <;> omega))) ?_
                            rintro M249 _ ⟨h249, s249_120_8, es249_120_8, bs249_120_8, rfl, z249_0⟩
                            have hS := St.tr hS h249 (by decide) (by decide)
                            refine Tr.sc [] rfl ?_
                            refine Tr.pick [0, 1, 2, 3, 4, 5] (ls2 := [(0, (2, 120)), (1, (0, p200_1)), (2, (0, r71)), (3, (0, r81)), (4, (0, q195_0)), (5, (0, p200_5))]) rfl ?_
                            exact J252 _ _ hS (by and_intros <;> omega) ((kp_X12_blame_120_w1_120_2 h249).trans k239_120_2) ((kp_X12_blame_120_w1_120_3 h249).trans k239_120_3) ((kp_X12_blame_120_w1_120_4 h249).trans k239_120_4) ((kp_X12_blame_120_w1_120_5 h249).trans k239_120_5) ((kp_X12_blame_120_w1_120_7 h249).trans k239_120_7) es249_120_8 ((ka_X12_blame_120_w1_121 h249 _).trans k239_121_p5_110) ((tav_of ((kp_X12_blame_120_w1_120_5 h249).trans rfl) ((kp_X12_blame_120_w1_120_3 h249).trans rfl)).trans k239_9010_0) (by omega) (by and_intros <;> omega) (by exact (hd_o t239_2).elim (fun h1 => by omega) (fun h1 => (hd_o z249_0).elim (fun h2 => by omega) (fun h2 => by omega))) (by first | exact (hd_o t239_3) | exact (hd_o t239_3).elim (fun h1 => by omega) (fun h1 => by omega)) (by first | exact (hd_o t239_4) | exact (hd_o t239_4).elim (fun h1 => by omega) (fun h1 => by omega)) (by first | exact (hd_o t239_5) | exact (hd_o t239_5).elim (fun h1 => by omega) (fun h1 => h1.elim (fun h1 => by omega) (fun h1 => h1.elim (fun h1 => by omega) (fun h1 => by omega)))) (by omega)
                        refine Tr.if_eq (pc := 209) (tgt := 227) d_X12_next_209 rfl (fun c209 => ?_) (fun c209 => ?_)
                        · refine Tr.aload_n (pc := 227) (i := 0) d_X12_next_227 rfl rfl ?_
                          refine Tr.getf (pc := 228) d_X12_next_228 f_12_7 (by decide) (by decide) (ty_120 hS.1.1) ?_
                          refine Tr.tp 121 (fx_120_0 hS.1.1) ?_
                          refine Tr.iload_n (pc := 231) (i := 1) d_X12_next_231 rfl rfl ?_
                          refine Tr.iald (pc := 232) d_X12_next_232 (ty_121 hS.1.1) (by omega) (by omega) ?_
                          refine Tr.gen (P := fun v => (-2147483648) ≤ v ∧ v ≤ 2147483647) (ar_121 hS.1.2.1 _) (fun r232 er232 br232 => ?_)
                          refine Tr.callS (pc := 233) (as := [_]) d_X12_next_233 s_12_386 ok_X12_isDigit rfl rfl (Nat.le_of_ble_eq_true rfl) (Nat.le_of_ble_eq_true rfl) ?_
                          refine Tr.imp (Tr.deep (by decide) (sp_X12_isDigit hS.1.wk r232 (by and_intros <;> omega))) ?_
                          rintro M233 _ ⟨h233, r233, rfl, lr233, ur233, wr233⟩
                          have h233 := St.rn h233 (Pm0.of hS.1.2.2.2.2 (fun _ => (ka_X12_isDigit_131 h233 _)) (fun _ => (ka_X12_isDigit_137 h233 _)) (fun _ => (ka_X12_isDigit_138 h233 _)) (fun _ => (ka_X12_isDigit_139 h233 _)) (fun _ => (ka_X12_isDigit_140 h233 _)) (fun _ => (ka_X12_isDigit_141 h233 _)) (fun _ => (ka_X12_isDigit_142 h233 _)) (fun _ => (ka_X12_isDigit_143 h233 _)) (fun _ => (ka_X12_isDigit_151 h233 _)) (fun _ => (ka_X12_isDigit_152 h233 _)) (kp_X12_isDigit_126_0 h233) (kp_X12_isDigit_126_1 h233) (kp_X12_isDigit_136_0 h233) (kp_X12_isDigit_136_1 h233) (kp_X12_isDigit_123_0 h233) (kp_X12_isDigit_123_1 h233) (kp_X12_isDigit_124_0 h233) (kp_X12_isDigit_124_1 h233) (kp_X12_isDigit_120_8 h233) (kp_X12_isDigit_120_36 h233) (kp_X12_isDigit_120_50 h233))
                          have hS := St.tr hS h233 (by decide) (by decide)
                          replace wr233 := hd_i wr233
                          refine Tr.sc [(0, r233)] rfl ?_
                          refine Tr.if_eq (pc := 236) (tgt := 323) d_X12_next_236 rfl (fun c236 => ?_) (fun c236 => ?_)
                          · refine Tr.aload_n (pc := 323) (i := 0) d_X12_next_323 rfl rfl ?_
                            refine Tr.iload_n (pc := 324) (i := 1) d_X12_next_324 rfl rfl ?_
                            refine Tr.putfS (pc := 325) (P := St Pm0 ws_X12_next_120_w1 as_X12_next_120_w1 M0) d_X12_next_325 f_12_26 (by decide) (by decide) (ty_120 hS.1.1) (st_120_5 hS (by decide) (by and_intros <;> omega) (Pm0.of hS.1.2.2.2.2 (fun _ => rd_wb _ rfl) (fun _ => rd_wb _ rfl) (fun _ => rd_wb _ rfl) (fun _ => rd_wb _ rfl) (fun _ => rd_wb _ rfl) (fun _ => rd_wb _ rfl) (fun _ => rd_wb _ rfl) (fun _ => rd_wb _ rfl) (fun _ => rd_wb _ rfl) (fun _ => rd_wb _ rfl) (rd_wb _ rfl) (rd_wb _ rfl) (rd_wb _ rfl) (rd_wb _ rfl) (rd_wb _ rfl) (rd_wb _ rfl) (rd_wb _ rfl) (rd_wb _ rfl) (rd_wb _ rfl) (rd_wb _ rfl) (rd_wb _ rfl))) (fun M325 hS w325 => ?_)
                            obtain ⟨w328_9010_0, ew328_9010_0⟩ : ∃ v, tav M325 = v := ⟨_, rfl⟩
                            have bw328_9010_0 : (-1) ≤ w328_9010_0 ∧ w328_9010_0 ≤ 1800 := by rw [← ew328_9010_0]; exact (tav_b hS.1.2.1)
                            have jt := tav_c (w325.1) (((Wr.b w325 rfl).trans ((kp_X12_isDigit_120_3 h233).trans k200_120_3)))
                            rw [ew328_9010_0] at jt
                            replace jt := hd_i jt
                            have kr_120_3 : rd M325 120 3 = q182_1 := ((Wr.b w325 rfl).trans ((kp_X12_isDigit_120_3 h233).trans k200_120_3))
                            have kr_120_4 : rd M325 120 4 = p5_1 := ((Wr.b w325 rfl).trans ((kp_X12_isDigit_120_4 h233).trans k200_120_4))
                            have kr_120_5 : rd M325 120 5 = p200_1 := w325.1
                            have kr_120_7 : rd M325 120 7 = u200_120_7 := ((Wr.b w325 rfl).trans ((kp_X12_isDigit_120_7 h233).trans k200_120_7))
                            have kr_120_8 : rd M325 120 8 = u200_120_8 := ((Wr.b w325 rfl).trans ((kp_X12_isDigit_120_8 h233).trans k200_120_8))
                            have kr_9010_0 : tav M325 = w328_9010_0 := ew328_9010_0
                            exact Tr.vret (pc := 328) d_X12_next_328 rfl ⟨hS, rfl, (by exact (hd_o t200_6).elim (fun h1 => (ne_o h1).elim (fun h2 => by omega) (fun h2 => by omega)) (fun h1 => h1.elim (fun h1 => by omega) (fun h1 => (hd_o wr233).elim (fun h2 => by omega) (fun h2 => h2.2.elim (fun h3 => by omega) (fun h3 => by omega))))), (by omega), (by exact (hd_o t200_4).elim (fun h1 => by omega) (fun h1 => by omega)), (by omega), (by exact (hd_o jt0).elim (fun h1 => (hd_o jt).elim (fun h2 => by omega) (fun h2 => (hd_o t200_6).elim (fun h3 => (ne_o h3).elim (fun h4 => by omega) (fun h4 => by omega)) (fun h3 => h3.elim (fun h3 => by omega) (fun h3 => (hd_o wr233).elim (fun h4 => by omega) (fun h4 => h4.2.elim (fun h5 => by omega) (fun h5 => by omega)))))) (fun h1 => (hd_o jt).elim (fun h2 => by omega) (fun h2 => by omega))), (by exact (hd_o jt0).elim (fun h1 => by omega) (fun h1 => (hd_o jt).elim (fun h2 => by omega) (fun h2 => (hd_o t200_6).elim (fun h3 => (ne_o h3).elim (fun h4 => by omega) (fun h4 => by omega)) (fun h3 => h3.elim (fun h3 => by omega) (fun h3 => (hd_o wr233).elim (fun h4 => by omega) (fun h4 => h4.2.elim (fun h5 => by omega) (fun h5 => by omega))))))), (by first | exact (hd_o t200_2) | exact (hd_o t200_2).elim (fun h1 => by omega) (fun h1 => by omega))⟩
                          · have c236b : 1 ≤ r233 ∧ r233 ≤ 1 := by omega
                            replace c236 := hd_i c236
                            refine Tr.pick [0, 1, 2, 3, 4, 5] (ls2 := [(0, (2, 120)), (1, (0, p200_1)), (2, (0, r71)), (3, (0, r81)), (4, (0, q195_0)), (5, (0, p200_5))]) rfl ?_
                            have jr239_0 : rd M233 121 p200_1 = r232 := ((ka_X12_isDigit_121 h233 _).trans er232)
                            exact J239 _ hS ((kp_X12_isDigit_120_2 h233).trans k200_120_2) ((kp_X12_isDigit_120_3 h233).trans k200_120_3) ((kp_X12_isDigit_120_4 h233).trans k200_120_4) ((kp_X12_isDigit_120_5 h233).trans k200_120_5) ((kp_X12_isDigit_120_7 h233).trans k200_120_7) ((kp_X12_isDigit_120_8 h233).trans k200_120_8) ((ka_X12_isDigit_121 h233 _).trans k200_121_p5_110) ((tav_of ((kp_X12_isDigit_120_5 h233).trans rfl) ((kp_X12_isDigit_120_3 h233).trans rfl)).trans k200_9010_0) (by omega) (by and_intros <;> omega) (by first | exact (hd_o t200_2) | exact (hd_o t200_2).elim (fun h1 => by omega) (fun h1 => by omega)) (by first | exact (hd_o t200_3) | exact (hd_o t200_3).elim (fun h1 => by omega) (fun h1 => by omega)) (by first | exact (hd_o t200_4) | exact (hd_o t200_4).elim (fun h1 => by omega) (fun h1 => by omega)) (by first | exact (hd_o t200_5) | exact (hd_o t200_5).elim (fun h1 => by omega) (fun h1 => h1.elim (fun h1 => by omega) (fun h1 => h1.elim (fun h1 => by omega) (fun h1 => by omega)))) (by exact (hd_o wr233).elim (fun h1 => by omega) (fun h1 => by omega))
                        · have c209b : 1 ≤ r71 ∧ r71 ≤ 1 := by omega
                          replace c209 := hd_i c209
                          refine Tr.aload_n (pc := 212) (i := 0) d_X12_next_212 rfl rfl ?_
                          refine Tr.getf (pc := 213) d_X12_next_213 f_12_7 (by decide) (by decide) (ty_120 hS.1.1) ?_
                          refine Tr.tp 121 (fx_120_0 hS.1.1) ?_
                          refine Tr.iload_n (pc := 216) (i := 1) d_X12_next_216 rfl rfl ?_
                          refine Tr.iald (pc := 217) d_X12_next_217 (ty_121 hS.1.1) (by omega) (by omega) ?_
                          refine Tr.gen (P := fun v => (-2147483648) ≤ v ∧ v ≤ 2147483647) (ar_121 hS.1.2.1 _) (fun r217 er217 br217 => ?_)
                          refine Tr.callS (pc := 218) (as := [_]) d_X12_next_218 s_12_382 ok_X12_isLetter rfl rfl (Nat.le_of_ble_eq_true rfl) (Nat.le_of_ble_eq_true rfl) ?_
                          refine Tr.imp (Tr.deep (by decide) (sp_X12_isLetter hS.1.wk r217 (by and_intros <;> omega))) ?_
                          rintro M218 _ ⟨h218, r218, rfl, lr218, ur218, wr218⟩
                          have h218 := St.rn h218 (Pm0.of hS.1.2.2.2.2 (fun _ => (ka_X12_isLetter_131 h218 _)) (fun _ => (ka_X12_isLetter_137 h218 _)) (fun _ => (ka_X12_isLetter_138 h218 _)) (fun _ => (ka_X12_isLetter_139 h218 _)) (fun _ => (ka_X12_isLetter_140 h218 _)) (fun _ => (ka_X12_isLetter_141 h218 _)) (fun _ => (ka_X12_isLetter_142 h218 _)) (fun _ => (ka_X12_isLetter_143 h218 _)) (fun _ => (ka_X12_isLetter_151 h218 _)) (fun _ => (ka_X12_isLetter_152 h218 _)) (kp_X12_isLetter_126_0 h218) (kp_X12_isLetter_126_1 h218) (kp_X12_isLetter_136_0 h218) (kp_X12_isLetter_136_1 h218) (kp_X12_isLetter_123_0 h218) (kp_X12_isLetter_123_1 h218) (kp_X12_isLetter_124_0 h218) (kp_X12_isLetter_124_1 h218) (kp_X12_isLetter_120_8 h218) (kp_X12_isLetter_120_36 h218) (kp_X12_isLetter_120_50 h218))
                          have hS := St.tr hS h218 (by decide) (by decide)
                          replace wr218 := hd_i wr218
                          refine Tr.sc [(0, r218)] rfl ?_
                          refine Tr.if_eq (pc := 221) (tgt := 323) d_X12_next_221 rfl (fun c221 => ?_) (fun c221 => ?_)
                          · refine Tr.aload_n (pc := 323) (i := 0) d_X12_next_323 rfl rfl ?_
                            refine Tr.iload_n (pc := 324) (i := 1) d_X12_next_324 rfl rfl ?_
                            refine Tr.putfS (pc := 325) (P := St Pm0 ws_X12_next_120_w1 as_X12_next_120_w1 M0) d_X12_next_325 f_12_26 (by decide) (by decide) (ty_120 hS.1.1) (st_120_5 hS (by decide) (by and_intros <;> omega) (Pm0.of hS.1.2.2.2.2 (fun _ => rd_wb _ rfl) (fun _ => rd_wb _ rfl) (fun _ => rd_wb _ rfl) (fun _ => rd_wb _ rfl) (fun _ => rd_wb _ rfl) (fun _ => rd_wb _ rfl) (fun _ => rd_wb _ rfl) (fun _ => rd_wb _ rfl) (fun _ => rd_wb _ rfl) (fun _ => rd_wb _ rfl) (rd_wb _ rfl) (rd_wb _ rfl) (rd_wb _ rfl) (rd_wb _ rfl) (rd_wb _ rfl) (rd_wb _ rfl) (rd_wb _ rfl) (rd_wb _ rfl) (rd_wb _ rfl) (rd_wb _ rfl) (rd_wb _ rfl))) (fun M325 hS w325 => ?_)
                            obtain ⟨w328_9010_0, ew328_9010_0⟩ : ∃ v, tav M325 = v := ⟨_, rfl⟩
                            have bw328_9010_0 : (-1) ≤ w328_9010_0 ∧ w328_9010_0 ≤ 1800 := by rw [← ew328_9010_0]; exact (tav_b hS.1.2.1)
                            have jt := tav_c (w325.1) (((Wr.b w325 rfl).trans ((kp_X12_isLetter_120_3 h218).trans k200_120_3)))
                            rw [ew328_9010_0] at jt
                            replace jt := hd_i jt
                            have kr_120_3 : rd M325 120 3 = q182_1 := ((Wr.b w325 rfl).trans ((kp_X12_isLetter_120_3 h218).trans k200_120_3))
                            have kr_120_4 : rd M325 120 4 = p5_1 := ((Wr.b w325 rfl).trans ((kp_X12_isLetter_120_4 h218).trans k200_120_4))
                            have kr_120_5 : rd M325 120 5 = p200_1 := w325.1
                            have kr_120_7 : rd M325 120 7 = u200_120_7 := ((Wr.b w325 rfl).trans ((kp_X12_isLetter_120_7 h218).trans k200_120_7))
                            have kr_120_8 : rd M325 120 8 = u200_120_8 := ((Wr.b w325 rfl).trans ((kp_X12_isLetter_120_8 h218).trans k200_120_8))
                            have kr_9010_0 : tav M325 = w328_9010_0 := ew328_9010_0
                            exact Tr.vret (pc := 328) d_X12_next_328 rfl ⟨hS, rfl, (by exact (hd_o t200_6).elim (fun h1 => (ne_o h1).elim (fun h2 => by omega) (fun h2 => by omega)) (fun h1 => h1.elim (fun h1 => (hd_o wr218).elim (fun h2 => by omega) (fun h2 => h2.2.elim (fun h3 => by omega) (fun h3 => by omega))) (fun h1 => by omega))), (by omega), (by exact (hd_o t200_5).elim (fun h1 => (ne_o h1).elim (fun h2 => by omega) (fun h2 => by omega)) (fun h1 => h1.elim (fun h1 => by omega) (fun h1 => h1.elim (fun h1 => by omega) (fun h1 => by omega)))), (by omega), (by exact (hd_o jt0).elim (fun h1 => (hd_o jt).elim (fun h2 => by omega) (fun h2 => (hd_o t200_6).elim (fun h3 => (ne_o h3).elim (fun h4 => by omega) (fun h4 => by omega)) (fun h3 => h3.elim (fun h3 => (hd_o wr218).elim (fun h4 => by omega) (fun h4 => h4.2.elim (fun h5 => by omega) (fun h5 => by omega))) (fun h3 => by omega)))) (fun h1 => (hd_o jt).elim (fun h2 => by omega) (fun h2 => by omega))), (by exact (hd_o jt0).elim (fun h1 => by omega) (fun h1 => (hd_o jt).elim (fun h2 => by omega) (fun h2 => (hd_o t200_6).elim (fun h3 => (ne_o h3).elim (fun h4 => by omega) (fun h4 => by omega)) (fun h3 => h3.elim (fun h3 => (hd_o wr218).elim (fun h4 => by omega) (fun h4 => h4.2.elim (fun h5 => by omega) (fun h5 => by omega))) (fun h3 => by omega))))), (by first | exact (hd_o t200_2) | exact (hd_o t200_2).elim (fun h1 => by omega) (fun h1 => by omega))⟩
                          · have c221b : 1 ≤ r218 ∧ r218 ≤ 1 := by omega
                            replace c221 := hd_i c221
                            refine Tr.goto (pc := 224) (tgt := 239) d_X12_next_224 rfl ?_
                            refine Tr.pick [0, 1, 2, 3, 4, 5] (ls2 := [(0, (2, 120)), (1, (0, p200_1)), (2, (0, r71)), (3, (0, r81)), (4, (0, q195_0)), (5, (0, p200_5))]) rfl ?_
                            have jr239_0 : rd M218 121 p200_1 = r217 := ((ka_X12_isLetter_121 h218 _).trans er217)
                            exact J239 _ hS ((kp_X12_isLetter_120_2 h218).trans k200_120_2) ((kp_X12_isLetter_120_3 h218).trans k200_120_3) ((kp_X12_isLetter_120_4 h218).trans k200_120_4) ((kp_X12_isLetter_120_5 h218).trans k200_120_5) ((kp_X12_isLetter_120_7 h218).trans k200_120_7) ((kp_X12_isLetter_120_8 h218).trans k200_120_8) ((ka_X12_isLetter_121 h218 _).trans k200_121_p5_110) ((tav_of ((kp_X12_isLetter_120_5 h218).trans rfl) ((kp_X12_isLetter_120_3 h218).trans rfl)).trans k200_9010_0) (by omega) (by and_intros <;> omega) (by first | exact (hd_o t200_2) | exact (hd_o t200_2).elim (fun h1 => by omega) (fun h1 => by omega)) (by first | exact (hd_o t200_3) | exact (hd_o t200_3).elim (fun h1 => by omega) (fun h1 => by omega)) (by first | exact (hd_o t200_4) | exact (hd_o t200_4).elim (fun h1 => by omega) (fun h1 => by omega)) (by first | exact (hd_o t200_5) | exact (hd_o t200_5).elim (fun h1 => by omega) (fun h1 => h1.elim (fun h1 => by omega) (fun h1 => h1.elim (fun h1 => by omega) (fun h1 => by omega)))) (by exact (hd_o wr218).elim (fun h1 => by omega) (fun h1 => by omega))
                  refine Tr.pick [2, 3, 4, 5, 1, 0] (ls2 := [(0, (2, 120)), (1, (0, p5_1)), (2, (0, r71)), (3, (0, r81)), (4, (0, q195_0)), (5, (0, 0))]) rfl ?_
                  have jr200_0 : rd M 121 p5_1 = r70 := k195_121_p5_110
                  exact J200 _ _ _ _ _ _ hS (by and_intros <;> omega) (by omega) (by omega) (by and_intros <;> omega) k195_120_2 k195_120_3 k195_120_4 k195_120_5 k195_120_7 k195_120_8 k195_121_p5_110 k195_9010_0 (by omega) (by and_intros <;> omega) (by first | exact (hd_o t195_2) | exact (hd_o t195_2).elim (fun h1 => by omega) (fun h1 => by omega)) (by omega) (by first | exact (hd_o t195_6) | exact (hd_o t195_6).elim (fun h1 => by omega) (fun h1 => by omega)) (by omega) (by exact (hd_o t195_5).elim (fun h1 => (hd_o wr71).elim (fun h2 => by omega) (fun h2 => by omega)) (fun h1 => (hd_o wr81).elim (fun h2 => (hd_o wr71).elim (fun h3 => by omega) (fun h3 => by omega)) (fun h2 => by omega))) (Nat.lt_succ_self _)
                refine Tr.if_eq (pc := 186) (tgt := 194) d_X12_next_186 rfl (fun c186 => ?_) (fun c186 => ?_)
                · refine Tr.iconst (pc := 194) d_X12_next_194 (by decide) ?_
                  refine Tr.pick [0, 1, 2, 3] (ls2 := [(0, (2, 120)), (1, (0, p5_1)), (2, (0, r71)), (3, (0, r81))]) rfl ?_
                  obtain ⟨w195p194_9010_0, ew195p194_9010_0⟩ : ∃ v, tav M182 = v := ⟨_, rfl⟩
                  have bw195p194_9010_0 : (-1) ≤ w195p194_9010_0 ∧ w195p194_9010_0 ≤ 1800 := by rw [← ew195p194_9010_0]; exact (tav_b hS.1.2.1)
                  have jr195_0 : rd M182 121 p5_1 = r70 := ((Wr.b w182 rfl).trans k182_121_p5_110)
                  have jr195_1 : rd M182 121 p5_1 = r70 := ((Wr.b w182 rfl).trans k182_121_p5_110)
                  exact J195 _ _ _ hS (by omega) (by and_intros <;> omega) ((Wr.b w182 rfl).trans k182_120_2) w182.1 ((Wr.b w182 rfl).trans k182_120_4) ((Wr.b w182 rfl).trans k182_120_5) ((Wr.b w182 rfl).trans k182_120_6) ((Wr.b w182 rfl).trans k182_120_7) ((Wr.b w182 rfl).trans k182_120_8) ((Wr.b w182 rfl).trans k182_121_p5_110) ew195p194_9010_0 (by omega) (by omega) (by first | exact (hd_o t182_2) | exact (hd_o t182_2).elim (fun h1 => by omega) (fun h1 => by omega)) (by first | exact (hd_o wr71) | exact (hd_o wr71).elim (fun h1 => by omega) (fun h1 => by omega)) (by first | exact (hd_o wr81) | exact (hd_o wr81).elim (fun h1 => by omega) (fun h1 => by omega)) (by first | exact (hd_o t182_5) | exact (hd_o t182_5).elim (fun h1 => by omega) (fun h1 => by omega)) (by exact (hd_o t182_6).elim (fun h1 => by omega) (fun h1 => by omega))
                · have c186b : 1 ≤ r71 ∧ r71 ≤ 1 := by omega
                  replace c186 := hd_i c186
                  refine Tr.bipush (pc := 189) d_X12_next_189 rfl (by decide) ?_
                  refine Tr.goto (pc := 191) (tgt := 195) d_X12_next_191 rfl ?_
                  refine Tr.pick [0, 1, 2, 3] (ls2 := [(0, (2, 120)), (1, (0, p5_1)), (2, (0, r71)), (3, (0, r81))]) rfl ?_
                  obtain ⟨w195p191_9010_0, ew195p191_9010_0⟩ : ∃ v, tav M182 = v := ⟨_, rfl⟩
                  have bw195p191_9010_0 : (-1) ≤ w195p191_9010_0 ∧ w195p191_9010_0 ≤ 1800 := by rw [← ew195p191_9010_0]; exact (tav_b hS.1.2.1)
                  have jr195_0 : rd M182 121 p5_1 = r70 := ((Wr.b w182 rfl).trans k182_121_p5_110)
                  have jr195_1 : rd M182 121 p5_1 = r70 := ((Wr.b w182 rfl).trans k182_121_p5_110)
                  exact J195 _ _ _ hS (by omega) (by and_intros <;> omega) ((Wr.b w182 rfl).trans k182_120_2) w182.1 ((Wr.b w182 rfl).trans k182_120_4) ((Wr.b w182 rfl).trans k182_120_5) ((Wr.b w182 rfl).trans k182_120_6) ((Wr.b w182 rfl).trans k182_120_7) ((Wr.b w182 rfl).trans k182_120_8) ((Wr.b w182 rfl).trans k182_121_p5_110) ew195p191_9010_0 (by omega) (by omega) (by first | exact (hd_o t182_2) | exact (hd_o t182_2).elim (fun h1 => by omega) (fun h1 => by omega)) (by first | exact (hd_o wr71) | exact (hd_o wr71).elim (fun h1 => by omega) (fun h1 => by omega)) (by first | exact (hd_o wr81) | exact (hd_o wr81).elim (fun h1 => by omega) (fun h1 => by omega)) (by first | exact (hd_o t182_5) | exact (hd_o t182_5).elim (fun h1 => by omega) (fun h1 => by omega)) (by exact (hd_o t182_6).elim (fun h1 => by omega) (fun h1 => by omega))
              refine Tr.if_eq (pc := 174) (tgt := 181) d_X12_next_174 rfl (fun c174 => ?_) (fun c174 => ?_)
              · refine Tr.iconst (pc := 181) d_X12_next_181 (by decide) ?_
                refine Tr.pick [0, 1, 2, 3] (ls2 := [(0, (2, 120)), (1, (0, p5_1)), (2, (0, r71)), (3, (0, r81))]) rfl ?_
                have jr182_0 : rd M 121 p5_1 = r70 := k172_121_p5_110
                have jr182_1 : rd M 121 p5_1 = r70 := k172_121_p5_110
                exact J182 _ _ hS (by omega) k172_120_2 k172_120_3 k172_120_4 k172_120_5 k172_120_6 k172_120_7 k172_120_8 k172_121_p5_110 k172_9010_0 (by omega) (by omega) (by first | exact (hd_o t172_2) | exact (hd_o t172_2).elim (fun h1 => by omega) (fun h1 => by omega)) (by first | exact (hd_o wr71) | exact (hd_o wr71).elim (fun h1 => by omega) (fun h1 => by omega)) (by first | exact (hd_o wr81) | exact (hd_o wr81).elim (fun h1 => by omega) (fun h1 => by omega)) (by first | exact (hd_o t172_5) | exact (hd_o t172_5).elim (fun h1 => by omega) (fun h1 => by omega)) (by omega)
              · have c174b : 1 ≤ r71 ∧ r71 ≤ 1 := by omega
                replace c174 := hd_i c174
                refine Tr.iconst (pc := 177) d_X12_next_177 (by decide) ?_
                refine Tr.goto (pc := 178) (tgt := 182) d_X12_next_178 rfl ?_
                refine Tr.pick [0, 1, 2, 3] (ls2 := [(0, (2, 120)), (1, (0, p5_1)), (2, (0, r71)), (3, (0, r81))]) rfl ?_
                have jr182_0 : rd M 121 p5_1 = r70 := k172_121_p5_110
                have jr182_1 : rd M 121 p5_1 = r70 := k172_121_p5_110
                exact J182 _ _ hS (by omega) k172_120_2 k172_120_3 k172_120_4 k172_120_5 k172_120_6 k172_120_7 k172_120_8 k172_121_p5_110 k172_9010_0 (by omega) (by omega) (by first | exact (hd_o t172_2) | exact (hd_o t172_2).elim (fun h1 => by omega) (fun h1 => by omega)) (by first | exact (hd_o wr71) | exact (hd_o wr71).elim (fun h1 => by omega) (fun h1 => by omega)) (by first | exact (hd_o wr81) | exact (hd_o wr81).elim (fun h1 => by omega) (fun h1 => by omega)) (by first | exact (hd_o t172_5) | exact (hd_o t172_5).elim (fun h1 => by omega) (fun h1 => by omega)) (by omega)
            refine Tr.if_ne (pc := 154) (tgt := 172) d_X12_next_154 rfl (fun c154 => ?_) (fun c154 => ?_)
            · have c154b : 1 ≤ r71 ∧ r71 ≤ 1 := by omega
              replace c154 := hd_i c154
              refine Tr.pick [0, 1, 2, 3] (ls2 := [(0, (2, 120)), (1, (0, p5_1)), (2, (0, r71)), (3, (0, r81))]) rfl ?_
              obtain ⟨w172p154_9010_0, ew172p154_9010_0⟩ : ∃ v, tav M150 = v := ⟨_, rfl⟩
              have bw172p154_9010_0 : (-1) ≤ w172p154_9010_0 ∧ w172p154_9010_0 ≤ 1800 := by rw [← ew172p154_9010_0]; exact (tav_b hS.1.2.1)
              have jr172_0 : rd M150 121 p5_1 = r70 := ((Wr.b w150 rfl).trans ((Wr.b w143 rfl).trans ((Wr.b w138 rfl).trans ((Wr.b w133 rfl).trans k131_121_p5_110))))
              have jr172_1 : rd M150 121 p5_1 = r70 := ((Wr.b w150 rfl).trans ((Wr.b w143 rfl).trans ((Wr.b w138 rfl).trans ((Wr.b w133 rfl).trans k131_121_p5_110))))
              exact J172 _ _ hS (by and_intros <;> omega) ((Wr.b w150 rfl).trans ((Wr.b w143 rfl).trans ((Wr.b w138 rfl).trans ((Wr.b w133 rfl).trans k131_120_2)))) ((Wr.b w150 rfl).trans w143.1) ((Wr.b w150 rfl).trans ((Wr.b w143 rfl).trans ((Wr.b w138 rfl).trans ((Wr.b w133 rfl).trans k131_120_4)))) w150.1 ((Wr.b w150 rfl).trans ((Wr.b w143 rfl).trans ((Wr.b w138 rfl).trans w133.1))) ((Wr.b w150 rfl).trans ((Wr.b w143 rfl).trans w138.1)) ((Wr.b w150 rfl).trans ((Wr.b w143 rfl).trans ((Wr.b w138 rfl).trans ((Wr.b w133 rfl).trans k131_120_8)))) ((Wr.b w150 rfl).trans ((Wr.b w143 rfl).trans ((Wr.b w138 rfl).trans ((Wr.b w133 rfl).trans k131_121_p5_110)))) ew172p154_9010_0 (by omega) (by omega) (by first | exact (hd_o t131_2) | exact (hd_o t131_2).elim (fun h1 => by omega) (fun h1 => by omega)) (by first | exact (hd_o wr71) | exact (hd_o wr71).elim (fun h1 => by omega) (fun h1 => by omega)) (by first | exact (hd_o wr81) | exact (hd_o wr81).elim (fun h1 => by omega) (fun h1 => by omega)) (by omega)
            · refine Tr.iload_n (pc := 157) (i := 3) d_X12_next_157 rfl rfl ?_
              refine Tr.if_ne (pc := 158) (tgt := 172) d_X12_next_158 rfl (fun c158 => ?_) (fun c158 => ?_)
              · have c158b : 1 ≤ r81 ∧ r81 ≤ 1 := by omega
                replace c158 := hd_i c158
                refine Tr.pick [0, 1, 2, 3] (ls2 := [(0, (2, 120)), (1, (0, p5_1)), (2, (0, r71)), (3, (0, r81))]) rfl ?_
                obtain ⟨w172p158_9010_0, ew172p158_9010_0⟩ : ∃ v, tav M150 = v := ⟨_, rfl⟩
                have bw172p158_9010_0 : (-1) ≤ w172p158_9010_0 ∧ w172p158_9010_0 ≤ 1800 := by rw [← ew172p158_9010_0]; exact (tav_b hS.1.2.1)
                have jr172_0 : rd M150 121 p5_1 = r70 := ((Wr.b w150 rfl).trans ((Wr.b w143 rfl).trans ((Wr.b w138 rfl).trans ((Wr.b w133 rfl).trans k131_121_p5_110))))
                have jr172_1 : rd M150 121 p5_1 = r70 := ((Wr.b w150 rfl).trans ((Wr.b w143 rfl).trans ((Wr.b w138 rfl).trans ((Wr.b w133 rfl).trans k131_121_p5_110))))
                exact J172 _ _ hS (by and_intros <;> omega) ((Wr.b w150 rfl).trans ((Wr.b w143 rfl).trans ((Wr.b w138 rfl).trans ((Wr.b w133 rfl).trans k131_120_2)))) ((Wr.b w150 rfl).trans w143.1) ((Wr.b w150 rfl).trans ((Wr.b w143 rfl).trans ((Wr.b w138 rfl).trans ((Wr.b w133 rfl).trans k131_120_4)))) w150.1 ((Wr.b w150 rfl).trans ((Wr.b w143 rfl).trans ((Wr.b w138 rfl).trans w133.1))) ((Wr.b w150 rfl).trans ((Wr.b w143 rfl).trans w138.1)) ((Wr.b w150 rfl).trans ((Wr.b w143 rfl).trans ((Wr.b w138 rfl).trans ((Wr.b w133 rfl).trans k131_120_8)))) ((Wr.b w150 rfl).trans ((Wr.b w143 rfl).trans ((Wr.b w138 rfl).trans ((Wr.b w133 rfl).trans k131_121_p5_110)))) ew172p158_9010_0 (by omega) (by omega) (by first | exact (hd_o t131_2) | exact (hd_o t131_2).elim (fun h1 => by omega) (fun h1 => by omega)) (by first | exact (hd_o wr71) | exact (hd_o wr71).elim (fun h1 => by omega) (fun h1 => by omega)) (by first | exact (hd_o wr81) | exact (hd_o wr81).elim (fun h1 => by omega) (fun h1 => by omega)) (by omega)
              · refine Tr.aload_n (pc := 161) (i := 0) d_X12_next_161 rfl rfl ?_
                refine Tr.aload_n (pc := 162) (i := 0) d_X12_next_162 rfl rfl ?_
                refine Tr.getf (pc := 163) d_X12_next_163 f_12_7 (by decide) (by decide) (ty_120 hS.1.1) ?_
                refine Tr.tp 121 (fx_120_0 hS.1.1) ?_
                refine Tr.iload_n (pc := 166) (i := 1) d_X12_next_166 rfl rfl ?_
                refine Tr.iald (pc := 167) d_X12_next_167 (ty_121 hS.1.1) (by omega) (by omega) ?_
                refine Tr.tp r70 ((Wr.b w150 rfl).trans ((Wr.b w143 rfl).trans ((Wr.b w138 rfl).trans ((Wr.b w133 rfl).trans k131_121_p5_110)))) ?_
                refine Tr.putfS (pc := 168) (P := St Pm0 ws_X12_next_120_w1 as_X12_next_120_w1 M0) d_X12_next_168 f_12_29 (by decide) (by decide) (ty_120 hS.1.1) (st_120_6 hS (by decide) (by and_intros <;> omega) (Pm0.of hS.1.2.2.2.2 (fun _ => rd_wb _ rfl) (fun _ => rd_wb _ rfl) (fun _ => rd_wb _ rfl) (fun _ => rd_wb _ rfl) (fun _ => rd_wb _ rfl) (fun _ => rd_wb _ rfl) (fun _ => rd_wb _ rfl) (fun _ => rd_wb _ rfl) (fun _ => rd_wb _ rfl) (fun _ => rd_wb _ rfl) (rd_wb _ rfl) (rd_wb _ rfl) (rd_wb _ rfl) (rd_wb _ rfl) (rd_wb _ rfl) (rd_wb _ rfl) (rd_wb _ rfl) (rd_wb _ rfl) (rd_wb _ rfl) (rd_wb _ rfl) (rd_wb _ rfl))) (fun M168 hS w168 => ?_)
                obtain ⟨w171_9010_0, ew171_9010_0⟩ : ∃ v, tav M168 = v := ⟨_, rfl⟩
                have bw171_9010_0 : (-1) ≤ w171_9010_0 ∧ w171_9010_0 ≤ 1800 := by rw [← ew171_9010_0]; exact (tav_b hS.1.2.1)
                have jt := tav_c (((Wr.b w168 rfl).trans w150.1)) (((Wr.b w168 rfl).trans ((Wr.b w150 rfl).trans w143.1)))
                rw [ew171_9010_0] at jt
                replace jt := hd_i jt
                have kr_120_3 : rd M168 120 3 = 3 := ((Wr.b w168 rfl).trans ((Wr.b w150 rfl).trans w143.1))
                have kr_120_4 : rd M168 120 4 = p5_1 := ((Wr.b w168 rfl).trans ((Wr.b w150 rfl).trans ((Wr.b w143 rfl).trans ((Wr.b w138 rfl).trans ((Wr.b w133 rfl).trans k131_120_4)))))
                have kr_120_5 : rd M168 120 5 = (p5_1 + 1) := ((Wr.b w168 rfl).trans w150.1)
                have kr_120_7 : rd M168 120 7 = 0 := ((Wr.b w168 rfl).trans ((Wr.b w150 rfl).trans ((Wr.b w143 rfl).trans w138.1)))
                have kr_120_8 : rd M168 120 8 = u131_120_8 := ((Wr.b w168 rfl).trans ((Wr.b w150 rfl).trans ((Wr.b w143 rfl).trans ((Wr.b w138 rfl).trans ((Wr.b w133 rfl).trans k131_120_8)))))
                have kr_9010_0 : tav M168 = w171_9010_0 := ew171_9010_0
                exact Tr.vret (pc := 171) d_X12_next_171 rfl ⟨hS, rfl, (by omega), (by omega), (by omega), (by omega), (by exact (hd_o jt).elim (fun h1 => by omega) (fun h1 => (hd_o jt0).elim (fun h2 => by omega) (fun h2 => by omega))), (by exact (hd_o jt).elim (fun h1 => by omega) (fun h1 => (hd_o jt0).elim (fun h2 => by omega) (fun h2 => by omega))), (by first | exact (hd_o t131_2) | exact (hd_o t131_2).elim (fun h1 => by omega) (fun h1 => by omega))⟩
          have J93 : ∀ (M : Mem) (u93_9010_0 : Int), St Pm0 ws_X12_next_120_w1 as_X12_next_120_w1 M0 M → ((-1) ≤ u93_9010_0 ∧ u93_9010_0 ≤ 1800) → rd M 120 2 = r7 → rd M 120 3 = 0 → rd M 120 4 = p5_1 → rd M 120 5 = p5_1 → rd M 120 7 = g120_7 → rd M 120 8 = g120_8 → rd M 121 p5_1 = r70 → tav M = u93_9010_0 → (g120_5 ≤ p5_1) → (p5_1 = p5_1) → (g120_8 = 0 ∨ g120_8 = g120_8) → ((r71 = 1 ∧ 97 ≤ rd M 121 p5_1 ∧ rd M 121 p5_1 ≤ 122) ∨ (r71 = 0 ∧ (rd M 121 p5_1 < 97 ∨ 122 < rd M 121 p5_1))) → ((r81 = 1 ∧ 48 ≤ rd M 121 p5_1 ∧ rd M 121 p5_1 ≤ 57) ∨ (r81 = 0 ∧ (rd M 121 p5_1 < 48 ∨ 57 < rd M 121 p5_1))) → Tr l K 1 mX12_next 93 [(0, (2, 120)), (1, (0, p5_1)), (2, (0, r71)), (3, (0, r81))] [] M (q_X12_next_120_w1 M0) := by
            intro M u93_9010_0 hS bu93_9010_0 k93_120_2 k93_120_3 k93_120_4 k93_120_5 k93_120_7 k93_120_8 k93_121_p5_110 k93_9010_0 t93_0 t93_1 t93_2 t93_3 t93_4
            clear k41_120_2 k41_120_3 k41_120_4 k41_120_5 k41_120_7 k41_120_8 k41_9010_0 w43 w48 w53 er70
            replace t93_2 := hd_i t93_2
            replace t93_3 := hd_i t93_3
            replace t93_4 := hd_i t93_4
            refine Tr.iload_n (pc := 93) (i := 1) d_X12_next_93 rfl rfl ?_
            refine Tr.if_le (pc := 94) (tgt := 131) d_X12_next_94 rfl (fun c94 => ?_) (fun c94 => ?_)
            · refine Tr.pick [0, 1, 2, 3] (ls2 := [(0, (2, 120)), (1, (0, p5_1)), (2, (0, r71)), (3, (0, r81))]) rfl ?_
              have jr131_0 : rd M 121 p5_1 = r70 := k93_121_p5_110
              have jr131_1 : rd M 121 p5_1 = r70 := k93_121_p5_110
              exact J131 _ _ _ hS (by and_intros <;> omega) (by and_intros <;> omega) k93_120_2 k93_120_3 k93_120_4 k93_120_5 k93_120_7 k93_120_8 k93_121_p5_110 k93_9010_0 (by omega) (by omega) (by first | exact (hd_o t93_2) | exact (hd_o t93_2).elim (fun h1 => by omega) (fun h1 => by omega)) (by first | exact (hd_o wr71) | exact (hd_o wr71).elim (fun h1 => by omega) (fun h1 => by omega)) (by first | exact (hd_o wr81) | exact (hd_o wr81).elim (fun h1 => by omega) (fun h1 => by omega))
            · refine Tr.aload_n (pc := 97) (i := 0) d_X12_next_97 rfl rfl ?_
              refine Tr.getf (pc := 98) d_X12_next_98 f_12_7 (by decide) (by decide) (ty_120 hS.1.1) ?_
              refine Tr.tp 121 (fx_120_0 hS.1.1) ?_
              refine Tr.iload_n (pc := 101) (i := 1) d_X12_next_101 rfl rfl ?_
              refine Tr.iconst (pc := 102) d_X12_next_102 (by decide) ?_
              refine Tr.isub (pc := 103) d_X12_next_103 ?_
              refine Tr.tp (p5_1 - 1) ((w32_id (by and_intros <;> omega)).trans (by omega)) ?_
              refine Tr.iald (pc := 104) d_X12_next_104 (ty_121 hS.1.1) (by omega) (by omega) ?_
              refine Tr.gen (P := fun v => (-2147483648) ≤ v ∧ v ≤ 2147483647) (ar_121 hS.1.2.1 _) (fun r104 er104 br104 => ?_)
              refine Tr.callS (pc := 105) (as := [_]) d_X12_next_105 s_12_382 ok_X12_isLetter rfl rfl (Nat.le_of_ble_eq_true rfl) (Nat.le_of_ble_eq_true rfl) ?_
              refine Tr.imp (Tr.deep (by decide) (sp_X12_isLetter hS.1.wk r104 (by and_intros <;> omega))) ?_
              rintro M105 _ ⟨h105, r105, rfl, lr105, ur105, wr105⟩
              have h105 := St.rn h105 (Pm0.of hS.1.2.2.2.2 (fun _ => (ka_X12_isLetter_131 h105 _)) (fun _ => (ka_X12_isLetter_137 h105 _)) (fun _ => (ka_X12_isLetter_138 h105 _)) (fun _ => (ka_X12_isLetter_139 h105 _)) (fun _ => (ka_X12_isLetter_140 h105 _)) (fun _ => (ka_X12_isLetter_141 h105 _)) (fun _ => (ka_X12_isLetter_142 h105 _)) (fun _ => (ka_X12_isLetter_143 h105 _)) (fun _ => (ka_X12_isLetter_151 h105 _)) (fun _ => (ka_X12_isLetter_152 h105 _)) (kp_X12_isLetter_126_0 h105) (kp_X12_isLetter_126_1 h105) (kp_X12_isLetter_136_0 h105) (kp_X12_isLetter_136_1 h105) (kp_X12_isLetter_123_0 h105) (kp_X12_isLetter_123_1 h105) (kp_X12_isLetter_124_0 h105) (kp_X12_isLetter_124_1 h105) (kp_X12_isLetter_120_8 h105) (kp_X12_isLetter_120_36 h105) (kp_X12_isLetter_120_50 h105))
              have hS := St.tr hS h105 (by decide) (by decide)
              replace wr105 := hd_i wr105
              refine Tr.sc [(0, r105)] rfl ?_
              have J125 : ∀ (M : Mem), St Pm0 ws_X12_next_120_w1 as_X12_next_120_w1 M0 M → rd M 120 2 = r7 → rd M 120 3 = 0 → rd M 120 4 = p5_1 → rd M 120 5 = p5_1 → rd M 120 7 = g120_7 → rd M 120 8 = g120_8 → rd M 121 (p5_1 - 1) = r104 → rd M 121 p5_1 = r70 → tav M = u93_9010_0 → (g120_5 ≤ p5_1) → (p5_1 = p5_1) → (g120_8 = 0 ∨ g120_8 = g120_8) → ((r71 = 1 ∧ 97 ≤ rd M 121 p5_1 ∧ rd M 121 p5_1 ≤ 122) ∨ (r71 = 0 ∧ (rd M 121 p5_1 < 97 ∨ 122 < rd M 121 p5_1))) → ((r81 = 1 ∧ 48 ≤ rd M 121 p5_1 ∧ rd M 121 p5_1 ≤ 57) ∨ (r81 = 0 ∧ (rd M 121 p5_1 < 48 ∨ 57 < rd M 121 p5_1))) → Tr l K 1 mX12_next 125 [(0, (2, 120)), (1, (0, p5_1)), (2, (0, r71)), (3, (0, r81))] [] M (q_X12_next_120_w1 M0) := by
                intro M  hS  k125_120_2 k125_120_3 k125_120_4 k125_120_5 k125_120_7 k125_120_8 k125_121_p5_11n1 k125_121_p5_110 k125_9010_0 t125_0 t125_1 t125_2 t125_3 t125_4
                clear k93_120_2 k93_120_3 k93_120_4 k93_120_5 k93_120_7 k93_120_8 k93_121_p5_110 k93_9010_0 er104
                replace t125_2 := hd_i t125_2
                replace t125_3 := hd_i t125_3
                replace t125_4 := hd_i t125_4
                refine Tr.aload_n (pc := 125) (i := 0) d_X12_next_125 rfl rfl ?_
                refine Tr.iconst (pc := 126) d_X12_next_126 (by decide) ?_
                refine Tr.iload_n (pc := 127) (i := 1) d_X12_next_127 rfl rfl ?_
                refine Tr.callV (pc := 128) (as := [_, _]) d_X12_next_128 s_12_389 ok_X12_blame rfl rfl (Nat.le_of_ble_eq_true rfl) (Nat.le_of_ble_eq_true rfl) (by decide) (ty_120 hS.1.1) ?_
                refine Tr.imp (Tr.deep (by decide) (ns_X12_blame_120_w1 (G120_8 := g120_8) hS.1 (k125_120_8) 1 (by omega) p5_1 (by and_intros <;> omega))) ?_
                rintro M128 _ ⟨h128, s128_120_8, es128_120_8, bs128_120_8, rfl, z128_0⟩
                have hS := St.tr hS h128 (by decide) (by decide)
                refine Tr.sc [] rfl ?_
                refine Tr.pick [0, 1, 2, 3] (ls2 := [(0, (2, 120)), (1, (0, p5_1)), (2, (0, r71)), (3, (0, r81))]) rfl ?_
                have jr131_0 : rd M128 121 p5_1 = r70 := ((ka_X12_blame_120_w1_121 h128 _).trans k125_121_p5_110)
                have jr131_1 : rd M128 121 p5_1 = r70 := ((ka_X12_blame_120_w1_121 h128 _).trans k125_121_p5_110)
                exact J131 _ _ _ hS (by and_intros <;> omega) (by and_intros <;> omega) ((kp_X12_blame_120_w1_120_2 h128).trans k125_120_2) ((kp_X12_blame_120_w1_120_3 h128).trans k125_120_3) ((kp_X12_blame_120_w1_120_4 h128).trans k125_120_4) ((kp_X12_blame_120_w1_120_5 h128).trans k125_120_5) ((kp_X12_blame_120_w1_120_7 h128).trans k125_120_7) es128_120_8 ((ka_X12_blame_120_w1_121 h128 _).trans k125_121_p5_110) ((tav_of ((kp_X12_blame_120_w1_120_5 h128).trans rfl) ((kp_X12_blame_120_w1_120_3 h128).trans rfl)).trans k125_9010_0) (by omega) (by omega) (by exact (hd_o z128_0).elim (fun h1 => by omega) (fun h1 => by omega)) (by first | exact (hd_o wr71) | exact (hd_o wr71).elim (fun h1 => by omega) (fun h1 => by omega)) (by first | exact (hd_o wr81) | exact (hd_o wr81).elim (fun h1 => by omega) (fun h1 => by omega))
              refine Tr.if_ne (pc := 108) (tgt := 125) d_X12_next_108 rfl (fun c108 => ?_) (fun c108 => ?_)
              · have c108b : 1 ≤ r105 ∧ r105 ≤ 1 := by omega
                replace c108 := hd_i c108
                refine Tr.pick [0, 1, 2, 3] (ls2 := [(0, (2, 120)), (1, (0, p5_1)), (2, (0, r71)), (3, (0, r81))]) rfl ?_
                have jr125_0 : rd M105 121 p5_1 = r70 := ((ka_X12_isLetter_121 h105 _).trans k93_121_p5_110)
                have jr125_1 : rd M105 121 p5_1 = r70 := ((ka_X12_isLetter_121 h105 _).trans k93_121_p5_110)
                exact J125 _ hS ((kp_X12_isLetter_120_2 h105).trans k93_120_2) ((kp_X12_isLetter_120_3 h105).trans k93_120_3) ((kp_X12_isLetter_120_4 h105).trans k93_120_4) ((kp_X12_isLetter_120_5 h105).trans k93_120_5) ((kp_X12_isLetter_120_7 h105).trans k93_120_7) ((kp_X12_isLetter_120_8 h105).trans k93_120_8) ((ka_X12_isLetter_121 h105 _).trans er104) ((ka_X12_isLetter_121 h105 _).trans k93_121_p5_110) ((tav_of ((kp_X12_isLetter_120_5 h105).trans rfl) ((kp_X12_isLetter_120_3 h105).trans rfl)).trans k93_9010_0) (by omega) (by omega) (by first | exact (hd_o t93_2) | exact (hd_o t93_2).elim (fun h1 => by omega) (fun h1 => by omega)) (by first | exact (hd_o wr71) | exact (hd_o wr71).elim (fun h1 => by omega) (fun h1 => by omega)) (by first | exact (hd_o wr81) | exact (hd_o wr81).elim (fun h1 => by omega) (fun h1 => by omega))
              · refine Tr.aload_n (pc := 111) (i := 0) d_X12_next_111 rfl rfl ?_
                refine Tr.getf (pc := 112) d_X12_next_112 f_12_7 (by decide) (by decide) (ty_120 hS.1.1) ?_
                refine Tr.tp 121 (fx_120_0 hS.1.1) ?_
                refine Tr.iload_n (pc := 115) (i := 1) d_X12_next_115 rfl rfl ?_
                refine Tr.iconst (pc := 116) d_X12_next_116 (by decide) ?_
                refine Tr.isub (pc := 117) d_X12_next_117 ?_
                refine Tr.tp (p5_1 - 1) ((w32_id (by and_intros <;> omega)).trans (by omega)) ?_
                refine Tr.iald (pc := 118) d_X12_next_118 (ty_121 hS.1.1) (by omega) (by omega) ?_
                refine Tr.tp r104 ((ka_X12_isLetter_121 h105 _).trans er104) ?_
                refine Tr.callS (pc := 119) (as := [_]) d_X12_next_119 s_12_386 ok_X12_isDigit rfl rfl (Nat.le_of_ble_eq_true rfl) (Nat.le_of_ble_eq_true rfl) ?_
                refine Tr.imp (Tr.deep (by decide) (sp_X12_isDigit hS.1.wk r104 (by and_intros <;> omega))) ?_
                rintro M119 _ ⟨h119, r119, rfl, lr119, ur119, wr119⟩
                have h119 := St.rn h119 (Pm0.of hS.1.2.2.2.2 (fun _ => (ka_X12_isDigit_131 h119 _)) (fun _ => (ka_X12_isDigit_137 h119 _)) (fun _ => (ka_X12_isDigit_138 h119 _)) (fun _ => (ka_X12_isDigit_139 h119 _)) (fun _ => (ka_X12_isDigit_140 h119 _)) (fun _ => (ka_X12_isDigit_141 h119 _)) (fun _ => (ka_X12_isDigit_142 h119 _)) (fun _ => (ka_X12_isDigit_143 h119 _)) (fun _ => (ka_X12_isDigit_151 h119 _)) (fun _ => (ka_X12_isDigit_152 h119 _)) (kp_X12_isDigit_126_0 h119) (kp_X12_isDigit_126_1 h119) (kp_X12_isDigit_136_0 h119) (kp_X12_isDigit_136_1 h119) (kp_X12_isDigit_123_0 h119) (kp_X12_isDigit_123_1 h119) (kp_X12_isDigit_124_0 h119) (kp_X12_isDigit_124_1 h119) (kp_X12_isDigit_120_8 h119) (kp_X12_isDigit_120_36 h119) (kp_X12_isDigit_120_50 h119))
                have hS := St.tr hS h119 (by decide) (by decide)
                replace wr119 := hd_i wr119
                refine Tr.sc [(0, r119)] rfl ?_
                refine Tr.if_eq (pc := 122) (tgt := 131) d_X12_next_122 rfl (fun c122 => ?_) (fun c122 => ?_)
                · refine Tr.pick [0, 1, 2, 3] (ls2 := [(0, (2, 120)), (1, (0, p5_1)), (2, (0, r71)), (3, (0, r81))]) rfl ?_
                  have jr131_0 : rd M119 121 p5_1 = r70 := ((ka_X12_isDigit_121 h119 _).trans ((ka_X12_isLetter_121 h105 _).trans k93_121_p5_110))
                  have jr131_1 : rd M119 121 p5_1 = r70 := ((ka_X12_isDigit_121 h119 _).trans ((ka_X12_isLetter_121 h105 _).trans k93_121_p5_110))
                  exact J131 _ _ _ hS (by and_intros <;> omega) (by and_intros <;> omega) ((kp_X12_isDigit_120_2 h119).trans ((kp_X12_isLetter_120_2 h105).trans k93_120_2)) ((kp_X12_isDigit_120_3 h119).trans ((kp_X12_isLetter_120_3 h105).trans k93_120_3)) ((kp_X12_isDigit_120_4 h119).trans ((kp_X12_isLetter_120_4 h105).trans k93_120_4)) ((kp_X12_isDigit_120_5 h119).trans ((kp_X12_isLetter_120_5 h105).trans k93_120_5)) ((kp_X12_isDigit_120_7 h119).trans ((kp_X12_isLetter_120_7 h105).trans k93_120_7)) ((kp_X12_isDigit_120_8 h119).trans ((kp_X12_isLetter_120_8 h105).trans k93_120_8)) ((ka_X12_isDigit_121 h119 _).trans ((ka_X12_isLetter_121 h105 _).trans k93_121_p5_110)) ((tav_of ((kp_X12_isDigit_120_5 h119).trans ((kp_X12_isLetter_120_5 h105).trans rfl)) ((kp_X12_isDigit_120_3 h119).trans ((kp_X12_isLetter_120_3 h105).trans rfl))).trans k93_9010_0) (by omega) (by omega) (by first | exact (hd_o t93_2) | exact (hd_o t93_2).elim (fun h1 => by omega) (fun h1 => by omega)) (by first | exact (hd_o wr71) | exact (hd_o wr71).elim (fun h1 => by omega) (fun h1 => by omega)) (by first | exact (hd_o wr81) | exact (hd_o wr81).elim (fun h1 => by omega) (fun h1 => by omega))
                · have c122b : 1 ≤ r119 ∧ r119 ≤ 1 := by omega
                  replace c122 := hd_i c122
                  refine Tr.pick [0, 1, 2, 3] (ls2 := [(0, (2, 120)), (1, (0, p5_1)), (2, (0, r71)), (3, (0, r81))]) rfl ?_
                  have jr125_0 : rd M119 121 p5_1 = r70 := ((ka_X12_isDigit_121 h119 _).trans ((ka_X12_isLetter_121 h105 _).trans k93_121_p5_110))
                  have jr125_1 : rd M119 121 p5_1 = r70 := ((ka_X12_isDigit_121 h119 _).trans ((ka_X12_isLetter_121 h105 _).trans k93_121_p5_110))
                  exact J125 _ hS ((kp_X12_isDigit_120_2 h119).trans ((kp_X12_isLetter_120_2 h105).trans k93_120_2)) ((kp_X12_isDigit_120_3 h119).trans ((kp_X12_isLetter_120_3 h105).trans k93_120_3)) ((kp_X12_isDigit_120_4 h119).trans ((kp_X12_isLetter_120_4 h105).trans k93_120_4)) ((kp_X12_isDigit_120_5 h119).trans ((kp_X12_isLetter_120_5 h105).trans k93_120_5)) ((kp_X12_isDigit_120_7 h119).trans ((kp_X12_isLetter_120_7 h105).trans k93_120_7)) ((kp_X12_isDigit_120_8 h119).trans ((kp_X12_isLetter_120_8 h105).trans k93_120_8)) ((ka_X12_isDigit_121 h119 _).trans ((ka_X12_isLetter_121 h105 _).trans er104)) ((ka_X12_isDigit_121 h119 _).trans ((ka_X12_isLetter_121 h105 _).trans k93_121_p5_110)) ((tav_of ((kp_X12_isDigit_120_5 h119).trans ((kp_X12_isLetter_120_5 h105).trans rfl)) ((kp_X12_isDigit_120_3 h119).trans ((kp_X12_isLetter_120_3 h105).trans rfl))).trans k93_9010_0) (by omega) (by omega) (by first | exact (hd_o t93_2) | exact (hd_o t93_2).elim (fun h1 => by omega) (fun h1 => by omega)) (by first | exact (hd_o wr71) | exact (hd_o wr71).elim (fun h1 => by omega) (fun h1 => by omega)) (by first | exact (hd_o wr81) | exact (hd_o wr81).elim (fun h1 => by omega) (fun h1 => by omega))
          refine Tr.if_ne (pc := 86) (tgt := 93) d_X12_next_86 rfl (fun c86 => ?_) (fun c86 => ?_)
          · have c86b : 1 ≤ r71 ∧ r71 ≤ 1 := by omega
            replace c86 := hd_i c86
            refine Tr.pick [2, 3, 1, 0] (ls2 := [(0, (2, 120)), (1, (0, p5_1)), (2, (0, r71)), (3, (0, r81))]) rfl ?_
            obtain ⟨w93p86_9010_0, ew93p86_9010_0⟩ : ∃ v, tav M81 = v := ⟨_, rfl⟩
            have bw93p86_9010_0 : (-1) ≤ w93p86_9010_0 ∧ w93p86_9010_0 ≤ 1800 := by rw [← ew93p86_9010_0]; exact (tav_b hS.1.2.1)
            have jr93_0 : rd M81 121 p5_1 = r70 := ((ka_X12_isDigit_121 h81 _).trans ((ka_X12_isLetter_121 h71 _).trans er70))
            have jr93_1 : rd M81 121 p5_1 = r70 := ((ka_X12_isDigit_121 h81 _).trans ((ka_X12_isLetter_121 h71 _).trans er70))
            exact J93 _ _ hS (by and_intros <;> omega) ((kp_X12_isDigit_120_2 h81).trans ((kp_X12_isLetter_120_2 h71).trans ((Wr.b w53 rfl).trans ((Wr.b w48 rfl).trans ((Wr.b w43 rfl).trans k41_120_2))))) ((kp_X12_isDigit_120_3 h81).trans ((kp_X12_isLetter_120_3 h71).trans w53.1)) ((kp_X12_isDigit_120_4 h81).trans ((kp_X12_isLetter_120_4 h71).trans ((Wr.b w53 rfl).trans ((Wr.b w48 rfl).trans w43.1)))) ((kp_X12_isDigit_120_5 h81).trans ((kp_X12_isLetter_120_5 h71).trans ((Wr.b w53 rfl).trans w48.1))) ((kp_X12_isDigit_120_7 h81).trans ((kp_X12_isLetter_120_7 h71).trans ((Wr.b w53 rfl).trans ((Wr.b w48 rfl).trans ((Wr.b w43 rfl).trans k41_120_7))))) ((kp_X12_isDigit_120_8 h81).trans ((kp_X12_isLetter_120_8 h71).trans ((Wr.b w53 rfl).trans ((Wr.b w48 rfl).trans ((Wr.b w43 rfl).trans k41_120_8))))) ((ka_X12_isDigit_121 h81 _).trans ((ka_X12_isLetter_121 h71 _).trans er70)) ew93p86_9010_0 (by omega) (by omega) (by omega) (by first | exact (hd_o wr71) | exact (hd_o wr71).elim (fun h1 => by omega) (fun h1 => by omega)) (by first | exact (hd_o wr81) | exact (hd_o wr81).elim (fun h1 => by omega) (fun h1 => by omega))
          · refine Tr.iload_n (pc := 89) (i := 3) d_X12_next_89 rfl rfl ?_
            refine Tr.if_eq (pc := 90) (tgt := 131) d_X12_next_90 rfl (fun c90 => ?_) (fun c90 => ?_)
            · refine Tr.pick [2, 3, 1, 0] (ls2 := [(0, (2, 120)), (1, (0, p5_1)), (2, (0, r71)), (3, (0, r81))]) rfl ?_
              obtain ⟨w131p90_9010_0, ew131p90_9010_0⟩ : ∃ v, tav M81 = v := ⟨_, rfl⟩
              have bw131p90_9010_0 : (-1) ≤ w131p90_9010_0 ∧ w131p90_9010_0 ≤ 1800 := by rw [← ew131p90_9010_0]; exact (tav_b hS.1.2.1)
              have jr131_0 : rd M81 121 p5_1 = r70 := ((ka_X12_isDigit_121 h81 _).trans ((ka_X12_isLetter_121 h71 _).trans er70))
              have jr131_1 : rd M81 121 p5_1 = r70 := ((ka_X12_isDigit_121 h81 _).trans ((ka_X12_isLetter_121 h71 _).trans er70))
              exact J131 _ _ _ hS (by and_intros <;> omega) (by and_intros <;> omega) ((kp_X12_isDigit_120_2 h81).trans ((kp_X12_isLetter_120_2 h71).trans ((Wr.b w53 rfl).trans ((Wr.b w48 rfl).trans ((Wr.b w43 rfl).trans k41_120_2))))) ((kp_X12_isDigit_120_3 h81).trans ((kp_X12_isLetter_120_3 h71).trans w53.1)) ((kp_X12_isDigit_120_4 h81).trans ((kp_X12_isLetter_120_4 h71).trans ((Wr.b w53 rfl).trans ((Wr.b w48 rfl).trans w43.1)))) ((kp_X12_isDigit_120_5 h81).trans ((kp_X12_isLetter_120_5 h71).trans ((Wr.b w53 rfl).trans w48.1))) ((kp_X12_isDigit_120_7 h81).trans ((kp_X12_isLetter_120_7 h71).trans ((Wr.b w53 rfl).trans ((Wr.b w48 rfl).trans ((Wr.b w43 rfl).trans k41_120_7))))) ((kp_X12_isDigit_120_8 h81).trans ((kp_X12_isLetter_120_8 h71).trans ((Wr.b w53 rfl).trans ((Wr.b w48 rfl).trans ((Wr.b w43 rfl).trans k41_120_8))))) ((ka_X12_isDigit_121 h81 _).trans ((ka_X12_isLetter_121 h71 _).trans er70)) ew131p90_9010_0 (by omega) (by omega) (by omega) (by first | exact (hd_o wr71) | exact (hd_o wr71).elim (fun h1 => by omega) (fun h1 => by omega)) (by first | exact (hd_o wr81) | exact (hd_o wr81).elim (fun h1 => by omega) (fun h1 => by omega))
            · have c90b : 1 ≤ r81 ∧ r81 ≤ 1 := by omega
              replace c90 := hd_i c90
              refine Tr.pick [2, 3, 1, 0] (ls2 := [(0, (2, 120)), (1, (0, p5_1)), (2, (0, r71)), (3, (0, r81))]) rfl ?_
              obtain ⟨w93p90_9010_0, ew93p90_9010_0⟩ : ∃ v, tav M81 = v := ⟨_, rfl⟩
              have bw93p90_9010_0 : (-1) ≤ w93p90_9010_0 ∧ w93p90_9010_0 ≤ 1800 := by rw [← ew93p90_9010_0]; exact (tav_b hS.1.2.1)
              have jr93_0 : rd M81 121 p5_1 = r70 := ((ka_X12_isDigit_121 h81 _).trans ((ka_X12_isLetter_121 h71 _).trans er70))
              have jr93_1 : rd M81 121 p5_1 = r70 := ((ka_X12_isDigit_121 h81 _).trans ((ka_X12_isLetter_121 h71 _).trans er70))
              exact J93 _ _ hS (by and_intros <;> omega) ((kp_X12_isDigit_120_2 h81).trans ((kp_X12_isLetter_120_2 h71).trans ((Wr.b w53 rfl).trans ((Wr.b w48 rfl).trans ((Wr.b w43 rfl).trans k41_120_2))))) ((kp_X12_isDigit_120_3 h81).trans ((kp_X12_isLetter_120_3 h71).trans w53.1)) ((kp_X12_isDigit_120_4 h81).trans ((kp_X12_isLetter_120_4 h71).trans ((Wr.b w53 rfl).trans ((Wr.b w48 rfl).trans w43.1)))) ((kp_X12_isDigit_120_5 h81).trans ((kp_X12_isLetter_120_5 h71).trans ((Wr.b w53 rfl).trans w48.1))) ((kp_X12_isDigit_120_7 h81).trans ((kp_X12_isLetter_120_7 h71).trans ((Wr.b w53 rfl).trans ((Wr.b w48 rfl).trans ((Wr.b w43 rfl).trans k41_120_7))))) ((kp_X12_isDigit_120_8 h81).trans ((kp_X12_isLetter_120_8 h71).trans ((Wr.b w53 rfl).trans ((Wr.b w48 rfl).trans ((Wr.b w43 rfl).trans k41_120_8))))) ((ka_X12_isDigit_121 h81 _).trans ((ka_X12_isLetter_121 h71 _).trans er70)) ew93p90_9010_0 (by omega) (by omega) (by omega) (by first | exact (hd_o wr71) | exact (hd_o wr71).elim (fun h1 => by omega) (fun h1 => by omega)) (by first | exact (hd_o wr81) | exact (hd_o wr81).elim (fun h1 => by omega) (fun h1 => by omega))
        · obtain ⟨w64_9010_0, ew64_9010_0⟩ : ∃ v, tav M53 = v := ⟨_, rfl⟩
          have bw64_9010_0 : (-1) ≤ w64_9010_0 ∧ w64_9010_0 ≤ 1800 := by rw [← ew64_9010_0]; exact (tav_b hS.1.2.1)
          have jt := tav_c (((Wr.b w53 rfl).trans w48.1)) (w53.1)
          rw [ew64_9010_0] at jt
          replace jt := hd_i jt
          have kr_120_3 : rd M53 120 3 = 0 := w53.1
          have kr_120_4 : rd M53 120 4 = p5_1 := ((Wr.b w53 rfl).trans ((Wr.b w48 rfl).trans w43.1))
          have kr_120_5 : rd M53 120 5 = p5_1 := ((Wr.b w53 rfl).trans w48.1)
          have kr_120_7 : rd M53 120 7 = g120_7 := ((Wr.b w53 rfl).trans ((Wr.b w48 rfl).trans ((Wr.b w43 rfl).trans k41_120_7)))
          have kr_120_8 : rd M53 120 8 = g120_8 := ((Wr.b w53 rfl).trans ((Wr.b w48 rfl).trans ((Wr.b w43 rfl).trans k41_120_8)))
          have kr_9010_0 : tav M53 = w64_9010_0 := ew64_9010_0
          exact Tr.vret (pc := 64) d_X12_next_64 rfl ⟨hS, rfl, (by omega), (by omega), (by omega), (by omega), (by exact (hd_o jt).elim (fun h1 => (hd_o jt0).elim (fun h2 => by omega) (fun h2 => by omega)) (fun h1 => (ne_o h1.1).elim (fun h2 => by omega) (fun h2 => by omega))), (by exact (hd_o jt0).elim (fun h1 => by omega) (fun h1 => (hd_o jt).elim (fun h2 => by omega) (fun h2 => (ne_o h2.1).elim (fun h3 => by omega) (fun h3 => by omega)))), (by omega)⟩
      refine Tr.icmp_ge (pc := 10) (tgt := 41) d_X12_next_10 rfl (fun c10 => ?_) (fun c10 => ?_)
      · refine Tr.pick [0, 1] (ls2 := [(0, (2, 120)), (1, (0, p5_1))]) rfl ?_
        exact J41 _ hS er7 k5_120_3 k5_120_4 k5_120_5 k5_120_7 k5_120_8 k5_9010_0 (by and_intros <;> omega)
      · refine Tr.aload_n (pc := 13) (i := 0) d_X12_next_13 rfl rfl ?_
        refine Tr.getf (pc := 14) d_X12_next_14 f_12_7 (by decide) (by decide) (ty_120 hS.1.1) ?_
        refine Tr.tp 121 (fx_120_0 hS.1.1) ?_
        refine Tr.iload_n (pc := 17) (i := 1) d_X12_next_17 rfl rfl ?_
        refine Tr.iald (pc := 18) d_X12_next_18 (ty_121 hS.1.1) (by omega) (by omega) ?_
        refine Tr.gen (P := fun v => (-2147483648) ≤ v ∧ v ≤ 2147483647) (ar_121 hS.1.2.1 _) (fun r18 er18 br18 => ?_)
        refine Tr.bipush (pc := 19) d_X12_next_19 rfl (by decide) ?_
        have J35 : ∀ (M : Mem), St Pm0 ws_X12_next_120_w1 as_X12_next_120_w1 M0 M → (10 ≤ r18 ∧ r18 ≤ 32) → rd M 120 2 = r7 → rd M 120 3 = g120_3 → rd M 120 4 = g120_4 → rd M 120 5 = g120_5 → rd M 120 7 = g120_7 → rd M 120 8 = g120_8 → rd M 121 p5_1 = r18 → tav M = g9010_0 → (g120_5 ≤ p5_1 ∧ g120_8 = g120_8) → Tr l K 1 mX12_next 35 [(0, (2, 120)), (1, (0, p5_1))] [] M (q_X12_next_120_w1 M0) := by
          intro M  hS z35r18 k35_120_2 k35_120_3 k35_120_4 k35_120_5 k35_120_7 k35_120_8 k35_121_p5_110 k35_9010_0 t35_0
          clear k5_120_3 k5_120_4 k5_120_5 k5_120_7 k5_120_8 k5_9010_0 er7 er18
          refine Tr.iincV (pc := 35) (n2 := (p5_1 + 1)) (ls2 := [(1, (0, (p5_1 + 1))), (0, (2, 120))]) d_X12_next_35 rfl (by decide) ((w32_id (by and_intros <;> omega)).trans (by omega)) rfl ?_
          refine Tr.goto (pc := 38) (tgt := 5) d_X12_next_38 rfl ?_
          refine Tr.pick [1, 0] (ls2 := [(0, (2, 120)), (1, (0, (p5_1 + 1)))]) rfl ?_
          exact J5 _ _ hS (by and_intros <;> omega) k35_120_3 k35_120_4 k35_120_5 k35_120_7 k35_120_8 k35_9010_0 (by and_intros <;> omega) (me_lt hm5 (by omega) (by omega))
        refine Tr.icmp_eq (pc := 21) (tgt := 35) d_X12_next_21 rfl (fun c21 => ?_) (fun c21 => ?_)
        · refine Tr.pick [0, 1] (ls2 := [(0, (2, 120)), (1, (0, p5_1))]) rfl ?_
          exact J35 _ hS (by and_intros <;> omega) er7 k5_120_3 k5_120_4 k5_120_5 k5_120_7 k5_120_8 er18 k5_9010_0 (by and_intros <;> omega)
        · replace c21 := hd_i c21
          refine Tr.aload_n (pc := 24) (i := 0) d_X12_next_24 rfl rfl ?_
          refine Tr.getf (pc := 25) d_X12_next_25 f_12_7 (by decide) (by decide) (ty_120 hS.1.1) ?_
          refine Tr.tp 121 (fx_120_0 hS.1.1) ?_
          refine Tr.iload_n (pc := 28) (i := 1) d_X12_next_28 rfl rfl ?_
          refine Tr.iald (pc := 29) d_X12_next_29 (ty_121 hS.1.1) (by omega) (by omega) ?_
          refine Tr.tp r18 er18 ?_
          refine Tr.bipush (pc := 30) d_X12_next_30 rfl (by decide) ?_
          refine Tr.icmp_ne (pc := 32) (tgt := 41) d_X12_next_32 rfl (fun c32 => ?_) (fun c32 => ?_)
          · replace c32 := hd_i c32
            refine Tr.pick [0, 1] (ls2 := [(0, (2, 120)), (1, (0, p5_1))]) rfl ?_
            exact J41 _ hS er7 k5_120_3 k5_120_4 k5_120_5 k5_120_7 k5_120_8 k5_9010_0 (by and_intros <;> omega)
          · refine Tr.pick [0, 1] (ls2 := [(0, (2, 120)), (1, (0, p5_1))]) rfl ?_
            exact J35 _ hS (by and_intros <;> omega) er7 k5_120_3 k5_120_4 k5_120_5 k5_120_7 k5_120_8 er18 k5_9010_0 (by and_intros <;> omega)
  refine Tr.pick [1, 0] (ls2 := [(0, (2, 120)), (1, (0, g120_5))]) rfl ?_
  exact J5 _ _ _ hS (by and_intros <;> omega) eg120_3 eg120_4 eg120_5 eg120_7 eg120_8 eg9010_0 (by and_intros <;> omega) (Nat.lt_succ_self _)

set_option maxRecDepth 100000 in
set_option maxHeartbeats 4000000 in
theorem ns_X12_next_120_w1 {l : Launch} {K : EC} {M0 : Mem} {G120_3 G120_5 G120_8 G9010_0 : Int} (hI : In Pm0 M0) (k120_3 : rd M0 120 3 = G120_3) (k120_5 : rd M0 120 5 = G120_5) (k120_8 : rd M0 120 8 = G120_8) (k9010_0 : tav M0 = G9010_0)    : Tr l K 1 mX12_next 0 [(0, (2, 120))] [] M0 (fun M' r => St Pm0 ws_X12_next_120_w1 as_X12_next_120_w1 M0 M' ∧ ∃ S120_3 S120_4 S120_5 S120_7 S120_8 S9010_0 : Int, rd M' 120 3 = S120_3 ∧ (0 ≤ S120_3 ∧ S120_3 ≤ 3) ∧ rd M' 120 4 = S120_4 ∧ (0 ≤ S120_4 ∧ S120_4 ≤ 900) ∧ rd M' 120 5 = S120_5 ∧ (0 ≤ S120_5 ∧ S120_5 ≤ 900) ∧ rd M' 120 7 = S120_7 ∧ ((-9223372036854775808) ≤ S120_7 ∧ S120_7 ≤ 9223372036854775807) ∧ rd M' 120 8 = S120_8 ∧ (0 ≤ S120_8 ∧ S120_8 ≤ 5) ∧ tav M' = S9010_0 ∧ ((-1) ≤ S9010_0 ∧ S9010_0 ≤ 1800) ∧ r = none ∧ Hd (S120_3 = 0 ∨ S120_4 + 1 ≤ S120_5) ∧ (S120_4 ≤ S120_5) ∧ Hd (S120_3 ≠ 1 ∨ S120_4 + 2 ≤ S120_5 ∨ S120_7 < 256) ∧ (G120_5 ≤ S120_4) ∧ (G9010_0 ≤ S9010_0) ∧ Hd (G120_3 = 0 ∨ G9010_0 < S9010_0) ∧ Hd (G120_8 = 0 ∨ S120_8 = G120_8)) := by
  subst k120_3
  subst k120_5
  subst k120_8
  subst k9010_0
  refine Tr.imp (sp_X12_next_120_w1 hI ) ?_
  rintro M' _ ⟨hS, rfl, z0, z1, z2, z3, z4, z5, z6⟩
  exact ⟨hS, _, _, _, _, _, _, rfl, ir_120_3 hS.1.2.1, rfl, ir_120_4 hS.1.2.1, rfl, ir_120_5 hS.1.2.1, rfl, ir_120_7 hS.1.2.1, rfl, ir_120_8 hS.1.2.1, rfl, (tav_b hS.1.2.1), rfl, hd_i z0, z1, hd_i z2, z3, z4, hd_i z5, hd_i z6⟩

def ws_X12_counts_120_w1 : List (Int × Int) := [(120, 3), (120, 4), (120, 5), (120, 6), (120, 7), (120, 8), (120, 9)]
def as_X12_counts_120_w1 : List Int := []
def q_X12_counts_120_w1 (a1 : Int) (M0 M' : Mem) (r : Option PV) : Prop := St Pm0 ws_X12_counts_120_w1 as_X12_counts_120_w1 M0 M' ∧ r = none ∧ (rd M' 120 3 = 0 ∨ rd M' 120 4 + 1 ≤ rd M' 120 5) ∧ (rd M' 120 4 ≤ rd M' 120 5) ∧ (rd M' 120 3 ≠ 1 ∨ rd M' 120 4 + 2 ≤ rd M' 120 5 ∨ rd M' 120 7 < 256) ∧ (rd M0 120 4 ≤ rd M' 120 4 ∧ rd M0 120 5 ≤ rd M' 120 5 ∧ tav M0 ≤ tav M') ∧ (rd M0 120 8 = 0 ∨ rd M' 120 8 = rd M0 120 8) ∧ (1 ≤ rd M' 120 8 ∨ tav M0 < tav M') ∧ (a1 = 0 ∨ 1 ≤ rd M' 120 8)
set_option maxRecDepth 100000 in
set_option maxHeartbeats 4000000 in
theorem sp_X12_counts_120_w1 {l : Launch} {K : EC} {M0 : Mem} (hI : In Pm0 M0)  (a1 : Int) (ha1 : 0 ≤ a1 ∧ a1 ≤ 1)  (hq0 : rd M0 120 3 = 0 ∨ rd M0 120 4 + 1 ≤ rd M0 120 5) (hq1 : rd M0 120 4 ≤ rd M0 120 5) (hq2 : rd M0 120 3 ≠ 1 ∨ rd M0 120 4 + 2 ≤ rd M0 120 5 ∨ rd M0 120 7 < 256) (hq3 : rd M0 120 3 ≠ 0) : Tr l K 2 mX12_counts 0 [(0, (2, 120)), (1, (0, a1))] [] M0 (q_X12_counts_120_w1 a1 M0) := by
  have hS : St Pm0 ws_X12_counts_120_w1 as_X12_counts_120_w1 M0 M0 := St.rf hI
  obtain ⟨g120_8, eg120_8⟩ : ∃ v, rd M0 120 8 = v := ⟨_, rfl⟩
  have bg120_8 : 0 ≤ g120_8 ∧ g120_8 ≤ 5 := by rw [← eg120_8]; exact ir_120_8 hI.2.1
  obtain ⟨g120_3, eg120_3⟩ : ∃ v, rd M0 120 3 = v := ⟨_, rfl⟩
  have bg120_3 : 0 ≤ g120_3 ∧ g120_3 ≤ 3 := by rw [← eg120_3]; exact ir_120_3 hI.2.1
  obtain ⟨g120_4, eg120_4⟩ : ∃ v, rd M0 120 4 = v := ⟨_, rfl⟩
  have bg120_4 : 0 ≤ g120_4 ∧ g120_4 ≤ 900 := by rw [← eg120_4]; exact ir_120_4 hI.2.1
  obtain ⟨g120_5, eg120_5⟩ : ∃ v, rd M0 120 5 = v := ⟨_, rfl⟩
  have bg120_5 : 0 ≤ g120_5 ∧ g120_5 ≤ 900 := by rw [← eg120_5]; exact ir_120_5 hI.2.1
  obtain ⟨g120_7, eg120_7⟩ : ∃ v, rd M0 120 7 = v := ⟨_, rfl⟩
  have bg120_7 : (-9223372036854775808) ≤ g120_7 ∧ g120_7 ≤ 9223372036854775807 := by rw [← eg120_7]; exact ir_120_7 hI.2.1
  obtain ⟨g9010_0, eg9010_0⟩ : ∃ v, tav M0 = v := ⟨_, rfl⟩
  have bg9010_0 : (-1) ≤ g9010_0 ∧ g9010_0 ≤ 1800 := by rw [← eg9010_0]; exact (tav_b hI.2.1)
  replace hq0 := hd_i hq0
  replace hq2 := hd_i hq2
  replace hq3 := hd_i hq3
  refine Tr.iload_n (pc := 0) (i := 1) d_X12_counts_0 rfl rfl ?_
  have J13 : ∀ (M : Mem) (u13_120_8 : Int), St Pm0 ws_X12_counts_120_w1 as_X12_counts_120_w1 M0 M → (0 ≤ u13_120_8 ∧ u13_120_8 ≤ 5) → rd M 120 3 = g120_3 → rd M 120 4 = g120_4 → rd M 120 5 = g120_5 → rd M 120 7 = g120_7 → rd M 120 8 = u13_120_8 → tav M = g9010_0 → (g120_8 = 0 ∨ u13_120_8 = g120_8) → (a1 = 0 ∨ 1 ≤ u13_120_8) → Tr l K 2 mX12_counts 13 [(0, (2, 120))] [] M (q_X12_counts_120_w1 a1 M0) := by
    intro M u13_120_8 hS bu13_120_8 k13_120_3 k13_120_4 k13_120_5 k13_120_7 k13_120_8 k13_9010_0 t13_0 t13_1
    replace t13_0 := hd_i t13_0
    replace t13_1 := hd_i t13_1
    refine Tr.aload_n (pc := 13) (i := 0) d_X12_counts_13 rfl rfl ?_
    refine Tr.getf (pc := 14) d_X12_counts_14 f_12_36 (by decide) (by decide) (ty_120 hS.1.1) ?_
    refine Tr.tp u13_120_8 k13_120_8 ?_
    refine Tr.if_ne (pc := 17) (tgt := 24) d_X12_counts_17 rfl (fun c17 => ?_) (fun c17 => ?_)
    · have c17b : 1 ≤ u13_120_8 ∧ u13_120_8 ≤ 5 := by omega
      replace c17 := hd_i c17
      have kr_120_3 : rd M 120 3 = g120_3 := k13_120_3
      have kr_120_4 : rd M 120 4 = g120_4 := k13_120_4
      have kr_120_5 : rd M 120 5 = g120_5 := k13_120_5
      have kr_120_7 : rd M 120 7 = g120_7 := k13_120_7
      have kr_120_8 : rd M 120 8 = u13_120_8 := k13_120_8
      have kr_9010_0 : tav M = g9010_0 := k13_9010_0
      exact Tr.vret (pc := 24) d_X12_counts_24 rfl ⟨hS, rfl, (by first | exact (hd_o hq0) | exact (hd_o hq0).elim (fun h1 => by omega) (fun h1 => by omega)), (by omega), (by first | exact (hd_o hq2) | exact (hd_o hq2).elim (fun h1 => by omega) (fun h1 => h1.elim (fun h1 => by omega) (fun h1 => by omega))), (by and_intros <;> omega), (by first | exact (hd_o t13_0) | exact (hd_o t13_0).elim (fun h1 => by omega) (fun h1 => by omega)), (by omega), (by first | exact (hd_o t13_1) | exact (hd_o t13_1).elim (fun h1 => by omega) (fun h1 => by omega))⟩
    · refine Tr.aload_n (pc := 20) (i := 0) d_X12_counts_20 rfl rfl ?_
      refine Tr.callV (pc := 21) (as := []) d_X12_counts_21 s_12_396 ok_X12_next rfl rfl (Nat.le_of_ble_eq_true rfl) (Nat.le_of_ble_eq_true rfl) (by decide) (ty_120 hS.1.1) ?_
      refine Tr.imp (Tr.deep (by decide) (ns_X12_next_120_w1 (G120_3 := g120_3) (G120_5 := g120_5) (G120_8 := u13_120_8) (G9010_0 := g9010_0) hS.1 (k13_120_3) (k13_120_5) (k13_120_8) (k13_9010_0))) ?_
      rintro M21 _ ⟨h21, s21_120_3, s21_120_4, s21_120_5, s21_120_7, s21_120_8, s21_9010_0, es21_120_3, bs21_120_3, es21_120_4, bs21_120_4, es21_120_5, bs21_120_5, es21_120_7, bs21_120_7, es21_120_8, bs21_120_8, es21_9010_0, bs21_9010_0, rfl, z21_0, z21_1, z21_2, z21_3, z21_4, z21_5, z21_6⟩
      have hS := St.tr hS h21 (by decide) (by decide)
      refine Tr.sc [] rfl ?_
      have kr_120_3 : rd M21 120 3 = s21_120_3 := es21_120_3
      have kr_120_4 : rd M21 120 4 = s21_120_4 := es21_120_4
      have kr_120_5 : rd M21 120 5 = s21_120_5 := es21_120_5
      have kr_120_7 : rd M21 120 7 = s21_120_7 := es21_120_7
      have kr_120_8 : rd M21 120 8 = s21_120_8 := es21_120_8
      have kr_9010_0 : tav M21 = s21_9010_0 := es21_9010_0
      exact Tr.vret (pc := 24) d_X12_counts_24 rfl ⟨hS, rfl, (by first | exact (hd_o z21_0) | exact (hd_o z21_0).elim (fun h1 => by omega) (fun h1 => by omega)), (by omega), (by first | exact (hd_o z21_2) | exact (hd_o z21_2).elim (fun h1 => by omega) (fun h1 => h1.elim (fun h1 => by omega) (fun h1 => by omega))), (by and_intros <;> omega), (by exact (hd_o t13_0).elim (fun h1 => by omega) (fun h1 => by omega)), (by exact (ne_o (hd_o hq3)).elim (fun h1 => by omega) (fun h1 => (hd_o z21_5).elim (fun h2 => by omega) (fun h2 => by omega))), (by exact (hd_o t13_1).elim (fun h1 => by omega) (fun h1 => by omega))⟩
  refine Tr.if_eq (pc := 1) (tgt := 13) d_X12_counts_1 rfl (fun c1 => ?_) (fun c1 => ?_)
  · refine Tr.pick [0] (ls2 := [(0, (2, 120))]) rfl ?_
    exact J13 _ _ hS (by and_intros <;> omega) eg120_3 eg120_4 eg120_5 eg120_7 eg120_8 eg9010_0 (by omega) (by omega)
  · have c1b : 1 ≤ a1 ∧ a1 ≤ 1 := by omega
    replace c1 := hd_i c1
    refine Tr.aload_n (pc := 4) (i := 0) d_X12_counts_4 rfl rfl ?_
    refine Tr.iconst (pc := 5) d_X12_counts_5 (by decide) ?_
    refine Tr.aload_n (pc := 6) (i := 0) d_X12_counts_6 rfl rfl ?_
    refine Tr.getf (pc := 7) d_X12_counts_7 f_12_23 (by decide) (by decide) (ty_120 hS.1.1) ?_
    refine Tr.tp g120_4 eg120_4 ?_
    refine Tr.callV (pc := 10) (as := [_, _]) d_X12_counts_10 s_12_389 ok_X12_blame rfl rfl (Nat.le_of_ble_eq_true rfl) (Nat.le_of_ble_eq_true rfl) (by decide) (ty_120 hS.1.1) ?_
    refine Tr.imp (Tr.deep (by decide) (ns_X12_blame_120_w1 (G120_8 := g120_8) hS.1 (eg120_8) 5 (by omega) g120_4 (by and_intros <;> omega))) ?_
    rintro M10 _ ⟨h10, s10_120_8, es10_120_8, bs10_120_8, rfl, z10_0⟩
    have hS := St.tr hS h10 (by decide) (by decide)
    refine Tr.sc [] rfl ?_
    refine Tr.pick [0] (ls2 := [(0, (2, 120))]) rfl ?_
    exact J13 _ _ hS (by and_intros <;> omega) ((kp_X12_blame_120_w1_120_3 h10).trans eg120_3) ((kp_X12_blame_120_w1_120_4 h10).trans eg120_4) ((kp_X12_blame_120_w1_120_5 h10).trans eg120_5) ((kp_X12_blame_120_w1_120_7 h10).trans eg120_7) es10_120_8 ((tav_of ((kp_X12_blame_120_w1_120_5 h10).trans rfl) ((kp_X12_blame_120_w1_120_3 h10).trans rfl)).trans eg9010_0) (by exact (hd_o z10_0).elim (fun h1 => by omega) (fun h1 => by omega)) (by exact (hd_o z10_0).elim (fun h1 => by omega) (fun h1 => by omega))

set_option maxRecDepth 100000 in
set_option maxHeartbeats 4000000 in
theorem ns_X12_counts_120_w1 {l : Launch} {K : EC} {M0 : Mem} {G120_3 G120_4 G120_5 G120_7 G120_8 G9010_0 : Int} (hI : In Pm0 M0) (k120_3 : rd M0 120 3 = G120_3) (k120_4 : rd M0 120 4 = G120_4) (k120_5 : rd M0 120 5 = G120_5) (k120_7 : rd M0 120 7 = G120_7) (k120_8 : rd M0 120 8 = G120_8) (k9010_0 : tav M0 = G9010_0)  (a1 : Int) (ha1 : 0 ≤ a1 ∧ a1 ≤ 1)  (hq0 : G120_3 = 0 ∨ G120_4 + 1 ≤ G120_5) (hq1 : G120_4 ≤ G120_5) (hq2 : G120_3 ≠ 1 ∨ G120_4 + 2 ≤ G120_5 ∨ G120_7 < 256) (hq3 : G120_3 ≠ 0) : Tr l K 2 mX12_counts 0 [(0, (2, 120)), (1, (0, a1))] [] M0 (fun M' r => St Pm0 ws_X12_counts_120_w1 as_X12_counts_120_w1 M0 M' ∧ ∃ S120_3 S120_4 S120_5 S120_7 S120_8 S9010_0 : Int, rd M' 120 3 = S120_3 ∧ (0 ≤ S120_3 ∧ S120_3 ≤ 3) ∧ rd M' 120 4 = S120_4 ∧ (0 ≤ S120_4 ∧ S120_4 ≤ 900) ∧ rd M' 120 5 = S120_5 ∧ (0 ≤ S120_5 ∧ S120_5 ≤ 900) ∧ rd M' 120 7 = S120_7 ∧ ((-9223372036854775808) ≤ S120_7 ∧ S120_7 ≤ 9223372036854775807) ∧ rd M' 120 8 = S120_8 ∧ (0 ≤ S120_8 ∧ S120_8 ≤ 5) ∧ tav M' = S9010_0 ∧ ((-1) ≤ S9010_0 ∧ S9010_0 ≤ 1800) ∧ r = none ∧ Hd (S120_3 = 0 ∨ S120_4 + 1 ≤ S120_5) ∧ (S120_4 ≤ S120_5) ∧ Hd (S120_3 ≠ 1 ∨ S120_4 + 2 ≤ S120_5 ∨ S120_7 < 256) ∧ (G120_4 ≤ S120_4 ∧ G120_5 ≤ S120_5 ∧ G9010_0 ≤ S9010_0) ∧ Hd (G120_8 = 0 ∨ S120_8 = G120_8) ∧ Hd (1 ≤ S120_8 ∨ G9010_0 < S9010_0) ∧ Hd (a1 = 0 ∨ 1 ≤ S120_8)) := by
  subst k120_3
  subst k120_4
  subst k120_5
  subst k120_7
  subst k120_8
  subst k9010_0
  refine Tr.imp (sp_X12_counts_120_w1 hI a1 ha1 hq0 hq1 hq2 hq3) ?_
  rintro M' _ ⟨hS, rfl, z0, z1, z2, z3, z4, z5, z6⟩
  exact ⟨hS, _, _, _, _, _, _, rfl, ir_120_3 hS.1.2.1, rfl, ir_120_4 hS.1.2.1, rfl, ir_120_5 hS.1.2.1, rfl, ir_120_7 hS.1.2.1, rfl, ir_120_8 hS.1.2.1, rfl, (tav_b hS.1.2.1), rfl, hd_i z0, z1, hd_i z2, z3, hd_i z4, hd_i z5, hd_i z6⟩

def ws_X12_partOf_120_w1 : List (Int × Int) := []
def as_X12_partOf_120_w1 : List Int := []
def q_X12_partOf_120_w1 (M0 M' : Mem) (r : Option PV) : Prop := St Tru ws_X12_partOf_120_w1 as_X12_partOf_120_w1 M0 M' ∧ ∃ v : Int, r = some (0, v) ∧ (-1) ≤ v ∧ v ≤ 5
set_option maxRecDepth 100000 in
set_option maxHeartbeats 4000000 in
theorem sp_X12_partOf_120_w1 {l : Launch} {K : EC} {M0 : Mem} (hI : In Tru M0) (en_120_37 : rd M0 120 37 = 0) (a1 : Int) (ha1 : (-9223372036854775808) ≤ a1 ∧ a1 ≤ 9223372036854775807)  : Tr l K 0 mX12_partOf 0 [(0, (2, 120)), (1, (1, a1))] [] M0 (q_X12_partOf_120_w1 M0) := by
  have hS : St Tru ws_X12_partOf_120_w1 as_X12_partOf_120_w1 M0 M0 := St.rf hI
  refine Tr.iconst (pc := 0) d_X12_partOf_0 (by decide) ?_
  refine Tr.istore_n (pc := 1) (i := 3) (ls2 := [(3, (0, 0)), (0, (2, 120)), (1, (1, a1))]) d_X12_partOf_1 rfl (by decide) rfl ?_
  have J2 : ∀ (n2 : Nat) (M : Mem) (p2_3 : Int), St Tru ws_X12_partOf_120_w1 as_X12_partOf_120_w1 M0 M → (0 ≤ p2_3 ∧ p2_3 ≤ 6) → (6 - p2_3).toNat < n2 → Tr l K 0 mX12_partOf 2 [(0, (2, 120)), (1, (1, a1)), (3, (0, p2_3))] [] M (q_X12_partOf_120_w1 M0) := by
    intro n2
    induction n2 with
    | zero => intro M p2_3 hS bp2_3  hm2; exact absurd hm2 (Nat.not_lt_zero _)
    | succ n2 J2 =>
      intro M p2_3 hS bp2_3  hm2
      refine Tr.iload_n (pc := 2) (i := 3) d_X12_partOf_2 rfl rfl ?_
      refine Tr.aload_n (pc := 3) (i := 0) d_X12_partOf_3 rfl rfl ?_
      refine Tr.getf (pc := 4) d_X12_partOf_4 f_12_63 (by decide) (by decide) (ty_120 hS.1.1) ?_
      refine Tr.tp 126 (fx_120_17 hS.1.1) ?_
      refine Tr.aload_n (pc := 7) (i := 0) d_X12_partOf_7 rfl rfl ?_
      refine Tr.getf (pc := 8) d_X12_partOf_8 f_12_124 (by decide) (by decide) (ty_120 hS.1.1) ?_
      refine Tr.tp 0 ((St.kp hS (by decide) (by decide) (by decide)).trans en_120_37) ?_
      refine Tr.iald (pc := 11) d_X12_partOf_11 (ty_126 hS.1.1) (by omega) (by omega) ?_
      refine Tr.gen (P := fun v => 0 ≤ v ∧ v ≤ 6) (ir_126_0 hS.1.2.1) (fun r11 er11 br11 => ?_)
      refine Tr.icmp_ge (pc := 12) (tgt := 42) d_X12_partOf_12 rfl (fun c12 => ?_) (fun c12 => ?_)
      · refine Tr.iconst (pc := 42) d_X12_partOf_42 (by decide) ?_
        exact Tr.iret (pc := 43) d_X12_partOf_43 rfl ⟨hS, _, rfl, by omega, by omega⟩
      · refine Tr.aload_n (pc := 15) (i := 0) d_X12_partOf_15 rfl rfl ?_
        refine Tr.getf (pc := 16) d_X12_partOf_16 f_12_75 (by decide) (by decide) (ty_120 hS.1.1) ?_
        refine Tr.tp 130 (fx_120_21 hS.1.1) ?_
        refine Tr.bipush (pc := 19) d_X12_partOf_19 rfl (by decide) ?_
        refine Tr.aload_n (pc := 21) (i := 0) d_X12_partOf_21 rfl rfl ?_
        refine Tr.getf (pc := 22) d_X12_partOf_22 f_12_124 (by decide) (by decide) (ty_120 hS.1.1) ?_
        refine Tr.tp 0 ((St.kp hS (by decide) (by decide) (by decide)).trans en_120_37) ?_
        refine Tr.imul (pc := 25) d_X12_partOf_25 ?_
        refine Tr.tp 0 (by decide) ?_
        refine Tr.iload_n (pc := 26) (i := 3) d_X12_partOf_26 rfl rfl ?_
        refine Tr.iadd (pc := 27) d_X12_partOf_27 ?_
        refine Tr.tp p2_3 ((w32_id (by omega)).trans (by omega)) ?_
        refine Tr.lald (pc := 28) d_X12_partOf_28 (ty_130 hS.1.1) (by omega) (by omega) ?_
        refine Tr.gen (P := fun v => (-9223372036854775808) ≤ v ∧ v ≤ 9223372036854775807) (ar_130 hS.1.2.1 _) (fun r28 er28 br28 => ?_)
        refine Tr.lload_n (pc := 29) (i := 1) d_X12_partOf_29 rfl rfl ?_
        refine Tr.lcmp (pc := 30) d_X12_partOf_30 ?_
        refine Tr.gen (P := fun v => (v = 1 ∧ a1 < r28) ∨ (v = 0 ∧ r28 = a1) ∨ (v = -1 ∧ r28 < a1)) (f_lcmp_c _ _) (fun r30 er30 br30 => ?_)
        refine Tr.if_ne (pc := 31) (tgt := 36) d_X12_partOf_31 rfl (fun c31 => ?_) (fun c31 => ?_)
        · refine Tr.iincV (pc := 36) (n2 := (p2_3 + 1)) (ls2 := [(3, (0, (p2_3 + 1))), (0, (2, 120)), (1, (1, a1))]) d_X12_partOf_36 rfl (by decide) ((w32_id (by omega)).trans (by omega)) rfl ?_
          refine Tr.goto (pc := 39) (tgt := 2) d_X12_partOf_39 rfl ?_
          refine Tr.pick [1, 2, 0] (ls2 := [(0, (2, 120)), (1, (1, a1)), (3, (0, (p2_3 + 1)))]) rfl ?_
          exact J2 _ _ hS (by omega) (by omega)
        · refine Tr.iload_n (pc := 34) (i := 3) d_X12_partOf_34 rfl rfl ?_
          exact Tr.iret (pc := 35) d_X12_partOf_35 rfl ⟨hS, _, rfl, by omega, by omega⟩
  refine Tr.pick [1, 2, 0] (ls2 := [(0, (2, 120)), (1, (1, a1)), (3, (0, 0))]) rfl ?_
  exact J2 _ _ _ hS (by omega) (Nat.lt_succ_self _)
end
/-! 40.08 -/
section
def ws_X12_inputOf_120_w1 : List (Int × Int) := []
def as_X12_inputOf_120_w1 : List Int := []
def q_X12_inputOf_120_w1 (M0 M' : Mem) (r : Option PV) : Prop := St Tru ws_X12_inputOf_120_w1 as_X12_inputOf_120_w1 M0 M' ∧ ∃ v : Int, r = some (0, v) ∧ (-1) ≤ v ∧ v ≤ 2
set_option maxRecDepth 100000 in
set_option maxHeartbeats 4000000 in
theorem sp_X12_inputOf_120_w1 {l : Launch} {K : EC} {M0 : Mem} (hI : In Tru M0) (en_120_37 : rd M0 120 37 = 0) (a1 : Int) (ha1 : (-9223372036854775808) ≤ a1 ∧ a1 ≤ 9223372036854775807)  : Tr l K 0 mX12_inputOf 0 [(0, (2, 120)), (1, (1, a1))] [] M0 (q_X12_inputOf_120_w1 M0) := by
  have hS : St Tru ws_X12_inputOf_120_w1 as_X12_inputOf_120_w1 M0 M0 := St.rf hI
  refine Tr.iconst (pc := 0) d_X12_inputOf_0 (by decide) ?_
  refine Tr.istore_n (pc := 1) (i := 3) (ls2 := [(3, (0, 0)), (0, (2, 120)), (1, (1, a1))]) d_X12_inputOf_1 rfl (by decide) rfl ?_
  have J2 : ∀ (n2 : Nat) (M : Mem) (p2_3 : Int), St Tru ws_X12_inputOf_120_w1 as_X12_inputOf_120_w1 M0 M → (0 ≤ p2_3 ∧ p2_3 ≤ 3) → (3 - p2_3).toNat < n2 → Tr l K 0 mX12_inputOf 2 [(0, (2, 120)), (1, (1, a1)), (3, (0, p2_3))] [] M (q_X12_inputOf_120_w1 M0) := by
    intro n2
    induction n2 with
    | zero => intro M p2_3 hS bp2_3  hm2; exact absurd hm2 (Nat.not_lt_zero _)
    | succ n2 J2 =>
      intro M p2_3 hS bp2_3  hm2
      refine Tr.iload_n (pc := 2) (i := 3) d_X12_inputOf_2 rfl rfl ?_
      refine Tr.aload_n (pc := 3) (i := 0) d_X12_inputOf_3 rfl rfl ?_
      refine Tr.getf (pc := 4) d_X12_inputOf_4 f_12_66 (by decide) (by decide) (ty_120 hS.1.1) ?_
      refine Tr.tp 127 (fx_120_18 hS.1.1) ?_
      refine Tr.aload_n (pc := 7) (i := 0) d_X12_inputOf_7 rfl rfl ?_
      refine Tr.getf (pc := 8) d_X12_inputOf_8 f_12_124 (by decide) (by decide) (ty_120 hS.1.1) ?_
      refine Tr.tp 0 ((St.kp hS (by decide) (by decide) (by decide)).trans en_120_37) ?_
      refine Tr.iald (pc := 11) d_X12_inputOf_11 (ty_127 hS.1.1) (by omega) (by omega) ?_
      refine Tr.gen (P := fun v => 0 ≤ v ∧ v ≤ 3) (ir_127_0 hS.1.2.1) (fun r11 er11 br11 => ?_)
      refine Tr.icmp_ge (pc := 12) (tgt := 41) d_X12_inputOf_12 rfl (fun c12 => ?_) (fun c12 => ?_)
      · refine Tr.iconst (pc := 41) d_X12_inputOf_41 (by decide) ?_
        exact Tr.iret (pc := 42) d_X12_inputOf_42 rfl ⟨hS, _, rfl, by omega, by omega⟩
      · refine Tr.aload_n (pc := 15) (i := 0) d_X12_inputOf_15 rfl rfl ?_
        refine Tr.getf (pc := 16) d_X12_inputOf_16 f_12_82 (by decide) (by decide) (ty_120 hS.1.1) ?_
        refine Tr.tp 132 (fx_120_23 hS.1.1) ?_
        refine Tr.iconst (pc := 19) d_X12_inputOf_19 (by decide) ?_
        refine Tr.aload_n (pc := 20) (i := 0) d_X12_inputOf_20 rfl rfl ?_
        refine Tr.getf (pc := 21) d_X12_inputOf_21 f_12_124 (by decide) (by decide) (ty_120 hS.1.1) ?_
        refine Tr.tp 0 ((St.kp hS (by decide) (by decide) (by decide)).trans en_120_37) ?_
        refine Tr.imul (pc := 24) d_X12_inputOf_24 ?_
        refine Tr.tp 0 (by decide) ?_
        refine Tr.iload_n (pc := 25) (i := 3) d_X12_inputOf_25 rfl rfl ?_
        refine Tr.iadd (pc := 26) d_X12_inputOf_26 ?_
        refine Tr.tp p2_3 ((w32_id (by omega)).trans (by omega)) ?_
        refine Tr.lald (pc := 27) d_X12_inputOf_27 (ty_132 hS.1.1) (by omega) (by omega) ?_
        refine Tr.gen (P := fun v => (-9223372036854775808) ≤ v ∧ v ≤ 9223372036854775807) (ar_132 hS.1.2.1 _) (fun r27 er27 br27 => ?_)
        refine Tr.lload_n (pc := 28) (i := 1) d_X12_inputOf_28 rfl rfl ?_
        refine Tr.lcmp (pc := 29) d_X12_inputOf_29 ?_
        refine Tr.gen (P := fun v => (v = 1 ∧ a1 < r27) ∨ (v = 0 ∧ r27 = a1) ∨ (v = -1 ∧ r27 < a1)) (f_lcmp_c _ _) (fun r29 er29 br29 => ?_)
        refine Tr.if_ne (pc := 30) (tgt := 35) d_X12_inputOf_30 rfl (fun c30 => ?_) (fun c30 => ?_)
        · refine Tr.iincV (pc := 35) (n2 := (p2_3 + 1)) (ls2 := [(3, (0, (p2_3 + 1))), (0, (2, 120)), (1, (1, a1))]) d_X12_inputOf_35 rfl (by decide) ((w32_id (by omega)).trans (by omega)) rfl ?_
          refine Tr.goto (pc := 38) (tgt := 2) d_X12_inputOf_38 rfl ?_
          refine Tr.pick [1, 2, 0] (ls2 := [(0, (2, 120)), (1, (1, a1)), (3, (0, (p2_3 + 1)))]) rfl ?_
          exact J2 _ _ hS (by omega) (by omega)
        · refine Tr.iload_n (pc := 33) (i := 3) d_X12_inputOf_33 rfl rfl ?_
          exact Tr.iret (pc := 34) d_X12_inputOf_34 rfl ⟨hS, _, rfl, by omega, by omega⟩
  refine Tr.pick [1, 2, 0] (ls2 := [(0, (2, 120)), (1, (1, a1)), (3, (0, 0))]) rfl ?_
  exact J2 _ _ _ hS (by omega) (Nat.lt_succ_self _)

def ws_X12_varOf_120_w1 : List (Int × Int) := []
def as_X12_varOf_120_w1 : List Int := []
def q_X12_varOf_120_w1 (M0 M' : Mem) (r : Option PV) : Prop := St Tru ws_X12_varOf_120_w1 as_X12_varOf_120_w1 M0 M' ∧ ∃ v : Int, r = some (0, v) ∧ (-1) ≤ v ∧ v ≤ 5
set_option maxRecDepth 100000 in
set_option maxHeartbeats 4000000 in
theorem sp_X12_varOf_120_w1 {l : Launch} {K : EC} {M0 : Mem} (hI : In Tru M0) (en_120_37 : rd M0 120 37 = 0) (a1 : Int) (ha1 : (-9223372036854775808) ≤ a1 ∧ a1 ≤ 9223372036854775807)  : Tr l K 0 mX12_varOf 0 [(0, (2, 120)), (1, (1, a1))] [] M0 (q_X12_varOf_120_w1 M0) := by
  have hS : St Tru ws_X12_varOf_120_w1 as_X12_varOf_120_w1 M0 M0 := St.rf hI
  refine Tr.iconst (pc := 0) d_X12_varOf_0 (by decide) ?_
  refine Tr.istore_n (pc := 1) (i := 3) (ls2 := [(3, (0, 0)), (0, (2, 120)), (1, (1, a1))]) d_X12_varOf_1 rfl (by decide) rfl ?_
  have J2 : ∀ (n2 : Nat) (M : Mem) (p2_3 : Int), St Tru ws_X12_varOf_120_w1 as_X12_varOf_120_w1 M0 M → (0 ≤ p2_3 ∧ p2_3 ≤ 6) → (6 - p2_3).toNat < n2 → Tr l K 0 mX12_varOf 2 [(0, (2, 120)), (1, (1, a1)), (3, (0, p2_3))] [] M (q_X12_varOf_120_w1 M0) := by
    intro n2
    induction n2 with
    | zero => intro M p2_3 hS bp2_3  hm2; exact absurd hm2 (Nat.not_lt_zero _)
    | succ n2 J2 =>
      intro M p2_3 hS bp2_3  hm2
      refine Tr.iload_n (pc := 2) (i := 3) d_X12_varOf_2 rfl rfl ?_
      refine Tr.aload_n (pc := 3) (i := 0) d_X12_varOf_3 rfl rfl ?_
      refine Tr.getf (pc := 4) d_X12_varOf_4 f_12_69 (by decide) (by decide) (ty_120 hS.1.1) ?_
      refine Tr.tp 128 (fx_120_19 hS.1.1) ?_
      refine Tr.aload_n (pc := 7) (i := 0) d_X12_varOf_7 rfl rfl ?_
      refine Tr.getf (pc := 8) d_X12_varOf_8 f_12_124 (by decide) (by decide) (ty_120 hS.1.1) ?_
      refine Tr.tp 0 ((St.kp hS (by decide) (by decide) (by decide)).trans en_120_37) ?_
      refine Tr.iald (pc := 11) d_X12_varOf_11 (ty_128 hS.1.1) (by omega) (by omega) ?_
      refine Tr.gen (P := fun v => 0 ≤ v ∧ v ≤ 6) (ir_128_0 hS.1.2.1) (fun r11 er11 br11 => ?_)
      refine Tr.icmp_ge (pc := 12) (tgt := 42) d_X12_varOf_12 rfl (fun c12 => ?_) (fun c12 => ?_)
      · refine Tr.iconst (pc := 42) d_X12_varOf_42 (by decide) ?_
        exact Tr.iret (pc := 43) d_X12_varOf_43 rfl ⟨hS, _, rfl, by omega, by omega⟩
      · refine Tr.aload_n (pc := 15) (i := 0) d_X12_varOf_15 rfl rfl ?_
        refine Tr.getf (pc := 16) d_X12_varOf_16 f_12_91 (by decide) (by decide) (ty_120 hS.1.1) ?_
        refine Tr.tp 135 (fx_120_26 hS.1.1) ?_
        refine Tr.bipush (pc := 19) d_X12_varOf_19 rfl (by decide) ?_
        refine Tr.aload_n (pc := 21) (i := 0) d_X12_varOf_21 rfl rfl ?_
        refine Tr.getf (pc := 22) d_X12_varOf_22 f_12_124 (by decide) (by decide) (ty_120 hS.1.1) ?_
        refine Tr.tp 0 ((St.kp hS (by decide) (by decide) (by decide)).trans en_120_37) ?_
        refine Tr.imul (pc := 25) d_X12_varOf_25 ?_
        refine Tr.tp 0 (by decide) ?_
        refine Tr.iload_n (pc := 26) (i := 3) d_X12_varOf_26 rfl rfl ?_
        refine Tr.iadd (pc := 27) d_X12_varOf_27 ?_
        refine Tr.tp p2_3 ((w32_id (by omega)).trans (by omega)) ?_
        refine Tr.lald (pc := 28) d_X12_varOf_28 (ty_135 hS.1.1) (by omega) (by omega) ?_
        refine Tr.gen (P := fun v => (-9223372036854775808) ≤ v ∧ v ≤ 9223372036854775807) (ar_135 hS.1.2.1 _) (fun r28 er28 br28 => ?_)
        refine Tr.lload_n (pc := 29) (i := 1) d_X12_varOf_29 rfl rfl ?_
        refine Tr.lcmp (pc := 30) d_X12_varOf_30 ?_
        refine Tr.gen (P := fun v => (v = 1 ∧ a1 < r28) ∨ (v = 0 ∧ r28 = a1) ∨ (v = -1 ∧ r28 < a1)) (f_lcmp_c _ _) (fun r30 er30 br30 => ?_)
        refine Tr.if_ne (pc := 31) (tgt := 36) d_X12_varOf_31 rfl (fun c31 => ?_) (fun c31 => ?_)
        · refine Tr.iincV (pc := 36) (n2 := (p2_3 + 1)) (ls2 := [(3, (0, (p2_3 + 1))), (0, (2, 120)), (1, (1, a1))]) d_X12_varOf_36 rfl (by decide) ((w32_id (by omega)).trans (by omega)) rfl ?_
          refine Tr.goto (pc := 39) (tgt := 2) d_X12_varOf_39 rfl ?_
          refine Tr.pick [1, 2, 0] (ls2 := [(0, (2, 120)), (1, (1, a1)), (3, (0, (p2_3 + 1)))]) rfl ?_
          exact J2 _ _ hS (by omega) (by omega)
        · refine Tr.iload_n (pc := 34) (i := 3) d_X12_varOf_34 rfl rfl ?_
          exact Tr.iret (pc := 35) d_X12_varOf_35 rfl ⟨hS, _, rfl, by omega, by omega⟩
  refine Tr.pick [1, 2, 0] (ls2 := [(0, (2, 120)), (1, (1, a1)), (3, (0, 0))]) rfl ?_
  exact J2 _ _ _ hS (by omega) (Nat.lt_succ_self _)

def ws_X12_fresh_120_w1 : List (Int × Int) := [(120, 3), (120, 4), (120, 5), (120, 6), (120, 7), (120, 8), (120, 9)]
def as_X12_fresh_120_w1 : List Int := []
def q_X12_fresh_120_w1 (M0 M' : Mem) (r : Option PV) : Prop := St Pm0 ws_X12_fresh_120_w1 as_X12_fresh_120_w1 M0 M' ∧ ∃ v : Int, r = some (1, v) ∧ (-9223372036854775808) ≤ v ∧ v ≤ 9223372036854775807 ∧ (rd M' 120 3 = 0 ∨ rd M' 120 4 + 1 ≤ rd M' 120 5) ∧ (rd M' 120 4 ≤ rd M' 120 5) ∧ (rd M' 120 3 ≠ 1 ∨ rd M' 120 4 + 2 ≤ rd M' 120 5 ∨ rd M' 120 7 < 256) ∧ (rd M0 120 4 ≤ rd M' 120 4 ∧ rd M0 120 5 ≤ rd M' 120 5 ∧ tav M0 ≤ tav M') ∧ (rd M0 120 8 = 0 ∨ rd M' 120 8 = rd M0 120 8) ∧ (1 ≤ rd M' 120 8 ∨ tav M0 < tav M')
theorem kp_X12_fresh_120_w1_120_37 {q : Mem → Prop} {M0 M : Mem} (h : St q ws_X12_fresh_120_w1 as_X12_fresh_120_w1 M0 M) : rd M 120 37 = rd M0 120 37 := St.kp h (by decide) (by decide) (by decide)
theorem ka_X12_partOf_120_w1_131 {q : Mem → Prop} {M0 M : Mem} (h : St q ws_X12_partOf_120_w1 as_X12_partOf_120_w1 M0 M) (j : Int) : rd M 131 j = rd M0 131 j := St.ka h (by decide) (by decide) (by decide)
theorem ka_X12_partOf_120_w1_137 {q : Mem → Prop} {M0 M : Mem} (h : St q ws_X12_partOf_120_w1 as_X12_partOf_120_w1 M0 M) (j : Int) : rd M 137 j = rd M0 137 j := St.ka h (by decide) (by decide) (by decide)
theorem ka_X12_partOf_120_w1_138 {q : Mem → Prop} {M0 M : Mem} (h : St q ws_X12_partOf_120_w1 as_X12_partOf_120_w1 M0 M) (j : Int) : rd M 138 j = rd M0 138 j := St.ka h (by decide) (by decide) (by decide)
theorem ka_X12_partOf_120_w1_139 {q : Mem → Prop} {M0 M : Mem} (h : St q ws_X12_partOf_120_w1 as_X12_partOf_120_w1 M0 M) (j : Int) : rd M 139 j = rd M0 139 j := St.ka h (by decide) (by decide) (by decide)
theorem ka_X12_partOf_120_w1_140 {q : Mem → Prop} {M0 M : Mem} (h : St q ws_X12_partOf_120_w1 as_X12_partOf_120_w1 M0 M) (j : Int) : rd M 140 j = rd M0 140 j := St.ka h (by decide) (by decide) (by decide)
theorem ka_X12_partOf_120_w1_141 {q : Mem → Prop} {M0 M : Mem} (h : St q ws_X12_partOf_120_w1 as_X12_partOf_120_w1 M0 M) (j : Int) : rd M 141 j = rd M0 141 j := St.ka h (by decide) (by decide) (by decide)
theorem ka_X12_partOf_120_w1_142 {q : Mem → Prop} {M0 M : Mem} (h : St q ws_X12_partOf_120_w1 as_X12_partOf_120_w1 M0 M) (j : Int) : rd M 142 j = rd M0 142 j := St.ka h (by decide) (by decide) (by decide)
theorem ka_X12_partOf_120_w1_143 {q : Mem → Prop} {M0 M : Mem} (h : St q ws_X12_partOf_120_w1 as_X12_partOf_120_w1 M0 M) (j : Int) : rd M 143 j = rd M0 143 j := St.ka h (by decide) (by decide) (by decide)
theorem ka_X12_partOf_120_w1_151 {q : Mem → Prop} {M0 M : Mem} (h : St q ws_X12_partOf_120_w1 as_X12_partOf_120_w1 M0 M) (j : Int) : rd M 151 j = rd M0 151 j := St.ka h (by decide) (by decide) (by decide)
theorem ka_X12_partOf_120_w1_152 {q : Mem → Prop} {M0 M : Mem} (h : St q ws_X12_partOf_120_w1 as_X12_partOf_120_w1 M0 M) (j : Int) : rd M 152 j = rd M0 152 j := St.ka h (by decide) (by decide) (by decide)
theorem kp_X12_partOf_120_w1_126_0 {q : Mem → Prop} {M0 M : Mem} (h : St q ws_X12_partOf_120_w1 as_X12_partOf_120_w1 M0 M) : rd M 126 0 = rd M0 126 0 := St.kp h (by decide) (by decide) (by decide)
theorem kp_X12_partOf_120_w1_126_1 {q : Mem → Prop} {M0 M : Mem} (h : St q ws_X12_partOf_120_w1 as_X12_partOf_120_w1 M0 M) : rd M 126 1 = rd M0 126 1 := St.kp h (by decide) (by decide) (by decide)
theorem kp_X12_partOf_120_w1_136_0 {q : Mem → Prop} {M0 M : Mem} (h : St q ws_X12_partOf_120_w1 as_X12_partOf_120_w1 M0 M) : rd M 136 0 = rd M0 136 0 := St.kp h (by decide) (by decide) (by decide)
theorem kp_X12_partOf_120_w1_136_1 {q : Mem → Prop} {M0 M : Mem} (h : St q ws_X12_partOf_120_w1 as_X12_partOf_120_w1 M0 M) : rd M 136 1 = rd M0 136 1 := St.kp h (by decide) (by decide) (by decide)
theorem kp_X12_partOf_120_w1_123_0 {q : Mem → Prop} {M0 M : Mem} (h : St q ws_X12_partOf_120_w1 as_X12_partOf_120_w1 M0 M) : rd M 123 0 = rd M0 123 0 := St.kp h (by decide) (by decide) (by decide)
theorem kp_X12_partOf_120_w1_123_1 {q : Mem → Prop} {M0 M : Mem} (h : St q ws_X12_partOf_120_w1 as_X12_partOf_120_w1 M0 M) : rd M 123 1 = rd M0 123 1 := St.kp h (by decide) (by decide) (by decide)
theorem kp_X12_partOf_120_w1_124_0 {q : Mem → Prop} {M0 M : Mem} (h : St q ws_X12_partOf_120_w1 as_X12_partOf_120_w1 M0 M) : rd M 124 0 = rd M0 124 0 := St.kp h (by decide) (by decide) (by decide)
theorem kp_X12_partOf_120_w1_124_1 {q : Mem → Prop} {M0 M : Mem} (h : St q ws_X12_partOf_120_w1 as_X12_partOf_120_w1 M0 M) : rd M 124 1 = rd M0 124 1 := St.kp h (by decide) (by decide) (by decide)
theorem kp_X12_partOf_120_w1_120_8 {q : Mem → Prop} {M0 M : Mem} (h : St q ws_X12_partOf_120_w1 as_X12_partOf_120_w1 M0 M) : rd M 120 8 = rd M0 120 8 := St.kp h (by decide) (by decide) (by decide)
theorem kp_X12_partOf_120_w1_120_36 {q : Mem → Prop} {M0 M : Mem} (h : St q ws_X12_partOf_120_w1 as_X12_partOf_120_w1 M0 M) : rd M 120 36 = rd M0 120 36 := St.kp h (by decide) (by decide) (by decide)
theorem kp_X12_partOf_120_w1_120_50 {q : Mem → Prop} {M0 M : Mem} (h : St q ws_X12_partOf_120_w1 as_X12_partOf_120_w1 M0 M) : rd M 120 50 = rd M0 120 50 := St.kp h (by decide) (by decide) (by decide)
theorem kp_X12_partOf_120_w1_120_3 {q : Mem → Prop} {M0 M : Mem} (h : St q ws_X12_partOf_120_w1 as_X12_partOf_120_w1 M0 M) : rd M 120 3 = rd M0 120 3 := St.kp h (by decide) (by decide) (by decide)
theorem kp_X12_partOf_120_w1_120_4 {q : Mem → Prop} {M0 M : Mem} (h : St q ws_X12_partOf_120_w1 as_X12_partOf_120_w1 M0 M) : rd M 120 4 = rd M0 120 4 := St.kp h (by decide) (by decide) (by decide)
theorem kp_X12_partOf_120_w1_120_5 {q : Mem → Prop} {M0 M : Mem} (h : St q ws_X12_partOf_120_w1 as_X12_partOf_120_w1 M0 M) : rd M 120 5 = rd M0 120 5 := St.kp h (by decide) (by decide) (by decide)
theorem kp_X12_partOf_120_w1_120_7 {q : Mem → Prop} {M0 M : Mem} (h : St q ws_X12_partOf_120_w1 as_X12_partOf_120_w1 M0 M) : rd M 120 7 = rd M0 120 7 := St.kp h (by decide) (by decide) (by decide)
theorem ka_X12_inputOf_120_w1_131 {q : Mem → Prop} {M0 M : Mem} (h : St q ws_X12_inputOf_120_w1 as_X12_inputOf_120_w1 M0 M) (j : Int) : rd M 131 j = rd M0 131 j := St.ka h (by decide) (by decide) (by decide)
theorem ka_X12_inputOf_120_w1_137 {q : Mem → Prop} {M0 M : Mem} (h : St q ws_X12_inputOf_120_w1 as_X12_inputOf_120_w1 M0 M) (j : Int) : rd M 137 j = rd M0 137 j := St.ka h (by decide) (by decide) (by decide)
theorem ka_X12_inputOf_120_w1_138 {q : Mem → Prop} {M0 M : Mem} (h : St q ws_X12_inputOf_120_w1 as_X12_inputOf_120_w1 M0 M) (j : Int) : rd M 138 j = rd M0 138 j := St.ka h (by decide) (by decide) (by decide)
theorem ka_X12_inputOf_120_w1_139 {q : Mem → Prop} {M0 M : Mem} (h : St q ws_X12_inputOf_120_w1 as_X12_inputOf_120_w1 M0 M) (j : Int) : rd M 139 j = rd M0 139 j := St.ka h (by decide) (by decide) (by decide)
theorem ka_X12_inputOf_120_w1_140 {q : Mem → Prop} {M0 M : Mem} (h : St q ws_X12_inputOf_120_w1 as_X12_inputOf_120_w1 M0 M) (j : Int) : rd M 140 j = rd M0 140 j := St.ka h (by decide) (by decide) (by decide)
theorem ka_X12_inputOf_120_w1_141 {q : Mem → Prop} {M0 M : Mem} (h : St q ws_X12_inputOf_120_w1 as_X12_inputOf_120_w1 M0 M) (j : Int) : rd M 141 j = rd M0 141 j := St.ka h (by decide) (by decide) (by decide)
theorem ka_X12_inputOf_120_w1_142 {q : Mem → Prop} {M0 M : Mem} (h : St q ws_X12_inputOf_120_w1 as_X12_inputOf_120_w1 M0 M) (j : Int) : rd M 142 j = rd M0 142 j := St.ka h (by decide) (by decide) (by decide)
theorem ka_X12_inputOf_120_w1_143 {q : Mem → Prop} {M0 M : Mem} (h : St q ws_X12_inputOf_120_w1 as_X12_inputOf_120_w1 M0 M) (j : Int) : rd M 143 j = rd M0 143 j := St.ka h (by decide) (by decide) (by decide)
theorem ka_X12_inputOf_120_w1_151 {q : Mem → Prop} {M0 M : Mem} (h : St q ws_X12_inputOf_120_w1 as_X12_inputOf_120_w1 M0 M) (j : Int) : rd M 151 j = rd M0 151 j := St.ka h (by decide) (by decide) (by decide)
theorem ka_X12_inputOf_120_w1_152 {q : Mem → Prop} {M0 M : Mem} (h : St q ws_X12_inputOf_120_w1 as_X12_inputOf_120_w1 M0 M) (j : Int) : rd M 152 j = rd M0 152 j := St.ka h (by decide) (by decide) (by decide)
theorem kp_X12_inputOf_120_w1_126_0 {q : Mem → Prop} {M0 M : Mem} (h : St q ws_X12_inputOf_120_w1 as_X12_inputOf_120_w1 M0 M) : rd M 126 0 = rd M0 126 0 := St.kp h (by decide) (by decide) (by decide)
theorem kp_X12_inputOf_120_w1_126_1 {q : Mem → Prop} {M0 M : Mem} (h : St q ws_X12_inputOf_120_w1 as_X12_inputOf_120_w1 M0 M) : rd M 126 1 = rd M0 126 1 := St.kp h (by decide) (by decide) (by decide)
theorem kp_X12_inputOf_120_w1_136_0 {q : Mem → Prop} {M0 M : Mem} (h : St q ws_X12_inputOf_120_w1 as_X12_inputOf_120_w1 M0 M) : rd M 136 0 = rd M0 136 0 := St.kp h (by decide) (by decide) (by decide)
theorem kp_X12_inputOf_120_w1_136_1 {q : Mem → Prop} {M0 M : Mem} (h : St q ws_X12_inputOf_120_w1 as_X12_inputOf_120_w1 M0 M) : rd M 136 1 = rd M0 136 1 := St.kp h (by decide) (by decide) (by decide)
theorem kp_X12_inputOf_120_w1_123_0 {q : Mem → Prop} {M0 M : Mem} (h : St q ws_X12_inputOf_120_w1 as_X12_inputOf_120_w1 M0 M) : rd M 123 0 = rd M0 123 0 := St.kp h (by decide) (by decide) (by decide)
theorem kp_X12_inputOf_120_w1_123_1 {q : Mem → Prop} {M0 M : Mem} (h : St q ws_X12_inputOf_120_w1 as_X12_inputOf_120_w1 M0 M) : rd M 123 1 = rd M0 123 1 := St.kp h (by decide) (by decide) (by decide)
theorem kp_X12_inputOf_120_w1_124_0 {q : Mem → Prop} {M0 M : Mem} (h : St q ws_X12_inputOf_120_w1 as_X12_inputOf_120_w1 M0 M) : rd M 124 0 = rd M0 124 0 := St.kp h (by decide) (by decide) (by decide)
theorem kp_X12_inputOf_120_w1_124_1 {q : Mem → Prop} {M0 M : Mem} (h : St q ws_X12_inputOf_120_w1 as_X12_inputOf_120_w1 M0 M) : rd M 124 1 = rd M0 124 1 := St.kp h (by decide) (by decide) (by decide)
theorem kp_X12_inputOf_120_w1_120_8 {q : Mem → Prop} {M0 M : Mem} (h : St q ws_X12_inputOf_120_w1 as_X12_inputOf_120_w1 M0 M) : rd M 120 8 = rd M0 120 8 := St.kp h (by decide) (by decide) (by decide)
theorem kp_X12_inputOf_120_w1_120_36 {q : Mem → Prop} {M0 M : Mem} (h : St q ws_X12_inputOf_120_w1 as_X12_inputOf_120_w1 M0 M) : rd M 120 36 = rd M0 120 36 := St.kp h (by decide) (by decide) (by decide)
theorem kp_X12_inputOf_120_w1_120_50 {q : Mem → Prop} {M0 M : Mem} (h : St q ws_X12_inputOf_120_w1 as_X12_inputOf_120_w1 M0 M) : rd M 120 50 = rd M0 120 50 := St.kp h (by decide) (by decide) (by decide)
theorem kp_X12_inputOf_120_w1_120_3 {q : Mem → Prop} {M0 M : Mem} (h : St q ws_X12_inputOf_120_w1 as_X12_inputOf_120_w1 M0 M) : rd M 120 3 = rd M0 120 3 := St.kp h (by decide) (by decide) (by decide)
theorem kp_X12_inputOf_120_w1_120_4 {q : Mem → Prop} {M0 M : Mem} (h : St q ws_X12_inputOf_120_w1 as_X12_inputOf_120_w1 M0 M) : rd M 120 4 = rd M0 120 4 := St.kp h (by decide) (by decide) (by decide)
theorem kp_X12_inputOf_120_w1_120_5 {q : Mem → Prop} {M0 M : Mem} (h : St q ws_X12_inputOf_120_w1 as_X12_inputOf_120_w1 M0 M) : rd M 120 5 = rd M0 120 5 := St.kp h (by decide) (by decide) (by decide)
theorem kp_X12_inputOf_120_w1_120_7 {q : Mem → Prop} {M0 M : Mem} (h : St q ws_X12_inputOf_120_w1 as_X12_inputOf_120_w1 M0 M) : rd M 120 7 = rd M0 120 7 := St.kp h (by decide) (by decide) (by decide)
theorem ka_X12_varOf_120_w1_131 {q : Mem → Prop} {M0 M : Mem} (h : St q ws_X12_varOf_120_w1 as_X12_varOf_120_w1 M0 M) (j : Int) : rd M 131 j = rd M0 131 j := St.ka h (by decide) (by decide) (by decide)
theorem ka_X12_varOf_120_w1_137 {q : Mem → Prop} {M0 M : Mem} (h : St q ws_X12_varOf_120_w1 as_X12_varOf_120_w1 M0 M) (j : Int) : rd M 137 j = rd M0 137 j := St.ka h (by decide) (by decide) (by decide)
theorem ka_X12_varOf_120_w1_138 {q : Mem → Prop} {M0 M : Mem} (h : St q ws_X12_varOf_120_w1 as_X12_varOf_120_w1 M0 M) (j : Int) : rd M 138 j = rd M0 138 j := St.ka h (by decide) (by decide) (by decide)
theorem ka_X12_varOf_120_w1_139 {q : Mem → Prop} {M0 M : Mem} (h : St q ws_X12_varOf_120_w1 as_X12_varOf_120_w1 M0 M) (j : Int) : rd M 139 j = rd M0 139 j := St.ka h (by decide) (by decide) (by decide)
theorem ka_X12_varOf_120_w1_140 {q : Mem → Prop} {M0 M : Mem} (h : St q ws_X12_varOf_120_w1 as_X12_varOf_120_w1 M0 M) (j : Int) : rd M 140 j = rd M0 140 j := St.ka h (by decide) (by decide) (by decide)
theorem ka_X12_varOf_120_w1_141 {q : Mem → Prop} {M0 M : Mem} (h : St q ws_X12_varOf_120_w1 as_X12_varOf_120_w1 M0 M) (j : Int) : rd M 141 j = rd M0 141 j := St.ka h (by decide) (by decide) (by decide)
theorem ka_X12_varOf_120_w1_142 {q : Mem → Prop} {M0 M : Mem} (h : St q ws_X12_varOf_120_w1 as_X12_varOf_120_w1 M0 M) (j : Int) : rd M 142 j = rd M0 142 j := St.ka h (by decide) (by decide) (by decide)
theorem ka_X12_varOf_120_w1_143 {q : Mem → Prop} {M0 M : Mem} (h : St q ws_X12_varOf_120_w1 as_X12_varOf_120_w1 M0 M) (j : Int) : rd M 143 j = rd M0 143 j := St.ka h (by decide) (by decide) (by decide)
theorem ka_X12_varOf_120_w1_151 {q : Mem → Prop} {M0 M : Mem} (h : St q ws_X12_varOf_120_w1 as_X12_varOf_120_w1 M0 M) (j : Int) : rd M 151 j = rd M0 151 j := St.ka h (by decide) (by decide) (by decide)
theorem ka_X12_varOf_120_w1_152 {q : Mem → Prop} {M0 M : Mem} (h : St q ws_X12_varOf_120_w1 as_X12_varOf_120_w1 M0 M) (j : Int) : rd M 152 j = rd M0 152 j := St.ka h (by decide) (by decide) (by decide)
theorem kp_X12_varOf_120_w1_126_0 {q : Mem → Prop} {M0 M : Mem} (h : St q ws_X12_varOf_120_w1 as_X12_varOf_120_w1 M0 M) : rd M 126 0 = rd M0 126 0 := St.kp h (by decide) (by decide) (by decide)
theorem kp_X12_varOf_120_w1_126_1 {q : Mem → Prop} {M0 M : Mem} (h : St q ws_X12_varOf_120_w1 as_X12_varOf_120_w1 M0 M) : rd M 126 1 = rd M0 126 1 := St.kp h (by decide) (by decide) (by decide)
theorem kp_X12_varOf_120_w1_136_0 {q : Mem → Prop} {M0 M : Mem} (h : St q ws_X12_varOf_120_w1 as_X12_varOf_120_w1 M0 M) : rd M 136 0 = rd M0 136 0 := St.kp h (by decide) (by decide) (by decide)
theorem kp_X12_varOf_120_w1_136_1 {q : Mem → Prop} {M0 M : Mem} (h : St q ws_X12_varOf_120_w1 as_X12_varOf_120_w1 M0 M) : rd M 136 1 = rd M0 136 1 := St.kp h (by decide) (by decide) (by decide)
theorem kp_X12_varOf_120_w1_123_0 {q : Mem → Prop} {M0 M : Mem} (h : St q ws_X12_varOf_120_w1 as_X12_varOf_120_w1 M0 M) : rd M 123 0 = rd M0 123 0 := St.kp h (by decide) (by decide) (by decide)
theorem kp_X12_varOf_120_w1_123_1 {q : Mem → Prop} {M0 M : Mem} (h : St q ws_X12_varOf_120_w1 as_X12_varOf_120_w1 M0 M) : rd M 123 1 = rd M0 123 1 := St.kp h (by decide) (by decide) (by decide)
theorem kp_X12_varOf_120_w1_124_0 {q : Mem → Prop} {M0 M : Mem} (h : St q ws_X12_varOf_120_w1 as_X12_varOf_120_w1 M0 M) : rd M 124 0 = rd M0 124 0 := St.kp h (by decide) (by decide) (by decide)
theorem kp_X12_varOf_120_w1_124_1 {q : Mem → Prop} {M0 M : Mem} (h : St q ws_X12_varOf_120_w1 as_X12_varOf_120_w1 M0 M) : rd M 124 1 = rd M0 124 1 := St.kp h (by decide) (by decide) (by decide)
theorem kp_X12_varOf_120_w1_120_8 {q : Mem → Prop} {M0 M : Mem} (h : St q ws_X12_varOf_120_w1 as_X12_varOf_120_w1 M0 M) : rd M 120 8 = rd M0 120 8 := St.kp h (by decide) (by decide) (by decide)
theorem kp_X12_varOf_120_w1_120_36 {q : Mem → Prop} {M0 M : Mem} (h : St q ws_X12_varOf_120_w1 as_X12_varOf_120_w1 M0 M) : rd M 120 36 = rd M0 120 36 := St.kp h (by decide) (by decide) (by decide)
theorem kp_X12_varOf_120_w1_120_50 {q : Mem → Prop} {M0 M : Mem} (h : St q ws_X12_varOf_120_w1 as_X12_varOf_120_w1 M0 M) : rd M 120 50 = rd M0 120 50 := St.kp h (by decide) (by decide) (by decide)
theorem kp_X12_varOf_120_w1_120_3 {q : Mem → Prop} {M0 M : Mem} (h : St q ws_X12_varOf_120_w1 as_X12_varOf_120_w1 M0 M) : rd M 120 3 = rd M0 120 3 := St.kp h (by decide) (by decide) (by decide)
theorem kp_X12_varOf_120_w1_120_4 {q : Mem → Prop} {M0 M : Mem} (h : St q ws_X12_varOf_120_w1 as_X12_varOf_120_w1 M0 M) : rd M 120 4 = rd M0 120 4 := St.kp h (by decide) (by decide) (by decide)
theorem kp_X12_varOf_120_w1_120_5 {q : Mem → Prop} {M0 M : Mem} (h : St q ws_X12_varOf_120_w1 as_X12_varOf_120_w1 M0 M) : rd M 120 5 = rd M0 120 5 := St.kp h (by decide) (by decide) (by decide)
theorem kp_X12_varOf_120_w1_120_7 {q : Mem → Prop} {M0 M : Mem} (h : St q ws_X12_varOf_120_w1 as_X12_varOf_120_w1 M0 M) : rd M 120 7 = rd M0 120 7 := St.kp h (by decide) (by decide) (by decide)
set_option maxRecDepth 100000 in
set_option maxHeartbeats 4000000 in
theorem sp_X12_fresh_120_w1 {l : Launch} {K : EC} {M0 : Mem} (hI : In Pm0 M0) (en_120_37 : rd M0 120 37 = 0)   (hq0 : rd M0 120 3 = 0 ∨ rd M0 120 4 + 1 ≤ rd M0 120 5) (hq1 : rd M0 120 4 ≤ rd M0 120 5) (hq2 : rd M0 120 3 ≠ 1 ∨ rd M0 120 4 + 2 ≤ rd M0 120 5 ∨ rd M0 120 7 < 256) : Tr l K 2 mX12_fresh 0 [(0, (2, 120))] [] M0 (q_X12_fresh_120_w1 M0) := by
  have hS : St Pm0 ws_X12_fresh_120_w1 as_X12_fresh_120_w1 M0 M0 := St.rf hI
  obtain ⟨g120_8, eg120_8⟩ : ∃ v, rd M0 120 8 = v := ⟨_, rfl⟩
  have bg120_8 : 0 ≤ g120_8 ∧ g120_8 ≤ 5 := by rw [← eg120_8]; exact ir_120_8 hI.2.1
  obtain ⟨g120_3, eg120_3⟩ : ∃ v, rd M0 120 3 = v := ⟨_, rfl⟩
  have bg120_3 : 0 ≤ g120_3 ∧ g120_3 ≤ 3 := by rw [← eg120_3]; exact ir_120_3 hI.2.1
  obtain ⟨g120_4, eg120_4⟩ : ∃ v, rd M0 120 4 = v := ⟨_, rfl⟩
  have bg120_4 : 0 ≤ g120_4 ∧ g120_4 ≤ 900 := by rw [← eg120_4]; exact ir_120_4 hI.2.1
  obtain ⟨g120_5, eg120_5⟩ : ∃ v, rd M0 120 5 = v := ⟨_, rfl⟩
  have bg120_5 : 0 ≤ g120_5 ∧ g120_5 ≤ 900 := by rw [← eg120_5]; exact ir_120_5 hI.2.1
  obtain ⟨g120_7, eg120_7⟩ : ∃ v, rd M0 120 7 = v := ⟨_, rfl⟩
  have bg120_7 : (-9223372036854775808) ≤ g120_7 ∧ g120_7 ≤ 9223372036854775807 := by rw [← eg120_7]; exact ir_120_7 hI.2.1
  obtain ⟨g9010_0, eg9010_0⟩ : ∃ v, tav M0 = v := ⟨_, rfl⟩
  have bg9010_0 : (-1) ≤ g9010_0 ∧ g9010_0 ≤ 1800 := by rw [← eg9010_0]; exact (tav_b hI.2.1)
  replace hq0 := hd_i hq0
  replace hq2 := hd_i hq2
  refine Tr.aload_n (pc := 0) (i := 0) d_X12_fresh_0 rfl rfl ?_
  refine Tr.getf (pc := 1) d_X12_fresh_1 f_12_36 (by decide) (by decide) (ty_120 hS.1.1) ?_
  refine Tr.tp g120_8 eg120_8 ?_
  refine Tr.if_le (pc := 4) (tgt := 9) d_X12_fresh_4 rfl (fun c4 => ?_) (fun c4 => ?_)
  · refine Tr.aload_n (pc := 9) (i := 0) d_X12_fresh_9 rfl rfl ?_
    refine Tr.getf (pc := 10) d_X12_fresh_10 f_12_20 (by decide) (by decide) (ty_120 hS.1.1) ?_
    refine Tr.tp g120_3 eg120_3 ?_
    refine Tr.iconst (pc := 13) d_X12_fresh_13 (by decide) ?_
    have J37 : ∀ (M : Mem) (u37_120_8 : Int), St Pm0 ws_X12_fresh_120_w1 as_X12_fresh_120_w1 M0 M → (0 ≤ u37_120_8 ∧ u37_120_8 ≤ 5) → rd M 120 3 = g120_3 → rd M 120 4 = g120_4 → rd M 120 5 = g120_5 → rd M 120 7 = g120_7 → rd M 120 8 = u37_120_8 → tav M = g9010_0 → (u37_120_8 ≠ 0 ∨ g120_3 ≠ 0) → (g120_8 = 0) → Tr l K 2 mX12_fresh 37 [(0, (2, 120))] [] M (q_X12_fresh_120_w1 M0) := by
      intro M u37_120_8 hS bu37_120_8 k37_120_3 k37_120_4 k37_120_5 k37_120_7 k37_120_8 k37_9010_0 t37_0 t37_1
      replace t37_0 := hd_i t37_0
      refine Tr.aload_n (pc := 37) (i := 0) d_X12_fresh_37 rfl rfl ?_
      refine Tr.getf (pc := 38) d_X12_fresh_38 f_12_36 (by decide) (by decide) (ty_120 hS.1.1) ?_
      refine Tr.tp u37_120_8 k37_120_8 ?_
      have J89 : ∀ (M : Mem) (u89_120_8 : Int), St Pm0 ws_X12_fresh_120_w1 as_X12_fresh_120_w1 M0 M → (0 ≤ u89_120_8 ∧ u89_120_8 ≤ 5) → rd M 120 3 = g120_3 → rd M 120 4 = g120_4 → rd M 120 5 = g120_5 → rd M 120 7 = g120_7 → rd M 120 8 = u89_120_8 → tav M = g9010_0 → (u89_120_8 ≠ 0 ∨ g120_3 ≠ 0) → (g120_8 = 0) → Tr l K 2 mX12_fresh 89 [(0, (2, 120))] [] M (q_X12_fresh_120_w1 M0) := by
        intro M u89_120_8 hS bu89_120_8 k89_120_3 k89_120_4 k89_120_5 k89_120_7 k89_120_8 k89_9010_0 t89_0 t89_1
        clear k37_120_3 k37_120_4 k37_120_5 k37_120_7 k37_120_8 k37_9010_0
        replace t89_0 := hd_i t89_0
        refine Tr.aload_n (pc := 89) (i := 0) d_X12_fresh_89 rfl rfl ?_
        refine Tr.getf (pc := 90) d_X12_fresh_90 f_12_32 (by decide) (by decide) (ty_120 hS.1.1) ?_
        refine Tr.tp g120_7 k89_120_7 ?_
        refine Tr.lstore_n (pc := 93) (i := 1) (ls2 := [(1, (1, g120_7)), (0, (2, 120))]) d_X12_fresh_93 rfl (by decide) rfl ?_
        refine Tr.aload_n (pc := 94) (i := 0) d_X12_fresh_94 rfl rfl ?_
        refine Tr.getf (pc := 95) d_X12_fresh_95 f_12_36 (by decide) (by decide) (ty_120 hS.1.1) ?_
        refine Tr.tp u89_120_8 k89_120_8 ?_
        refine Tr.if_ne (pc := 98) (tgt := 105) d_X12_fresh_98 rfl (fun c98 => ?_) (fun c98 => ?_)
        · have c98b : 1 ≤ u89_120_8 ∧ u89_120_8 ≤ 5 := by omega
          replace c98 := hd_i c98
          refine Tr.lload_n (pc := 105) (i := 1) d_X12_fresh_105 rfl rfl ?_
          have kr_120_3 : rd M 120 3 = g120_3 := k89_120_3
          have kr_120_4 : rd M 120 4 = g120_4 := k89_120_4
          have kr_120_5 : rd M 120 5 = g120_5 := k89_120_5
          have kr_120_7 : rd M 120 7 = g120_7 := k89_120_7
          have kr_120_8 : rd M 120 8 = u89_120_8 := k89_120_8
          have kr_9010_0 : tav M = g9010_0 := k89_9010_0
          exact Tr.lret (pc := 106) d_X12_fresh_106 rfl ⟨hS, _, rfl, (by omega), (by omega), (by first | exact (hd_o hq0) | exact (hd_o hq0).elim (fun h1 => by omega) (fun h1 => by omega)), (by omega), (by first | exact (hd_o hq2) | exact (hd_o hq2).elim (fun h1 => by omega) (fun h1 => h1.elim (fun h1 => by omega) (fun h1 => by omega))), (by and_intros <;> omega), (by omega), (by omega)⟩
        · refine Tr.aload_n (pc := 101) (i := 0) d_X12_fresh_101 rfl rfl ?_
          refine Tr.callV (pc := 102) (as := []) d_X12_fresh_102 s_12_396 ok_X12_next rfl rfl (Nat.le_of_ble_eq_true rfl) (Nat.le_of_ble_eq_true rfl) (by decide) (ty_120 hS.1.1) ?_
          refine Tr.imp (Tr.deep (by decide) (ns_X12_next_120_w1 (G120_3 := g120_3) (G120_5 := g120_5) (G120_8 := u89_120_8) (G9010_0 := g9010_0) hS.1 (k89_120_3) (k89_120_5) (k89_120_8) (k89_9010_0))) ?_
          rintro M102 _ ⟨h102, s102_120_3, s102_120_4, s102_120_5, s102_120_7, s102_120_8, s102_9010_0, es102_120_3, bs102_120_3, es102_120_4, bs102_120_4, es102_120_5, bs102_120_5, es102_120_7, bs102_120_7, es102_120_8, bs102_120_8, es102_9010_0, bs102_9010_0, rfl, z102_0, z102_1, z102_2, z102_3, z102_4, z102_5, z102_6⟩
          have hS := St.tr hS h102 (by decide) (by decide)
          refine Tr.sc [] rfl ?_
          refine Tr.lload_n (pc := 105) (i := 1) d_X12_fresh_105 rfl rfl ?_
          have kr_120_3 : rd M102 120 3 = s102_120_3 := es102_120_3
          have kr_120_4 : rd M102 120 4 = s102_120_4 := es102_120_4
          have kr_120_5 : rd M102 120 5 = s102_120_5 := es102_120_5
          have kr_120_7 : rd M102 120 7 = s102_120_7 := es102_120_7
          have kr_120_8 : rd M102 120 8 = s102_120_8 := es102_120_8
          have kr_9010_0 : tav M102 = s102_9010_0 := es102_9010_0
          exact Tr.lret (pc := 106) d_X12_fresh_106 rfl ⟨hS, _, rfl, (by omega), (by omega), (by first | exact (hd_o z102_0) | exact (hd_o z102_0).elim (fun h1 => by omega) (fun h1 => by omega)), (by omega), (by first | exact (hd_o z102_2) | exact (hd_o z102_2).elim (fun h1 => by omega) (fun h1 => h1.elim (fun h1 => by omega) (fun h1 => by omega))), (by and_intros <;> omega), (by omega), (by exact (hd_o t89_0).elim (fun h1 => (ne_o h1).elim (fun h2 => by omega) (fun h2 => by omega)) (fun h1 => (ne_o h1).elim (fun h2 => by omega) (fun h2 => (hd_o z102_5).elim (fun h3 => by omega) (fun h3 => by omega))))⟩
      refine Tr.if_ne (pc := 41) (tgt := 89) d_X12_fresh_41 rfl (fun c41 => ?_) (fun c41 => ?_)
      · have c41b : 1 ≤ u37_120_8 ∧ u37_120_8 ≤ 5 := by omega
        replace c41 := hd_i c41
        refine Tr.pick [0] (ls2 := [(0, (2, 120))]) rfl ?_
        exact J89 _ _ hS (by and_intros <;> omega) k37_120_3 k37_120_4 k37_120_5 k37_120_7 k37_120_8 k37_9010_0 (by first | exact (hd_o t37_0) | exact (hd_o t37_0).elim (fun h1 => by omega) (fun h1 => by omega)) (by omega)
      · refine Tr.aload_n (pc := 44) (i := 0) d_X12_fresh_44 rfl rfl ?_
        refine Tr.aload_n (pc := 45) (i := 0) d_X12_fresh_45 rfl rfl ?_
        refine Tr.getf (pc := 46) d_X12_fresh_46 f_12_32 (by decide) (by decide) (ty_120 hS.1.1) ?_
        refine Tr.tp g120_7 k37_120_7 ?_
        refine Tr.callV (pc := 49) (as := [_]) d_X12_fresh_49 s_12_457 ok_X12_partOf rfl rfl (Nat.le_of_ble_eq_true rfl) (Nat.le_of_ble_eq_true rfl) (by decide) (ty_120 hS.1.1) ?_
        refine Tr.imp (Tr.deep (by decide) (sp_X12_partOf_120_w1 hS.1.wk ((kp_X12_fresh_120_w1_120_37 hS).trans en_120_37) g120_7 (by omega))) ?_
        rintro M49 _ ⟨h49, r49, rfl, lr49, ur49⟩
        have h49 := St.rn h49 (Pm0.of hS.1.2.2.2.2 (fun _ => (ka_X12_partOf_120_w1_131 h49 _)) (fun _ => (ka_X12_partOf_120_w1_137 h49 _)) (fun _ => (ka_X12_partOf_120_w1_138 h49 _)) (fun _ => (ka_X12_partOf_120_w1_139 h49 _)) (fun _ => (ka_X12_partOf_120_w1_140 h49 _)) (fun _ => (ka_X12_partOf_120_w1_141 h49 _)) (fun _ => (ka_X12_partOf_120_w1_142 h49 _)) (fun _ => (ka_X12_partOf_120_w1_143 h49 _)) (fun _ => (ka_X12_partOf_120_w1_151 h49 _)) (fun _ => (ka_X12_partOf_120_w1_152 h49 _)) (kp_X12_partOf_120_w1_126_0 h49) (kp_X12_partOf_120_w1_126_1 h49) (kp_X12_partOf_120_w1_136_0 h49) (kp_X12_partOf_120_w1_136_1 h49) (kp_X12_partOf_120_w1_123_0 h49) (kp_X12_partOf_120_w1_123_1 h49) (kp_X12_partOf_120_w1_124_0 h49) (kp_X12_partOf_120_w1_124_1 h49) (kp_X12_partOf_120_w1_120_8 h49) (kp_X12_partOf_120_w1_120_36 h49) (kp_X12_partOf_120_w1_120_50 h49))
        have hS := St.tr hS h49 (by decide) (by decide)
        refine Tr.sc [(0, r49)] rfl ?_
        refine Tr.iconst (pc := 52) d_X12_fresh_52 (by decide) ?_
        have J80 : ∀ (M : Mem), St Pm0 ws_X12_fresh_120_w1 as_X12_fresh_120_w1 M0 M → rd M 120 3 = g120_3 → rd M 120 4 = g120_4 → rd M 120 5 = g120_5 → rd M 120 7 = g120_7 → rd M 120 8 = u37_120_8 → tav M = g9010_0 → (u37_120_8 ≠ 0 ∨ g120_3 ≠ 0) → (g120_8 = 0) → Tr l K 2 mX12_fresh 80 [(0, (2, 120))] [] M (q_X12_fresh_120_w1 M0) := by
          intro M  hS  k80_120_3 k80_120_4 k80_120_5 k80_120_7 k80_120_8 k80_9010_0 t80_0 t80_1
          clear k37_120_3 k37_120_4 k37_120_5 k37_120_7 k37_120_8 k37_9010_0
          replace t80_0 := hd_i t80_0
          refine Tr.aload_n (pc := 80) (i := 0) d_X12_fresh_80 rfl rfl ?_
          refine Tr.iconst (pc := 81) d_X12_fresh_81 (by decide) ?_
          refine Tr.aload_n (pc := 82) (i := 0) d_X12_fresh_82 rfl rfl ?_
          refine Tr.getf (pc := 83) d_X12_fresh_83 f_12_23 (by decide) (by decide) (ty_120 hS.1.1) ?_
          refine Tr.tp g120_4 k80_120_4 ?_
          refine Tr.callV (pc := 86) (as := [_, _]) d_X12_fresh_86 s_12_389 ok_X12_blame rfl rfl (Nat.le_of_ble_eq_true rfl) (Nat.le_of_ble_eq_true rfl) (by decide) (ty_120 hS.1.1) ?_
          refine Tr.imp (Tr.deep (by decide) (ns_X12_blame_120_w1 (G120_8 := u37_120_8) hS.1 (k80_120_8) 2 (by omega) g120_4 (by and_intros <;> omega))) ?_
          rintro M86 _ ⟨h86, s86_120_8, es86_120_8, bs86_120_8, rfl, z86_0⟩
          have hS := St.tr hS h86 (by decide) (by decide)
          refine Tr.sc [] rfl ?_
          refine Tr.pick [0] (ls2 := [(0, (2, 120))]) rfl ?_
          exact J89 _ _ hS (by and_intros <;> omega) ((kp_X12_blame_120_w1_120_3 h86).trans k80_120_3) ((kp_X12_blame_120_w1_120_4 h86).trans k80_120_4) ((kp_X12_blame_120_w1_120_5 h86).trans k80_120_5) ((kp_X12_blame_120_w1_120_7 h86).trans k80_120_7) es86_120_8 ((tav_of ((kp_X12_blame_120_w1_120_5 h86).trans rfl) ((kp_X12_blame_120_w1_120_3 h86).trans rfl)).trans k80_9010_0) (by exact (hd_o z86_0).elim (fun h1 => by omega) (fun h1 => by omega)) (by omega)
        refine Tr.icmp_ne (pc := 53) (tgt := 80) d_X12_fresh_53 rfl (fun c53 => ?_) (fun c53 => ?_)
        · have c53b : 0 ≤ r49 ∧ r49 ≤ 5 := by omega
          replace c53 := hd_i c53
          refine Tr.pick [0] (ls2 := [(0, (2, 120))]) rfl ?_
          exact J80 _ hS ((kp_X12_partOf_120_w1_120_3 h49).trans k37_120_3) ((kp_X12_partOf_120_w1_120_4 h49).trans k37_120_4) ((kp_X12_partOf_120_w1_120_5 h49).trans k37_120_5) ((kp_X12_partOf_120_w1_120_7 h49).trans k37_120_7) ((kp_X12_partOf_120_w1_120_8 h49).trans k37_120_8) ((tav_of ((kp_X12_partOf_120_w1_120_5 h49).trans rfl) ((kp_X12_partOf_120_w1_120_3 h49).trans rfl)).trans k37_9010_0) (by first | exact (hd_o t37_0) | exact (hd_o t37_0).elim (fun h1 => by omega) (fun h1 => by omega)) (by omega)
        · refine Tr.aload_n (pc := 56) (i := 0) d_X12_fresh_56 rfl rfl ?_
          refine Tr.aload_n (pc := 57) (i := 0) d_X12_fresh_57 rfl rfl ?_
          refine Tr.getf (pc := 58) d_X12_fresh_58 f_12_32 (by decide) (by decide) (ty_120 hS.1.1) ?_
          refine Tr.tp g120_7 ((kp_X12_partOf_120_w1_120_7 h49).trans k37_120_7) ?_
          refine Tr.callV (pc := 61) (as := [_]) d_X12_fresh_61 s_12_461 ok_X12_inputOf rfl rfl (Nat.le_of_ble_eq_true rfl) (Nat.le_of_ble_eq_true rfl) (by decide) (ty_120 hS.1.1) ?_
          refine Tr.imp (Tr.deep (by decide) (sp_X12_inputOf_120_w1 hS.1.wk ((kp_X12_fresh_120_w1_120_37 hS).trans en_120_37) g120_7 (by omega))) ?_
          rintro M61 _ ⟨h61, r61, rfl, lr61, ur61⟩
          have h61 := St.rn h61 (Pm0.of hS.1.2.2.2.2 (fun _ => (ka_X12_inputOf_120_w1_131 h61 _)) (fun _ => (ka_X12_inputOf_120_w1_137 h61 _)) (fun _ => (ka_X12_inputOf_120_w1_138 h61 _)) (fun _ => (ka_X12_inputOf_120_w1_139 h61 _)) (fun _ => (ka_X12_inputOf_120_w1_140 h61 _)) (fun _ => (ka_X12_inputOf_120_w1_141 h61 _)) (fun _ => (ka_X12_inputOf_120_w1_142 h61 _)) (fun _ => (ka_X12_inputOf_120_w1_143 h61 _)) (fun _ => (ka_X12_inputOf_120_w1_151 h61 _)) (fun _ => (ka_X12_inputOf_120_w1_152 h61 _)) (kp_X12_inputOf_120_w1_126_0 h61) (kp_X12_inputOf_120_w1_126_1 h61) (kp_X12_inputOf_120_w1_136_0 h61) (kp_X12_inputOf_120_w1_136_1 h61) (kp_X12_inputOf_120_w1_123_0 h61) (kp_X12_inputOf_120_w1_123_1 h61) (kp_X12_inputOf_120_w1_124_0 h61) (kp_X12_inputOf_120_w1_124_1 h61) (kp_X12_inputOf_120_w1_120_8 h61) (kp_X12_inputOf_120_w1_120_36 h61) (kp_X12_inputOf_120_w1_120_50 h61))
          have hS := St.tr hS h61 (by decide) (by decide)
          refine Tr.sc [(0, r61)] rfl ?_
          refine Tr.iconst (pc := 64) d_X12_fresh_64 (by decide) ?_
          refine Tr.icmp_ne (pc := 65) (tgt := 80) d_X12_fresh_65 rfl (fun c65 => ?_) (fun c65 => ?_)
          · have c65b : 0 ≤ r61 ∧ r61 ≤ 2 := by omega
            replace c65 := hd_i c65
            refine Tr.pick [0] (ls2 := [(0, (2, 120))]) rfl ?_
            exact J80 _ hS ((kp_X12_inputOf_120_w1_120_3 h61).trans ((kp_X12_partOf_120_w1_120_3 h49).trans k37_120_3)) ((kp_X12_inputOf_120_w1_120_4 h61).trans ((kp_X12_partOf_120_w1_120_4 h49).trans k37_120_4)) ((kp_X12_inputOf_120_w1_120_5 h61).trans ((kp_X12_partOf_120_w1_120_5 h49).trans k37_120_5)) ((kp_X12_inputOf_120_w1_120_7 h61).trans ((kp_X12_partOf_120_w1_120_7 h49).trans k37_120_7)) ((kp_X12_inputOf_120_w1_120_8 h61).trans ((kp_X12_partOf_120_w1_120_8 h49).trans k37_120_8)) ((tav_of ((kp_X12_inputOf_120_w1_120_5 h61).trans ((kp_X12_partOf_120_w1_120_5 h49).trans rfl)) ((kp_X12_inputOf_120_w1_120_3 h61).trans ((kp_X12_partOf_120_w1_120_3 h49).trans rfl))).trans k37_9010_0) (by first | exact (hd_o t37_0) | exact (hd_o t37_0).elim (fun h1 => by omega) (fun h1 => by omega)) (by omega)
          · refine Tr.aload_n (pc := 68) (i := 0) d_X12_fresh_68 rfl rfl ?_
            refine Tr.aload_n (pc := 69) (i := 0) d_X12_fresh_69 rfl rfl ?_
            refine Tr.getf (pc := 70) d_X12_fresh_70 f_12_32 (by decide) (by decide) (ty_120 hS.1.1) ?_
            refine Tr.tp g120_7 ((kp_X12_inputOf_120_w1_120_7 h61).trans ((kp_X12_partOf_120_w1_120_7 h49).trans k37_120_7)) ?_
            refine Tr.callV (pc := 73) (as := [_]) d_X12_fresh_73 s_12_464 ok_X12_varOf rfl rfl (Nat.le_of_ble_eq_true rfl) (Nat.le_of_ble_eq_true rfl) (by decide) (ty_120 hS.1.1) ?_
            refine Tr.imp (Tr.deep (by decide) (sp_X12_varOf_120_w1 hS.1.wk ((kp_X12_fresh_120_w1_120_37 hS).trans en_120_37) g120_7 (by omega))) ?_
            rintro M73 _ ⟨h73, r73, rfl, lr73, ur73⟩
            have h73 := St.rn h73 (Pm0.of hS.1.2.2.2.2 (fun _ => (ka_X12_varOf_120_w1_131 h73 _)) (fun _ => (ka_X12_varOf_120_w1_137 h73 _)) (fun _ => (ka_X12_varOf_120_w1_138 h73 _)) (fun _ => (ka_X12_varOf_120_w1_139 h73 _)) (fun _ => (ka_X12_varOf_120_w1_140 h73 _)) (fun _ => (ka_X12_varOf_120_w1_141 h73 _)) (fun _ => (ka_X12_varOf_120_w1_142 h73 _)) (fun _ => (ka_X12_varOf_120_w1_143 h73 _)) (fun _ => (ka_X12_varOf_120_w1_151 h73 _)) (fun _ => (ka_X12_varOf_120_w1_152 h73 _)) (kp_X12_varOf_120_w1_126_0 h73) (kp_X12_varOf_120_w1_126_1 h73) (kp_X12_varOf_120_w1_136_0 h73) (kp_X12_varOf_120_w1_136_1 h73) (kp_X12_varOf_120_w1_123_0 h73) (kp_X12_varOf_120_w1_123_1 h73) (kp_X12_varOf_120_w1_124_0 h73) (kp_X12_varOf_120_w1_124_1 h73) (kp_X12_varOf_120_w1_120_8 h73) (kp_X12_varOf_120_w1_120_36 h73) (kp_X12_varOf_120_w1_120_50 h73))
            have hS := St.tr hS h73 (by decide) (by decide)
            refine Tr.sc [(0, r73)] rfl ?_
            refine Tr.iconst (pc := 76) d_X12_fresh_76 (by decide) ?_
            refine Tr.icmp_eq (pc := 77) (tgt := 89) d_X12_fresh_77 rfl (fun c77 => ?_) (fun c77 => ?_)
            · refine Tr.pick [0] (ls2 := [(0, (2, 120))]) rfl ?_
              exact J89 _ _ hS (by and_intros <;> omega) ((kp_X12_varOf_120_w1_120_3 h73).trans ((kp_X12_inputOf_120_w1_120_3 h61).trans ((kp_X12_partOf_120_w1_120_3 h49).trans k37_120_3))) ((kp_X12_varOf_120_w1_120_4 h73).trans ((kp_X12_inputOf_120_w1_120_4 h61).trans ((kp_X12_partOf_120_w1_120_4 h49).trans k37_120_4))) ((kp_X12_varOf_120_w1_120_5 h73).trans ((kp_X12_inputOf_120_w1_120_5 h61).trans ((kp_X12_partOf_120_w1_120_5 h49).trans k37_120_5))) ((kp_X12_varOf_120_w1_120_7 h73).trans ((kp_X12_inputOf_120_w1_120_7 h61).trans ((kp_X12_partOf_120_w1_120_7 h49).trans k37_120_7))) ((kp_X12_varOf_120_w1_120_8 h73).trans ((kp_X12_inputOf_120_w1_120_8 h61).trans ((kp_X12_partOf_120_w1_120_8 h49).trans k37_120_8))) ((tav_of ((kp_X12_varOf_120_w1_120_5 h73).trans ((kp_X12_inputOf_120_w1_120_5 h61).trans ((kp_X12_partOf_120_w1_120_5 h49).trans rfl))) ((kp_X12_varOf_120_w1_120_3 h73).trans ((kp_X12_inputOf_120_w1_120_3 h61).trans ((kp_X12_partOf_120_w1_120_3 h49).trans rfl)))).trans k37_9010_0) (by first | exact (hd_o t37_0) | exact (hd_o t37_0).elim (fun h1 => by omega) (fun h1 => by omega)) (by omega)
            · have c77b : 0 ≤ r73 ∧ r73 ≤ 5 := by omega
              replace c77 := hd_i c77
              refine Tr.pick [0] (ls2 := [(0, (2, 120))]) rfl ?_
              exact J80 _ hS ((kp_X12_varOf_120_w1_120_3 h73).trans ((kp_X12_inputOf_120_w1_120_3 h61).trans ((kp_X12_partOf_120_w1_120_3 h49).trans k37_120_3))) ((kp_X12_varOf_120_w1_120_4 h73).trans ((kp_X12_inputOf_120_w1_120_4 h61).trans ((kp_X12_partOf_120_w1_120_4 h49).trans k37_120_4))) ((kp_X12_varOf_120_w1_120_5 h73).trans ((kp_X12_inputOf_120_w1_120_5 h61).trans ((kp_X12_partOf_120_w1_120_5 h49).trans k37_120_5))) ((kp_X12_varOf_120_w1_120_7 h73).trans ((kp_X12_inputOf_120_w1_120_7 h61).trans ((kp_X12_partOf_120_w1_120_7 h49).trans k37_120_7))) ((kp_X12_varOf_120_w1_120_8 h73).trans ((kp_X12_inputOf_120_w1_120_8 h61).trans ((kp_X12_partOf_120_w1_120_8 h49).trans k37_120_8))) ((tav_of ((kp_X12_varOf_120_w1_120_5 h73).trans ((kp_X12_inputOf_120_w1_120_5 h61).trans ((kp_X12_partOf_120_w1_120_5 h49).trans rfl))) ((kp_X12_varOf_120_w1_120_3 h73).trans ((kp_X12_inputOf_120_w1_120_3 h61).trans ((kp_X12_partOf_120_w1_120_3 h49).trans rfl)))).trans k37_9010_0) (by first | exact (hd_o t37_0) | exact (hd_o t37_0).elim (fun h1 => by omega) (fun h1 => by omega)) (by omega)
    have J28 : ∀ (M : Mem), St Pm0 ws_X12_fresh_120_w1 as_X12_fresh_120_w1 M0 M → rd M 120 3 = g120_3 → rd M 120 4 = g120_4 → rd M 120 5 = g120_5 → rd M 120 7 = g120_7 → rd M 120 8 = g120_8 → tav M = g9010_0 → (g120_8 = 0) → (g120_8 = 0) → Tr l K 2 mX12_fresh 28 [(0, (2, 120))] [] M (q_X12_fresh_120_w1 M0) := by
      intro M  hS  k28_120_3 k28_120_4 k28_120_5 k28_120_7 k28_120_8 k28_9010_0 t28_0 t28_1
      refine Tr.aload_n (pc := 28) (i := 0) d_X12_fresh_28 rfl rfl ?_
      refine Tr.iconst (pc := 29) d_X12_fresh_29 (by decide) ?_
      refine Tr.aload_n (pc := 30) (i := 0) d_X12_fresh_30 rfl rfl ?_
      refine Tr.getf (pc := 31) d_X12_fresh_31 f_12_23 (by decide) (by decide) (ty_120 hS.1.1) ?_
      refine Tr.tp g120_4 k28_120_4 ?_
      refine Tr.callV (pc := 34) (as := [_, _]) d_X12_fresh_34 s_12_389 ok_X12_blame rfl rfl (Nat.le_of_ble_eq_true rfl) (Nat.le_of_ble_eq_true rfl) (by decide) (ty_120 hS.1.1) ?_
      refine Tr.imp (Tr.deep (by decide) (ns_X12_blame_120_w1 (G120_8 := g120_8) hS.1 (k28_120_8) 1 (by omega) g120_4 (by and_intros <;> omega))) ?_
      rintro M34 _ ⟨h34, s34_120_8, es34_120_8, bs34_120_8, rfl, z34_0⟩
      have hS := St.tr hS h34 (by decide) (by decide)
      refine Tr.sc [] rfl ?_
      refine Tr.pick [0] (ls2 := [(0, (2, 120))]) rfl ?_
      exact J37 _ _ hS (by and_intros <;> omega) ((kp_X12_blame_120_w1_120_3 h34).trans k28_120_3) ((kp_X12_blame_120_w1_120_4 h34).trans k28_120_4) ((kp_X12_blame_120_w1_120_5 h34).trans k28_120_5) ((kp_X12_blame_120_w1_120_7 h34).trans k28_120_7) es34_120_8 ((tav_of ((kp_X12_blame_120_w1_120_5 h34).trans rfl) ((kp_X12_blame_120_w1_120_3 h34).trans rfl)).trans k28_9010_0) (by exact (hd_o z34_0).elim (fun h1 => by omega) (fun h1 => by omega)) (by omega)
    refine Tr.icmp_ne (pc := 14) (tgt := 28) d_X12_fresh_14 rfl (fun c14 => ?_) (fun c14 => ?_)
    · replace c14 := hd_i c14
      refine Tr.pick [0] (ls2 := [(0, (2, 120))]) rfl ?_
      exact J28 _ hS eg120_3 eg120_4 eg120_5 eg120_7 eg120_8 eg9010_0 (by omega) (by omega)
    · refine Tr.aload_n (pc := 17) (i := 0) d_X12_fresh_17 rfl rfl ?_
      refine Tr.aload_n (pc := 18) (i := 0) d_X12_fresh_18 rfl rfl ?_
      refine Tr.getf (pc := 19) d_X12_fresh_19 f_12_32 (by decide) (by decide) (ty_120 hS.1.1) ?_
      refine Tr.tp g120_7 eg120_7 ?_
      refine Tr.callV (pc := 22) (as := [_]) d_X12_fresh_22 s_12_453 ok_X12_isOwn rfl rfl (Nat.le_of_ble_eq_true rfl) (Nat.le_of_ble_eq_true rfl) (by decide) (ty_120 hS.1.1) ?_
      refine Tr.imp (Tr.deep (by decide) (sp_X12_isOwn_120 hS.1.wk g120_7 (by omega))) ?_
      rintro M22 _ ⟨h22, r22, rfl, lr22, ur22⟩
      have h22 := St.rn h22 (Pm0.of hS.1.2.2.2.2 (fun _ => (ka_X12_isOwn_120_131 h22 _)) (fun _ => (ka_X12_isOwn_120_137 h22 _)) (fun _ => (ka_X12_isOwn_120_138 h22 _)) (fun _ => (ka_X12_isOwn_120_139 h22 _)) (fun _ => (ka_X12_isOwn_120_140 h22 _)) (fun _ => (ka_X12_isOwn_120_141 h22 _)) (fun _ => (ka_X12_isOwn_120_142 h22 _)) (fun _ => (ka_X12_isOwn_120_143 h22 _)) (fun _ => (ka_X12_isOwn_120_151 h22 _)) (fun _ => (ka_X12_isOwn_120_152 h22 _)) (kp_X12_isOwn_120_126_0 h22) (kp_X12_isOwn_120_126_1 h22) (kp_X12_isOwn_120_136_0 h22) (kp_X12_isOwn_120_136_1 h22) (kp_X12_isOwn_120_123_0 h22) (kp_X12_isOwn_120_123_1 h22) (kp_X12_isOwn_120_124_0 h22) (kp_X12_isOwn_120_124_1 h22) (kp_X12_isOwn_120_120_8 h22) (kp_X12_isOwn_120_120_36 h22) (kp_X12_isOwn_120_120_50 h22))
      have hS := St.tr hS h22 (by decide) (by decide)
      refine Tr.sc [(0, r22)] rfl ?_
      refine Tr.if_eq (pc := 25) (tgt := 37) d_X12_fresh_25 rfl (fun c25 => ?_) (fun c25 => ?_)
      · refine Tr.pick [0] (ls2 := [(0, (2, 120))]) rfl ?_
        exact J37 _ _ hS (by and_intros <;> omega) ((kp_X12_isOwn_120_120_3 h22).trans eg120_3) ((kp_X12_isOwn_120_120_4 h22).trans eg120_4) ((kp_X12_isOwn_120_120_5 h22).trans eg120_5) ((kp_X12_isOwn_120_120_7 h22).trans eg120_7) ((kp_X12_isOwn_120_120_8 h22).trans eg120_8) ((tav_of ((kp_X12_isOwn_120_120_5 h22).trans rfl) ((kp_X12_isOwn_120_120_3 h22).trans rfl)).trans eg9010_0) (by omega) (by omega)
      · have c25b : 1 ≤ r22 ∧ r22 ≤ 1 := by omega
        replace c25 := hd_i c25
        refine Tr.pick [0] (ls2 := [(0, (2, 120))]) rfl ?_
        exact J28 _ hS ((kp_X12_isOwn_120_120_3 h22).trans eg120_3) ((kp_X12_isOwn_120_120_4 h22).trans eg120_4) ((kp_X12_isOwn_120_120_5 h22).trans eg120_5) ((kp_X12_isOwn_120_120_7 h22).trans eg120_7) ((kp_X12_isOwn_120_120_8 h22).trans eg120_8) ((tav_of ((kp_X12_isOwn_120_120_5 h22).trans rfl) ((kp_X12_isOwn_120_120_3 h22).trans rfl)).trans eg9010_0) (by omega) (by omega)
  · refine Tr.lconst (pc := 7) (v := 0) d_X12_fresh_7 rfl (by decide) ?_
    have kr_120_3 : rd M0 120 3 = g120_3 := eg120_3
    have kr_120_4 : rd M0 120 4 = g120_4 := eg120_4
    have kr_120_5 : rd M0 120 5 = g120_5 := eg120_5
    have kr_120_7 : rd M0 120 7 = g120_7 := eg120_7
    have kr_120_8 : rd M0 120 8 = g120_8 := eg120_8
    have kr_9010_0 : tav M0 = g9010_0 := eg9010_0
    exact Tr.lret (pc := 8) d_X12_fresh_8 rfl ⟨hS, _, rfl, by omega, by omega, (by first | exact (hd_o hq0) | exact (hd_o hq0).elim (fun h1 => by omega) (fun h1 => by omega)), (by omega), (by first | exact (hd_o hq2) | exact (hd_o hq2).elim (fun h1 => by omega) (fun h1 => h1.elim (fun h1 => by omega) (fun h1 => by omega))), (by and_intros <;> omega), (by omega), (by omega)⟩

set_option maxRecDepth 100000 in
set_option maxHeartbeats 4000000 in
theorem ns_X12_fresh_120_w1 {l : Launch} {K : EC} {M0 : Mem} {G120_3 G120_4 G120_5 G120_7 G120_8 G9010_0 : Int} (hI : In Pm0 M0) (k120_3 : rd M0 120 3 = G120_3) (k120_4 : rd M0 120 4 = G120_4) (k120_5 : rd M0 120 5 = G120_5) (k120_7 : rd M0 120 7 = G120_7) (k120_8 : rd M0 120 8 = G120_8) (k9010_0 : tav M0 = G9010_0) (en_120_37 : rd M0 120 37 = 0)   (hq0 : G120_3 = 0 ∨ G120_4 + 1 ≤ G120_5) (hq1 : G120_4 ≤ G120_5) (hq2 : G120_3 ≠ 1 ∨ G120_4 + 2 ≤ G120_5 ∨ G120_7 < 256) : Tr l K 2 mX12_fresh 0 [(0, (2, 120))] [] M0 (fun M' r => St Pm0 ws_X12_fresh_120_w1 as_X12_fresh_120_w1 M0 M' ∧ ∃ S120_3 S120_4 S120_5 S120_7 S120_8 S9010_0 : Int, rd M' 120 3 = S120_3 ∧ (0 ≤ S120_3 ∧ S120_3 ≤ 3) ∧ rd M' 120 4 = S120_4 ∧ (0 ≤ S120_4 ∧ S120_4 ≤ 900) ∧ rd M' 120 5 = S120_5 ∧ (0 ≤ S120_5 ∧ S120_5 ≤ 900) ∧ rd M' 120 7 = S120_7 ∧ ((-9223372036854775808) ≤ S120_7 ∧ S120_7 ≤ 9223372036854775807) ∧ rd M' 120 8 = S120_8 ∧ (0 ≤ S120_8 ∧ S120_8 ≤ 5) ∧ tav M' = S9010_0 ∧ ((-1) ≤ S9010_0 ∧ S9010_0 ≤ 1800) ∧ ∃ v : Int, r = some (1, v) ∧ (-9223372036854775808) ≤ v ∧ v ≤ 9223372036854775807 ∧ Hd (S120_3 = 0 ∨ S120_4 + 1 ≤ S120_5) ∧ (S120_4 ≤ S120_5) ∧ Hd (S120_3 ≠ 1 ∨ S120_4 + 2 ≤ S120_5 ∨ S120_7 < 256) ∧ (G120_4 ≤ S120_4 ∧ G120_5 ≤ S120_5 ∧ G9010_0 ≤ S9010_0) ∧ Hd (G120_8 = 0 ∨ S120_8 = G120_8) ∧ Hd (1 ≤ S120_8 ∨ G9010_0 < S9010_0)) := by
  subst k120_3
  subst k120_4
  subst k120_5
  subst k120_7
  subst k120_8
  subst k9010_0
  refine Tr.imp (sp_X12_fresh_120_w1 hI en_120_37 hq0 hq1 hq2) ?_
  rintro M' _ ⟨hS, v, rfl, lr, ur, z0, z1, z2, z3, z4, z5⟩
  exact ⟨hS, _, _, _, _, _, _, rfl, ir_120_3 hS.1.2.1, rfl, ir_120_4 hS.1.2.1, rfl, ir_120_5 hS.1.2.1, rfl, ir_120_7 hS.1.2.1, rfl, ir_120_8 hS.1.2.1, rfl, (tav_b hS.1.2.1), v, rfl, lr, ur, hd_i z0, z1, hd_i z2, z3, hd_i z4, hd_i z5⟩

def ws_X12_variable_120_w1 : List (Int × Int) := [(120, 3), (120, 4), (120, 5), (120, 6), (120, 7), (120, 8), (120, 9), (128, 0)]
def as_X12_variable_120_w1 : List Int := [135]
def q_X12_variable_120_w1 (M0 M' : Mem) (r : Option PV) : Prop := St Pm0 ws_X12_variable_120_w1 as_X12_variable_120_w1 M0 M' ∧ r = none ∧ (rd M' 120 3 = 0 ∨ rd M' 120 4 + 1 ≤ rd M' 120 5) ∧ (rd M' 120 4 ≤ rd M' 120 5) ∧ (rd M' 120 3 ≠ 1 ∨ rd M' 120 4 + 2 ≤ rd M' 120 5 ∨ rd M' 120 7 < 256) ∧ (rd M0 120 4 ≤ rd M' 120 4 ∧ rd M0 120 5 ≤ rd M' 120 5 ∧ tav M0 ≤ tav M') ∧ (rd M0 120 8 = 0 ∨ rd M' 120 8 = rd M0 120 8) ∧ (1 ≤ rd M' 120 8 ∨ tav M0 < tav M')
theorem kp_X12_variable_120_w1_120_37 {q : Mem → Prop} {M0 M : Mem} (h : St q ws_X12_variable_120_w1 as_X12_variable_120_w1 M0 M) : rd M 120 37 = rd M0 120 37 := St.kp h (by decide) (by decide) (by decide)
theorem kp_X12_counts_120_w1_128_0 {q : Mem → Prop} {M0 M : Mem} (h : St q ws_X12_counts_120_w1 as_X12_counts_120_w1 M0 M) : rd M 128 0 = rd M0 128 0 := St.kp h (by decide) (by decide) (by decide)
theorem kp_X12_fresh_120_w1_128_0 {q : Mem → Prop} {M0 M : Mem} (h : St q ws_X12_fresh_120_w1 as_X12_fresh_120_w1 M0 M) : rd M 128 0 = rd M0 128 0 := St.kp h (by decide) (by decide) (by decide)
set_option maxRecDepth 100000 in
set_option maxHeartbeats 4000000 in
theorem sp_X12_variable_120_w1 {l : Launch} {K : EC} {M0 : Mem} (hI : In Pm0 M0) (en_120_37 : rd M0 120 37 = 0)   (hq0 : rd M0 120 3 = 0 ∨ rd M0 120 4 + 1 ≤ rd M0 120 5) (hq1 : rd M0 120 4 ≤ rd M0 120 5) (hq2 : rd M0 120 3 ≠ 1 ∨ rd M0 120 4 + 2 ≤ rd M0 120 5 ∨ rd M0 120 7 < 256) (hq3 : rd M0 120 3 ≠ 0) (hq4 : rd M0 120 8 = 0) : Tr l K 3 mX12_variable 0 [(0, (2, 120))] [] M0 (q_X12_variable_120_w1 M0) := by
  have hS : St Pm0 ws_X12_variable_120_w1 as_X12_variable_120_w1 M0 M0 := St.rf hI
  obtain ⟨g120_8, eg120_8⟩ : ∃ v, rd M0 120 8 = v := ⟨_, rfl⟩
  have bg120_8 : 0 ≤ g120_8 ∧ g120_8 ≤ 5 := by rw [← eg120_8]; exact ir_120_8 hI.2.1
  obtain ⟨g120_3, eg120_3⟩ : ∃ v, rd M0 120 3 = v := ⟨_, rfl⟩
  have bg120_3 : 0 ≤ g120_3 ∧ g120_3 ≤ 3 := by rw [← eg120_3]; exact ir_120_3 hI.2.1
  obtain ⟨g120_4, eg120_4⟩ : ∃ v, rd M0 120 4 = v := ⟨_, rfl⟩
  have bg120_4 : 0 ≤ g120_4 ∧ g120_4 ≤ 900 := by rw [← eg120_4]; exact ir_120_4 hI.2.1
  obtain ⟨g120_5, eg120_5⟩ : ∃ v, rd M0 120 5 = v := ⟨_, rfl⟩
  have bg120_5 : 0 ≤ g120_5 ∧ g120_5 ≤ 900 := by rw [← eg120_5]; exact ir_120_5 hI.2.1
  obtain ⟨g120_7, eg120_7⟩ : ∃ v, rd M0 120 7 = v := ⟨_, rfl⟩
  have bg120_7 : (-9223372036854775808) ≤ g120_7 ∧ g120_7 ≤ 9223372036854775807 := by rw [← eg120_7]; exact ir_120_7 hI.2.1
  obtain ⟨g9010_0, eg9010_0⟩ : ∃ v, tav M0 = v := ⟨_, rfl⟩
  have bg9010_0 : (-1) ≤ g9010_0 ∧ g9010_0 ≤ 1800 := by rw [← eg9010_0]; exact (tav_b hI.2.1)
  obtain ⟨g128_0, eg128_0⟩ : ∃ v, rd M0 128 0 = v := ⟨_, rfl⟩
  have bg128_0 : 0 ≤ g128_0 ∧ g128_0 ≤ 6 := by rw [← eg128_0]; exact ir_128_0 hI.2.1
  replace hq0 := hd_i hq0
  replace hq2 := hd_i hq2
  replace hq3 := hd_i hq3
  refine Tr.aload_n (pc := 0) (i := 0) d_X12_variable_0 rfl rfl ?_
  refine Tr.aload_n (pc := 1) (i := 0) d_X12_variable_1 rfl rfl ?_
  refine Tr.getf (pc := 2) d_X12_variable_2 f_12_69 (by decide) (by decide) (ty_120 hS.1.1) ?_
  refine Tr.tp 128 (fx_120_19 hS.1.1) ?_
  refine Tr.aload_n (pc := 5) (i := 0) d_X12_variable_5 rfl rfl ?_
  refine Tr.getf (pc := 6) d_X12_variable_6 f_12_124 (by decide) (by decide) (ty_120 hS.1.1) ?_
  refine Tr.tp 0 ((kp_X12_variable_120_w1_120_37 hS).trans en_120_37) ?_
  refine Tr.iald (pc := 9) d_X12_variable_9 (ty_128 hS.1.1) (by omega) (by omega) ?_
  refine Tr.tp g128_0 eg128_0 ?_
  refine Tr.bipush (pc := 10) d_X12_variable_10 rfl (by decide) ?_
  have J20 : ∀ (M : Mem) (q20_1 : Int), St Pm0 ws_X12_variable_120_w1 as_X12_variable_120_w1 M0 M → (0 ≤ q20_1 ∧ q20_1 ≤ 1) → rd M 120 3 = g120_3 → rd M 120 4 = g120_4 → rd M 120 5 = g120_5 → rd M 120 7 = g120_7 → rd M 120 8 = g120_8 → rd M 128 0 = g128_0 → tav M = g9010_0 → ((q20_1 = 1 ∧ g128_0 = 6) ∨ (q20_1 = 0 ∧ g128_0 ≠ 6)) → Tr l K 3 mX12_variable 20 [(0, (2, 120))] [(0, q20_1), (2, 120)] M (q_X12_variable_120_w1 M0) := by
    intro M q20_1 hS bq20_1 k20_120_3 k20_120_4 k20_120_5 k20_120_7 k20_120_8 k20_128_0 k20_9010_0 t20_0
    replace t20_0 := hd_i t20_0
    refine Tr.callV (pc := 20) (as := [_]) d_X12_variable_20 s_12_505 ok_X12_counts rfl rfl (Nat.le_of_ble_eq_true rfl) (Nat.le_of_ble_eq_true rfl) (by decide) (ty_120 hS.1.1) ?_
    refine Tr.imp (Tr.deep (by decide) (ns_X12_counts_120_w1 (G120_3 := g120_3) (G120_4 := g120_4) (G120_5 := g120_5) (G120_7 := g120_7) (G120_8 := g120_8) (G9010_0 := g9010_0) hS.1 (k20_120_3) (k20_120_4) (k20_120_5) (k20_120_7) (k20_120_8) (k20_9010_0) q20_1 (by and_intros <;> omega) (by first | exact (hd_o hq0) | exact (hd_o hq0).elim (fun h1 => by omega) (fun h1 => by omega)) (by omega) (by first | exact (hd_o hq2) | exact (hd_o hq2).elim (fun h1 => by omega) (fun h1 => h1.elim (fun h1 => by omega) (fun h1 => by omega))) (by have h1 := (hd_o hq3); omega))) ?_
    rintro M20 _ ⟨h20, s20_120_3, s20_120_4, s20_120_5, s20_120_7, s20_120_8, s20_9010_0, es20_120_3, bs20_120_3, es20_120_4, bs20_120_4, es20_120_5, bs20_120_5, es20_120_7, bs20_120_7, es20_120_8, bs20_120_8, es20_9010_0, bs20_9010_0, rfl, z20_0, z20_1, z20_2, z20_3, z20_4, z20_5, z20_6⟩
    have hS := St.tr hS h20 (by decide) (by decide)
    refine Tr.sc [] rfl ?_
    refine Tr.aload_n (pc := 23) (i := 0) d_X12_variable_23 rfl rfl ?_
    refine Tr.getf (pc := 24) d_X12_variable_24 f_12_36 (by decide) (by decide) (ty_120 hS.1.1) ?_
    refine Tr.tp s20_120_8 es20_120_8 ?_
    refine Tr.if_le (pc := 27) (tgt := 31) d_X12_variable_27 rfl (fun c27 => ?_) (fun c27 => ?_)
    · refine Tr.aload_n (pc := 31) (i := 0) d_X12_variable_31 rfl rfl ?_
      refine Tr.getf (pc := 32) d_X12_variable_32 f_12_91 (by decide) (by decide) (ty_120 hS.1.1) ?_
      refine Tr.tp 135 (fx_120_26 hS.1.1) ?_
      refine Tr.bipush (pc := 35) d_X12_variable_35 rfl (by decide) ?_
      refine Tr.aload_n (pc := 37) (i := 0) d_X12_variable_37 rfl rfl ?_
      refine Tr.getf (pc := 38) d_X12_variable_38 f_12_124 (by decide) (by decide) (ty_120 hS.1.1) ?_
      refine Tr.tp 0 ((kp_X12_variable_120_w1_120_37 hS).trans en_120_37) ?_
      refine Tr.imul (pc := 41) d_X12_variable_41 ?_
      refine Tr.tp 0 (by decide) ?_
      refine Tr.aload_n (pc := 42) (i := 0) d_X12_variable_42 rfl rfl ?_
      refine Tr.getf (pc := 43) d_X12_variable_43 f_12_69 (by decide) (by decide) (ty_120 hS.1.1) ?_
      refine Tr.tp 128 (fx_120_19 hS.1.1) ?_
      refine Tr.aload_n (pc := 46) (i := 0) d_X12_variable_46 rfl rfl ?_
      refine Tr.getf (pc := 47) d_X12_variable_47 f_12_124 (by decide) (by decide) (ty_120 hS.1.1) ?_
      refine Tr.tp 0 ((kp_X12_variable_120_w1_120_37 hS).trans en_120_37) ?_
      refine Tr.iald (pc := 50) d_X12_variable_50 (ty_128 hS.1.1) (by omega) (by omega) ?_
      refine Tr.tp g128_0 ((kp_X12_counts_120_w1_128_0 h20).trans k20_128_0) ?_
      refine Tr.iadd (pc := 51) d_X12_variable_51 ?_
      refine Tr.tp g128_0 ((w32_id (by and_intros <;> omega)).trans (by omega)) ?_
      refine Tr.aload_n (pc := 52) (i := 0) d_X12_variable_52 rfl rfl ?_
      refine Tr.callV (pc := 53) (as := []) d_X12_variable_53 s_12_508 ok_X12_fresh rfl rfl (Nat.le_of_ble_eq_true rfl) (Nat.le_of_ble_eq_true rfl) (by decide) (ty_120 hS.1.1) ?_
      refine Tr.imp (Tr.deep (by decide) (ns_X12_fresh_120_w1 (G120_3 := s20_120_3) (G120_4 := s20_120_4) (G120_5 := s20_120_5) (G120_7 := s20_120_7) (G120_8 := s20_120_8) (G9010_0 := s20_9010_0) hS.1 (es20_120_3) (es20_120_4) (es20_120_5) (es20_120_7) (es20_120_8) (es20_9010_0) ((kp_X12_variable_120_w1_120_37 hS).trans en_120_37) (by first | exact (hd_o z20_0) | exact (hd_o z20_0).elim (fun h1 => by omega) (fun h1 => by omega)) (by omega) (by first | exact (hd_o z20_2) | exact (hd_o z20_2).elim (fun h1 => by omega) (fun h1 => h1.elim (fun h1 => by omega) (fun h1 => by omega))))) ?_
      rintro M53 _ ⟨h53, s53_120_3, s53_120_4, s53_120_5, s53_120_7, s53_120_8, s53_9010_0, es53_120_3, bs53_120_3, es53_120_4, bs53_120_4, es53_120_5, bs53_120_5, es53_120_7, bs53_120_7, es53_120_8, bs53_120_8, es53_9010_0, bs53_9010_0, r53, rfl, lr53, ur53, z53_0, z53_1, z53_2, z53_3, z53_4, z53_5⟩
      have hS := St.tr hS h53 (by decide) (by decide)
      refine Tr.sc [(1, r53), (0, g128_0), (2, 135)] rfl ?_
      refine Tr.lastS (pc := 56) (P := St Pm0 ws_X12_variable_120_w1 as_X12_variable_120_w1 M0) d_X12_variable_56 (ty_135 hS.1.1) (by omega) (by omega) (sa_135 hS (by decide) (by omega) (Pm0.of hS.1.2.2.2.2 (fun _ => rd_wb _ rfl) (fun _ => rd_wb _ rfl) (fun _ => rd_wb _ rfl) (fun _ => rd_wb _ rfl) (fun _ => rd_wb _ rfl) (fun _ => rd_wb _ rfl) (fun _ => rd_wb _ rfl) (fun _ => rd_wb _ rfl) (fun _ => rd_wb _ rfl) (fun _ => rd_wb _ rfl) (rd_wb _ rfl) (rd_wb _ rfl) (rd_wb _ rfl) (rd_wb _ rfl) (rd_wb _ rfl) (rd_wb _ rfl) (rd_wb _ rfl) (rd_wb _ rfl) (rd_wb _ rfl) (rd_wb _ rfl) (rd_wb _ rfl))) (fun M56 hS w56 => ?_)
      refine Tr.aload_n (pc := 57) (i := 0) d_X12_variable_57 rfl rfl ?_
      refine Tr.getf (pc := 58) d_X12_variable_58 f_12_36 (by decide) (by decide) (ty_120 hS.1.1) ?_
      refine Tr.tp s53_120_8 ((Wr.b w56 rfl).trans es53_120_8) ?_
      refine Tr.if_ne (pc := 61) (tgt := 77) d_X12_variable_61 rfl (fun c61 => ?_) (fun c61 => ?_)
      · have c61b : 1 ≤ s53_120_8 ∧ s53_120_8 ≤ 5 := by omega
        replace c61 := hd_i c61
        have kr_120_3 : rd M56 120 3 = s53_120_3 := ((Wr.b w56 rfl).trans es53_120_3)
        have kr_120_4 : rd M56 120 4 = s53_120_4 := ((Wr.b w56 rfl).trans es53_120_4)
        have kr_120_5 : rd M56 120 5 = s53_120_5 := ((Wr.b w56 rfl).trans es53_120_5)
        have kr_120_7 : rd M56 120 7 = s53_120_7 := ((Wr.b w56 rfl).trans es53_120_7)
        have kr_120_8 : rd M56 120 8 = s53_120_8 := ((Wr.b w56 rfl).trans es53_120_8)
        have kr_9010_0 : tav M56 = s53_9010_0 := ((tav_of ((Wr.b w56 rfl).trans rfl) ((Wr.b w56 rfl).trans rfl)).trans es53_9010_0)
        exact Tr.vret (pc := 77) d_X12_variable_77 rfl ⟨hS, rfl, (by first | exact (hd_o z53_0) | exact (hd_o z53_0).elim (fun h1 => by omega) (fun h1 => by omega)), (by omega), (by first | exact (hd_o z53_2) | exact (hd_o z53_2).elim (fun h1 => by omega) (fun h1 => h1.elim (fun h1 => by omega) (fun h1 => by omega))), (by and_intros <;> omega), (by omega), (by omega)⟩
      · refine Tr.aload_n (pc := 64) (i := 0) d_X12_variable_64 rfl rfl ?_
        refine Tr.getf (pc := 65) d_X12_variable_65 f_12_69 (by decide) (by decide) (ty_120 hS.1.1) ?_
        refine Tr.tp 128 (fx_120_19 hS.1.1) ?_
        refine Tr.aload_n (pc := 68) (i := 0) d_X12_variable_68 rfl rfl ?_
        refine Tr.getf (pc := 69) d_X12_variable_69 f_12_124 (by decide) (by decide) (ty_120 hS.1.1) ?_
        refine Tr.tp 0 ((kp_X12_variable_120_w1_120_37 hS).trans en_120_37) ?_
        refine Tr.dup2 (pc := 72) d_X12_variable_72 ne01 ne21 ?_
        refine Tr.iald (pc := 73) d_X12_variable_73 (ty_128 hS.1.1) (by omega) (by omega) ?_
        refine Tr.tp g128_0 ((Wr.b w56 rfl).trans ((kp_X12_fresh_120_w1_128_0 h53).trans ((kp_X12_counts_120_w1_128_0 h20).trans k20_128_0))) ?_
        refine Tr.iconst (pc := 74) d_X12_variable_74 (by decide) ?_
        refine Tr.iadd (pc := 75) d_X12_variable_75 ?_
        refine Tr.tp (g128_0 + 1) ((w32_id (by and_intros <;> omega)).trans (by omega)) ?_
        refine Tr.iastS (pc := 76) (P := St Pm0 ws_X12_variable_120_w1 as_X12_variable_120_w1 M0) d_X12_variable_76 (ty_128 hS.1.1) (by omega) (by omega) (st_128_0 hS (by decide) (by exact (hd_o t20_0).elim (fun h1 => (hd_o z20_6).elim (fun h2 => by omega) (fun h2 => by omega)) (fun h1 => (ne_o h1.2).elim (fun h2 => by omega) (fun h2 => by omega))) (Pm0.of hS.1.2.2.2.2 (fun _ => rd_wb _ rfl) (fun _ => rd_wb _ rfl) (fun _ => rd_wb _ rfl) (fun _ => rd_wb _ rfl) (fun _ => rd_wb _ rfl) (fun _ => rd_wb _ rfl) (fun _ => rd_wb _ rfl) (fun _ => rd_wb _ rfl) (fun _ => rd_wb _ rfl) (fun _ => rd_wb _ rfl) (rd_wb _ rfl) (rd_wb _ rfl) (rd_wb _ rfl) (rd_wb _ rfl) (rd_wb _ rfl) (rd_wb _ rfl) (rd_wb _ rfl) (rd_wb _ rfl) (rd_wb _ rfl) (rd_wb _ rfl) (rd_wb _ rfl))) (fun M76 hS w76 => ?_)
        have kr_120_3 : rd M76 120 3 = s53_120_3 := ((Wr.b w76 rfl).trans ((Wr.b w56 rfl).trans es53_120_3))
        have kr_120_4 : rd M76 120 4 = s53_120_4 := ((Wr.b w76 rfl).trans ((Wr.b w56 rfl).trans es53_120_4))
        have kr_120_5 : rd M76 120 5 = s53_120_5 := ((Wr.b w76 rfl).trans ((Wr.b w56 rfl).trans es53_120_5))
        have kr_120_7 : rd M76 120 7 = s53_120_7 := ((Wr.b w76 rfl).trans ((Wr.b w56 rfl).trans es53_120_7))
        have kr_120_8 : rd M76 120 8 = s53_120_8 := ((Wr.b w76 rfl).trans ((Wr.b w56 rfl).trans es53_120_8))
        have kr_9010_0 : tav M76 = s53_9010_0 := ((tav_of ((Wr.b w76 rfl).trans ((Wr.b w56 rfl).trans rfl)) ((Wr.b w76 rfl).trans ((Wr.b w56 rfl).trans rfl))).trans es53_9010_0)
        exact Tr.vret (pc := 77) d_X12_variable_77 rfl ⟨hS, rfl, (by first | exact (hd_o z53_0) | exact (hd_o z53_0).elim (fun h1 => by omega) (fun h1 => by omega)), (by omega), (by first | exact (hd_o z53_2) | exact (hd_o z53_2).elim (fun h1 => by omega) (fun h1 => h1.elim (fun h1 => by omega) (fun h1 => by omega))), (by and_intros <;> omega), (by omega), (by exact (hd_o z53_5).elim (fun h1 => by omega) (fun h1 => by omega))⟩
    · have kr_120_3 : rd M20 120 3 = s20_120_3 := es20_120_3
      have kr_120_4 : rd M20 120 4 = s20_120_4 := es20_120_4
      have kr_120_5 : rd M20 120 5 = s20_120_5 := es20_120_5
      have kr_120_7 : rd M20 120 7 = s20_120_7 := es20_120_7
      have kr_120_8 : rd M20 120 8 = s20_120_8 := es20_120_8
      have kr_9010_0 : tav M20 = s20_9010_0 := es20_9010_0
      exact Tr.vret (pc := 30) d_X12_variable_30 rfl ⟨hS, rfl, (by first | exact (hd_o z20_0) | exact (hd_o z20_0).elim (fun h1 => by omega) (fun h1 => by omega)), (by omega), (by first | exact (hd_o z20_2) | exact (hd_o z20_2).elim (fun h1 => by omega) (fun h1 => h1.elim (fun h1 => by omega) (fun h1 => by omega))), (by and_intros <;> omega), (by first | exact (hd_o z20_4) | exact (hd_o z20_4).elim (fun h1 => by omega) (fun h1 => by omega)), (by first | exact (hd_o z20_5) | exact (hd_o z20_5).elim (fun h1 => by omega) (fun h1 => by omega))⟩
  refine Tr.icmp_ne (pc := 12) (tgt := 19) d_X12_variable_12 rfl (fun c12 => ?_) (fun c12 => ?_)
  · have c12b : 0 ≤ g128_0 ∧ g128_0 ≤ 5 := by omega
    replace c12 := hd_i c12
    refine Tr.iconst (pc := 19) d_X12_variable_19 (by decide) ?_
    refine Tr.pick [0] (ls2 := [(0, (2, 120))]) rfl ?_
    exact J20 _ _ hS (by omega) eg120_3 eg120_4 eg120_5 eg120_7 eg120_8 eg128_0 eg9010_0 (by omega)
  · refine Tr.iconst (pc := 15) d_X12_variable_15 (by decide) ?_
    refine Tr.goto (pc := 16) (tgt := 20) d_X12_variable_16 rfl ?_
    refine Tr.pick [0] (ls2 := [(0, (2, 120))]) rfl ?_
    exact J20 _ _ hS (by omega) eg120_3 eg120_4 eg120_5 eg120_7 eg120_8 eg128_0 eg9010_0 (by omega)

set_option maxRecDepth 100000 in
set_option maxHeartbeats 4000000 in
theorem ns_X12_variable_120_w1 {l : Launch} {K : EC} {M0 : Mem} {G120_3 G120_4 G120_5 G120_7 G120_8 G9010_0 : Int} (hI : In Pm0 M0) (k120_3 : rd M0 120 3 = G120_3) (k120_4 : rd M0 120 4 = G120_4) (k120_5 : rd M0 120 5 = G120_5) (k120_7 : rd M0 120 7 = G120_7) (k120_8 : rd M0 120 8 = G120_8) (k9010_0 : tav M0 = G9010_0) (en_120_37 : rd M0 120 37 = 0)   (hq0 : G120_3 = 0 ∨ G120_4 + 1 ≤ G120_5) (hq1 : G120_4 ≤ G120_5) (hq2 : G120_3 ≠ 1 ∨ G120_4 + 2 ≤ G120_5 ∨ G120_7 < 256) (hq3 : G120_3 ≠ 0) (hq4 : G120_8 = 0) : Tr l K 3 mX12_variable 0 [(0, (2, 120))] [] M0 (fun M' r => St Pm0 ws_X12_variable_120_w1 as_X12_variable_120_w1 M0 M' ∧ ∃ S120_3 S120_4 S120_5 S120_7 S120_8 S9010_0 : Int, rd M' 120 3 = S120_3 ∧ (0 ≤ S120_3 ∧ S120_3 ≤ 3) ∧ rd M' 120 4 = S120_4 ∧ (0 ≤ S120_4 ∧ S120_4 ≤ 900) ∧ rd M' 120 5 = S120_5 ∧ (0 ≤ S120_5 ∧ S120_5 ≤ 900) ∧ rd M' 120 7 = S120_7 ∧ ((-9223372036854775808) ≤ S120_7 ∧ S120_7 ≤ 9223372036854775807) ∧ rd M' 120 8 = S120_8 ∧ (0 ≤ S120_8 ∧ S120_8 ≤ 5) ∧ tav M' = S9010_0 ∧ ((-1) ≤ S9010_0 ∧ S9010_0 ≤ 1800) ∧ r = none ∧ Hd (S120_3 = 0 ∨ S120_4 + 1 ≤ S120_5) ∧ (S120_4 ≤ S120_5) ∧ Hd (S120_3 ≠ 1 ∨ S120_4 + 2 ≤ S120_5 ∨ S120_7 < 256) ∧ (G120_4 ≤ S120_4 ∧ G120_5 ≤ S120_5 ∧ G9010_0 ≤ S9010_0) ∧ Hd (G120_8 = 0 ∨ S120_8 = G120_8) ∧ Hd (1 ≤ S120_8 ∨ G9010_0 < S9010_0)) := by
  subst k120_3
  subst k120_4
  subst k120_5
  subst k120_7
  subst k120_8
  subst k9010_0
  refine Tr.imp (sp_X12_variable_120_w1 hI en_120_37 hq0 hq1 hq2 hq3 hq4) ?_
  rintro M' _ ⟨hS, rfl, z0, z1, z2, z3, z4, z5⟩
  exact ⟨hS, _, _, _, _, _, _, rfl, ir_120_3 hS.1.2.1, rfl, ir_120_4 hS.1.2.1, rfl, ir_120_5 hS.1.2.1, rfl, ir_120_7 hS.1.2.1, rfl, ir_120_8 hS.1.2.1, rfl, (tav_b hS.1.2.1), rfl, hd_i z0, z1, hd_i z2, z3, hd_i z4, hd_i z5⟩

def ws_X12_number_120_w1 : List (Int × Int) := [(120, 3), (120, 4), (120, 5), (120, 6), (120, 7), (120, 8), (120, 9)]
def as_X12_number_120_w1 : List Int := []
def q_X12_number_120_w1 (a1 : Int) (a2 : Int) (M0 M' : Mem) (r : Option PV) : Prop := St Pm0 ws_X12_number_120_w1 as_X12_number_120_w1 M0 M' ∧ ∃ v : Int, r = some (0, v) ∧ (-2147483648) ≤ v ∧ v ≤ 2147483647 ∧ (rd M' 120 3 = 0 ∨ rd M' 120 4 + 1 ≤ rd M' 120 5) ∧ (rd M' 120 4 ≤ rd M' 120 5) ∧ (rd M' 120 3 ≠ 1 ∨ rd M' 120 4 + 2 ≤ rd M' 120 5 ∨ rd M' 120 7 < 256) ∧ (rd M0 120 4 ≤ rd M' 120 4 ∧ rd M0 120 5 ≤ rd M' 120 5 ∧ tav M0 ≤ tav M') ∧ (rd M0 120 8 = 0 ∨ rd M' 120 8 = rd M0 120 8) ∧ (1 ≤ rd M' 120 8 ∨ tav M0 < tav M') ∧ (1 ≤ rd M' 120 8 ∨ (a1 ≤ v ∧ v ≤ a2))
theorem kp_X12_blame_120_w1_120_6 {q : Mem → Prop} {M0 M : Mem} (h : St q ws_X12_blame_120_w1 as_X12_blame_120_w1 M0 M) : rd M 120 6 = rd M0 120 6 := St.kp h (by decide) (by decide) (by decide)
set_option maxRecDepth 100000 in
set_option maxHeartbeats 4000000 in
theorem sp_X12_number_120_w1 {l : Launch} {K : EC} {M0 : Mem} (hI : In Pm0 M0)  (a1 : Int) (ha1 : (-2147483648) ≤ a1 ∧ a1 ≤ 2147483647) (a2 : Int) (ha2 : 0 ≤ a2 ∧ a2 ≤ 999)  (hq0 : rd M0 120 3 = 0 ∨ rd M0 120 4 + 1 ≤ rd M0 120 5) (hq1 : rd M0 120 4 ≤ rd M0 120 5) (hq2 : rd M0 120 3 ≠ 1 ∨ rd M0 120 4 + 2 ≤ rd M0 120 5 ∨ rd M0 120 7 < 256) : Tr l K 2 mX12_number 0 [(0, (2, 120)), (1, (0, a1)), (2, (0, a2))] [] M0 (q_X12_number_120_w1 a1 a2 M0) := by
  have hS : St Pm0 ws_X12_number_120_w1 as_X12_number_120_w1 M0 M0 := St.rf hI
  obtain ⟨g120_8, eg120_8⟩ : ∃ v, rd M0 120 8 = v := ⟨_, rfl⟩
  have bg120_8 : 0 ≤ g120_8 ∧ g120_8 ≤ 5 := by rw [← eg120_8]; exact ir_120_8 hI.2.1
  obtain ⟨g120_3, eg120_3⟩ : ∃ v, rd M0 120 3 = v := ⟨_, rfl⟩
  have bg120_3 : 0 ≤ g120_3 ∧ g120_3 ≤ 3 := by rw [← eg120_3]; exact ir_120_3 hI.2.1
  obtain ⟨g120_4, eg120_4⟩ : ∃ v, rd M0 120 4 = v := ⟨_, rfl⟩
  have bg120_4 : 0 ≤ g120_4 ∧ g120_4 ≤ 900 := by rw [← eg120_4]; exact ir_120_4 hI.2.1
  obtain ⟨g120_5, eg120_5⟩ : ∃ v, rd M0 120 5 = v := ⟨_, rfl⟩
  have bg120_5 : 0 ≤ g120_5 ∧ g120_5 ≤ 900 := by rw [← eg120_5]; exact ir_120_5 hI.2.1
  obtain ⟨g120_7, eg120_7⟩ : ∃ v, rd M0 120 7 = v := ⟨_, rfl⟩
  have bg120_7 : (-9223372036854775808) ≤ g120_7 ∧ g120_7 ≤ 9223372036854775807 := by rw [← eg120_7]; exact ir_120_7 hI.2.1
  obtain ⟨g9010_0, eg9010_0⟩ : ∃ v, tav M0 = v := ⟨_, rfl⟩
  have bg9010_0 : (-1) ≤ g9010_0 ∧ g9010_0 ≤ 1800 := by rw [← eg9010_0]; exact (tav_b hI.2.1)
  obtain ⟨g120_6, eg120_6⟩ : ∃ v, rd M0 120 6 = v := ⟨_, rfl⟩
  have bg120_6 : (-2147483648) ≤ g120_6 ∧ g120_6 ≤ 2147483647 := by rw [← eg120_6]; exact ir_120_6 hI.2.1
  replace hq0 := hd_i hq0
  replace hq2 := hd_i hq2
  refine Tr.aload_n (pc := 0) (i := 0) d_X12_number_0 rfl rfl ?_
  refine Tr.getf (pc := 1) d_X12_number_1 f_12_36 (by decide) (by decide) (ty_120 hS.1.1) ?_
  refine Tr.tp g120_8 eg120_8 ?_
  refine Tr.if_le (pc := 4) (tgt := 9) d_X12_number_4 rfl (fun c4 => ?_) (fun c4 => ?_)
  · refine Tr.aload_n (pc := 9) (i := 0) d_X12_number_9 rfl rfl ?_
    refine Tr.getf (pc := 10) d_X12_number_10 f_12_20 (by decide) (by decide) (ty_120 hS.1.1) ?_
    refine Tr.tp g120_3 eg120_3 ?_
    refine Tr.iconst (pc := 13) d_X12_number_13 (by decide) ?_
    have J26 : ∀ (M : Mem) (u26_120_8 : Int), St Pm0 ws_X12_number_120_w1 as_X12_number_120_w1 M0 M → (0 ≤ u26_120_8 ∧ u26_120_8 ≤ 5) → rd M 120 3 = g120_3 → rd M 120 4 = g120_4 → rd M 120 5 = g120_5 → rd M 120 6 = g120_6 → rd M 120 7 = g120_7 → rd M 120 8 = u26_120_8 → tav M = g9010_0 → (u26_120_8 ≠ 0 ∨ g120_3 ≠ 0) → (g120_8 = 0) → Tr l K 2 mX12_number 26 [(0, (2, 120)), (1, (0, a1)), (2, (0, a2))] [] M (q_X12_number_120_w1 a1 a2 M0) := by
      intro M u26_120_8 hS bu26_120_8 k26_120_3 k26_120_4 k26_120_5 k26_120_6 k26_120_7 k26_120_8 k26_9010_0 t26_0 t26_1
      replace t26_0 := hd_i t26_0
      refine Tr.aload_n (pc := 26) (i := 0) d_X12_number_26 rfl rfl ?_
      refine Tr.getf (pc := 27) d_X12_number_27 f_12_36 (by decide) (by decide) (ty_120 hS.1.1) ?_
      refine Tr.tp u26_120_8 k26_120_8 ?_
      have J54 : ∀ (M : Mem) (u54_120_8 : Int), St Pm0 ws_X12_number_120_w1 as_X12_number_120_w1 M0 M → (0 ≤ u54_120_8 ∧ u54_120_8 ≤ 5) → rd M 120 3 = g120_3 → rd M 120 4 = g120_4 → rd M 120 5 = g120_5 → rd M 120 6 = g120_6 → rd M 120 7 = g120_7 → rd M 120 8 = u54_120_8 → tav M = g9010_0 → (u54_120_8 ≠ 0 ∨ g120_3 ≠ 0) → (g120_8 = 0) → (u54_120_8 ≠ 0 ∨ (a1 ≤ g120_6 ∧ g120_6 ≤ a2)) → Tr l K 2 mX12_number 54 [(0, (2, 120))] [] M (q_X12_number_120_w1 a1 a2 M0) := by
        intro M u54_120_8 hS bu54_120_8 k54_120_3 k54_120_4 k54_120_5 k54_120_6 k54_120_7 k54_120_8 k54_9010_0 t54_0 t54_1 t54_2
        clear k26_120_3 k26_120_4 k26_120_5 k26_120_6 k26_120_7 k26_120_8 k26_9010_0
        replace t54_0 := hd_i t54_0
        replace t54_2 := hd_i t54_2
        refine Tr.aload_n (pc := 54) (i := 0) d_X12_number_54 rfl rfl ?_
        refine Tr.getf (pc := 55) d_X12_number_55 f_12_29 (by decide) (by decide) (ty_120 hS.1.1) ?_
        refine Tr.tp g120_6 k54_120_6 ?_
        refine Tr.istore_n (pc := 58) (i := 3) (ls2 := [(3, (0, g120_6)), (0, (2, 120))]) d_X12_number_58 rfl (by decide) rfl ?_
        refine Tr.aload_n (pc := 59) (i := 0) d_X12_number_59 rfl rfl ?_
        refine Tr.getf (pc := 60) d_X12_number_60 f_12_36 (by decide) (by decide) (ty_120 hS.1.1) ?_
        refine Tr.tp u54_120_8 k54_120_8 ?_
        refine Tr.if_ne (pc := 63) (tgt := 70) d_X12_number_63 rfl (fun c63 => ?_) (fun c63 => ?_)
        · have c63b : 1 ≤ u54_120_8 ∧ u54_120_8 ≤ 5 := by omega
          replace c63 := hd_i c63
          refine Tr.iload_n (pc := 70) (i := 3) d_X12_number_70 rfl rfl ?_
          have kr_120_3 : rd M 120 3 = g120_3 := k54_120_3
          have kr_120_4 : rd M 120 4 = g120_4 := k54_120_4
          have kr_120_5 : rd M 120 5 = g120_5 := k54_120_5
          have kr_120_7 : rd M 120 7 = g120_7 := k54_120_7
          have kr_120_8 : rd M 120 8 = u54_120_8 := k54_120_8
          have kr_9010_0 : tav M = g9010_0 := k54_9010_0
          exact Tr.iret (pc := 71) d_X12_number_71 rfl ⟨hS, _, rfl, (by omega), (by omega), (by first | exact (hd_o hq0) | exact (hd_o hq0).elim (fun h1 => by omega) (fun h1 => by omega)), (by omega), (by first | exact (hd_o hq2) | exact (hd_o hq2).elim (fun h1 => by omega) (fun h1 => h1.elim (fun h1 => by omega) (fun h1 => by omega))), (by and_intros <;> omega), (by omega), (by omega), (by omega)⟩
        · refine Tr.aload_n (pc := 66) (i := 0) d_X12_number_66 rfl rfl ?_
          refine Tr.callV (pc := 67) (as := []) d_X12_number_67 s_12_396 ok_X12_next rfl rfl (Nat.le_of_ble_eq_true rfl) (Nat.le_of_ble_eq_true rfl) (by decide) (ty_120 hS.1.1) ?_
          refine Tr.imp (Tr.deep (by decide) (ns_X12_next_120_w1 (G120_3 := g120_3) (G120_5 := g120_5) (G120_8 := u54_120_8) (G9010_0 := g9010_0) hS.1 (k54_120_3) (k54_120_5) (k54_120_8) (k54_9010_0))) ?_
          rintro M67 _ ⟨h67, s67_120_3, s67_120_4, s67_120_5, s67_120_7, s67_120_8, s67_9010_0, es67_120_3, bs67_120_3, es67_120_4, bs67_120_4, es67_120_5, bs67_120_5, es67_120_7, bs67_120_7, es67_120_8, bs67_120_8, es67_9010_0, bs67_9010_0, rfl, z67_0, z67_1, z67_2, z67_3, z67_4, z67_5, z67_6⟩
          have hS := St.tr hS h67 (by decide) (by decide)
          refine Tr.sc [] rfl ?_
          refine Tr.iload_n (pc := 70) (i := 3) d_X12_number_70 rfl rfl ?_
          have kr_120_3 : rd M67 120 3 = s67_120_3 := es67_120_3
          have kr_120_4 : rd M67 120 4 = s67_120_4 := es67_120_4
          have kr_120_5 : rd M67 120 5 = s67_120_5 := es67_120_5
          have kr_120_7 : rd M67 120 7 = s67_120_7 := es67_120_7
          have kr_120_8 : rd M67 120 8 = s67_120_8 := es67_120_8
          have kr_9010_0 : tav M67 = s67_9010_0 := es67_9010_0
          exact Tr.iret (pc := 71) d_X12_number_71 rfl ⟨hS, _, rfl, (by omega), (by omega), (by first | exact (hd_o z67_0) | exact (hd_o z67_0).elim (fun h1 => by omega) (fun h1 => by omega)), (by omega), (by first | exact (hd_o z67_2) | exact (hd_o z67_2).elim (fun h1 => by omega) (fun h1 => h1.elim (fun h1 => by omega) (fun h1 => by omega))), (by and_intros <;> omega), (by omega), (by exact (hd_o t54_0).elim (fun h1 => (ne_o h1).elim (fun h2 => by omega) (fun h2 => by omega)) (fun h1 => (ne_o h1).elim (fun h2 => by omega) (fun h2 => (hd_o z67_5).elim (fun h3 => by omega) (fun h3 => by omega)))), (by exact (hd_o t54_2).elim (fun h1 => (ne_o h1).elim (fun h2 => by omega) (fun h2 => by omega)) (fun h1 => by omega))⟩
      refine Tr.if_ne (pc := 30) (tgt := 54) d_X12_number_30 rfl (fun c30 => ?_) (fun c30 => ?_)
      · have c30b : 1 ≤ u26_120_8 ∧ u26_120_8 ≤ 5 := by omega
        replace c30 := hd_i c30
        refine Tr.pick [0] (ls2 := [(0, (2, 120))]) rfl ?_
        exact J54 _ _ hS (by and_intros <;> omega) k26_120_3 k26_120_4 k26_120_5 k26_120_6 k26_120_7 k26_120_8 k26_9010_0 (by first | exact (hd_o t26_0) | exact (hd_o t26_0).elim (fun h1 => by omega) (fun h1 => by omega)) (by omega) (by omega)
      · refine Tr.aload_n (pc := 33) (i := 0) d_X12_number_33 rfl rfl ?_
        refine Tr.getf (pc := 34) d_X12_number_34 f_12_29 (by decide) (by decide) (ty_120 hS.1.1) ?_
        refine Tr.tp g120_6 k26_120_6 ?_
        refine Tr.iload_n (pc := 37) (i := 1) d_X12_number_37 rfl rfl ?_
        refine Tr.iload_n (pc := 38) (i := 2) d_X12_number_38 rfl rfl ?_
        refine Tr.callS (pc := 39) (as := [_, _, _]) d_X12_number_39 s_12_467 ok_X12_is rfl rfl (Nat.le_of_ble_eq_true rfl) (Nat.le_of_ble_eq_true rfl) ?_
        refine Tr.imp (Tr.deep (by decide) (sp_X12_is hS.1.wk g120_6 (by and_intros <;> omega) a1 (by and_intros <;> omega) a2 (by and_intros <;> omega))) ?_
        rintro M39 _ ⟨h39, r39, rfl, lr39, ur39, wr39⟩
        have h39 := St.rn h39 (Pm0.of hS.1.2.2.2.2 (fun _ => (ka_X12_is_131 h39 _)) (fun _ => (ka_X12_is_137 h39 _)) (fun _ => (ka_X12_is_138 h39 _)) (fun _ => (ka_X12_is_139 h39 _)) (fun _ => (ka_X12_is_140 h39 _)) (fun _ => (ka_X12_is_141 h39 _)) (fun _ => (ka_X12_is_142 h39 _)) (fun _ => (ka_X12_is_143 h39 _)) (fun _ => (ka_X12_is_151 h39 _)) (fun _ => (ka_X12_is_152 h39 _)) (kp_X12_is_126_0 h39) (kp_X12_is_126_1 h39) (kp_X12_is_136_0 h39) (kp_X12_is_136_1 h39) (kp_X12_is_123_0 h39) (kp_X12_is_123_1 h39) (kp_X12_is_124_0 h39) (kp_X12_is_124_1 h39) (kp_X12_is_120_8 h39) (kp_X12_is_120_36 h39) (kp_X12_is_120_50 h39))
        have hS := St.tr hS h39 (by decide) (by decide)
        replace wr39 := hd_i wr39
        refine Tr.sc [(0, r39)] rfl ?_
        refine Tr.if_ne (pc := 42) (tgt := 54) d_X12_number_42 rfl (fun c42 => ?_) (fun c42 => ?_)
        · have c42b : 1 ≤ r39 ∧ r39 ≤ 1 := by omega
          replace c42 := hd_i c42
          refine Tr.pick [0] (ls2 := [(0, (2, 120))]) rfl ?_
          exact J54 _ _ hS (by and_intros <;> omega) ((kp_X12_is_120_3 h39).trans k26_120_3) ((kp_X12_is_120_4 h39).trans k26_120_4) ((kp_X12_is_120_5 h39).trans k26_120_5) ((kp_X12_is_120_6 h39).trans k26_120_6) ((kp_X12_is_120_7 h39).trans k26_120_7) ((kp_X12_is_120_8 h39).trans k26_120_8) ((tav_of ((kp_X12_is_120_5 h39).trans rfl) ((kp_X12_is_120_3 h39).trans rfl)).trans k26_9010_0) (by first | exact (hd_o t26_0) | exact (hd_o t26_0).elim (fun h1 => by omega) (fun h1 => by omega)) (by omega) (by exact (hd_o wr39).elim (fun h1 => by omega) (fun h1 => by omega))
        · refine Tr.aload_n (pc := 45) (i := 0) d_X12_number_45 rfl rfl ?_
          refine Tr.iconst (pc := 46) d_X12_number_46 (by decide) ?_
          refine Tr.aload_n (pc := 47) (i := 0) d_X12_number_47 rfl rfl ?_
          refine Tr.getf (pc := 48) d_X12_number_48 f_12_23 (by decide) (by decide) (ty_120 hS.1.1) ?_
          refine Tr.tp g120_4 ((kp_X12_is_120_4 h39).trans k26_120_4) ?_
          refine Tr.callV (pc := 51) (as := [_, _]) d_X12_number_51 s_12_389 ok_X12_blame rfl rfl (Nat.le_of_ble_eq_true rfl) (Nat.le_of_ble_eq_true rfl) (by decide) (ty_120 hS.1.1) ?_
          refine Tr.imp (Tr.deep (by decide) (ns_X12_blame_120_w1 (G120_8 := u26_120_8) hS.1 (((kp_X12_is_120_8 h39).trans k26_120_8)) 4 (by omega) g120_4 (by and_intros <;> omega))) ?_
          rintro M51 _ ⟨h51, s51_120_8, es51_120_8, bs51_120_8, rfl, z51_0⟩
          have hS := St.tr hS h51 (by decide) (by decide)
          refine Tr.sc [] rfl ?_
          refine Tr.pick [0] (ls2 := [(0, (2, 120))]) rfl ?_
          exact J54 _ _ hS (by and_intros <;> omega) ((kp_X12_blame_120_w1_120_3 h51).trans ((kp_X12_is_120_3 h39).trans k26_120_3)) ((kp_X12_blame_120_w1_120_4 h51).trans ((kp_X12_is_120_4 h39).trans k26_120_4)) ((kp_X12_blame_120_w1_120_5 h51).trans ((kp_X12_is_120_5 h39).trans k26_120_5)) ((kp_X12_blame_120_w1_120_6 h51).trans ((kp_X12_is_120_6 h39).trans k26_120_6)) ((kp_X12_blame_120_w1_120_7 h51).trans ((kp_X12_is_120_7 h39).trans k26_120_7)) es51_120_8 ((tav_of ((kp_X12_blame_120_w1_120_5 h51).trans ((kp_X12_is_120_5 h39).trans rfl)) ((kp_X12_blame_120_w1_120_3 h51).trans ((kp_X12_is_120_3 h39).trans rfl))).trans k26_9010_0) (by exact (hd_o z51_0).elim (fun h1 => by omega) (fun h1 => by omega)) (by omega) (by exact (hd_o z51_0).elim (fun h1 => by omega) (fun h1 => by omega))
    refine Tr.icmp_eq (pc := 14) (tgt := 26) d_X12_number_14 rfl (fun c14 => ?_) (fun c14 => ?_)
    · refine Tr.pick [0, 1, 2] (ls2 := [(0, (2, 120)), (1, (0, a1)), (2, (0, a2))]) rfl ?_
      exact J26 _ _ hS (by and_intros <;> omega) eg120_3 eg120_4 eg120_5 eg120_6 eg120_7 eg120_8 eg9010_0 (by omega) (by omega)
    · replace c14 := hd_i c14
      refine Tr.aload_n (pc := 17) (i := 0) d_X12_number_17 rfl rfl ?_
      refine Tr.iconst (pc := 18) d_X12_number_18 (by decide) ?_
      refine Tr.aload_n (pc := 19) (i := 0) d_X12_number_19 rfl rfl ?_
      refine Tr.getf (pc := 20) d_X12_number_20 f_12_23 (by decide) (by decide) (ty_120 hS.1.1) ?_
      refine Tr.tp g120_4 eg120_4 ?_
      refine Tr.callV (pc := 23) (as := [_, _]) d_X12_number_23 s_12_389 ok_X12_blame rfl rfl (Nat.le_of_ble_eq_true rfl) (Nat.le_of_ble_eq_true rfl) (by decide) (ty_120 hS.1.1) ?_
      refine Tr.imp (Tr.deep (by decide) (ns_X12_blame_120_w1 (G120_8 := g120_8) hS.1 (eg120_8) 1 (by omega) g120_4 (by and_intros <;> omega))) ?_
      rintro M23 _ ⟨h23, s23_120_8, es23_120_8, bs23_120_8, rfl, z23_0⟩
      have hS := St.tr hS h23 (by decide) (by decide)
      refine Tr.sc [] rfl ?_
      refine Tr.pick [0, 1, 2] (ls2 := [(0, (2, 120)), (1, (0, a1)), (2, (0, a2))]) rfl ?_
      exact J26 _ _ hS (by and_intros <;> omega) ((kp_X12_blame_120_w1_120_3 h23).trans eg120_3) ((kp_X12_blame_120_w1_120_4 h23).trans eg120_4) ((kp_X12_blame_120_w1_120_5 h23).trans eg120_5) ((kp_X12_blame_120_w1_120_6 h23).trans eg120_6) ((kp_X12_blame_120_w1_120_7 h23).trans eg120_7) es23_120_8 ((tav_of ((kp_X12_blame_120_w1_120_5 h23).trans rfl) ((kp_X12_blame_120_w1_120_3 h23).trans rfl)).trans eg9010_0) (by exact (hd_o z23_0).elim (fun h1 => by omega) (fun h1 => by omega)) (by omega)
  · refine Tr.iconst (pc := 7) d_X12_number_7 (by decide) ?_
    have kr_120_3 : rd M0 120 3 = g120_3 := eg120_3
    have kr_120_4 : rd M0 120 4 = g120_4 := eg120_4
    have kr_120_5 : rd M0 120 5 = g120_5 := eg120_5
    have kr_120_7 : rd M0 120 7 = g120_7 := eg120_7
    have kr_120_8 : rd M0 120 8 = g120_8 := eg120_8
    have kr_9010_0 : tav M0 = g9010_0 := eg9010_0
    exact Tr.iret (pc := 8) d_X12_number_8 rfl ⟨hS, _, rfl, by omega, by omega, (by first | exact (hd_o hq0) | exact (hd_o hq0).elim (fun h1 => by omega) (fun h1 => by omega)), (by omega), (by first | exact (hd_o hq2) | exact (hd_o hq2).elim (fun h1 => by omega) (fun h1 => h1.elim (fun h1 => by omega) (fun h1 => by omega))), (by and_intros <;> omega), (by omega), (by omega), (by omega)⟩

set_option maxRecDepth 100000 in
set_option maxHeartbeats 4000000 in
theorem ns_X12_number_120_w1 {l : Launch} {K : EC} {M0 : Mem} {G120_3 G120_4 G120_5 G120_7 G120_8 G9010_0 : Int} (hI : In Pm0 M0) (k120_3 : rd M0 120 3 = G120_3) (k120_4 : rd M0 120 4 = G120_4) (k120_5 : rd M0 120 5 = G120_5) (k120_7 : rd M0 120 7 = G120_7) (k120_8 : rd M0 120 8 = G120_8) (k9010_0 : tav M0 = G9010_0)  (a1 : Int) (ha1 : (-2147483648) ≤ a1 ∧ a1 ≤ 2147483647) (a2 : Int) (ha2 : 0 ≤ a2 ∧ a2 ≤ 999)  (hq0 : G120_3 = 0 ∨ G120_4 + 1 ≤ G120_5) (hq1 : G120_4 ≤ G120_5) (hq2 : G120_3 ≠ 1 ∨ G120_4 + 2 ≤ G120_5 ∨ G120_7 < 256) : Tr l K 2 mX12_number 0 [(0, (2, 120)), (1, (0, a1)), (2, (0, a2))] [] M0 (fun M' r => St Pm0 ws_X12_number_120_w1 as_X12_number_120_w1 M0 M' ∧ ∃ S120_3 S120_4 S120_5 S120_7 S120_8 S9010_0 : Int, rd M' 120 3 = S120_3 ∧ (0 ≤ S120_3 ∧ S120_3 ≤ 3) ∧ rd M' 120 4 = S120_4 ∧ (0 ≤ S120_4 ∧ S120_4 ≤ 900) ∧ rd M' 120 5 = S120_5 ∧ (0 ≤ S120_5 ∧ S120_5 ≤ 900) ∧ rd M' 120 7 = S120_7 ∧ ((-9223372036854775808) ≤ S120_7 ∧ S120_7 ≤ 9223372036854775807) ∧ rd M' 120 8 = S120_8 ∧ (0 ≤ S120_8 ∧ S120_8 ≤ 5) ∧ tav M' = S9010_0 ∧ ((-1) ≤ S9010_0 ∧ S9010_0 ≤ 1800) ∧ ∃ v : Int, r = some (0, v) ∧ (-2147483648) ≤ v ∧ v ≤ 2147483647 ∧ Hd (S120_3 = 0 ∨ S120_4 + 1 ≤ S120_5) ∧ (S120_4 ≤ S120_5) ∧ Hd (S120_3 ≠ 1 ∨ S120_4 + 2 ≤ S120_5 ∨ S120_7 < 256) ∧ (G120_4 ≤ S120_4 ∧ G120_5 ≤ S120_5 ∧ G9010_0 ≤ S9010_0) ∧ Hd (G120_8 = 0 ∨ S120_8 = G120_8) ∧ Hd (1 ≤ S120_8 ∨ G9010_0 < S9010_0) ∧ Hd (1 ≤ S120_8 ∨ (a1 ≤ v ∧ v ≤ a2))) := by
  subst k120_3
  subst k120_4
  subst k120_5
  subst k120_7
  subst k120_8
  subst k9010_0
  refine Tr.imp (sp_X12_number_120_w1 hI a1 ha1 a2 ha2 hq0 hq1 hq2) ?_
  rintro M' _ ⟨hS, v, rfl, lr, ur, z0, z1, z2, z3, z4, z5, z6⟩
  exact ⟨hS, _, _, _, _, _, _, rfl, ir_120_3 hS.1.2.1, rfl, ir_120_4 hS.1.2.1, rfl, ir_120_5 hS.1.2.1, rfl, ir_120_7 hS.1.2.1, rfl, ir_120_8 hS.1.2.1, rfl, (tav_b hS.1.2.1), v, rfl, lr, ur, hd_i z0, z1, hd_i z2, z3, hd_i z4, hd_i z5, hd_i z6⟩

def ws_X12_input_120_w1 : List (Int × Int) := [(120, 3), (120, 4), (120, 5), (120, 6), (120, 7), (120, 8), (120, 9), (127, 0)]
def as_X12_input_120_w1 : List Int := [132, 133, 134]
def q_X12_input_120_w1 (M0 M' : Mem) (r : Option PV) : Prop := St Pm0 ws_X12_input_120_w1 as_X12_input_120_w1 M0 M' ∧ r = none ∧ (rd M' 120 3 = 0 ∨ rd M' 120 4 + 1 ≤ rd M' 120 5) ∧ (rd M' 120 4 ≤ rd M' 120 5) ∧ (rd M' 120 3 ≠ 1 ∨ rd M' 120 4 + 2 ≤ rd M' 120 5 ∨ rd M' 120 7 < 256) ∧ (rd M0 120 4 ≤ rd M' 120 4 ∧ rd M0 120 5 ≤ rd M' 120 5 ∧ tav M0 ≤ tav M') ∧ (rd M0 120 8 = 0 ∨ rd M' 120 8 = rd M0 120 8) ∧ (1 ≤ rd M' 120 8 ∨ tav M0 < tav M')
theorem kp_X12_input_120_w1_120_37 {q : Mem → Prop} {M0 M : Mem} (h : St q ws_X12_input_120_w1 as_X12_input_120_w1 M0 M) : rd M 120 37 = rd M0 120 37 := St.kp h (by decide) (by decide) (by decide)
theorem kp_X12_counts_120_w1_127_0 {q : Mem → Prop} {M0 M : Mem} (h : St q ws_X12_counts_120_w1 as_X12_counts_120_w1 M0 M) : rd M 127 0 = rd M0 127 0 := St.kp h (by decide) (by decide) (by decide)
theorem kp_X12_fresh_120_w1_127_0 {q : Mem → Prop} {M0 M : Mem} (h : St q ws_X12_fresh_120_w1 as_X12_fresh_120_w1 M0 M) : rd M 127 0 = rd M0 127 0 := St.kp h (by decide) (by decide) (by decide)
theorem kp_X12_number_120_w1_127_0 {q : Mem → Prop} {M0 M : Mem} (h : St q ws_X12_number_120_w1 as_X12_number_120_w1 M0 M) : rd M 127 0 = rd M0 127 0 := St.kp h (by decide) (by decide) (by decide)
set_option maxRecDepth 100000 in
set_option maxHeartbeats 4000000 in
theorem sp_X12_input_120_w1 {l : Launch} {K : EC} {M0 : Mem} (hI : In Pm0 M0) (en_120_37 : rd M0 120 37 = 0)   (hq0 : rd M0 120 3 = 0 ∨ rd M0 120 4 + 1 ≤ rd M0 120 5) (hq1 : rd M0 120 4 ≤ rd M0 120 5) (hq2 : rd M0 120 3 ≠ 1 ∨ rd M0 120 4 + 2 ≤ rd M0 120 5 ∨ rd M0 120 7 < 256) (hq3 : rd M0 120 3 ≠ 0) (hq4 : rd M0 120 8 = 0) : Tr l K 3 mX12_input 0 [(0, (2, 120))] [] M0 (q_X12_input_120_w1 M0) := by
  have hS : St Pm0 ws_X12_input_120_w1 as_X12_input_120_w1 M0 M0 := St.rf hI
  obtain ⟨g120_8, eg120_8⟩ : ∃ v, rd M0 120 8 = v := ⟨_, rfl⟩
  have bg120_8 : 0 ≤ g120_8 ∧ g120_8 ≤ 5 := by rw [← eg120_8]; exact ir_120_8 hI.2.1
  obtain ⟨g120_3, eg120_3⟩ : ∃ v, rd M0 120 3 = v := ⟨_, rfl⟩
  have bg120_3 : 0 ≤ g120_3 ∧ g120_3 ≤ 3 := by rw [← eg120_3]; exact ir_120_3 hI.2.1
  obtain ⟨g120_4, eg120_4⟩ : ∃ v, rd M0 120 4 = v := ⟨_, rfl⟩
  have bg120_4 : 0 ≤ g120_4 ∧ g120_4 ≤ 900 := by rw [← eg120_4]; exact ir_120_4 hI.2.1
  obtain ⟨g120_5, eg120_5⟩ : ∃ v, rd M0 120 5 = v := ⟨_, rfl⟩
  have bg120_5 : 0 ≤ g120_5 ∧ g120_5 ≤ 900 := by rw [← eg120_5]; exact ir_120_5 hI.2.1
  obtain ⟨g120_7, eg120_7⟩ : ∃ v, rd M0 120 7 = v := ⟨_, rfl⟩
  have bg120_7 : (-9223372036854775808) ≤ g120_7 ∧ g120_7 ≤ 9223372036854775807 := by rw [← eg120_7]; exact ir_120_7 hI.2.1
  obtain ⟨g9010_0, eg9010_0⟩ : ∃ v, tav M0 = v := ⟨_, rfl⟩
  have bg9010_0 : (-1) ≤ g9010_0 ∧ g9010_0 ≤ 1800 := by rw [← eg9010_0]; exact (tav_b hI.2.1)
  obtain ⟨g127_0, eg127_0⟩ : ∃ v, rd M0 127 0 = v := ⟨_, rfl⟩
  have bg127_0 : 0 ≤ g127_0 ∧ g127_0 ≤ 3 := by rw [← eg127_0]; exact ir_127_0 hI.2.1
  replace hq0 := hd_i hq0
  replace hq2 := hd_i hq2
  replace hq3 := hd_i hq3
  refine Tr.aload_n (pc := 0) (i := 0) d_X12_input_0 rfl rfl ?_
  refine Tr.aload_n (pc := 1) (i := 0) d_X12_input_1 rfl rfl ?_
  refine Tr.getf (pc := 2) d_X12_input_2 f_12_66 (by decide) (by decide) (ty_120 hS.1.1) ?_
  refine Tr.tp 127 (fx_120_18 hS.1.1) ?_
  refine Tr.aload_n (pc := 5) (i := 0) d_X12_input_5 rfl rfl ?_
  refine Tr.getf (pc := 6) d_X12_input_6 f_12_124 (by decide) (by decide) (ty_120 hS.1.1) ?_
  refine Tr.tp 0 ((kp_X12_input_120_w1_120_37 hS).trans en_120_37) ?_
  refine Tr.iald (pc := 9) d_X12_input_9 (ty_127 hS.1.1) (by omega) (by omega) ?_
  refine Tr.tp g127_0 eg127_0 ?_
  refine Tr.iconst (pc := 10) d_X12_input_10 (by decide) ?_
  have J19 : ∀ (M : Mem) (q19_1 : Int), St Pm0 ws_X12_input_120_w1 as_X12_input_120_w1 M0 M → (0 ≤ q19_1 ∧ q19_1 ≤ 1) → rd M 120 3 = g120_3 → rd M 120 4 = g120_4 → rd M 120 5 = g120_5 → rd M 120 7 = g120_7 → rd M 120 8 = g120_8 → rd M 127 0 = g127_0 → tav M = g9010_0 → ((q19_1 = 1 ∧ g127_0 = 3) ∨ (q19_1 = 0 ∧ g127_0 ≠ 3)) → Tr l K 3 mX12_input 19 [(0, (2, 120))] [(0, q19_1), (2, 120)] M (q_X12_input_120_w1 M0) := by
    intro M q19_1 hS bq19_1 k19_120_3 k19_120_4 k19_120_5 k19_120_7 k19_120_8 k19_127_0 k19_9010_0 t19_0
    replace t19_0 := hd_i t19_0
    refine Tr.callV (pc := 19) (as := [_]) d_X12_input_19 s_12_505 ok_X12_counts rfl rfl (Nat.le_of_ble_eq_true rfl) (Nat.le_of_ble_eq_true rfl) (by decide) (ty_120 hS.1.1) ?_
    refine Tr.imp (Tr.deep (by decide) (ns_X12_counts_120_w1 (G120_3 := g120_3) (G120_4 := g120_4) (G120_5 := g120_5) (G120_7 := g120_7) (G120_8 := g120_8) (G9010_0 := g9010_0) hS.1 (k19_120_3) (k19_120_4) (k19_120_5) (k19_120_7) (k19_120_8) (k19_9010_0) q19_1 (by and_intros <;> omega) (by first | exact (hd_o hq0) | exact (hd_o hq0).elim (fun h1 => by omega) (fun h1 => by omega)) (by omega) (by first | exact (hd_o hq2) | exact (hd_o hq2).elim (fun h1 => by omega) (fun h1 => h1.elim (fun h1 => by omega) (fun h1 => by omega))) (by have h1 := (hd_o hq3); omega))) ?_
    rintro M19 _ ⟨h19, s19_120_3, s19_120_4, s19_120_5, s19_120_7, s19_120_8, s19_9010_0, es19_120_3, bs19_120_3, es19_120_4, bs19_120_4, es19_120_5, bs19_120_5, es19_120_7, bs19_120_7, es19_120_8, bs19_120_8, es19_9010_0, bs19_9010_0, rfl, z19_0, z19_1, z19_2, z19_3, z19_4, z19_5, z19_6⟩
    have hS := St.tr hS h19 (by decide) (by decide)
    refine Tr.sc [] rfl ?_
    refine Tr.aload_n (pc := 22) (i := 0) d_X12_input_22 rfl rfl ?_
    refine Tr.getf (pc := 23) d_X12_input_23 f_12_36 (by decide) (by decide) (ty_120 hS.1.1) ?_
    refine Tr.tp s19_120_8 es19_120_8 ?_
    refine Tr.if_le (pc := 26) (tgt := 30) d_X12_input_26 rfl (fun c26 => ?_) (fun c26 => ?_)
    · refine Tr.iconst (pc := 30) d_X12_input_30 (by decide) ?_
      refine Tr.aload_n (pc := 31) (i := 0) d_X12_input_31 rfl rfl ?_
      refine Tr.getf (pc := 32) d_X12_input_32 f_12_124 (by decide) (by decide) (ty_120 hS.1.1) ?_
      refine Tr.tp 0 ((kp_X12_input_120_w1_120_37 hS).trans en_120_37) ?_
      refine Tr.imul (pc := 35) d_X12_input_35 ?_
      refine Tr.tp 0 (by decide) ?_
      refine Tr.aload_n (pc := 36) (i := 0) d_X12_input_36 rfl rfl ?_
      refine Tr.getf (pc := 37) d_X12_input_37 f_12_66 (by decide) (by decide) (ty_120 hS.1.1) ?_
      refine Tr.tp 127 (fx_120_18 hS.1.1) ?_
      refine Tr.aload_n (pc := 40) (i := 0) d_X12_input_40 rfl rfl ?_
      refine Tr.getf (pc := 41) d_X12_input_41 f_12_124 (by decide) (by decide) (ty_120 hS.1.1) ?_
      refine Tr.tp 0 ((kp_X12_input_120_w1_120_37 hS).trans en_120_37) ?_
      refine Tr.iald (pc := 44) d_X12_input_44 (ty_127 hS.1.1) (by omega) (by omega) ?_
      refine Tr.tp g127_0 ((kp_X12_counts_120_w1_127_0 h19).trans k19_127_0) ?_
      refine Tr.iadd (pc := 45) d_X12_input_45 ?_
      refine Tr.tp g127_0 ((w32_id (by and_intros <;> omega)).trans (by omega)) ?_
      refine Tr.istore_n (pc := 46) (i := 1) (ls2 := [(1, (0, g127_0)), (0, (2, 120))]) d_X12_input_46 rfl (by decide) rfl ?_
      refine Tr.aload_n (pc := 47) (i := 0) d_X12_input_47 rfl rfl ?_
      refine Tr.getf (pc := 48) d_X12_input_48 f_12_82 (by decide) (by decide) (ty_120 hS.1.1) ?_
      refine Tr.tp 132 (fx_120_23 hS.1.1) ?_
      refine Tr.iload_n (pc := 51) (i := 1) d_X12_input_51 rfl rfl ?_
      refine Tr.aload_n (pc := 52) (i := 0) d_X12_input_52 rfl rfl ?_
      refine Tr.callV (pc := 53) (as := []) d_X12_input_53 s_12_508 ok_X12_fresh rfl rfl (Nat.le_of_ble_eq_true rfl) (Nat.le_of_ble_eq_true rfl) (by decide) (ty_120 hS.1.1) ?_
      refine Tr.imp (Tr.deep (by decide) (ns_X12_fresh_120_w1 (G120_3 := s19_120_3) (G120_4 := s19_120_4) (G120_5 := s19_120_5) (G120_7 := s19_120_7) (G120_8 := s19_120_8) (G9010_0 := s19_9010_0) hS.1 (es19_120_3) (es19_120_4) (es19_120_5) (es19_120_7) (es19_120_8) (es19_9010_0) ((kp_X12_input_120_w1_120_37 hS).trans en_120_37) (by first | exact (hd_o z19_0) | exact (hd_o z19_0).elim (fun h1 => by omega) (fun h1 => by omega)) (by omega) (by first | exact (hd_o z19_2) | exact (hd_o z19_2).elim (fun h1 => by omega) (fun h1 => h1.elim (fun h1 => by omega) (fun h1 => by omega))))) ?_
      rintro M53 _ ⟨h53, s53_120_3, s53_120_4, s53_120_5, s53_120_7, s53_120_8, s53_9010_0, es53_120_3, bs53_120_3, es53_120_4, bs53_120_4, es53_120_5, bs53_120_5, es53_120_7, bs53_120_7, es53_120_8, bs53_120_8, es53_9010_0, bs53_9010_0, r53, rfl, lr53, ur53, z53_0, z53_1, z53_2, z53_3, z53_4, z53_5⟩
      have hS := St.tr hS h53 (by decide) (by decide)
      refine Tr.sc [(1, r53), (0, g127_0), (2, 132)] rfl ?_
      refine Tr.lastS (pc := 56) (P := St Pm0 ws_X12_input_120_w1 as_X12_input_120_w1 M0) d_X12_input_56 (ty_132 hS.1.1) (by omega) (by omega) (sa_132 hS (by decide) (by omega) (Pm0.of hS.1.2.2.2.2 (fun _ => rd_wb _ rfl) (fun _ => rd_wb _ rfl) (fun _ => rd_wb _ rfl) (fun _ => rd_wb _ rfl) (fun _ => rd_wb _ rfl) (fun _ => rd_wb _ rfl) (fun _ => rd_wb _ rfl) (fun _ => rd_wb _ rfl) (fun _ => rd_wb _ rfl) (fun _ => rd_wb _ rfl) (rd_wb _ rfl) (rd_wb _ rfl) (rd_wb _ rfl) (rd_wb _ rfl) (rd_wb _ rfl) (rd_wb _ rfl) (rd_wb _ rfl) (rd_wb _ rfl) (rd_wb _ rfl) (rd_wb _ rfl) (rd_wb _ rfl))) (fun M56 hS w56 => ?_)
      refine Tr.aload_n (pc := 57) (i := 0) d_X12_input_57 rfl rfl ?_
      refine Tr.getf (pc := 58) d_X12_input_58 f_12_85 (by decide) (by decide) (ty_120 hS.1.1) ?_
      refine Tr.tp 133 (fx_120_24 hS.1.1) ?_
      refine Tr.iload_n (pc := 61) (i := 1) d_X12_input_61 rfl rfl ?_
      refine Tr.aload_n (pc := 62) (i := 0) d_X12_input_62 rfl rfl ?_
      refine Tr.iconst (pc := 63) d_X12_input_63 (by decide) ?_
      refine Tr.bipush (pc := 64) d_X12_input_64 rfl (by decide) ?_
      refine Tr.callV (pc := 66) (as := [_, _]) d_X12_input_66 s_12_516 ok_X12_number rfl rfl (Nat.le_of_ble_eq_true rfl) (Nat.le_of_ble_eq_true rfl) (by decide) (ty_120 hS.1.1) ?_
      refine Tr.imp (Tr.deep (by decide) (ns_X12_number_120_w1 (G120_3 := s53_120_3) (G120_4 := s53_120_4) (G120_5 := s53_120_5) (G120_7 := s53_120_7) (G120_8 := s53_120_8) (G9010_0 := s53_9010_0) hS.1 (((Wr.b w56 rfl).trans es53_120_3)) (((Wr.b w56 rfl).trans es53_120_4)) (((Wr.b w56 rfl).trans es53_120_5)) (((Wr.b w56 rfl).trans es53_120_7)) (((Wr.b w56 rfl).trans es53_120_8)) (((tav_of ((Wr.b w56 rfl).trans rfl) ((Wr.b w56 rfl).trans rfl)).trans es53_9010_0)) 0 (by omega) 99 (by omega) (by first | exact (hd_o z53_0) | exact (hd_o z53_0).elim (fun h1 => by omega) (fun h1 => by omega)) (by omega) (by first | exact (hd_o z53_2) | exact (hd_o z53_2).elim (fun h1 => by omega) (fun h1 => h1.elim (fun h1 => by omega) (fun h1 => by omega))))) ?_
      rintro M66 _ ⟨h66, s66_120_3, s66_120_4, s66_120_5, s66_120_7, s66_120_8, s66_9010_0, es66_120_3, bs66_120_3, es66_120_4, bs66_120_4, es66_120_5, bs66_120_5, es66_120_7, bs66_120_7, es66_120_8, bs66_120_8, es66_9010_0, bs66_9010_0, r66, rfl, lr66, ur66, z66_0, z66_1, z66_2, z66_3, z66_4, z66_5, z66_6⟩
      have hS := St.tr hS h66 (by decide) (by decide)
      refine Tr.sc [(0, r66), (0, g127_0), (2, 133)] rfl ?_
      refine Tr.iastS (pc := 69) (P := St Pm0 ws_X12_input_120_w1 as_X12_input_120_w1 M0) d_X12_input_69 (ty_133 hS.1.1) (by omega) (by omega) (sa_133 hS (by decide) (by and_intros <;> omega) (Pm0.of hS.1.2.2.2.2 (fun _ => rd_wb _ rfl) (fun _ => rd_wb _ rfl) (fun _ => rd_wb _ rfl) (fun _ => rd_wb _ rfl) (fun _ => rd_wb _ rfl) (fun _ => rd_wb _ rfl) (fun _ => rd_wb _ rfl) (fun _ => rd_wb _ rfl) (fun _ => rd_wb _ rfl) (fun _ => rd_wb _ rfl) (rd_wb _ rfl) (rd_wb _ rfl) (rd_wb _ rfl) (rd_wb _ rfl) (rd_wb _ rfl) (rd_wb _ rfl) (rd_wb _ rfl) (rd_wb _ rfl) (rd_wb _ rfl) (rd_wb _ rfl) (rd_wb _ rfl))) (fun M69 hS w69 => ?_)
      refine Tr.aload_n (pc := 70) (i := 0) d_X12_input_70 rfl rfl ?_
      refine Tr.getf (pc := 71) d_X12_input_71 f_12_88 (by decide) (by decide) (ty_120 hS.1.1) ?_
      refine Tr.tp 134 (fx_120_25 hS.1.1) ?_
      refine Tr.iload_n (pc := 74) (i := 1) d_X12_input_74 rfl rfl ?_
      refine Tr.aload_n (pc := 75) (i := 0) d_X12_input_75 rfl rfl ?_
      refine Tr.aload_n (pc := 76) (i := 0) d_X12_input_76 rfl rfl ?_
      refine Tr.getf (pc := 77) d_X12_input_77 f_12_85 (by decide) (by decide) (ty_120 hS.1.1) ?_
      refine Tr.tp 133 (fx_120_24 hS.1.1) ?_
      refine Tr.iload_n (pc := 80) (i := 1) d_X12_input_80 rfl rfl ?_
      refine Tr.iald (pc := 81) d_X12_input_81 (ty_133 hS.1.1) (by omega) (by omega) ?_
      refine Tr.tp r66 w69.1 ?_
      refine Tr.bipush (pc := 82) d_X12_input_82 rfl (by decide) ?_
      refine Tr.callV (pc := 84) (as := [_, _]) d_X12_input_84 s_12_516 ok_X12_number rfl rfl (Nat.le_of_ble_eq_true rfl) (Nat.le_of_ble_eq_true rfl) (by decide) (ty_120 hS.1.1) ?_
      refine Tr.imp (Tr.deep (by decide) (ns_X12_number_120_w1 (G120_3 := s66_120_3) (G120_4 := s66_120_4) (G120_5 := s66_120_5) (G120_7 := s66_120_7) (G120_8 := s66_120_8) (G9010_0 := s66_9010_0) hS.1 (((Wr.b w69 rfl).trans es66_120_3)) (((Wr.b w69 rfl).trans es66_120_4)) (((Wr.b w69 rfl).trans es66_120_5)) (((Wr.b w69 rfl).trans es66_120_7)) (((Wr.b w69 rfl).trans es66_120_8)) (((tav_of ((Wr.b w69 rfl).trans rfl) ((Wr.b w69 rfl).trans rfl)).trans es66_9010_0)) r66 (by and_intros <;> omega) 99 (by omega) (by first | exact (hd_o z66_0) | exact (hd_o z66_0).elim (fun h1 => by omega) (fun h1 => by omega)) (by omega) (by first | exact (hd_o z66_2) | exact (hd_o z66_2).elim (fun h1 => by omega) (fun h1 => h1.elim (fun h1 => by omega) (fun h1 => by omega))))) ?_
      rintro M84 _ ⟨h84, s84_120_3, s84_120_4, s84_120_5, s84_120_7, s84_120_8, s84_9010_0, es84_120_3, bs84_120_3, es84_120_4, bs84_120_4, es84_120_5, bs84_120_5, es84_120_7, bs84_120_7, es84_120_8, bs84_120_8, es84_9010_0, bs84_9010_0, r84, rfl, lr84, ur84, z84_0, z84_1, z84_2, z84_3, z84_4, z84_5, z84_6⟩
      have hS := St.tr hS h84 (by decide) (by decide)
      refine Tr.sc [(0, r84), (0, g127_0), (2, 134)] rfl ?_
      refine Tr.iastS (pc := 87) (P := St Pm0 ws_X12_input_120_w1 as_X12_input_120_w1 M0) d_X12_input_87 (ty_134 hS.1.1) (by omega) (by omega) (sa_134 hS (by decide) (by and_intros <;> omega) (Pm0.of hS.1.2.2.2.2 (fun _ => rd_wb _ rfl) (fun _ => rd_wb _ rfl) (fun _ => rd_wb _ rfl) (fun _ => rd_wb _ rfl) (fun _ => rd_wb _ rfl) (fun _ => rd_wb _ rfl) (fun _ => rd_wb _ rfl) (fun _ => rd_wb _ rfl) (fun _ => rd_wb _ rfl) (fun _ => rd_wb _ rfl) (rd_wb _ rfl) (rd_wb _ rfl) (rd_wb _ rfl) (rd_wb _ rfl) (rd_wb _ rfl) (rd_wb _ rfl) (rd_wb _ rfl) (rd_wb _ rfl) (rd_wb _ rfl) (rd_wb _ rfl) (rd_wb _ rfl))) (fun M87 hS w87 => ?_)
      refine Tr.aload_n (pc := 88) (i := 0) d_X12_input_88 rfl rfl ?_
      refine Tr.getf (pc := 89) d_X12_input_89 f_12_36 (by decide) (by decide) (ty_120 hS.1.1) ?_
      refine Tr.tp s84_120_8 ((Wr.b w87 rfl).trans es84_120_8) ?_
      refine Tr.if_ne (pc := 92) (tgt := 108) d_X12_input_92 rfl (fun c92 => ?_) (fun c92 => ?_)
      · have c92b : 1 ≤ s84_120_8 ∧ s84_120_8 ≤ 5 := by omega
        replace c92 := hd_i c92
        have kr_120_3 : rd M87 120 3 = s84_120_3 := ((Wr.b w87 rfl).trans es84_120_3)
        have kr_120_4 : rd M87 120 4 = s84_120_4 := ((Wr.b w87 rfl).trans es84_120_4)
        have kr_120_5 : rd M87 120 5 = s84_120_5 := ((Wr.b w87 rfl).trans es84_120_5)
        have kr_120_7 : rd M87 120 7 = s84_120_7 := ((Wr.b w87 rfl).trans es84_120_7)
        have kr_120_8 : rd M87 120 8 = s84_120_8 := ((Wr.b w87 rfl).trans es84_120_8)
        have kr_9010_0 : tav M87 = s84_9010_0 := ((tav_of ((Wr.b w87 rfl).trans rfl) ((Wr.b w87 rfl).trans rfl)).trans es84_9010_0)
        exact Tr.vret (pc := 108) d_X12_input_108 rfl ⟨hS, rfl, (by first | exact (hd_o z84_0) | exact (hd_o z84_0).elim (fun h1 => by omega) (fun h1 => by omega)), (by omega), (by first | exact (hd_o z84_2) | exact (hd_o z84_2).elim (fun h1 => by omega) (fun h1 => h1.elim (fun h1 => by omega) (fun h1 => by omega))), (by and_intros <;> omega), (by omega), (by omega)⟩
      · refine Tr.aload_n (pc := 95) (i := 0) d_X12_input_95 rfl rfl ?_
        refine Tr.getf (pc := 96) d_X12_input_96 f_12_66 (by decide) (by decide) (ty_120 hS.1.1) ?_
        refine Tr.tp 127 (fx_120_18 hS.1.1) ?_
        refine Tr.aload_n (pc := 99) (i := 0) d_X12_input_99 rfl rfl ?_
        refine Tr.getf (pc := 100) d_X12_input_100 f_12_124 (by decide) (by decide) (ty_120 hS.1.1) ?_
        refine Tr.tp 0 ((kp_X12_input_120_w1_120_37 hS).trans en_120_37) ?_
        refine Tr.dup2 (pc := 103) d_X12_input_103 ne01 ne21 ?_
        refine Tr.iald (pc := 104) d_X12_input_104 (ty_127 hS.1.1) (by omega) (by omega) ?_
        refine Tr.tp g127_0 ((Wr.b w87 rfl).trans ((kp_X12_number_120_w1_127_0 h84).trans ((Wr.b w69 rfl).trans ((kp_X12_number_120_w1_127_0 h66).trans ((Wr.b w56 rfl).trans ((kp_X12_fresh_120_w1_127_0 h53).trans ((kp_X12_counts_120_w1_127_0 h19).trans k19_127_0))))))) ?_
        refine Tr.iconst (pc := 105) d_X12_input_105 (by decide) ?_
        refine Tr.iadd (pc := 106) d_X12_input_106 ?_
        refine Tr.tp (g127_0 + 1) ((w32_id (by and_intros <;> omega)).trans (by omega)) ?_
        refine Tr.iastS (pc := 107) (P := St Pm0 ws_X12_input_120_w1 as_X12_input_120_w1 M0) d_X12_input_107 (ty_127 hS.1.1) (by omega) (by omega) (st_127_0 hS (by decide) (by exact (hd_o t19_0).elim (fun h1 => (hd_o z19_6).elim (fun h2 => by omega) (fun h2 => by omega)) (fun h1 => (ne_o h1.2).elim (fun h2 => by omega) (fun h2 => by omega))) (Pm0.of hS.1.2.2.2.2 (fun _ => rd_wb _ rfl) (fun _ => rd_wb _ rfl) (fun _ => rd_wb _ rfl) (fun _ => rd_wb _ rfl) (fun _ => rd_wb _ rfl) (fun _ => rd_wb _ rfl) (fun _ => rd_wb _ rfl) (fun _ => rd_wb _ rfl) (fun _ => rd_wb _ rfl) (fun _ => rd_wb _ rfl) (rd_wb _ rfl) (rd_wb _ rfl) (rd_wb _ rfl) (rd_wb _ rfl) (rd_wb _ rfl) (rd_wb _ rfl) (rd_wb _ rfl) (rd_wb _ rfl) (rd_wb _ rfl) (rd_wb _ rfl) (rd_wb _ rfl))) (fun M107 hS w107 => ?_)
        have kr_120_3 : rd M107 120 3 = s84_120_3 := ((Wr.b w107 rfl).trans ((Wr.b w87 rfl).trans es84_120_3))
        have kr_120_4 : rd M107 120 4 = s84_120_4 := ((Wr.b w107 rfl).trans ((Wr.b w87 rfl).trans es84_120_4))
        have kr_120_5 : rd M107 120 5 = s84_120_5 := ((Wr.b w107 rfl).trans ((Wr.b w87 rfl).trans es84_120_5))
        have kr_120_7 : rd M107 120 7 = s84_120_7 := ((Wr.b w107 rfl).trans ((Wr.b w87 rfl).trans es84_120_7))
        have kr_120_8 : rd M107 120 8 = s84_120_8 := ((Wr.b w107 rfl).trans ((Wr.b w87 rfl).trans es84_120_8))
        have kr_9010_0 : tav M107 = s84_9010_0 := ((tav_of ((Wr.b w107 rfl).trans ((Wr.b w87 rfl).trans rfl)) ((Wr.b w107 rfl).trans ((Wr.b w87 rfl).trans rfl))).trans es84_9010_0)
        exact Tr.vret (pc := 108) d_X12_input_108 rfl ⟨hS, rfl, (by first | exact (hd_o z84_0) | exact (hd_o z84_0).elim (fun h1 => by omega) (fun h1 => by omega)), (by omega), (by first | exact (hd_o z84_2) | exact (hd_o z84_2).elim (fun h1 => by omega) (fun h1 => h1.elim (fun h1 => by omega) (fun h1 => by omega))), (by and_intros <;> omega), (by omega), (by exact (hd_o z84_5).elim (fun h1 => by omega) (fun h1 => by omega))⟩
    · have kr_120_3 : rd M19 120 3 = s19_120_3 := es19_120_3
      have kr_120_4 : rd M19 120 4 = s19_120_4 := es19_120_4
      have kr_120_5 : rd M19 120 5 = s19_120_5 := es19_120_5
      have kr_120_7 : rd M19 120 7 = s19_120_7 := es19_120_7
      have kr_120_8 : rd M19 120 8 = s19_120_8 := es19_120_8
      have kr_9010_0 : tav M19 = s19_9010_0 := es19_9010_0
      exact Tr.vret (pc := 29) d_X12_input_29 rfl ⟨hS, rfl, (by first | exact (hd_o z19_0) | exact (hd_o z19_0).elim (fun h1 => by omega) (fun h1 => by omega)), (by omega), (by first | exact (hd_o z19_2) | exact (hd_o z19_2).elim (fun h1 => by omega) (fun h1 => h1.elim (fun h1 => by omega) (fun h1 => by omega))), (by and_intros <;> omega), (by first | exact (hd_o z19_4) | exact (hd_o z19_4).elim (fun h1 => by omega) (fun h1 => by omega)), (by first | exact (hd_o z19_5) | exact (hd_o z19_5).elim (fun h1 => by omega) (fun h1 => by omega))⟩
  refine Tr.icmp_ne (pc := 11) (tgt := 18) d_X12_input_11 rfl (fun c11 => ?_) (fun c11 => ?_)
  · have c11b : 0 ≤ g127_0 ∧ g127_0 ≤ 2 := by omega
    replace c11 := hd_i c11
    refine Tr.iconst (pc := 18) d_X12_input_18 (by decide) ?_
    refine Tr.pick [0] (ls2 := [(0, (2, 120))]) rfl ?_
    exact J19 _ _ hS (by omega) eg120_3 eg120_4 eg120_5 eg120_7 eg120_8 eg127_0 eg9010_0 (by omega)
  · refine Tr.iconst (pc := 14) d_X12_input_14 (by decide) ?_
    refine Tr.goto (pc := 15) (tgt := 19) d_X12_input_15 rfl ?_
    refine Tr.pick [0] (ls2 := [(0, (2, 120))]) rfl ?_
    exact J19 _ _ hS (by omega) eg120_3 eg120_4 eg120_5 eg120_7 eg120_8 eg127_0 eg9010_0 (by omega)
end
