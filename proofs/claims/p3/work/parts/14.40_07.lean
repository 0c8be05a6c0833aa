/-! 40.07 -/
section
set_option maxRecDepth 100000 in
set_option maxHeartbeats 4000000 in
theorem ns_X12_blame_120_w1 {l : Launch} {K : EC} {M0 : Mem} {G120_8 : Int} (hI : In Pm0 M0) (k120_8 : rd M0 120 8 = G120_8)  (a1 : Int) (ha1 : 1 ≤ a1 ∧ a1 ≤ 5) (a2 : Int) (ha2 : 0 ≤ a2 ∧ a2 ≤ 900)  : Tr l K 0 mX12_blame 0 [(0, (2, 120)), (1, (0, a1)), (2, (0, a2))] [] M0 (fun M' r => St Pm0 ws_X12_blame_120_w1 as_X12_blame_120_w1 M0 M' ∧ ∃ S120_8 : Int, rd M' 120 8 = S120_8 ∧ (0 ≤ S120_8 ∧ S120_8 ≤ 5) ∧ r = none ∧ Hd ((G120_8 = 0 ∧ S120_8 = a1) ∨ (1 ≤ G120_8 ∧ S120_8 = G120_8))) := by
  subst k120_8
  refine Tr.imp (sp_X12_blame_120_w1 hI a1 ha1 a2 ha2) ?_
  rintro M' _ ⟨hS, rfl, z0⟩
  exact ⟨hS, _, rfl, ir_120_8 hS.1.2.1, rfl, hd_i z0⟩

def ws_X12_next_120_w1 : List (Int × Int) := [(120, 3), (120, 4), (120, 5), (120, 6), (120, 7), (120, 8), (120, 9)]
def as_X12_next_120_w1 : List Int := []
def q_X12_next_120_w1 (M0 M' : Mem) (r : Option PV) : Prop := St Pm0 ws_X12_next_120_w1 as_X12_next_120_w1 M0 M' ∧ r = none ∧ (rd M' 120 3 = 0 ∨ rd M' 120 4 + 1 ≤ rd M' 120 5) ∧ (rd M' 120 4 ≤ rd M' 120 5) ∧ (rd M' 120 3 ≠ 1 ∨ rd M' 120 4 + 2 ≤ rd M' 120 5 ∨ rd M' 120 7 < 256) ∧ (rd M0 120 5 ≤ rd M' 120 4) ∧ (tav M0 ≤ tav M') ∧ (rd M0 120 3 = 0 ∨ tav M0 < tav M') ∧ (rd M0 120 8 = 0 ∨ rd M' 120 8 = rd M0 120 8)
theorem kp_X12_blame_120_w1_120_2 {q : Mem → Prop} {M0 M : Mem} (h : St q ws_X12_blame_120_w1 as_X12_blame_120_w1 M0 M) : rd M 120 2 = rd M0 120 2 := St.kp h (by decide) (by decide) (by decide)
theorem kp_X12_blame_120_w1_120_3 {q : Mem → Prop} {M0 M : Mem} (h : St q ws_X12_blame_120_w1 as_X12_blame_120_w1 M0 M) : rd M 120 3 = rd M0 120 3 := St.kp h (by decide) (by decide) (by decide)
theorem kp_X12_blame_120_w1_120_4 {q : Mem → Prop} {M0 M : Mem} (h : St q ws_X12_blame_120_w1 as_X12_blame_120_w1 M0 M) : rd M 120 4 = rd M0 120 4 := St.kp h (by decide) (by decide) (by decide)
theorem kp_X12_blame_120_w1_120_5 {q : Mem → Prop} {M0 M : Mem} (h : St q ws_X12_blame_120_w1 as_X12_blame_120_w1 M0 M) : rd M 120 5 = rd M0 120 5 := St.kp h (by decide) (by decide) (by decide)
theorem kp_X12_blame_120_w1_120_7 {q : Mem → Prop} {M0 M : Mem} (h : St q ws_X12_blame_120_w1 as_X12_blame_120_w1 M0 M) : rd M 120 7 = rd M0 120 7 := St.kp h (by decide) (by decide) (by decide)
theorem ka_X12_blame_120_w1_121 {q : Mem → Prop} {M0 M : Mem} (h : St q ws_X12_blame_120_w1 as_X12_blame_120_w1 M0 M) (j : Int) : rd M 121 j = rd M0 121 j := St.ka h (by decide) (by decide) (by decide)
set_option maxRecDepth 100000 in
set_option maxHeartbeats 4000000 in
theorem sp_X12_next_120_w1 {l : Launch} {K : EC} {M0 : Mem} (hI : In Pm0 M0)    : Tr l K 1 mX12_next 0 [(0, (2, 120))] [] M0 (q_X12_next_120_w1 M0) := by
  have hS : St Pm0 ws_X12_next_120_w1 as_X12_next_120_w1 M0 M0 := St.rf hI
  obtain ⟨g120_8, eg120_8⟩ : ∃ v, rd M0 120 8 = v := ⟨_, rfl⟩
  have bg120_8 : 0 ≤ g120_8 ∧ g120_8 ≤ 5 := by rw [← eg120_8]; exact ir_120_8 hI.2.1
  obtain ⟨g120_3, eg120_3⟩ : ∃ v, rd M0 120 3 = v := ⟨_, rfl⟩
  have bg120_3 : 0 ≤ g120_3 ∧ g120_3 ≤ 3 := by rw [← eg120_3]; exact ir_120_3 hI.2.1
  obtain ⟨g120_4, eg120_4⟩ : ∃ v, rd M0 120 4 = v := ⟨_, rfl⟩
  have bg120_4 : 0 ≤ g120_4 ∧ g120_4 ≤ 900 := by rw [← eg120_4]; exact ir_120_4 hI.2.1
  obtain ⟨g120_5, eg120_5⟩ : ∃ v, rd M0 120 5 = v := ⟨_, rfl⟩
  have bg120_5 : 0 ≤ g120_5 ∧ g120_5 ≤ 900 := by rw [← eg120_5]; exact ir_120_5 hI.2.1
  obtain ⟨g120_7, eg120_7⟩ : ∃ v, rd M0 120 7 = v := ⟨_, rfl⟩
  have bg120_7 : (-9223372036854775808) ≤ g120_7 ∧ g120_7 ≤ 9223372036854775807 := by rw [← eg120_7]; exact ir_120_7 hI.2.1
  obtain ⟨g9010_0, eg9010_0⟩ : ∃ v, tav M0 = v := ⟨_, rfl⟩
  have bg9010_0 : (-1) ≤ g9010_0 ∧ g9010_0 ≤ 1800 := by rw [← eg9010_0]; exact (tav_b hI.2.1)
  have jt0 := tav_c eg120_5 eg120_3
  rw [eg9010_0] at jt0
  replace jt0 := hd_i jt0
  refine Tr.aload_n (pc := 0) (i := 0) d_X12_next_0 rfl rfl ?_
  refine Tr.getf (pc := 1) d_X12_next_1 f_12_26 (by decide) (by decide) (ty_120 hS.1.1) ?_
  refine Tr.tp g120_5 eg120_5 ?_
  refine Tr.istore_n (pc := 4) (i := 1) (ls2 := [(1, (0, g120_5)), (0, (2, 120))]) d_X12_next_4 rfl (by decide) rfl ?_
  have J5 : ∀ (n5 : Nat) (M : Mem) (p5_1 : Int), St Pm0 ws_X12_next_120_w1 as_X12_next_120_w1 M0 M → (0 ≤ p5_1 ∧ p5_1 ≤ 900) → rd M 120 3 = g120_3 → rd M 120 4 = g120_4 → rd M 120 5 = g120_5 → rd M 120 7 = g120_7 → rd M 120 8 = g120_8 → tav M = g9010_0 → (g120_5 ≤ p5_1 ∧ g120_8 = g120_8) → (900 - p5_1).toNat < n5 → Tr l K 1 mX12_next 5 [(0, (2, 120)), (1, (0, p5_1))] [] M (q_X12_next_120_w1 M0) := by
    intro n5
    induction n5 with
    | zero => intro M p5_1 hS bp5_1 k5_120_3 k5_120_4 k5_120_5 k5_120_7 k5_120_8 k5_9010_0 t5_0 hm5; exact absurd hm5 (Nat.not_lt_zero _)
    | succ n5 J5 =>
      intro M p5_1 hS bp5_1 k5_120_3 k5_120_4 k5_120_5 k5_120_7 k5_120_8 k5_9010_0 t5_0 hm5
      refine Tr.iload_n (pc := 5) (i := 1) d_X12_next_5 rfl rfl ?_
      refine Tr.aload_n (pc := 6) (i := 0) d_X12_next_6 rfl rfl ?_
      refine Tr.getf (pc := 7) d_X12_next_7 f_12_17 (by decide) (by decide) (ty_120 hS.1.1) ?_
      refine Tr.gen (P := fun v => 0 ≤ v ∧ v ≤ 900) (ir_120_2 hS.1.2.1) (fun r7 er7 br7 => ?_)
      have J41 : ∀ (M : Mem), St Pm0 ws_X12_next_120_w1 as_X12_next_120_w1 M0 M → rd M 120 2 = r7 → rd M 120 3 = g120_3 → rd M 120 4 = g120_4 → rd M 120 5 = g120_5 → rd M 120 7 = g120_7 → rd M 120 8 = g120_8 → tav M = g9010_0 → (g120_5 ≤ p5_1 ∧ g120_8 = g120_8) → Tr l K 1 mX12_next 41 [(0, (2, 120)), (1, (0, p5_1))] [] M (q_X12_next_120_w1 M0) := by
        intro M  hS  k41_120_2 k41_120_3 k41_120_4 k41_120_5 k41_120_7 k41_120_8 k41_9010_0 t41_0
        clear k5_120_3 k5_120_4 k5_120_5 k5_120_7 k5_120_8 k5_9010_0 er7
        refine Tr.aload_n (pc := 41) (i := 0) d_X12_next_41 rfl rfl ?_
        refine Tr.iload_n (pc := 42) (i := 1) d_X12_next_42 rfl rfl ?_
        refine Tr.putfS (pc := 43) (P := St Pm0 ws_X12_next_120_w1 as_X12_next_120_w1 M0) d_X12_next_43 f_12_23 (by decide) (by decide) (ty_120 hS.1.1) (st_120_4 hS (by decide) (by and_intros <;> omega) (Pm0.of hS.1.2.2.2.2 (fun _ => rd_wb _ rfl) (fun _ => rd_wb _ rfl) (fun _ => rd_wb _ rfl) (fun _ => rd_wb _ rfl) (fun _ => rd_wb _ rfl) (fun _ => rd_wb _ rfl) (fun _ => rd_wb _ rfl) (fun _ => rd_wb _ rfl) (fun _ => rd_wb _ rfl) (fun _ => rd_wb _ rfl) (rd_wb _ rfl) (rd_wb _ rfl) (rd_wb _ rfl) (rd_wb _ rfl) (rd_wb _ rfl) (rd_wb _ rfl) (rd_wb _ rfl) (rd_wb _ rfl) (rd_wb _ rfl) (rd_wb _ rfl) (rd_wb _ rfl))) (fun M43 hS w43 => ?_)
        refine Tr.aload_n (pc := 46) (i := 0) d_X12_next_46 rfl rfl ?_
        refine Tr.iload_n (pc := 47) (i := 1) d_X12_next_47 rfl rfl ?_
        refine Tr.putfS (pc := 48) (P := St Pm0 ws_X12_next_120_w1 as_X12_next_120_w1 M0) d_X12_next_48 f_12_26 (by decide) (by decide) (ty_120 hS.1.1) (st_120_5 hS (by decide) (by and_intros <;> omega) (Pm0.of hS.1.2.2.2.2 (fun _ => rd_wb _ rfl) (fun _ => rd_wb _ rfl) (fun _ => rd_wb _ rfl) (fun _ => rd_wb _ rfl) (fun _ => rd_wb _ rfl) (fun _ => rd_wb _ rfl) (fun _ => rd_wb _ rfl) (fun _ => rd_wb _ rfl) (fun _ => rd_wb _ rfl) (fun _ => rd_wb _ rfl) (rd_wb _ rfl) (rd_wb _ rfl) (rd_wb _ rfl) (rd_wb _ rfl) (rd_wb _ rfl) (rd_wb _ rfl) (rd_wb _ rfl) (rd_wb _ rfl) (rd_wb _ rfl) (rd_wb _ rfl) (rd_wb _ rfl))) (fun M48 hS w48 => ?_)
        refine Tr.aload_n (pc := 51) (i := 0) d_X12_next_51 rfl rfl ?_
        refine Tr.iconst (pc := 52) d_X12_next_52 (by decide) ?_
        refine Tr.putfS (pc := 53) (P := St Pm0 ws_X12_next_120_w1 as_X12_next_120_w1 M0) d_X12_next_53 f_12_20 (by decide) (by decide) (ty_120 hS.1.1) (st_120_3 hS (by decide) (by omega) (Pm0.of hS.1.2.2.2.2 (fun _ => rd_wb _ rfl) (fun _ => rd_wb _ rfl) (fun _ => rd_wb _ rfl) (fun _ => rd_wb _ rfl) (fun _ => rd_wb _ rfl) (fun _ => rd_wb _ rfl) (fun _ => rd_wb _ rfl) (fun _ => rd_wb _ rfl) (fun _ => rd_wb _ rfl) (fun _ => rd_wb _ rfl) (rd_wb _ rfl) (rd_wb _ rfl) (rd_wb _ rfl) (rd_wb _ rfl) (rd_wb _ rfl) (rd_wb _ rfl) (rd_wb _ rfl) (rd_wb _ rfl) (rd_wb _ rfl) (rd_wb _ rfl) (rd_wb _ rfl))) (fun M53 hS w53 => ?_)
        refine Tr.iload_n (pc := 56) (i := 1) d_X12_next_56 rfl rfl ?_
        refine Tr.aload_n (pc := 57) (i := 0) d_X12_next_57 rfl rfl ?_
        refine Tr.getf (pc := 58) d_X12_next_58 f_12_17 (by decide) (by decide) (ty_120 hS.1.1) ?_
        refine Tr.tp r7 ((Wr.b w53 rfl).trans ((Wr.b w48 rfl).trans ((Wr.b w43 rfl).trans k41_120_2))) ?_
        refine Tr.icmp_lt (pc := 61) (tgt := 65) d_X12_next_61 rfl (fun c61 => ?_) (fun c61 => ?_)
        · refine Tr.aload_n (pc := 65) (i := 0) d_X12_next_65 rfl rfl ?_
          refine Tr.getf (pc := 66) d_X12_next_66 f_12_7 (by decide) (by decide) (ty_120 hS.1.1) ?_
          refine Tr.tp 121 (fx_120_0 hS.1.1) ?_
          refine Tr.iload_n (pc := 69) (i := 1) d_X12_next_69 rfl rfl ?_
          refine Tr.iald (pc := 70) d_X12_next_70 (ty_121 hS.1.1) (by omega) (by omega) ?_
          refine Tr.gen (P := fun v => (-2147483648) ≤ v ∧ v ≤ 2147483647) (ar_121 hS.1.2.1 _) (fun r70 er70 br70 => ?_)
          refine Tr.callS (pc := 71) (as := [_]) d_X12_next_71 s_12_382 ok_X12_isLetter rfl rfl (Nat.le_of_ble_eq_true rfl) (Nat.le_of_ble_eq_true rfl) ?_
          refine Tr.imp (Tr.deep (by decide) (sp_X12_isLetter hS.1.wk r70 (by and_intros <;> omega))) ?_
          rintro M71 _ ⟨h71, r71, rfl, lr71, ur71, wr71⟩
          have h71 := St.rn h71 (Pm0.of hS.1.2.2.2.2 (fun _ => (ka_X12_isLetter_131 h71 _)) (fun _ => (ka_X12_isLetter_137 h71 _)) (fun _ => (ka_X12_isLetter_138 h71 _)) (fun _ => (ka_X12_isLetter_139 h71 _)) (fun _ => (ka_X12_isLetter_140 h71 _)) (fun _ => (ka_X12_isLetter_141 h71 _)) (fun _ => (ka_X12_isLetter_142 h71 _)) (fun _ => (ka_X12_isLetter_143 h71 _)) (fun _ => (ka_X12_isLetter_151 h71 _)) (fun _ => (ka_X12_isLetter_152 h71 _)) (kp_X12_isLetter_126_0 h71) (kp_X12_isLetter_126_1 h71) (kp_X12_isLetter_136_0 h71) (kp_X12_isLetter_136_1 h71) (kp_X12_isLetter_123_0 h71) (kp_X12_isLetter_123_1 h71) (kp_X12_isLetter_124_0 h71) (kp_X12_isLetter_124_1 h71) (kp_X12_isLetter_120_8 h71) (kp_X12_isLetter_120_36 h71) (kp_X12_isLetter_120_50 h71))
          have hS := St.tr hS h71 (by decide) (by decide)
          replace wr71 := hd_i wr71
          refine Tr.sc [(0, r71)] rfl ?_
          refine Tr.istore_n (pc := 74) (i := 2) (ls2 := [(2, (0, r71)), (0, (2, 120)), (1, (0, p5_1))]) d_X12_next_74 rfl (by decide) rfl ?_
          refine Tr.aload_n (pc := 75) (i := 0) d_X12_next_75 rfl rfl ?_
          refine Tr.getf (pc := 76) d_X12_next_76 f_12_7 (by decide) (by decide) (ty_120 hS.1.1) ?_
          refine Tr.tp 121 (fx_120_0 hS.1.1) ?_
          refine Tr.iload_n (pc := 79) (i := 1) d_X12_next_79 rfl rfl ?_
          refine Tr.iald (pc := 80) d_X12_next_80 (ty_121 hS.1.1) (by omega) (by omega) ?_
          refine Tr.tp r70 ((ka_X12_isLetter_121 h71 _).trans er70) ?_
          refine Tr.callS (pc := 81) (as := [_]) d_X12_next_81 s_12_386 ok_X12_isDigit rfl rfl (Nat.le_of_ble_eq_true rfl) (Nat.le_of_ble_eq_true rfl) ?_
          refine Tr.imp (Tr.deep (by decide) (sp_X12_isDigit hS.1.wk r70 (by and_intros <;> omega))) ?_
          rintro M81 _ ⟨h81, r81, rfl, lr81, ur81, wr81⟩
          have h81 := St.rn h81 (Pm0.of hS.1.2.2.2.2 (fun _ => (ka_X12_isDigit_131 h81 _)) (fun _ => (ka_X12_isDigit_137 h81 _)) (fun _ => (ka_X12_isDigit_138 h81 _)) (fun _ => (ka_X12_isDigit_139 h81 _)) (fun _ => (ka_X12_isDigit_140 h81 _)) (fun _ => (ka_X12_isDigit_141 h81 _)) (fun _ => (ka_X12_isDigit_142 h81 _)) (fun _ => (ka_X12_isDigit_143 h81 _)) (fun _ => (ka_X12_isDigit_151 h81 _)) (fun _ => (ka_X12_isDigit_152 h81 _)) (kp_X12_isDigit_126_0 h81) (kp_X12_isDigit_126_1 h81) (kp_X12_isDigit_136_0 h81) (kp_X12_isDigit_136_1 h81) (kp_X12_isDigit_123_0 h81) (kp_X12_isDigit_123_1 h81) (kp_X12_isDigit_124_0 h81) (kp_X12_isDigit_124_1 h81) (kp_X12_isDigit_120_8 h81) (kp_X12_isDigit_120_36 h81) (kp_X12_isDigit_120_50 h81))
          have hS := St.tr hS h81 (by decide) (by decide)
          replace wr81 := hd_i wr81
          refine Tr.sc [(0, r81)] rfl ?_
          refine Tr.istore_n (pc := 84) (i := 3) (ls2 := [(3, (0, r81)), (2, (0, r71)), (0, (2, 120)), (1, (0, p5_1))]) d_X12_next_84 rfl (by decide) rfl ?_
          refine Tr.iload_n (pc := 85) (i := 2) d_X12_next_85 rfl rfl ?_
          have J131 : ∀ (M : Mem) (u131_120_8 u131_9010_0 : Int), St Pm0 ws_X12_next_120_w1 as_X12_next_120_w1 M0 M → (0 ≤ u131_120_8 ∧ u131_120_8 ≤ 5) → ((-1) ≤ u131_9010_0 ∧ u131_9010_0 ≤ 1800) → rd M 120 2 = r7 → rd M 120 3 = 0 → rd M 120 4 = p5_1 → rd M 120 5 = p5_1 → rd M 120 7 = g120_7 → rd M 120 8 = u131_120_8 → rd M 121 p5_1 = r70 → tav M = u131_9010_0 → (g120_5 ≤ p5_1) → (p5_1 = p5_1) → (g120_8 = 0 ∨ u131_120_8 = g120_8) → ((r71 = 1 ∧ 97 ≤ rd M 121 p5_1 ∧ rd M 121 p5_1 ≤ 122) ∨ (r71 = 0 ∧ (rd M 121 p5_1 < 97 ∨ 122 < rd M 121 p5_1))) → ((r81 = 1 ∧ 48 ≤ rd M 121 p5_1 ∧ rd M 121 p5_1 ≤ 57) ∨ (r81 = 0 ∧ (rd M 121 p5_1 < 48 ∨ 57 < rd M 121 p5_1))) → Tr l K 1 mX12_next 131 [(0, (2, 120)), (1, (0, p5_1)), (2, (0, r71)), (3, (0, r81))] [] M (q_X12_next_120_w1 M0) := by
            intro M u131_120_8 u131_9010_0 hS bu131_120_8 bu131_9010_0 k131_120_2 k131_120_3 k131_120_4 k131_120_5 k131_120_7 k131_120_8 k131_121_p5_110 k131_9010_0 t131_0 t131_1 t131_2 t131_3 t131_4
            clear k41_120_2 k41_120_3 k41_120_4 k41_120_5 k41_120_7 k41_120_8 k41_9010_0 w43 w48 w53 er70
            replace t131_2 := hd_i t131_2
            replace t131_3 := hd_i t131_3
            replace t131_4 := hd_i t131_4
            refine Tr.aload_n (pc := 131) (i := 0) d_X12_next_131 rfl rfl ?_
            refine Tr.iconst (pc := 132) d_X12_next_132 (by decide) ?_
            refine Tr.putfS (pc := 133) (P := St Pm0 ws_X12_next_120_w1 as_X12_next_120_w1 M0) d_X12_next_133 f_12_29 (by decide) (by decide) (ty_120 hS.1.1) (st_120_6 hS (by decide) (by omega) (Pm0.of hS.1.2.2.2.2 (fun _ => rd_wb _ rfl) (fun _ => rd_wb _ rfl) (fun _ => rd_wb _ rfl) (fun _ => rd_wb _ rfl) (fun _ => rd_wb _ rfl) (fun _ => rd_wb _ rfl) (fun _ => rd_wb _ rfl) (fun _ => rd_wb _ rfl) (fun _ => rd_wb _ rfl) (fun _ => rd_wb _ rfl) (rd_wb _ rfl) (rd_wb _ rfl) (rd_wb _ rfl) (rd_wb _ rfl) (rd_wb _ rfl) (rd_wb _ rfl) (rd_wb _ rfl) (rd_wb _ rfl) (rd_wb _ rfl) (rd_wb _ rfl) (rd_wb _ rfl))) (fun M133 hS w133 => ?_)
            refine Tr.aload_n (pc := 136) (i := 0) d_X12_next_136 rfl rfl ?_
            refine Tr.lconst (pc := 137) (v := 0) d_X12_next_137 rfl (by decide) ?_
            refine Tr.putfS (pc := 138) (P := St Pm0 ws_X12_next_120_w1 as_X12_next_120_w1 M0) d_X12_next_138 f_12_32 (by decide) (by decide) (ty_120 hS.1.1) (st_120_7 hS (by decide) (by omega) (Pm0.of hS.1.2.2.2.2 (fun _ => rd_wb _ rfl) (fun _ => rd_wb _ rfl) (fun _ => rd_wb _ rfl) (fun _ => rd_wb _ rfl) (fun _ => rd_wb _ rfl) (fun _ => rd_wb _ rfl) (fun _ => rd_wb _ rfl) (fun _ => rd_wb _ rfl) (fun _ => rd_wb _ rfl) (fun _ => rd_wb _ rfl) (rd_wb _ rfl) (rd_wb _ rfl) (rd_wb _ rfl) (rd_wb _ rfl) (rd_wb _ rfl) (rd_wb _ rfl) (rd_wb _ rfl) (rd_wb _ rfl) (rd_wb _ rfl) (rd_wb _ rfl) (rd_wb _ rfl))) (fun M138 hS w138 => ?_)
            refine Tr.aload_n (pc := 141) (i := 0) d_X12_next_141 rfl rfl ?_
            refine Tr.iconst (pc := 142) d_X12_next_142 (by decide) ?_
            refine Tr.putfS (pc := 143) (P := St Pm0 ws_X12_next_120_w1 as_X12_next_120_w1 M0) d_X12_next_143 f_12_20 (by decide) (by decide) (ty_120 hS.1.1) (st_120_3 hS (by decide) (by omega) (Pm0.of hS.1.2.2.2.2 (fun _ => rd_wb _ rfl) (fun _ => rd_wb _ rfl) (fun _ => rd_wb _ rfl) (fun _ => rd_wb _ rfl) (fun _ => rd_wb _ rfl) (fun _ => rd_wb _ rfl) (fun _ => rd_wb _ rfl) (fun _ => rd_wb _ rfl) (fun _ => rd_wb _ rfl) (fun _ => rd_wb _ rfl) (rd_wb _ rfl) (rd_wb _ rfl) (rd_wb _ rfl) (rd_wb _ rfl) (rd_wb _ rfl) (rd_wb _ rfl) (rd_wb _ rfl) (rd_wb _ rfl) (rd_wb _ rfl) (rd_wb _ rfl) (rd_wb _ rfl))) (fun M143 hS w143 => ?_)
            refine Tr.aload_n (pc := 146) (i := 0) d_X12_next_146 rfl rfl ?_
            refine Tr.iload_n (pc := 147) (i := 1) d_X12_next_147 rfl rfl ?_
            refine Tr.iconst (pc := 148) d_X12_next_148 (by decide) ?_
            refine Tr.iadd (pc := 149) d_X12_next_149 ?_
            refine Tr.tp (p5_1 + 1) ((w32_id (by and_intros <;> omega)).trans (by omega)) ?_
            refine Tr.putfS (pc := 150) (P := St Pm0 ws_X12_next_120_w1 as_X12_next_120_w1 M0) d_X12_next_150 f_12_26 (by decide) (by decide) (ty_120 hS.1.1) (st_120_5 hS (by decide) (by and_intros <;> omega) (Pm0.of hS.1.2.2.2.2 (fun _ => rd_wb _ rfl) (fun _ => rd_wb _ rfl) (fun _ => rd_wb _ rfl) (fun _ => rd_wb _ rfl) (fun _ => rd_wb _ rfl) (fun _ => rd_wb _ rfl) (fun _ => rd_wb _ rfl) (fun _ => rd_wb _ rfl) (fun _ => rd_wb _ rfl) (fun _ => rd_wb _ rfl) (rd_wb _ rfl) (rd_wb _ rfl) (rd_wb _ rfl) (rd_wb _ rfl) (rd_wb _ rfl) (rd_wb _ rfl) (rd_wb _ rfl) (rd_wb _ rfl) (rd_wb _ rfl) (rd_wb _ rfl) (rd_wb _ rfl))) (fun M150 hS w150 => ?_)
            refine Tr.iload_n (pc := 153) (i := 2) d_X12_next_153 rfl rfl ?_
            have J172 : ∀ (M : Mem) (u172_9010_0 : Int), St Pm0 ws_X12_next_120_w1 as_X12_next_120_w1 M0 M → ((-1) ≤ u172_9010_0 ∧ u172_9010_0 ≤ 1800) → rd M 120 2 = r7 → rd M 120 3 = 3 → rd M 120 4 = p5_1 → rd M 120 5 = (p5_1 + 1) → rd M 120 6 = 0 → rd M 120 7 = 0 → rd M 120 8 = u131_120_8 → rd M 121 p5_1 = r70 → tav M = u172_9010_0 → (g120_5 ≤ p5_1) → (p5_1 = p5_1) → (g120_8 = 0 ∨ u131_120_8 = g120_8) → ((r71 = 1 ∧ 97 ≤ rd M 121 p5_1 ∧ rd M 121 p5_1 ≤ 122) ∨ (r71 = 0 ∧ (rd M 121 p5_1 < 97 ∨ 122 < rd M 121 p5_1))) → ((r81 = 1 ∧ 48 ≤ rd M 121 p5_1 ∧ rd M 121 p5_1 ≤ 57) ∨ (r81 = 0 ∧ (rd M 121 p5_1 < 48 ∨ 57 < rd M 121 p5_1))) → (r71 = 1 ∨ r81 = 1) → Tr l K 1 mX12_next 172 [(0, (2, 120)), (1, (0, p5_1)), (2, (0, r71)), (3, (0, r81))] [] M (q_X12_next_120_w1 M0) := by
              intro M u172_9010_0 hS bu172_9010_0 k172_120_2 k172_120_3 k172_120_4 k172_120_5 k172_120_6 k172_120_7 k172_120_8 k172_121_p5_110 k172_9010_0 t172_0 t172_1 t172_2 t172_3 t172_4 t172_5
              clear k131_120_2 k131_120_3 k131_120_4 k131_120_5 k131_120_7 k131_120_8 k131_121_p5_110 k131_9010_0 w133 w138 w143 w150
              replace t172_2 := hd_i t172_2
              replace t172_3 := hd_i t172_3
              replace t172_4 := hd_i t172_4
              replace t172_5 := hd_i t172_5
              refine Tr.aload_n (pc := 172) (i := 0) d_X12_next_172 rfl rfl ?_
              refine Tr.iload_n (pc := 173) (i := 2) d_X12_next_173 rfl rfl ?_
              have J182 : ∀ (M : Mem) (q182_1 : Int), St Pm0 ws_X12_next_120_w1 as_X12_next_120_w1 M0 M → (1 ≤ q182_1 ∧ q182_1 ≤ 2) → rd M 120 2 = r7 → rd M 120 3 = 3 → rd M 120 4 = p5_1 → rd M 120 5 = (p5_1 + 1) → rd M 120 6 = 0 → rd M 120 7 = 0 → rd M 120 8 = u131_120_8 → rd M 121 p5_1 = r70 → tav M = u172_9010_0 → (g120_5 ≤ p5_1) → (p5_1 = p5_1) → (g120_8 = 0 ∨ u131_120_8 = g120_8) → ((r71 = 1 ∧ 97 ≤ rd M 121 p5_1 ∧ rd M 121 p5_1 ≤ 122) ∨ (r71 = 0 ∧ (rd M 121 p5_1 < 97 ∨ 122 < rd M 121 p5_1))) → ((r81 = 1 ∧ 48 ≤ rd M 121 p5_1 ∧ rd M 121 p5_1 ≤ 57) ∨ (r81 = 0 ∧ (rd M 121 p5_1 < 48 ∨ 57 < rd M 121 p5_1))) → (r71 = 1 ∨ r81 = 1) → ((r71 = 1 ∧ q182_1 = 1) ∨ (r71 = 0 ∧ q182_1 = 2)) → Tr l K 1 mX12_next 182 [(0, (2, 120)), (1, (0, p5_1)), (2, (0, r71)), (3, (0, r81))] [(0, q182_1), (2, 120)] M (q_X12_next_120_w1 M0) := by
                intro M q182_1 hS bq182_1 k182_120_2 k182_120_3 k182_120_4 k182_120_5 k182_120_6 k182_120_7 k182_120_8 k182_121_p5_110 k182_9010_0 t182_0 t182_1 t182_2 t182_3 t182_4 t182_5 t182_6
                clear k172_120_2 k172_120_3 k172_120_4 k172_120_5 k172_120_6 k172_120_7 k172_120_8 k172_121_p5_110 k172_9010_0
                replace t182_2 := hd_i t182_2
                replace t182_3 := hd_i t182_3
                replace t182_4 := hd_i t182_4
                replace t182_5 := hd_i t182_5
                replace t182_6 := hd_i t182_6
                refine Tr.putfS (pc := 182) (P := St Pm0 ws_X12_next_120_w1 as_X12_next_120_w1 M0) d_X12_next_182 f_12_20 (by decide) (by decide) (ty_120 hS.1.1) (st_120_3 hS (by decide) (by and_intros <;> omega) (Pm0.of hS.1.2.2.2.2 (fun _ => rd_wb _ rfl) (fun _ => rd_wb _ rfl) (fun _ => rd_wb _ rfl) (fun _ => rd_wb _ rfl) (fun _ => rd_wb _ rfl) (fun _ => rd_wb _ rfl) (fun _ => rd_wb _ rfl) (fun _ => rd_wb _ rfl) (fun _ => rd_wb _ rfl) (fun _ => rd_wb _ rfl) (rd_wb _ rfl) (rd_wb _ rfl) (rd_wb _ rfl) (rd_wb _ rfl) (rd_wb _ rfl) (rd_wb _ rfl) (rd_wb _ rfl) (rd_wb _ rfl) (rd_wb _ rfl) (rd_wb _ rfl) (rd_wb _ rfl))) (fun M182 hS w182 => ?_)
                refine Tr.iload_n (pc := 185) (i := 2) d_X12_next_185 rfl rfl ?_
                have J195 : ∀ (M : Mem) (q195_0 u195_9010_0 : Int), St Pm0 ws_X12_next_120_w1 as_X12_next_120_w1 M0 M → (4 ≤ q195_0 ∧ q195_0 ≤ 6) → ((-1) ≤ u195_9010_0 ∧ u195_9010_0 ≤ 1800) → rd M 120 2 = r7 → rd M 120 3 = q182_1 → rd M 120 4 = p5_1 → rd M 120 5 = (p5_1 + 1) → rd M 120 6 = 0 → rd M 120 7 = 0 → rd M 120 8 = u131_120_8 → rd M 121 p5_1 = r70 → tav M = u195_9010_0 → (g120_5 ≤ p5_1) → (p5_1 = p5_1) → (g120_8 = 0 ∨ u131_120_8 = g120_8) → ((r71 = 1 ∧ 97 ≤ rd M 121 p5_1 ∧ rd M 121 p5_1 ≤ 122) ∨ (r71 = 0 ∧ (rd M 121 p5_1 < 97 ∨ 122 < rd M 121 p5_1))) → ((r81 = 1 ∧ 48 ≤ rd M 121 p5_1 ∧ rd M 121 p5_1 ≤ 57) ∨ (r81 = 0 ∧ (rd M 121 p5_1 < 48 ∨ 57 < rd M 121 p5_1))) → (r71 = 1 ∨ r81 = 1) → ((r71 = 1 ∧ q195_0 = 6 ∧ q182_1 = 1) ∨ (r71 = 0 ∧ q195_0 = 4 ∧ q182_1 = 2)) → Tr l K 1 mX12_next 195 [(0, (2, 120)), (1, (0, p5_1)), (2, (0, r71)), (3, (0, r81))] [(0, q195_0)] M (q_X12_next_120_w1 M0) := by
                  intro M q195_0 u195_9010_0 hS bq195_0 bu195_9010_0 k195_120_2 k195_120_3 k195_120_4 k195_120_5 k195_120_6 k195_120_7 k195_120_8 k195_121_p5_110 k195_9010_0 t195_0 t195_1 t195_2 t195_3 t195_4 t195_5 t195_6
                  clear k182_120_2 k182_120_3 k182_120_4 k182_120_5 k182_120_6 k182_120_7 k182_120_8 k182_121_p5_110 k182_9010_0 w182
                  replace t195_2 := hd_i t195_2
                  replace t195_3 := hd_i t195_3
                  replace t195_4 := hd_i t195_4
                  replace t195_5 := hd_i t195_5
                  replace t195_6 := hd_i t195_6
                  refine Tr.istore (pc := 195) (i := 4) (ls2 := [(4, (0, q195_0)), (0, (2, 120)), (1, (0, p5_1)), (2, (0, r71)), (3, (0, r81))]) d_X12_next_195 (by decide) rfl ?_
                  refine Tr.iconst (pc := 197) d_X12_next_197 (by decide) ?_
                  refine Tr.istore (pc := 198) (i := 5) (ls2 := [(5, (0, 0)), (4, (0, q195_0)), (0, (2, 120)), (1, (0, p5_1)), (2, (0, r71)), (3, (0, r81))]) d_X12_next_198 (by decide) rfl ?_
                  have J200 : ∀ (n200 : Nat) (M : Mem) (p200_1 p200_5 u200_120_7 u200_120_8 : Int), St Pm0 ws_X12_next_120_w1 as_X12_next_120_w1 M0 M → (0 ≤ p200_1 ∧ p200_1 ≤ 900) → (0 ≤ p200_5 ∧ p200_5 ≤ 2147483647) → ((-9223372036854775808) ≤ u200_120_7 ∧ u200_120_7 ≤ 9223372036854775807) → (0 ≤ u200_120_8 ∧ u200_120_8 ≤ 5) → rd M 120 2 = r7 → rd M 120 3 = q182_1 → rd M 120 4 = p5_1 → rd M 120 5 = (p5_1 + 1) → rd M 120 7 = u200_120_7 → rd M 120 8 = u200_120_8 → rd M 121 p5_1 = r70 → tav M = u195_9010_0 → (g120_5 ≤ p5_1) → (p200_1 = p5_1 + p200_5 ∧ 0 ≤ p200_5) → (g120_8 = 0 ∨ u200_120_8 = g120_8) → (q182_1 = 1 ∨ q182_1 = 2) → ((r71 = 1 ∧ q195_0 = 6 ∧ q182_1 = 1) ∨ (r71 = 0 ∧ q195_0 = 4 ∧ q182_1 = 2)) → (q182_1 ≠ 1 ∨ p200_5 ≥ 2 ∨ (p200_5 = 1 ∧ 0 ≤ u200_120_7 ∧ u200_120_7 < 256) ∨ (p200_5 = 0 ∧ u200_120_7 = 0)) → (p200_5 ≠ 0 ∨ (r71 = 1 ∧ 97 ≤ rd M 121 p200_1 ∧ rd M 121 p200_1 ≤ 122) ∨ (r71 = 0 ∧ 48 ≤ rd M 121 p200_1 ∧ rd M 121 p200_1 ≤ 57)) → (900 - p200_1).toNat < n200 → Tr l K 1 mX12_next 200 [(0, (2, 120)), (1, (0, p200_1)), (2, (0, r71)), (3, (0, r81)), (4, (0, q195_0)), (5, (0, p200_5))] [] M (q_X12_next_120_w1 M0) := by
                    intro n200
                    induction n200 with
                    | zero => intro M p200_1 p200_5 u200_120_7 u200_120_8 hS bp200_1 bp200_5 bu200_120_7 bu200_120_8 k200_120_2 k200_120_3 k200_120_4 k200_120_5 k200_120_7 k200_120_8 k200_121_p5_110 k200_9010_0 t200_0 t200_1 t200_2 t200_3 t200_4 t200_5 t200_6 hm200; exact absurd hm200 (Nat.not_lt_zero _)
                    | succ n200 J200 =>
                      intro M p200_1 p200_5 u200_120_7 u200_120_8 hS bp200_1 bp200_5 bu200_120_7 bu200_120_8 k200_120_2 k200_120_3 k200_120_4 k200_120_5 k200_120_7 k200_120_8 k200_121_p5_110 k200_9010_0 t200_0 t200_1 t200_2 t200_3 t200_4 t200_5 t200_6 hm200
                      clear k195_120_2 k195_120_3 k195_120_4 k195_120_5 k195_120_6 k195_120_7 k195_120_8 k195_121_p5_110 k195_9010_0
                      replace t200_2 := hd_i t200_2
                      replace t200_3 := hd_i t200_3
                      replace t200_4 := hd_i t200_4
                      replace t200_5 := hd_i t200_5
                      replace t200_6 := hd_i t200_6
                      refine Tr.iload_n (pc := 200) (i := 1) d_X12_next_200 rfl rfl ?_
                      refine Tr.aload_n (pc := 201) (i := 0) d_X12_next_201 rfl rfl ?_
                      refine Tr.getf (pc := 202) d_X12_next_202 f_12_17 (by decide) (by decide) (ty_120 hS.1.1) ?_
                      refine Tr.tp r7 k200_120_2 ?_
                      refine Tr.icmp_ge (pc := 205) (tgt := 323) d_X12_next_205 rfl (fun c205 => ?_) (fun c205 => ?_)
                      · refine Tr.aload_n (pc := 323) (i := 0) d_X12_next_323 rfl rfl ?_
                        refine Tr.iload_n (pc := 324) (i := 1) d_X12_next_324 rfl rfl ?_
                        refine Tr.putfS (pc := 325) (P := St Pm0 ws_X12_next_120_w1 as_X12_next_120_w1 M0) d_X12_next_325 f_12_26 (by decide) (by decide) (ty_120 hS.1.1) (st_120_5 hS (by decide) (by and_intros <;> omega) (Pm0.of hS.1.2.2.2.2 (fun _ => rd_wb _ rfl) (fun _ => rd_wb _ rfl) (fun _ => rd_wb _ rfl) (fun _ => rd_wb _ rfl) (fun _ => rd_wb _ rfl) (fun _ => rd_wb _ rfl) (fun _ => rd_wb _ rfl) (fun _ => rd_wb _ rfl) (fun _ => rd_wb _ rfl) (fun _ => rd_wb _ rfl) (rd_wb _ rfl) (rd_wb _ rfl) (rd_wb _ rfl) (rd_wb _ rfl) (rd_wb _ rfl) (rd_wb _ rfl) (rd_wb _ rfl) (rd_wb _ rfl) (rd_wb _ rfl) (rd_wb _ rfl) (rd_wb _ rfl))) (fun M325 hS w325 => ?_)
                        obtain ⟨w328_9010_0, ew328_9010_0⟩ : ∃ v, tav M325 = v := ⟨_, rfl⟩
                        have bw328_9010_0 : (-1) ≤ w328_9010_0 ∧ w328_9010_0 ≤ 1800 := by rw [← ew328_9010_0]; exact (tav_b hS.1.2.1)
                        have jt := tav_c (w325.1) (((Wr.b w325 rfl).trans k200_120_3))
                        rw [ew328_9010_0] at jt
                        replace jt := hd_i jt
                        have kr_120_3 : rd M325 120 3 = q182_1 := ((Wr.b w325 rfl).trans k200_120_3)
                        have kr_120_4 : rd M325 120 4 = p5_1 := ((Wr.b w325 rfl).trans k200_120_4)
                        have kr_120_5 : rd M325 120 5 = p200_1 := w325.1
                        have kr_120_7 : rd M325 120 7 = u200_120_7 := ((Wr.b w325 rfl).trans k200_120_7)
                        have kr_120_8 : rd M325 120 8 = u200_120_8 := ((Wr.b w325 rfl).trans k200_120_8)
                        have kr_9010_0 : tav M325 = w328_9010_0 := ew328_9010_0
                        exact Tr.vret (pc := 328) d_X12_next_328 rfl ⟨hS, rfl, (by omega), (by omega), (by exact (hd_o t200_5).elim (fun h1 => (ne_o h1).elim (fun h2 => by omega) (fun h2 => by omega)) (fun h1 => h1.elim (fun h1 => by omega) (fun h1 => h1.elim (fun h1 => by omega) (fun h1 => by omega)))), (by omega), (by exact (hd_o jt).elim (fun h1 => by omega) (fun h1 => (hd_o jt0).elim (fun h2 => by omega) (fun h2 => by omega))), (by exact (hd_o jt).elim (fun h1 => by omega) (fun h1 => (hd_o jt0).elim (fun h2 => by omega) (fun h2 => by omega))), (by first | exact (hd_o t200_2) | exact (hd_o t200_2).elim (fun h1 => by omega) (fun h1 => by omega))⟩
                      · refine Tr.iload_n (pc := 208) (i := 2) d_X12_next_208 rfl rfl ?_
                        have J239 : ∀ (M : Mem), St Pm0 ws_X12_next_120_w1 as_X12_next_120_w1 M0 M → rd M 120 2 = r7 → rd M 120 3 = q182_1 → rd M 120 4 = p5_1 → rd M 120 5 = (p5_1 + 1) → rd M 120 7 = u200_120_7 → rd M 120 8 = u200_120_8 → rd M 121 p5_1 = r70 → tav M = u195_9010_0 → (g120_5 ≤ p5_1) → (p200_1 = p5_1 + p200_5 ∧ 0 ≤ p200_5) → (g120_8 = 0 ∨ u200_120_8 = g120_8) → (q182_1 = 1 ∨ q182_1 = 2) → ((r71 = 1 ∧ q195_0 = 6 ∧ q182_1 = 1) ∨ (r71 = 0 ∧ q195_0 = 4 ∧ q182_1 = 2)) → (q182_1 ≠ 1 ∨ p200_5 ≥ 2 ∨ (p200_5 = 1 ∧ 0 ≤ u200_120_7 ∧ u200_120_7 < 256) ∨ (p200_5 = 0 ∧ u200_120_7 = 0)) → (p200_5 ≠ 0 ∨ (r71 = 1 ∧ 97 ≤ rd M 121 p200_1 ∧ rd M 121 p200_1 ≤ 122) ∨ (r71 = 0 ∧ 48 ≤ rd M 121 p200_1 ∧ rd M 121 p200_1 ≤ 57)) → Tr l K 1 mX12_next 239 [(0, (2, 120)), (1, (0, p200_1)), (2, (0, r71)), (3, (0, r81)), (4, (0, q195_0)), (5, (0, p200_5))] [] M (q_X12_next_120_w1 M0) := by
                          intro M  hS  k239_120_2 k239_120_3 k239_120_4 k239_120_5 k239_120_7 k239_120_8 k239_121_p5_110 k239_9010_0 t239_0 t239_1 t239_2 t239_3 t239_4 t239_5 t239_6
                          clear k200_120_2 k200_120_3 k200_120_4 k200_120_5 k200_120_7 k200_120_8 k200_121_p5_110 k200_9010_0
                          replace t239_2 := hd_i t239_2
                          replace t239_3 := hd_i t239_3
                          replace t239_4 := hd_i t239_4
                          replace t239_5 := hd_i t239_5
                          replace t239_6 := hd_i t239_6
                          refine Tr.iload (pc := 239) (i := 5) d_X12_next_239 rfl ?_
                          refine Tr.iload (pc := 241) (i := 4) d_X12_next_241 rfl ?_
                          have J252 : ∀ (M : Mem) (u252_120_8 : Int), St Pm0 ws_X12_next_120_w1 as_X12_next_120_w1 M0 M → (0 ≤ u252_120_8 ∧ u252_120_8 ≤ 5) → rd M 120 2 = r7 → rd M 120 3 = q182_1 → rd M 120 4 = p5_1 → rd M 120 5 = (p5_1 + 1) → rd M 120 7 = u200_120_7 → rd M 120 8 = u252_120_8 → rd M 121 p5_1 = r70 → tav M = u195_9010_0 → (g120_5 ≤ p5_1) → (p200_1 = p5_1 + p200_5 ∧ 0 ≤ p200_5) → (g120_8 = 0 ∨ u252_120_8 = g120_8) → (q182_1 = 1 ∨ q182_1 = 2) → ((r71 = 1 ∧ q195_0 = 6 ∧ q182_1 = 1) ∨ (r71 = 0 ∧ q195_0 = 4 ∧ q182_1 = 2)) → (q182_1 ≠ 1 ∨ p200_5 ≥ 2 ∨ (p200_5 = 1 ∧ 0 ≤ u200_120_7 ∧ u200_120_7 < 256) ∨ (p200_5 = 0 ∧ u200_120_7 = 0)) → (p200_5 ≠ 0 ∨ (r71 = 1 ∧ 97 ≤ rd M 121 p200_1 ∧ rd M 121 p200_1 ≤ 122) ∨ (r71 = 0 ∧ 48 ≤ rd M 121 p200_1 ∧ rd M 121 p200_1 ≤ 57)) → Tr l K 1 mX12_next 252 [(0, (2, 120)), (1, (0, p200_1)), (2, (0, r71)), (3, (0, r81)), (4, (0, q195_0)), (5, (0, p200_5))] [] M (q_X12_next_120_w1 M0) := by
                            intro M u252_120_8 hS bu252_120_8 k252_120_2 k252_120_3 k252_120_4 k252_120_5 k252_120_7 k252_120_8 k252_121_p5_110 k252_9010_0 t252_0 t252_1 t252_2 t252_3 t252_4 t252_5 t252_6
                            clear k239_120_2 k239_120_3 k239_120_4 k239_120_5 k239_120_7 k239_120_8 k239_121_p5_110 k239_9010_0
                            replace t252_2 := hd_i t252_2
                            replace t252_3 := hd_i t252_3
                            replace t252_4 := hd_i t252_4
                            replace t252_5 := hd_i t252_5
                            replace t252_6 := hd_i t252_6
                            refine Tr.iload (pc := 252) (i := 5) d_X12_next_252 rfl ?_
                            refine Tr.iload (pc := 254) (i := 4) d_X12_next_254 rfl ?_
                            have J282 : ∀ (M : Mem) (u282_120_7 : Int), St Pm0 ws_X12_next_120_w1 as_X12_next_120_w1 M0 M → ((-9223372036854775808) ≤ u282_120_7 ∧ u282_120_7 ≤ 9223372036854775807) → rd M 120 2 = r7 → rd M 120 3 = q182_1 → rd M 120 4 = p5_1 → rd M 120 5 = (p5_1 + 1) → rd M 120 7 = u282_120_7 → rd M 120 8 = u252_120_8 → rd M 121 p5_1 = r70 → tav M = u195_9010_0 → (g120_5 ≤ p5_1) → (p200_1 = p5_1 + p200_5 ∧ 0 ≤ p200_5) → (g120_8 = 0 ∨ u252_120_8 = g120_8) → (q182_1 = 1 ∨ q182_1 = 2) → ((r71 = 1 ∧ q195_0 = 6 ∧ q182_1 = 1) ∨ (r71 = 0 ∧ q195_0 = 4 ∧ q182_1 = 2)) → (q182_1 ≠ 1 ∨ p200_5 ≥ 1 ∨ (0 ≤ u282_120_7 ∧ u282_120_7 < 256)) → Tr l K 1 mX12_next 282 [(0, (2, 120)), (1, (0, p200_1)), (2, (0, r71)), (3, (0, r81)), (4, (0, q195_0)), (5, (0, p200_5))] [] M (q_X12_next_120_w1 M0) := by
                              intro M u282_120_7 hS bu282_120_7 k282_120_2 k282_120_3 k282_120_4 k282_120_5 k282_120_7 k282_120_8 k282_121_p5_110 k282_9010_0 t282_0 t282_1 t282_2 t282_3 t282_4 t282_5
                              clear k252_120_2 k252_120_3 k252_120_4 k252_120_5 k252_120_7 k252_120_8 k252_121_p5_110 k252_9010_0
                              replace t282_2 := hd_i t282_2
                              replace t282_3 := hd_i t282_3
                              replace t282_4 := hd_i t282_4
                              replace t282_5 := hd_i t282_5
                              refine Tr.iload (pc := 282) (i := 5) d_X12_next_282 rfl ?_
                              refine Tr.iload (pc := 284) (i := 4) d_X12_next_284 rfl ?_
                              have J314 : ∀ (M : Mem), St Pm0 ws_X12_next_120_w1 as_X12_next_120_w1 M0 M → rd M 120 2 = r7 → rd M 120 3 = q182_1 → rd M 120 4 = p5_1 → rd M 120 5 = (p5_1 + 1) → rd M 120 7 = u282_120_7 → rd M 120 8 = u252_120_8 → rd M 121 p5_1 = r70 → tav M = u195_9010_0 → (g120_5 ≤ p5_1) → (p200_1 = p5_1 + p200_5 ∧ 0 ≤ p200_5) → (g120_8 = 0 ∨ u252_120_8 = g120_8) → (q182_1 = 1 ∨ q182_1 = 2) → ((r71 = 1 ∧ q195_0 = 6 ∧ q182_1 = 1) ∨ (r71 = 0 ∧ q195_0 = 4 ∧ q182_1 = 2)) → (q182_1 ≠ 1 ∨ p200_5 ≥ 1 ∨ (0 ≤ u282_120_7 ∧ u282_120_7 < 256)) → Tr l K 1 mX12_next 314 [(0, (2, 120)), (1, (0, p200_1)), (2, (0, r71)), (3, (0, r81)), (4, (0, q195_0)), (5, (0, p200_5))] [] M (q_X12_next_120_w1 M0) := by
                                intro M  hS  k314_120_2 k314_120_3 k314_120_4 k314_120_5 k314_120_7 k314_120_8 k314_121_p5_110 k314_9010_0 t314_0 t314_1 t314_2 t314_3 t314_4 t314_5
                                clear k282_120_2 k282_120_3 k282_120_4 k282_120_5 k282_120_7 k282_120_8 k282_121_p5_110 k282_9010_0
                                replace t314_2 := hd_i t314_2
                                replace t314_3 := hd_i t314_3
                                replace t314_4 := hd_i t314_4
                                replace t314_5 := hd_i t314_5
                                refine Tr.iincV (pc := 314) (n2 := (p200_5 + 1)) (ls2 := [(5, (0, (p200_5 + 1))), (0, (2, 120)), (1, (0, p200_1)), (2, (0, r71)), (3, (0, r81)), (4, (0, q195_0))]) d_X12_next_314 rfl (by decide) ((w32_id (by and_intros <;> omega)).trans (by omega)) rfl ?_
                                refine Tr.iincV (pc := 317) (n2 := (p200_1 + 1)) (ls2 := [(1, (0, (p200_1 + 1))), (5, (0, (p200_5 + 1))), (0, (2, 120)), (2, (0, r71)), (3, (0, r81)), (4, (0, q195_0))]) d_X12_next_317 rfl (by decide) ((w32_id (by and_intros <;> omega)).trans (by omega)) rfl ?_
                                refine Tr.goto (pc := 320) (tgt := 200) d_X12_next_320 rfl ?_
                                refine Tr.pick [2, 0, 3, 4, 5, 1] (ls2 := [(0, (2, 120)), (1, (0, (p200_1 + 1))), (2, (0, r71)), (3, (0, r81)), (4, (0, q195_0)), (5, (0, (p200_5 + 1)))]) rfl ?_
                                exact J200 _ _ _ _ _ hS (by and_intros <;> omega) (by and_intros <;> omega) (by omega) (by and_intros <;> omega) k314_120_2 k314_120_3 k314_120_4 k314_120_5 k314_120_7 k314_120_8 k314_121_p5_110 k314_9010_0 (by omega) (by and_intros <;> omega) (by first | exact (hd_o t314_2) | exact (hd_o t314_2).elim (fun h1 => by omega) (fun h1 => by omega)) (by first | exact (hd_o t314_3) | exact (hd_o t314_3).elim (fun h1 => by omega) (fun h1 => by omega)) (by first | exact (hd_o t314_4) | exact (hd_o t314_4).elim (fun h1 => by omega) (fun h1 => by omega)) (by exact (hd_o t314_5).elim (fun h1 => (ne_o h1).elim (fun h2 => by omega) (fun h2 => by omega)) (fun h1 => h1.elim (fun h1 => by omega) (fun h1 => by omega))) (by omega) (me_lt hm200 (by omega) (by omega))
                              refine Tr.icmp_ge (pc := 286) (tgt := 314) d_X12_next_286 rfl (fun c286 => ?_) (fun c286 => ?_)
                              · refine Tr.pick [0, 1, 2, 3, 4, 5] (ls2 := [(0, (2, 120)), (1, (0, p200_1)), (2, (0, r71)), (3, (0, r81)), (4, (0, q195_0)), (5, (0, p200_5))]) rfl ?_
                                exact J314 _ hS k282_120_2 k282_120_3 k282_120_4 k282_120_5 k282_120_7 k282_120_8 k282_121_p5_110 k282_9010_0 (by omega) (by and_intros <;> omega) (by first | exact (hd_o t282_2) | exact (hd_o t282_2).elim (fun h1 => by omega) (fun h1 => by omega)) (by first | exact (hd_o t282_3) | exact (hd_o t282_3).elim (fun h1 => by omega) (fun h1 => by omega)) (by first | exact (hd_o t282_4) | exact (hd_o t282_4).elim (fun h1 => by omega) (fun h1 => by omega)) (by first | exact (hd_o t282_5) | exact (hd_o t282_5).elim (fun h1 => by omega) (fun h1 => h1.elim (fun h1 => by omega) (fun h1 => by omega)))
                              · refine Tr.iload_n (pc := 289) (i := 3) d_X12_next_289 rfl rfl ?_
                                refine Tr.if_eq (pc := 290) (tgt := 314) d_X12_next_290 rfl (fun c290 => ?_) (fun c290 => ?_)
                                · refine Tr.pick [0, 1, 2, 3, 4, 5] (ls2 := [(0, (2, 120)), (1, (0, p200_1)), (2, (0, r71)), (3, (0, r81)), (4, (0, q195_0)), (5, (0, p200_5))]) rfl ?_
                                  exact J314 _ hS k282_120_2 k282_120_3 k282_120_4 k282_120_5 k282_120_7 k282_120_8 k282_121_p5_110 k282_9010_0 (by omega) (by and_intros <;> omega) (by first | exact (hd_o t282_2) | exact (hd_o t282_2).elim (fun h1 => by omega) (fun h1 => by omega)) (by first | exact (hd_o t282_3) | exact (hd_o t282_3).elim (fun h1 => by omega) (fun h1 => by omega)) (by first | exact (hd_o t282_4) | exact (hd_o t282_4).elim (fun h1 => by omega) (fun h1 => by omega)) (by first | exact (hd_o t282_5) | exact (hd_o t282_5).elim (fun h1 => by omega) (fun h1 => h1.elim (fun h1 => by omega) (fun h1 => by omega)))
                                · have c290b : 1 ≤ r81 ∧ r81 ≤ 1 := by omega
                                  replace c290 := hd_i c290
                                  refine Tr.aload_n (pc := 293) (i := 0) d_X12_next_293 rfl rfl ?_
                                  refine Tr.bipush (pc := 294) d_X12_next_294 rfl (by decide) ?_
                                  refine Tr.aload_n (pc := 296) (i := 0) d_X12_next_296 rfl rfl ?_
                                  refine Tr.getf (pc := 297) d_X12_next_297 f_12_29 (by decide) (by decide) (ty_120 hS.1.1) ?_
                                  refine Tr.gen (P := fun v => (-2147483648) ≤ v ∧ v ≤ 2147483647) (ir_120_6 hS.1.2.1) (fun r297 er297 br297 => ?_)
                                  refine Tr.imul (pc := 300) d_X12_next_300 ?_
                                  refine Tr.gen (P := fun v => (-2147483648) ≤ v ∧ v ≤ 2147483647) (w32_b _) (fun r300 er300 br300 => ?_)
                                  refine Tr.aload_n (pc := 301) (i := 0) d_X12_next_301 rfl rfl ?_
                                  refine Tr.getf (pc := 302) d_X12_next_302 f_12_7 (by decide) (by decide) (ty_120 hS.1.1) ?_
                                  refine Tr.tp 121 (fx_120_0 hS.1.1) ?_
                                  refine Tr.iload_n (pc := 305) (i := 1) d_X12_next_305 rfl rfl ?_
                                  refine Tr.iald (pc := 306) d_X12_next_306 (ty_121 hS.1.1) (by omega) (by omega) ?_
                                  refine Tr.gen (P := fun v => (-2147483648) ≤ v ∧ v ≤ 2147483647) (ar_121 hS.1.2.1 _) (fun r306 er306 br306 => ?_)
                                  refine Tr.iadd (pc := 307) d_X12_next_307 ?_
                                  refine Tr.gen (P := fun v => (-2147483648) ≤ v ∧ v ≤ 2147483647) (w32_b _) (fun r307 er307 br307 => ?_)
                                  refine Tr.bipush (pc := 308) d_X12_next_308 rfl (by decide) ?_
                                  refine Tr.isub (pc := 310) d_X12_next_310 ?_
                                  refine Tr.gen (P := fun v => (-2147483648) ≤ v ∧ v ≤ 2147483647) (w32_b _) (fun r310 er310 br310 => ?_)
                                  refine Tr.putfS (pc := 311) (P := St Pm0 ws_X12_next_120_w1 as_X12_next_120_w1 M0) d_X12_next_311 f_12_29 (by decide) (by decide) (ty_120 hS.1.1) (st_120_6 hS (by decide) (by and_intros <;> omega) (Pm0.of hS.1.2.2.2.2 (fun _ => rd_wb _ rfl) (fun _ => rd_wb _ rfl) (fun _ => rd_wb _ rfl) (fun _ => rd_wb _ rfl) (fun _ => rd_wb _ rfl) (fun _ => rd_wb _ rfl) (fun _ => rd_wb _ rfl) (fun _ => rd_wb _ rfl) (fun _ => rd_wb _ rfl) (fun _ => rd_wb _ rfl) (rd_wb _ rfl) (rd_wb _ rfl) (rd_wb _ rfl) (rd_wb _ rfl) (rd_wb _ rfl) (rd_wb _ rfl) (rd_wb _ rfl) (rd_wb _ rfl) (rd_wb _ rfl) (rd_wb _ rfl) (rd_wb _ rfl))) (fun M311 hS w311 => ?_)
                                  refine Tr.pick [0, 1, 2, 3, 4, 5] (ls2 := [(0, (2, 120)), (1, (0, p200_1)), (2, (0, r71)), (3, (0, r81)), (4, (0, q195_0)), (5, (0, p200_5))]) rfl ?_
                                  exact J314 _ hS ((Wr.b w311 rfl).trans k282_120_2) ((Wr.b w311 rfl).trans k282_120_3) ((Wr.b w311 rfl).trans k282_120_4) ((Wr.b w311 rfl).trans k282_120_5) ((Wr.b w311 rfl).trans k282_120_7) ((Wr.b w311 rfl).trans k282_120_8) ((Wr.b w311 rfl).trans k282_121_p5_110) ((tav_of ((Wr.b w311 rfl).trans rfl) ((Wr.b w311 rfl).trans rfl)).trans k282_9010_0) (by omega) (by and_intros <;> omega) (by first | exact (hd_o t282_2) | exact (hd_o t282_2).elim (fun h1 => by omega) (fun h1 => by omega)) (by first | exact (hd_o t282_3) | exact (hd_o t282_3).elim (fun h1 => by omega) (fun h1 => by omega)) (by first | exact (hd_o t282_4) | exact (hd_o t282_4).elim (fun h1 => by omega) (fun h1 => by omega)) (by first | exact (hd_o t282_5) | exact (hd_o t282_5).elim (fun h1 => by omega) (fun h1 => h1.elim (fun h1 => by omega) (fun h1 => by omega)))
                            refine Tr.icmp_ge (pc := 256) (tgt := 282) d_X12_next_256 rfl (fun c256 => ?_) (fun c256 => ?_)
                            · refine Tr.pick [0, 1, 2, 3, 4, 5] (ls2 := [(0, (2, 120)), (1, (0, p200_1)), (2, (0, r71)), (3, (0, r81)), (4, (0, q195_0)), (5, (0, p200_5))]) rfl ?_
                              exact J282 _ _ hS (by omega) k252_120_2 k252_120_3 k252_120_4 k252_120_5 k252_120_7 k252_120_8 k252_121_p5_110 k252_9010_0 (by omega) (by and_intros <;> omega) (by first | exact (hd_o t252_2) | exact (hd_o t252_2).elim (fun h1 => by omega) (fun h1 => by omega)) (by first | exact (hd_o t252_3) | exact (hd_o t252_3).elim (fun h1 => by omega) (fun h1 => by omega)) (by first | exact (hd_o t252_4) | exact (hd_o t252_4).elim (fun h1 => by omega) (fun h1 => by omega)) (by omega)
                            · refine Tr.iload_n (pc := 259) (i := 2) d_X12_next_259 rfl rfl ?_
                              refine Tr.if_eq (pc := 260) (tgt := 282) d_X12_next_260 rfl (fun c260 => ?_) (fun c260 => ?_)
                              · refine Tr.pick [0, 1, 2, 3, 4, 5] (ls2 := [(0, (2, 120)), (1, (0, p200_1)), (2, (0, r71)), (3, (0, r81)), (4, (0, q195_0)), (5, (0, p200_5))]) rfl ?_
                                exact J282 _ _ hS (by omega) k252_120_2 k252_120_3 k252_120_4 k252_120_5 k252_120_7 k252_120_8 k252_121_p5_110 k252_9010_0 (by omega) (by and_intros <;> omega) (by first | exact (hd_o t252_2) | exact (hd_o t252_2).elim (fun h1 => by omega) (fun h1 => by omega)) (by first | exact (hd_o t252_3) | exact (hd_o t252_3).elim (fun h1 => by omega) (fun h1 => by omega)) (by first | exact (hd_o t252_4) | exact (hd_o t252_4).elim (fun h1 => by omega) (fun h1 => by omega)) (by exact (hd_o t252_4).elim (fun h1 => by omega) (fun h1 => by omega))
                              · have c260b : 1 ≤ r71 ∧ r71 ≤ 1 := by omega
                                replace c260 := hd_i c260
                                refine Tr.aload_n (pc := 263) (i := 0) d_X12_next_263 rfl rfl ?_
                                refine Tr.aload_n (pc := 264) (i := 0) d_X12_next_264 rfl rfl ?_
                                refine Tr.getf (pc := 265) d_X12_next_265 f_12_32 (by decide) (by decide) (ty_120 hS.1.1) ?_
                                refine Tr.tp u200_120_7 k252_120_7 ?_
                                refine Tr.bipush (pc := 268) d_X12_next_268 rfl (by decide) ?_
                                refine Tr.lshl (pc := 270) d_X12_next_270 ?_
                                refine Tr.gen (P := fun v => ((-9223372036854775808) ≤ v ∧ v ≤ 9223372036854775807) ∧ (u200_120_7 ≠ 0 ∨ v = 0)) (lshl_z _ _) (fun r270 er270 br270 => ?_)
                                have br270d0 := hd_i br270.2
                                replace br270 := And.intro br270.1.1  (br270.1.2)
                                refine Tr.aload_n (pc := 271) (i := 0) d_X12_next_271 rfl rfl ?_
                                refine Tr.getf (pc := 272) d_X12_next_272 f_12_7 (by decide) (by decide) (ty_120 hS.1.1) ?_
                                refine Tr.tp 121 (fx_120_0 hS.1.1) ?_
                                refine Tr.iload_n (pc := 275) (i := 1) d_X12_next_275 rfl rfl ?_
                                refine Tr.iald (pc := 276) d_X12_next_276 (ty_121 hS.1.1) (by omega) (by omega) ?_
                                refine Tr.gen (P := fun v => (-2147483648) ≤ v ∧ v ≤ 2147483647) (ar_121 hS.1.2.1 _) (fun r276 er276 br276 => ?_)
                                refine Tr.i2l (pc := 277) d_X12_next_277 ?_
                                refine Tr.lor (pc := 278) d_X12_next_278 ?_
                                refine Tr.gen (P := fun v => ((-9223372036854775808) ≤ v ∧ v ≤ 9223372036854775807) ∧ (r270 ≠ 0 ∨ v = r276)) (lor_z _ (by omega)) (fun r278 er278 br278 => ?_)
                                have br278d0 := hd_i br278.2
                                replace br278 := And.intro br278.1.1  (br278.1.2)
                                refine Tr.putfS (pc := 279) (P := St Pm0 ws_X12_next_120_w1 as_X12_next_120_w1 M0) d_X12_next_279 f_12_32 (by decide) (by decide) (ty_120 hS.1.1) (st_120_7 hS (by decide) (by omega) (Pm0.of hS.1.2.2.2.2 (fun _ => rd_wb _ rfl) (fun _ => rd_wb _ rfl) (fun _ => rd_wb _ rfl) (fun _ => rd_wb _ rfl) (fun _ => rd_wb _ rfl) (fun _ => rd_wb _ rfl) (fun _ => rd_wb _ rfl) (fun _ => rd_wb _ rfl) (fun _ => rd_wb _ rfl) (fun _ => rd_wb _ rfl) (rd_wb _ rfl) (rd_wb _ rfl) (rd_wb _ rfl) (rd_wb _ rfl) (rd_wb _ rfl) (rd_wb _ rfl) (rd_wb _ rfl) (rd_wb _ rfl) (rd_wb _ rfl) (rd_wb _ rfl) (rd_wb _ rfl))) (fun M279 hS w279 => ?_)
                                refine Tr.pick [0, 1, 2, 3, 4, 5] (ls2 := [(0, (2, 120)), (1, (0, p200_1)), (2, (0, r71)), (3, (0, r81)), (4, (0, q195_0)), (5, (0, p200_5))]) rfl ?_
                                exact J282 _ _ hS (by omega) ((Wr.b w279 rfl).trans k252_120_2) ((Wr.b w279 rfl).trans k252_120_3) ((Wr.b w279 rfl).trans k252_120_4) ((Wr.b w279 rfl).trans k252_120_5) w279.1 ((Wr.b w279 rfl).trans k252_120_8) ((Wr.b w279 rfl).trans k252_121_p5_110) ((tav_of ((Wr.b w279 rfl).trans rfl) ((Wr.b w279 rfl).trans rfl)).trans k252_9010_0) (by omega) (by and_intros <;> omega) (by first | exact (hd_o t252_2) | exact (hd_o t252_2).elim (fun h1 => by omega) (fun h1 => by omega)) (by first | exact (hd_o t252_3) | exact (hd_o t252_3).elim (fun h1 => by omega) (fun h1 => by omega)) (by first | exact (hd_o t252_4) | exact (hd_o t252_4).elim (fun h1 => by omega) (fun h1 => by omega)) (by exact (hd_o br278d0).elim (fun h1 => (ne_o h1).elim (fun h2 => (hd_o br270d0).elim (fun h3 => (ne_o h3).elim (fun h4 => (hd_o t252_5).elim (fun h5 => (ne_o h5).elim (fun h6 => by omega) (fun h6 => by omega)) (fun h5 => h5.elim (fun h5 => by omega) (fun h5 => h5.elim (fun h5 => by omega) (fun h5 => by omega)))) (fun h4 => (hd_o t252_5).elim (fun h5 => (ne_o h5).elim (fun h6 => by omega) (fun h6 => by omega)) (fun h5 => h5.elim (fun h5 => by omega) (fun h5 => h5.elim (fun h5 => by omega) (fun h5 => by omega))))) (fun h3 => by omega)) (fun h2 => (hd_o br270d0).elim (fun h3 => (ne_o h3).elim (fun h4 => (hd_o t252_5).elim (fun h5 => (ne_o h5).elim (fun h6 => by omega) (fun h6 => by omega)) (fun h5 => h5.elim (fun h5 => by omega) (fun h5 => h5.elim (fun h5 => by omega) (fun h5 => by omega)))) (fun h4 => (hd_o t252_5).elim (fun h5 => (ne_o h5).elim (fun h6 => by omega) (fun h6 => by omega)) (fun h5 => h5.elim (fun h5 => by omega) (fun h5 => h5.elim (fun h5 => by omega) (fun h5 => by omega))))) (fun h3 => by omega))) (fun h1 => (hd_o t252_6).elim (fun h2 => (ne_o h2).elim (fun h3 => by omega) (fun h3 => by omega)) (fun h2 => h2.elim (fun h2 => by omega) (fun h2 => by omega))))
                          refine Tr.icmp_ne (pc := 243) (tgt := 252) d_X12_next_243 rfl (fun c243 => ?_) (fun c243 => ?_)
                          · replace c243 := hd_i c243
                            refine Tr.pick [0, 1, 2, 3, 4, 5] (ls2 := [(0, (2, 120)), (1, (0, p200_1)), (2, (0, r71)), (3, (0, r81)), (4, (0, q195_0)), (5, (0, p200_5))]) rfl ?_
                            exact J252 _ _ hS (by and_intros <;> omega) k239_120_2 k239_120_3 k239_120_4 k239_120_5 k239_120_7 k239_120_8 k239_121_p5_110 k239_9010_0 (by omega) (by and_intros <;> omega) (by first | exact (hd_o t239_2) | exact (hd_o t239_2).elim (fun h1 => by omega) (fun h1 => by omega)) (by first | exact (hd_o t239_3) | exact (hd_o t239_3).elim (fun h1 => by omega) (fun h1 => by omega)) (by first | exact (hd_o t239_4) | exact (hd_o t239_4).elim (fun h1 => by omega) (fun h1 => by omega)) (by first | exact (hd_o t239_5) | exact (hd_o t239_5).elim (fun h1 => by omega) (fun h1 => h1.elim (fun h1 => by omega) (fun h1 => h1.elim (fun h1 => by omega) (fun h1 => by omega)))) (by first | exact (hd_o t239_6) | exact (hd_o t239_6).elim (fun h1 => by omega) (fun h1 => h1.elim (fun h1 => by omega) (fun h1 => by omega)))
                          · refine Tr.aload_n (pc := 246) (i := 0) d_X12_next_246 rfl rfl ?_
                            refine Tr.iconst (pc := 247) d_X12_next_247 (by decide) ?_
                            refine Tr.iload_n (pc := 248) (i := 1) d_X12_next_248 rfl rfl ?_
                            refine Tr.callV (pc := 249) (as := [_, _]) d_X12_next_249 s_12_389 ok_X12_blame rfl rfl (Nat.le_of_ble_eq_true rfl) (Nat.le_of_ble_eq_true rfl) (by decide) (ty_120 hS.1.1) ?_
                            refine Tr.imp (Tr.deep (by decide) (ns_X12_blame_120_w1 (G120_8 := u200_120_8) hS.1 (k239_120_8) 1 (by omega) p200_1 (by and_intros <;> omega))) ?_
                            rintro M249 _ ⟨h249, s249_120_8, es249_120_8, bs249_120_8, rfl, z249_0⟩
                            have hS := St.tr hS h249 (by decide) (by decide)
                            refine Tr.sc [] rfl ?_
                            refine Tr.pick [0, 1, 2, 3, 4, 5] (ls2 := [(0, (2, 120)), (1, (0, p200_1)), (2, (0, r71)), (3, (0, r81)), (4, (0, q195_0)), (5, (0, p200_5))]) rfl ?_
                            exact J252 _ _ hS (by and_intros <;> omega) ((kp_X12_blame_120_w1_120_2 h249).trans k239_120_2) ((kp_X12_blame_120_w1_120_3 h249).trans k239_120_3) ((kp_X12_blame_120_w1_120_4 h249).trans k239_120_4) ((kp_X12_blame_120_w1_120_5 h249).trans k239_120_5) ((kp_X12_blame_120_w1_120_7 h249).trans k239_120_7) es249_120_8 ((ka_X12_blame_120_w1_121 h249 _).trans k239_121_p5_110) ((tav_of ((kp_X12_blame_120_w1_120_5 h249).trans rfl) ((kp_X12_blame_120_w1_120_3 h249).trans rfl)).trans k239_9010_0) (by omega) (by and_intros <;> omega) (by exact (hd_o t239_2).elim (fun h1 => by omega) (fun h1 => (hd_o z249_0).elim (fun h2 => by omega) (fun h2 => by omega))) (by first | exact (hd_o t239_3) | exact (hd_o t239_3).elim (fun h1 => by omega) (fun h1 => by omega)) (by first | exact (hd_o t239_4) | exact (hd_o t239_4).elim (fun h1 => by omega) (fun h1 => by omega)) (by first | exact (hd_o t239_5) | exact (hd_o t239_5).elim (fun h1 => by omega) (fun h1 => h1.elim (fun h1 => by omega) (fun h1 => h1.elim (fun h1 => by omega) (fun h1 => by omega)))) (by omega)
                        refine Tr.if_eq (pc := 209) (tgt := 227) d_X12_next_209 rfl (fun c209 => ?_) (fun c209 => ?_)
                        · refine Tr.aload_n (pc := 227) (i := 0) d_X12_next_227 rfl rfl ?_
                          refine Tr.getf (pc := 228) d_X12_next_228 f_12_7 (by decide) (by decide) (ty_120 hS.1.1) ?_
                          refine Tr.tp 121 (fx_120_0 hS.1.1) ?_
                          refine Tr.iload_n (pc := 231) (i := 1) d_X12_next_231 rfl rfl ?_
                          refine Tr.iald (pc := 232) d_X12_next_232 (ty_121 hS.1.1) (by omega) (by omega) ?_
                          refine Tr.gen (P := fun v => (-2147483648) ≤ v ∧ v ≤ 2147483647) (ar_121 hS.1.2.1 _) (fun r232 er232 br232 => ?_)
                          refine Tr.callS (pc := 233) (as := [_]) d_X12_next_233 s_12_386 ok_X12_isDigit rfl rfl (Nat.le_of_ble_eq_true rfl) (Nat.le_of_ble_eq_true rfl) ?_
                          refine Tr.imp (Tr.deep (by decide) (sp_X12_isDigit hS.1.wk r232 (by and_intros <;> omega))) ?_
                          rintro M233 _ ⟨h233, r233, rfl, lr233, ur233, wr233⟩
                          have h233 := St.rn h233 (Pm0.of hS.1.2.2.2.2 (fun _ => (ka_X12_isDigit_131 h233 _)) (fun _ => (ka_X12_isDigit_137 h233 _)) (fun _ => (ka_X12_isDigit_138 h233 _)) (fun _ => (ka_X12_isDigit_139 h233 _)) (fun _ => (ka_X12_isDigit_140 h233 _)) (fun _ => (ka_X12_isDigit_141 h233 _)) (fun _ => (ka_X12_isDigit_142 h233 _)) (fun _ => (ka_X12_isDigit_143 h233 _)) (fun _ => (ka_X12_isDigit_151 h233 _)) (fun _ => (ka_X12_isDigit_152 h233 _)) (kp_X12_isDigit_126_0 h233) (kp_X12_isDigit_126_1 h233) (kp_X12_isDigit_136_0 h233) (kp_X12_isDigit_136_1 h233) (kp_X12_isDigit_123_0 h233) (kp_X12_isDigit_123_1 h233) (kp_X12_isDigit_124_0 h233) (kp_X12_isDigit_124_1 h233) (kp_X12_isDigit_120_8 h233) (kp_X12_isDigit_120_36 h233) (kp_X12_isDigit_120_50 h233))
                          have hS := St.tr hS h233 (by decide) (by decide)
                          replace wr233 := hd_i wr233
                          refine Tr.sc [(0, r233)] rfl ?_
                          refine Tr.if_eq (pc := 236) (tgt := 323) d_X12_next_236 rfl (fun c236 => ?_) (fun c236 => ?_)
                          · refine Tr.aload_n (pc := 323) (i := 0) d_X12_next_323 rfl rfl ?_
                            refine Tr.iload_n (pc := 324) (i := 1) d_X12_next_324 rfl rfl ?_
                            refine Tr.putfS (pc := 325) (P := St Pm0 ws_X12_next_120_w1 as_X12_next_120_w1 M0) d_X12_next_325 f_12_26 (by decide) (by decide) (ty_120 hS.1.1) (st_120_5 hS (by decide) (by and_intros <;> omega) (Pm0.of hS.1.2.2.2.2 (fun _ => rd_wb _ rfl) (fun _ => rd_wb _ rfl) (fun _ => rd_wb _ rfl) (fun _ => rd_wb _ rfl) (fun _ => rd_wb _ rfl) (fun _ => rd_wb _ rfl) (fun _ => rd_wb _ rfl) (fun _ => rd_wb _ rfl) (fun _ => rd_wb _ rfl) (fun _ => rd_wb _ rfl) (rd_wb _ rfl) (rd_wb _ rfl) (rd_wb _ rfl) (rd_wb _ rfl) (rd_wb _ rfl) (rd_wb _ rfl) (rd_wb _ rfl) (rd_wb _ rfl) (rd_wb _ rfl) (rd_wb _ rfl) (rd_wb _ rfl))) (fun M325 hS w325 => ?_)
                            obtain ⟨w328_9010_0, ew328_9010_0⟩ : ∃ v, tav M325 = v := ⟨_, rfl⟩
                            have bw328_9010_0 : (-1) ≤ w328_9010_0 ∧ w328_9010_0 ≤ 1800 := by rw [← ew328_9010_0]; exact (tav_b hS.1.2.1)
                            have jt := tav_c (w325.1) (((Wr.b w325 rfl).trans ((kp_X12_isDigit_120_3 h233).trans k200_120_3)))
                            rw [ew328_9010_0] at jt
                            replace jt := hd_i jt
                            have kr_120_3 : rd M325 120 3 = q182_1 := ((Wr.b w325 rfl).trans ((kp_X12_isDigit_120_3 h233).trans k200_120_3))
                            have kr_120_4 : rd M325 120 4 = p5_1 := ((Wr.b w325 rfl).trans ((kp_X12_isDigit_120_4 h233).trans k200_120_4))
                            have kr_120_5 : rd M325 120 5 = p200_1 := w325.1
                            have kr_120_7 : rd M325 120 7 = u200_120_7 := ((Wr.b w325 rfl).trans ((kp_X12_isDigit_120_7 h233).trans k200_120_7))
                            have kr_120_8 : rd M325 120 8 = u200_120_8 := ((Wr.b w325 rfl).trans ((kp_X12_isDigit_120_8 h233).trans k200_120_8))
                            have kr_9010_0 : tav M325 = w328_9010_0 := ew328_9010_0
                            exact Tr.vret (pc := 328) d_X12_next_328 rfl ⟨hS, rfl, (by exact (hd_o t200_6).elim (fun h1 => (ne_o h1).elim (fun h2 => by omega) (fun h2 => by omega)) (fun h1 => h1.elim (fun h1 => by omega) (fun h1 => (hd_o wr233).elim (fun h2 => by omega) (fun h2 => h2.2.elim (fun h3 => by omega) (fun h3 => by omega))))), (by omega), (by exact (hd_o t200_4).elim (fun h1 => by omega) (fun h1 => by omega)), (by omega), (by exact (hd_o jt0).elim (fun h1 => (hd_o jt).elim (fun h2 => by omega) (fun h2 => (hd_o t200_6).elim (fun h3 => (ne_o h3).elim (fun h4 => by omega) (fun h4 => by omega)) (fun h3 => h3.elim (fun h3 => by omega) (fun h3 => (hd_o wr233).elim (fun h4 => by omega) (fun h4 => h4.2.elim (fun h5 => by omega) (fun h5 => by omega)))))) (fun h1 => (hd_o jt).elim (fun h2 => by omega) (fun h2 => by omega))), (by exact (hd_o jt0).elim (fun h1 => by omega) (fun h1 => (hd_o jt).elim (fun h2 => by omega) (fun h2 => (hd_o t200_6).elim (fun h3 => (ne_o h3).elim (fun h4 => by omega) (fun h4 => by omega)) (fun h3 => h3.elim (fun h3 => by omega) (fun h3 => (hd_o wr233).elim (fun h4 => by omega) (fun h4 => h4.2.elim (fun h5 => by omega) (fun h5 => by omega))))))), (by first | exact (hd_o t200_2) | exact (hd_o t200_2).elim (fun h1 => by omega) (fun h1 => by omega))⟩
                          · have c236b : 1 ≤ r233 ∧ r233 ≤ 1 := by omega
                            replace c236 := hd_i c236
                            refine Tr.pick [0, 1, 2, 3, 4, 5] (ls2 := [(0, (2, 120)), (1, (0, p200_1)), (2, (0, r71)), (3, (0, r81)), (4, (0, q195_0)), (5, (0, p200_5))]) rfl ?_
                            have jr239_0 : rd M233 121 p200_1 = r232 := ((ka_X12_isDigit_121 h233 _).trans er232)
                            exact J239 _ hS ((kp_X12_isDigit_120_2 h233).trans k200_120_2) ((kp_X12_isDigit_120_3 h233).trans k200_120_3) ((kp_X12_isDigit_120_4 h233).trans k200_120_4) ((kp_X12_isDigit_120_5 h233).trans k200_120_5) ((kp_X12_isDigit_120_7 h233).trans k200_120_7) ((kp_X12_isDigit_120_8 h233).trans k200_120_8) ((ka_X12_isDigit_121 h233 _).trans k200_121_p5_110) ((tav_of ((kp_X12_isDigit_120_5 h233).trans rfl) ((kp_X12_isDigit_120_3 h233).trans rfl)).trans k200_9010_0) (by omega) (by and_intros <;> omega) (by first | exact (hd_o t200_2) | exact (hd_o t200_2).elim (fun h1 => by omega) (fun h1 => by omega)) (by first | exact (hd_o t200_3) | exact (hd_o t200_3).elim (fun h1 => by omega) (fun h1 => by omega)) (by first | exact (hd_o t200_4) | exact (hd_o t200_4).elim (fun h1 => by omega) (fun h1 => by omega)) (by first | exact (hd_o t200_5) | exact (hd_o t200_5).elim (fun h1 => by omega) (fun h1 => h1.elim (fun h1 => by omega) (fun h1 => h1.elim (fun h1 => by omega) (fun h1 => by omega)))) (by exact (hd_o wr233).elim (fun h1 => by omega) (fun h1 => by omega))
                        · have c209b : 1 ≤ r71 ∧ r71 ≤ 1 := by omega
                          replace c209 := hd_i c209
                          refine Tr.aload_n (pc := 212) (i := 0) d_X12_next_212 rfl rfl ?_
                          refine Tr.getf (pc := 213) d_X12_next_213 f_12_7 (by decide) (by decide) (ty_120 hS.1.1) ?_
                          refine Tr.tp 121 (fx_120_0 hS.1.1) ?_
                          refine Tr.iload_n (pc := 216) (i := 1) d_X12_next_216 rfl rfl ?_
                          refine Tr.iald (pc := 217) d_X12_next_217 (ty_121 hS.1.1) (by omega) (by omega) ?_
                          refine Tr.gen (P := fun v => (-2147483648) ≤ v ∧ v ≤ 2147483647) (ar_121 hS.1.2.1 _) (fun r217 er217 br217 => ?_)
                          refine Tr.callS (pc := 218) (as := [_]) d_X12_next_218 s_12_382 ok_X12_isLetter rfl rfl (Nat.le_of_ble_eq_true rfl) (Nat.le_of_ble_eq_true rfl) ?_
                          refine Tr.imp (Tr.deep (by decide) (sp_X12_isLetter hS.1.wk r217 (by and_intros <;> omega))) ?_
                          rintro M218 _ ⟨h218, r218, rfl, lr218, ur218, wr218⟩
                          have h218 := St.rn h218 (Pm0.of hS.1.2.2.2.2 (fun _ => (ka_X12_isLetter_131 h218 _)) (fun _ => (ka_X12_isLetter_137 h218 _)) (fun _ => (ka_X12_isLetter_138 h218 _)) (fun _ => (ka_X12_isLetter_139 h218 _)) (fun _ => (ka_X12_isLetter_140 h218 _)) (fun _ => (ka_X12_isLetter_141 h218 _)) (fun _ => (ka_X12_isLetter_142 h218 _)) (fun _ => (ka_X12_isLetter_143 h218 _)) (fun _ => (ka_X12_isLetter_151 h218 _)) (fun _ => (ka_X12_isLetter_152 h218 _)) (kp_X12_isLetter_126_0 h218) (kp_X12_isLetter_126_1 h218) (kp_X12_isLetter_136_0 h218) (kp_X12_isLetter_136_1 h218) (kp_X12_isLetter_123_0 h218) (kp_X12_isLetter_123_1 h218) (kp_X12_isLetter_124_0 h218) (kp_X12_isLetter_124_1 h218) (kp_X12_isLetter_120_8 h218) (kp_X12_isLetter_120_36 h218) (kp_X12_isLetter_120_50 h218))
                          have hS := St.tr hS h218 (by decide) (by decide)
                          replace wr218 := hd_i wr218
                          refine Tr.sc [(0, r218)] rfl ?_
                          refine Tr.if_eq (pc := 221) (tgt := 323) d_X12_next_221 rfl (fun c221 => ?_) (fun c221 => ?_)
                          · refine Tr.aload_n (pc := 323) (i := 0) d_X12_next_323 rfl rfl ?_
                            refine Tr.iload_n (pc := 324) (i := 1) d_X12_next_324 rfl rfl ?_
                            refine Tr.putfS (pc := 325) (P := St Pm0 ws_X12_next_120_w1 as_X12_next_120_w1 M0) d_X12_next_325 f_12_26 (by decide) (by decide) (ty_120 hS.1.1) (st_120_5 hS (by decide) (by and_intros <;> omega) (Pm0.of hS.1.2.2.2.2 (fun _ => rd_wb _ rfl) (fun _ => rd_wb _ rfl) (fun _ => rd_wb _ rfl) (fun _ => rd_wb _ rfl) (fun _ => rd_wb _ rfl) (fun _ => rd_wb _ rfl) (fun _ => rd_wb _ rfl) (fun _ => rd_wb _ rfl) (fun _ => rd_wb _ rfl) (fun _ => rd_wb _ rfl) (rd_wb _ rfl) (rd_wb _ rfl) (rd_wb _ rfl) (rd_wb _ rfl) (rd_wb _ rfl) (rd_wb _ rfl) (rd_wb _ rfl) (rd_wb _ rfl) (rd_wb _ rfl) (rd_wb _ rfl) (rd_wb _ rfl))) (fun M325 hS w325 => ?_)
                            obtain ⟨w328_9010_0, ew328_9010_0⟩ : ∃ v, tav M325 = v := ⟨_, rfl⟩
                            have bw328_9010_0 : (-1) ≤ w328_9010_0 ∧ w328_9010_0 ≤ 1800 := by rw [← ew328_9010_0]; exact (tav_b hS.1.2.1)
                            have jt := tav_c (w325.1) (((Wr.b w325 rfl).trans ((kp_X12_isLetter_120_3 h218).trans k200_120_3)))
                            rw [ew328_9010_0] at jt
                            replace jt := hd_i jt
                            have kr_120_3 : rd M325 120 3 = q182_1 := ((Wr.b w325 rfl).trans ((kp_X12_isLetter_120_3 h218).trans k200_120_3))
                            have kr_120_4 : rd M325 120 4 = p5_1 := ((Wr.b w325 rfl).trans ((kp_X12_isLetter_120_4 h218).trans k200_120_4))
                            have kr_120_5 : rd M325 120 5 = p200_1 := w325.1
                            have kr_120_7 : rd M325 120 7 = u200_120_7 := ((Wr.b w325 rfl).trans ((kp_X12_isLetter_120_7 h218).trans k200_120_7))
                            have kr_120_8 : rd M325 120 8 = u200_120_8 := ((Wr.b w325 rfl).trans ((kp_X12_isLetter_120_8 h218).trans k200_120_8))
                            have kr_9010_0 : tav M325 = w328_9010_0 := ew328_9010_0
                            exact Tr.vret (pc := 328) d_X12_next_328 rfl ⟨hS, rfl, (by exact (hd_o t200_6).elim (fun h1 => (ne_o h1).elim (fun h2 => by omega) (fun h2 => by omega)) (fun h1 => h1.elim (fun h1 => (hd_o wr218).elim (fun h2 => by omega) (fun h2 => h2.2.elim (fun h3 => by omega) (fun h3 => by omega))) (fun h1 => by omega))), (by omega), (by exact (hd_o t200_5).elim (fun h1 => (ne_o h1).elim (fun h2 => by omega) (fun h2 => by omega)) (fun h1 => h1.elim (fun h1 => by omega) (fun h1 => h1.elim (fun h1 => by omega) (fun h1 => by omega)))), (by omega), (by exact (hd_o jt0).elim (fun h1 => (hd_o jt).elim (fun h2 => by omega) (fun h2 => (hd_o t200_6).elim (fun h3 => (ne_o h3).elim (fun h4 => by omega) (fun h4 => by omega)) (fun h3 => h3.elim (fun h3 => (hd_o wr218).elim (fun h4 => by omega) (fun h4 => h4.2.elim (fun h5 => by omega) (fun h5 => by omega))) (fun h3 => by omega)))) (fun h1 => (hd_o jt).elim (fun h2 => by omega) (fun h2 => by omega))), (by exact (hd_o jt0).elim (fun h1 => by omega) (fun h1 => (hd_o jt).elim (fun h2 => by omega) (fun h2 => (hd_o t200_6).elim (fun h3 => (ne_o h3).elim (fun h4 => by omega) (fun h4 => by omega)) (fun h3 => h3.elim (fun h3 => (hd_o wr218).elim (fun h4 => by omega) (fun h4 => h4.2.elim (fun h5 => by omega) (fun h5 => by omega))) (fun h3 => by omega))))), (by first | exact (hd_o t200_2) | exact (hd_o t200_2).elim (fun h1 => by omega) (fun h1 => by omega))⟩
                          · have c221b : 1 ≤ r218 ∧ r218 ≤ 1 := by omega
                            replace c221 := hd_i c221
                            refine Tr.goto (pc := 224) (tgt := 239) d_X12_next_224 rfl ?_
                            refine Tr.pick [0, 1, 2, 3, 4, 5] (ls2 := [(0, (2, 120)), (1, (0, p200_1)), (2, (0, r71)), (3, (0, r81)), (4, (0, q195_0)), (5, (0, p200_5))]) rfl ?_
                            have jr239_0 : rd M218 121 p200_1 = r217 := ((ka_X12_isLetter_121 h218 _).trans er217)
                            exact J239 _ hS ((kp_X12_isLetter_120_2 h218).trans k200_120_2) ((kp_X12_isLetter_120_3 h218).trans k200_120_3) ((kp_X12_isLetter_120_4 h218).trans k200_120_4) ((kp_X12_isLetter_120_5 h218).trans k200_120_5) ((kp_X12_isLetter_120_7 h218).trans k200_120_7) ((kp_X12_isLetter_120_8 h218).trans k200_120_8) ((ka_X12_isLetter_121 h218 _).trans k200_121_p5_110) ((tav_of ((kp_X12_isLetter_120_5 h218).trans rfl) ((kp_X12_isLetter_120_3 h218).trans rfl)).trans k200_9010_0) (by omega) (by and_intros <;> omega) (by first | exact (hd_o t200_2) | exact (hd_o t200_2).elim (fun h1 => by omega) (fun h1 => by omega)) (by first | exact (hd_o t200_3) | exact (hd_o t200_3).elim (fun h1 => by omega) (fun h1 => by omega)) (by first | exact (hd_o t200_4) | exact (hd_o t200_4).elim (fun h1 => by omega) (fun h1 => by omega)) (by first | exact (hd_o t200_5) | exact (hd_o t200_5).elim (fun h1 => by omega) (fun h1 => h1.elim (fun h1 => by omega) (fun h1 => h1.elim (fun h1 => by omega) (fun h1 => by omega)))) (by exact (hd_o wr218).elim (fun h1 => by omega) (fun h1 => by omega))
                  refine Tr.pick [2, 3, 4, 5, 1, 0] (ls2 := [(0, (2, 120)), (1, (0, p5_1)), (2, (0, r71)), (3, (0, r81)), (4, (0, q195_0)), (5, (0, 0))]) rfl ?_
                  have jr200_0 : rd M 121 p5_1 = r70 := k195_121_p5_110
                  exact J200 _ _ _ _ _ _ hS (by and_intros <;> omega) (by omega) (by omega) (by and_intros <;> omega) k195_120_2 k195_120_3 k195_120_4 k195_120_5 k195_120_7 k195_120_8 k195_121_p5_110 k195_9010_0 (by omega) (by and_intros <;> omega) (by first | exact (hd_o t195_2) | exact (hd_o t195_2).elim (fun h1 => by omega) (fun h1 => by omega)) (by omega) (by first | exact (hd_o t195_6) | exact (hd_o t195_6).elim (fun h1 => by omega) (fun h1 => by omega)) (by omega) (by exact (hd_o t195_5).elim (fun h1 => (hd_o wr71).elim (fun h2 => by omega) (fun h2 => by omega)) (fun h1 => (hd_o wr81).elim (fun h2 => (hd_o wr71).elim (fun h3 => by omega) (fun h3 => by omega)) (fun h2 => by omega))) (Nat.lt_succ_self _)
                refine Tr.if_eq (pc := 186) (tgt := 194) d_X12_next_186 rfl (fun c186 => ?_) (fun c186 => ?_)
                · refine Tr.iconst (pc := 194) d_X12_next_194 (by decide) ?_
                  refine Tr.pick [0, 1, 2, 3] (ls2 := [(0, (2, 120)), (1, (0, p5_1)), (2, (0, r71)), (3, (0, r81))]) rfl ?_
                  obtain ⟨w195p194_9010_0, ew195p194_9010_0⟩ : ∃ v, tav M182 = v := ⟨_, rfl⟩
                  have bw195p194_9010_0 : (-1) ≤ w195p194_9010_0 ∧ w195p194_9010_0 ≤ 1800 := by rw [← ew195p194_9010_0]; exact (tav_b hS.1.2.1)
                  have jr195_0 : rd M182 121 p5_1 = r70 := ((Wr.b w182 rfl).trans k182_121_p5_110)
                  have jr195_1 : rd M182 121 p5_1 = r70 := ((Wr.b w182 rfl).trans k182_121_p5_110)
                  exact J195 _ _ _ hS (by omega) (by and_intros <;> omega) ((Wr.b w182 rfl).trans k182_120_2) w182.1 ((Wr.b w182 rfl).trans k182_120_4) ((Wr.b w182 rfl).trans k182_120_5) ((Wr.b w182 rfl).trans k182_120_6) ((Wr.b w182 rfl).trans k182_120_7) ((Wr.b w182 rfl).trans k182_120_8) ((Wr.b w182 rfl).trans k182_121_p5_110) ew195p194_9010_0 (by omega) (by omega) (by first | exact (hd_o t182_2) | exact (hd_o t182_2).elim (fun h1 => by omega) (fun h1 => by omega)) (by first | exact (hd_o wr71) | exact (hd_o wr71).elim (fun h1 => by omega) (fun h1 => by omega)) (by first | exact (hd_o wr81) | exact (hd_o wr81).elim (fun h1 => by omega) (fun h1 => by omega)) (by first | exact (hd_o t182_5) | exact (hd_o t182_5).elim (fun h1 => by omega) (fun h1 => by omega)) (by exact (hd_o t182_6).elim (fun h1 => by omega) (fun h1 => by omega))
                · have c186b : 1 ≤ r71 ∧ r71 ≤ 1 := by omega
                  replace c186 := hd_i c186
                  refine Tr.bipush (pc := 189) d_X12_next_189 rfl (by decide) ?_
                  refine Tr.goto (pc := 191) (tgt := 195) d_X12_next_191 rfl ?_
                  refine Tr.pick [0, 1, 2, 3] (ls2 := [(0, (2, 120)), (1, (0, p5_1)), (2, (0, r71)), (3, (0, r81))]) rfl ?_
                  obtain ⟨w195p191_9010_0, ew195p191_9010_0⟩ : ∃ v, tav M182 = v := ⟨_, rfl⟩
                  have bw195p191_9010_0 : (-1) ≤ w195p191_9010_0 ∧ w195p191_9010_0 ≤ 1800 := by rw [← ew195p191_9010_0]; exact (tav_b hS.1.2.1)
                  have jr195_0 : rd M182 121 p5_1 = r70 := ((Wr.b w182 rfl).trans k182_121_p5_110)
                  have jr195_1 : rd M182 121 p5_1 = r70 := ((Wr.b w182 rfl).trans k182_121_p5_110)
                  exact J195 _ _ _ hS (by omega) (by and_intros <;> omega) ((Wr.b w182 rfl).trans k182_120_2) w182.1 ((Wr.b w182 rfl).trans k182_120_4) ((Wr.b w182 rfl).trans k182_120_5) ((Wr.b w182 rfl).trans k182_120_6) ((Wr.b w182 rfl).trans k182_120_7) ((Wr.b w182 rfl).trans k182_120_8) ((Wr.b w182 rfl).trans k182_121_p5_110) ew195p191_9010_0 (by omega) (by omega) (by first | exact (hd_o t182_2) | exact (hd_o t182_2).elim (fun h1 => by omega) (fun h1 => by omega)) (by first | exact (hd_o wr71) | exact (hd_o wr71).elim (fun h1 => by omega) (fun h1 => by omega)) (by first | exact (hd_o wr81) | exact (hd_o wr81).elim (fun h1 => by omega) (fun h1 => by omega)) (by first | exact (hd_o t182_5) | exact (hd_o t182_5).elim (fun h1 => by omega) (fun h1 => by omega)) (by exact (hd_o t182_6).elim (fun h1 => by omega) (fun h1 => by omega))
              refine Tr.if_eq (pc := 174) (tgt := 181) d_X12_next_174 rfl (fun c174 => ?_) (fun c174 => ?_)
              · refine Tr.iconst (pc := 181) d_X12_next_181 (by decide) ?_
                refine Tr.pick [0, 1, 2, 3] (ls2 := [(0, (2, 120)), (1, (0, p5_1)), (2, (0, r71)), (3, (0, r81))]) rfl ?_
                have jr182_0 : rd M 121 p5_1 = r70 := k172_121_p5_110
                have jr182_1 : rd M 121 p5_1 = r70 := k172_121_p5_110
                exact J182 _ _ hS (by omega) k172_120_2 k172_120_3 k172_120_4 k172_120_5 k172_120_6 k172_120_7 k172_120_8 k172_121_p5_110 k172_9010_0 (by omega) (by omega) (by first | exact (hd_o t172_2) | exact (hd_o t172_2).elim (fun h1 => by omega) (fun h1 => by omega)) (by first | exact (hd_o wr71) | exact (hd_o wr71).elim (fun h1 => by omega) (fun h1 => by omega)) (by first | exact (hd_o wr81) | exact (hd_o wr81).elim (fun h1 => by omega) (fun h1 => by omega)) (by first | exact (hd_o t172_5) | exact (hd_o t172_5).elim (fun h1 => by omega) (fun h1 => by omega)) (by omega)
              · have c174b : 1 ≤ r71 ∧ r71 ≤ 1 := by omega
                replace c174 := hd_i c174
                refine Tr.iconst (pc := 177) d_X12_next_177 (by decide) ?_
                refine Tr.goto (pc := 178) (tgt := 182) d_X12_next_178 rfl ?_
                refine Tr.pick [0, 1, 2, 3] (ls2 := [(0, (2, 120)), (1, (0, p5_1)), (2, (0, r71)), (3, (0, r81))]) rfl ?_
                have jr182_0 : rd M 121 p5_1 = r70 := k172_121_p5_110
                have jr182_1 : rd M 121 p5_1 = r70 := k172_121_p5_110
                exact J182 _ _ hS (by omega) k172_120_2 k172_120_3 k172_120_4 k172_120_5 k172_120_6 k172_120_7 k172_120_8 k172_121_p5_110 k172_9010_0 (by omega) (by omega) (by first | exact (hd_o t172_2) | exact (hd_o t172_2).elim (fun h1 => by omega) (fun h1 => by omega)) (by first | exact (hd_o wr71) | exact (hd_o wr71).elim (fun h1 => by omega) (fun h1 => by omega)) (by first | exact (hd_o wr81) | exact (hd_o wr81).elim (fun h1 => by omega) (fun h1 => by omega)) (by first | exact (hd_o t172_5) | exact (hd_o t172_5).elim (fun h1 => by omega) (fun h1 => by omega)) (by omega)
            refine Tr.if_ne (pc := 154) (tgt := 172) d_X12_next_154 rfl (fun c154 => ?_) (fun c154 => ?_)
            · have c154b : 1 ≤ r71 ∧ r71 ≤ 1 := by omega
              replace c154 := hd_i c154
              refine Tr.pick [0, 1, 2, 3] (ls2 := [(0, (2, 120)), (1, (0, p5_1)), (2, (0, r71)), (3, (0, r81))]) rfl ?_
              obtain ⟨w172p154_9010_0, ew172p154_9010_0⟩ : ∃ v, tav M150 = v := ⟨_, rfl⟩
              have bw172p154_9010_0 : (-1) ≤ w172p154_9010_0 ∧ w172p154_9010_0 ≤ 1800 := by rw [← ew172p154_9010_0]; exact (tav_b hS.1.2.1)
              have jr172_0 : rd M150 121 p5_1 = r70 := ((Wr.b w150 rfl).trans ((Wr.b w143 rfl).trans ((Wr.b w138 rfl).trans ((Wr.b w133 rfl).trans k131_121_p5_110))))
              have jr172_1 : rd M150 121 p5_1 = r70 := ((Wr.b w150 rfl).trans ((Wr.b w143 rfl).trans ((Wr.b w138 rfl).trans ((Wr.b w133 rfl).trans k131_121_p5_110))))
              exact J172 _ _ hS (by and_intros <;> omega) ((Wr.b w150 rfl).trans ((Wr.b w143 rfl).trans ((Wr.b w138 rfl).trans ((Wr.b w133 rfl).trans k131_120_2)))) ((Wr.b w150 rfl).trans w143.1) ((Wr.b w150 rfl).trans ((Wr.b w143 rfl).trans ((Wr.b w138 rfl).trans ((Wr.b w133 rfl).trans k131_120_4)))) w150.1 ((Wr.b w150 rfl).trans ((Wr.b w143 rfl).trans ((Wr.b w138 rfl).trans w133.1))) ((Wr.b w150 rfl).trans ((Wr.b w143 rfl).trans w138.1)) ((Wr.b w150 rfl).trans ((Wr.b w143 rfl).trans ((Wr.b w138 rfl).trans ((Wr.b w133 rfl).trans k131_120_8)))) ((Wr.b w150 rfl).trans ((Wr.b w143 rfl).trans ((Wr.b w138 rfl).trans ((Wr.b w133 rfl).trans k131_121_p5_110)))) ew172p154_9010_0 (by omega) (by omega) (by first | exact (hd_o t131_2) | exact (hd_o t131_2).elim (fun h1 => by omega) (fun h1 => by omega)) (by first | exact (hd_o wr71) | exact (hd_o wr71).elim (fun h1 => by omega) (fun h1 => by omega)) (by first | exact (hd_o wr81) | exact (hd_o wr81).elim (fun h1 => by omega) (fun h1 => by omega)) (by omega)
            · refine Tr.iload_n (pc := 157) (i := 3) d_X12_next_157 rfl rfl ?_
              refine Tr.if_ne (pc := 158) (tgt := 172) d_X12_next_158 rfl (fun c158 => ?_) (fun c158 => ?_)
              · have c158b : 1 ≤ r81 ∧ r81 ≤ 1 := by omega
                replace c158 := hd_i c158
                refine Tr.pick [0, 1, 2, 3] (ls2 := [(0, (2, 120)), (1, (0, p5_1)), (2, (0, r71)), (3, (0, r81))]) rfl ?_
                obtain ⟨w172p158_9010_0, ew172p158_9010_0⟩ : ∃ v, tav M150 = v := ⟨_, rfl⟩
                have bw172p158_9010_0 : (-1) ≤ w172p158_9010_0 ∧ w172p158_9010_0 ≤ 1800 := by rw [← ew172p158_9010_0]; exact (tav_b hS.1.2.1)
                have jr172_0 : rd M150 121 p5_1 = r70 := ((Wr.b w150 rfl).trans ((Wr.b w143 rfl).trans ((Wr.b w138 rfl).trans ((Wr.b w133 rfl).trans k131_121_p5_110))))
                have jr172_1 : rd M150 121 p5_1 = r70 := ((Wr.b w150 rfl).trans ((Wr.b w143 rfl).trans ((Wr.b w138 rfl).trans ((Wr.b w133 rfl).trans k131_121_p5_110))))
                exact J172 _ _ hS (by and_intros <;> omega) ((Wr.b w150 rfl).trans ((Wr.b w143 rfl).trans ((Wr.b w138 rfl).trans ((Wr.b w133 rfl).trans k131_120_2)))) ((Wr.b w150 rfl).trans w143.1) ((Wr.b w150 rfl).trans ((Wr.b w143 rfl).trans ((Wr.b w138 rfl).trans ((Wr.b w133 rfl).trans k131_120_4)))) w150.1 ((Wr.b w150 rfl).trans ((Wr.b w143 rfl).trans ((Wr.b w138 rfl).trans w133.1))) ((Wr.b w150 rfl).trans ((Wr.b w143 rfl).trans w138.1)) ((Wr.b w150 rfl).trans ((Wr.b w143 rfl).trans ((Wr.b w138 rfl).trans ((Wr.b w133 rfl).trans k131_120_8)))) ((Wr.b w150 rfl).trans ((Wr.b w143 rfl).trans ((Wr.b w138 rfl).trans ((Wr.b w133 rfl).trans k131_121_p5_110)))) ew172p158_9010_0 (by omega) (by omega) (by first | exact (hd_o t131_2) | exact (hd_o t131_2).elim (fun h1 => by omega) (fun h1 => by omega)) (by first | exact (hd_o wr71) | exact (hd_o wr71).elim (fun h1 => by omega) (fun h1 => by omega)) (by first | exact (hd_o wr81) | exact (hd_o wr81).elim (fun h1 => by omega) (fun h1 => by omega)) (by omega)
              · refine Tr.aload_n (pc := 161) (i := 0) d_X12_next_161 rfl rfl ?_
                refine Tr.aload_n (pc := 162) (i := 0) d_X12_next_162 rfl rfl ?_
                refine Tr.getf (pc := 163) d_X12_next_163 f_12_7 (by decide) (by decide) (ty_120 hS.1.1) ?_
                refine Tr.tp 121 (fx_120_0 hS.1.1) ?_
                refine Tr.iload_n (pc := 166) (i := 1) d_X12_next_166 rfl rfl ?_
                refine Tr.iald (pc := 167) d_X12_next_167 (ty_121 hS.1.1) (by omega) (by omega) ?_
                refine Tr.tp r70 ((Wr.b w150 rfl).trans ((Wr.b w143 rfl).trans ((Wr.b w138 rfl).trans ((Wr.b w133 rfl).trans k131_121_p5_110)))) ?_
                refine Tr.putfS (pc := 168) (P := St Pm0 ws_X12_next_120_w1 as_X12_next_120_w1 M0) d_X12_next_168 f_12_29 (by decide) (by decide) (ty_120 hS.1.1) (st_120_6 hS (by decide) (by and_intros <;> omega) (Pm0.of hS.1.2.2.2.2 (fun _ => rd_wb _ rfl) (fun _ => rd_wb _ rfl) (fun _ => rd_wb _ rfl) (fun _ => rd_wb _ rfl) (fun _ => rd_wb _ rfl) (fun _ => rd_wb _ rfl) (fun _ => rd_wb _ rfl) (fun _ => rd_wb _ rfl) (fun _ => rd_wb _ rfl) (fun _ => rd_wb _ rfl) (rd_wb _ rfl) (rd_wb _ rfl) (rd_wb _ rfl) (rd_wb _ rfl) (rd_wb _ rfl) (rd_wb _ rfl) (rd_wb _ rfl) (rd_wb _ rfl) (rd_wb _ rfl) (rd_wb _ rfl) (rd_wb _ rfl))) (fun M168 hS w168 => ?_)
                obtain ⟨w171_9010_0, ew171_9010_0⟩ : ∃ v, tav M168 = v := ⟨_, rfl⟩
                have bw171_9010_0 : (-1) ≤ w171_9010_0 ∧ w171_9010_0 ≤ 1800 := by rw [← ew171_9010_0]; exact (tav_b hS.1.2.1)
                have jt := tav_c (((Wr.b w168 rfl).trans w150.1)) (((Wr.b w168 rfl).trans ((Wr.b w150 rfl).trans w143.1)))
                rw [ew171_9010_0] at jt
                replace jt := hd_i jt
                have kr_120_3 : rd M168 120 3 = 3 := ((Wr.b w168 rfl).trans ((Wr.b w150 rfl).trans w143.1))
                have kr_120_4 : rd M168 120 4 = p5_1 := ((Wr.b w168 rfl).trans ((Wr.b w150 rfl).trans ((Wr.b w143 rfl).trans ((Wr.b w138 rfl).trans ((Wr.b w133 rfl).trans k131_120_4)))))
                have kr_120_5 : rd M168 120 5 = (p5_1 + 1) := ((Wr.b w168 rfl).trans w150.1)
                have kr_120_7 : rd M168 120 7 = 0 := ((Wr.b w168 rfl).trans ((Wr.b w150 rfl).trans ((Wr.b w143 rfl).trans w138.1)))
                have kr_120_8 : rd M168 120 8 = u131_120_8 := ((Wr.b w168 rfl).trans ((Wr.b w150 rfl).trans ((Wr.b w143 rfl).trans ((Wr.b w138 rfl).trans ((Wr.b w133 rfl).trans k131_120_8)))))
                have kr_9010_0 : tav M168 = w171_9010_0 := ew171_9010_0
                exact Tr.vret (pc := 171) d_X12_next_171 rfl ⟨hS, rfl, (by omega), (by omega), (by omega), (by omega), (by exact (hd_o jt).elim (fun h1 => by omega) (fun h1 => (hd_o jt0).elim (fun h2 => by omega) (fun h2 => by omega))), (by exact (hd_o jt).elim (fun h1 => by omega) (fun h1 => (hd_o jt0).elim (fun h2 => by omega) (fun h2 => by omega))), (by first | exact (hd_o t131_2) | exact (hd_o t131_2).elim (fun h1 => by omega) (fun h1 => by omega))⟩
          have J93 : ∀ (M : Mem) (u93_9010_0 : Int), St Pm0 ws_X12_next_120_w1 as_X12_next_120_w1 M0 M → ((-1) ≤ u93_9010_0 ∧ u93_9010_0 ≤ 1800) → rd M 120 2 = r7 → rd M 120 3 = 0 → rd M 120 4 = p5_1 → rd M 120 5 = p5_1 → rd M 120 7 = g120_7 → rd M 120 8 = g120_8 → rd M 121 p5_1 = r70 → tav M = u93_9010_0 → (g120_5 ≤ p5_1) → (p5_1 = p5_1) → (g120_8 = 0 ∨ g120_8 = g120_8) → ((r71 = 1 ∧ 97 ≤ rd M 121 p5_1 ∧ rd M 121 p5_1 ≤ 122) ∨ (r71 = 0 ∧ (rd M 121 p5_1 < 97 ∨ 122 < rd M 121 p5_1))) → ((r81 = 1 ∧ 48 ≤ rd M 121 p5_1 ∧ rd M 121 p5_1 ≤ 57) ∨ (r81 = 0 ∧ (rd M 121 p5_1 < 48 ∨ 57 < rd M 121 p5_1))) → Tr l K 1 mX12_next 93 [(0, (2, 120)), (1, (0, p5_1)), (2, (0, r71)), (3, (0, r81))] [] M (q_X12_next_120_w1 M0) := by
            intro M u93_9010_0 hS bu93_9010_0 k93_120_2 k93_120_3 k93_120_4 k93_120_5 k93_120_7 k93_120_8 k93_121_p5_110 k93_9010_0 t93_0 t93_1 t93_2 t93_3 t93_4
            clear k41_120_2 k41_120_3 k41_120_4 k41_120_5 k41_120_7 k41_120_8 k41_9010_0 w43 w48 w53 er70
            replace t93_2 := hd_i t93_2
            replace t93_3 := hd_i t93_3
            replace t93_4 := hd_i t93_4
            refine Tr.iload_n (pc := 93) (i := 1) d_X12_next_93 rfl rfl ?_
            refine Tr.if_le (pc := 94) (tgt := 131) d_X12_next_94 rfl (fun c94 => ?_) (fun c94 => ?_)
            · refine Tr.pick [0, 1, 2, 3] (ls2 := [(0, (2, 120)), (1, (0, p5_1)), (2, (0, r71)), (3, (0, r81))]) rfl ?_
              have jr131_0 : rd M 121 p5_1 = r70 := k93_121_p5_110
              have jr131_1 : rd M 121 p5_1 = r70 := k93_121_p5_110
              exact J131 _ _ _ hS (by and_intros <;> omega) (by and_intros <;> omega) k93_120_2 k93_120_3 k93_120_4 k93_120_5 k93_120_7 k93_120_8 k93_121_p5_110 k93_9010_0 (by omega) (by omega) (by first | exact (hd_o t93_2) | exact (hd_o t93_2).elim (fun h1 => by omega) (fun h1 => by omega)) (by first | exact (hd_o wr71) | exact (hd_o wr71).elim (fun h1 => by omega) (fun h1 => by omega)) (by first | exact (hd_o wr81) | exact (hd_o wr81).elim (fun h1 => by omega) (fun h1 => by omega))
            · refine Tr.aload_n (pc := 97) (i := 0) d_X12_next_97 rfl rfl ?_
              refine Tr.getf (pc := 98) d_X12_next_98 f_12_7 (by decide) (by decide) (ty_120 hS.1.1) ?_
              refine Tr.tp 121 (fx_120_0 hS.1.1) ?_
              refine Tr.iload_n (pc := 101) (i := 1) d_X12_next_101 rfl rfl ?_
              refine Tr.iconst (pc := 102) d_X12_next_102 (by decide) ?_
              refine Tr.isub (pc := 103) d_X12_next_103 ?_
              refine Tr.tp (p5_1 - 1) ((w32_id (by and_intros <;> omega)).trans (by omega)) ?_
              refine Tr.iald (pc := 104) d_X12_next_104 (ty_121 hS.1.1) (by omega) (by omega) ?_
              refine Tr.gen (P := fun v => (-2147483648) ≤ v ∧ v ≤ 2147483647) (ar_121 hS.1.2.1 _) (fun r104 er104 br104 => ?_)
              refine Tr.callS (pc := 105) (as := [_]) d_X12_next_105 s_12_382 ok_X12_isLetter rfl rfl (Nat.le_of_ble_eq_true rfl) (Nat.le_of_ble_eq_true rfl) ?_
              refine Tr.imp (Tr.deep (by decide) (sp_X12_isLetter hS.1.wk r104 (by and_intros <;> omega))) ?_
              rintro M105 _ ⟨h105, r105, rfl, lr105, ur105, wr105⟩
              have h105 := St.rn h105 (Pm0.of hS.1.2.2.2.2 (fun _ => (ka_X12_isLetter_131 h105 _)) (fun _ => (ka_X12_isLetter_137 h105 _)) (fun _ => (ka_X12_isLetter_138 h105 _)) (fun _ => (ka_X12_isLetter_139 h105 _)) (fun _ => (ka_X12_isLetter_140 h105 _)) (fun _ => (ka_X12_isLetter_141 h105 _)) (fun _ => (ka_X12_isLetter_142 h105 _)) (fun _ => (ka_X12_isLetter_143 h105 _)) (fun _ => (ka_X12_isLetter_151 h105 _)) (fun _ => (ka_X12_isLetter_152 h105 _)) (kp_X12_isLetter_126_0 h105) (kp_X12_isLetter_126_1 h105) (kp_X12_isLetter_136_0 h105) (kp_X12_isLetter_136_1 h105) (kp_X12_isLetter_123_0 h105) (kp_X12_isLetter_123_1 h105) (kp_X12_isLetter_124_0 h105) (kp_X12_isLetter_124_1 h105) (kp_X12_isLetter_120_8 h105) (kp_X12_isLetter_120_36 h105) (kp_X12_isLetter_120_50 h105))
              have hS := St.tr hS h105 (by decide) (by decide)
              replace wr105 := hd_i wr105
              refine Tr.sc [(0, r105)] rfl ?_
              have J125 : ∀ (M : Mem), St Pm0 ws_X12_next_120_w1 as_X12_next_120_w1 M0 M → rd M 120 2 = r7 → rd M 120 3 = 0 → rd M 120 4 = p5_1 → rd M 120 5 = p5_1 → rd M 120 7 = g120_7 → rd M 120 8 = g120_8 → rd M 121 (p5_1 - 1) = r104 → rd M 121 p5_1 = r70 → tav M = u93_9010_0 → (g120_5 ≤ p5_1) → (p5_1 = p5_1) → (g120_8 = 0 ∨ g120_8 = g120_8) → ((r71 = 1 ∧ 97 ≤ rd M 121 p5_1 ∧ rd M 121 p5_1 ≤ 122) ∨ (r71 = 0 ∧ (rd M 121 p5_1 < 97 ∨ 122 < rd M 121 p5_1))) → ((r81 = 1 ∧ 48 ≤ rd M 121 p5_1 ∧ rd M 121 p5_1 ≤ 57) ∨ (r81 = 0 ∧ (rd M 121 p5_1 < 48 ∨ 57 < rd M 121 p5_1))) → Tr l K 1 mX12_next 125 [(0, (2, 120)), (1, (0, p5_1)), (2, (0, r71)), (3, (0, r81))] [] M (q_X12_next_120_w1 M0) := by
                intro M  hS  k125_120_2 k125_120_3 k125_120_4 k125_120_5 k125_120_7 k125_120_8 k125_121_p5_11n1 k125_121_p5_110 k125_9010_0 t125_0 t125_1 t125_2 t125_3 t125_4
                clear k93_120_2 k93_120_3 k93_120_4 k93_120_5 k93_120_7 k93_120_8 k93_121_p5_110 k93_9010_0 er104
                replace t125_2 := hd_i t125_2
                replace t125_3 := hd_i t125_3
                replace t125_4 := hd_i t125_4
                refine Tr.aload_n (pc := 125) (i := 0) d_X12_next_125 rfl rfl ?_
                refine Tr.iconst (pc := 126) d_X12_next_126 (by decide) ?_
                refine Tr.iload_n (pc := 127) (i := 1) d_X12_next_127 rfl rfl ?_
                refine Tr.callV (pc := 128) (as := [_, _]) d_X12_next_128 s_12_389 ok_X12_blame rfl rfl (Nat.le_of_ble_eq_true rfl) (Nat.le_of_ble_eq_true rfl) (by decide) (ty_120 hS.1.1) ?_
                refine Tr.imp (Tr.deep (by decide) (ns_X12_blame_120_w1 (G120_8 := g120_8) hS.1 (k125_120_8) 1 (by omega) p5_1 (by and_intros <;> omega))) ?_
                rintro M128 _ ⟨h128, s128_120_8, es128_120_8, bs128_120_8, rfl, z128_0⟩
                have hS := St.tr hS h128 (by decide) (by decide)
                refine Tr.sc [] rfl ?_
                refine Tr.pick [0, 1, 2, 3] (ls2 := [(0, (2, 120)), (1, (0, p5_1)), (2, (0, r71)), (3, (0, r81))]) rfl ?_
                have jr131_0 : rd M128 121 p5_1 = r70 := ((ka_X12_blame_120_w1_121 h128 _).trans k125_121_p5_110)
                have jr131_1 : rd M128 121 p5_1 = r70 := ((ka_X12_blame_120_w1_121 h128 _).trans k125_121_p5_110)
                exact J131 _ _ _ hS (by and_intros <;> omega) (by and_intros <;> omega) ((kp_X12_blame_120_w1_120_2 h128).trans k125_120_2) ((kp_X12_blame_120_w1_120_3 h128).trans k125_120_3) ((kp_X12_blame_120_w1_120_4 h128).trans k125_120_4) ((kp_X12_blame_120_w1_120_5 h128).trans k125_120_5) ((kp_X12_blame_120_w1_120_7 h128).trans k125_120_7) es128_120_8 ((ka_X12_blame_120_w1_121 h128 _).trans k125_121_p5_110) ((tav_of ((kp_X12_blame_120_w1_120_5 h128).trans rfl) ((kp_X12_blame_120_w1_120_3 h128).trans rfl)).trans k125_9010_0) (by omega) (by omega) (by exact (hd_o z128_0).elim (fun h1 => by omega) (fun h1 => by omega)) (by first | exact (hd_o wr71) | exact (hd_o wr71).elim (fun h1 => by omega) (fun h1 => by omega)) (by first | exact (hd_o wr81) | exact (hd_o wr81).elim (fun h1 => by omega) (fun h1 => by omega))
              refine Tr.if_ne (pc := 108) (tgt := 125) d_X12_next_108 rfl (fun c108 => ?_) (fun c108 => ?_)
              · have c108b : 1 ≤ r105 ∧ r105 ≤ 1 := by omega
                replace c108 := hd_i c108
                refine Tr.pick [0, 1, 2, 3] (ls2 := [(0, (2, 120)), (1, (0, p5_1)), (2, (0, r71)), (3, (0, r81))]) rfl ?_
                have jr125_0 : rd M105 121 p5_1 = r70 := ((ka_X12_isLetter_121 h105 _).trans k93_121_p5_110)
                have jr125_1 : rd M105 121 p5_1 = r70 := ((ka_X12_isLetter_121 h105 _).trans k93_121_p5_110)
                exact J125 _ hS ((kp_X12_isLetter_120_2 h105).trans k93_120_2) ((kp_X12_isLetter_120_3 h105).trans k93_120_3) ((kp_X12_isLetter_120_4 h105).trans k93_120_4) ((kp_X12_isLetter_120_5 h105).trans k93_120_5) ((kp_X12_isLetter_120_7 h105).trans k93_120_7) ((kp_X12_isLetter_120_8 h105).trans k93_120_8) ((ka_X12_isLetter_121 h105 _).trans er104) ((ka_X12_isLetter_121 h105 _).trans k93_121_p5_110) ((tav_of ((kp_X12_isLetter_120_5 h105).trans rfl) ((kp_X12_isLetter_120_3 h105).trans rfl)).trans k93_9010_0) (by omega) (by omega) (by first | exact (hd_o t93_2) | exact (hd_o t93_2).elim (fun h1 => by omega) (fun h1 => by omega)) (by first | exact (hd_o wr71) | exact (hd_o wr71).elim (fun h1 => by omega) (fun h1 => by omega)) (by first | exact (hd_o wr81) | exact (hd_o wr81).elim (fun h1 => by omega) (fun h1 => by omega))
              · refine Tr.aload_n (pc := 111) (i := 0) d_X12_next_111 rfl rfl ?_
                refine Tr.getf (pc := 112) d_X12_next_112 f_12_7 (by decide) (by decide) (ty_120 hS.1.1) ?_
                refine Tr.tp 121 (fx_120_0 hS.1.1) ?_
                refine Tr.iload_n (pc := 115) (i := 1) d_X12_next_115 rfl rfl ?_
                refine Tr.iconst (pc := 116) d_X12_next_116 (by decide) ?_
                refine Tr.isub (pc := 117) d_X12_next_117 ?_
                refine Tr.tp (p5_1 - 1) ((w32_id (by and_intros <;> omega)).trans (by omega)) ?_
                refine Tr.iald (pc := 118) d_X12_next_118 (ty_121 hS.1.1) (by omega) (by omega) ?_
                refine Tr.tp r104 ((ka_X12_isLetter_121 h105 _).trans er104) ?_
                refine Tr.callS (pc := 119) (as := [_]) d_X12_next_119 s_12_386 ok_X12_isDigit rfl rfl (Nat.le_of_ble_eq_true rfl) (Nat.le_of_ble_eq_true rfl) ?_
                refine Tr.imp (Tr.deep (by decide) (sp_X12_isDigit hS.1.wk r104 (by and_intros <;> omega))) ?_
                rintro M119 _ ⟨h119, r119, rfl, lr119, ur119, wr119⟩
                have h119 := St.rn h119 (Pm0.of hS.1.2.2.2.2 (fun _ => (ka_X12_isDigit_131 h119 _)) (fun _ => (ka_X12_isDigit_137 h119 _)) (fun _ => (ka_X12_isDigit_138 h119 _)) (fun _ => (ka_X12_isDigit_139 h119 _)) (fun _ => (ka_X12_isDigit_140 h119 _)) (fun _ => (ka_X12_isDigit_141 h119 _)) (fun _ => (ka_X12_isDigit_142 h119 _)) (fun _ => (ka_X12_isDigit_143 h119 _)) (fun _ => (ka_X12_isDigit_151 h119 _)) (fun _ => (ka_X12_isDigit_152 h119 _)) (kp_X12_isDigit_126_0 h119) (kp_X12_isDigit_126_1 h119) (kp_X12_isDigit_136_0 h119) (kp_X12_isDigit_136_1 h119) (kp_X12_isDigit_123_0 h119) (kp_X12_isDigit_123_1 h119) (kp_X12_isDigit_124_0 h119) (kp_X12_isDigit_124_1 h119) (kp_X12_isDigit_120_8 h119) (kp_X12_isDigit_120_36 h119) (kp_X12_isDigit_120_50 h119))
                have hS := St.tr hS h119 (by decide) (by decide)
                replace wr119 := hd_i wr119
                refine Tr.sc [(0, r119)] rfl ?_
                refine Tr.if_eq (pc := 122) (tgt := 131) d_X12_next_122 rfl (fun c122 => ?_) (fun c122 => ?_)
                · refine Tr.pick [0, 1, 2, 3] (ls2 := [(0, (2, 120)), (1, (0, p5_1)), (2, (0, r71)), (3, (0, r81))]) rfl ?_
                  have jr131_0 : rd M119 121 p5_1 = r70 := ((ka_X12_isDigit_121 h119 _).trans ((ka_X12_isLetter_121 h105 _).trans k93_121_p5_110))
                  have jr131_1 : rd M119 121 p5_1 = r70 := ((ka_X12_isDigit_121 h119 _).trans ((ka_X12_isLetter_121 h105 _).trans k93_121_p5_110))
                  exact J131 _ _ _ hS (by and_intros <;> omega) (by and_intros <;> omega) ((kp_X12_isDigit_120_2 h119).trans ((kp_X12_isLetter_120_2 h105).trans k93_120_2)) ((kp_X12_isDigit_120_3 h119).trans ((kp_X12_isLetter_120_3 h105).trans k93_120_3)) ((kp_X12_isDigit_120_4 h119).trans ((kp_X12_isLetter_120_4 h105).trans k93_120_4)) ((kp_X12_isDigit_120_5 h119).trans ((kp_X12_isLetter_120_5 h105).trans k93_120_5)) ((kp_X12_isDigit_120_7 h119).trans ((kp_X12_isLetter_120_7 h105).trans k93_120_7)) ((kp_X12_isDigit_120_8 h119).trans ((kp_X12_isLetter_120_8 h105).trans k93_120_8)) ((ka_X12_isDigit_121 h119 _).trans ((ka_X12_isLetter_121 h105 _).trans k93_121_p5_110)) ((tav_of ((kp_X12_isDigit_120_5 h119).trans ((kp_X12_isLetter_120_5 h105).trans rfl)) ((kp_X12_isDigit_120_3 h119).trans ((kp_X12_isLetter_120_3 h105).trans rfl))).trans k93_9010_0) (by omega) (by omega) (by first | exact (hd_o t93_2) | exact (hd_o t93_2).elim (fun h1 => by omega) (fun h1 => by omega)) (by first | exact (hd_o wr71) | exact (hd_o wr71).elim (fun h1 => by omega) (fun h1 => by omega)) (by first | exact (hd_o wr81) | exact (hd_o wr81).elim (fun h1 => by omega) (fun h1 => by omega))
                · have c122b : 1 ≤ r119 ∧ r119 ≤ 1 := by omega
                  replace c122 := hd_i c122
                  refine Tr.pick [0, 1, 2, 3] (ls2 := [(0, (2, 120)), (1, (0, p5_1)), (2, (0, r71)), (3, (0, r81))]) rfl ?_
                  have jr125_0 : rd M119 121 p5_1 = r70 := ((ka_X12_isDigit_121 h119 _).trans ((ka_X12_isLetter_121 h105 _).trans k93_121_p5_110))
                  have jr125_1 : rd M119 121 p5_1 = r70 := ((ka_X12_isDigit_121 h119 _).trans ((ka_X12_isLetter_121 h105 _).trans k93_121_p5_110))
                  exact J125 _ hS ((kp_X12_isDigit_120_2 h119).trans ((kp_X12_isLetter_120_2 h105).trans k93_120_2)) ((kp_X12_isDigit_120_3 h119).trans ((kp_X12_isLetter_120_3 h105).trans k93_120_3)) ((kp_X12_isDigit_120_4 h119).trans ((kp_X12_isLetter_120_4 h105).trans k93_120_4)) ((kp_X12_isDigit_120_5 h119).trans ((kp_X12_isLetter_120_5 h105).trans k93_120_5)) ((kp_X12_isDigit_120_7 h119).trans ((kp_X12_isLetter_120_7 h105).trans k93_120_7)) ((kp_X12_isDigit_120_8 h119).trans ((kp_X12_isLetter_120_8 h105).trans k93_120_8)) ((ka_X12_isDigit_121 h119 _).trans ((ka_X12_isLetter_121 h105 _).trans er104)) ((ka_X12_isDigit_121 h119 _).trans ((ka_X12_isLetter_121 h105 _).trans k93_121_p5_110)) ((tav_of ((kp_X12_isDigit_120_5 h119).trans ((kp_X12_isLetter_120_5 h105).trans rfl)) ((kp_X12_isDigit_120_3 h119).trans ((kp_X12_isLetter_120_3 h105).trans rfl))).trans k93_9010_0) (by omega) (by omega) (by first | exact (hd_o t93_2) | exact (hd_o t93_2).elim (fun h1 => by omega) (fun h1 => by omega)) (by first | exact (hd_o wr71) | exact (hd_o wr71).elim (fun h1 => by omega) (fun h1 => by omega)) (by first | exact (hd_o wr81) | exact (hd_o wr81).elim (fun h1 => by omega) (fun h1 => by omega))
          refine Tr.if_ne (pc := 86) (tgt := 93) d_X12_next_86 rfl (fun c86 => ?_) (fun c86 => ?_)
          · have c86b : 1 ≤ r71 ∧ r71 ≤ 1 := by omega
            replace c86 := hd_i c86
            refine Tr.pick [2, 3, 1, 0] (ls2 := [(0, (2, 120)), (1, (0, p5_1)), (2, (0, r71)), (3, (0, r81))]) rfl ?_
            obtain ⟨w93p86_9010_0, ew93p86_9010_0⟩ : ∃ v, tav M81 = v := ⟨_, rfl⟩
            have bw93p86_9010_0 : (-1) ≤ w93p86_9010_0 ∧ w93p86_9010_0 ≤ 1800 := by rw [← ew93p86_9010_0]; exact (tav_b hS.1.2.1)
            have jr93_0 : rd M81 121 p5_1 = r70 := ((ka_X12_isDigit_121 h81 _).trans ((ka_X12_isLetter_121 h71 _).trans er70))
            have jr93_1 : rd M81 121 p5_1 = r70 := ((ka_X12_isDigit_121 h81 _).trans ((ka_X12_isLetter_121 h71 _).trans er70))
            exact J93 _ _ hS (by and_intros <;> omega) ((kp_X12_isDigit_120_2 h81).trans ((kp_X12_isLetter_120_2 h71).trans ((Wr.b w53 rfl).trans ((Wr.b w48 rfl).trans ((Wr.b w43 rfl).trans k41_120_2))))) ((kp_X12_isDigit_120_3 h81).trans ((kp_X12_isLetter_120_3 h71).trans w53.1)) ((kp_X12_isDigit_120_4 h81).trans ((kp_X12_isLetter_120_4 h71).trans ((Wr.b w53 rfl).trans ((Wr.b w48 rfl).trans w43.1)))) ((kp_X12_isDigit_120_5 h81).trans ((kp_X12_isLetter_120_5 h71).trans ((Wr.b w53 rfl).trans w48.1))) ((kp_X12_isDigit_120_7 h81).trans ((kp_X12_isLetter_120_7 h71).trans ((Wr.b w53 rfl).trans ((Wr.b w48 rfl).trans ((Wr.b w43 rfl).trans k41_120_7))))) ((kp_X12_isDigit_120_8 h81).trans ((kp_X12_isLetter_120_8 h71).trans ((Wr.b w53 rfl).trans ((Wr.b w48 rfl).trans ((Wr.b w43 rfl).trans k41_120_8))))) ((ka_X12_isDigit_121 h81 _).trans ((ka_X12_isLetter_121 h71 _).trans er70)) ew93p86_9010_0 (by omega) (by omega) (by omega) (by first | exact (hd_o wr71) | exact (hd_o wr71).elim (fun h1 => by omega) (fun h1 => by omega)) (by first | exact (hd_o wr81) | exact (hd_o wr81).elim (fun h1 => by omega) (fun h1 => by omega))
          · refine Tr.iload_n (pc := 89) (i := 3) d_X12_next_89 rfl rfl ?_
            refine Tr.if_eq (pc := 90) (tgt := 131) d_X12_next_90 rfl (fun c90 => ?_) (fun c90 => ?_)
            · refine Tr.pick [2, 3, 1, 0] (ls2 := [(0, (2, 120)), (1, (0, p5_1)), (2, (0, r71)), (3, (0, r81))]) rfl ?_
              obtain ⟨w131p90_9010_0, ew131p90_9010_0⟩ : ∃ v, tav M81 = v := ⟨_, rfl⟩
              have bw131p90_9010_0 : (-1) ≤ w131p90_9010_0 ∧ w131p90_9010_0 ≤ 1800 := by rw [← ew131p90_9010_0]; exact (tav_b hS.1.2.1)
              have jr131_0 : rd M81 121 p5_1 = r70 := ((ka_X12_isDigit_121 h81 _).trans ((ka_X12_isLetter_121 h71 _).trans er70))
              have jr131_1 : rd M81 121 p5_1 = r70 := ((ka_X12_isDigit_121 h81 _).trans ((ka_X12_isLetter_121 h71 _).trans er70))
              exact J131 _ _ _ hS (by and_intros <;> omega) (by and_intros <;> omega) ((kp_X12_isDigit_120_2 h81).trans ((kp_X12_isLetter_120_2 h71).trans ((Wr.b w53 rfl).trans ((Wr.b w48 rfl).trans ((Wr.b w43 rfl).trans k41_120_2))))) ((kp_X12_isDigit_120_3 h81).trans ((kp_X12_isLetter_120_3 h71).trans w53.1)) ((kp_X12_isDigit_120_4 h81).trans ((kp_X12_isLetter_120_4 h71).trans ((Wr.b w53 rfl).trans ((Wr.b w48 rfl).trans w43.1)))) ((kp_X12_isDigit_120_5 h81).trans ((kp_X12_isLetter_120_5 h71).trans ((Wr.b w53 rfl).trans w48.1))) ((kp_X12_isDigit_120_7 h81).trans ((kp_X12_isLetter_120_7 h71).trans ((Wr.b w53 rfl).trans ((Wr.b w48 rfl).trans ((Wr.b w43 rfl).trans k41_120_7))))) ((kp_X12_isDigit_120_8 h81).trans ((kp_X12_isLetter_120_8 h71).trans ((Wr.b w53 rfl).trans ((Wr.b w48 rfl).trans ((Wr.b w43 rfl).trans k41_120_8))))) ((ka_X12_isDigit_121 h81 _).trans ((ka_X12_isLetter_121 h71 _).trans er70)) ew131p90_9010_0 (by omega) (by omega) (by omega) (by first | exact (hd_o wr71) | exact (hd_o wr71).elim (fun h1 => by omega) (fun h1 => by omega)) (by first | exact (hd_o wr81) | exact (hd_o wr81).elim (fun h1 => by omega) (fun h1 => by omega))
            · have c90b : 1 ≤ r81 ∧ r81 ≤ 1 := by omega
              replace c90 := hd_i c90
              refine Tr.pick [2, 3, 1, 0] (ls2 := [(0, (2, 120)), (1, (0, p5_1)), (2, (0, r71)), (3, (0, r81))]) rfl ?_
              obtain ⟨w93p90_9010_0, ew93p90_9010_0⟩ : ∃ v, tav M81 = v := ⟨_, rfl⟩
              have bw93p90_9010_0 : (-1) ≤ w93p90_9010_0 ∧ w93p90_9010_0 ≤ 1800 := by rw [← ew93p90_9010_0]; exact (tav_b hS.1.2.1)
              have jr93_0 : rd M81 121 p5_1 = r70 := ((ka_X12_isDigit_121 h81 _).trans ((ka_X12_isLetter_121 h71 _).trans er70))
              have jr93_1 : rd M81 121 p5_1 = r70 := ((ka_X12_isDigit_121 h81 _).trans ((ka_X12_isLetter_121 h71 _).trans er70))
              exact J93 _ _ hS (by and_intros <;> omega) ((kp_X12_isDigit_120_2 h81).trans ((kp_X12_isLetter_120_2 h71).trans ((Wr.b w53 rfl).trans ((Wr.b w48 rfl).trans ((Wr.b w43 rfl).trans k41_120_2))))) ((kp_X12_isDigit_120_3 h81).trans ((kp_X12_isLetter_120_3 h71).trans w53.1)) ((kp_X12_isDigit_120_4 h81).trans ((kp_X12_isLetter_120_4 h71).trans ((Wr.b w53 rfl).trans ((Wr.b w48 rfl).trans w43.1)))) ((kp_X12_isDigit_120_5 h81).trans ((kp_X12_isLetter_120_5 h71).trans ((Wr.b w53 rfl).trans w48.1))) ((kp_X12_isDigit_120_7 h81).trans ((kp_X12_isLetter_120_7 h71).trans ((Wr.b w53 rfl).trans ((Wr.b w48 rfl).trans ((Wr.b w43 rfl).trans k41_120_7))))) ((kp_X12_isDigit_120_8 h81).trans ((kp_X12_isLetter_120_8 h71).trans ((Wr.b w53 rfl).trans ((Wr.b w48 rfl).trans ((Wr.b w43 rfl).trans k41_120_8))))) ((ka_X12_isDigit_121 h81 _).trans ((ka_X12_isLetter_121 h71 _).trans er70)) ew93p90_9010_0 (by omega) (by omega) (by omega) (by first | exact (hd_o wr71) | exact (hd_o wr71).elim (fun h1 => by omega) (fun h1 => by omega)) (by first | exact (hd_o wr81) | exact (hd_o wr81).elim (fun h1 => by omega) (fun h1 => by omega))
        · obtain ⟨w64_9010_0, ew64_9010_0⟩ : ∃ v, tav M53 = v := ⟨_, rfl⟩
          have bw64_9010_0 : (-1) ≤ w64_9010_0 ∧ w64_9010_0 ≤ 1800 := by rw [← ew64_9010_0]; exact (tav_b hS.1.2.1)
          have jt := tav_c (((Wr.b w53 rfl).trans w48.1)) (w53.1)
          rw [ew64_9010_0] at jt
          replace jt := hd_i jt
          have kr_120_3 : rd M53 120 3 = 0 := w53.1
          have kr_120_4 : rd M53 120 4 = p5_1 := ((Wr.b w53 rfl).trans ((Wr.b w48 rfl).trans w43.1))
          have kr_120_5 : rd M53 120 5 = p5_1 := ((Wr.b w53 rfl).trans w48.1)
          have kr_120_7 : rd M53 120 7 = g120_7 := ((Wr.b w53 rfl).trans ((Wr.b w48 rfl).trans ((Wr.b w43 rfl).trans k41_120_7)))
          have kr_120_8 : rd M53 120 8 = g120_8 := ((Wr.b w53 rfl).trans ((Wr.b w48 rfl).trans ((Wr.b w43 rfl).trans k41_120_8)))
          have kr_9010_0 : tav M53 = w64_9010_0 := ew64_9010_0
          exact Tr.vret (pc := 64) d_X12_next_64 rfl ⟨hS, rfl, (by omega), (by omega), (by omega), (by omega), (by exact (hd_o jt).elim (fun h1 => (hd_o jt0).elim (fun h2 => by omega) (fun h2 => by omega)) (fun h1 => (ne_o h1.1).elim (fun h2 => by omega) (fun h2 => by omega))), (by exact (hd_o jt0).elim (fun h1 => by omega) (fun h1 => (hd_o jt).elim (fun h2 => by omega) (fun h2 => (ne_o h2.1).elim (fun h3 => by omega) (fun h3 => by omega)))), (by omega)⟩
      refine Tr.icmp_ge (pc := 10) (tgt := 41) d_X12_next_10 rfl (fun c10 => ?_) (fun c10 => ?_)
      · refine Tr.pick [0, 1] (ls2 := [(0, (2, 120)), (1, (0, p5_1))]) rfl ?_
        exact J41 _ hS er7 k5_120_3 k5_120_4 k5_120_5 k5_120_7 k5_120_8 k5_9010_0 (by and_intros <;> omega)
      · refine Tr.aload_n (pc := 13) (i := 0) d_X12_next_13 rfl rfl ?_
        refine Tr.getf (pc := 14) d_X12_next_14 f_12_7 (by decide) (by decide) (ty_120 hS.1.1) ?_
        refine Tr.tp 121 (fx_120_0 hS.1.1) ?_
        refine Tr.iload_n (pc := 17) (i := 1) d_X12_next_17 rfl rfl ?_
        refine Tr.iald (pc := 18) d_X12_next_18 (ty_121 hS.1.1) (by omega) (by omega) ?_
        refine Tr.gen (P := fun v => (-2147483648) ≤ v ∧ v ≤ 2147483647) (ar_121 hS.1.2.1 _) (fun r18 er18 br18 => ?_)
        refine Tr.bipush (pc := 19) d_X12_next_19 rfl (by decide) ?_
        have J35 : ∀ (M : Mem), St Pm0 ws_X12_next_120_w1 as_X12_next_120_w1 M0 M → (10 ≤ r18 ∧ r18 ≤ 32) → rd M 120 2 = r7 → rd M 120 3 = g120_3 → rd M 120 4 = g120_4 → rd M 120 5 = g120_5 → rd M 120 7 = g120_7 → rd M 120 8 = g120_8 → rd M 121 p5_1 = r18 → tav M = g9010_0 → (g120_5 ≤ p5_1 ∧ g120_8 = g120_8) → Tr l K 1 mX12_next 35 [(0, (2, 120)), (1, (0, p5_1))] [] M (q_X12_next_120_w1 M0) := by
          intro M  hS z35r18 k35_120_2 k35_120_3 k35_120_4 k35_120_5 k35_120_7 k35_120_8 k35_121_p5_110 k35_9010_0 t35_0
          clear k5_120_3 k5_120_4 k5_120_5 k5_120_7 k5_120_8 k5_9010_0 er7 er18
          refine Tr.iincV (pc := 35) (n2 := (p5_1 + 1)) (ls2 := [(1, (0, (p5_1 + 1))), (0, (2, 120))]) d_X12_next_35 rfl (by decide) ((w32_id (by and_intros <;> omega)).trans (by omega)) rfl ?_
          refine Tr.goto (pc := 38) (tgt := 5) d_X12_next_38 rfl ?_
          refine Tr.pick [1, 0] (ls2 := [(0, (2, 120)), (1, (0, (p5_1 + 1)))]) rfl ?_
          exact J5 _ _ hS (by and_intros <;> omega) k35_120_3 k35_120_4 k35_120_5 k35_120_7 k35_120_8 k35_9010_0 (by and_intros <;> omega) (me_lt hm5 (by omega) (by omega))
        refine Tr.icmp_eq (pc := 21) (tgt := 35) d_X12_next_21 rfl (fun c21 => ?_) (fun c21 => ?_)
        · refine Tr.pick [0, 1] (ls2 := [(0, (2, 120)), (1, (0, p5_1))]) rfl ?_
          exact J35 _ hS (by and_intros <;> omega) er7 k5_120_3 k5_120_4 k5_120_5 k5_120_7 k5_120_8 er18 k5_9010_0 (by and_intros <;> omega)
        · replace c21 := hd_i c21
          refine Tr.aload_n (pc := 24) (i := 0) d_X12_next_24 rfl rfl ?_
          refine Tr.getf (pc := 25) d_X12_next_25 f_12_7 (by decide) (by decide) (ty_120 hS.1.1) ?_
          refine Tr.tp 121 (fx_120_0 hS.1.1) ?_
          refine Tr.iload_n (pc := 28) (i := 1) d_X12_next_28 rfl rfl ?_
          refine Tr.iald (pc := 29) d_X12_next_29 (ty_121 hS.1.1) (by omega) (by omega) ?_
          refine Tr.tp r18 er18 ?_
          refine Tr.bipush (pc := 30) d_X12_next_30 rfl (by decide) ?_
          refine Tr.icmp_ne (pc := 32) (tgt := 41) d_X12_next_32 rfl (fun c32 => ?_) (fun c32 => ?_)
          · replace c32 := hd_i c32
            refine Tr.pick [0, 1] (ls2 := [(0, (2, 120)), (1, (0, p5_1))]) rfl ?_
            exact J41 _ hS er7 k5_120_3 k5_120_4 k5_120_5 k5_120_7 k5_120_8 k5_9010_0 (by and_intros <;> omega)
          · refine Tr.pick [0, 1] (ls2 := [(0, (2, 120)), (1, (0, p5_1))]) rfl ?_
            exact J35 _ hS (by and_intros <;> omega) er7 k5_120_3 k5_120_4 k5_120_5 k5_120_7 k5_120_8 er18 k5_9010_0 (by and_intros <;> omega)
  refine Tr.pick [1, 0] (ls2 := [(0, (2, 120)), (1, (0, g120_5))]) rfl ?_
  exact J5 _ _ _ hS (by and_intros <;> omega) eg120_3 eg120_4 eg120_5 eg120_7 eg120_8 eg9010_0 (by and_intros <;> omega) (Nat.lt_succ_self _)

set_option maxRecDepth 100000 in
set_option maxHeartbeats 4000000 in
theorem ns_X12_next_120_w1 {l : Launch} {K : EC} {M0 : Mem} {G120_3 G120_5 G120_8 G9010_0 : Int} (hI : In Pm0 M0) (k120_3 : rd M0 120 3 = G120_3) (k120_5 : rd M0 120 5 = G120_5) (k120_8 : rd M0 120 8 = G120_8) (k9010_0 : tav M0 = G9010_0)    : Tr l K 1 mX12_next 0 [(0, (2, 120))] [] M0 (fun M' r => St Pm0 ws_X12_next_120_w1 as_X12_next_120_w1 M0 M' ∧ ∃ S120_3 S120_4 S120_5 S120_7 S120_8 S9010_0 : Int, rd M' 120 3 = S120_3 ∧ (0 ≤ S120_3 ∧ S120_3 ≤ 3) ∧ rd M' 120 4 = S120_4 ∧ (0 ≤ S120_4 ∧ S120_4 ≤ 900) ∧ rd M' 120 5 = S120_5 ∧ (0 ≤ S120_5 ∧ S120_5 ≤ 900) ∧ rd M' 120 7 = S120_7 ∧ ((-9223372036854775808) ≤ S120_7 ∧ S120_7 ≤ 9223372036854775807) ∧ rd M' 120 8 = S120_8 ∧ (0 ≤ S120_8 ∧ S120_8 ≤ 5) ∧ tav M' = S9010_0 ∧ ((-1) ≤ S9010_0 ∧ S9010_0 ≤ 1800) ∧ r = none ∧ Hd (S120_3 = 0 ∨ S120_4 + 1 ≤ S120_5) ∧ (S120_4 ≤ S120_5) ∧ Hd (S120_3 ≠ 1 ∨ S120_4 + 2 ≤ S120_5 ∨ S120_7 < 256) ∧ (G120_5 ≤ S120_4) ∧ (G9010_0 ≤ S9010_0) ∧ Hd (G120_3 = 0 ∨ G9010_0 < S9010_0) ∧ Hd (G120_8 = 0 ∨ S120_8 = G120_8)) := by
  subst k120_3
  subst k120_5
  subst k120_8
  subst k9010_0
  refine Tr.imp (sp_X12_next_120_w1 hI ) ?_
  rintro M' _ ⟨hS, rfl, z0, z1, z2, z3, z4, z5, z6⟩
  exact ⟨hS, _, _, _, _, _, _, rfl, ir_120_3 hS.1.2.1, rfl, ir_120_4 hS.1.2.1, rfl, ir_120_5 hS.1.2.1, rfl, ir_120_7 hS.1.2.1, rfl, ir_120_8 hS.1.2.1, rfl, (tav_b hS.1.2.1), rfl, hd_i z0, z1, hd_i z2, z3, z4, hd_i z5, hd_i z6⟩

def ws_X12_counts_120_w1 : List (Int × Int) := [(120, 3), (120, 4), (120, 5), (120, 6), (120, 7), (120, 8), (120, 9)]
def as_X12_counts_120_w1 : List Int := []
def q_X12_counts_120_w1 (a1 : Int) (M0 M' : Mem) (r : Option PV) : Prop := St Pm0 ws_X12_counts_120_w1 as_X12_counts_120_w1 M0 M' ∧ r = none ∧ (rd M' 120 3 = 0 ∨ rd M' 120 4 + 1 ≤ rd M' 120 5) ∧ (rd M' 120 4 ≤ rd M' 120 5) ∧ (rd M' 120 3 ≠ 1 ∨ rd M' 120 4 + 2 ≤ rd M' 120 5 ∨ rd M' 120 7 < 256) ∧ (rd M0 120 4 ≤ rd M' 120 4 ∧ rd M0 120 5 ≤ rd M' 120 5 ∧ tav M0 ≤ tav M') ∧ (rd M0 120 8 = 0 ∨ rd M' 120 8 = rd M0 120 8) ∧ (1 ≤ rd M' 120 8 ∨ tav M0 < tav M') ∧ (a1 = 0 ∨ 1 ≤ rd M' 120 8)
set_option maxRecDepth 100000 in
set_option maxHeartbeats 4000000 in
theorem sp_X12_counts_120_w1 {l : Launch} {K : EC} {M0 : Mem} (hI : In Pm0 M0)  (a1 : Int) (ha1 : 0 ≤ a1 ∧ a1 ≤ 1)  (hq0 : rd M0 120 3 = 0 ∨ rd M0 120 4 + 1 ≤ rd M0 120 5) (hq1 : rd M0 120 4 ≤ rd M0 120 5) (hq2 : rd M0 120 3 ≠ 1 ∨ rd M0 120 4 + 2 ≤ rd M0 120 5 ∨ rd M0 120 7 < 256) (hq3 : rd M0 120 3 ≠ 0) : Tr l K 2 mX12_counts 0 [(0, (2, 120)), (1, (0, a1))] [] M0 (q_X12_counts_120_w1 a1 M0) := by
  have hS : St Pm0 ws_X12_counts_120_w1 as_X12_counts_120_w1 M0 M0 := St.rf hI
  obtain ⟨g120_8, eg120_8⟩ : ∃ v, rd M0 120 8 = v := ⟨_, rfl⟩
  have bg120_8 : 0 ≤ g120_8 ∧ g120_8 ≤ 5 := by rw [← eg120_8]; exact ir_120_8 hI.2.1
  obtain ⟨g120_3, eg120_3⟩ : ∃ v, rd M0 120 3 = v := ⟨_, rfl⟩
  have bg120_3 : 0 ≤ g120_3 ∧ g120_3 ≤ 3 := by rw [← eg120_3]; exact ir_120_3 hI.2.1
  obtain ⟨g120_4, eg120_4⟩ : ∃ v, rd M0 120 4 = v := ⟨_, rfl⟩
  have bg120_4 : 0 ≤ g120_4 ∧ g120_4 ≤ 900 := by rw [← eg120_4]; exact ir_120_4 hI.2.1
  obtain ⟨g120_5, eg120_5⟩ : ∃ v, rd M0 120 5 = v := ⟨_, rfl⟩
  have bg120_5 : 0 ≤ g120_5 ∧ g120_5 ≤ 900 := by rw [← eg120_5]; exact ir_120_5 hI.2.1
  obtain ⟨g120_7, eg120_7⟩ : ∃ v, rd M0 120 7 = v := ⟨_, rfl⟩
  have bg120_7 : (-9223372036854775808) ≤ g120_7 ∧ g120_7 ≤ 9223372036854775807 := by rw [← eg120_7]; exact ir_120_7 hI.2.1
  obtain ⟨g9010_0, eg9010_0⟩ : ∃ v, tav M0 = v := ⟨_, rfl⟩
  have bg9010_0 : (-1) ≤ g9010_0 ∧ g9010_0 ≤ 1800 := by rw [← eg9010_0]; exact (tav_b hI.2.1)
  replace hq0 := hd_i hq0
  replace hq2 := hd_i hq2
  replace hq3 := hd_i hq3
  refine Tr.iload_n (pc := 0) (i := 1) d_X12_counts_0 rfl rfl ?_
  have J13 : ∀ (M : Mem) (u13_120_8 : Int), St Pm0 ws_X12_counts_120_w1 as_X12_counts_120_w1 M0 M → (0 ≤ u13_120_8 ∧ u13_120_8 ≤ 5) → rd M 120 3 = g120_3 → rd M 120 4 = g120_4 → rd M 120 5 = g120_5 → rd M 120 7 = g120_7 → rd M 120 8 = u13_120_8 → tav M = g9010_0 → (g120_8 = 0 ∨ u13_120_8 = g120_8) → (a1 = 0 ∨ 1 ≤ u13_120_8) → Tr l K 2 mX12_counts 13 [(0, (2, 120))] [] M (q_X12_counts_120_w1 a1 M0) := by
    intro M u13_120_8 hS bu13_120_8 k13_120_3 k13_120_4 k13_120_5 k13_120_7 k13_120_8 k13_9010_0 t13_0 t13_1
    replace t13_0 := hd_i t13_0
    replace t13_1 := hd_i t13_1
    refine Tr.aload_n (pc := 13) (i := 0) d_X12_counts_13 rfl rfl ?_
    refine Tr.getf (pc := 14) d_X12_counts_14 f_12_36 (by decide) (by decide) (ty_120 hS.1.1) ?_
    refine Tr.tp u13_120_8 k13_120_8 ?_
    refine Tr.if_ne (pc := 17) (tgt := 24) d_X12_counts_17 rfl (fun c17 => ?_) (fun c17 => ?_)
    · have c17b : 1 ≤ u13_120_8 ∧ u13_120_8 ≤ 5 := by omega
      replace c17 := hd_i c17
      have kr_120_3 : rd M 120 3 = g120_3 := k13_120_3
      have kr_120_4 : rd M 120 4 = g120_4 := k13_120_4
      have kr_120_5 : rd M 120 5 = g120_5 := k13_120_5
      have kr_120_7 : rd M 120 7 = g120_7 := k13_120_7
      have kr_120_8 : rd M 120 8 = u13_120_8 := k13_120_8
      have kr_9010_0 : tav M = g9010_0 := k13_9010_0
      exact Tr.vret (pc := 24) d_X12_counts_24 rfl ⟨hS, rfl, (by first | exact (hd_o hq0) | exact (hd_o hq0).elim (fun h1 => by omega) (fun h1 => by omega)), (by omega), (by first | exact (hd_o hq2) | exact (hd_o hq2).elim (fun h1 => by omega) (fun h1 => h1.elim (fun h1 => by omega) (fun h1 => by omega))), (by and_intros <;> omega), (by first | exact (hd_o t13_0) | exact (hd_o t13_0).elim (fun h1 => by omega) (fun h1 => by omega)), (by omega), (by first | exact (hd_o t13_1) | exact (hd_o t13_1).elim (fun h1 => by omega) (fun h1 => by omega))⟩
    · refine Tr.aload_n (pc := 20) (i := 0) d_X12_counts_20 rfl rfl ?_
      refine Tr.callV (pc := 21) (as := []) d_X12_counts_21 s_12_396 ok_X12_next rfl rfl (Nat.le_of_ble_eq_true rfl) (Nat.le_of_ble_eq_true rfl) (by decide) (ty_120 hS.1.1) ?_
      refine Tr.imp (Tr.deep (by decide) (ns_X12_next_120_w1 (G120_3 := g120_3) (G120_5 := g120_5) (G120_8 := u13_120_8) (G9010_0 := g9010_0) hS.1 (k13_120_3) (k13_120_5) (k13_120_8) (k13_9010_0))) ?_
      rintro M21 _ ⟨h21, s21_120_3, s21_120_4, s21_120_5, s21_120_7, s21_120_8, s21_9010_0, es21_120_3, bs21_120_3, es21_120_4, bs21_120_4, es21_120_5, bs21_120_5, es21_120_7, bs21_120_7, es21_120_8, bs21_120_8, es21_9010_0, bs21_9010_0, rfl, z21_0, z21_1, z21_2, z21_3, z21_4, z21_5, z21_6⟩
      have hS := St.tr hS h21 (by decide) (by decide)
      refine Tr.sc [] rfl ?_
      have kr_120_3 : rd M21 120 3 = s21_120_3 := es21_120_3
      have kr_120_4 : rd M21 120 4 = s21_120_4 := es21_120_4
      have kr_120_5 : rd M21 120 5 = s21_120_5 := es21_120_5
      have kr_120_7 : rd M21 120 7 = s21_120_7 := es21_120_7
      have kr_120_8 : rd M21 120 8 = s21_120_8 := es21_120_8
      have kr_9010_0 : tav M21 = s21_9010_0 := es21_9010_0
      exact Tr.vret (pc := 24) d_X12_counts_24 rfl ⟨hS, rfl, (by first | exact (hd_o z21_0) | exact (hd_o z21_0).elim (fun h1 => by omega) (fun h1 => by omega)), (by omega), (by first | exact (hd_o z21_2) | exact (hd_o z21_2).elim (fun h1 => by omega) (fun h1 => h1.elim (fun h1 => by omega) (fun h1 => by omega))), (by and_intros <;> omega), (by exact (hd_o t13_0).elim (fun h1 => by omega) (fun h1 => by omega)), (by exact (ne_o (hd_o hq3)).elim (fun h1 => by omega) (fun h1 => (hd_o z21_5).elim (fun h2 => by omega) (fun h2 => by omega))), (by exact (hd_o t13_1).elim (fun h1 => by omega) (fun h1 => by omega))⟩
  refine Tr.if_eq (pc := 1) (tgt := 13) d_X12_counts_1 rfl (fun c1 => ?_) (fun c1 => ?_)
  · refine Tr.pick [0] (ls2 := [(0, (2, 120))]) rfl ?_
    exact J13 _ _ hS (by and_intros <;> omega) eg120_3 eg120_4 eg120_5 eg120_7 eg120_8 eg9010_0 (by omega) (by omega)
  · have c1b : 1 ≤ a1 ∧ a1 ≤ 1 := by omega
    replace c1 := hd_i c1
    refine Tr.aload_n (pc := 4) (i := 0) d_X12_counts_4 rfl rfl ?_
    refine Tr.iconst (pc := 5) d_X12_counts_5 (by decide) ?_
    refine Tr.aload_n (pc := 6) (i := 0) d_X12_counts_6 rfl rfl ?_
    refine Tr.getf (pc := 7) d_X12_counts_7 f_12_23 (by decide) (by decide) (ty_120 hS.1.1) ?_
    refine Tr.tp g120_4 eg120_4 ?_
    refine Tr.callV (pc := 10) (as := [_, _]) d_X12_counts_10 s_12_389 ok_X12_blame rfl rfl (Nat.le_of_ble_eq_true rfl) (Nat.le_of_ble_eq_true rfl) (by decide) (ty_120 hS.1.1) ?_
    refine Tr.imp (Tr.deep (by decide) (ns_X12_blame_120_w1 (G120_8 := g120_8) hS.1 (eg120_8) 5 (by omega) g120_4 (by and_intros <;> omega))) ?_
    rintro M10 _ ⟨h10, s10_120_8, es10_120_8, bs10_120_8, rfl, z10_0⟩
    have hS := St.tr hS h10 (by decide) (by decide)
    refine Tr.sc [] rfl ?_
    refine Tr.pick [0] (ls2 := [(0, (2, 120))]) rfl ?_
    exact J13 _ _ hS (by and_intros <;> omega) ((kp_X12_blame_120_w1_120_3 h10).trans eg120_3) ((kp_X12_blame_120_w1_120_4 h10).trans eg120_4) ((kp_X12_blame_120_w1_120_5 h10).trans eg120_5) ((kp_X12_blame_120_w1_120_7 h10).trans eg120_7) es10_120_8 ((tav_of ((kp_X12_blame_120_w1_120_5 h10).trans rfl) ((kp_X12_blame_120_w1_120_3 h10).trans rfl)).trans eg9010_0) (by exact (hd_o z10_0).elim (fun h1 => by omega) (fun h1 => by omega)) (by exact (hd_o z10_0).elim (fun h1 => by omega) (fun h1 => by omega))

set_option maxRecDepth 100000 in
set_option maxHeartbeats 4000000 in
theorem ns_X12_counts_120_w1 {l : Launch} {K : EC} {M0 : Mem} {G120_3 G120_4 G120_5 G120_7 G120_8 G9010_0 : Int} (hI : In Pm0 M0) (k120_3 : rd M0 120 3 = G120_3) (k120_4 : rd M0 120 4 = G120_4) (k120_5 : rd M0 120 5 = G120_5) (k120_7 : rd M0 120 7 = G120_7) (k120_8 : rd M0 120 8 = G120_8) (k9010_0 : tav M0 = G9010_0)  (a1 : Int) (ha1 : 0 ≤ a1 ∧ a1 ≤ 1)  (hq0 : G120_3 = 0 ∨ G120_4 + 1 ≤ G120_5) (hq1 : G120_4 ≤ G120_5) (hq2 : G120_3 ≠ 1 ∨ G120_4 + 2 ≤ G120_5 ∨ G120_7 < 256) (hq3 : G120_3 ≠ 0) : Tr l K 2 mX12_counts 0 [(0, (2, 120)), (1, (0, a1))] [] M0 (fun M' r => St Pm0 ws_X12_counts_120_w1 as_X12_counts_120_w1 M0 M' ∧ ∃ S120_3 S120_4 S120_5 S120_7 S120_8 S9010_0 : Int, rd M' 120 3 = S120_3 ∧ (0 ≤ S120_3 ∧ S120_3 ≤ 3) ∧ rd M' 120 4 = S120_4 ∧ (0 ≤ S120_4 ∧ S120_4 ≤ 900) ∧ rd M' 120 5 = S120_5 ∧ (0 ≤ S120_5 ∧ S120_5 ≤ 900) ∧ rd M' 120 7 = S120_7 ∧ ((-9223372036854775808) ≤ S120_7 ∧ S120_7 ≤ 9223372036854775807) ∧ rd M' 120 8 = S120_8 ∧ (0 ≤ S120_8 ∧ S120_8 ≤ 5) ∧ tav M' = S9010_0 ∧ ((-1) ≤ S9010_0 ∧ S9010_0 ≤ 1800) ∧ r = none ∧ Hd (S120_3 = 0 ∨ S120_4 + 1 ≤ S120_5) ∧ (S120_4 ≤ S120_5) ∧ Hd (S120_3 ≠ 1 ∨ S120_4 + 2 ≤ S120_5 ∨ S120_7 < 256) ∧ (G120_4 ≤ S120_4 ∧ G120_5 ≤ S120_5 ∧ G9010_0 ≤ S9010_0) ∧ Hd (G120_8 = 0 ∨ S120_8 = G120_8) ∧ Hd (1 ≤ S120_8 ∨ G9010_0 < S9010_0) ∧ Hd (a1 = 0 ∨ 1 ≤ S120_8)) := by
  subst k120_3
  subst k120_4
  subst k120_5
  subst k120_7
  subst k120_8
  subst k9010_0
  refine Tr.imp (sp_X12_counts_120_w1 hI a1 ha1 hq0 hq1 hq2 hq3) ?_
  rintro M' _ ⟨hS, rfl, z0, z1, z2, z3, z4, z5, z6⟩
  exact ⟨hS, _, _, _, _, _, _, rfl, ir_120_3 hS.1.2.1, rfl, ir_120_4 hS.1.2.1, rfl, ir_120_5 hS.1.2.1, rfl, ir_120_7 hS.1.2.1, rfl, ir_120_8 hS.1.2.1, rfl, (tav_b hS.1.2.1), rfl, hd_i z0, z1, hd_i z2, z3, hd_i z4, hd_i z5, hd_i z6⟩

def ws_X12_partOf_120_w1 : List (Int × Int) := []
def as_X12_partOf_120_w1 : List Int := []
def q_X12_partOf_120_w1 (M0 M' : Mem) (r : Option PV) : Prop := St Tru ws_X12_partOf_120_w1 as_X12_partOf_120_w1 M0 M' ∧ ∃ v : Int, r = some (0, v) ∧ (-1) ≤ v ∧ v ≤ 5
set_option maxRecDepth 100000 in
set_option maxHeartbeats 4000000 in
theorem sp_X12_partOf_120_w1 {l : Launch} {K : EC} {M0 : Mem} (hI : In Tru M0) (en_120_37 : rd M0 120 37 = 0) (a1 : Int) (ha1 : (-9223372036854775808) ≤ a1 ∧ a1 ≤ 9223372036854775807)  : Tr l K 0 mX12_partOf 0 [(0, (2, 120)), (1, (1, a1))] [] M0 (q_X12_partOf_120_w1 M0) := by
  have hS : St Tru ws_X12_partOf_120_w1 as_X12_partOf_120_w1 M0 M0 := St.rf hI
  refine Tr.iconst (pc := 0) d_X12_partOf_0 (by decide) ?_
  refine Tr.istore_n (pc := 1) (i := 3) (ls2 := [(3, (0, 0)), (0, (2, 120)), (1, (1, a1))]) d_X12_partOf_1 rfl (by decide) rfl ?_
  have J2 : ∀ (n2 : Nat) (M : Mem) (p2_3 : Int), St Tru ws_X12_partOf_120_w1 as_X12_partOf_120_w1 M0 M → (0 ≤ p2_3 ∧ p2_3 ≤ 6) → (6 - p2_3).toNat < n2 → Tr l K 0 mX12_partOf 2 [(0, (2, 120)), (1, (1, a1)), (3, (0, p2_3))] [] M (q_X12_partOf_120_w1 M0) := by
    intro n2
    induction n2 with
    | zero => intro M p2_3 hS bp2_3  hm2; exact absurd hm2 (Nat.not_lt_zero _)
    | succ n2 J2 =>
      intro M p2_3 hS bp2_3  hm2
      refine Tr.iload_n (pc := 2) (i := 3) d_X12_partOf_2 rfl rfl ?_
      refine Tr.aload_n (pc := 3) (i := 0) d_X12_partOf_3 rfl rfl ?_
      refine Tr.getf (pc := 4) d_X12_partOf_4 f_12_63 (by decide) (by decide) (ty_120 hS.1.1) ?_
      refine Tr.tp 126 (fx_120_17 hS.1.1) ?_
      refine Tr.aload_n (pc := 7) (i := 0) d_X12_partOf_7 rfl rfl ?_
      refine Tr.getf (pc := 8) d_X12_partOf_8 f_12_124 (by decide) (by decide) (ty_120 hS.1.1) ?_
      refine Tr.tp 0 ((St.kp hS (by decide) (by decide) (by decide)).trans en_120_37) ?_
      refine Tr.iald (pc := 11) d_X12_partOf_11 (ty_126 hS.1.1) (by omega) (by omega) ?_
      refine Tr.gen (P := fun v => 0 ≤ v ∧ v ≤ 6) (ir_126_0 hS.1.2.1) (fun r11 er11 br11 => ?_)
      refine Tr.icmp_ge (pc := 12) (tgt := 42) d_X12_partOf_12 rfl (fun c12 => ?_) (fun c12 => ?_)
      · refine Tr.iconst (pc := 42) d_X12_partOf_42 (by decide) ?_
        exact Tr.iret (pc := 43) d_X12_partOf_43 rfl ⟨hS, _, rfl, by omega, by omega⟩
      · refine Tr.aload_n (pc := 15) (i := 0) d_X12_partOf_15 rfl rfl ?_
        refine Tr.getf (pc := 16) d_X12_partOf_16 f_12_75 (by decide) (by decide) (ty_120 hS.1.1) ?_
        refine Tr.tp 130 (fx_120_21 hS.1.1) ?_
        refine Tr.bipush (pc := 19) d_X12_partOf_19 rfl (by decide) ?_
        refine Tr.aload_n (pc := 21) (i := 0) d_X12_partOf_21 rfl rfl ?_
        refine Tr.getf (pc := 22) d_X12_partOf_22 f_12_124 (by decide) (by decide) (ty_120 hS.1.1) ?_
        refine Tr.tp 0 ((St.kp hS (by decide) (by decide) (by decide)).trans en_120_37) ?_
        refine Tr.imul (pc := 25) d_X12_partOf_25 ?_
        refine Tr.tp 0 (by decide) ?_
        refine Tr.iload_n (pc := 26) (i := 3) d_X12_partOf_26 rfl rfl ?_
        refine Tr.iadd (pc := 27) d_X12_partOf_27 ?_
        refine Tr.tp p2_3 ((w32_id (by omega)).trans (by omega)) ?_
        refine Tr.lald (pc := 28) d_X12_partOf_28 (ty_130 hS.1.1) (by omega) (by omega) ?_
        refine Tr.gen (P := fun v => (-9223372036854775808) ≤ v ∧ v ≤ 9223372036854775807) (ar_130 hS.1.2.1 _) (fun r28 er28 br28 => ?_)
        refine Tr.lload_n (pc := 29) (i := 1) d_X12_partOf_29 rfl rfl ?_
        refine Tr.lcmp (pc := 30) d_X12_partOf_30 ?_
        refine Tr.gen (P := fun v => (v = 1 ∧ a1 < r28) ∨ (v = 0 ∧ r28 = a1) ∨ (v = -1 ∧ r28 < a1)) (f_lcmp_c _ _) (fun r30 er30 br30 => ?_)
        refine Tr.if_ne (pc := 31) (tgt := 36) d_X12_partOf_31 rfl (fun c31 => ?_) (fun c31 => ?_)
        · refine Tr.iincV (pc := 36) (n2 := (p2_3 + 1)) (ls2 := [(3, (0, (p2_3 + 1))), (0, (2, 120)), (1, (1, a1))]) d_X12_partOf_36 rfl (by decide) ((w32_id (by omega)).trans (by omega)) rfl ?_
          refine Tr.goto (pc := 39) (tgt := 2) d_X12_partOf_39 rfl ?_
          refine Tr.pick [1, 2, 0] (ls2 := [(0, (2, 120)), (1, (1, a1)), (3, (0, (p2_3 + 1)))]) rfl ?_
          exact J2 _ _ hS (by omega) (by omega)
        · refine Tr.iload_n (pc := 34) (i := 3) d_X12_partOf_34 rfl rfl ?_
          exact Tr.iret (pc := 35) d_X12_partOf_35 rfl ⟨hS, _, rfl, by omega, by omega⟩
  refine Tr.pick [1, 2, 0] (ls2 := [(0, (2, 120)), (1, (1, a1)), (3, (0, 0))]) rfl ?_
  exact J2 _ _ _ hS (by omega) (Nat.lt_succ_self _)
end
/-! 40.08 -/
section
def ws_X12_inputOf_120_w1 : List (Int × Int) := []
def as_X12_inputOf_120_w1 : List Int := []
def q_X12_inputOf_120_w1 (M0 M' : Mem) (r : Option PV) : Prop := St Tru ws_X12_inputOf_120_w1 as_X12_inputOf_120_w1 M0 M' ∧ ∃ v : Int, r = some (0, v) ∧ (-1) ≤ v ∧ v ≤ 2
set_option maxRecDepth 100000 in
set_option maxHeartbeats 4000000 in
theorem sp_X12_inputOf_120_w1 {l : Launch} {K : EC} {M0 : Mem} (hI : In Tru M0) (en_120_37 : rd M0 120 37 = 0) (a1 : Int) (ha1 : (-9223372036854775808) ≤ a1 ∧ a1 ≤ 9223372036854775807)  : Tr l K 0 mX12_inputOf 0 [(0, (2, 120)), (1, (1, a1))] [] M0 (q_X12_inputOf_120_w1 M0) := by
  have hS : St Tru ws_X12_inputOf_120_w1 as_X12_inputOf_120_w1 M0 M0 := St.rf hI
  refine Tr.iconst (pc := 0) d_X12_inputOf_0 (by decide) ?_
  refine Tr.istore_n (pc := 1) (i := 3) (ls2 := [(3, (0, 0)), (0, (2, 120)), (1, (1, a1))]) d_X12_inputOf_1 rfl (by decide) rfl ?_
  have J2 : ∀ (n2 : Nat) (M : Mem) (p2_3 : Int), St Tru ws_X12_inputOf_120_w1 as_X12_inputOf_120_w1 M0 M → (0 ≤ p2_3 ∧ p2_3 ≤ 3) → (3 - p2_3).toNat < n2 → Tr l K 0 mX12_inputOf 2 [(0, (2, 120)), (1, (1, a1)), (3, (0, p2_3))] [] M (q_X12_inputOf_120_w1 M0) := by
    intro n2
    induction n2 with
    | zero => intro M p2_3 hS bp2_3  hm2; exact absurd hm2 (Nat.not_lt_zero _)
    | succ n2 J2 =>
      intro M p2_3 hS bp2_3  hm2
      refine Tr.iload_n (pc := 2) (i := 3) d_X12_inputOf_2 rfl rfl ?_
      refine Tr.aload_n (pc := 3) (i := 0) d_X12_inputOf_3 rfl rfl ?_
      refine Tr.getf (pc := 4) d_X12_inputOf_4 f_12_66 (by decide) (by decide) (ty_120 hS.1.1) ?_
      refine Tr.tp 127 (fx_120_18 hS.1.1) ?_
      refine Tr.aload_n (pc := 7) (i := 0) d_X12_inputOf_7 rfl rfl ?_
      refine Tr.getf (pc := 8) d_X12_inputOf_8 f_12_124 (by decide) (by decide) (ty_120 hS.1.1) ?_
      refine Tr.tp 0 ((St.kp hS (by decide) (by decide) (by decide)).trans en_120_37) ?_
      refine Tr.iald (pc := 11) d_X12_inputOf_11 (ty_127 hS.1.1) (by omega) (by omega) ?_
      refine Tr.gen (P := fun v => 0 ≤ v ∧ v ≤ 3) (ir_127_0 hS.1.2.1) (fun r11 er11 br11 => ?_)
      refine Tr.icmp_ge (pc := 12) (tgt := 41) d_X12_inputOf_12 rfl (fun c12 => ?_) (fun c12 => ?_)
      · refine Tr.iconst (pc := 41) d_X12_inputOf_41 (by decide) ?_
        exact Tr.iret (pc := 42) d_X12_inputOf_42 rfl ⟨hS, _, rfl, by omega, by omega⟩
      · refine Tr.aload_n (pc := 15) (i := 0) d_X12_inputOf_15 rfl rfl ?_
        refine Tr.getf (pc := 16) d_X12_inputOf_16 f_12_82 (by decide) (by decide) (ty_120 hS.1.1) ?_
        refine Tr.tp 132 (fx_120_23 hS.1.1) ?_
        refine Tr.iconst (pc := 19) d_X12_inputOf_19 (by decide) ?_
        refine Tr.aload_n (pc := 20) (i := 0) d_X12_inputOf_20 rfl rfl ?_
        refine Tr.getf (pc := 21) d_X12_inputOf_21 f_12_124 (by decide) (by decide) (ty_120 hS.1.1) ?_
        refine Tr.tp 0 ((St.kp hS (by decide) (by decide) (by decide)).trans en_120_37) ?_
        refine Tr.imul (pc := 24) d_X12_inputOf_24 ?_
        refine Tr.tp 0 (by decide) ?_
        refine Tr.iload_n (pc := 25) (i := 3) d_X12_inputOf_25 rfl rfl ?_
        refine Tr.iadd (pc := 26) d_X12_inputOf_26 ?_
        refine Tr.tp p2_3 ((w32_id (by omega)).trans (by omega)) ?_
        refine Tr.lald (pc := 27) d_X12_inputOf_27 (ty_132 hS.1.1) (by omega) (by omega) ?_
        refine Tr.gen (P := fun v => (-9223372036854775808) ≤ v ∧ v ≤ 9223372036854775807) (ar_132 hS.1.2.1 _) (fun r27 er27 br27 => ?_)
        refine Tr.lload_n (pc := 28) (i := 1) d_X12_inputOf_28 rfl rfl ?_
        refine Tr.lcmp (pc := 29) d_X12_inputOf_29 ?_
        refine Tr.gen (P := fun v => (v = 1 ∧ a1 < r27) ∨ (v = 0 ∧ r27 = a1) ∨ (v = -1 ∧ r27 < a1)) (f_lcmp_c _ _) (fun r29 er29 br29 => ?_)
        refine Tr.if_ne (pc := 30) (tgt := 35) d_X12_inputOf_30 rfl (fun c30 => ?_) (fun c30 => ?_)
        · refine Tr.iincV (pc := 35) (n2 := (p2_3 + 1)) (ls2 := [(3, (0, (p2_3 + 1))), (0, (2, 120)), (1, (1, a1))]) d_X12_inputOf_35 rfl (by decide) ((w32_id (by omega)).trans (by omega)) rfl ?_
          refine Tr.goto (pc := 38) (tgt := 2) d_X12_inputOf_38 rfl ?_
          refine Tr.pick [1, 2, 0] (ls2 := [(0, (2, 120)), (1, (1, a1)), (3, (0, (p2_3 + 1)))]) rfl ?_
          exact J2 _ _ hS (by omega) (by omega)
        · refine Tr.iload_n (pc := 33) (i := 3) d_X12_inputOf_33 rfl rfl ?_
          exact Tr.iret (pc := 34) d_X12_inputOf_34 rfl ⟨hS, _, rfl, by omega, by omega⟩
  refine Tr.pick [1, 2, 0] (ls2 := [(0, (2, 120)), (1, (1, a1)), (3, (0, 0))]) rfl ?_
  exact J2 _ _ _ hS (by omega) (Nat.lt_succ_self _)

def ws_X12_varOf_120_w1 : List (Int × Int) := []
def as_X12_varOf_120_w1 : List Int := []
def q_X12_varOf_120_w1 (M0 M' : Mem) (r : Option PV) : Prop := St Tru ws_X12_varOf_120_w1 as_X12_varOf_120_w1 M0 M' ∧ ∃ v : Int, r = some (0, v) ∧ (-1) ≤ v ∧ v ≤ 5
set_option maxRecDepth 100000 in
set_option maxHeartbeats 4000000 in
theorem sp_X12_varOf_120_w1 {l : Launch} {K : EC} {M0 : Mem} (hI : In Tru M0) (en_120_37 : rd M0 120 37 = 0) (a1 : Int) (ha1 : (-9223372036854775808) ≤ a1 ∧ a1 ≤ 9223372036854775807)  : Tr l K 0 mX12_varOf 0 [(0, (2, 120)), (1, (1, a1))] [] M0 (q_X12_varOf_120_w1 M0) := by
  have hS : St Tru ws_X12_varOf_120_w1 as_X12_varOf_120_w1 M0 M0 := St.rf hI
  refine Tr.iconst (pc := 0) d_X12_varOf_0 (by decide) ?_
  refine Tr.istore_n (pc := 1) (i := 3) (ls2 := [(3, (0, 0)), (0, (2, 120)), (1, (1, a1))]) d_X12_varOf_1 rfl (by decide) rfl ?_
  have J2 : ∀ (n2 : Nat) (M : Mem) (p2_3 : Int), St Tru ws_X12_varOf_120_w1 as_X12_varOf_120_w1 M0 M → (0 ≤ p2_3 ∧ p2_3 ≤ 6) → (6 - p2_3).toNat < n2 → Tr l K 0 mX12_varOf 2 [(0, (2, 120)), (1, (1, a1)), (3, (0, p2_3))] [] M (q_X12_varOf_120_w1 M0) := by
    intro n2
    induction n2 with
    | zero => intro M p2_3 hS bp2_3  hm2; exact absurd hm2 (Nat.not_lt_zero _)
    | succ n2 J2 =>
      intro M p2_3 hS bp2_3  hm2
      refine Tr.iload_n (pc := 2) (i := 3) d_X12_varOf_2 rfl rfl ?_
      refine Tr.aload_n (pc := 3) (i := 0) d_X12_varOf_3 rfl rfl ?_
      refine Tr.getf (pc := 4) d_X12_varOf_4 f_12_69 (by decide) (by decide) (ty_120 hS.1.1) ?_
      refine Tr.tp 128 (fx_120_19 hS.1.1) ?_
      refine Tr.aload_n (pc := 7) (i := 0) d_X12_varOf_7 rfl rfl ?_
      refine Tr.getf (pc := 8) d_X12_varOf_8 f_12_124 (by decide) (by decide) (ty_120 hS.1.1) ?_
      refine Tr.tp 0 ((St.kp hS (by decide) (by decide) (by decide)).trans en_120_37) ?_
      refine Tr.iald (pc := 11) d_X12_varOf_11 (ty_128 hS.1.1) (by omega) (by omega) ?_
      refine Tr.gen (P := fun v => 0 ≤ v ∧ v ≤ 6) (ir_128_0 hS.1.2.1) (fun r11 er11 br11 => ?_)
      refine Tr.icmp_ge (pc := 12) (tgt := 42) d_X12_varOf_12 rfl (fun c12 => ?_) (fun c12 => ?_)
      · refine Tr.iconst (pc := 42) d_X12_varOf_42 (by decide) ?_
        exact Tr.iret (pc := 43) d_X12_varOf_43 rfl ⟨hS, _, rfl, by omega, by omega⟩
      · refine Tr.aload_n (pc := 15) (i := 0) d_X12_varOf_15 rfl rfl ?_
        refine Tr.getf (pc := 16) d_X12_varOf_16 f_12_91 (by decide) (by decide) (ty_120 hS.1.1) ?_
        refine Tr.tp 135 (fx_120_26 hS.1.1) ?_
        refine Tr.bipush (pc := 19) d_X12_varOf_19 rfl (by decide) ?_
        refine Tr.aload_n (pc := 21) (i := 0) d_X12_varOf_21 rfl rfl ?_
        refine Tr.getf (pc := 22) d_X12_varOf_22 f_12_124 (by decide) (by decide) (ty_120 hS.1.1) ?_
        refine Tr.tp 0 ((St.kp hS (by decide) (by decide) (by decide)).trans en_120_37) ?_
        refine Tr.imul (pc := 25) d_X12_varOf_25 ?_
        refine Tr.tp 0 (by decide) ?_
        refine Tr.iload_n (pc := 26) (i := 3) d_X12_varOf_26 rfl rfl ?_
        refine Tr.iadd (pc := 27) d_X12_varOf_27 ?_
        refine Tr.tp p2_3 ((w32_id (by omega)).trans (by omega)) ?_
        refine Tr.lald (pc := 28) d_X12_varOf_28 (ty_135 hS.1.1) (by omega) (by omega) ?_
        refine Tr.gen (P := fun v => (-9223372036854775808) ≤ v ∧ v ≤ 9223372036854775807) (ar_135 hS.1.2.1 _) (fun r28 er28 br28 => ?_)
        refine Tr.lload_n (pc := 29) (i := 1) d_X12_varOf_29 rfl rfl ?_
        refine Tr.lcmp (pc := 30) d_X12_varOf_30 ?_
        refine Tr.gen (P := fun v => (v = 1 ∧ a1 < r28) ∨ (v = 0 ∧ r28 = a1) ∨ (v = -1 ∧ r28 < a1)) (f_lcmp_c _ _) (fun r30 er30 br30 => ?_)
        refine Tr.if_ne (pc := 31) (tgt := 36) d_X12_varOf_31 rfl (fun c31 => ?_) (fun c31 => ?_)
        · refine Tr.iincV (pc := 36) (n2 := (p2_3 + 1)) (ls2 := [(3, (0, (p2_3 + 1))), (0, (2, 120)), (1, (1, a1))]) d_X12_varOf_36 rfl (by decide) ((w32_id (by omega)).trans (by omega)) rfl ?_
          refine Tr.goto (pc := 39) (tgt := 2) d_X12_varOf_39 rfl ?_
          refine Tr.pick [1, 2, 0] (ls2 := [(0, (2, 120)), (1, (1, a1)), (3, (0, (p2_3 + 1)))]) rfl ?_
          exact J2 _ _ hS (by omega) (by omega)
        · refine Tr.iload_n (pc := 34) (i := 3) d_X12_varOf_34 rfl rfl ?_
          exact Tr.iret (pc := 35) d_X12_varOf_35 rfl ⟨hS, _, rfl, by omega, by omega⟩
  refine Tr.pick [1, 2, 0] (ls2 := [(0, (2, 120)), (1, (1, a1)), (3, (0, 0))]) rfl ?_
  exact J2 _ _ _ hS (by omega) (Nat.lt_succ_self _)

def ws_X12_fresh_120_w1 : List (Int × Int) := [(120, 3), (120, 4), (120, 5), (120, 6), (120, 7), (120, 8), (120, 9)]
def as_X12_fresh_120_w1 : List Int := []
def q_X12_fresh_120_w1 (M0 M' : Mem) (r : Option PV) : Prop := St Pm0 ws_X12_fresh_120_w1 as_X12_fresh_120_w1 M0 M' ∧ ∃ v : Int, r = some (1, v) ∧ (-9223372036854775808) ≤ v ∧ v ≤ 9223372036854775807 ∧ (rd M' 120 3 = 0 ∨ rd M' 120 4 + 1 ≤ rd M' 120 5) ∧ (rd M' 120 4 ≤ rd M' 120 5) ∧ (rd M' 120 3 ≠ 1 ∨ rd M' 120 4 + 2 ≤ rd M' 120 5 ∨ rd M' 120 7 < 256) ∧ (rd M0 120 4 ≤ rd M' 120 4 ∧ rd M0 120 5 ≤ rd M' 120 5 ∧ tav M0 ≤ tav M') ∧ (rd M0 120 8 = 0 ∨ rd M' 120 8 = rd M0 120 8) ∧ (1 ≤ rd M' 120 8 ∨ tav M0 < tav M')
theorem kp_X12_fresh_120_w1_120_37 {q : Mem → Prop} {M0 M : Mem} (h : St q ws_X12_fresh_120_w1 as_X12_fresh_120_w1 M0 M) : rd M 120 37 = rd M0 120 37 := St.kp h (by decide) (by decide) (by decide)
theorem ka_X12_partOf_120_w1_131 {q : Mem → Prop} {M0 M : Mem} (h : St q ws_X12_partOf_120_w1 as_X12_partOf_120_w1 M0 M) (j : Int) : rd M 131 j = rd M0 131 j := St.ka h (by decide) (by decide) (by decide)
theorem ka_X12_partOf_120_w1_137 {q : Mem → Prop} {M0 M : Mem} (h : St q ws_X12_partOf_120_w1 as_X12_partOf_120_w1 M0 M) (j : Int) : rd M 137 j = rd M0 137 j := St.ka h (by decide) (by decide) (by decide)
theorem ka_X12_partOf_120_w1_138 {q : Mem → Prop} {M0 M : Mem} (h : St q ws_X12_partOf_120_w1 as_X12_partOf_120_w1 M0 M) (j : Int) : rd M 138 j = rd M0 138 j := St.ka h (by decide) (by decide) (by decide)
theorem ka_X12_partOf_120_w1_139 {q : Mem → Prop} {M0 M : Mem} (h : St q ws_X12_partOf_120_w1 as_X12_partOf_120_w1 M0 M) (j : Int) : rd M 139 j = rd M0 139 j := St.ka h (by decide) (by decide) (by decide)
theorem ka_X12_partOf_120_w1_140 {q : Mem → Prop} {M0 M : Mem} (h : St q ws_X12_partOf_120_w1 as_X12_partOf_120_w1 M0 M) (j : Int) : rd M 140 j = rd M0 140 j := St.ka h (by decide) (by decide) (by decide)
theorem ka_X12_partOf_120_w1_141 {q : Mem → Prop} {M0 M : Mem} (h : St q ws_X12_partOf_120_w1 as_X12_partOf_120_w1 M0 M) (j : Int) : rd M 141 j = rd M0 141 j := St.ka h (by decide) (by decide) (by decide)
theorem ka_X12_partOf_120_w1_142 {q : Mem → Prop} {M0 M : Mem} (h : St q ws_X12_partOf_120_w1 as_X12_partOf_120_w1 M0 M) (j : Int) : rd M 142 j = rd M0 142 j := St.ka h (by decide) (by decide) (by decide)
theorem ka_X12_partOf_120_w1_143 {q : Mem → Prop} {M0 M : Mem} (h : St q ws_X12_partOf_120_w1 as_X12_partOf_120_w1 M0 M) (j : Int) : rd M 143 j = rd M0 143 j := St.ka h (by decide) (by decide) (by decide)
theorem ka_X12_partOf_120_w1_151 {q : Mem → Prop} {M0 M : Mem} (h : St q ws_X12_partOf_120_w1 as_X12_partOf_120_w1 M0 M) (j : Int) : rd M 151 j = rd M0 151 j := St.ka h (by decide) (by decide) (by decide)
theorem ka_X12_partOf_120_w1_152 {q : Mem → Prop} {M0 M : Mem} (h : St q ws_X12_partOf_120_w1 as_X12_partOf_120_w1 M0 M) (j : Int) : rd M 152 j = rd M0 152 j := St.ka h (by decide) (by decide) (by decide)
theorem kp_X12_partOf_120_w1_126_0 {q : Mem → Prop} {M0 M : Mem} (h : St q ws_X12_partOf_120_w1 as_X12_partOf_120_w1 M0 M) : rd M 126 0 = rd M0 126 0 := St.kp h (by decide) (by decide) (by decide)
theorem kp_X12_partOf_120_w1_126_1 {q : Mem → Prop} {M0 M : Mem} (h : St q ws_X12_partOf_120_w1 as_X12_partOf_120_w1 M0 M) : rd M 126 1 = rd M0 126 1 := St.kp h (by decide) (by decide) (by decide)
theorem kp_X12_partOf_120_w1_136_0 {q : Mem → Prop} {M0 M : Mem} (h : St q ws_X12_partOf_120_w1 as_X12_partOf_120_w1 M0 M) : rd M 136 0 = rd M0 136 0 := St.kp h (by decide) (by decide) (by decide)
theorem kp_X12_partOf_120_w1_136_1 {q : Mem → Prop} {M0 M : Mem} (h : St q ws_X12_partOf_120_w1 as_X12_partOf_120_w1 M0 M) : rd M 136 1 = rd M0 136 1 := St.kp h (by decide) (by decide) (by decide)
theorem kp_X12_partOf_120_w1_123_0 {q : Mem → Prop} {M0 M : Mem} (h : St q ws_X12_partOf_120_w1 as_X12_partOf_120_w1 M0 M) : rd M 123 0 = rd M0 123 0 := St.kp h (by decide) (by decide) (by decide)
theorem kp_X12_partOf_120_w1_123_1 {q : Mem → Prop} {M0 M : Mem} (h : St q ws_X12_partOf_120_w1 as_X12_partOf_120_w1 M0 M) : rd M 123 1 = rd M0 123 1 := St.kp h (by decide) (by decide) (by decide)
theorem kp_X12_partOf_120_w1_124_0 {q : Mem → Prop} {M0 M : Mem} (h : St q ws_X12_partOf_120_w1 as_X12_partOf_120_w1 M0 M) : rd M 124 0 = rd M0 124 0 := St.kp h (by decide) (by decide) (by decide)
theorem kp_X12_partOf_120_w1_124_1 {q : Mem → Prop} {M0 M : Mem} (h : St q ws_X12_partOf_120_w1 as_X12_partOf_120_w1 M0 M) : rd M 124 1 = rd M0 124 1 := St.kp h (by decide) (by decide) (by decide)
theorem kp_X12_partOf_120_w1_120_8 {q : Mem → Prop} {M0 M : Mem} (h : St q ws_X12_partOf_120_w1 as_X12_partOf_120_w1 M0 M) : rd M 120 8 = rd M0 120 8 := St.kp h (by decide) (by decide) (by decide)
theorem kp_X12_partOf_120_w1_120_36 {q : Mem → Prop} {M0 M : Mem} (h : St q ws_X12_partOf_120_w1 as_X12_partOf_120_w1 M0 M) : rd M 120 36 = rd M0 120 36 := St.kp h (by decide) (by decide) (by decide)
theorem kp_X12_partOf_120_w1_120_50 {q : Mem → Prop} {M0 M : Mem} (h : St q ws_X12_partOf_120_w1 as_X12_partOf_120_w1 M0 M) : rd M 120 50 = rd M0 120 50 := St.kp h (by decide) (by decide) (by decide)
theorem kp_X12_partOf_120_w1_120_3 {q : Mem → Prop} {M0 M : Mem} (h : St q ws_X12_partOf_120_w1 as_X12_partOf_120_w1 M0 M) : rd M 120 3 = rd M0 120 3 := St.kp h (by decide) (by decide) (by decide)
theorem kp_X12_partOf_120_w1_120_4 {q : Mem → Prop} {M0 M : Mem} (h : St q ws_X12_partOf_120_w1 as_X12_partOf_120_w1 M0 M) : rd M 120 4 = rd M0 120 4 := St.kp h (by decide) (by decide) (by decide)
theorem kp_X12_partOf_120_w1_120_5 {q : Mem → Prop} {M0 M : Mem} (h : St q ws_X12_partOf_120_w1 as_X12_partOf_120_w1 M0 M) : rd M 120 5 = rd M0 120 5 := St.kp h (by decide) (by decide) (by decide)
theorem kp_X12_partOf_120_w1_120_7 {q : Mem → Prop} {M0 M : Mem} (h : St q ws_X12_partOf_120_w1 as_X12_partOf_120_w1 M0 M) : rd M 120 7 = rd M0 120 7 := St.kp h (by decide) (by decide) (by decide)
theorem ka_X12_inputOf_120_w1_131 {q : Mem → Prop} {M0 M : Mem} (h : St q ws_X12_inputOf_120_w1 as_X12_inputOf_120_w1 M0 M) (j : Int) : rd M 131 j = rd M0 131 j := St.ka h (by decide) (by decide) (by decide)
theorem ka_X12_inputOf_120_w1_137 {q : Mem → Prop} {M0 M : Mem} (h : St q ws_X12_inputOf_120_w1 as_X12_inputOf_120_w1 M0 M) (j : Int) : rd M 137 j = rd M0 137 j := St.ka h (by decide) (by decide) (by decide)
theorem ka_X12_inputOf_120_w1_138 {q : Mem → Prop} {M0 M : Mem} (h : St q ws_X12_inputOf_120_w1 as_X12_inputOf_120_w1 M0 M) (j : Int) : rd M 138 j = rd M0 138 j := St.ka h (by decide) (by decide) (by decide)
theorem ka_X12_inputOf_120_w1_139 {q : Mem → Prop} {M0 M : Mem} (h : St q ws_X12_inputOf_120_w1 as_X12_inputOf_120_w1 M0 M) (j : Int) : rd M 139 j = rd M0 139 j := St.ka h (by decide) (by decide) (by decide)
theorem ka_X12_inputOf_120_w1_140 {q : Mem → Prop} {M0 M : Mem} (h : St q ws_X12_inputOf_120_w1 as_X12_inputOf_120_w1 M0 M) (j : Int) : rd M 140 j = rd M0 140 j := St.ka h (by decide) (by decide) (by decide)
theorem ka_X12_inputOf_120_w1_141 {q : Mem → Prop} {M0 M : Mem} (h : St q ws_X12_inputOf_120_w1 as_X12_inputOf_120_w1 M0 M) (j : Int) : rd M 141 j = rd M0 141 j := St.ka h (by decide) (by decide) (by decide)
theorem ka_X12_inputOf_120_w1_142 {q : Mem → Prop} {M0 M : Mem} (h : St q ws_X12_inputOf_120_w1 as_X12_inputOf_120_w1 M0 M) (j : Int) : rd M 142 j = rd M0 142 j := St.ka h (by decide) (by decide) (by decide)
theorem ka_X12_inputOf_120_w1_143 {q : Mem → Prop} {M0 M : Mem} (h : St q ws_X12_inputOf_120_w1 as_X12_inputOf_120_w1 M0 M) (j : Int) : rd M 143 j = rd M0 143 j := St.ka h (by decide) (by decide) (by decide)
theorem ka_X12_inputOf_120_w1_151 {q : Mem → Prop} {M0 M : Mem} (h : St q ws_X12_inputOf_120_w1 as_X12_inputOf_120_w1 M0 M) (j : Int) : rd M 151 j = rd M0 151 j := St.ka h (by decide) (by decide) (by decide)
theorem ka_X12_inputOf_120_w1_152 {q : Mem → Prop} {M0 M : Mem} (h : St q ws_X12_inputOf_120_w1 as_X12_inputOf_120_w1 M0 M) (j : Int) : rd M 152 j = rd M0 152 j := St.ka h (by decide) (by decide) (by decide)
theorem kp_X12_inputOf_120_w1_126_0 {q : Mem → Prop} {M0 M : Mem} (h : St q ws_X12_inputOf_120_w1 as_X12_inputOf_120_w1 M0 M) : rd M 126 0 = rd M0 126 0 := St.kp h (by decide) (by decide) (by decide)
theorem kp_X12_inputOf_120_w1_126_1 {q : Mem → Prop} {M0 M : Mem} (h : St q ws_X12_inputOf_120_w1 as_X12_inputOf_120_w1 M0 M) : rd M 126 1 = rd M0 126 1 := St.kp h (by decide) (by decide) (by decide)
theorem kp_X12_inputOf_120_w1_136_0 {q : Mem → Prop} {M0 M : Mem} (h : St q ws_X12_inputOf_120_w1 as_X12_inputOf_120_w1 M0 M) : rd M 136 0 = rd M0 136 0 := St.kp h (by decide) (by decide) (by decide)
theorem kp_X12_inputOf_120_w1_136_1 {q : Mem → Prop} {M0 M : Mem} (h : St q ws_X12_inputOf_120_w1 as_X12_inputOf_120_w1 M0 M) : rd M 136 1 = rd M0 136 1 := St.kp h (by decide) (by decide) (by decide)
theorem kp_X12_inputOf_120_w1_123_0 {q : Mem → Prop} {M0 M : Mem} (h : St q ws_X12_inputOf_120_w1 as_X12_inputOf_120_w1 M0 M) : rd M 123 0 = rd M0 123 0 := St.kp h (by decide) (by decide) (by decide)
theorem kp_X12_inputOf_120_w1_123_1 {q : Mem → Prop} {M0 M : Mem} (h : St q ws_X12_inputOf_120_w1 as_X12_inputOf_120_w1 M0 M) : rd M 123 1 = rd M0 123 1 := St.kp h (by decide) (by decide) (by decide)
theorem kp_X12_inputOf_120_w1_124_0 {q : Mem → Prop} {M0 M : Mem} (h : St q ws_X12_inputOf_120_w1 as_X12_inputOf_120_w1 M0 M) : rd M 124 0 = rd M0 124 0 := St.kp h (by decide) (by decide) (by decide)
theorem kp_X12_inputOf_120_w1_124_1 {q : Mem → Prop} {M0 M : Mem} (h : St q ws_X12_inputOf_120_w1 as_X12_inputOf_120_w1 M0 M) : rd M 124 1 = rd M0 124 1 := St.kp h (by decide) (by decide) (by decide)
theorem kp_X12_inputOf_120_w1_120_8 {q : Mem → Prop} {M0 M : Mem} (h : St q ws_X12_inputOf_120_w1 as_X12_inputOf_120_w1 M0 M) : rd M 120 8 = rd M0 120 8 := St.kp h (by decide) (by decide) (by decide)
theorem kp_X12_inputOf_120_w1_120_36 {q : Mem → Prop} {M0 M : Mem} (h : St q ws_X12_inputOf_120_w1 as_X12_inputOf_120_w1 M0 M) : rd M 120 36 = rd M0 120 36 := St.kp h (by decide) (by decide) (by decide)
theorem kp_X12_inputOf_120_w1_120_50 {q : Mem → Prop} {M0 M : Mem} (h : St q ws_X12_inputOf_120_w1 as_X12_inputOf_120_w1 M0 M) : rd M 120 50 = rd M0 120 50 := St.kp h (by decide) (by decide) (by decide)
theorem kp_X12_inputOf_120_w1_120_3 {q : Mem → Prop} {M0 M : Mem} (h : St q ws_X12_inputOf_120_w1 as_X12_inputOf_120_w1 M0 M) : rd M 120 3 = rd M0 120 3 := St.kp h (by decide) (by decide) (by decide)
theorem kp_X12_inputOf_120_w1_120_4 {q : Mem → Prop} {M0 M : Mem} (h : St q ws_X12_inputOf_120_w1 as_X12_inputOf_120_w1 M0 M) : rd M 120 4 = rd M0 120 4 := St.kp h (by decide) (by decide) (by decide)
theorem kp_X12_inputOf_120_w1_120_5 {q : Mem → Prop} {M0 M : Mem} (h : St q ws_X12_inputOf_120_w1 as_X12_inputOf_120_w1 M0 M) : rd M 120 5 = rd M0 120 5 := St.kp h (by decide) (by decide) (by decide)
theorem kp_X12_inputOf_120_w1_120_7 {q : Mem → Prop} {M0 M : Mem} (h : St q ws_X12_inputOf_120_w1 as_X12_inputOf_120_w1 M0 M) : rd M 120 7 = rd M0 120 7 := St.kp h (by decide) (by decide) (by decide)
theorem ka_X12_varOf_120_w1_131 {q : Mem → Prop} {M0 M : Mem} (h : St q ws_X12_varOf_120_w1 as_X12_varOf_120_w1 M0 M) (j : Int) : rd M 131 j = rd M0 131 j := St.ka h (by decide) (by decide) (by decide)
theorem ka_X12_varOf_120_w1_137 {q : Mem → Prop} {M0 M : Mem} (h : St q ws_X12_varOf_120_w1 as_X12_varOf_120_w1 M0 M) (j : Int) : rd M 137 j = rd M0 137 j := St.ka h (by decide) (by decide) (by decide)
theorem ka_X12_varOf_120_w1_138 {q : Mem → Prop} {M0 M : Mem} (h : St q ws_X12_varOf_120_w1 as_X12_varOf_120_w1 M0 M) (j : Int) : rd M 138 j = rd M0 138 j := St.ka h (by decide) (by decide) (by decide)
theorem ka_X12_varOf_120_w1_139 {q : Mem → Prop} {M0 M : Mem} (h : St q ws_X12_varOf_120_w1 as_X12_varOf_120_w1 M0 M) (j : Int) : rd M 139 j = rd M0 139 j := St.ka h (by decide) (by decide) (by decide)
theorem ka_X12_varOf_120_w1_140 {q : Mem → Prop} {M0 M : Mem} (h : St q ws_X12_varOf_120_w1 as_X12_varOf_120_w1 M0 M) (j : Int) : rd M 140 j = rd M0 140 j := St.ka h (by decide) (by decide) (by decide)
theorem ka_X12_varOf_120_w1_141 {q : Mem → Prop} {M0 M : Mem} (h : St q ws_X12_varOf_120_w1 as_X12_varOf_120_w1 M0 M) (j : Int) : rd M 141 j = rd M0 141 j := St.ka h (by decide) (by decide) (by decide)
theorem ka_X12_varOf_120_w1_142 {q : Mem → Prop} {M0 M : Mem} (h : St q ws_X12_varOf_120_w1 as_X12_varOf_120_w1 M0 M) (j : Int) : rd M 142 j = rd M0 142 j := St.ka h (by decide) (by decide) (by decide)
theorem ka_X12_varOf_120_w1_143 {q : Mem → Prop} {M0 M : Mem} (h : St q ws_X12_varOf_120_w1 as_X12_varOf_120_w1 M0 M) (j : Int) : rd M 143 j = rd M0 143 j := St.ka h (by decide) (by decide) (by decide)
theorem ka_X12_varOf_120_w1_151 {q : Mem → Prop} {M0 M : Mem} (h : St q ws_X12_varOf_120_w1 as_X12_varOf_120_w1 M0 M) (j : Int) : rd M 151 j = rd M0 151 j := St.ka h (by decide) (by decide) (by decide)
theorem ka_X12_varOf_120_w1_152 {q : Mem → Prop} {M0 M : Mem} (h : St q ws_X12_varOf_120_w1 as_X12_varOf_120_w1 M0 M) (j : Int) : rd M 152 j = rd M0 152 j := St.ka h (by decide) (by decide) (by decide)
theorem kp_X12_varOf_120_w1_126_0 {q : Mem → Prop} {M0 M : Mem} (h : St q ws_X12_varOf_120_w1 as_X12_varOf_120_w1 M0 M) : rd M 126 0 = rd M0 126 0 := St.kp h (by decide) (by decide) (by decide)
theorem kp_X12_varOf_120_w1_126_1 {q : Mem → Prop} {M0 M : Mem} (h : St q ws_X12_varOf_120_w1 as_X12_varOf_120_w1 M0 M) : rd M 126 1 = rd M0 126 1 := St.kp h (by decide) (by decide) (by decide)
theorem kp_X12_varOf_120_w1_136_0 {q : Mem → Prop} {M0 M : Mem} (h : St q ws_X12_varOf_120_w1 as_X12_varOf_120_w1 M0 M) : rd M 136 0 = rd M0 136 0 := St.kp h (by decide) (by decide) (by decide)
theorem kp_X12_varOf_120_w1_136_1 {q : Mem → Prop} {M0 M : Mem} (h : St q ws_X12_varOf_120_w1 as_X12_varOf_120_w1 M0 M) : rd M 136 1 = rd M0 136 1 := St.kp h (by decide) (by decide) (by decide)
theorem kp_X12_varOf_120_w1_123_0 {q : Mem → Prop} {M0 M : Mem} (h : St q ws_X12_varOf_120_w1 as_X12_varOf_120_w1 M0 M) : rd M 123 0 = rd M0 123 0 := St.kp h (by decide) (by decide) (by decide)
theorem kp_X12_varOf_120_w1_123_1 {q : Mem → Prop} {M0 M : Mem} (h : St q ws_X12_varOf_120_w1 as_X12_varOf_120_w1 M0 M) : rd M 123 1 = rd M0 123 1 := St.kp h (by decide) (by decide) (by decide)
theorem kp_X12_varOf_120_w1_124_0 {q : Mem → Prop} {M0 M : Mem} (h : St q ws_X12_varOf_120_w1 as_X12_varOf_120_w1 M0 M) : rd M 124 0 = rd M0 124 0 := St.kp h (by decide) (by decide) (by decide)
theorem kp_X12_varOf_120_w1_124_1 {q : Mem → Prop} {M0 M : Mem} (h : St q ws_X12_varOf_120_w1 as_X12_varOf_120_w1 M0 M) : rd M 124 1 = rd M0 124 1 := St.kp h (by decide) (by decide) (by decide)
theorem kp_X12_varOf_120_w1_120_8 {q : Mem → Prop} {M0 M : Mem} (h : St q ws_X12_varOf_120_w1 as_X12_varOf_120_w1 M0 M) : rd M 120 8 = rd M0 120 8 := St.kp h (by decide) (by decide) (by decide)
theorem kp_X12_varOf_120_w1_120_36 {q : Mem → Prop} {M0 M : Mem} (h : St q ws_X12_varOf_120_w1 as_X12_varOf_120_w1 M0 M) : rd M 120 36 = rd M0 120 36 := St.kp h (by decide) (by decide) (by decide)
theorem kp_X12_varOf_120_w1_120_50 {q : Mem → Prop} {M0 M : Mem} (h : St q ws_X12_varOf_120_w1 as_X12_varOf_120_w1 M0 M) : rd M 120 50 = rd M0 120 50 := St.kp h (by decide) (by decide) (by decide)
theorem kp_X12_varOf_120_w1_120_3 {q : Mem → Prop} {M0 M : Mem} (h : St q ws_X12_varOf_120_w1 as_X12_varOf_120_w1 M0 M) : rd M 120 3 = rd M0 120 3 := St.kp h (by decide) (by decide) (by decide)
theorem kp_X12_varOf_120_w1_120_4 {q : Mem → Prop} {M0 M : Mem} (h : St q ws_X12_varOf_120_w1 as_X12_varOf_120_w1 M0 M) : rd M 120 4 = rd M0 120 4 := St.kp h (by decide) (by decide) (by decide)
theorem kp_X12_varOf_120_w1_120_5 {q : Mem → Prop} {M0 M : Mem} (h : St q ws_X12_varOf_120_w1 as_X12_varOf_120_w1 M0 M) : rd M 120 5 = rd M0 120 5 := St.kp h (by decide) (by decide) (by decide)
theorem kp_X12_varOf_120_w1_120_7 {q : Mem → Prop} {M0 M : Mem} (h : St q ws_X12_varOf_120_w1 as_X12_varOf_120_w1 M0 M) : rd M 120 7 = rd M0 120 7 := St.kp h (by decide) (by decide) (by decide)
set_option maxRecDepth 100000 in
set_option maxHeartbeats 4000000 in
theorem sp_X12_fresh_120_w1 {l : Launch} {K : EC} {M0 : Mem} (hI : In Pm0 M0) (en_120_37 : rd M0 120 37 = 0)   (hq0 : rd M0 120 3 = 0 ∨ rd M0 120 4 + 1 ≤ rd M0 120 5) (hq1 : rd M0 120 4 ≤ rd M0 120 5) (hq2 : rd M0 120 3 ≠ 1 ∨ rd M0 120 4 + 2 ≤ rd M0 120 5 ∨ rd M0 120 7 < 256) : Tr l K 2 mX12_fresh 0 [(0, (2, 120))] [] M0 (q_X12_fresh_120_w1 M0) := by
  have hS : St Pm0 ws_X12_fresh_120_w1 as_X12_fresh_120_w1 M0 M0 := St.rf hI
  obtain ⟨g120_8, eg120_8⟩ : ∃ v, rd M0 120 8 = v := ⟨_, rfl⟩
  have bg120_8 : 0 ≤ g120_8 ∧ g120_8 ≤ 5 := by rw [← eg120_8]; exact ir_120_8 hI.2.1
  obtain ⟨g120_3, eg120_3⟩ : ∃ v, rd M0 120 3 = v := ⟨_, rfl⟩
  have bg120_3 : 0 ≤ g120_3 ∧ g120_3 ≤ 3 := by rw [← eg120_3]; exact ir_120_3 hI.2.1
  obtain ⟨g120_4, eg120_4⟩ : ∃ v, rd M0 120 4 = v := ⟨_, rfl⟩
  have bg120_4 : 0 ≤ g120_4 ∧ g120_4 ≤ 900 := by rw [← eg120_4]; exact ir_120_4 hI.2.1
  obtain ⟨g120_5, eg120_5⟩ : ∃ v, rd M0 120 5 = v := ⟨_, rfl⟩
  have bg120_5 : 0 ≤ g120_5 ∧ g120_5 ≤ 900 := by rw [← eg120_5]; exact ir_120_5 hI.2.1
  obtain ⟨g120_7, eg120_7⟩ : ∃ v, rd M0 120 7 = v := ⟨_, rfl⟩
  have bg120_7 : (-9223372036854775808) ≤ g120_7 ∧ g120_7 ≤ 9223372036854775807 := by rw [← eg120_7]; exact ir_120_7 hI.2.1
  obtain ⟨g9010_0, eg9010_0⟩ : ∃ v, tav M0 = v := ⟨_, rfl⟩
  have bg9010_0 : (-1) ≤ g9010_0 ∧ g9010_0 ≤ 1800 := by rw [← eg9010_0]; exact (tav_b hI.2.1)
  replace hq0 := hd_i hq0
  replace hq2 := hd_i hq2
  refine Tr.aload_n (pc := 0) (i := 0) d_X12_fresh_0 rfl rfl ?_
  refine Tr.getf (pc := 1) d_X12_fresh_1 f_12_36 (by decide) (by decide) (ty_120 hS.1.1) ?_
  refine Tr.tp g120_8 eg120_8 ?_
  refine Tr.if_le (pc := 4) (tgt := 9) d_X12_fresh_4 rfl (fun c4 => ?_) (fun c4 => ?_)
  · refine Tr.aload_n (pc := 9) (i := 0) d_X12_fresh_9 rfl rfl ?_
    refine Tr.getf (pc := 10) d_X12_fresh_10 f_12_20 (by decide) (by decide) (ty_120 hS.1.1) ?_
    refine Tr.tp g120_3 eg120_3 ?_
    refine Tr.iconst (pc := 13) d_X12_fresh_13 (by decide) ?_
    have J37 : ∀ (M : Mem) (u37_120_8 : Int), St Pm0 ws_X12_fresh_120_w1 as_X12_fresh_120_w1 M0 M → (0 ≤ u37_120_8 ∧ u37_120_8 ≤ 5) → rd M 120 3 = g120_3 → rd M 120 4 = g120_4 → rd M 120 5 = g120_5 → rd M 120 7 = g120_7 → rd M 120 8 = u37_120_8 → tav M = g9010_0 → (u37_120_8 ≠ 0 ∨ g120_3 ≠ 0) → (g120_8 = 0) → Tr l K 2 mX12_fresh 37 [(0, (2, 120))] [] M (q_X12_fresh_120_w1 M0) := by
      intro M u37_120_8 hS bu37_120_8 k37_120_3 k37_120_4 k37_120_5 k37_120_7 k37_120_8 k37_9010_0 t37_0 t37_1
      replace t37_0 := hd_i t37_0
      refine Tr.aload_n (pc := 37) (i := 0) d_X12_fresh_37 rfl rfl ?_
      refine Tr.getf (pc := 38) d_X12_fresh_38 f_12_36 (by decide) (by decide) (ty_120 hS.1.1) ?_
      refine Tr.tp u37_120_8 k37_120_8 ?_
      have J89 : ∀ (M : Mem) (u89_120_8 : Int), St Pm0 ws_X12_fresh_120_w1 as_X12_fresh_120_w1 M0 M → (0 ≤ u89_120_8 ∧ u89_120_8 ≤ 5) → rd M 120 3 = g120_3 → rd M 120 4 = g120_4 → rd M 120 5 = g120_5 → rd M 120 7 = g120_7 → rd M 120 8 = u89_120_8 → tav M = g9010_0 → (u89_120_8 ≠ 0 ∨ g120_3 ≠ 0) → (g120_8 = 0) → Tr l K 2 mX12_fresh 89 [(0, (2, 120))] [] M (q_X12_fresh_120_w1 M0) := by
        intro M u89_120_8 hS bu89_120_8 k89_120_3 k89_120_4 k89_120_5 k89_120_7 k89_120_8 k89_9010_0 t89_0 t89_1
        clear k37_120_3 k37_120_4 k37_120_5 k37_120_7 k37_120_8 k37_9010_0
        replace t89_0 := hd_i t89_0
        refine Tr.aload_n (pc := 89) (i := 0) d_X12_fresh_89 rfl rfl ?_
        refine Tr.getf (pc := 90) d_X12_fresh_90 f_12_32 (by decide) (by decide) (ty_120 hS.1.1) ?_
        refine Tr.tp g120_7 k89_120_7 ?_
        refine Tr.lstore_n (pc := 93) (i := 1) (ls2 := [(1, (1, g120_7)), (0, (2, 120))]) d_X12_fresh_93 rfl (by decide) rfl ?_
        refine Tr.aload_n (pc := 94) (i := 0) d_X12_fresh_94 rfl rfl ?_
        refine Tr.getf (pc := 95) d_X12_fresh_95 f_12_36 (by decide) (by decide) (ty_120 hS.1.1) ?_
        refine Tr.tp u89_120_8 k89_120_8 ?_
        refine Tr.if_ne (pc := 98) (tgt := 105) d_X12_fresh_98 rfl (fun c98 => ?_) (fun c98 => ?_)
        · have c98b : 1 ≤ u89_120_8 ∧ u89_120_8 ≤ 5 := by omega
          replace c98 := hd_i c98
          refine Tr.lload_n (pc := 105) (i := 1) d_X12_fresh_105 rfl rfl ?_
          have kr_120_3 : rd M 120 3 = g120_3 := k89_120_3
          have kr_120_4 : rd M 120 4 = g120_4 := k89_120_4
          have kr_120_5 : rd M 120 5 = g120_5 := k89_120_5
          have kr_120_7 : rd M 120 7 = g120_7 := k89_120_7
          have kr_120_8 : rd M 120 8 = u89_120_8 := k89_120_8
          have kr_9010_0 : tav M = g9010_0 := k89_9010_0
          exact Tr.lret (pc := 106) d_X12_fresh_106 rfl ⟨hS, _, rfl, (by omega), (by omega), (by first | exact (hd_o hq0) | exact (hd_o hq0).elim (fun h1 => by omega) (fun h1 => by omega)), (by omega), (by first | exact (hd_o hq2) | exact (hd_o hq2).elim (fun h1 => by omega) (fun h1 => h1.elim (fun h1 => by omega) (fun h1 => by omega))), (by and_intros <;> omega), (by omega), (by omega)⟩
        · refine Tr.aload_n (pc := 101) (i := 0) d_X12_fresh_101 rfl rfl ?_
          refine Tr.callV (pc := 102) (as := []) d_X12_fresh_102 s_12_396 ok_X12_next rfl rfl (Nat.le_of_ble_eq_true rfl) (Nat.le_of_ble_eq_true rfl) (by decide) (ty_120 hS.1.1) ?_
          refine Tr.imp (Tr.deep (by decide) (ns_X12_next_120_w1 (G120_3 := g120_3) (G120_5 := g120_5) (G120_8 := u89_120_8) (G9010_0 := g9010_0) hS.1 (k89_120_3) (k89_120_5) (k89_120_8) (k89_9010_0))) ?_
          rintro M102 _ ⟨h102, s102_120_3, s102_120_4, s102_120_5, s102_120_7, s102_120_8, s102_9010_0, es102_120_3, bs102_120_3, es102_120_4, bs102_120_4, es102_120_5, bs102_120_5, es102_120_7, bs102_120_7, es102_120_8, bs102_120_8, es102_9010_0, bs102_9010_0, rfl, z102_0, z102_1, z102_2, z102_3, z102_4, z102_5, z102_6⟩
          have hS := St.tr hS h102 (by decide) (by decide)
          refine Tr.sc [] rfl ?_
          refine Tr.lload_n (pc := 105) (i := 1) d_X12_fresh_105 rfl rfl ?_
          have kr_120_3 : rd M102 120 3 = s102_120_3 := es102_120_3
          have kr_120_4 : rd M102 120 4 = s102_120_4 := es102_120_4
          have kr_120_5 : rd M102 120 5 = s102_120_5 := es102_120_5
          have kr_120_7 : rd M102 120 7 = s102_120_7 := es102_120_7
          have kr_120_8 : rd M102 120 8 = s102_120_8 := es102_120_8
          have kr_9010_0 : tav M102 = s102_9010_0 := es102_9010_0
          exact Tr.lret (pc := 106) d_X12_fresh_106 rfl ⟨hS, _, rfl, (by omega), (by omega), (by first | exact (hd_o z102_0) | exact (hd_o z102_0).elim (fun h1 => by omega) (fun h1 => by omega)), (by omega), (by first | exact (hd_o z102_2) | exact (hd_o z102_2).elim (fun h1 => by omega) (fun h1 => h1.elim (fun h1 => by omega) (fun h1 => by omega))), (by and_intros <;> omega), (by omega), (by exact (hd_o t89_0).elim (fun h1 => (ne_o h1).elim (fun h2 => by omega) (fun h2 => by omega)) (fun h1 => (ne_o h1).elim (fun h2 => by omega) (fun h2 => (hd_o z102_5).elim (fun h3 => by omega) (fun h3 => by omega))))⟩
      refine Tr.if_ne (pc := 41) (tgt := 89) d_X12_fresh_41 rfl (fun c41 => ?_) (fun c41 => ?_)
      · have c41b : 1 ≤ u37_120_8 ∧ u37_120_8 ≤ 5 := by omega
        replace c41 := hd_i c41
        refine Tr.pick [0] (ls2 := [(0, (2, 120))]) rfl ?_
        exact J89 _ _ hS (by and_intros <;> omega) k37_120_3 k37_120_4 k37_120_5 k37_120_7 k37_120_8 k37_9010_0 (by first | exact (hd_o t37_0) | exact (hd_o t37_0).elim (fun h1 => by omega) (fun h1 => by omega)) (by omega)
      · refine Tr.aload_n (pc := 44) (i := 0) d_X12_fresh_44 rfl rfl ?_
        refine Tr.aload_n (pc := 45) (i := 0) d_X12_fresh_45 rfl rfl ?_
        refine Tr.getf (pc := 46) d_X12_fresh_46 f_12_32 (by decide) (by decide) (ty_120 hS.1.1) ?_
        refine Tr.tp g120_7 k37_120_7 ?_
        refine Tr.callV (pc := 49) (as := [_]) d_X12_fresh_49 s_12_457 ok_X12_partOf rfl rfl (Nat.le_of_ble_eq_true rfl) (Nat.le_of_ble_eq_true rfl) (by decide) (ty_120 hS.1.1) ?_
        refine Tr.imp (Tr.deep (by decide) (sp_X12_partOf_120_w1 hS.1.wk ((kp_X12_fresh_120_w1_120_37 hS).trans en_120_37) g120_7 (by omega))) ?_
        rintro M49 _ ⟨h49, r49, rfl, lr49, ur49⟩
        have h49 := St.rn h49 (Pm0.of hS.1.2.2.2.2 (fun _ => (ka_X12_partOf_120_w1_131 h49 _)) (fun _ => (ka_X12_partOf_120_w1_137 h49 _)) (fun _ => (ka_X12_partOf_120_w1_138 h49 _)) (fun _ => (ka_X12_partOf_120_w1_139 h49 _)) (fun _ => (ka_X12_partOf_120_w1_140 h49 _)) (fun _ => (ka_X12_partOf_120_w1_141 h49 _)) (fun _ => (ka_X12_partOf_120_w1_142 h49 _)) (fun _ => (ka_X12_partOf_120_w1_143 h49 _)) (fun _ => (ka_X12_partOf_120_w1_151 h49 _)) (fun _ => (ka_X12_partOf_120_w1_152 h49 _)) (kp_X12_partOf_120_w1_126_0 h49) (kp_X12_partOf_120_w1_126_1 h49) (kp_X12_partOf_120_w1_136_0 h49) (kp_X12_partOf_120_w1_136_1 h49) (kp_X12_partOf_120_w1_123_0 h49) (kp_X12_partOf_120_w1_123_1 h49) (kp_X12_partOf_120_w1_124_0 h49) (kp_X12_partOf_120_w1_124_1 h49) (kp_X12_partOf_120_w1_120_8 h49) (kp_X12_partOf_120_w1_120_36 h49) (kp_X12_partOf_120_w1_120_50 h49))
        have hS := St.tr hS h49 (by decide) (by decide)
        refine Tr.sc [(0, r49)] rfl ?_
        refine Tr.iconst (pc := 52) d_X12_fresh_52 (by decide) ?_
        have J80 : ∀ (M : Mem), St Pm0 ws_X12_fresh_120_w1 as_X12_fresh_120_w1 M0 M → rd M 120 3 = g120_3 → rd M 120 4 = g120_4 → rd M 120 5 = g120_5 → rd M 120 7 = g120_7 → rd M 120 8 = u37_120_8 → tav M = g9010_0 → (u37_120_8 ≠ 0 ∨ g120_3 ≠ 0) → (g120_8 = 0) → Tr l K 2 mX12_fresh 80 [(0, (2, 120))] [] M (q_X12_fresh_120_w1 M0) := by
          intro M  hS  k80_120_3 k80_120_4 k80_120_5 k80_120_7 k80_120_8 k80_9010_0 t80_0 t80_1
          clear k37_120_3 k37_120_4 k37_120_5 k37_120_7 k37_120_8 k37_9010_0
          replace t80_0 := hd_i t80_0
          refine Tr.aload_n (pc := 80) (i := 0) d_X12_fresh_80 rfl rfl ?_
          refine Tr.iconst (pc := 81) d_X12_fresh_81 (by decide) ?_
          refine Tr.aload_n (pc := 82) (i := 0) d_X12_fresh_82 rfl rfl ?_
          refine Tr.getf (pc := 83) d_X12_fresh_83 f_12_23 (by decide) (by decide) (ty_120 hS.1.1) ?_
          refine Tr.tp g120_4 k80_120_4 ?_
          refine Tr.callV (pc := 86) (as := [_, _]) d_X12_fresh_86 s_12_389 ok_X12_blame rfl rfl (Nat.le_of_ble_eq_true rfl) (Nat.le_of_ble_eq_true rfl) (by decide) (ty_120 hS.1.1) ?_
          refine Tr.imp (Tr.deep (by decide) (ns_X12_blame_120_w1 (G120_8 := u37_120_8) hS.1 (k80_120_8) 2 (by omega) g120_4 (by and_intros <;> omega))) ?_
          rintro M86 _ ⟨h86, s86_120_8, es86_120_8, bs86_120_8, rfl, z86_0⟩
          have hS := St.tr hS h86 (by decide) (by decide)
          refine Tr.sc [] rfl ?_
          refine Tr.pick [0] (ls2 := [(0, (2, 120))]) rfl ?_
          exact J89 _ _ hS (by and_intros <;> omega) ((kp_X12_blame_120_w1_120_3 h86).trans k80_120_3) ((kp_X12_blame_120_w1_120_4 h86).trans k80_120_4) ((kp_X12_blame_120_w1_120_5 h86).trans k80_120_5) ((kp_X12_blame_120_w1_120_7 h86).trans k80_120_7) es86_120_8 ((tav_of ((kp_X12_blame_120_w1_120_5 h86).trans rfl) ((kp_X12_blame_120_w1_120_3 h86).trans rfl)).trans k80_9010_0) (by exact (hd_o z86_0).elim (fun h1 => by omega) (fun h1 => by omega)) (by omega)
        refine Tr.icmp_ne (pc := 53) (tgt := 80) d_X12_fresh_53 rfl (fun c53 => ?_) (fun c53 => ?_)
        · have c53b : 0 ≤ r49 ∧ r49 ≤ 5 := by omega
          replace c53 := hd_i c53
          refine Tr.pick [0] (ls2 := [(0, (2, 120))]) rfl ?_
          exact J80 _ hS ((kp_X12_partOf_120_w1_120_3 h49).trans k37_120_3) ((kp_X12_partOf_120_w1_120_4 h49).trans k37_120_4) ((kp_X12_partOf_120_w1_120_5 h49).trans k37_120_5) ((kp_X12_partOf_120_w1_120_7 h49).trans k37_120_7) ((kp_X12_partOf_120_w1_120_8 h49).trans k37_120_8) ((tav_of ((kp_X12_partOf_120_w1_120_5 h49).trans rfl) ((kp_X12_partOf_120_w1_120_3 h49).trans rfl)).trans k37_9010_0) (by first | exact (hd_o t37_0) | exact (hd_o t37_0).elim (fun h1 => by omega) (fun h1 => by omega)) (by omega)
        · refine Tr.aload_n (pc := 56) (i := 0) d_X12_fresh_56 rfl rfl ?_
          refine Tr.aload_n (pc := 57) (i := 0) d_X12_fresh_57 rfl rfl ?_
          refine Tr.getf (pc := 58) d_X12_fresh_58 f_12_32 (by decide) (by decide) (ty_120 hS.1.1) ?_
          refine Tr.tp g120_7 ((kp_X12_partOf_120_w1_120_7 h49).trans k37_120_7) ?_
          refine Tr.callV (pc := 61) (as := [_]) d_X12_fresh_61 s_12_461 ok_X12_inputOf rfl rfl (Nat.le_of_ble_eq_true rfl) (Nat.le_of_ble_eq_true rfl) (by decide) (ty_120 hS.1.1) ?_
          refine Tr.imp (Tr.deep (by decide) (sp_X12_inputOf_120_w1 hS.1.wk ((kp_X12_fresh_120_w1_120_37 hS).trans en_120_37) g120_7 (by omega))) ?_
          rintro M61 _ ⟨h61, r61, rfl, lr61, ur61⟩
          have h61 := St.rn h61 (Pm0.of hS.1.2.2.2.2 (fun _ => (ka_X12_inputOf_120_w1_131 h61 _)) (fun _ => (ka_X12_inputOf_120_w1_137 h61 _)) (fun _ => (ka_X12_inputOf_120_w1_138 h61 _)) (fun _ => (ka_X12_inputOf_120_w1_139 h61 _)) (fun _ => (ka_X12_inputOf_120_w1_140 h61 _)) (fun _ => (ka_X12_inputOf_120_w1_141 h61 _)) (fun _ => (ka_X12_inputOf_120_w1_142 h61 _)) (fun _ => (ka_X12_inputOf_120_w1_143 h61 _)) (fun _ => (ka_X12_inputOf_120_w1_151 h61 _)) (fun _ => (ka_X12_inputOf_120_w1_152 h61 _)) (kp_X12_inputOf_120_w1_126_0 h61) (kp_X12_inputOf_120_w1_126_1 h61) (kp_X12_inputOf_120_w1_136_0 h61) (kp_X12_inputOf_120_w1_136_1 h61) (kp_X12_inputOf_120_w1_123_0 h61) (kp_X12_inputOf_120_w1_123_1 h61) (kp_X12_inputOf_120_w1_124_0 h61) (kp_X12_inputOf_120_w1_124_1 h61) (kp_X12_inputOf_120_w1_120_8 h61) (kp_X12_inputOf_120_w1_120_36 h61) (kp_X12_inputOf_120_w1_120_50 h61))
          have hS := St.tr hS h61 (by decide) (by decide)
          refine Tr.sc [(0, r61)] rfl ?_
          refine Tr.iconst (pc := 64) d_X12_fresh_64 (by decide) ?_
          refine Tr.icmp_ne (pc := 65) (tgt := 80) d_X12_fresh_65 rfl (fun c65 => ?_) (fun c65 => ?_)
          · have c65b : 0 ≤ r61 ∧ r61 ≤ 2 := by omega
            replace c65 := hd_i c65
            refine Tr.pick [0] (ls2 := [(0, (2, 120))]) rfl ?_
            exact J80 _ hS ((kp_X12_inputOf_120_w1_120_3 h61).trans ((kp_X12_partOf_120_w1_120_3 h49).trans k37_120_3)) ((kp_X12_inputOf_120_w1_120_4 h61).trans ((kp_X12_partOf_120_w1_120_4 h49).trans k37_120_4)) ((kp_X12_inputOf_120_w1_120_5 h61).trans ((kp_X12_partOf_120_w1_120_5 h49).trans k37_120_5)) ((kp_X12_inputOf_120_w1_120_7 h61).trans ((kp_X12_partOf_120_w1_120_7 h49).trans k37_120_7)) ((kp_X12_inputOf_120_w1_120_8 h61).trans ((kp_X12_partOf_120_w1_120_8 h49).trans k37_120_8)) ((tav_of ((kp_X12_inputOf_120_w1_120_5 h61).trans ((kp_X12_partOf_120_w1_120_5 h49).trans rfl)) ((kp_X12_inputOf_120_w1_120_3 h61).trans ((kp_X12_partOf_120_w1_120_3 h49).trans rfl))).trans k37_9010_0) (by first | exact (hd_o t37_0) | exact (hd_o t37_0).elim (fun h1 => by omega) (fun h1 => by omega)) (by omega)
          · refine Tr.aload_n (pc := 68) (i := 0) d_X12_fresh_68 rfl rfl ?_
            refine Tr.aload_n (pc := 69) (i := 0) d_X12_fresh_69 rfl rfl ?_
            refine Tr.getf (pc := 70) d_X12_fresh_70 f_12_32 (by decide) (by decide) (ty_120 hS.1.1) ?_
            refine Tr.tp g120_7 ((kp_X12_inputOf_120_w1_120_7 h61).trans ((kp_X12_partOf_120_w1_120_7 h49).trans k37_120_7)) ?_
            refine Tr.callV (pc := 73) (as := [_]) d_X12_fresh_73 s_12_464 ok_X12_varOf rfl rfl (Nat.le_of_ble_eq_true rfl) (Nat.le_of_ble_eq_true rfl) (by decide) (ty_120 hS.1.1) ?_
            refine Tr.imp (Tr.deep (by decide) (sp_X12_varOf_120_w1 hS.1.wk ((kp_X12_fresh_120_w1_120_37 hS).trans en_120_37) g120_7 (by omega))) ?_
            rintro M73 _ ⟨h73, r73, rfl, lr73, ur73⟩
            have h73 := St.rn h73 (Pm0.of hS.1.2.2.2.2 (fun _ => (ka_X12_varOf_120_w1_131 h73 _)) (fun _ => (ka_X12_varOf_120_w1_137 h73 _)) (fun _ => (ka_X12_varOf_120_w1_138 h73 _)) (fun _ => (ka_X12_varOf_120_w1_139 h73 _)) (fun _ => (ka_X12_varOf_120_w1_140 h73 _)) (fun _ => (ka_X12_varOf_120_w1_141 h73 _)) (fun _ => (ka_X12_varOf_120_w1_142 h73 _)) (fun _ => (ka_X12_varOf_120_w1_143 h73 _)) (fun _ => (ka_X12_varOf_120_w1_151 h73 _)) (fun _ => (ka_X12_varOf_120_w1_152 h73 _)) (kp_X12_varOf_120_w1_126_0 h73) (kp_X12_varOf_120_w1_126_1 h73) (kp_X12_varOf_120_w1_136_0 h73) (kp_X12_varOf_120_w1_136_1 h73) (kp_X12_varOf_120_w1_123_0 h73) (kp_X12_varOf_120_w1_123_1 h73) (kp_X12_varOf_120_w1_124_0 h73) (kp_X12_varOf_120_w1_124_1 h73) (kp_X12_varOf_120_w1_120_8 h73) (kp_X12_varOf_120_w1_120_36 h73) (kp_X12_varOf_120_w1_120_50 h73))
            have hS := St.tr hS h73 (by decide) (by decide)
            refine Tr.sc [(0, r73)] rfl ?_
            refine Tr.iconst (pc := 76) d_X12_fresh_76 (by decide) ?_
            refine Tr.icmp_eq (pc := 77) (tgt := 89) d_X12_fresh_77 rfl (fun c77 => ?_) (fun c77 => ?_)
            · refine Tr.pick [0] (ls2 := [(0, (2, 120))]) rfl ?_
              exact J89 _ _ hS (by and_intros <;> omega) ((kp_X12_varOf_120_w1_120_3 h73).trans ((kp_X12_inputOf_120_w1_120_3 h61).trans ((kp_X12_partOf_120_w1_120_3 h49).trans k37_120_3))) ((kp_X12_varOf_120_w1_120_4 h73).trans ((kp_X12_inputOf_120_w1_120_4 h61).trans ((kp_X12_partOf_120_w1_120_4 h49).trans k37_120_4))) ((kp_X12_varOf_120_w1_120_5 h73).trans ((kp_X12_inputOf_120_w1_120_5 h61).trans ((kp_X12_partOf_120_w1_120_5 h49).trans k37_120_5))) ((kp_X12_varOf_120_w1_120_7 h73).trans ((kp_X12_inputOf_120_w1_120_7 h61).trans ((kp_X12_partOf_120_w1_120_7 h49).trans k37_120_7))) ((kp_X12_varOf_120_w1_120_8 h73).trans ((kp_X12_inputOf_120_w1_120_8 h61).trans ((kp_X12_partOf_120_w1_120_8 h49).trans k37_120_8))) ((tav_of ((kp_X12_varOf_120_w1_120_5 h73).trans ((kp_X12_inputOf_120_w1_120_5 h61).trans ((kp_X12_partOf_120_w1_120_5 h49).trans rfl))) ((kp_X12_varOf_120_w1_120_3 h73).trans ((kp_X12_inputOf_120_w1_120_3 h61).trans ((kp_X12_partOf_120_w1_120_3 h49).trans rfl)))).trans k37_9010_0) (by first | exact (hd_o t37_0) | exact (hd_o t37_0).elim (fun h1 => by omega) (fun h1 => by omega)) (by omega)
            · have c77b : 0 ≤ r73 ∧ r73 ≤ 5 := by omega
              replace c77 := hd_i c77
              refine Tr.pick [0] (ls2 := [(0, (2, 120))]) rfl ?_
              exact J80 _ hS ((kp_X12_varOf_120_w1_120_3 h73).trans ((kp_X12_inputOf_120_w1_120_3 h61).trans ((kp_X12_partOf_120_w1_120_3 h49).trans k37_120_3))) ((kp_X12_varOf_120_w1_120_4 h73).trans ((kp_X12_inputOf_120_w1_120_4 h61).trans ((kp_X12_partOf_120_w1_120_4 h49).trans k37_120_4))) ((kp_X12_varOf_120_w1_120_5 h73).trans ((kp_X12_inputOf_120_w1_120_5 h61).trans ((kp_X12_partOf_120_w1_120_5 h49).trans k37_120_5))) ((kp_X12_varOf_120_w1_120_7 h73).trans ((kp_X12_inputOf_120_w1_120_7 h61).trans ((kp_X12_partOf_120_w1_120_7 h49).trans k37_120_7))) ((kp_X12_varOf_120_w1_120_8 h73).trans ((kp_X12_inputOf_120_w1_120_8 h61).trans ((kp_X12_partOf_120_w1_120_8 h49).trans k37_120_8))) ((tav_of ((kp_X12_varOf_120_w1_120_5 h73).trans ((kp_X12_inputOf_120_w1_120_5 h61).trans ((kp_X12_partOf_120_w1_120_5 h49).trans rfl))) ((kp_X12_varOf_120_w1_120_3 h73).trans ((kp_X12_inputOf_120_w1_120_3 h61).trans ((kp_X12_partOf_120_w1_120_3 h49).trans rfl)))).trans k37_9010_0) (by first | exact (hd_o t37_0) | exact (hd_o t37_0).elim (fun h1 => by omega) (fun h1 => by omega)) (by omega)
    have J28 : ∀ (M : Mem), St Pm0 ws_X12_fresh_120_w1 as_X12_fresh_120_w1 M0 M → rd M 120 3 = g120_3 → rd M 120 4 = g120_4 → rd M 120 5 = g120_5 → rd M 120 7 = g120_7 → rd M 120 8 = g120_8 → tav M = g9010_0 → (g120_8 = 0) → (g120_8 = 0) → Tr l K 2 mX12_fresh 28 [(0, (2, 120))] [] M (q_X12_fresh_120_w1 M0) := by
      intro M  hS  k28_120_3 k28_120_4 k28_120_5 k28_120_7 k28_120_8 k28_9010_0 t28_0 t28_1
      refine Tr.aload_n (pc := 28) (i := 0) d_X12_fresh_28 rfl rfl ?_
      refine Tr.iconst (pc := 29) d_X12_fresh_29 (by decide) ?_
      refine Tr.aload_n (pc := 30) (i := 0) d_X12_fresh_30 rfl rfl ?_
      refine Tr.getf (pc := 31) d_X12_fresh_31 f_12_23 (by decide) (by decide) (ty_120 hS.1.1) ?_
      refine Tr.tp g120_4 k28_120_4 ?_
      refine Tr.callV (pc := 34) (as := [_, _]) d_X12_fresh_34 s_12_389 ok_X12_blame rfl rfl (Nat.le_of_ble_eq_true rfl) (Nat.le_of_ble_eq_true rfl) (by decide) (ty_120 hS.1.1) ?_
      refine Tr.imp (Tr.deep (by decide) (ns_X12_blame_120_w1 (G120_8 := g120_8) hS.1 (k28_120_8) 1 (by omega) g120_4 (by and_intros <;> omega))) ?_
      rintro M34 _ ⟨h34, s34_120_8, es34_120_8, bs34_120_8, rfl, z34_0⟩
      have hS := St.tr hS h34 (by decide) (by decide)
      refine Tr.sc [] rfl ?_
      refine Tr.pick [0] (ls2 := [(0, (2, 120))]) rfl ?_
      exact J37 _ _ hS (by and_intros <;> omega) ((kp_X12_blame_120_w1_120_3 h34).trans k28_120_3) ((kp_X12_blame_120_w1_120_4 h34).trans k28_120_4) ((kp_X12_blame_120_w1_120_5 h34).trans k28_120_5) ((kp_X12_blame_120_w1_120_7 h34).trans k28_120_7) es34_120_8 ((tav_of ((kp_X12_blame_120_w1_120_5 h34).trans rfl) ((kp_X12_blame_120_w1_120_3 h34).trans rfl)).trans k28_9010_0) (by exact (hd_o z34_0).elim (fun h1 => by omega) (fun h1 => by omega)) (by omega)
    refine Tr.icmp_ne (pc := 14) (tgt := 28) d_X12_fresh_14 rfl (fun c14 => ?_) (fun c14 => ?_)
    · replace c14 := hd_i c14
      refine Tr.pick [0] (ls2 := [(0, (2, 120))]) rfl ?_
      exact J28 _ hS eg120_3 eg120_4 eg120_5 eg120_7 eg120_8 eg9010_0 (by omega) (by omega)
    · refine Tr.aload_n (pc := 17) (i := 0) d_X12_fresh_17 rfl rfl ?_
      refine Tr.aload_n (pc := 18) (i := 0) d_X12_fresh_18 rfl rfl ?_
      refine Tr.getf (pc := 19) d_X12_fresh_19 f_12_32 (by decide) (by decide) (ty_120 hS.1.1) ?_
      refine Tr.tp g120_7 eg120_7 ?_
      refine Tr.callV (pc := 22) (as := [_]) d_X12_fresh_22 s_12_453 ok_X12_isOwn rfl rfl (Nat.le_of_ble_eq_true rfl) (Nat.le_of_ble_eq_true rfl) (by decide) (ty_120 hS.1.1) ?_
      refine Tr.imp (Tr.deep (by decide) (sp_X12_isOwn_120 hS.1.wk g120_7 (by omega))) ?_
      rintro M22 _ ⟨h22, r22, rfl, lr22, ur22⟩
      have h22 := St.rn h22 (Pm0.of hS.1.2.2.2.2 (fun _ => (ka_X12_isOwn_120_131 h22 _)) (fun _ => (ka_X12_isOwn_120_137 h22 _)) (fun _ => (ka_X12_isOwn_120_138 h22 _)) (fun _ => (ka_X12_isOwn_120_139 h22 _)) (fun _ => (ka_X12_isOwn_120_140 h22 _)) (fun _ => (ka_X12_isOwn_120_141 h22 _)) (fun _ => (ka_X12_isOwn_120_142 h22 _)) (fun _ => (ka_X12_isOwn_120_143 h22 _)) (fun _ => (ka_X12_isOwn_120_151 h22 _)) (fun _ => (ka_X12_isOwn_120_152 h22 _)) (kp_X12_isOwn_120_126_0 h22) (kp_X12_isOwn_120_126_1 h22) (kp_X12_isOwn_120_136_0 h22) (kp_X12_isOwn_120_136_1 h22) (kp_X12_isOwn_120_123_0 h22) (kp_X12_isOwn_120_123_1 h22) (kp_X12_isOwn_120_124_0 h22) (kp_X12_isOwn_120_124_1 h22) (kp_X12_isOwn_120_120_8 h22) (kp_X12_isOwn_120_120_36 h22) (kp_X12_isOwn_120_120_50 h22))
      have hS := St.tr hS h22 (by decide) (by decide)
      refine Tr.sc [(0, r22)] rfl ?_
      refine Tr.if_eq (pc := 25) (tgt := 37) d_X12_fresh_25 rfl (fun c25 => ?_) (fun c25 => ?_)
      · refine Tr.pick [0] (ls2 := [(0, (2, 120))]) rfl ?_
        exact J37 _ _ hS (by and_intros <;> omega) ((kp_X12_isOwn_120_120_3 h22).trans eg120_3) ((kp_X12_isOwn_120_120_4 h22).trans eg120_4) ((kp_X12_isOwn_120_120_5 h22).trans eg120_5) ((kp_X12_isOwn_120_120_7 h22).trans eg120_7) ((kp_X12_isOwn_120_120_8 h22).trans eg120_8) ((tav_of ((kp_X12_isOwn_120_120_5 h22).trans rfl) ((kp_X12_isOwn_120_120_3 h22).trans rfl)).trans eg9010_0) (by omega) (by omega)
      · have c25b : 1 ≤ r22 ∧ r22 ≤ 1 := by omega
        replace c25 := hd_i c25
        refine Tr.pick [0] (ls2 := [(0, (2, 120))]) rfl ?_
        exact J28 _ hS ((kp_X12_isOwn_120_120_3 h22).trans eg120_3) ((kp_X12_isOwn_120_120_4 h22).trans eg120_4) ((kp_X12_isOwn_120_120_5 h22).trans eg120_5) ((kp_X12_isOwn_120_120_7 h22).trans eg120_7) ((kp_X12_isOwn_120_120_8 h22).trans eg120_8) ((tav_of ((kp_X12_isOwn_120_120_5 h22).trans rfl) ((kp_X12_isOwn_120_120_3 h22).trans rfl)).trans eg9010_0) (by omega) (by omega)
  · refine Tr.lconst (pc := 7) (v := 0) d_X12_fresh_7 rfl (by decide) ?_
    have kr_120_3 : rd M0 120 3 = g120_3 := eg120_3
    have kr_120_4 : rd M0 120 4 = g120_4 := eg120_4
    have kr_120_5 : rd M0 120 5 = g120_5 := eg120_5
    have kr_120_7 : rd M0 120 7 = g120_7 := eg120_7
    have kr_120_8 : rd M0 120 8 = g120_8 := eg120_8
    have kr_9010_0 : tav M0 = g9010_0 := eg9010_0
    exact Tr.lret (pc := 8) d_X12_fresh_8 rfl ⟨hS, _, rfl, by omega, by omega, (by first | exact (hd_o hq0) | exact (hd_o hq0).elim (fun h1 => by omega) (fun h1 => by omega)), (by omega), (by first | exact (hd_o hq2) | exact (hd_o hq2).elim (fun h1 => by omega) (fun h1 => h1.elim (fun h1 => by omega) (fun h1 => by omega))), (by and_intros <;> omega), (by omega), (by omega)⟩

set_option maxRecDepth 100000 in
set_option maxHeartbeats 4000000 in
theorem ns_X12_fresh_120_w1 {l : Launch} {K : EC} {M0 : Mem} {G120_3 G120_4 G120_5 G120_7 G120_8 G9010_0 : Int} (hI : In Pm0 M0) (k120_3 : rd M0 120 3 = G120_3) (k120_4 : rd M0 120 4 = G120_4) (k120_5 : rd M0 120 5 = G120_5) (k120_7 : rd M0 120 7 = G120_7) (k120_8 : rd M0 120 8 = G120_8) (k9010_0 : tav M0 = G9010_0) (en_120_37 : rd M0 120 37 = 0)   (hq0 : G120_3 = 0 ∨ G120_4 + 1 ≤ G120_5) (hq1 : G120_4 ≤ G120_5) (hq2 : G120_3 ≠ 1 ∨ G120_4 + 2 ≤ G120_5 ∨ G120_7 < 256) : Tr l K 2 mX12_fresh 0 [(0, (2, 120))] [] M0 (fun M' r => St Pm0 ws_X12_fresh_120_w1 as_X12_fresh_120_w1 M0 M' ∧ ∃ S120_3 S120_4 S120_5 S120_7 S120_8 S9010_0 : Int, rd M' 120 3 = S120_3 ∧ (0 ≤ S120_3 ∧ S120_3 ≤ 3) ∧ rd M' 120 4 = S120_4 ∧ (0 ≤ S120_4 ∧ S120_4 ≤ 900) ∧ rd M' 120 5 = S120_5 ∧ (0 ≤ S120_5 ∧ S120_5 ≤ 900) ∧ rd M' 120 7 = S120_7 ∧ ((-9223372036854775808) ≤ S120_7 ∧ S120_7 ≤ 9223372036854775807) ∧ rd M' 120 8 = S120_8 ∧ (0 ≤ S120_8 ∧ S120_8 ≤ 5) ∧ tav M' = S9010_0 ∧ ((-1) ≤ S9010_0 ∧ S9010_0 ≤ 1800) ∧ ∃ v : Int, r = some (1, v) ∧ (-9223372036854775808) ≤ v ∧ v ≤ 9223372036854775807 ∧ Hd (S120_3 = 0 ∨ S120_4 + 1 ≤ S120_5) ∧ (S120_4 ≤ S120_5) ∧ Hd (S120_3 ≠ 1 ∨ S120_4 + 2 ≤ S120_5 ∨ S120_7 < 256) ∧ (G120_4 ≤ S120_4 ∧ G120_5 ≤ S120_5 ∧ G9010_0 ≤ S9010_0) ∧ Hd (G120_8 = 0 ∨ S120_8 = G120_8) ∧ Hd (1 ≤ S120_8 ∨ G9010_0 < S9010_0)) := by
  subst k120_3
  subst k120_4
  subst k120_5
  subst k120_7
  subst k120_8
  subst k9010_0
  refine Tr.imp (sp_X12_fresh_120_w1 hI en_120_37 hq0 hq1 hq2) ?_
  rintro M' _ ⟨hS, v, rfl, lr, ur, z0, z1, z2, z3, z4, z5⟩
  exact ⟨hS, _, _, _, _, _, _, rfl, ir_120_3 hS.1.2.1, rfl, ir_120_4 hS.1.2.1, rfl, ir_120_5 hS.1.2.1, rfl, ir_120_7 hS.1.2.1, rfl, ir_120_8 hS.1.2.1, rfl, (tav_b hS.1.2.1), v, rfl, lr, ur, hd_i z0, z1, hd_i z2, z3, hd_i z4, hd_i z5⟩

def ws_X12_variable_120_w1 : List (Int × Int) := [(120, 3), (120, 4), (120, 5), (120, 6), (120, 7), (120, 8), (120, 9), (128, 0)]
def as_X12_variable_120_w1 : List Int := [135]
def q_X12_variable_120_w1 (M0 M' : Mem) (r : Option PV) : Prop := St Pm0 ws_X12_variable_120_w1 as_X12_variable_120_w1 M0 M' ∧ r = none ∧ (rd M' 120 3 = 0 ∨ rd M' 120 4 + 1 ≤ rd M' 120 5) ∧ (rd M' 120 4 ≤ rd M' 120 5) ∧ (rd M' 120 3 ≠ 1 ∨ rd M' 120 4 + 2 ≤ rd M' 120 5 ∨ rd M' 120 7 < 256) ∧ (rd M0 120 4 ≤ rd M' 120 4 ∧ rd M0 120 5 ≤ rd M' 120 5 ∧ tav M0 ≤ tav M') ∧ (rd M0 120 8 = 0 ∨ rd M' 120 8 = rd M0 120 8) ∧ (1 ≤ rd M' 120 8 ∨ tav M0 < tav M')
theorem kp_X12_variable_120_w1_120_37 {q : Mem → Prop} {M0 M : Mem} (h : St q ws_X12_variable_120_w1 as_X12_variable_120_w1 M0 M) : rd M 120 37 = rd M0 120 37 := St.kp h (by decide) (by decide) (by decide)
theorem kp_X12_counts_120_w1_128_0 {q : Mem → Prop} {M0 M : Mem} (h : St q ws_X12_counts_120_w1 as_X12_counts_120_w1 M0 M) : rd M 128 0 = rd M0 128 0 := St.kp h (by decide) (by decide) (by decide)
theorem kp_X12_fresh_120_w1_128_0 {q : Mem → Prop} {M0 M : Mem} (h : St q ws_X12_fresh_120_w1 as_X12_fresh_120_w1 M0 M) : rd M 128 0 = rd M0 128 0 := St.kp h (by decide) (by decide) (by decide)
set_option maxRecDepth 100000 in
set_option maxHeartbeats 4000000 in
theorem sp_X12_variable_120_w1 {l : Launch} {K : EC} {M0 : Mem} (hI : In Pm0 M0) (en_120_37 : rd M0 120 37 = 0)   (hq0 : rd M0 120 3 = 0 ∨ rd M0 120 4 + 1 ≤ rd M0 120 5) (hq1 : rd M0 120 4 ≤ rd M0 120 5) (hq2 : rd M0 120 3 ≠ 1 ∨ rd M0 120 4 + 2 ≤ rd M0 120 5 ∨ rd M0 120 7 < 256) (hq3 : rd M0 120 3 ≠ 0) (hq4 : rd M0 120 8 = 0) : Tr l K 3 mX12_variable 0 [(0, (2, 120))] [] M0 (q_X12_variable_120_w1 M0) := by
  have hS : St Pm0 ws_X12_variable_120_w1 as_X12_variable_120_w1 M0 M0 := St.rf hI
  obtain ⟨g120_8, eg120_8⟩ : ∃ v, rd M0 120 8 = v := ⟨_, rfl⟩
  have bg120_8 : 0 ≤ g120_8 ∧ g120_8 ≤ 5 := by rw [← eg120_8]; exact ir_120_8 hI.2.1
  obtain ⟨g120_3, eg120_3⟩ : ∃ v, rd M0 120 3 = v := ⟨_, rfl⟩
  have bg120_3 : 0 ≤ g120_3 ∧ g120_3 ≤ 3 := by rw [← eg120_3]; exact ir_120_3 hI.2.1
  obtain ⟨g120_4, eg120_4⟩ : ∃ v, rd M0 120 4 = v := ⟨_, rfl⟩
  have bg120_4 : 0 ≤ g120_4 ∧ g120_4 ≤ 900 := by rw [← eg120_4]; exact ir_120_4 hI.2.1
  obtain ⟨g120_5, eg120_5⟩ : ∃ v, rd M0 120 5 = v := ⟨_, rfl⟩
  have bg120_5 : 0 ≤ g120_5 ∧ g120_5 ≤ 900 := by rw [← eg120_5]; exact ir_120_5 hI.2.1
  obtain ⟨g120_7, eg120_7⟩ : ∃ v, rd M0 120 7 = v := ⟨_, rfl⟩
  have bg120_7 : (-9223372036854775808) ≤ g120_7 ∧ g120_7 ≤ 9223372036854775807 := by rw [← eg120_7]; exact ir_120_7 hI.2.1
  obtain ⟨g9010_0, eg9010_0⟩ : ∃ v, tav M0 = v := ⟨_, rfl⟩
  have bg9010_0 : (-1) ≤ g9010_0 ∧ g9010_0 ≤ 1800 := by rw [← eg9010_0]; exact (tav_b hI.2.1)
  obtain ⟨g128_0, eg128_0⟩ : ∃ v, rd M0 128 0 = v := ⟨_, rfl⟩
  have bg128_0 : 0 ≤ g128_0 ∧ g128_0 ≤ 6 := by rw [← eg128_0]; exact ir_128_0 hI.2.1
  replace hq0 := hd_i hq0
  replace hq2 := hd_i hq2
  replace hq3 := hd_i hq3
  refine Tr.aload_n (pc := 0) (i := 0) d_X12_variable_0 rfl rfl ?_
  refine Tr.aload_n (pc := 1) (i := 0) d_X12_variable_1 rfl rfl ?_
  refine Tr.getf (pc := 2) d_X12_variable_2 f_12_69 (by decide) (by decide) (ty_120 hS.1.1) ?_
  refine Tr.tp 128 (fx_120_19 hS.1.1) ?_
  refine Tr.aload_n (pc := 5) (i := 0) d_X12_variable_5 rfl rfl ?_
  refine Tr.getf (pc := 6) d_X12_variable_6 f_12_124 (by decide) (by decide) (ty_120 hS.1.1) ?_
  refine Tr.tp 0 ((kp_X12_variable_120_w1_120_37 hS).trans en_120_37) ?_
  refine Tr.iald (pc := 9) d_X12_variable_9 (ty_128 hS.1.1) (by omega) (by omega) ?_
  refine Tr.tp g128_0 eg128_0 ?_
  refine Tr.bipush (pc := 10) d_X12_variable_10 rfl (by decide) ?_
  have J20 : ∀ (M : Mem) (q20_1 : Int), St Pm0 ws_X12_variable_120_w1 as_X12_variable_120_w1 M0 M → (0 ≤ q20_1 ∧ q20_1 ≤ 1) → rd M 120 3 = g120_3 → rd M 120 4 = g120_4 → rd M 120 5 = g120_5 → rd M 120 7 = g120_7 → rd M 120 8 = g120_8 → rd M 128 0 = g128_0 → tav M = g9010_0 → ((q20_1 = 1 ∧ g128_0 = 6) ∨ (q20_1 = 0 ∧ g128_0 ≠ 6)) → Tr l K 3 mX12_variable 20 [(0, (2, 120))] [(0, q20_1), (2, 120)] M (q_X12_variable_120_w1 M0) := by
    intro M q20_1 hS bq20_1 k20_120_3 k20_120_4 k20_120_5 k20_120_7 k20_120_8 k20_128_0 k20_9010_0 t20_0
    replace t20_0 := hd_i t20_0
    refine Tr.callV (pc := 20) (as := [_]) d_X12_variable_20 s_12_505 ok_X12_counts rfl rfl (Nat.le_of_ble_eq_true rfl) (Nat.le_of_ble_eq_true rfl) (by decide) (ty_120 hS.1.1) ?_
    refine Tr.imp (Tr.deep (by decide) (ns_X12_counts_120_w1 (G120_3 := g120_3) (G120_4 := g120_4) (G120_5 := g120_5) (G120_7 := g120_7) (G120_8 := g120_8) (G9010_0 := g9010_0) hS.1 (k20_120_3) (k20_120_4) (k20_120_5) (k20_120_7) (k20_120_8) (k20_9010_0) q20_1 (by and_intros <;> omega) (by first | exact (hd_o hq0) | exact (hd_o hq0).elim (fun h1 => by omega) (fun h1 => by omega)) (by omega) (by first | exact (hd_o hq2) | exact (hd_o hq2).elim (fun h1 => by omega) (fun h1 => h1.elim (fun h1 => by omega) (fun h1 => by omega))) (by have h1 := (hd_o hq3); omega))) ?_
    rintro M20 _ ⟨h20, s20_120_3, s20_120_4, s20_120_5, s20_120_7, s20_120_8, s20_9010_0, es20_120_3, bs20_120_3, es20_120_4, bs20_120_4, es20_120_5, bs20_120_5, es20_120_7, bs20_120_7, es20_120_8, bs20_120_8, es20_9010_0, bs20_9010_0, rfl, z20_0, z20_1, z20_2, z20_3, z20_4, z20_5, z20_6⟩
    have hS := St.tr hS h20 (by decide) (by decide)
    refine Tr.sc [] rfl ?_
    refine Tr.aload_n (pc := 23) (i := 0) d_X12_variable_23 rfl rfl ?_
    refine Tr.getf (pc := 24) d_X12_variable_24 f_12_36 (by decide) (by decide) (ty_120 hS.1.1) ?_
    refine Tr.tp s20_120_8 es20_120_8 ?_
    refine Tr.if_le (pc := 27) (tgt := 31) d_X12_variable_27 rfl (fun c27 => ?_) (fun c27 => ?_)
    · refine Tr.aload_n (pc := 31) (i := 0) d_X12_variable_31 rfl rfl ?_
      refine Tr.getf (pc := 32) d_X12_variable_32 f_12_91 (by decide) (by decide) (ty_120 hS.1.1) ?_
      refine Tr.tp 135 (fx_120_26 hS.1.1) ?_
      refine Tr.bipush (pc := 35) d_X12_variable_35 rfl (by decide) ?_
      refine Tr.aload_n (pc := 37) (i := 0) d_X12_variable_37 rfl rfl ?_
      refine Tr.getf (pc := 38) d_X12_variable_38 f_12_124 (by decide) (by decide) (ty_120 hS.1.1) ?_
      refine Tr.tp 0 ((kp_X12_variable_120_w1_120_37 hS).trans en_120_37) ?_
      refine Tr.imul (pc := 41) d_X12_variable_41 ?_
      refine Tr.tp 0 (by decide) ?_
      refine Tr.aload_n (pc := 42) (i := 0) d_X12_variable_42 rfl rfl ?_
      refine Tr.getf (pc := 43) d_X12_variable_43 f_12_69 (by decide) (by decide) (ty_120 hS.1.1) ?_
      refine Tr.tp 128 (fx_120_19 hS.1.1) ?_
      refine Tr.aload_n (pc := 46) (i := 0) d_X12_variable_46 rfl rfl ?_
      refine Tr.getf (pc := 47) d_X12_variable_47 f_12_124 (by decide) (by decide) (ty_120 hS.1.1) ?_
      refine Tr.tp 0 ((kp_X12_variable_120_w1_120_37 hS).trans en_120_37) ?_
      refine Tr.iald (pc := 50) d_X12_variable_50 (ty_128 hS.1.1) (by omega) (by omega) ?_
      refine Tr.tp g128_0 ((kp_X12_counts_120_w1_128_0 h20).trans k20_128_0) ?_
      refine Tr.iadd (pc := 51) d_X12_variable_51 ?_
      refine Tr.tp g128_0 ((w32_id (by and_intros <;> omega)).trans (by omega)) ?_
      refine Tr.aload_n (pc := 52) (i := 0) d_X12_variable_52 rfl rfl ?_
      refine Tr.callV (pc := 53) (as := []) d_X12_variable_53 s_12_508 ok_X12_fresh rfl rfl (Nat.le_of_ble_eq_true rfl) (Nat.le_of_ble_eq_true rfl) (by decide) (ty_120 hS.1.1) ?_
      refine Tr.imp (Tr.deep (by decide) (ns_X12_fresh_120_w1 (G120_3 := s20_120_3) (G120_4 := s20_120_4) (G120_5 := s20_120_5) (G120_7 := s20_120_7) (G120_8 := s20_120_8) (G9010_0 := s20_9010_0) hS.1 (es20_120_3) (es20_120_4) (es20_120_5) (es20_120_7) (es20_120_8) (es20_9010_0) ((kp_X12_variable_120_w1_120_37 hS).trans en_120_37) (by first | exact (hd_o z20_0) | exact (hd_o z20_0).elim (fun h1 => by omega) (fun h1 => by omega)) (by omega) (by first | exact (hd_o z20_2) | exact (hd_o z20_2).elim (fun h1 => by omega) (fun h1 => h1.elim (fun h1 => by omega) (fun h1 => by omega))))) ?_
      rintro M53 _ ⟨h53, s53_120_3, s53_120_4, s53_120_5, s53_120_7, s53_120_8, s53_9010_0, es53_120_3, bs53_120_3, es53_120_4, bs53_120_4, es53_120_5, bs53_120_5, es53_120_7, bs53_120_7, es53_120_8, bs53_120_8, es53_9010_0, bs53_9010_0, r53, rfl, lr53, ur53, z53_0, z53_1, z53_2, z53_3, z53_4, z53_5⟩
      have hS := St.tr hS h53 (by decide) (by decide)
      refine Tr.sc [(1, r53), (0, g128_0), (2, 135)] rfl ?_
      refine Tr.lastS (pc := 56) (P := St Pm0 ws_X12_variable_120_w1 as_X12_variable_120_w1 M0) d_X12_variable_56 (ty_135 hS.1.1) (by omega) (by omega) (sa_135 hS (by decide) (by omega) (Pm0.of hS.1.2.2.2.2 (fun _ => rd_wb _ rfl) (fun _ => rd_wb _ rfl) (fun _ => rd_wb _ rfl) (fun _ => rd_wb _ rfl) (fun _ => rd_wb _ rfl) (fun _ => rd_wb _ rfl) (fun _ => rd_wb _ rfl) (fun _ => rd_wb _ rfl) (fun _ => rd_wb _ rfl) (fun _ => rd_wb _ rfl) (rd_wb _ rfl) (rd_wb _ rfl) (rd_wb _ rfl) (rd_wb _ rfl) (rd_wb _ rfl) (rd_wb _ rfl) (rd_wb _ rfl) (rd_wb _ rfl) (rd_wb _ rfl) (rd_wb _ rfl) (rd_wb _ rfl))) (fun M56 hS w56 => ?_)
      refine Tr.aload_n (pc := 57) (i := 0) d_X12_variable_57 rfl rfl ?_
      refine Tr.getf (pc := 58) d_X12_variable_58 f_12_36 (by decide) (by decide) (ty_120 hS.1.1) ?_
      refine Tr.tp s53_120_8 ((Wr.b w56 rfl).trans es53_120_8) ?_
      refine Tr.if_ne (pc := 61) (tgt := 77) d_X12_variable_61 rfl (fun c61 => ?_) (fun c61 => ?_)
      · have c61b : 1 ≤ s53_120_8 ∧ s53_120_8 ≤ 5 := by omega
        replace c61 := hd_i c61
        have kr_120_3 : rd M56 120 3 = s53_120_3 := ((Wr.b w56 rfl).trans es53_120_3)
        have kr_120_4 : rd M56 120 4 = s53_120_4 := ((Wr.b w56 rfl).trans es53_120_4)
        have kr_120_5 : rd M56 120 5 = s53_120_5 := ((Wr.b w56 rfl).trans es53_120_5)
        have kr_120_7 : rd M56 120 7 = s53_120_7 := ((Wr.b w56 rfl).trans es53_120_7)
        have kr_120_8 : rd M56 120 8 = s53_120_8 := ((Wr.b w56 rfl).trans es53_120_8)
        have kr_9010_0 : tav M56 = s53_9010_0 := ((tav_of ((Wr.b w56 rfl).trans rfl) ((Wr.b w56 rfl).trans rfl)).trans es53_9010_0)
        exact Tr.vret (pc := 77) d_X12_variable_77 rfl ⟨hS, rfl, (by first | exact (hd_o z53_0) | exact (hd_o z53_0).elim (fun h1 => by omega) (fun h1 => by omega)), (by omega), (by first | exact (hd_o z53_2) | exact (hd_o z53_2).elim (fun h1 => by omega) (fun h1 => h1.elim (fun h1 => by omega) (fun h1 => by omega))), (by and_intros <;> omega), (by omega), (by omega)⟩
      · refine Tr.aload_n (pc := 64) (i := 0) d_X12_variable_64 rfl rfl ?_
        refine Tr.getf (pc := 65) d_X12_variable_65 f_12_69 (by decide) (by decide) (ty_120 hS.1.1) ?_
        refine Tr.tp 128 (fx_120_19 hS.1.1) ?_
        refine Tr.aload_n (pc := 68) (i := 0) d_X12_variable_68 rfl rfl ?_
        refine Tr.getf (pc := 69) d_X12_variable_69 f_12_124 (by decide) (by decide) (ty_120 hS.1.1) ?_
        refine Tr.tp 0 ((kp_X12_variable_120_w1_120_37 hS).trans en_120_37) ?_
        refine Tr.dup2 (pc := 72) d_X12_variable_72 ne01 ne21 ?_
        refine Tr.iald (pc := 73) d_X12_variable_73 (ty_128 hS.1.1) (by omega) (by omega) ?_
        refine Tr.tp g128_0 ((Wr.b w56 rfl).trans ((kp_X12_fresh_120_w1_128_0 h53).trans ((kp_X12_counts_120_w1_128_0 h20).trans k20_128_0))) ?_
        refine Tr.iconst (pc := 74) d_X12_variable_74 (by decide) ?_
        refine Tr.iadd (pc := 75) d_X12_variable_75 ?_
        refine Tr.tp (g128_0 + 1) ((w32_id (by and_intros <;> omega)).trans (by omega)) ?_
        refine Tr.iastS (pc := 76) (P := St Pm0 ws_X12_variable_120_w1 as_X12_variable_120_w1 M0) d_X12_variable_76 (ty_128 hS.1.1) (by omega) (by omega) (st_128_0 hS (by decide) (by exact (hd_o t20_0).elim (fun h1 => (hd_o z20_6).elim (fun h2 => by omega) (fun h2 => by omega)) (fun h1 => (ne_o h1.2).elim (fun h2 => by omega) (fun h2 => by omega))) (Pm0.of hS.1.2.2.2.2 (fun _ => rd_wb _ rfl) (fun _ => rd_wb _ rfl) (fun _ => rd_wb _ rfl) (fun _ => rd_wb _ rfl) (fun _ => rd_wb _ rfl) (fun _ => rd_wb _ rfl) (fun _ => rd_wb _ rfl) (fun _ => rd_wb _ rfl) (fun _ => rd_wb _ rfl) (fun _ => rd_wb _ rfl) (rd_wb _ rfl) (rd_wb _ rfl) (rd_wb _ rfl) (rd_wb _ rfl) (rd_wb _ rfl) (rd_wb _ rfl) (rd_wb _ rfl) (rd_wb _ rfl) (rd_wb _ rfl) (rd_wb _ rfl) (rd_wb _ rfl))) (fun M76 hS w76 => ?_)
        have kr_120_3 : rd M76 120 3 = s53_120_3 := ((Wr.b w76 rfl).trans ((Wr.b w56 rfl).trans es53_120_3))
        have kr_120_4 : rd M76 120 4 = s53_120_4 := ((Wr.b w76 rfl).trans ((Wr.b w56 rfl).trans es53_120_4))
        have kr_120_5 : rd M76 120 5 = s53_120_5 := ((Wr.b w76 rfl).trans ((Wr.b w56 rfl).trans es53_120_5))
        have kr_120_7 : rd M76 120 7 = s53_120_7 := ((Wr.b w76 rfl).trans ((Wr.b w56 rfl).trans es53_120_7))
        have kr_120_8 : rd M76 120 8 = s53_120_8 := ((Wr.b w76 rfl).trans ((Wr.b w56 rfl).trans es53_120_8))
        have kr_9010_0 : tav M76 = s53_9010_0 := ((tav_of ((Wr.b w76 rfl).trans ((Wr.b w56 rfl).trans rfl)) ((Wr.b w76 rfl).trans ((Wr.b w56 rfl).trans rfl))).trans es53_9010_0)
        exact Tr.vret (pc := 77) d_X12_variable_77 rfl ⟨hS, rfl, (by first | exact (hd_o z53_0) | exact (hd_o z53_0).elim (fun h1 => by omega) (fun h1 => by omega)), (by omega), (by first | exact (hd_o z53_2) | exact (hd_o z53_2).elim (fun h1 => by omega) (fun h1 => h1.elim (fun h1 => by omega) (fun h1 => by omega))), (by and_intros <;> omega), (by omega), (by exact (hd_o z53_5).elim (fun h1 => by omega) (fun h1 => by omega))⟩
    · have kr_120_3 : rd M20 120 3 = s20_120_3 := es20_120_3
      have kr_120_4 : rd M20 120 4 = s20_120_4 := es20_120_4
      have kr_120_5 : rd M20 120 5 = s20_120_5 := es20_120_5
      have kr_120_7 : rd M20 120 7 = s20_120_7 := es20_120_7
      have kr_120_8 : rd M20 120 8 = s20_120_8 := es20_120_8
      have kr_9010_0 : tav M20 = s20_9010_0 := es20_9010_0
      exact Tr.vret (pc := 30) d_X12_variable_30 rfl ⟨hS, rfl, (by first | exact (hd_o z20_0) | exact (hd_o z20_0).elim (fun h1 => by omega) (fun h1 => by omega)), (by omega), (by first | exact (hd_o z20_2) | exact (hd_o z20_2).elim (fun h1 => by omega) (fun h1 => h1.elim (fun h1 => by omega) (fun h1 => by omega))), (by and_intros <;> omega), (by first | exact (hd_o z20_4) | exact (hd_o z20_4).elim (fun h1 => by omega) (fun h1 => by omega)), (by first | exact (hd_o z20_5) | exact (hd_o z20_5).elim (fun h1 => by omega) (fun h1 => by omega))⟩
  refine Tr.icmp_ne (pc := 12) (tgt := 19) d_X12_variable_12 rfl (fun c12 => ?_) (fun c12 => ?_)
  · have c12b : 0 ≤ g128_0 ∧ g128_0 ≤ 5 := by omega
    replace c12 := hd_i c12
    refine Tr.iconst (pc := 19) d_X12_variable_19 (by decide) ?_
    refine Tr.pick [0] (ls2 := [(0, (2, 120))]) rfl ?_
    exact J20 _ _ hS (by omega) eg120_3 eg120_4 eg120_5 eg120_7 eg120_8 eg128_0 eg9010_0 (by omega)
  · refine Tr.iconst (pc := 15) d_X12_variable_15 (by decide) ?_
    refine Tr.goto (pc := 16) (tgt := 20) d_X12_variable_16 rfl ?_
    refine Tr.pick [0] (ls2 := [(0, (2, 120))]) rfl ?_
    exact J20 _ _ hS (by omega) eg120_3 eg120_4 eg120_5 eg120_7 eg120_8 eg128_0 eg9010_0 (by omega)

set_option maxRecDepth 100000 in
set_option maxHeartbeats 4000000 in
theorem ns_X12_variable_120_w1 {l : Launch} {K : EC} {M0 : Mem} {G120_3 G120_4 G120_5 G120_7 G120_8 G9010_0 : Int} (hI : In Pm0 M0) (k120_3 : rd M0 120 3 = G120_3) (k120_4 : rd M0 120 4 = G120_4) (k120_5 : rd M0 120 5 = G120_5) (k120_7 : rd M0 120 7 = G120_7) (k120_8 : rd M0 120 8 = G120_8) (k9010_0 : tav M0 = G9010_0) (en_120_37 : rd M0 120 37 = 0)   (hq0 : G120_3 = 0 ∨ G120_4 + 1 ≤ G120_5) (hq1 : G120_4 ≤ G120_5) (hq2 : G120_3 ≠ 1 ∨ G120_4 + 2 ≤ G120_5 ∨ G120_7 < 256) (hq3 : G120_3 ≠ 0) (hq4 : G120_8 = 0) : Tr l K 3 mX12_variable 0 [(0, (2, 120))] [] M0 (fun M' r => St Pm0 ws_X12_variable_120_w1 as_X12_variable_120_w1 M0 M' ∧ ∃ S120_3 S120_4 S120_5 S120_7 S120_8 S9010_0 : Int, rd M' 120 3 = S120_3 ∧ (0 ≤ S120_3 ∧ S120_3 ≤ 3) ∧ rd M' 120 4 = S120_4 ∧ (0 ≤ S120_4 ∧ S120_4 ≤ 900) ∧ rd M' 120 5 = S120_5 ∧ (0 ≤ S120_5 ∧ S120_5 ≤ 900) ∧ rd M' 120 7 = S120_7 ∧ ((-9223372036854775808) ≤ S120_7 ∧ S120_7 ≤ 9223372036854775807) ∧ rd M' 120 8 = S120_8 ∧ (0 ≤ S120_8 ∧ S120_8 ≤ 5) ∧ tav M' = S9010_0 ∧ ((-1) ≤ S9010_0 ∧ S9010_0 ≤ 1800) ∧ r = none ∧ Hd (S120_3 = 0 ∨ S120_4 + 1 ≤ S120_5) ∧ (S120_4 ≤ S120_5) ∧ Hd (S120_3 ≠ 1 ∨ S120_4 + 2 ≤ S120_5 ∨ S120_7 < 256) ∧ (G120_4 ≤ S120_4 ∧ G120_5 ≤ S120_5 ∧ G9010_0 ≤ S9010_0) ∧ Hd (G120_8 = 0 ∨ S120_8 = G120_8) ∧ Hd (1 ≤ S120_8 ∨ G9010_0 < S9010_0)) := by
  subst k120_3
  subst k120_4
  subst k120_5
  subst k120_7
  subst k120_8
  subst k9010_0
  refine Tr.imp (sp_X12_variable_120_w1 hI en_120_37 hq0 hq1 hq2 hq3 hq4) ?_
  rintro M' _ ⟨hS, rfl, z0, z1, z2, z3, z4, z5⟩
  exact ⟨hS, _, _, _, _, _, _, rfl, ir_120_3 hS.1.2.1, rfl, ir_120_4 hS.1.2.1, rfl, ir_120_5 hS.1.2.1, rfl, ir_120_7 hS.1.2.1, rfl, ir_120_8 hS.1.2.1, rfl, (tav_b hS.1.2.1), rfl, hd_i z0, z1, hd_i z2, z3, hd_i z4, hd_i z5⟩

def ws_X12_number_120_w1 : List (Int × Int) := [(120, 3), (120, 4), (120, 5), (120, 6), (120, 7), (120, 8), (120, 9)]
def as_X12_number_120_w1 : List Int := []
def q_X12_number_120_w1 (a1 : Int) (a2 : Int) (M0 M' : Mem) (r : Option PV) : Prop := St Pm0 ws_X12_number_120_w1 as_X12_number_120_w1 M0 M' ∧ ∃ v : Int, r = some (0, v) ∧ (-2147483648) ≤ v ∧ v ≤ 2147483647 ∧ (rd M' 120 3 = 0 ∨ rd M' 120 4 + 1 ≤ rd M' 120 5) ∧ (rd M' 120 4 ≤ rd M' 120 5) ∧ (rd M' 120 3 ≠ 1 ∨ rd M' 120 4 + 2 ≤ rd M' 120 5 ∨ rd M' 120 7 < 256) ∧ (rd M0 120 4 ≤ rd M' 120 4 ∧ rd M0 120 5 ≤ rd M' 120 5 ∧ tav M0 ≤ tav M') ∧ (rd M0 120 8 = 0 ∨ rd M' 120 8 = rd M0 120 8) ∧ (1 ≤ rd M' 120 8 ∨ tav M0 < tav M') ∧ (1 ≤ rd M' 120 8 ∨ (a1 ≤ v ∧ v ≤ a2))
theorem kp_X12_blame_120_w1_120_6 {q : Mem → Prop} {M0 M : Mem} (h : St q ws_X12_blame_120_w1 as_X12_blame_120_w1 M0 M) : rd M 120 6 = rd M0 120 6 := St.kp h (by decide) (by decide) (by decide)
set_option maxRecDepth 100000 in
set_option maxHeartbeats 4000000 in
theorem sp_X12_number_120_w1 {l : Launch} {K : EC} {M0 : Mem} (hI : In Pm0 M0)  (a1 : Int) (ha1 : (-2147483648) ≤ a1 ∧ a1 ≤ 2147483647) (a2 : Int) (ha2 : 0 ≤ a2 ∧ a2 ≤ 999)  (hq0 : rd M0 120 3 = 0 ∨ rd M0 120 4 + 1 ≤ rd M0 120 5) (hq1 : rd M0 120 4 ≤ rd M0 120 5) (hq2 : rd M0 120 3 ≠ 1 ∨ rd M0 120 4 + 2 ≤ rd M0 120 5 ∨ rd M0 120 7 < 256) : Tr l K 2 mX12_number 0 [(0, (2, 120)), (1, (0, a1)), (2, (0, a2))] [] M0 (q_X12_number_120_w1 a1 a2 M0) := by
  have hS : St Pm0 ws_X12_number_120_w1 as_X12_number_120_w1 M0 M0 := St.rf hI
  obtain ⟨g120_8, eg120_8⟩ : ∃ v, rd M0 120 8 = v := ⟨_, rfl⟩
  have bg120_8 : 0 ≤ g120_8 ∧ g120_8 ≤ 5 := by rw [← eg120_8]; exact ir_120_8 hI.2.1
  obtain ⟨g120_3, eg120_3⟩ : ∃ v, rd M0 120 3 = v := ⟨_, rfl⟩
  have bg120_3 : 0 ≤ g120_3 ∧ g120_3 ≤ 3 := by rw [← eg120_3]; exact ir_120_3 hI.2.1
  obtain ⟨g120_4, eg120_4⟩ : ∃ v, rd M0 120 4 = v := ⟨_, rfl⟩
  have bg120_4 : 0 ≤ g120_4 ∧ g120_4 ≤ 900 := by rw [← eg120_4]; exact ir_120_4 hI.2.1
  obtain ⟨g120_5, eg120_5⟩ : ∃ v, rd M0 120 5 = v := ⟨_, rfl⟩
  have bg120_5 : 0 ≤ g120_5 ∧ g120_5 ≤ 900 := by rw [← eg120_5]; exact ir_120_5 hI.2.1
  obtain ⟨g120_7, eg120_7⟩ : ∃ v, rd M0 120 7 = v := ⟨_, rfl⟩
  have bg120_7 : (-9223372036854775808) ≤ g120_7 ∧ g120_7 ≤ 9223372036854775807 := by rw [← eg120_7]; exact ir_120_7 hI.2.1
  obtain ⟨g9010_0, eg9010_0⟩ : ∃ v, tav M0 = v := ⟨_, rfl⟩
  have bg9010_0 : (-1) ≤ g9010_0 ∧ g9010_0 ≤ 1800 := by rw [← eg9010_0]; exact (tav_b hI.2.1)
  obtain ⟨g120_6, eg120_6⟩ : ∃ v, rd M0 120 6 = v := ⟨_, rfl⟩
  have bg120_6 : (-2147483648) ≤ g120_6 ∧ g120_6 ≤ 2147483647 := by rw [← eg120_6]; exact ir_120_6 hI.2.1
  replace hq0 := hd_i hq0
  replace hq2 := hd_i hq2
  refine Tr.aload_n (pc := 0) (i := 0) d_X12_number_0 rfl rfl ?_
  refine Tr.getf (pc := 1) d_X12_number_1 f_12_36 (by decide) (by decide) (ty_120 hS.1.1) ?_
  refine Tr.tp g120_8 eg120_8 ?_
  refine Tr.if_le (pc := 4) (tgt := 9) d_X12_number_4 rfl (fun c4 => ?_) (fun c4 => ?_)
  · refine Tr.aload_n (pc := 9) (i := 0) d_X12_number_9 rfl rfl ?_
    refine Tr.getf (pc := 10) d_X12_number_10 f_12_20 (by decide) (by decide) (ty_120 hS.1.1) ?_
    refine Tr.tp g120_3 eg120_3 ?_
    refine Tr.iconst (pc := 13) d_X12_number_13 (by decide) ?_
    have J26 : ∀ (M : Mem) (u26_120_8 : Int), St Pm0 ws_X12_number_120_w1 as_X12_number_120_w1 M0 M → (0 ≤ u26_120_8 ∧ u26_120_8 ≤ 5) → rd M 120 3 = g120_3 → rd M 120 4 = g120_4 → rd M 120 5 = g120_5 → rd M 120 6 = g120_6 → rd M 120 7 = g120_7 → rd M 120 8 = u26_120_8 → tav M = g9010_0 → (u26_120_8 ≠ 0 ∨ g120_3 ≠ 0) → (g120_8 = 0) → Tr l K 2 mX12_number 26 [(0, (2, 120)), (1, (0, a1)), (2, (0, a2))] [] M (q_X12_number_120_w1 a1 a2 M0) := by
      intro M u26_120_8 hS bu26_120_8 k26_120_3 k26_120_4 k26_120_5 k26_120_6 k26_120_7 k26_120_8 k26_9010_0 t26_0 t26_1
      replace t26_0 := hd_i t26_0
      refine Tr.aload_n (pc := 26) (i := 0) d_X12_number_26 rfl rfl ?_
      refine Tr.getf (pc := 27) d_X12_number_27 f_12_36 (by decide) (by decide) (ty_120 hS.1.1) ?_
      refine Tr.tp u26_120_8 k26_120_8 ?_
      have J54 : ∀ (M : Mem) (u54_120_8 : Int), St Pm0 ws_X12_number_120_w1 as_X12_number_120_w1 M0 M → (0 ≤ u54_120_8 ∧ u54_120_8 ≤ 5) → rd M 120 3 = g120_3 → rd M 120 4 = g120_4 → rd M 120 5 = g120_5 → rd M 120 6 = g120_6 → rd M 120 7 = g120_7 → rd M 120 8 = u54_120_8 → tav M = g9010_0 → (u54_120_8 ≠ 0 ∨ g120_3 ≠ 0) → (g120_8 = 0) → (u54_120_8 ≠ 0 ∨ (a1 ≤ g120_6 ∧ g120_6 ≤ a2)) → Tr l K 2 mX12_number 54 [(0, (2, 120))] [] M (q_X12_number_120_w1 a1 a2 M0) := by
        intro M u54_120_8 hS bu54_120_8 k54_120_3 k54_120_4 k54_120_5 k54_120_6 k54_120_7 k54_120_8 k54_9010_0 t54_0 t54_1 t54_2
        clear k26_120_3 k26_120_4 k26_120_5 k26_120_6 k26_120_7 k26_120_8 k26_9010_0
        replace t54_0 := hd_i t54_0
        replace t54_2 := hd_i t54_2
        refine Tr.aload_n (pc := 54) (i := 0) d_X12_number_54 rfl rfl ?_
        refine Tr.getf (pc := 55) d_X12_number_55 f_12_29 (by decide) (by decide) (ty_120 hS.1.1) ?_
        refine Tr.tp g120_6 k54_120_6 ?_
        refine Tr.istore_n (pc := 58) (i := 3) (ls2 := [(3, (0, g120_6)), (0, (2, 120))]) d_X12_number_58 rfl (by decide) rfl ?_
        refine Tr.aload_n (pc := 59) (i := 0) d_X12_number_59 rfl rfl ?_
        refine Tr.getf (pc := 60) d_X12_number_60 f_12_36 (by decide) (by decide) (ty_120 hS.1.1) ?_
        refine Tr.tp u54_120_8 k54_120_8 ?_
        refine Tr.if_ne (pc := 63) (tgt := 70) d_X12_number_63 rfl (fun c63 => ?_) (fun c63 => ?_)
        · have c63b : 1 ≤ u54_120_8 ∧ u54_120_8 ≤ 5 := by omega
          replace c63 := hd_i c63
          refine Tr.iload_n (pc := 70) (i := 3) d_X12_number_70 rfl rfl ?_
          have kr_120_3 : rd M 120 3 = g120_3 := k54_120_3
          have kr_120_4 : rd M 120 4 = g120_4 := k54_120_4
          have kr_120_5 : rd M 120 5 = g120_5 := k54_120_5
          have kr_120_7 : rd M 120 7 = g120_7 := k54_120_7
          have kr_120_8 : rd M 120 8 = u54_120_8 := k54_120_8
          have kr_9010_0 : tav M = g9010_0 := k54_9010_0
          exact Tr.iret (pc := 71) d_X12_number_71 rfl ⟨hS, _, rfl, (by omega), (by omega), (by first | exact (hd_o hq0) | exact (hd_o hq0).elim (fun h1 => by omega) (fun h1 => by omega)), (by omega), (by first | exact (hd_o hq2) | exact (hd_o hq2).elim (fun h1 => by omega) (fun h1 => h1.elim (fun h1 => by omega) (fun h1 => by omega))), (by and_intros <;> omega), (by omega), (by omega), (by omega)⟩
        · refine Tr.aload_n (pc := 66) (i := 0) d_X12_number_66 rfl rfl ?_
          refine Tr.callV (pc := 67) (as := []) d_X12_number_67 s_12_396 ok_X12_next rfl rfl (Nat.le_of_ble_eq_true rfl) (Nat.le_of_ble_eq_true rfl) (by decide) (ty_120 hS.1.1) ?_
          refine Tr.imp (Tr.deep (by decide) (ns_X12_next_120_w1 (G120_3 := g120_3) (G120_5 := g120_5) (G120_8 := u54_120_8) (G9010_0 := g9010_0) hS.1 (k54_120_3) (k54_120_5) (k54_120_8) (k54_9010_0))) ?_
          rintro M67 _ ⟨h67, s67_120_3, s67_120_4, s67_120_5, s67_120_7, s67_120_8, s67_9010_0, es67_120_3, bs67_120_3, es67_120_4, bs67_120_4, es67_120_5, bs67_120_5, es67_120_7, bs67_120_7, es67_120_8, bs67_120_8, es67_9010_0, bs67_9010_0, rfl, z67_0, z67_1, z67_2, z67_3, z67_4, z67_5, z67_6⟩
          have hS := St.tr hS h67 (by decide) (by decide)
          refine Tr.sc [] rfl ?_
          refine Tr.iload_n (pc := 70) (i := 3) d_X12_number_70 rfl rfl ?_
          have kr_120_3 : rd M67 120 3 = s67_120_3 := es67_120_3
          have kr_120_4 : rd M67 120 4 = s67_120_4 := es67_120_4
          have kr_120_5 : rd M67 120 5 = s67_120_5 := es67_120_5
          have kr_120_7 : rd M67 120 7 = s67_120_7 := es67_120_7
          have kr_120_8 : rd M67 120 8 = s67_120_8 := es67_120_8
          have kr_9010_0 : tav M67 = s67_9010_0 := es67_9010_0
          exact Tr.iret (pc := 71) d_X12_number_71 rfl ⟨hS, _, rfl, (by omega), (by omega), (by first | exact (hd_o z67_0) | exact (hd_o z67_0).elim (fun h1 => by omega) (fun h1 => by omega)), (by omega), (by first | exact (hd_o z67_2) | exact (hd_o z67_2).elim (fun h1 => by omega) (fun h1 => h1.elim (fun h1 => by omega) (fun h1 => by omega))), (by and_intros <;> omega), (by omega), (by exact (hd_o t54_0).elim (fun h1 => (ne_o h1).elim (fun h2 => by omega) (fun h2 => by omega)) (fun h1 => (ne_o h1).elim (fun h2 => by omega) (fun h2 => (hd_o z67_5).elim (fun h3 => by omega) (fun h3 => by omega)))), (by exact (hd_o t54_2).elim (fun h1 => (ne_o h1).elim (fun h2 => by omega) (fun h2 => by omega)) (fun h1 => by omega))⟩
      refine Tr.if_ne (pc := 30) (tgt := 54) d_X12_number_30 rfl (fun c30 => ?_) (fun c30 => ?_)
      · have c30b : 1 ≤ u26_120_8 ∧ u26_120_8 ≤ 5 := by omega
        replace c30 := hd_i c30
        refine Tr.pick [0] (ls2 := [(0, (2, 120))]) rfl ?_
        exact J54 _ _ hS (by and_intros <;> omega) k26_120_3 k26_120_4 k26_120_5 k26_120_6 k26_120_7 k26_120_8 k26_9010_0 (by first | exact (hd_o t26_0) | exact (hd_o t26_0).elim (fun h1 => by omega) (fun h1 => by omega)) (by omega) (by omega)
      · refine Tr.aload_n (pc := 33) (i := 0) d_X12_number_33 rfl rfl ?_
        refine Tr.getf (pc := 34) d_X12_number_34 f_12_29 (by decide) (by decide) (ty_120 hS.1.1) ?_
        refine Tr.tp g120_6 k26_120_6 ?_
        refine Tr.iload_n (pc := 37) (i := 1) d_X12_number_37 rfl rfl ?_
        refine Tr.iload_n (pc := 38) (i := 2) d_X12_number_38 rfl rfl ?_
        refine Tr.callS (pc := 39) (as := [_, _, _]) d_X12_number_39 s_12_467 ok_X12_is rfl rfl (Nat.le_of_ble_eq_true rfl) (Nat.le_of_ble_eq_true rfl) ?_
        refine Tr.imp (Tr.deep (by decide) (sp_X12_is hS.1.wk g120_6 (by and_intros <;> omega) a1 (by and_intros <;> omega) a2 (by and_intros <;> omega))) ?_
        rintro M39 _ ⟨h39, r39, rfl, lr39, ur39, wr39⟩
        have h39 := St.rn h39 (Pm0.of hS.1.2.2.2.2 (fun _ => (ka_X12_is_131 h39 _)) (fun _ => (ka_X12_is_137 h39 _)) (fun _ => (ka_X12_is_138 h39 _)) (fun _ => (ka_X12_is_139 h39 _)) (fun _ => (ka_X12_is_140 h39 _)) (fun _ => (ka_X12_is_141 h39 _)) (fun _ => (ka_X12_is_142 h39 _)) (fun _ => (ka_X12_is_143 h39 _)) (fun _ => (ka_X12_is_151 h39 _)) (fun _ => (ka_X12_is_152 h39 _)) (kp_X12_is_126_0 h39) (kp_X12_is_126_1 h39) (kp_X12_is_136_0 h39) (kp_X12_is_136_1 h39) (kp_X12_is_123_0 h39) (kp_X12_is_123_1 h39) (kp_X12_is_124_0 h39) (kp_X12_is_124_1 h39) (kp_X12_is_120_8 h39) (kp_X12_is_120_36 h39) (kp_X12_is_120_50 h39))
        have hS := St.tr hS h39 (by decide) (by decide)
        replace wr39 := hd_i wr39
        refine Tr.sc [(0, r39)] rfl ?_
        refine Tr.if_ne (pc := 42) (tgt := 54) d_X12_number_42 rfl (fun c42 => ?_) (fun c42 => ?_)
        · have c42b : 1 ≤ r39 ∧ r39 ≤ 1 := by omega
          replace c42 := hd_i c42
          refine Tr.pick [0] (ls2 := [(0, (2, 120))]) rfl ?_
          exact J54 _ _ hS (by and_intros <;> omega) ((kp_X12_is_120_3 h39).trans k26_120_3) ((kp_X12_is_120_4 h39).trans k26_120_4) ((kp_X12_is_120_5 h39).trans k26_120_5) ((kp_X12_is_120_6 h39).trans k26_120_6) ((kp_X12_is_120_7 h39).trans k26_120_7) ((kp_X12_is_120_8 h39).trans k26_120_8) ((tav_of ((kp_X12_is_120_5 h39).trans rfl) ((kp_X12_is_120_3 h39).trans rfl)).trans k26_9010_0) (by first | exact (hd_o t26_0) | exact (hd_o t26_0).elim (fun h1 => by omega) (fun h1 => by omega)) (by omega) (by exact (hd_o wr39).elim (fun h1 => by omega) (fun h1 => by omega))
        · refine Tr.aload_n (pc := 45) (i := 0) d_X12_number_45 rfl rfl ?_
          refine Tr.iconst (pc := 46) d_X12_number_46 (by decide) ?_
          refine Tr.aload_n (pc := 47) (i := 0) d_X12_number_47 rfl rfl ?_
          refine Tr.getf (pc := 48) d_X12_number_48 f_12_23 (by decide) (by decide) (ty_120 hS.1.1) ?_
          refine Tr.tp g120_4 ((kp_X12_is_120_4 h39).trans k26_120_4) ?_
          refine Tr.callV (pc := 51) (as := [_, _]) d_X12_number_51 s_12_389 ok_X12_blame rfl rfl (Nat.le_of_ble_eq_true rfl) (Nat.le_of_ble_eq_true rfl) (by decide) (ty_120 hS.1.1) ?_
          refine Tr.imp (Tr.deep (by decide) (ns_X12_blame_120_w1 (G120_8 := u26_120_8) hS.1 (((kp_X12_is_120_8 h39).trans k26_120_8)) 4 (by omega) g120_4 (by and_intros <;> omega))) ?_
          rintro M51 _ ⟨h51, s51_120_8, es51_120_8, bs51_120_8, rfl, z51_0⟩
          have hS := St.tr hS h51 (by decide) (by decide)
          refine Tr.sc [] rfl ?_
          refine Tr.pick [0] (ls2 := [(0, (2, 120))]) rfl ?_
          exact J54 _ _ hS (by and_intros <;> omega) ((kp_X12_blame_120_w1_120_3 h51).trans ((kp_X12_is_120_3 h39).trans k26_120_3)) ((kp_X12_blame_120_w1_120_4 h51).trans ((kp_X12_is_120_4 h39).trans k26_120_4)) ((kp_X12_blame_120_w1_120_5 h51).trans ((kp_X12_is_120_5 h39).trans k26_120_5)) ((kp_X12_blame_120_w1_120_6 h51).trans ((kp_X12_is_120_6 h39).trans k26_120_6)) ((kp_X12_blame_120_w1_120_7 h51).trans ((kp_X12_is_120_7 h39).trans k26_120_7)) es51_120_8 ((tav_of ((kp_X12_blame_120_w1_120_5 h51).trans ((kp_X12_is_120_5 h39).trans rfl)) ((kp_X12_blame_120_w1_120_3 h51).trans ((kp_X12_is_120_3 h39).trans rfl))).trans k26_9010_0) (by exact (hd_o z51_0).elim (fun h1 => by omega) (fun h1 => by omega)) (by omega) (by exact (hd_o z51_0).elim (fun h1 => by omega) (fun h1 => by omega))
    refine Tr.icmp_eq (pc := 14) (tgt := 26) d_X12_number_14 rfl (fun c14 => ?_) (fun c14 => ?_)
    · refine Tr.pick [0, 1, 2] (ls2 := [(0, (2, 120)), (1, (0, a1)), (2, (0, a2))]) rfl ?_
      exact J26 _ _ hS (by and_intros <;> omega) eg120_3 eg120_4 eg120_5 eg120_6 eg120_7 eg120_8 eg9010_0 (by omega) (by omega)
    · replace c14 := hd_i c14
      refine Tr.aload_n (pc := 17) (i := 0) d_X12_number_17 rfl rfl ?_
      refine Tr.iconst (pc := 18) d_X12_number_18 (by decide) ?_
      refine Tr.aload_n (pc := 19) (i := 0) d_X12_number_19 rfl rfl ?_
      refine Tr.getf (pc := 20) d_X12_number_20 f_12_23 (by decide) (by decide) (ty_120 hS.1.1) ?_
      refine Tr.tp g120_4 eg120_4 ?_
      refine Tr.callV (pc := 23) (as := [_, _]) d_X12_number_23 s_12_389 ok_X12_blame rfl rfl (Nat.le_of_ble_eq_true rfl) (Nat.le_of_ble_eq_true rfl) (by decide) (ty_120 hS.1.1) ?_
      refine Tr.imp (Tr.deep (by decide) (ns_X12_blame_120_w1 (G120_8 := g120_8) hS.1 (eg120_8) 1 (by omega) g120_4 (by and_intros <;> omega))) ?_
      rintro M23 _ ⟨h23, s23_120_8, es23_120_8, bs23_120_8, rfl, z23_0⟩
      have hS := St.tr hS h23 (by decide) (by decide)
      refine Tr.sc [] rfl ?_
      refine Tr.pick [0, 1, 2] (ls2 := [(0, (2, 120)), (1, (0, a1)), (2, (0, a2))]) rfl ?_
      exact J26 _ _ hS (by and_intros <;> omega) ((kp_X12_blame_120_w1_120_3 h23).trans eg120_3) ((kp_X12_blame_120_w1_120_4 h23).trans eg120_4) ((kp_X12_blame_120_w1_120_5 h23).trans eg120_5) ((kp_X12_blame_120_w1_120_6 h23).trans eg120_6) ((kp_X12_blame_120_w1_120_7 h23).trans eg120_7) es23_120_8 ((tav_of ((kp_X12_blame_120_w1_120_5 h23).trans rfl) ((kp_X12_blame_120_w1_120_3 h23).trans rfl)).trans eg9010_0) (by exact (hd_o z23_0).elim (fun h1 => by omega) (fun h1 => by omega)) (by omega)
  · refine Tr.iconst (pc := 7) d_X12_number_7 (by decide) ?_
    have kr_120_3 : rd M0 120 3 = g120_3 := eg120_3
    have kr_120_4 : rd M0 120 4 = g120_4 := eg120_4
    have kr_120_5 : rd M0 120 5 = g120_5 := eg120_5
    have kr_120_7 : rd M0 120 7 = g120_7 := eg120_7
    have kr_120_8 : rd M0 120 8 = g120_8 := eg120_8
    have kr_9010_0 : tav M0 = g9010_0 := eg9010_0
    exact Tr.iret (pc := 8) d_X12_number_8 rfl ⟨hS, _, rfl, by omega, by omega, (by first | exact (hd_o hq0) | exact (hd_o hq0).elim (fun h1 => by omega) (fun h1 => by omega)), (by omega), (by first | exact (hd_o hq2) | exact (hd_o hq2).elim (fun h1 => by omega) (fun h1 => h1.elim (fun h1 => by omega) (fun h1 => by omega))), (by and_intros <;> omega), (by omega), (by omega), (by omega)⟩

set_option maxRecDepth 100000 in
set_option maxHeartbeats 4000000 in
theorem ns_X12_number_120_w1 {l : Launch} {K : EC} {M0 : Mem} {G120_3 G120_4 G120_5 G120_7 G120_8 G9010_0 : Int} (hI : In Pm0 M0) (k120_3 : rd M0 120 3 = G120_3) (k120_4 : rd M0 120 4 = G120_4) (k120_5 : rd M0 120 5 = G120_5) (k120_7 : rd M0 120 7 = G120_7) (k120_8 : rd M0 120 8 = G120_8) (k9010_0 : tav M0 = G9010_0)  (a1 : Int) (ha1 : (-2147483648) ≤ a1 ∧ a1 ≤ 2147483647) (a2 : Int) (ha2 : 0 ≤ a2 ∧ a2 ≤ 999)  (hq0 : G120_3 = 0 ∨ G120_4 + 1 ≤ G120_5) (hq1 : G120_4 ≤ G120_5) (hq2 : G120_3 ≠ 1 ∨ G120_4 + 2 ≤ G120_5 ∨ G120_7 < 256) : Tr l K 2 mX12_number 0 [(0, (2, 120)), (1, (0, a1)), (2, (0, a2))] [] M0 (fun M' r => St Pm0 ws_X12_number_120_w1 as_X12_number_120_w1 M0 M' ∧ ∃ S120_3 S120_4 S120_5 S120_7 S120_8 S9010_0 : Int, rd M' 120 3 = S120_3 ∧ (0 ≤ S120_3 ∧ S120_3 ≤ 3) ∧ rd M' 120 4 = S120_4 ∧ (0 ≤ S120_4 ∧ S120_4 ≤ 900) ∧ rd M' 120 5 = S120_5 ∧ (0 ≤ S120_5 ∧ S120_5 ≤ 900) ∧ rd M' 120 7 = S120_7 ∧ ((-9223372036854775808) ≤ S120_7 ∧ S120_7 ≤ 9223372036854775807) ∧ rd M' 120 8 = S120_8 ∧ (0 ≤ S120_8 ∧ S120_8 ≤ 5) ∧ tav M' = S9010_0 ∧ ((-1) ≤ S9010_0 ∧ S9010_0 ≤ 1800) ∧ ∃ v : Int, r = some (0, v) ∧ (-2147483648) ≤ v ∧ v ≤ 2147483647 ∧ Hd (S120_3 = 0 ∨ S120_4 + 1 ≤ S120_5) ∧ (S120_4 ≤ S120_5) ∧ Hd (S120_3 ≠ 1 ∨ S120_4 + 2 ≤ S120_5 ∨ S120_7 < 256) ∧ (G120_4 ≤ S120_4 ∧ G120_5 ≤ S120_5 ∧ G9010_0 ≤ S9010_0) ∧ Hd (G120_8 = 0 ∨ S120_8 = G120_8) ∧ Hd (1 ≤ S120_8 ∨ G9010_0 < S9010_0) ∧ Hd (1 ≤ S120_8 ∨ (a1 ≤ v ∧ v ≤ a2))) := by
  subst k120_3
  subst k120_4
  subst k120_5
  subst k120_7
  subst k120_8
  subst k9010_0
  refine Tr.imp (sp_X12_number_120_w1 hI a1 ha1 a2 ha2 hq0 hq1 hq2) ?_
  rintro M' _ ⟨hS, v, rfl, lr, ur, z0, z1, z2, z3, z4, z5, z6⟩
  exact ⟨hS, _, _, _, _, _, _, rfl, ir_120_3 hS.1.2.1, rfl, ir_120_4 hS.1.2.1, rfl, ir_120_5 hS.1.2.1, rfl, ir_120_7 hS.1.2.1, rfl, ir_120_8 hS.1.2.1, rfl, (tav_b hS.1.2.1), v, rfl, lr, ur, hd_i z0, z1, hd_i z2, z3, hd_i z4, hd_i z5, hd_i z6⟩

def ws_X12_input_120_w1 : List (Int × Int) := [(120, 3), (120, 4), (120, 5), (120, 6), (120, 7), (120, 8), (120, 9), (127, 0)]
def as_X12_input_120_w1 : List Int := [132, 133, 134]
def q_X12_input_120_w1 (M0 M' : Mem) (r : Option PV) : Prop := St Pm0 ws_X12_input_120_w1 as_X12_input_120_w1 M0 M' ∧ r = none ∧ (rd M' 120 3 = 0 ∨ rd M' 120 4 + 1 ≤ rd M' 120 5) ∧ (rd M' 120 4 ≤ rd M' 120 5) ∧ (rd M' 120 3 ≠ 1 ∨ rd M' 120 4 + 2 ≤ rd M' 120 5 ∨ rd M' 120 7 < 256) ∧ (rd M0 120 4 ≤ rd M' 120 4 ∧ rd M0 120 5 ≤ rd M' 120 5 ∧ tav M0 ≤ tav M') ∧ (rd M0 120 8 = 0 ∨ rd M' 120 8 = rd M0 120 8) ∧ (1 ≤ rd M' 120 8 ∨ tav M0 < tav M')
theorem kp_X12_input_120_w1_120_37 {q : Mem → Prop} {M0 M : Mem} (h : St q ws_X12_input_120_w1 as_X12_input_120_w1 M0 M) : rd M 120 37 = rd M0 120 37 := St.kp h (by decide) (by decide) (by decide)
theorem kp_X12_counts_120_w1_127_0 {q : Mem → Prop} {M0 M : Mem} (h : St q ws_X12_counts_120_w1 as_X12_counts_120_w1 M0 M) : rd M 127 0 = rd M0 127 0 := St.kp h (by decide) (by decide) (by decide)
theorem kp_X12_fresh_120_w1_127_0 {q : Mem → Prop} {M0 M : Mem} (h : St q ws_X12_fresh_120_w1 as_X12_fresh_120_w1 M0 M) : rd M 127 0 = rd M0 127 0 := St.kp h (by decide) (by decide) (by decide)
theorem kp_X12_number_120_w1_127_0 {q : Mem → Prop} {M0 M : Mem} (h : St q ws_X12_number_120_w1 as_X12_number_120_w1 M0 M) : rd M 127 0 = rd M0 127 0 := St.kp h (by decide) (by decide) (by decide)
set_option maxRecDepth 100000 in
set_option maxHeartbeats 4000000 in
theorem sp_X12_input_120_w1 {l : Launch} {K : EC} {M0 : Mem} (hI : In Pm0 M0) (en_120_37 : rd M0 120 37 = 0)   (hq0 : rd M0 120 3 = 0 ∨ rd M0 120 4 + 1 ≤ rd M0 120 5) (hq1 : rd M0 120 4 ≤ rd M0 120 5) (hq2 : rd M0 120 3 ≠ 1 ∨ rd M0 120 4 + 2 ≤ rd M0 120 5 ∨ rd M0 120 7 < 256) (hq3 : rd M0 120 3 ≠ 0) (hq4 : rd M0 120 8 = 0) : Tr l K 3 mX12_input 0 [(0, (2, 120))] [] M0 (q_X12_input_120_w1 M0) := by
  have hS : St Pm0 ws_X12_input_120_w1 as_X12_input_120_w1 M0 M0 := St.rf hI
  obtain ⟨g120_8, eg120_8⟩ : ∃ v, rd M0 120 8 = v := ⟨_, rfl⟩
  have bg120_8 : 0 ≤ g120_8 ∧ g120_8 ≤ 5 := by rw [← eg120_8]; exact ir_120_8 hI.2.1
  obtain ⟨g120_3, eg120_3⟩ : ∃ v, rd M0 120 3 = v := ⟨_, rfl⟩
  have bg120_3 : 0 ≤ g120_3 ∧ g120_3 ≤ 3 := by rw [← eg120_3]; exact ir_120_3 hI.2.1
  obtain ⟨g120_4, eg120_4⟩ : ∃ v, rd M0 120 4 = v := ⟨_, rfl⟩
  have bg120_4 : 0 ≤ g120_4 ∧ g120_4 ≤ 900 := by rw [← eg120_4]; exact ir_120_4 hI.2.1
  obtain ⟨g120_5, eg120_5⟩ : ∃ v, rd M0 120 5 = v := ⟨_, rfl⟩
  have bg120_5 : 0 ≤ g120_5 ∧ g120_5 ≤ 900 := by rw [← eg120_5]; exact ir_120_5 hI.2.1
  obtain ⟨g120_7, eg120_7⟩ : ∃ v, rd M0 120 7 = v := ⟨_, rfl⟩
  have bg120_7 : (-9223372036854775808) ≤ g120_7 ∧ g120_7 ≤ 9223372036854775807 := by rw [← eg120_7]; exact ir_120_7 hI.2.1
  obtain ⟨g9010_0, eg9010_0⟩ : ∃ v, tav M0 = v := ⟨_, rfl⟩
  have bg9010_0 : (-1) ≤ g9010_0 ∧ g9010_0 ≤ 1800 := by rw [← eg9010_0]; exact (tav_b hI.2.1)
  obtain ⟨g127_0, eg127_0⟩ : ∃ v, rd M0 127 0 = v := ⟨_, rfl⟩
  have bg127_0 : 0 ≤ g127_0 ∧ g127_0 ≤ 3 := by rw [← eg127_0]; exact ir_127_0 hI.2.1
  replace hq0 := hd_i hq0
  replace hq2 := hd_i hq2
  replace hq3 := hd_i hq3
  refine Tr.aload_n (pc := 0) (i := 0) d_X12_input_0 rfl rfl ?_
  refine Tr.aload_n (pc := 1) (i := 0) d_X12_input_1 rfl rfl ?_
  refine Tr.getf (pc := 2) d_X12_input_2 f_12_66 (by decide) (by decide) (ty_120 hS.1.1) ?_
  refine Tr.tp 127 (fx_120_18 hS.1.1) ?_
  refine Tr.aload_n (pc := 5) (i := 0) d_X12_input_5 rfl rfl ?_
  refine Tr.getf (pc := 6) d_X12_input_6 f_12_124 (by decide) (by decide) (ty_120 hS.1.1) ?_
  refine Tr.tp 0 ((kp_X12_input_120_w1_120_37 hS).trans en_120_37) ?_
  refine Tr.iald (pc := 9) d_X12_input_9 (ty_127 hS.1.1) (by omega) (by omega) ?_
  refine Tr.tp g127_0 eg127_0 ?_
  refine Tr.iconst (pc := 10) d_X12_input_10 (by decide) ?_
  have J19 : ∀ (M : Mem) (q19_1 : Int), St Pm0 ws_X12_input_120_w1 as_X12_input_120_w1 M0 M → (0 ≤ q19_1 ∧ q19_1 ≤ 1) → rd M 120 3 = g120_3 → rd M 120 4 = g120_4 → rd M 120 5 = g120_5 → rd M 120 7 = g120_7 → rd M 120 8 = g120_8 → rd M 127 0 = g127_0 → tav M = g9010_0 → ((q19_1 = 1 ∧ g127_0 = 3) ∨ (q19_1 = 0 ∧ g127_0 ≠ 3)) → Tr l K 3 mX12_input 19 [(0, (2, 120))] [(0, q19_1), (2, 120)] M (q_X12_input_120_w1 M0) := by
    intro M q19_1 hS bq19_1 k19_120_3 k19_120_4 k19_120_5 k19_120_7 k19_120_8 k19_127_0 k19_9010_0 t19_0
    replace t19_0 := hd_i t19_0
    refine Tr.callV (pc := 19) (as := [_]) d_X12_input_19 s_12_505 ok_X12_counts rfl rfl (Nat.le_of_ble_eq_true rfl) (Nat.le_of_ble_eq_true rfl) (by decide) (ty_120 hS.1.1) ?_
    refine Tr.imp (Tr.deep (by decide) (ns_X12_counts_120_w1 (G120_3 := g120_3) (G120_4 := g120_4) (G120_5 := g120_5) (G120_7 := g120_7) (G120_8 := g120_8) (G9010_0 := g9010_0) hS.1 (k19_120_3) (k19_120_4) (k19_120_5) (k19_120_7) (k19_120_8) (k19_9010_0) q19_1 (by and_intros <;> omega) (by first | exact (hd_o hq0) | exact (hd_o hq0).elim (fun h1 => by omega) (fun h1 => by omega)) (by omega) (by first | exact (hd_o hq2) | exact (hd_o hq2).elim (fun h1 => by omega) (fun h1 => h1.elim (fun h1 => by omega) (fun h1 => by omega))) (by have h1 := (hd_o hq3); omega))) ?_
    rintro M19 _ ⟨h19, s19_120_3, s19_120_4, s19_120_5, s19_120_7, s19_120_8, s19_9010_0, es19_120_3, bs19_120_3, es19_120_4, bs19_120_4, es19_120_5, bs19_120_5, es19_120_7, bs19_120_7, es19_120_8, bs19_120_8, es19_9010_0, bs19_9010_0, rfl, z19_0, z19_1, z19_2, z19_3, z19_4, z19_5, z19_6⟩
    have hS := St.tr hS h19 (by decide) (by decide)
    refine Tr.sc [] rfl ?_
    refine Tr.aload_n (pc := 22) (i := 0) d_X12_input_22 rfl rfl ?_
    refine Tr.getf (pc := 23) d_X12_input_23 f_12_36 (by decide) (by decide) (ty_120 hS.1.1) ?_
    refine Tr.tp s19_120_8 es19_120_8 ?_
    refine Tr.if_le (pc := 26) (tgt := 30) d_X12_input_26 rfl (fun c26 => ?_) (fun c26 => ?_)
    · refine Tr.iconst (pc := 30) d_X12_input_30 (by decide) ?_
      refine Tr.aload_n (pc := 31) (i := 0) d_X12_input_31 rfl rfl ?_
      refine Tr.getf (pc := 32) d_X12_input_32 f_12_124 (by decide) (by decide) (ty_120 hS.1.1) ?_
      refine Tr.tp 0 ((kp_X12_input_120_w1_120_37 hS).trans en_120_37) ?_
      refine Tr.imul (pc := 35) d_X12_input_35 ?_
      refine Tr.tp 0 (by decide) ?_
      refine Tr.aload_n (pc := 36) (i := 0) d_X12_input_36 rfl rfl ?_
      refine Tr.getf (pc := 37) d_X12_input_37 f_12_66 (by decide) (by decide) (ty_120 hS.1.1) ?_
      refine Tr.tp 127 (fx_120_18 hS.1.1) ?_
      refine Tr.aload_n (pc := 40) (i := 0) d_X12_input_40 rfl rfl ?_
      refine Tr.getf (pc := 41) d_X12_input_41 f_12_124 (by decide) (by decide) (ty_120 hS.1.1) ?_
      refine Tr.tp 0 ((kp_X12_input_120_w1_120_37 hS).trans en_120_37) ?_
      refine Tr.iald (pc := 44) d_X12_input_44 (ty_127 hS.1.1) (by omega) (by omega) ?_
      refine Tr.tp g127_0 ((kp_X12_counts_120_w1_127_0 h19).trans k19_127_0) ?_
      refine Tr.iadd (pc := 45) d_X12_input_45 ?_
      refine Tr.tp g127_0 ((w32_id (by and_intros <;> omega)).trans (by omega)) ?_
      refine Tr.istore_n (pc := 46) (i := 1) (ls2 := [(1, (0, g127_0)), (0, (2, 120))]) d_X12_input_46 rfl (by decide) rfl ?_
      refine Tr.aload_n (pc := 47) (i := 0) d_X12_input_47 rfl rfl ?_
      refine Tr.getf (pc := 48) d_X12_input_48 f_12_82 (by decide) (by decide) (ty_120 hS.1.1) ?_
      refine Tr.tp 132 (fx_120_23 hS.1.1) ?_
      refine Tr.iload_n (pc := 51) (i := 1) d_X12_input_51 rfl rfl ?_
      refine Tr.aload_n (pc := 52) (i := 0) d_X12_input_52 rfl rfl ?_
      refine Tr.callV (pc := 53) (as := []) d_X12_input_53 s_12_508 ok_X12_fresh rfl rfl (Nat.le_of_ble_eq_true rfl) (Nat.le_of_ble_eq_true rfl) (by decide) (ty_120 hS.1.1) ?_
      refine Tr.imp (Tr.deep (by decide) (ns_X12_fresh_120_w1 (G120_3 := s19_120_3) (G120_4 := s19_120_4) (G120_5 := s19_120_5) (G120_7 := s19_120_7) (G120_8 := s19_120_8) (G9010_0 := s19_9010_0) hS.1 (es19_120_3) (es19_120_4) (es19_120_5) (es19_120_7) (es19_120_8) (es19_9010_0) ((kp_X12_input_120_w1_120_37 hS).trans en_120_37) (by first | exact (hd_o z19_0) | exact (hd_o z19_0).elim (fun h1 => by omega) (fun h1 => by omega)) (by omega) (by first | exact (hd_o z19_2) | exact (hd_o z19_2).elim (fun h1 => by omega) (fun h1 => h1.elim (fun h1 => by omega) (fun h1 => by omega))))) ?_
      rintro M53 _ ⟨h53, s53_120_3, s53_120_4, s53_120_5, s53_120_7, s53_120_8, s53_9010_0, es53_120_3, bs53_120_3, es53_120_4, bs53_120_4, es53_120_5, bs53_120_5, es53_120_7, bs53_120_7, es53_120_8, bs53_120_8, es53_9010_0, bs53_9010_0, r53, rfl, lr53, ur53, z53_0, z53_1, z53_2, z53_3, z53_4, z53_5⟩
      have hS := St.tr hS h53 (by decide) (by decide)
      refine Tr.sc [(1, r53), (0, g127_0), (2, 132)] rfl ?_
      refine Tr.lastS (pc := 56) (P := St Pm0 ws_X12_input_120_w1 as_X12_input_120_w1 M0) d_X12_input_56 (ty_132 hS.1.1) (by omega) (by omega) (sa_132 hS (by decide) (by omega) (Pm0.of hS.1.2.2.2.2 (fun _ => rd_wb _ rfl) (fun _ => rd_wb _ rfl) (fun _ => rd_wb _ rfl) (fun _ => rd_wb _ rfl) (fun _ => rd_wb _ rfl) (fun _ => rd_wb _ rfl) (fun _ => rd_wb _ rfl) (fun _ => rd_wb _ rfl) (fun _ => rd_wb _ rfl) (fun _ => rd_wb _ rfl) (rd_wb _ rfl) (rd_wb _ rfl) (rd_wb _ rfl) (rd_wb _ rfl) (rd_wb _ rfl) (rd_wb _ rfl) (rd_wb _ rfl) (rd_wb _ rfl) (rd_wb _ rfl) (rd_wb _ rfl) (rd_wb _ rfl))) (fun M56 hS w56 => ?_)
      refine Tr.aload_n (pc := 57) (i := 0) d_X12_input_57 rfl rfl ?_
      refine Tr.getf (pc := 58) d_X12_input_58 f_12_85 (by decide) (by decide) (ty_120 hS.1.1) ?_
      refine Tr.tp 133 (fx_120_24 hS.1.1) ?_
      refine Tr.iload_n (pc := 61) (i := 1) d_X12_input_61 rfl rfl ?_
      refine Tr.aload_n (pc := 62) (i := 0) d_X12_input_62 rfl rfl ?_
      refine Tr.iconst (pc := 63) d_X12_input_63 (by decide) ?_
      refine Tr.bipush (pc := 64) d_X12_input_64 rfl (by decide) ?_
      refine Tr.callV (pc := 66) (as := [_, _]) d_X12_input_66 s_12_516 ok_X12_number rfl rfl (Nat.le_of_ble_eq_true rfl) (Nat.le_of_ble_eq_true rfl) (by decide) (ty_120 hS.1.1) ?_
      refine Tr.imp (Tr.deep (by decide) (ns_X12_number_120_w1 (G120_3 := s53_120_3) (G120_4 := s53_120_4) (G120_5 := s53_120_5) (G120_7 := s53_120_7) (G120_8 := s53_120_8) (G9010_0 := s53_9010_0) hS.1 (((Wr.b w56 rfl).trans es53_120_3)) (((Wr.b w56 rfl).trans es53_120_4)) (((Wr.b w56 rfl).trans es53_120_5)) (((Wr.b w56 rfl).trans es53_120_7)) (((Wr.b w56 rfl).trans es53_120_8)) (((tav_of ((Wr.b w56 rfl).trans rfl) ((Wr.b w56 rfl).trans rfl)).trans es53_9010_0)) 0 (by omega) 99 (by omega) (by first | exact (hd_o z53_0) | exact (hd_o z53_0).elim (fun h1 => by omega) (fun h1 => by omega)) (by omega) (by first | exact (hd_o z53_2) | exact (hd_o z53_2).elim (fun h1 => by omega) (fun h1 => h1.elim (fun h1 => by omega) (fun h1 => by omega))))) ?_
      rintro M66 _ ⟨h66, s66_120_3, s66_120_4, s66_120_5, s66_120_7, s66_120_8, s66_9010_0, es66_120_3, bs66_120_3, es66_120_4, bs66_120_4, es66_120_5, bs66_120_5, es66_120_7, bs66_120_7, es66_120_8, bs66_120_8, es66_9010_0, bs66_9010_0, r66, rfl, lr66, ur66, z66_0, z66_1, z66_2, z66_3, z66_4, z66_5, z66_6⟩
      have hS := St.tr hS h66 (by decide) (by decide)
      refine Tr.sc [(0, r66), (0, g127_0), (2, 133)] rfl ?_
      refine Tr.iastS (pc := 69) (P := St Pm0 ws_X12_input_120_w1 as_X12_input_120_w1 M0) d_X12_input_69 (ty_133 hS.1.1) (by omega) (by omega) (sa_133 hS (by decide) (by and_intros <;> omega) (Pm0.of hS.1.2.2.2.2 (fun _ => rd_wb _ rfl) (fun _ => rd_wb _ rfl) (fun _ => rd_wb _ rfl) (fun _ => rd_wb _ rfl) (fun _ => rd_wb _ rfl) (fun _ => rd_wb _ rfl) (fun _ => rd_wb _ rfl) (fun _ => rd_wb _ rfl) (fun _ => rd_wb _ rfl) (fun _ => rd_wb _ rfl) (rd_wb _ rfl) (rd_wb _ rfl) (rd_wb _ rfl) (rd_wb _ rfl) (rd_wb _ rfl) (rd_wb _ rfl) (rd_wb _ rfl) (rd_wb _ rfl) (rd_wb _ rfl) (rd_wb _ rfl) (rd_wb _ rfl))) (fun M69 hS w69 => ?_)
      refine Tr.aload_n (pc := 70) (i := 0) d_X12_input_70 rfl rfl ?_
      refine Tr.getf (pc := 71) d_X12_input_71 f_12_88 (by decide) (by decide) (ty_120 hS.1.1) ?_
      refine Tr.tp 134 (fx_120_25 hS.1.1) ?_
      refine Tr.iload_n (pc := 74) (i := 1) d_X12_input_74 rfl rfl ?_
      refine Tr.aload_n (pc := 75) (i := 0) d_X12_input_75 rfl rfl ?_
      refine Tr.aload_n (pc := 76) (i := 0) d_X12_input_76 rfl rfl ?_
      refine Tr.getf (pc := 77) d_X12_input_77 f_12_85 (by decide) (by decide) (ty_120 hS.1.1) ?_
      refine Tr.tp 133 (fx_120_24 hS.1.1) ?_
      refine Tr.iload_n (pc := 80) (i := 1) d_X12_input_80 rfl rfl ?_
      refine Tr.iald (pc := 81) d_X12_input_81 (ty_133 hS.1.1) (by omega) (by omega) ?_
      refine Tr.tp r66 w69.1 ?_
      refine Tr.bipush (pc := 82) d_X12_input_82 rfl (by decide) ?_
      refine Tr.callV (pc := 84) (as := [_, _]) d_X12_input_84 s_12_516 ok_X12_number rfl rfl (Nat.le_of_ble_eq_true rfl) (Nat.le_of_ble_eq_true rfl) (by decide) (ty_120 hS.1.1) ?_
      refine Tr.imp (Tr.deep (by decide) (ns_X12_number_120_w1 (G120_3 := s66_120_3) (G120_4 := s66_120_4) (G120_5 := s66_120_5) (G120_7 := s66_120_7) (G120_8 := s66_120_8) (G9010_0 := s66_9010_0) hS.1 (((Wr.b w69 rfl).trans es66_120_3)) (((Wr.b w69 rfl).trans es66_120_4)) (((Wr.b w69 rfl).trans es66_120_5)) (((Wr.b w69 rfl).trans es66_120_7)) (((Wr.b w69 rfl).trans es66_120_8)) (((tav_of ((Wr.b w69 rfl).trans rfl) ((Wr.b w69 rfl).trans rfl)).trans es66_9010_0)) r66 (by and_intros <;> omega) 99 (by omega) (by first | exact (hd_o z66_0) | exact (hd_o z66_0).elim (fun h1 => by omega) (fun h1 => by omega)) (by omega) (by first | exact (hd_o z66_2) | exact (hd_o z66_2).elim (fun h1 => by omega) (fun h1 => h1.elim (fun h1 => by omega) (fun h1 => by omega))))) ?_
      rintro M84 _ ⟨h84, s84_120_3, s84_120_4, s84_120_5, s84_120_7, s84_120_8, s84_9010_0, es84_120_3, bs84_120_3, es84_120_4, bs84_120_4, es84_120_5, bs84_120_5, es84_120_7, bs84_120_7, es84_120_8, bs84_120_8, es84_9010_0, bs84_9010_0, r84, rfl, lr84, ur84, z84_0, z84_1, z84_2, z84_3, z84_4, z84_5, z84_6⟩
      have hS := St.tr hS h84 (by decide) (by decide)
      refine Tr.sc [(0, r84), (0, g127_0), (2, 134)] rfl ?_
      refine Tr.iastS (pc := 87) (P := St Pm0 ws_X12_input_120_w1 as_X12_input_120_w1 M0) d_X12_input_87 (ty_134 hS.1.1) (by omega) (by omega) (sa_134 hS (by decide) (by and_intros <;> omega) (Pm0.of hS.1.2.2.2.2 (fun _ => rd_wb _ rfl) (fun _ => rd_wb _ rfl) (fun _ => rd_wb _ rfl) (fun _ => rd_wb _ rfl) (fun _ => rd_wb _ rfl) (fun _ => rd_wb _ rfl) (fun _ => rd_wb _ rfl) (fun _ => rd_wb _ rfl) (fun _ => rd_wb _ rfl) (fun _ => rd_wb _ rfl) (rd_wb _ rfl) (rd_wb _ rfl) (rd_wb _ rfl) (rd_wb _ rfl) (rd_wb _ rfl) (rd_wb _ rfl) (rd_wb _ rfl) (rd_wb _ rfl) (rd_wb _ rfl) (rd_wb _ rfl) (rd_wb _ rfl))) (fun M87 hS w87 => ?_)
      refine Tr.aload_n (pc := 88) (i := 0) d_X12_input_88 rfl rfl ?_
      refine Tr.getf (pc := 89) d_X12_input_89 f_12_36 (by decide) (by decide) (ty_120 hS.1.1) ?_
      refine Tr.tp s84_120_8 ((Wr.b w87 rfl).trans es84_120_8) ?_
      refine Tr.if_ne (pc := 92) (tgt := 108) d_X12_input_92 rfl (fun c92 => ?_) (fun c92 => ?_)
      · have c92b : 1 ≤ s84_120_8 ∧ s84_120_8 ≤ 5 := by omega
        replace c92 := hd_i c92
        have kr_120_3 : rd M87 120 3 = s84_120_3 := ((Wr.b w87 rfl).trans es84_120_3)
        have kr_120_4 : rd M87 120 4 = s84_120_4 := ((Wr.b w87 rfl).trans es84_120_4)
        have kr_120_5 : rd M87 120 5 = s84_120_5 := ((Wr.b w87 rfl).trans es84_120_5)
        have kr_120_7 : rd M87 120 7 = s84_120_7 := ((Wr.b w87 rfl).trans es84_120_7)
        have kr_120_8 : rd M87 120 8 = s84_120_8 := ((Wr.b w87 rfl).trans es84_120_8)
        have kr_9010_0 : tav M87 = s84_9010_0 := ((tav_of ((Wr.b w87 rfl).trans rfl) ((Wr.b w87 rfl).trans rfl)).trans es84_9010_0)
        exact Tr.vret (pc := 108) d_X12_input_108 rfl ⟨hS, rfl, (by first | exact (hd_o z84_0) | exact (hd_o z84_0).elim (fun h1 => by omega) (fun h1 => by omega)), (by omega), (by first | exact (hd_o z84_2) | exact (hd_o z84_2).elim (fun h1 => by omega) (fun h1 => h1.elim (fun h1 => by omega) (fun h1 => by omega))), (by and_intros <;> omega), (by omega), (by omega)⟩
      · refine Tr.aload_n (pc := 95) (i := 0) d_X12_input_95 rfl rfl ?_
        refine Tr.getf (pc := 96) d_X12_input_96 f_12_66 (by decide) (by decide) (ty_120 hS.1.1) ?_
        refine Tr.tp 127 (fx_120_18 hS.1.1) ?_
        refine Tr.aload_n (pc := 99) (i := 0) d_X12_input_99 rfl rfl ?_
        refine Tr.getf (pc := 100) d_X12_input_100 f_12_124 (by decide) (by decide) (ty_120 hS.1.1) ?_
        refine Tr.tp 0 ((kp_X12_input_120_w1_120_37 hS).trans en_120_37) ?_
        refine Tr.dup2 (pc := 103) d_X12_input_103 ne01 ne21 ?_
        refine Tr.iald (pc := 104) d_X12_input_104 (ty_127 hS.1.1) (by omega) (by omega) ?_
        refine Tr.tp g127_0 ((Wr.b w87 rfl).trans ((kp_X12_number_120_w1_127_0 h84).trans ((Wr.b w69 rfl).trans ((kp_X12_number_120_w1_127_0 h66).trans ((Wr.b w56 rfl).trans ((kp_X12_fresh_120_w1_127_0 h53).trans ((kp_X12_counts_120_w1_127_0 h19).trans k19_127_0))))))) ?_
        refine Tr.iconst (pc := 105) d_X12_input_105 (by decide) ?_
        refine Tr.iadd (pc := 106) d_X12_input_106 ?_
        refine Tr.tp (g127_0 + 1) ((w32_id (by and_intros <;> omega)).trans (by omega)) ?_
        refine Tr.iastS (pc := 107) (P := St Pm0 ws_X12_input_120_w1 as_X12_input_120_w1 M0) d_X12_input_107 (ty_127 hS.1.1) (by omega) (by omega) (st_127_0 hS (by decide) (by exact (hd_o t19_0).elim (fun h1 => (hd_o z19_6).elim (fun h2 => by omega) (fun h2 => by omega)) (fun h1 => (ne_o h1.2).elim (fun h2 => by omega) (fun h2 => by omega))) (Pm0.of hS.1.2.2.2.2 (fun _ => rd_wb _ rfl) (fun _ => rd_wb _ rfl) (fun _ => rd_wb _ rfl) (fun _ => rd_wb _ rfl) (fun _ => rd_wb _ rfl) (fun _ => rd_wb _ rfl) (fun _ => rd_wb _ rfl) (fun _ => rd_wb _ rfl) (fun _ => rd_wb _ rfl) (fun _ => rd_wb _ rfl) (rd_wb _ rfl) (rd_wb _ rfl) (rd_wb _ rfl) (rd_wb _ rfl) (rd_wb _ rfl) (rd_wb _ rfl) (rd_wb _ rfl) (rd_wb _ rfl) (rd_wb _ rfl) (rd_wb _ rfl) (rd_wb _ rfl))) (fun M107 hS w107 => ?_)
        have kr_120_3 : rd M107 120 3 = s84_120_3 := ((Wr.b w107 rfl).trans ((Wr.b w87 rfl).trans es84_120_3))
        have kr_120_4 : rd M107 120 4 = s84_120_4 := ((Wr.b w107 rfl).trans ((Wr.b w87 rfl).trans es84_120_4))
        have kr_120_5 : rd M107 120 5 = s84_120_5 := ((Wr.b w107 rfl).trans ((Wr.b w87 rfl).trans es84_120_5))
        have kr_120_7 : rd M107 120 7 = s84_120_7 := ((Wr.b w107 rfl).trans ((Wr.b w87 rfl).trans es84_120_7))
        have kr_120_8 : rd M107 120 8 = s84_120_8 := ((Wr.b w107 rfl).trans ((Wr.b w87 rfl).trans es84_120_8))
        have kr_9010_0 : tav M107 = s84_9010_0 := ((tav_of ((Wr.b w107 rfl).trans ((Wr.b w87 rfl).trans rfl)) ((Wr.b w107 rfl).trans ((Wr.b w87 rfl).trans rfl))).trans es84_9010_0)
        exact Tr.vret (pc := 108) d_X12_input_108 rfl ⟨hS, rfl, (by first | exact (hd_o z84_0) | exact (hd_o z84_0).elim (fun h1 => by omega) (fun h1 => by omega)), (by omega), (by first | exact (hd_o z84_2) | exact (hd_o z84_2).elim (fun h1 => by omega) (fun h1 => h1.elim (fun h1 => by omega) (fun h1 => by omega))), (by and_intros <;> omega), (by omega), (by exact (hd_o z84_5).elim (fun h1 => by omega) (fun h1 => by omega))⟩
    · have kr_120_3 : rd M19 120 3 = s19_120_3 := es19_120_3
      have kr_120_4 : rd M19 120 4 = s19_120_4 := es19_120_4
      have kr_120_5 : rd M19 120 5 = s19_120_5 := es19_120_5
      have kr_120_7 : rd M19 120 7 = s19_120_7 := es19_120_7
      have kr_120_8 : rd M19 120 8 = s19_120_8 := es19_120_8
      have kr_9010_0 : tav M19 = s19_9010_0 := es19_9010_0
      exact Tr.vret (pc := 29) d_X12_input_29 rfl ⟨hS, rfl, (by first | exact (hd_o z19_0) | exact (hd_o z19_0).elim (fun h1 => by omega) (fun h1 => by omega)), (by omega), (by first | exact (hd_o z19_2) | exact (hd_o z19_2).elim (fun h1 => by omega) (fun h1 => h1.elim (fun h1 => by omega) (fun h1 => by omega))), (by and_intros <;> omega), (by first | exact (hd_o z19_4) | exact (hd_o z19_4).elim (fun h1 => by omega) (fun h1 => by omega)), (by first | exact (hd_o z19_5) | exact (hd_o z19_5).elim (fun h1 => by omega) (fun h1 => by omega))⟩
  refine Tr.icmp_ne (pc := 11) (tgt := 18) d_X12_input_11 rfl (fun c11 => ?_) (fun c11 => ?_)
  · have c11b : 0 ≤ g127_0 ∧ g127_0 ≤ 2 := by omega
    replace c11 := hd_i c11
    refine Tr.iconst (pc := 18) d_X12_input_18 (by decide) ?_
    refine Tr.pick [0] (ls2 := [(0, (2, 120))]) rfl ?_
    exact J19 _ _ hS (by omega) eg120_3 eg120_4 eg120_5 eg120_7 eg120_8 eg127_0 eg9010_0 (by omega)
  · refine Tr.iconst (pc := 14) d_X12_input_14 (by decide) ?_
    refine Tr.goto (pc := 15) (tgt := 19) d_X12_input_15 rfl ?_
    refine Tr.pick [0] (ls2 := [(0, (2, 120))]) rfl ?_
    exact J19 _ _ hS (by omega) eg120_3 eg120_4 eg120_5 eg120_7 eg120_8 eg127_0 eg9010_0 (by omega)
end
/-! 40.09 -/
section
set_option maxRecDepth 100000 in
set_option maxHeartbeats 4000000 in
theorem ns_X12_input_120_w1 {l : Launch} {K : EC} {M0 : Mem} {G120_3 G120_4 G120_5 G120_7 G120_8 G9010_0 : Int} (hI : In Pm0 M0) (k120_3 : rd M0 120 3 = G120_3) (k120_4 : rd M0 120 4 = G120_4) (k120_5 : rd M0 120 5 = G120_5) (k120_7 : rd M0 120 7 = G120_7) (k120_8 : rd M0 120 8 = G120_8) (k9010_0 : tav M0 = G9010_0) (en_120_37 : rd M0 120 37 = 0)   (hq0 : G120_3 = 0 ∨ G120_4 + 1 ≤ G120_5) (hq1 : G120_4 ≤ G120_5) (hq2 : G120_3 ≠ 1 ∨ G120_4 + 2 ≤ G120_5 ∨ G120_7 < 256) (hq3 : G120_3 ≠ 0) (hq4 : G120_8 = 0) : Tr l K 3 mX12_input 0 [(0, (2, 120))] [] M0 (fun M' r => St Pm0 ws_X12_input_120_w1 as_X12_input_120_w1 M0 M' ∧ ∃ S120_3 S120_4 S120_5 S120_7 S120_8 S9010_0 : Int, rd M' 120 3 = S120_3 ∧ (0 ≤ S120_3 ∧ S120_3 ≤ 3) ∧ rd M' 120 4 = S120_4 ∧ (0 ≤ S120_4 ∧ S120_4 ≤ 900) ∧ rd M' 120 5 = S120_5 ∧ (0 ≤ S120_5 ∧ S120_5 ≤ 900) ∧ rd M' 120 7 = S120_7 ∧ ((-9223372036854775808) ≤ S120_7 ∧ S120_7 ≤ 9223372036854775807) ∧ rd M' 120 8 = S120_8 ∧ (0 ≤ S120_8 ∧ S120_8 ≤ 5) ∧ tav M' = S9010_0 ∧ ((-1) ≤ S9010_0 ∧ S9010_0 ≤ 1800) ∧ r = none ∧ Hd (S120_3 = 0 ∨ S120_4 + 1 ≤ S120_5) ∧ (S120_4 ≤ S120_5) ∧ Hd (S120_3 ≠ 1 ∨ S120_4 + 2 ≤ S120_5 ∨ S120_7 < 256) ∧ (G120_4 ≤ S120_4 ∧ G120_5 ≤ S120_5 ∧ G9010_0 ≤ S9010_0) ∧ Hd (G120_8 = 0 ∨ S120_8 = G120_8) ∧ Hd (1 ≤ S120_8 ∨ G9010_0 < S9010_0)) := by
  subst k120_3
  subst k120_4
  subst k120_5
  subst k120_7
  subst k120_8
  subst k9010_0
  refine Tr.imp (sp_X12_input_120_w1 hI en_120_37 hq0 hq1 hq2 hq3 hq4) ?_
  rintro M' _ ⟨hS, rfl, z0, z1, z2, z3, z4, z5⟩
  exact ⟨hS, _, _, _, _, _, _, rfl, ir_120_3 hS.1.2.1, rfl, ir_120_4 hS.1.2.1, rfl, ir_120_5 hS.1.2.1, rfl, ir_120_7 hS.1.2.1, rfl, ir_120_8 hS.1.2.1, rfl, (tav_b hS.1.2.1), rfl, hd_i z0, z1, hd_i z2, z3, hd_i z4, hd_i z5⟩

def ws_X12_must__120_w3 : List (Int × Int) := [(120, 3), (120, 4), (120, 5), (120, 6), (120, 7), (120, 8), (120, 9)]
def as_X12_must__120_w3 : List Int := []
def q_X12_must__120_w3 (a1 : Int) (M0 M' : Mem) (r : Option PV) : Prop := St Pm0 ws_X12_must__120_w3 as_X12_must__120_w3 M0 M' ∧ r = none ∧ (rd M' 120 3 = 0 ∨ rd M' 120 4 + 1 ≤ rd M' 120 5) ∧ (rd M' 120 4 ≤ rd M' 120 5) ∧ (rd M' 120 3 ≠ 1 ∨ rd M' 120 4 + 2 ≤ rd M' 120 5 ∨ rd M' 120 7 < 256) ∧ (rd M0 120 4 ≤ rd M' 120 4 ∧ rd M0 120 5 ≤ rd M' 120 5 ∧ tav M0 ≤ tav M') ∧ (rd M0 120 8 = 0 ∨ rd M' 120 8 = rd M0 120 8) ∧ (1 ≤ rd M' 120 8 ∨ tav M0 < tav M')
set_option maxRecDepth 100000 in
set_option maxHeartbeats 4000000 in
theorem sp_X12_must__120_w3 {l : Launch} {K : EC} {M0 : Mem} (hI : In Pm0 M0)  (a1 : Int) (ha1 : 2147483647 ≤ a1 ∧ a1 ≤ 9223372036854775807)  (hq0 : rd M0 120 3 = 0 ∨ rd M0 120 4 + 1 ≤ rd M0 120 5) (hq1 : rd M0 120 4 ≤ rd M0 120 5) (hq2 : rd M0 120 3 ≠ 1 ∨ rd M0 120 4 + 2 ≤ rd M0 120 5 ∨ rd M0 120 7 < 256) : Tr l K 2 mX12_must_ 0 [(0, (2, 120)), (1, (1, a1))] [] M0 (q_X12_must__120_w3 a1 M0) := by
  have hS : St Pm0 ws_X12_must__120_w3 as_X12_must__120_w3 M0 M0 := St.rf hI
  obtain ⟨g120_8, eg120_8⟩ : ∃ v, rd M0 120 8 = v := ⟨_, rfl⟩
  have bg120_8 : 0 ≤ g120_8 ∧ g120_8 ≤ 5 := by rw [← eg120_8]; exact ir_120_8 hI.2.1
  obtain ⟨g120_3, eg120_3⟩ : ∃ v, rd M0 120 3 = v := ⟨_, rfl⟩
  have bg120_3 : 0 ≤ g120_3 ∧ g120_3 ≤ 3 := by rw [← eg120_3]; exact ir_120_3 hI.2.1
  obtain ⟨g120_4, eg120_4⟩ : ∃ v, rd M0 120 4 = v := ⟨_, rfl⟩
  have bg120_4 : 0 ≤ g120_4 ∧ g120_4 ≤ 900 := by rw [← eg120_4]; exact ir_120_4 hI.2.1
  obtain ⟨g120_5, eg120_5⟩ : ∃ v, rd M0 120 5 = v := ⟨_, rfl⟩
  have bg120_5 : 0 ≤ g120_5 ∧ g120_5 ≤ 900 := by rw [← eg120_5]; exact ir_120_5 hI.2.1
  obtain ⟨g120_7, eg120_7⟩ : ∃ v, rd M0 120 7 = v := ⟨_, rfl⟩
  have bg120_7 : (-9223372036854775808) ≤ g120_7 ∧ g120_7 ≤ 9223372036854775807 := by rw [← eg120_7]; exact ir_120_7 hI.2.1
  obtain ⟨g9010_0, eg9010_0⟩ : ∃ v, tav M0 = v := ⟨_, rfl⟩
  have bg9010_0 : (-1) ≤ g9010_0 ∧ g9010_0 ≤ 1800 := by rw [← eg9010_0]; exact (tav_b hI.2.1)
  replace hq0 := hd_i hq0
  replace hq2 := hd_i hq2
  refine Tr.aload_n (pc := 0) (i := 0) d_X12_must__0 rfl rfl ?_
  refine Tr.getf (pc := 1) d_X12_must__1 f_12_36 (by decide) (by decide) (ty_120 hS.1.1) ?_
  refine Tr.tp g120_8 eg120_8 ?_
  refine Tr.if_le (pc := 4) (tgt := 8) d_X12_must__4 rfl (fun c4 => ?_) (fun c4 => ?_)
  · refine Tr.aload_n (pc := 8) (i := 0) d_X12_must__8 rfl rfl ?_
    refine Tr.lload_n (pc := 9) (i := 1) d_X12_must__9 rfl rfl ?_
    refine Tr.callV (pc := 10) (as := [_]) d_X12_must__10 s_12_484 ok_X12_isWord rfl rfl (Nat.le_of_ble_eq_true rfl) (Nat.le_of_ble_eq_true rfl) (by decide) (ty_120 hS.1.1) ?_
    refine Tr.imp (Tr.deep (by decide) (ns_X12_isWord_120 (G120_3 := g120_3) (G120_7 := g120_7) hS.1.wk (eg120_3) (eg120_7) a1 (by omega))) ?_
    rintro M10 _ ⟨h10, r10, rfl, lr10, ur10, z10_0⟩
    have h10 := St.rn h10 (Pm0.of hS.1.2.2.2.2 (fun _ => (ka_X12_isWord_120_131 h10 _)) (fun _ => (ka_X12_isWord_120_137 h10 _)) (fun _ => (ka_X12_isWord_120_138 h10 _)) (fun _ => (ka_X12_isWord_120_139 h10 _)) (fun _ => (ka_X12_isWord_120_140 h10 _)) (fun _ => (ka_X12_isWord_120_141 h10 _)) (fun _ => (ka_X12_isWord_120_142 h10 _)) (fun _ => (ka_X12_isWord_120_143 h10 _)) (fun _ => (ka_X12_isWord_120_151 h10 _)) (fun _ => (ka_X12_isWord_120_152 h10 _)) (kp_X12_isWord_120_126_0 h10) (kp_X12_isWord_120_126_1 h10) (kp_X12_isWord_120_136_0 h10) (kp_X12_isWord_120_136_1 h10) (kp_X12_isWord_120_123_0 h10) (kp_X12_isWord_120_123_1 h10) (kp_X12_isWord_120_124_0 h10) (kp_X12_isWord_120_124_1 h10) (kp_X12_isWord_120_120_8 h10) (kp_X12_isWord_120_120_36 h10) (kp_X12_isWord_120_120_50 h10))
    have hS := St.tr hS h10 (by decide) (by decide)
    refine Tr.sc [(0, r10)] rfl ?_
    have J25 : ∀ (M : Mem) (u25_120_8 : Int), St Pm0 ws_X12_must__120_w3 as_X12_must__120_w3 M0 M → (0 ≤ u25_120_8 ∧ u25_120_8 ≤ 5) → rd M 120 3 = g120_3 → rd M 120 4 = g120_4 → rd M 120 5 = g120_5 → rd M 120 7 = g120_7 → rd M 120 8 = u25_120_8 → tav M = g9010_0 → (u25_120_8 ≠ 0 ∨ g120_3 ≠ 0) → (g120_8 = 0 ∨ u25_120_8 = g120_8) → Tr l K 2 mX12_must_ 25 [(0, (2, 120))] [] M (q_X12_must__120_w3 a1 M0) := by
      intro M u25_120_8 hS bu25_120_8 k25_120_3 k25_120_4 k25_120_5 k25_120_7 k25_120_8 k25_9010_0 t25_0 t25_1
      replace t25_0 := hd_i t25_0
      replace t25_1 := hd_i t25_1
      refine Tr.aload_n (pc := 25) (i := 0) d_X12_must__25 rfl rfl ?_
      refine Tr.getf (pc := 26) d_X12_must__26 f_12_36 (by decide) (by decide) (ty_120 hS.1.1) ?_
      refine Tr.tp u25_120_8 k25_120_8 ?_
      refine Tr.if_ne (pc := 29) (tgt := 36) d_X12_must__29 rfl (fun c29 => ?_) (fun c29 => ?_)
      · have c29b : 1 ≤ u25_120_8 ∧ u25_120_8 ≤ 5 := by omega
        replace c29 := hd_i c29
        have kr_120_3 : rd M 120 3 = g120_3 := k25_120_3
        have kr_120_4 : rd M 120 4 = g120_4 := k25_120_4
        have kr_120_5 : rd M 120 5 = g120_5 := k25_120_5
        have kr_120_7 : rd M 120 7 = g120_7 := k25_120_7
        have kr_120_8 : rd M 120 8 = u25_120_8 := k25_120_8
        have kr_9010_0 : tav M = g9010_0 := k25_9010_0
        exact Tr.vret (pc := 36) d_X12_must__36 rfl ⟨hS, rfl, (by first | exact (hd_o hq0) | exact (hd_o hq0).elim (fun h1 => by omega) (fun h1 => by omega)), (by omega), (by first | exact (hd_o hq2) | exact (hd_o hq2).elim (fun h1 => by omega) (fun h1 => h1.elim (fun h1 => by omega) (fun h1 => by omega))), (by and_intros <;> omega), (by first | exact (hd_o t25_1) | exact (hd_o t25_1).elim (fun h1 => by omega) (fun h1 => by omega)), (by omega)⟩
      · refine Tr.aload_n (pc := 32) (i := 0) d_X12_must__32 rfl rfl ?_
        refine Tr.callV (pc := 33) (as := []) d_X12_must__33 s_12_396 ok_X12_next rfl rfl (Nat.le_of_ble_eq_true rfl) (Nat.le_of_ble_eq_true rfl) (by decide) (ty_120 hS.1.1) ?_
        refine Tr.imp (Tr.deep (by decide) (ns_X12_next_120_w1 (G120_3 := g120_3) (G120_5 := g120_5) (G120_8 := u25_120_8) (G9010_0 := g9010_0) hS.1 (k25_120_3) (k25_120_5) (k25_120_8) (k25_9010_0))) ?_
        rintro M33 _ ⟨h33, s33_120_3, s33_120_4, s33_120_5, s33_120_7, s33_120_8, s33_9010_0, es33_120_3, bs33_120_3, es33_120_4, bs33_120_4, es33_120_5, bs33_120_5, es33_120_7, bs33_120_7, es33_120_8, bs33_120_8, es33_9010_0, bs33_9010_0, rfl, z33_0, z33_1, z33_2, z33_3, z33_4, z33_5, z33_6⟩
        have hS := St.tr hS h33 (by decide) (by decide)
        refine Tr.sc [] rfl ?_
        have kr_120_3 : rd M33 120 3 = s33_120_3 := es33_120_3
        have kr_120_4 : rd M33 120 4 = s33_120_4 := es33_120_4
        have kr_120_5 : rd M33 120 5 = s33_120_5 := es33_120_5
        have kr_120_7 : rd M33 120 7 = s33_120_7 := es33_120_7
        have kr_120_8 : rd M33 120 8 = s33_120_8 := es33_120_8
        have kr_9010_0 : tav M33 = s33_9010_0 := es33_9010_0
        exact Tr.vret (pc := 36) d_X12_must__36 rfl ⟨hS, rfl, (by first | exact (hd_o z33_0) | exact (hd_o z33_0).elim (fun h1 => by omega) (fun h1 => by omega)), (by omega), (by first | exact (hd_o z33_2) | exact (hd_o z33_2).elim (fun h1 => by omega) (fun h1 => h1.elim (fun h1 => by omega) (fun h1 => by omega))), (by and_intros <;> omega), (by omega), (by exact (hd_o t25_0).elim (fun h1 => (ne_o h1).elim (fun h2 => by omega) (fun h2 => by omega)) (fun h1 => (ne_o h1).elim (fun h2 => by omega) (fun h2 => (hd_o z33_5).elim (fun h3 => by omega) (fun h3 => by omega))))⟩
    refine Tr.if_ne (pc := 13) (tgt := 25) d_X12_must__13 rfl (fun c13 => ?_) (fun c13 => ?_)
    · have c13b : 1 ≤ r10 ∧ r10 ≤ 1 := by omega
      replace c13 := hd_i c13
      refine Tr.pick [0] (ls2 := [(0, (2, 120))]) rfl ?_
      exact J25 _ _ hS (by and_intros <;> omega) ((kp_X12_isWord_120_120_3 h10).trans eg120_3) ((kp_X12_isWord_120_120_4 h10).trans eg120_4) ((kp_X12_isWord_120_120_5 h10).trans eg120_5) ((kp_X12_isWord_120_120_7 h10).trans eg120_7) ((kp_X12_isWord_120_120_8 h10).trans eg120_8) ((tav_of ((kp_X12_isWord_120_120_5 h10).trans rfl) ((kp_X12_isWord_120_120_3 h10).trans rfl)).trans eg9010_0) (by exact (hd_o z10_0).elim (fun h1 => by omega) (fun h1 => by omega)) (by omega)
    · refine Tr.aload_n (pc := 16) (i := 0) d_X12_must__16 rfl rfl ?_
      refine Tr.iconst (pc := 17) d_X12_must__17 (by decide) ?_
      refine Tr.aload_n (pc := 18) (i := 0) d_X12_must__18 rfl rfl ?_
      refine Tr.getf (pc := 19) d_X12_must__19 f_12_23 (by decide) (by decide) (ty_120 hS.1.1) ?_
      refine Tr.tp g120_4 ((kp_X12_isWord_120_120_4 h10).trans eg120_4) ?_
      refine Tr.callV (pc := 22) (as := [_, _]) d_X12_must__22 s_12_389 ok_X12_blame rfl rfl (Nat.le_of_ble_eq_true rfl) (Nat.le_of_ble_eq_true rfl) (by decide) (ty_120 hS.1.1) ?_
      refine Tr.imp (Tr.deep (by decide) (ns_X12_blame_120_w1 (G120_8 := g120_8) hS.1 (((kp_X12_isWord_120_120_8 h10).trans eg120_8)) 1 (by omega) g120_4 (by and_intros <;> omega))) ?_
      rintro M22 _ ⟨h22, s22_120_8, es22_120_8, bs22_120_8, rfl, z22_0⟩
      have hS := St.tr hS h22 (by decide) (by decide)
      refine Tr.sc [] rfl ?_
      refine Tr.pick [0] (ls2 := [(0, (2, 120))]) rfl ?_
      exact J25 _ _ hS (by and_intros <;> omega) ((kp_X12_blame_120_w1_120_3 h22).trans ((kp_X12_isWord_120_120_3 h10).trans eg120_3)) ((kp_X12_blame_120_w1_120_4 h22).trans ((kp_X12_isWord_120_120_4 h10).trans eg120_4)) ((kp_X12_blame_120_w1_120_5 h22).trans ((kp_X12_isWord_120_120_5 h10).trans eg120_5)) ((kp_X12_blame_120_w1_120_7 h22).trans ((kp_X12_isWord_120_120_7 h10).trans eg120_7)) es22_120_8 ((tav_of ((kp_X12_blame_120_w1_120_5 h22).trans ((kp_X12_isWord_120_120_5 h10).trans rfl)) ((kp_X12_blame_120_w1_120_3 h22).trans ((kp_X12_isWord_120_120_3 h10).trans rfl))).trans eg9010_0) (by exact (hd_o z22_0).elim (fun h1 => by omega) (fun h1 => by omega)) (by omega)
  · have kr_120_3 : rd M0 120 3 = g120_3 := eg120_3
    have kr_120_4 : rd M0 120 4 = g120_4 := eg120_4
    have kr_120_5 : rd M0 120 5 = g120_5 := eg120_5
    have kr_120_7 : rd M0 120 7 = g120_7 := eg120_7
    have kr_120_8 : rd M0 120 8 = g120_8 := eg120_8
    have kr_9010_0 : tav M0 = g9010_0 := eg9010_0
    exact Tr.vret (pc := 7) d_X12_must__7 rfl ⟨hS, rfl, (by first | exact (hd_o hq0) | exact (hd_o hq0).elim (fun h1 => by omega) (fun h1 => by omega)), (by omega), (by first | exact (hd_o hq2) | exact (hd_o hq2).elim (fun h1 => by omega) (fun h1 => h1.elim (fun h1 => by omega) (fun h1 => by omega))), (by and_intros <;> omega), (by omega), (by omega)⟩

set_option maxRecDepth 100000 in
set_option maxHeartbeats 4000000 in
theorem ns_X12_must__120_w3 {l : Launch} {K : EC} {M0 : Mem} {G120_3 G120_4 G120_5 G120_7 G120_8 G9010_0 : Int} (hI : In Pm0 M0) (k120_3 : rd M0 120 3 = G120_3) (k120_4 : rd M0 120 4 = G120_4) (k120_5 : rd M0 120 5 = G120_5) (k120_7 : rd M0 120 7 = G120_7) (k120_8 : rd M0 120 8 = G120_8) (k9010_0 : tav M0 = G9010_0)  (a1 : Int) (ha1 : 2147483647 ≤ a1 ∧ a1 ≤ 9223372036854775807)  (hq0 : G120_3 = 0 ∨ G120_4 + 1 ≤ G120_5) (hq1 : G120_4 ≤ G120_5) (hq2 : G120_3 ≠ 1 ∨ G120_4 + 2 ≤ G120_5 ∨ G120_7 < 256) : Tr l K 2 mX12_must_ 0 [(0, (2, 120)), (1, (1, a1))] [] M0 (fun M' r => St Pm0 ws_X12_must__120_w3 as_X12_must__120_w3 M0 M' ∧ ∃ S120_3 S120_4 S120_5 S120_7 S120_8 S9010_0 : Int, rd M' 120 3 = S120_3 ∧ (0 ≤ S120_3 ∧ S120_3 ≤ 3) ∧ rd M' 120 4 = S120_4 ∧ (0 ≤ S120_4 ∧ S120_4 ≤ 900) ∧ rd M' 120 5 = S120_5 ∧ (0 ≤ S120_5 ∧ S120_5 ≤ 900) ∧ rd M' 120 7 = S120_7 ∧ ((-9223372036854775808) ≤ S120_7 ∧ S120_7 ≤ 9223372036854775807) ∧ rd M' 120 8 = S120_8 ∧ (0 ≤ S120_8 ∧ S120_8 ≤ 5) ∧ tav M' = S9010_0 ∧ ((-1) ≤ S9010_0 ∧ S9010_0 ≤ 1800) ∧ r = none ∧ Hd (S120_3 = 0 ∨ S120_4 + 1 ≤ S120_5) ∧ (S120_4 ≤ S120_5) ∧ Hd (S120_3 ≠ 1 ∨ S120_4 + 2 ≤ S120_5 ∨ S120_7 < 256) ∧ (G120_4 ≤ S120_4 ∧ G120_5 ≤ S120_5 ∧ G9010_0 ≤ S9010_0) ∧ Hd (G120_8 = 0 ∨ S120_8 = G120_8) ∧ Hd (1 ≤ S120_8 ∨ G9010_0 < S9010_0)) := by
  subst k120_3
  subst k120_4
  subst k120_5
  subst k120_7
  subst k120_8
  subst k9010_0
  refine Tr.imp (sp_X12_must__120_w3 hI a1 ha1 hq0 hq1 hq2) ?_
  rintro M' _ ⟨hS, rfl, z0, z1, z2, z3, z4, z5⟩
  exact ⟨hS, _, _, _, _, _, _, rfl, ir_120_3 hS.1.2.1, rfl, ir_120_4 hS.1.2.1, rfl, ir_120_5 hS.1.2.1, rfl, ir_120_7 hS.1.2.1, rfl, ir_120_8 hS.1.2.1, rfl, (tav_b hS.1.2.1), rfl, hd_i z0, z1, hd_i z2, z3, hd_i z4, hd_i z5⟩

def ws_X12_must__120_w4 : List (Int × Int) := [(120, 3), (120, 4), (120, 5), (120, 6), (120, 7), (120, 8), (120, 9)]
def as_X12_must__120_w4 : List Int := []
def q_X12_must__120_w4 (a1 : Int) (M0 M' : Mem) (r : Option PV) : Prop := St Pm0 ws_X12_must__120_w4 as_X12_must__120_w4 M0 M' ∧ r = none ∧ (rd M' 120 3 = 0 ∨ rd M' 120 4 + 1 ≤ rd M' 120 5) ∧ (rd M' 120 4 ≤ rd M' 120 5) ∧ (rd M' 120 3 ≠ 1 ∨ rd M' 120 4 + 2 ≤ rd M' 120 5 ∨ rd M' 120 7 < 256) ∧ (rd M0 120 4 ≤ rd M' 120 4 ∧ rd M0 120 5 ≤ rd M' 120 5 ∧ tav M0 ≤ tav M') ∧ (rd M0 120 8 = 0 ∨ rd M' 120 8 = rd M0 120 8) ∧ (1 ≤ rd M' 120 8 ∨ tav M0 < tav M')
set_option maxRecDepth 100000 in
set_option maxHeartbeats 4000000 in
theorem sp_X12_must__120_w4 {l : Launch} {K : EC} {M0 : Mem} (hI : In Pm0 M0)  (a1 : Int) (ha1 : 1000000000 ≤ a1 ∧ a1 ≤ 2147483647)  (hq0 : rd M0 120 3 = 0 ∨ rd M0 120 4 + 1 ≤ rd M0 120 5) (hq1 : rd M0 120 4 ≤ rd M0 120 5) (hq2 : rd M0 120 3 ≠ 1 ∨ rd M0 120 4 + 2 ≤ rd M0 120 5 ∨ rd M0 120 7 < 256) : Tr l K 2 mX12_must_ 0 [(0, (2, 120)), (1, (1, a1))] [] M0 (q_X12_must__120_w4 a1 M0) := by
  have hS : St Pm0 ws_X12_must__120_w4 as_X12_must__120_w4 M0 M0 := St.rf hI
  obtain ⟨g120_8, eg120_8⟩ : ∃ v, rd M0 120 8 = v := ⟨_, rfl⟩
  have bg120_8 : 0 ≤ g120_8 ∧ g120_8 ≤ 5 := by rw [← eg120_8]; exact ir_120_8 hI.2.1
  obtain ⟨g120_3, eg120_3⟩ : ∃ v, rd M0 120 3 = v := ⟨_, rfl⟩
  have bg120_3 : 0 ≤ g120_3 ∧ g120_3 ≤ 3 := by rw [← eg120_3]; exact ir_120_3 hI.2.1
  obtain ⟨g120_4, eg120_4⟩ : ∃ v, rd M0 120 4 = v := ⟨_, rfl⟩
  have bg120_4 : 0 ≤ g120_4 ∧ g120_4 ≤ 900 := by rw [← eg120_4]; exact ir_120_4 hI.2.1
  obtain ⟨g120_5, eg120_5⟩ : ∃ v, rd M0 120 5 = v := ⟨_, rfl⟩
  have bg120_5 : 0 ≤ g120_5 ∧ g120_5 ≤ 900 := by rw [← eg120_5]; exact ir_120_5 hI.2.1
  obtain ⟨g120_7, eg120_7⟩ : ∃ v, rd M0 120 7 = v := ⟨_, rfl⟩
  have bg120_7 : (-9223372036854775808) ≤ g120_7 ∧ g120_7 ≤ 9223372036854775807 := by rw [← eg120_7]; exact ir_120_7 hI.2.1
  obtain ⟨g9010_0, eg9010_0⟩ : ∃ v, tav M0 = v := ⟨_, rfl⟩
  have bg9010_0 : (-1) ≤ g9010_0 ∧ g9010_0 ≤ 1800 := by rw [← eg9010_0]; exact (tav_b hI.2.1)
  replace hq0 := hd_i hq0
  replace hq2 := hd_i hq2
  refine Tr.aload_n (pc := 0) (i := 0) d_X12_must__0 rfl rfl ?_
  refine Tr.getf (pc := 1) d_X12_must__1 f_12_36 (by decide) (by decide) (ty_120 hS.1.1) ?_
  refine Tr.tp g120_8 eg120_8 ?_
  refine Tr.if_le (pc := 4) (tgt := 8) d_X12_must__4 rfl (fun c4 => ?_) (fun c4 => ?_)
  · refine Tr.aload_n (pc := 8) (i := 0) d_X12_must__8 rfl rfl ?_
    refine Tr.lload_n (pc := 9) (i := 1) d_X12_must__9 rfl rfl ?_
    refine Tr.callV (pc := 10) (as := [_]) d_X12_must__10 s_12_484 ok_X12_isWord rfl rfl (Nat.le_of_ble_eq_true rfl) (Nat.le_of_ble_eq_true rfl) (by decide) (ty_120 hS.1.1) ?_
    refine Tr.imp (Tr.deep (by decide) (ns_X12_isWord_120 (G120_3 := g120_3) (G120_7 := g120_7) hS.1.wk (eg120_3) (eg120_7) a1 (by omega))) ?_
    rintro M10 _ ⟨h10, r10, rfl, lr10, ur10, z10_0⟩
    have h10 := St.rn h10 (Pm0.of hS.1.2.2.2.2 (fun _ => (ka_X12_isWord_120_131 h10 _)) (fun _ => (ka_X12_isWord_120_137 h10 _)) (fun _ => (ka_X12_isWord_120_138 h10 _)) (fun _ => (ka_X12_isWord_120_139 h10 _)) (fun _ => (ka_X12_isWord_120_140 h10 _)) (fun _ => (ka_X12_isWord_120_141 h10 _)) (fun _ => (ka_X12_isWord_120_142 h10 _)) (fun _ => (ka_X12_isWord_120_143 h10 _)) (fun _ => (ka_X12_isWord_120_151 h10 _)) (fun _ => (ka_X12_isWord_120_152 h10 _)) (kp_X12_isWord_120_126_0 h10) (kp_X12_isWord_120_126_1 h10) (kp_X12_isWord_120_136_0 h10) (kp_X12_isWord_120_136_1 h10) (kp_X12_isWord_120_123_0 h10) (kp_X12_isWord_120_123_1 h10) (kp_X12_isWord_120_124_0 h10) (kp_X12_isWord_120_124_1 h10) (kp_X12_isWord_120_120_8 h10) (kp_X12_isWord_120_120_36 h10) (kp_X12_isWord_120_120_50 h10))
    have hS := St.tr hS h10 (by decide) (by decide)
    refine Tr.sc [(0, r10)] rfl ?_
    have J25 : ∀ (M : Mem) (u25_120_8 : Int), St Pm0 ws_X12_must__120_w4 as_X12_must__120_w4 M0 M → (0 ≤ u25_120_8 ∧ u25_120_8 ≤ 5) → rd M 120 3 = g120_3 → rd M 120 4 = g120_4 → rd M 120 5 = g120_5 → rd M 120 7 = g120_7 → rd M 120 8 = u25_120_8 → tav M = g9010_0 → (u25_120_8 ≠ 0 ∨ g120_3 ≠ 0) → (g120_8 = 0 ∨ u25_120_8 = g120_8) → Tr l K 2 mX12_must_ 25 [(0, (2, 120))] [] M (q_X12_must__120_w4 a1 M0) := by
      intro M u25_120_8 hS bu25_120_8 k25_120_3 k25_120_4 k25_120_5 k25_120_7 k25_120_8 k25_9010_0 t25_0 t25_1
      replace t25_0 := hd_i t25_0
      replace t25_1 := hd_i t25_1
      refine Tr.aload_n (pc := 25) (i := 0) d_X12_must__25 rfl rfl ?_
      refine Tr.getf (pc := 26) d_X12_must__26 f_12_36 (by decide) (by decide) (ty_120 hS.1.1) ?_
      refine Tr.tp u25_120_8 k25_120_8 ?_
      refine Tr.if_ne (pc := 29) (tgt := 36) d_X12_must__29 rfl (fun c29 => ?_) (fun c29 => ?_)
      · have c29b : 1 ≤ u25_120_8 ∧ u25_120_8 ≤ 5 := by omega
        replace c29 := hd_i c29
        have kr_120_3 : rd M 120 3 = g120_3 := k25_120_3
        have kr_120_4 : rd M 120 4 = g120_4 := k25_120_4
        have kr_120_5 : rd M 120 5 = g120_5 := k25_120_5
        have kr_120_7 : rd M 120 7 = g120_7 := k25_120_7
        have kr_120_8 : rd M 120 8 = u25_120_8 := k25_120_8
        have kr_9010_0 : tav M = g9010_0 := k25_9010_0
        exact Tr.vret (pc := 36) d_X12_must__36 rfl ⟨hS, rfl, (by first | exact (hd_o hq0) | exact (hd_o hq0).elim (fun h1 => by omega) (fun h1 => by omega)), (by omega), (by first | exact (hd_o hq2) | exact (hd_o hq2).elim (fun h1 => by omega) (fun h1 => h1.elim (fun h1 => by omega) (fun h1 => by omega))), (by and_intros <;> omega), (by first | exact (hd_o t25_1) | exact (hd_o t25_1).elim (fun h1 => by omega) (fun h1 => by omega)), (by omega)⟩
      · refine Tr.aload_n (pc := 32) (i := 0) d_X12_must__32 rfl rfl ?_
        refine Tr.callV (pc := 33) (as := []) d_X12_must__33 s_12_396 ok_X12_next rfl rfl (Nat.le_of_ble_eq_true rfl) (Nat.le_of_ble_eq_true rfl) (by decide) (ty_120 hS.1.1) ?_
        refine Tr.imp (Tr.deep (by decide) (ns_X12_next_120_w1 (G120_3 := g120_3) (G120_5 := g120_5) (G120_8 := u25_120_8) (G9010_0 := g9010_0) hS.1 (k25_120_3) (k25_120_5) (k25_120_8) (k25_9010_0))) ?_
        rintro M33 _ ⟨h33, s33_120_3, s33_120_4, s33_120_5, s33_120_7, s33_120_8, s33_9010_0, es33_120_3, bs33_120_3, es33_120_4, bs33_120_4, es33_120_5, bs33_120_5, es33_120_7, bs33_120_7, es33_120_8, bs33_120_8, es33_9010_0, bs33_9010_0, rfl, z33_0, z33_1, z33_2, z33_3, z33_4, z33_5, z33_6⟩
        have hS := St.tr hS h33 (by decide) (by decide)
        refine Tr.sc [] rfl ?_
        have kr_120_3 : rd M33 120 3 = s33_120_3 := es33_120_3
        have kr_120_4 : rd M33 120 4 = s33_120_4 := es33_120_4
        have kr_120_5 : rd M33 120 5 = s33_120_5 := es33_120_5
        have kr_120_7 : rd M33 120 7 = s33_120_7 := es33_120_7
        have kr_120_8 : rd M33 120 8 = s33_120_8 := es33_120_8
        have kr_9010_0 : tav M33 = s33_9010_0 := es33_9010_0
        exact Tr.vret (pc := 36) d_X12_must__36 rfl ⟨hS, rfl, (by first | exact (hd_o z33_0) | exact (hd_o z33_0).elim (fun h1 => by omega) (fun h1 => by omega)), (by omega), (by first | exact (hd_o z33_2) | exact (hd_o z33_2).elim (fun h1 => by omega) (fun h1 => h1.elim (fun h1 => by omega) (fun h1 => by omega))), (by and_intros <;> omega), (by omega), (by exact (hd_o t25_0).elim (fun h1 => (ne_o h1).elim (fun h2 => by omega) (fun h2 => by omega)) (fun h1 => (ne_o h1).elim (fun h2 => by omega) (fun h2 => (hd_o z33_5).elim (fun h3 => by omega) (fun h3 => by omega))))⟩
    refine Tr.if_ne (pc := 13) (tgt := 25) d_X12_must__13 rfl (fun c13 => ?_) (fun c13 => ?_)
    · have c13b : 1 ≤ r10 ∧ r10 ≤ 1 := by omega
      replace c13 := hd_i c13
      refine Tr.pick [0] (ls2 := [(0, (2, 120))]) rfl ?_
      exact J25 _ _ hS (by and_intros <;> omega) ((kp_X12_isWord_120_120_3 h10).trans eg120_3) ((kp_X12_isWord_120_120_4 h10).trans eg120_4) ((kp_X12_isWord_120_120_5 h10).trans eg120_5) ((kp_X12_isWord_120_120_7 h10).trans eg120_7) ((kp_X12_isWord_120_120_8 h10).trans eg120_8) ((tav_of ((kp_X12_isWord_120_120_5 h10).trans rfl) ((kp_X12_isWord_120_120_3 h10).trans rfl)).trans eg9010_0) (by exact (hd_o z10_0).elim (fun h1 => by omega) (fun h1 => by omega)) (by omega)
    · refine Tr.aload_n (pc := 16) (i := 0) d_X12_must__16 rfl rfl ?_
      refine Tr.iconst (pc := 17) d_X12_must__17 (by decide) ?_
      refine Tr.aload_n (pc := 18) (i := 0) d_X12_must__18 rfl rfl ?_
      refine Tr.getf (pc := 19) d_X12_must__19 f_12_23 (by decide) (by decide) (ty_120 hS.1.1) ?_
      refine Tr.tp g120_4 ((kp_X12_isWord_120_120_4 h10).trans eg120_4) ?_
      refine Tr.callV (pc := 22) (as := [_, _]) d_X12_must__22 s_12_389 ok_X12_blame rfl rfl (Nat.le_of_ble_eq_true rfl) (Nat.le_of_ble_eq_true rfl) (by decide) (ty_120 hS.1.1) ?_
      refine Tr.imp (Tr.deep (by decide) (ns_X12_blame_120_w1 (G120_8 := g120_8) hS.1 (((kp_X12_isWord_120_120_8 h10).trans eg120_8)) 1 (by omega) g120_4 (by and_intros <;> omega))) ?_
      rintro M22 _ ⟨h22, s22_120_8, es22_120_8, bs22_120_8, rfl, z22_0⟩
      have hS := St.tr hS h22 (by decide) (by decide)
      refine Tr.sc [] rfl ?_
      refine Tr.pick [0] (ls2 := [(0, (2, 120))]) rfl ?_
      exact J25 _ _ hS (by and_intros <;> omega) ((kp_X12_blame_120_w1_120_3 h22).trans ((kp_X12_isWord_120_120_3 h10).trans eg120_3)) ((kp_X12_blame_120_w1_120_4 h22).trans ((kp_X12_isWord_120_120_4 h10).trans eg120_4)) ((kp_X12_blame_120_w1_120_5 h22).trans ((kp_X12_isWord_120_120_5 h10).trans eg120_5)) ((kp_X12_blame_120_w1_120_7 h22).trans ((kp_X12_isWord_120_120_7 h10).trans eg120_7)) es22_120_8 ((tav_of ((kp_X12_blame_120_w1_120_5 h22).trans ((kp_X12_isWord_120_120_5 h10).trans rfl)) ((kp_X12_blame_120_w1_120_3 h22).trans ((kp_X12_isWord_120_120_3 h10).trans rfl))).trans eg9010_0) (by exact (hd_o z22_0).elim (fun h1 => by omega) (fun h1 => by omega)) (by omega)
  · have kr_120_3 : rd M0 120 3 = g120_3 := eg120_3
    have kr_120_4 : rd M0 120 4 = g120_4 := eg120_4
    have kr_120_5 : rd M0 120 5 = g120_5 := eg120_5
    have kr_120_7 : rd M0 120 7 = g120_7 := eg120_7
    have kr_120_8 : rd M0 120 8 = g120_8 := eg120_8
    have kr_9010_0 : tav M0 = g9010_0 := eg9010_0
    exact Tr.vret (pc := 7) d_X12_must__7 rfl ⟨hS, rfl, (by first | exact (hd_o hq0) | exact (hd_o hq0).elim (fun h1 => by omega) (fun h1 => by omega)), (by omega), (by first | exact (hd_o hq2) | exact (hd_o hq2).elim (fun h1 => by omega) (fun h1 => h1.elim (fun h1 => by omega) (fun h1 => by omega))), (by and_intros <;> omega), (by omega), (by omega)⟩

set_option maxRecDepth 100000 in
set_option maxHeartbeats 4000000 in
theorem ns_X12_must__120_w4 {l : Launch} {K : EC} {M0 : Mem} {G120_3 G120_4 G120_5 G120_7 G120_8 G9010_0 : Int} (hI : In Pm0 M0) (k120_3 : rd M0 120 3 = G120_3) (k120_4 : rd M0 120 4 = G120_4) (k120_5 : rd M0 120 5 = G120_5) (k120_7 : rd M0 120 7 = G120_7) (k120_8 : rd M0 120 8 = G120_8) (k9010_0 : tav M0 = G9010_0)  (a1 : Int) (ha1 : 1000000000 ≤ a1 ∧ a1 ≤ 2147483647)  (hq0 : G120_3 = 0 ∨ G120_4 + 1 ≤ G120_5) (hq1 : G120_4 ≤ G120_5) (hq2 : G120_3 ≠ 1 ∨ G120_4 + 2 ≤ G120_5 ∨ G120_7 < 256) : Tr l K 2 mX12_must_ 0 [(0, (2, 120)), (1, (1, a1))] [] M0 (fun M' r => St Pm0 ws_X12_must__120_w4 as_X12_must__120_w4 M0 M' ∧ ∃ S120_3 S120_4 S120_5 S120_7 S120_8 S9010_0 : Int, rd M' 120 3 = S120_3 ∧ (0 ≤ S120_3 ∧ S120_3 ≤ 3) ∧ rd M' 120 4 = S120_4 ∧ (0 ≤ S120_4 ∧ S120_4 ≤ 900) ∧ rd M' 120 5 = S120_5 ∧ (0 ≤ S120_5 ∧ S120_5 ≤ 900) ∧ rd M' 120 7 = S120_7 ∧ ((-9223372036854775808) ≤ S120_7 ∧ S120_7 ≤ 9223372036854775807) ∧ rd M' 120 8 = S120_8 ∧ (0 ≤ S120_8 ∧ S120_8 ≤ 5) ∧ tav M' = S9010_0 ∧ ((-1) ≤ S9010_0 ∧ S9010_0 ≤ 1800) ∧ r = none ∧ Hd (S120_3 = 0 ∨ S120_4 + 1 ≤ S120_5) ∧ (S120_4 ≤ S120_5) ∧ Hd (S120_3 ≠ 1 ∨ S120_4 + 2 ≤ S120_5 ∨ S120_7 < 256) ∧ (G120_4 ≤ S120_4 ∧ G120_5 ≤ S120_5 ∧ G9010_0 ≤ S9010_0) ∧ Hd (G120_8 = 0 ∨ S120_8 = G120_8) ∧ Hd (1 ≤ S120_8 ∨ G9010_0 < S9010_0)) := by
  subst k120_3
  subst k120_4
  subst k120_5
  subst k120_7
  subst k120_8
  subst k9010_0
  refine Tr.imp (sp_X12_must__120_w4 hI a1 ha1 hq0 hq1 hq2) ?_
  rintro M' _ ⟨hS, rfl, z0, z1, z2, z3, z4, z5⟩
  exact ⟨hS, _, _, _, _, _, _, rfl, ir_120_3 hS.1.2.1, rfl, ir_120_4 hS.1.2.1, rfl, ir_120_5 hS.1.2.1, rfl, ir_120_7 hS.1.2.1, rfl, ir_120_8 hS.1.2.1, rfl, (tav_b hS.1.2.1), rfl, hd_i z0, z1, hd_i z2, z3, hd_i z4, hd_i z5⟩

def ws_X12_must__120_w5 : List (Int × Int) := [(120, 3), (120, 4), (120, 5), (120, 6), (120, 7), (120, 8), (120, 9)]
def as_X12_must__120_w5 : List Int := []
def q_X12_must__120_w5 (a1 : Int) (M0 M' : Mem) (r : Option PV) : Prop := St Pm0 ws_X12_must__120_w5 as_X12_must__120_w5 M0 M' ∧ r = none ∧ (rd M' 120 3 = 0 ∨ rd M' 120 4 + 1 ≤ rd M' 120 5) ∧ (rd M' 120 4 ≤ rd M' 120 5) ∧ (rd M' 120 3 ≠ 1 ∨ rd M' 120 4 + 2 ≤ rd M' 120 5 ∨ rd M' 120 7 < 256) ∧ (rd M0 120 4 ≤ rd M' 120 4 ∧ rd M0 120 5 ≤ rd M' 120 5 ∧ tav M0 ≤ tav M') ∧ (rd M0 120 8 = 0 ∨ rd M' 120 8 = rd M0 120 8) ∧ (1 ≤ rd M' 120 8 ∨ tav M0 < tav M')
set_option maxRecDepth 100000 in
set_option maxHeartbeats 4000000 in
theorem sp_X12_must__120_w5 {l : Launch} {K : EC} {M0 : Mem} (hI : In Pm0 M0)  (a1 : Int) (ha1 : 2100 ≤ a1 ∧ a1 ≤ 46656)  (hq0 : rd M0 120 3 = 0 ∨ rd M0 120 4 + 1 ≤ rd M0 120 5) (hq1 : rd M0 120 4 ≤ rd M0 120 5) (hq2 : rd M0 120 3 ≠ 1 ∨ rd M0 120 4 + 2 ≤ rd M0 120 5 ∨ rd M0 120 7 < 256) : Tr l K 2 mX12_must_ 0 [(0, (2, 120)), (1, (1, a1))] [] M0 (q_X12_must__120_w5 a1 M0) := by
  have hS : St Pm0 ws_X12_must__120_w5 as_X12_must__120_w5 M0 M0 := St.rf hI
  obtain ⟨g120_8, eg120_8⟩ : ∃ v, rd M0 120 8 = v := ⟨_, rfl⟩
  have bg120_8 : 0 ≤ g120_8 ∧ g120_8 ≤ 5 := by rw [← eg120_8]; exact ir_120_8 hI.2.1
  obtain ⟨g120_3, eg120_3⟩ : ∃ v, rd M0 120 3 = v := ⟨_, rfl⟩
  have bg120_3 : 0 ≤ g120_3 ∧ g120_3 ≤ 3 := by rw [← eg120_3]; exact ir_120_3 hI.2.1
  obtain ⟨g120_4, eg120_4⟩ : ∃ v, rd M0 120 4 = v := ⟨_, rfl⟩
  have bg120_4 : 0 ≤ g120_4 ∧ g120_4 ≤ 900 := by rw [← eg120_4]; exact ir_120_4 hI.2.1
  obtain ⟨g120_5, eg120_5⟩ : ∃ v, rd M0 120 5 = v := ⟨_, rfl⟩
  have bg120_5 : 0 ≤ g120_5 ∧ g120_5 ≤ 900 := by rw [← eg120_5]; exact ir_120_5 hI.2.1
  obtain ⟨g120_7, eg120_7⟩ : ∃ v, rd M0 120 7 = v := ⟨_, rfl⟩
  have bg120_7 : (-9223372036854775808) ≤ g120_7 ∧ g120_7 ≤ 9223372036854775807 := by rw [← eg120_7]; exact ir_120_7 hI.2.1
  obtain ⟨g9010_0, eg9010_0⟩ : ∃ v, tav M0 = v := ⟨_, rfl⟩
  have bg9010_0 : (-1) ≤ g9010_0 ∧ g9010_0 ≤ 1800 := by rw [← eg9010_0]; exact (tav_b hI.2.1)
  replace hq0 := hd_i hq0
  replace hq2 := hd_i hq2
  refine Tr.aload_n (pc := 0) (i := 0) d_X12_must__0 rfl rfl ?_
  refine Tr.getf (pc := 1) d_X12_must__1 f_12_36 (by decide) (by decide) (ty_120 hS.1.1) ?_
  refine Tr.tp g120_8 eg120_8 ?_
  refine Tr.if_le (pc := 4) (tgt := 8) d_X12_must__4 rfl (fun c4 => ?_) (fun c4 => ?_)
  · refine Tr.aload_n (pc := 8) (i := 0) d_X12_must__8 rfl rfl ?_
    refine Tr.lload_n (pc := 9) (i := 1) d_X12_must__9 rfl rfl ?_
    refine Tr.callV (pc := 10) (as := [_]) d_X12_must__10 s_12_484 ok_X12_isWord rfl rfl (Nat.le_of_ble_eq_true rfl) (Nat.le_of_ble_eq_true rfl) (by decide) (ty_120 hS.1.1) ?_
    refine Tr.imp (Tr.deep (by decide) (ns_X12_isWord_120 (G120_3 := g120_3) (G120_7 := g120_7) hS.1.wk (eg120_3) (eg120_7) a1 (by omega))) ?_
    rintro M10 _ ⟨h10, r10, rfl, lr10, ur10, z10_0⟩
    have h10 := St.rn h10 (Pm0.of hS.1.2.2.2.2 (fun _ => (ka_X12_isWord_120_131 h10 _)) (fun _ => (ka_X12_isWord_120_137 h10 _)) (fun _ => (ka_X12_isWord_120_138 h10 _)) (fun _ => (ka_X12_isWord_120_139 h10 _)) (fun _ => (ka_X12_isWord_120_140 h10 _)) (fun _ => (ka_X12_isWord_120_141 h10 _)) (fun _ => (ka_X12_isWord_120_142 h10 _)) (fun _ => (ka_X12_isWord_120_143 h10 _)) (fun _ => (ka_X12_isWord_120_151 h10 _)) (fun _ => (ka_X12_isWord_120_152 h10 _)) (kp_X12_isWord_120_126_0 h10) (kp_X12_isWord_120_126_1 h10) (kp_X12_isWord_120_136_0 h10) (kp_X12_isWord_120_136_1 h10) (kp_X12_isWord_120_123_0 h10) (kp_X12_isWord_120_123_1 h10) (kp_X12_isWord_120_124_0 h10) (kp_X12_isWord_120_124_1 h10) (kp_X12_isWord_120_120_8 h10) (kp_X12_isWord_120_120_36 h10) (kp_X12_isWord_120_120_50 h10))
    have hS := St.tr hS h10 (by decide) (by decide)
    refine Tr.sc [(0, r10)] rfl ?_
    have J25 : ∀ (M : Mem) (u25_120_8 : Int), St Pm0 ws_X12_must__120_w5 as_X12_must__120_w5 M0 M → (0 ≤ u25_120_8 ∧ u25_120_8 ≤ 5) → rd M 120 3 = g120_3 → rd M 120 4 = g120_4 → rd M 120 5 = g120_5 → rd M 120 7 = g120_7 → rd M 120 8 = u25_120_8 → tav M = g9010_0 → (u25_120_8 ≠ 0 ∨ g120_3 ≠ 0) → (g120_8 = 0 ∨ u25_120_8 = g120_8) → Tr l K 2 mX12_must_ 25 [(0, (2, 120))] [] M (q_X12_must__120_w5 a1 M0) := by
      intro M u25_120_8 hS bu25_120_8 k25_120_3 k25_120_4 k25_120_5 k25_120_7 k25_120_8 k25_9010_0 t25_0 t25_1
      replace t25_0 := hd_i t25_0
      replace t25_1 := hd_i t25_1
      refine Tr.aload_n (pc := 25) (i := 0) d_X12_must__25 rfl rfl ?_
      refine Tr.getf (pc := 26) d_X12_must__26 f_12_36 (by decide) (by decide) (ty_120 hS.1.1) ?_
      refine Tr.tp u25_120_8 k25_120_8 ?_
      refine Tr.if_ne (pc := 29) (tgt := 36) d_X12_must__29 rfl (fun c29 => ?_) (fun c29 => ?_)
      · have c29b : 1 ≤ u25_120_8 ∧ u25_120_8 ≤ 5 := by omega
        replace c29 := hd_i c29
        have kr_120_3 : rd M 120 3 = g120_3 := k25_120_3
        have kr_120_4 : rd M 120 4 = g120_4 := k25_120_4
        have kr_120_5 : rd M 120 5 = g120_5 := k25_120_5
        have kr_120_7 : rd M 120 7 = g120_7 := k25_120_7
        have kr_120_8 : rd M 120 8 = u25_120_8 := k25_120_8
        have kr_9010_0 : tav M = g9010_0 := k25_9010_0
        exact Tr.vret (pc := 36) d_X12_must__36 rfl ⟨hS, rfl, (by first | exact (hd_o hq0) | exact (hd_o hq0).elim (fun h1 => by omega) (fun h1 => by omega)), (by omega), (by first | exact (hd_o hq2) | exact (hd_o hq2).elim (fun h1 => by omega) (fun h1 => h1.elim (fun h1 => by omega) (fun h1 => by omega))), (by and_intros <;> omega), (by first | exact (hd_o t25_1) | exact (hd_o t25_1).elim (fun h1 => by omega) (fun h1 => by omega)), (by omega)⟩
      · refine Tr.aload_n (pc := 32) (i := 0) d_X12_must__32 rfl rfl ?_
        refine Tr.callV (pc := 33) (as := []) d_X12_must__33 s_12_396 ok_X12_next rfl rfl (Nat.le_of_ble_eq_true rfl) (Nat.le_of_ble_eq_true rfl) (by decide) (ty_120 hS.1.1) ?_
        refine Tr.imp (Tr.deep (by decide) (ns_X12_next_120_w1 (G120_3 := g120_3) (G120_5 := g120_5) (G120_8 := u25_120_8) (G9010_0 := g9010_0) hS.1 (k25_120_3) (k25_120_5) (k25_120_8) (k25_9010_0))) ?_
        rintro M33 _ ⟨h33, s33_120_3, s33_120_4, s33_120_5, s33_120_7, s33_120_8, s33_9010_0, es33_120_3, bs33_120_3, es33_120_4, bs33_120_4, es33_120_5, bs33_120_5, es33_120_7, bs33_120_7, es33_120_8, bs33_120_8, es33_9010_0, bs33_9010_0, rfl, z33_0, z33_1, z33_2, z33_3, z33_4, z33_5, z33_6⟩
        have hS := St.tr hS h33 (by decide) (by decide)
        refine Tr.sc [] rfl ?_
        have kr_120_3 : rd M33 120 3 = s33_120_3 := es33_120_3
        have kr_120_4 : rd M33 120 4 = s33_120_4 := es33_120_4
        have kr_120_5 : rd M33 120 5 = s33_120_5 := es33_120_5
        have kr_120_7 : rd M33 120 7 = s33_120_7 := es33_120_7
        have kr_120_8 : rd M33 120 8 = s33_120_8 := es33_120_8
        have kr_9010_0 : tav M33 = s33_9010_0 := es33_9010_0
        exact Tr.vret (pc := 36) d_X12_must__36 rfl ⟨hS, rfl, (by first | exact (hd_o z33_0) | exact (hd_o z33_0).elim (fun h1 => by omega) (fun h1 => by omega)), (by omega), (by first | exact (hd_o z33_2) | exact (hd_o z33_2).elim (fun h1 => by omega) (fun h1 => h1.elim (fun h1 => by omega) (fun h1 => by omega))), (by and_intros <;> omega), (by omega), (by exact (hd_o t25_0).elim (fun h1 => (ne_o h1).elim (fun h2 => by omega) (fun h2 => by omega)) (fun h1 => (ne_o h1).elim (fun h2 => by omega) (fun h2 => (hd_o z33_5).elim (fun h3 => by omega) (fun h3 => by omega))))⟩
    refine Tr.if_ne (pc := 13) (tgt := 25) d_X12_must__13 rfl (fun c13 => ?_) (fun c13 => ?_)
    · have c13b : 1 ≤ r10 ∧ r10 ≤ 1 := by omega
      replace c13 := hd_i c13
      refine Tr.pick [0] (ls2 := [(0, (2, 120))]) rfl ?_
      exact J25 _ _ hS (by and_intros <;> omega) ((kp_X12_isWord_120_120_3 h10).trans eg120_3) ((kp_X12_isWord_120_120_4 h10).trans eg120_4) ((kp_X12_isWord_120_120_5 h10).trans eg120_5) ((kp_X12_isWord_120_120_7 h10).trans eg120_7) ((kp_X12_isWord_120_120_8 h10).trans eg120_8) ((tav_of ((kp_X12_isWord_120_120_5 h10).trans rfl) ((kp_X12_isWord_120_120_3 h10).trans rfl)).trans eg9010_0) (by exact (hd_o z10_0).elim (fun h1 => by omega) (fun h1 => by omega)) (by omega)
    · refine Tr.aload_n (pc := 16) (i := 0) d_X12_must__16 rfl rfl ?_
      refine Tr.iconst (pc := 17) d_X12_must__17 (by decide) ?_
      refine Tr.aload_n (pc := 18) (i := 0) d_X12_must__18 rfl rfl ?_
      refine Tr.getf (pc := 19) d_X12_must__19 f_12_23 (by decide) (by decide) (ty_120 hS.1.1) ?_
      refine Tr.tp g120_4 ((kp_X12_isWord_120_120_4 h10).trans eg120_4) ?_
      refine Tr.callV (pc := 22) (as := [_, _]) d_X12_must__22 s_12_389 ok_X12_blame rfl rfl (Nat.le_of_ble_eq_true rfl) (Nat.le_of_ble_eq_true rfl) (by decide) (ty_120 hS.1.1) ?_
      refine Tr.imp (Tr.deep (by decide) (ns_X12_blame_120_w1 (G120_8 := g120_8) hS.1 (((kp_X12_isWord_120_120_8 h10).trans eg120_8)) 1 (by omega) g120_4 (by and_intros <;> omega))) ?_
      rintro M22 _ ⟨h22, s22_120_8, es22_120_8, bs22_120_8, rfl, z22_0⟩
      have hS := St.tr hS h22 (by decide) (by decide)
      refine Tr.sc [] rfl ?_
      refine Tr.pick [0] (ls2 := [(0, (2, 120))]) rfl ?_
      exact J25 _ _ hS (by and_intros <;> omega) ((kp_X12_blame_120_w1_120_3 h22).trans ((kp_X12_isWord_120_120_3 h10).trans eg120_3)) ((kp_X12_blame_120_w1_120_4 h22).trans ((kp_X12_isWord_120_120_4 h10).trans eg120_4)) ((kp_X12_blame_120_w1_120_5 h22).trans ((kp_X12_isWord_120_120_5 h10).trans eg120_5)) ((kp_X12_blame_120_w1_120_7 h22).trans ((kp_X12_isWord_120_120_7 h10).trans eg120_7)) es22_120_8 ((tav_of ((kp_X12_blame_120_w1_120_5 h22).trans ((kp_X12_isWord_120_120_5 h10).trans rfl)) ((kp_X12_blame_120_w1_120_3 h22).trans ((kp_X12_isWord_120_120_3 h10).trans rfl))).trans eg9010_0) (by exact (hd_o z22_0).elim (fun h1 => by omega) (fun h1 => by omega)) (by omega)
  · have kr_120_3 : rd M0 120 3 = g120_3 := eg120_3
    have kr_120_4 : rd M0 120 4 = g120_4 := eg120_4
    have kr_120_5 : rd M0 120 5 = g120_5 := eg120_5
    have kr_120_7 : rd M0 120 7 = g120_7 := eg120_7
    have kr_120_8 : rd M0 120 8 = g120_8 := eg120_8
    have kr_9010_0 : tav M0 = g9010_0 := eg9010_0
    exact Tr.vret (pc := 7) d_X12_must__7 rfl ⟨hS, rfl, (by first | exact (hd_o hq0) | exact (hd_o hq0).elim (fun h1 => by omega) (fun h1 => by omega)), (by omega), (by first | exact (hd_o hq2) | exact (hd_o hq2).elim (fun h1 => by omega) (fun h1 => h1.elim (fun h1 => by omega) (fun h1 => by omega))), (by and_intros <;> omega), (by omega), (by omega)⟩

set_option maxRecDepth 100000 in
set_option maxHeartbeats 4000000 in
theorem ns_X12_must__120_w5 {l : Launch} {K : EC} {M0 : Mem} {G120_3 G120_4 G120_5 G120_7 G120_8 G9010_0 : Int} (hI : In Pm0 M0) (k120_3 : rd M0 120 3 = G120_3) (k120_4 : rd M0 120 4 = G120_4) (k120_5 : rd M0 120 5 = G120_5) (k120_7 : rd M0 120 7 = G120_7) (k120_8 : rd M0 120 8 = G120_8) (k9010_0 : tav M0 = G9010_0)  (a1 : Int) (ha1 : 2100 ≤ a1 ∧ a1 ≤ 46656)  (hq0 : G120_3 = 0 ∨ G120_4 + 1 ≤ G120_5) (hq1 : G120_4 ≤ G120_5) (hq2 : G120_3 ≠ 1 ∨ G120_4 + 2 ≤ G120_5 ∨ G120_7 < 256) : Tr l K 2 mX12_must_ 0 [(0, (2, 120)), (1, (1, a1))] [] M0 (fun M' r => St Pm0 ws_X12_must__120_w5 as_X12_must__120_w5 M0 M' ∧ ∃ S120_3 S120_4 S120_5 S120_7 S120_8 S9010_0 : Int, rd M' 120 3 = S120_3 ∧ (0 ≤ S120_3 ∧ S120_3 ≤ 3) ∧ rd M' 120 4 = S120_4 ∧ (0 ≤ S120_4 ∧ S120_4 ≤ 900) ∧ rd M' 120 5 = S120_5 ∧ (0 ≤ S120_5 ∧ S120_5 ≤ 900) ∧ rd M' 120 7 = S120_7 ∧ ((-9223372036854775808) ≤ S120_7 ∧ S120_7 ≤ 9223372036854775807) ∧ rd M' 120 8 = S120_8 ∧ (0 ≤ S120_8 ∧ S120_8 ≤ 5) ∧ tav M' = S9010_0 ∧ ((-1) ≤ S9010_0 ∧ S9010_0 ≤ 1800) ∧ r = none ∧ Hd (S120_3 = 0 ∨ S120_4 + 1 ≤ S120_5) ∧ (S120_4 ≤ S120_5) ∧ Hd (S120_3 ≠ 1 ∨ S120_4 + 2 ≤ S120_5 ∨ S120_7 < 256) ∧ (G120_4 ≤ S120_4 ∧ G120_5 ≤ S120_5 ∧ G9010_0 ≤ S9010_0) ∧ Hd (G120_8 = 0 ∨ S120_8 = G120_8) ∧ Hd (1 ≤ S120_8 ∨ G9010_0 < S9010_0)) := by
  subst k120_3
  subst k120_4
  subst k120_5
  subst k120_7
  subst k120_8
  subst k9010_0
  refine Tr.imp (sp_X12_must__120_w5 hI a1 ha1 hq0 hq1 hq2) ?_
  rintro M' _ ⟨hS, rfl, z0, z1, z2, z3, z4, z5⟩
  exact ⟨hS, _, _, _, _, _, _, rfl, ir_120_3 hS.1.2.1, rfl, ir_120_4 hS.1.2.1, rfl, ir_120_5 hS.1.2.1, rfl, ir_120_7 hS.1.2.1, rfl, ir_120_8 hS.1.2.1, rfl, (tav_b hS.1.2.1), rfl, hd_i z0, z1, hd_i z2, z3, hd_i z4, hd_i z5⟩

def ws_X12_part_120_w1 : List (Int × Int) := [(120, 3), (120, 4), (120, 5), (120, 6), (120, 7), (120, 8), (120, 9), (126, 0)]
def as_X12_part_120_w1 : List Int := [130, 131]
def q_X12_part_120_w1 (M0 M' : Mem) (r : Option PV) : Prop := St Pm0 ws_X12_part_120_w1 as_X12_part_120_w1 M0 M' ∧ r = none ∧ (rd M' 120 3 = 0 ∨ rd M' 120 4 + 1 ≤ rd M' 120 5) ∧ (rd M' 120 4 ≤ rd M' 120 5) ∧ (rd M' 120 3 ≠ 1 ∨ rd M' 120 4 + 2 ≤ rd M' 120 5 ∨ rd M' 120 7 < 256) ∧ (rd M0 120 4 ≤ rd M' 120 4 ∧ rd M0 120 5 ≤ rd M' 120 5 ∧ tav M0 ≤ tav M') ∧ (rd M0 120 8 = 0 ∨ rd M' 120 8 = rd M0 120 8) ∧ (1 ≤ rd M' 120 8 ∨ tav M0 < tav M')
theorem kp_X12_part_120_w1_120_37 {q : Mem → Prop} {M0 M : Mem} (h : St q ws_X12_part_120_w1 as_X12_part_120_w1 M0 M) : rd M 120 37 = rd M0 120 37 := St.kp h (by decide) (by decide) (by decide)
theorem kp_X12_counts_120_w1_126_0 {q : Mem → Prop} {M0 M : Mem} (h : St q ws_X12_counts_120_w1 as_X12_counts_120_w1 M0 M) : rd M 126 0 = rd M0 126 0 := St.kp h (by decide) (by decide) (by decide)
theorem kp_X12_fresh_120_w1_126_0 {q : Mem → Prop} {M0 M : Mem} (h : St q ws_X12_fresh_120_w1 as_X12_fresh_120_w1 M0 M) : rd M 126 0 = rd M0 126 0 := St.kp h (by decide) (by decide) (by decide)
theorem kp_X12_must__120_w3_126_0 {q : Mem → Prop} {M0 M : Mem} (h : St q ws_X12_must__120_w3 as_X12_must__120_w3 M0 M) : rd M 126 0 = rd M0 126 0 := St.kp h (by decide) (by decide) (by decide)
theorem kp_X12_number_120_w1_126_0 {q : Mem → Prop} {M0 M : Mem} (h : St q ws_X12_number_120_w1 as_X12_number_120_w1 M0 M) : rd M 126 0 = rd M0 126 0 := St.kp h (by decide) (by decide) (by decide)
theorem kp_X12_must__120_w4_126_0 {q : Mem → Prop} {M0 M : Mem} (h : St q ws_X12_must__120_w4 as_X12_must__120_w4 M0 M) : rd M 126 0 = rd M0 126 0 := St.kp h (by decide) (by decide) (by decide)
theorem kp_X12_must__120_w5_126_0 {q : Mem → Prop} {M0 M : Mem} (h : St q ws_X12_must__120_w5 as_X12_must__120_w5 M0 M) : rd M 126 0 = rd M0 126 0 := St.kp h (by decide) (by decide) (by decide)
set_option maxRecDepth 100000 in
set_option maxHeartbeats 4000000 in
theorem sp_X12_part_120_w1 {l : Launch} {K : EC} {M0 : Mem} (hI : In Pm0 M0) (en_120_37 : rd M0 120 37 = 0)   (hq0 : rd M0 120 3 = 0 ∨ rd M0 120 4 + 1 ≤ rd M0 120 5) (hq1 : rd M0 120 4 ≤ rd M0 120 5) (hq2 : rd M0 120 3 ≠ 1 ∨ rd M0 120 4 + 2 ≤ rd M0 120 5 ∨ rd M0 120 7 < 256) (hq3 : rd M0 120 3 ≠ 0) (hq4 : rd M0 120 8 = 0) : Tr l K 3 mX12_part 0 [(0, (2, 120))] [] M0 (q_X12_part_120_w1 M0) := by
  have hS : St Pm0 ws_X12_part_120_w1 as_X12_part_120_w1 M0 M0 := St.rf hI
  obtain ⟨g120_8, eg120_8⟩ : ∃ v, rd M0 120 8 = v := ⟨_, rfl⟩
  have bg120_8 : 0 ≤ g120_8 ∧ g120_8 ≤ 5 := by rw [← eg120_8]; exact ir_120_8 hI.2.1
  obtain ⟨g120_3, eg120_3⟩ : ∃ v, rd M0 120 3 = v := ⟨_, rfl⟩
  have bg120_3 : 0 ≤ g120_3 ∧ g120_3 ≤ 3 := by rw [← eg120_3]; exact ir_120_3 hI.2.1
  obtain ⟨g120_4, eg120_4⟩ : ∃ v, rd M0 120 4 = v := ⟨_, rfl⟩
  have bg120_4 : 0 ≤ g120_4 ∧ g120_4 ≤ 900 := by rw [← eg120_4]; exact ir_120_4 hI.2.1
  obtain ⟨g120_5, eg120_5⟩ : ∃ v, rd M0 120 5 = v := ⟨_, rfl⟩
  have bg120_5 : 0 ≤ g120_5 ∧ g120_5 ≤ 900 := by rw [← eg120_5]; exact ir_120_5 hI.2.1
  obtain ⟨g120_7, eg120_7⟩ : ∃ v, rd M0 120 7 = v := ⟨_, rfl⟩
  have bg120_7 : (-9223372036854775808) ≤ g120_7 ∧ g120_7 ≤ 9223372036854775807 := by rw [← eg120_7]; exact ir_120_7 hI.2.1
  obtain ⟨g9010_0, eg9010_0⟩ : ∃ v, tav M0 = v := ⟨_, rfl⟩
  have bg9010_0 : (-1) ≤ g9010_0 ∧ g9010_0 ≤ 1800 := by rw [← eg9010_0]; exact (tav_b hI.2.1)
  obtain ⟨g126_0, eg126_0⟩ : ∃ v, rd M0 126 0 = v := ⟨_, rfl⟩
  have bg126_0 : 0 ≤ g126_0 ∧ g126_0 ≤ 6 := by rw [← eg126_0]; exact ir_126_0 hI.2.1
  replace hq0 := hd_i hq0
  replace hq2 := hd_i hq2
  replace hq3 := hd_i hq3
  refine Tr.aload_n (pc := 0) (i := 0) d_X12_part_0 rfl rfl ?_
  refine Tr.aload_n (pc := 1) (i := 0) d_X12_part_1 rfl rfl ?_
  refine Tr.getf (pc := 2) d_X12_part_2 f_12_63 (by decide) (by decide) (ty_120 hS.1.1) ?_
  refine Tr.tp 126 (fx_120_17 hS.1.1) ?_
  refine Tr.aload_n (pc := 5) (i := 0) d_X12_part_5 rfl rfl ?_
  refine Tr.getf (pc := 6) d_X12_part_6 f_12_124 (by decide) (by decide) (ty_120 hS.1.1) ?_
  refine Tr.tp 0 ((kp_X12_part_120_w1_120_37 hS).trans en_120_37) ?_
  refine Tr.iald (pc := 9) d_X12_part_9 (ty_126 hS.1.1) (by omega) (by omega) ?_
  refine Tr.tp g126_0 eg126_0 ?_
  refine Tr.bipush (pc := 10) d_X12_part_10 rfl (by decide) ?_
  have J20 : ∀ (M : Mem) (q20_1 : Int), St Pm0 ws_X12_part_120_w1 as_X12_part_120_w1 M0 M → (0 ≤ q20_1 ∧ q20_1 ≤ 1) → rd M 120 3 = g120_3 → rd M 120 4 = g120_4 → rd M 120 5 = g120_5 → rd M 120 7 = g120_7 → rd M 120 8 = g120_8 → rd M 126 0 = g126_0 → tav M = g9010_0 → ((q20_1 = 1 ∧ g126_0 = 6) ∨ (q20_1 = 0 ∧ g126_0 ≠ 6)) → Tr l K 3 mX12_part 20 [(0, (2, 120))] [(0, q20_1), (2, 120)] M (q_X12_part_120_w1 M0) := by
    intro M q20_1 hS bq20_1 k20_120_3 k20_120_4 k20_120_5 k20_120_7 k20_120_8 k20_126_0 k20_9010_0 t20_0
    replace t20_0 := hd_i t20_0
    refine Tr.callV (pc := 20) (as := [_]) d_X12_part_20 s_12_505 ok_X12_counts rfl rfl (Nat.le_of_ble_eq_true rfl) (Nat.le_of_ble_eq_true rfl) (by decide) (ty_120 hS.1.1) ?_
    refine Tr.imp (Tr.deep (by decide) (ns_X12_counts_120_w1 (G120_3 := g120_3) (G120_4 := g120_4) (G120_5 := g120_5) (G120_7 := g120_7) (G120_8 := g120_8) (G9010_0 := g9010_0) hS.1 (k20_120_3) (k20_120_4) (k20_120_5) (k20_120_7) (k20_120_8) (k20_9010_0) q20_1 (by and_intros <;> omega) (by first | exact (hd_o hq0) | exact (hd_o hq0).elim (fun h1 => by omega) (fun h1 => by omega)) (by omega) (by first | exact (hd_o hq2) | exact (hd_o hq2).elim (fun h1 => by omega) (fun h1 => h1.elim (fun h1 => by omega) (fun h1 => by omega))) (by have h1 := (hd_o hq3); omega))) ?_
    rintro M20 _ ⟨h20, s20_120_3, s20_120_4, s20_120_5, s20_120_7, s20_120_8, s20_9010_0, es20_120_3, bs20_120_3, es20_120_4, bs20_120_4, es20_120_5, bs20_120_5, es20_120_7, bs20_120_7, es20_120_8, bs20_120_8, es20_9010_0, bs20_9010_0, rfl, z20_0, z20_1, z20_2, z20_3, z20_4, z20_5, z20_6⟩
    have hS := St.tr hS h20 (by decide) (by decide)
    refine Tr.sc [] rfl ?_
    refine Tr.aload_n (pc := 23) (i := 0) d_X12_part_23 rfl rfl ?_
    refine Tr.getf (pc := 24) d_X12_part_24 f_12_36 (by decide) (by decide) (ty_120 hS.1.1) ?_
    refine Tr.tp s20_120_8 es20_120_8 ?_
    refine Tr.if_le (pc := 27) (tgt := 31) d_X12_part_27 rfl (fun c27 => ?_) (fun c27 => ?_)
    · refine Tr.bipush (pc := 31) d_X12_part_31 rfl (by decide) ?_
      refine Tr.aload_n (pc := 33) (i := 0) d_X12_part_33 rfl rfl ?_
      refine Tr.getf (pc := 34) d_X12_part_34 f_12_124 (by decide) (by decide) (ty_120 hS.1.1) ?_
      refine Tr.tp 0 ((kp_X12_part_120_w1_120_37 hS).trans en_120_37) ?_
      refine Tr.imul (pc := 37) d_X12_part_37 ?_
      refine Tr.tp 0 (by decide) ?_
      refine Tr.aload_n (pc := 38) (i := 0) d_X12_part_38 rfl rfl ?_
      refine Tr.getf (pc := 39) d_X12_part_39 f_12_63 (by decide) (by decide) (ty_120 hS.1.1) ?_
      refine Tr.tp 126 (fx_120_17 hS.1.1) ?_
      refine Tr.aload_n (pc := 42) (i := 0) d_X12_part_42 rfl rfl ?_
      refine Tr.getf (pc := 43) d_X12_part_43 f_12_124 (by decide) (by decide) (ty_120 hS.1.1) ?_
      refine Tr.tp 0 ((kp_X12_part_120_w1_120_37 hS).trans en_120_37) ?_
      refine Tr.iald (pc := 46) d_X12_part_46 (ty_126 hS.1.1) (by omega) (by omega) ?_
      refine Tr.tp g126_0 ((kp_X12_counts_120_w1_126_0 h20).trans k20_126_0) ?_
      refine Tr.iadd (pc := 47) d_X12_part_47 ?_
      refine Tr.tp g126_0 ((w32_id (by and_intros <;> omega)).trans (by omega)) ?_
      refine Tr.istore_n (pc := 48) (i := 1) (ls2 := [(1, (0, g126_0)), (0, (2, 120))]) d_X12_part_48 rfl (by decide) rfl ?_
      refine Tr.aload_n (pc := 49) (i := 0) d_X12_part_49 rfl rfl ?_
      refine Tr.getf (pc := 50) d_X12_part_50 f_12_75 (by decide) (by decide) (ty_120 hS.1.1) ?_
      refine Tr.tp 130 (fx_120_21 hS.1.1) ?_
      refine Tr.iload_n (pc := 53) (i := 1) d_X12_part_53 rfl rfl ?_
      refine Tr.aload_n (pc := 54) (i := 0) d_X12_part_54 rfl rfl ?_
      refine Tr.callV (pc := 55) (as := []) d_X12_part_55 s_12_508 ok_X12_fresh rfl rfl (Nat.le_of_ble_eq_true rfl) (Nat.le_of_ble_eq_true rfl) (by decide) (ty_120 hS.1.1) ?_
      refine Tr.imp (Tr.deep (by decide) (ns_X12_fresh_120_w1 (G120_3 := s20_120_3) (G120_4 := s20_120_4) (G120_5 := s20_120_5) (G120_7 := s20_120_7) (G120_8 := s20_120_8) (G9010_0 := s20_9010_0) hS.1 (es20_120_3) (es20_120_4) (es20_120_5) (es20_120_7) (es20_120_8) (es20_9010_0) ((kp_X12_part_120_w1_120_37 hS).trans en_120_37) (by first | exact (hd_o z20_0) | exact (hd_o z20_0).elim (fun h1 => by omega) (fun h1 => by omega)) (by omega) (by first | exact (hd_o z20_2) | exact (hd_o z20_2).elim (fun h1 => by omega) (fun h1 => h1.elim (fun h1 => by omega) (fun h1 => by omega))))) ?_
      rintro M55 _ ⟨h55, s55_120_3, s55_120_4, s55_120_5, s55_120_7, s55_120_8, s55_9010_0, es55_120_3, bs55_120_3, es55_120_4, bs55_120_4, es55_120_5, bs55_120_5, es55_120_7, bs55_120_7, es55_120_8, bs55_120_8, es55_9010_0, bs55_9010_0, r55, rfl, lr55, ur55, z55_0, z55_1, z55_2, z55_3, z55_4, z55_5⟩
      have hS := St.tr hS h55 (by decide) (by decide)
      refine Tr.sc [(1, r55), (0, g126_0), (2, 130)] rfl ?_
      refine Tr.lastS (pc := 58) (P := St Pm0 ws_X12_part_120_w1 as_X12_part_120_w1 M0) d_X12_part_58 (ty_130 hS.1.1) (by omega) (by omega) (sa_130 hS (by decide) (by omega) (Pm0.of hS.1.2.2.2.2 (fun _ => rd_wb _ rfl) (fun _ => rd_wb _ rfl) (fun _ => rd_wb _ rfl) (fun _ => rd_wb _ rfl) (fun _ => rd_wb _ rfl) (fun _ => rd_wb _ rfl) (fun _ => rd_wb _ rfl) (fun _ => rd_wb _ rfl) (fun _ => rd_wb _ rfl) (fun _ => rd_wb _ rfl) (rd_wb _ rfl) (rd_wb _ rfl) (rd_wb _ rfl) (rd_wb _ rfl) (rd_wb _ rfl) (rd_wb _ rfl) (rd_wb _ rfl) (rd_wb _ rfl) (rd_wb _ rfl) (rd_wb _ rfl) (rd_wb _ rfl))) (fun M58 hS w58 => ?_)
      refine Tr.aload_n (pc := 59) (i := 0) d_X12_part_59 rfl rfl ?_
      refine Tr.ldc2 (pc := 60) d_X12_part_60 kl_12_405 (by decide) ?_
      refine Tr.callV (pc := 63) (as := [_]) d_X12_part_63 s_12_512 ok_X12_must_ rfl rfl (Nat.le_of_ble_eq_true rfl) (Nat.le_of_ble_eq_true rfl) (by decide) (ty_120 hS.1.1) ?_
      refine Tr.imp (Tr.deep (by decide) (ns_X12_must__120_w3 (G120_3 := s55_120_3) (G120_4 := s55_120_4) (G120_5 := s55_120_5) (G120_7 := s55_120_7) (G120_8 := s55_120_8) (G9010_0 := s55_9010_0) hS.1 (((Wr.b w58 rfl).trans es55_120_3)) (((Wr.b w58 rfl).trans es55_120_4)) (((Wr.b w58 rfl).trans es55_120_5)) (((Wr.b w58 rfl).trans es55_120_7)) (((Wr.b w58 rfl).trans es55_120_8)) (((tav_of ((Wr.b w58 rfl).trans rfl) ((Wr.b w58 rfl).trans rfl)).trans es55_9010_0)) 495739823472 (by omega) (by first | exact (hd_o z55_0) | exact (hd_o z55_0).elim (fun h1 => by omega) (fun h1 => by omega)) (by omega) (by first | exact (hd_o z55_2) | exact (hd_o z55_2).elim (fun h1 => by omega) (fun h1 => h1.elim (fun h1 => by omega) (fun h1 => by omega))))) ?_
      rintro M63 _ ⟨h63, s63_120_3, s63_120_4, s63_120_5, s63_120_7, s63_120_8, s63_9010_0, es63_120_3, bs63_120_3, es63_120_4, bs63_120_4, es63_120_5, bs63_120_5, es63_120_7, bs63_120_7, es63_120_8, bs63_120_8, es63_9010_0, bs63_9010_0, rfl, z63_0, z63_1, z63_2, z63_3, z63_4, z63_5⟩
      have hS := St.tr hS h63 (by decide) (by decide)
      refine Tr.sc [] rfl ?_
      refine Tr.aload_n (pc := 66) (i := 0) d_X12_part_66 rfl rfl ?_
      refine Tr.getf (pc := 67) d_X12_part_67 f_12_79 (by decide) (by decide) (ty_120 hS.1.1) ?_
      refine Tr.tp 131 (fx_120_22 hS.1.1) ?_
      refine Tr.bipush (pc := 70) d_X12_part_70 rfl (by decide) ?_
      refine Tr.iload_n (pc := 72) (i := 1) d_X12_part_72 rfl rfl ?_
      refine Tr.imul (pc := 73) d_X12_part_73 ?_
      refine Tr.tp (6 * g126_0) ((w32_id (by and_intros <;> omega)).trans (by omega)) ?_
      refine Tr.aload_n (pc := 74) (i := 0) d_X12_part_74 rfl rfl ?_
      refine Tr.iconst (pc := 75) d_X12_part_75 (by decide) ?_
      refine Tr.sipush (pc := 76) d_X12_part_76 rfl (by decide) ?_
      refine Tr.callV (pc := 79) (as := [_, _]) d_X12_part_79 s_12_516 ok_X12_number rfl rfl (Nat.le_of_ble_eq_true rfl) (Nat.le_of_ble_eq_true rfl) (by decide) (ty_120 hS.1.1) ?_
      refine Tr.imp (Tr.deep (by decide) (ns_X12_number_120_w1 (G120_3 := s63_120_3) (G120_4 := s63_120_4) (G120_5 := s63_120_5) (G120_7 := s63_120_7) (G120_8 := s63_120_8) (G9010_0 := s63_9010_0) hS.1 (es63_120_3) (es63_120_4) (es63_120_5) (es63_120_7) (es63_120_8) (es63_9010_0) 0 (by omega) 999 (by omega) (by first | exact (hd_o z63_0) | exact (hd_o z63_0).elim (fun h1 => by omega) (fun h1 => by omega)) (by omega) (by first | exact (hd_o z63_2) | exact (hd_o z63_2).elim (fun h1 => by omega) (fun h1 => h1.elim (fun h1 => by omega) (fun h1 => by omega))))) ?_
      rintro M79 _ ⟨h79, s79_120_3, s79_120_4, s79_120_5, s79_120_7, s79_120_8, s79_9010_0, es79_120_3, bs79_120_3, es79_120_4, bs79_120_4, es79_120_5, bs79_120_5, es79_120_7, bs79_120_7, es79_120_8, bs79_120_8, es79_9010_0, bs79_9010_0, r79, rfl, lr79, ur79, z79_0, z79_1, z79_2, z79_3, z79_4, z79_5, z79_6⟩
      have hS := St.tr hS h79 (by decide) (by decide)
      refine Tr.sc [(0, r79), (0, (6 * g126_0)), (2, 131)] rfl ?_
      have kx_126_0 : rd M79 126 0 = g126_0 := ((kp_X12_number_120_w1_126_0 h79).trans ((kp_X12_must__120_w3_126_0 h63).trans ((Wr.b w58 rfl).trans ((kp_X12_fresh_120_w1_126_0 h55).trans ((kp_X12_counts_120_w1_126_0 h20).trans k20_126_0)))))
      refine Tr.iastS (pc := 82) (P := St Pm0 ws_X12_part_120_w1 as_X12_part_120_w1 M0) d_X12_part_82 (ty_131 hS.1.1) (by omega) (by omega) (sa_131 hS (by decide) (by and_intros <;> omega) (Pm0_rate hS.1.2.2.2.2 hS.1.2.1 (by omega) (by exact (hd_o t20_0).elim (fun h1 => (hd_o z20_6).elim (fun h2 => by omega) (fun h2 => by omega)) (fun h1 => (ne_o h1.2).elim (fun h2 => by omega) (fun h2 => by omega))))) (fun M82 hS w82 => ?_)
      refine Tr.aload_n (pc := 83) (i := 0) d_X12_part_83 rfl rfl ?_
      refine Tr.ldc2 (pc := 84) d_X12_part_84 kl_12_407 (by decide) ?_
      refine Tr.callV (pc := 87) (as := [_]) d_X12_part_87 s_12_512 ok_X12_must_ rfl rfl (Nat.le_of_ble_eq_true rfl) (Nat.le_of_ble_eq_true rfl) (by decide) (ty_120 hS.1.1) ?_
      refine Tr.imp (Tr.deep (by decide) (ns_X12_must__120_w4 (G120_3 := s79_120_3) (G120_4 := s79_120_4) (G120_5 := s79_120_5) (G120_7 := s79_120_7) (G120_8 := s79_120_8) (G9010_0 := s79_9010_0) hS.1 (((Wr.b w82 rfl).trans es79_120_3)) (((Wr.b w82 rfl).trans es79_120_4)) (((Wr.b w82 rfl).trans es79_120_5)) (((Wr.b w82 rfl).trans es79_120_7)) (((Wr.b w82 rfl).trans es79_120_8)) (((tav_of ((Wr.b w82 rfl).trans rfl) ((Wr.b w82 rfl).trans rfl)).trans es79_9010_0)) 2002873189 (by omega) (by first | exact (hd_o z79_0) | exact (hd_o z79_0).elim (fun h1 => by omega) (fun h1 => by omega)) (by omega) (by first | exact (hd_o z79_2) | exact (hd_o z79_2).elim (fun h1 => by omega) (fun h1 => h1.elim (fun h1 => by omega) (fun h1 => by omega))))) ?_
      rintro M87 _ ⟨h87, s87_120_3, s87_120_4, s87_120_5, s87_120_7, s87_120_8, s87_9010_0, es87_120_3, bs87_120_3, es87_120_4, bs87_120_4, es87_120_5, bs87_120_5, es87_120_7, bs87_120_7, es87_120_8, bs87_120_8, es87_9010_0, bs87_9010_0, rfl, z87_0, z87_1, z87_2, z87_3, z87_4, z87_5⟩
      have hS := St.tr hS h87 (by decide) (by decide)
      refine Tr.sc [] rfl ?_
      refine Tr.aload_n (pc := 90) (i := 0) d_X12_part_90 rfl rfl ?_
      refine Tr.getf (pc := 91) d_X12_part_91 f_12_79 (by decide) (by decide) (ty_120 hS.1.1) ?_
      refine Tr.tp 131 (fx_120_22 hS.1.1) ?_
      refine Tr.bipush (pc := 94) d_X12_part_94 rfl (by decide) ?_
      refine Tr.iload_n (pc := 96) (i := 1) d_X12_part_96 rfl rfl ?_
      refine Tr.imul (pc := 97) d_X12_part_97 ?_
      refine Tr.tp (6 * g126_0) ((w32_id (by and_intros <;> omega)).trans (by omega)) ?_
      refine Tr.iconst (pc := 98) d_X12_part_98 (by decide) ?_
      refine Tr.iadd (pc := 99) d_X12_part_99 ?_
      refine Tr.tp (6 * g126_0 + 1) ((w32_id (by and_intros <;> omega)).trans (by omega)) ?_
      refine Tr.aload_n (pc := 100) (i := 0) d_X12_part_100 rfl rfl ?_
      refine Tr.iconst (pc := 101) d_X12_part_101 (by decide) ?_
      refine Tr.bipush (pc := 102) d_X12_part_102 rfl (by decide) ?_
      refine Tr.callV (pc := 104) (as := [_, _]) d_X12_part_104 s_12_516 ok_X12_number rfl rfl (Nat.le_of_ble_eq_true rfl) (Nat.le_of_ble_eq_true rfl) (by decide) (ty_120 hS.1.1) ?_
      refine Tr.imp (Tr.deep (by decide) (ns_X12_number_120_w1 (G120_3 := s87_120_3) (G120_4 := s87_120_4) (G120_5 := s87_120_5) (G120_7 := s87_120_7) (G120_8 := s87_120_8) (G9010_0 := s87_9010_0) hS.1 (es87_120_3) (es87_120_4) (es87_120_5) (es87_120_7) (es87_120_8) (es87_9010_0) 0 (by omega) 20 (by omega) (by first | exact (hd_o z87_0) | exact (hd_o z87_0).elim (fun h1 => by omega) (fun h1 => by omega)) (by omega) (by first | exact (hd_o z87_2) | exact (hd_o z87_2).elim (fun h1 => by omega) (fun h1 => h1.elim (fun h1 => by omega) (fun h1 => by omega))))) ?_
      rintro M104 _ ⟨h104, s104_120_3, s104_120_4, s104_120_5, s104_120_7, s104_120_8, s104_9010_0, es104_120_3, bs104_120_3, es104_120_4, bs104_120_4, es104_120_5, bs104_120_5, es104_120_7, bs104_120_7, es104_120_8, bs104_120_8, es104_9010_0, bs104_9010_0, r104, rfl, lr104, ur104, z104_0, z104_1, z104_2, z104_3, z104_4, z104_5, z104_6⟩
      have hS := St.tr hS h104 (by decide) (by decide)
      refine Tr.sc [(0, r104), (0, (6 * g126_0 + 1)), (2, 131)] rfl ?_
      have kx_126_0 : rd M104 126 0 = g126_0 := ((kp_X12_number_120_w1_126_0 h104).trans ((kp_X12_must__120_w4_126_0 h87).trans ((Wr.b w82 rfl).trans ((kp_X12_number_120_w1_126_0 h79).trans ((kp_X12_must__120_w3_126_0 h63).trans ((Wr.b w58 rfl).trans ((kp_X12_fresh_120_w1_126_0 h55).trans ((kp_X12_counts_120_w1_126_0 h20).trans k20_126_0))))))))
      refine Tr.iastS (pc := 107) (P := St Pm0 ws_X12_part_120_w1 as_X12_part_120_w1 M0) d_X12_part_107 (ty_131 hS.1.1) (by omega) (by omega) (sa_131 hS (by decide) (by and_intros <;> omega) (Pm0_rate hS.1.2.2.2.2 hS.1.2.1 (by omega) (by exact (hd_o t20_0).elim (fun h1 => (hd_o z20_6).elim (fun h2 => by omega) (fun h2 => by omega)) (fun h1 => (ne_o h1.2).elim (fun h2 => by omega) (fun h2 => by omega))))) (fun M107 hS w107 => ?_)
      refine Tr.aload_n (pc := 108) (i := 0) d_X12_part_108 rfl rfl ?_
      refine Tr.getf (pc := 109) d_X12_part_109 f_12_79 (by decide) (by decide) (ty_120 hS.1.1) ?_
      refine Tr.tp 131 (fx_120_22 hS.1.1) ?_
      refine Tr.bipush (pc := 112) d_X12_part_112 rfl (by decide) ?_
      refine Tr.iload_n (pc := 114) (i := 1) d_X12_part_114 rfl rfl ?_
      refine Tr.imul (pc := 115) d_X12_part_115 ?_
      refine Tr.tp (6 * g126_0) ((w32_id (by and_intros <;> omega)).trans (by omega)) ?_
      refine Tr.iconst (pc := 116) d_X12_part_116 (by decide) ?_
      refine Tr.iadd (pc := 117) d_X12_part_117 ?_
      refine Tr.tp (6 * g126_0 + 2) ((w32_id (by and_intros <;> omega)).trans (by omega)) ?_
      refine Tr.aload_n (pc := 118) (i := 0) d_X12_part_118 rfl rfl ?_
      refine Tr.iconst (pc := 119) d_X12_part_119 (by decide) ?_
      refine Tr.sipush (pc := 120) d_X12_part_120 rfl (by decide) ?_
      refine Tr.callV (pc := 123) (as := [_, _]) d_X12_part_123 s_12_516 ok_X12_number rfl rfl (Nat.le_of_ble_eq_true rfl) (Nat.le_of_ble_eq_true rfl) (by decide) (ty_120 hS.1.1) ?_
      refine Tr.imp (Tr.deep (by decide) (ns_X12_number_120_w1 (G120_3 := s104_120_3) (G120_4 := s104_120_4) (G120_5 := s104_120_5) (G120_7 := s104_120_7) (G120_8 := s104_120_8) (G9010_0 := s104_9010_0) hS.1 (((Wr.b w107 rfl).trans es104_120_3)) (((Wr.b w107 rfl).trans es104_120_4)) (((Wr.b w107 rfl).trans es104_120_5)) (((Wr.b w107 rfl).trans es104_120_7)) (((Wr.b w107 rfl).trans es104_120_8)) (((tav_of ((Wr.b w107 rfl).trans rfl) ((Wr.b w107 rfl).trans rfl)).trans es104_9010_0)) 0 (by omega) 999 (by omega) (by first | exact (hd_o z104_0) | exact (hd_o z104_0).elim (fun h1 => by omega) (fun h1 => by omega)) (by omega) (by first | exact (hd_o z104_2) | exact (hd_o z104_2).elim (fun h1 => by omega) (fun h1 => h1.elim (fun h1 => by omega) (fun h1 => by omega))))) ?_
      rintro M123 _ ⟨h123, s123_120_3, s123_120_4, s123_120_5, s123_120_7, s123_120_8, s123_9010_0, es123_120_3, bs123_120_3, es123_120_4, bs123_120_4, es123_120_5, bs123_120_5, es123_120_7, bs123_120_7, es123_120_8, bs123_120_8, es123_9010_0, bs123_9010_0, r123, rfl, lr123, ur123, z123_0, z123_1, z123_2, z123_3, z123_4, z123_5, z123_6⟩
      have hS := St.tr hS h123 (by decide) (by decide)
      refine Tr.sc [(0, r123), (0, (6 * g126_0 + 2)), (2, 131)] rfl ?_
      have kx_126_0 : rd M123 126 0 = g126_0 := ((kp_X12_number_120_w1_126_0 h123).trans ((Wr.b w107 rfl).trans ((kp_X12_number_120_w1_126_0 h104).trans ((kp_X12_must__120_w4_126_0 h87).trans ((Wr.b w82 rfl).trans ((kp_X12_number_120_w1_126_0 h79).trans ((kp_X12_must__120_w3_126_0 h63).trans ((Wr.b w58 rfl).trans ((kp_X12_fresh_120_w1_126_0 h55).trans ((kp_X12_counts_120_w1_126_0 h20).trans k20_126_0))))))))))
      refine Tr.iastS (pc := 126) (P := St Pm0 ws_X12_part_120_w1 as_X12_part_120_w1 M0) d_X12_part_126 (ty_131 hS.1.1) (by omega) (by omega) (sa_131 hS (by decide) (by and_intros <;> omega) (Pm0_rate hS.1.2.2.2.2 hS.1.2.1 (by omega) (by exact (hd_o t20_0).elim (fun h1 => (hd_o z20_6).elim (fun h2 => by omega) (fun h2 => by omega)) (fun h1 => (ne_o h1.2).elim (fun h2 => by omega) (fun h2 => by omega))))) (fun M126 hS w126 => ?_)
      refine Tr.aload_n (pc := 127) (i := 0) d_X12_part_127 rfl rfl ?_
      refine Tr.ldc2 (pc := 128) d_X12_part_128 kl_12_409 (by decide) ?_
      refine Tr.callV (pc := 131) (as := [_]) d_X12_part_131 s_12_512 ok_X12_must_ rfl rfl (Nat.le_of_ble_eq_true rfl) (Nat.le_of_ble_eq_true rfl) (by decide) (ty_120 hS.1.1) ?_
      refine Tr.imp (Tr.deep (by decide) (ns_X12_must__120_w5 (G120_3 := s123_120_3) (G120_4 := s123_120_4) (G120_5 := s123_120_5) (G120_7 := s123_120_7) (G120_8 := s123_120_8) (G9010_0 := s123_9010_0) hS.1 (((Wr.b w126 rfl).trans es123_120_3)) (((Wr.b w126 rfl).trans es123_120_4)) (((Wr.b w126 rfl).trans es123_120_5)) (((Wr.b w126 rfl).trans es123_120_7)) (((Wr.b w126 rfl).trans es123_120_8)) (((tav_of ((Wr.b w126 rfl).trans rfl) ((Wr.b w126 rfl).trans rfl)).trans es123_9010_0)) 28526 (by omega) (by first | exact (hd_o z123_0) | exact (hd_o z123_0).elim (fun h1 => by omega) (fun h1 => by omega)) (by omega) (by first | exact (hd_o z123_2) | exact (hd_o z123_2).elim (fun h1 => by omega) (fun h1 => h1.elim (fun h1 => by omega) (fun h1 => by omega))))) ?_
      rintro M131 _ ⟨h131, s131_120_3, s131_120_4, s131_120_5, s131_120_7, s131_120_8, s131_9010_0, es131_120_3, bs131_120_3, es131_120_4, bs131_120_4, es131_120_5, bs131_120_5, es131_120_7, bs131_120_7, es131_120_8, bs131_120_8, es131_9010_0, bs131_9010_0, rfl, z131_0, z131_1, z131_2, z131_3, z131_4, z131_5⟩
      have hS := St.tr hS h131 (by decide) (by decide)
      refine Tr.sc [] rfl ?_
      refine Tr.aload_n (pc := 134) (i := 0) d_X12_part_134 rfl rfl ?_
      refine Tr.getf (pc := 135) d_X12_part_135 f_12_79 (by decide) (by decide) (ty_120 hS.1.1) ?_
      refine Tr.tp 131 (fx_120_22 hS.1.1) ?_
      refine Tr.bipush (pc := 138) d_X12_part_138 rfl (by decide) ?_
      refine Tr.iload_n (pc := 140) (i := 1) d_X12_part_140 rfl rfl ?_
      refine Tr.imul (pc := 141) d_X12_part_141 ?_
      refine Tr.tp (6 * g126_0) ((w32_id (by and_intros <;> omega)).trans (by omega)) ?_
      refine Tr.iconst (pc := 142) d_X12_part_142 (by decide) ?_
      refine Tr.iadd (pc := 143) d_X12_part_143 ?_
      refine Tr.tp (6 * g126_0 + 3) ((w32_id (by and_intros <;> omega)).trans (by omega)) ?_
      refine Tr.aload_n (pc := 144) (i := 0) d_X12_part_144 rfl rfl ?_
      refine Tr.iconst (pc := 145) d_X12_part_145 (by decide) ?_
      refine Tr.sipush (pc := 146) d_X12_part_146 rfl (by decide) ?_
      refine Tr.callV (pc := 149) (as := [_, _]) d_X12_part_149 s_12_516 ok_X12_number rfl rfl (Nat.le_of_ble_eq_true rfl) (Nat.le_of_ble_eq_true rfl) (by decide) (ty_120 hS.1.1) ?_
      refine Tr.imp (Tr.deep (by decide) (ns_X12_number_120_w1 (G120_3 := s131_120_3) (G120_4 := s131_120_4) (G120_5 := s131_120_5) (G120_7 := s131_120_7) (G120_8 := s131_120_8) (G9010_0 := s131_9010_0) hS.1 (es131_120_3) (es131_120_4) (es131_120_5) (es131_120_7) (es131_120_8) (es131_9010_0) 0 (by omega) 999 (by omega) (by first | exact (hd_o z131_0) | exact (hd_o z131_0).elim (fun h1 => by omega) (fun h1 => by omega)) (by omega) (by first | exact (hd_o z131_2) | exact (hd_o z131_2).elim (fun h1 => by omega) (fun h1 => h1.elim (fun h1 => by omega) (fun h1 => by omega))))) ?_
      rintro M149 _ ⟨h149, s149_120_3, s149_120_4, s149_120_5, s149_120_7, s149_120_8, s149_9010_0, es149_120_3, bs149_120_3, es149_120_4, bs149_120_4, es149_120_5, bs149_120_5, es149_120_7, bs149_120_7, es149_120_8, bs149_120_8, es149_9010_0, bs149_9010_0, r149, rfl, lr149, ur149, z149_0, z149_1, z149_2, z149_3, z149_4, z149_5, z149_6⟩
      have hS := St.tr hS h149 (by decide) (by decide)
      refine Tr.sc [(0, r149), (0, (6 * g126_0 + 3)), (2, 131)] rfl ?_
      have kx_126_0 : rd M149 126 0 = g126_0 := ((kp_X12_number_120_w1_126_0 h149).trans ((kp_X12_must__120_w5_126_0 h131).trans ((Wr.b w126 rfl).trans ((kp_X12_number_120_w1_126_0 h123).trans ((Wr.b w107 rfl).trans ((kp_X12_number_120_w1_126_0 h104).trans ((kp_X12_must__120_w4_126_0 h87).trans ((Wr.b w82 rfl).trans ((kp_X12_number_120_w1_126_0 h79).trans ((kp_X12_must__120_w3_126_0 h63).trans ((Wr.b w58 rfl).trans ((kp_X12_fresh_120_w1_126_0 h55).trans ((kp_X12_counts_120_w1_126_0 h20).trans k20_126_0)))))))))))))
      refine Tr.iastS (pc := 152) (P := St Pm0 ws_X12_part_120_w1 as_X12_part_120_w1 M0) d_X12_part_152 (ty_131 hS.1.1) (by omega) (by omega) (sa_131 hS (by decide) (by and_intros <;> omega) (Pm0_rate hS.1.2.2.2.2 hS.1.2.1 (by omega) (by exact (hd_o t20_0).elim (fun h1 => (hd_o z20_6).elim (fun h2 => by omega) (fun h2 => by omega)) (fun h1 => (ne_o h1.2).elim (fun h2 => by omega) (fun h2 => by omega))))) (fun M152 hS w152 => ?_)
      refine Tr.aload_n (pc := 153) (i := 0) d_X12_part_153 rfl rfl ?_
      refine Tr.ldc2 (pc := 154) d_X12_part_154 kl_12_411 (by decide) ?_
      refine Tr.callV (pc := 157) (as := [_]) d_X12_part_157 s_12_512 ok_X12_must_ rfl rfl (Nat.le_of_ble_eq_true rfl) (Nat.le_of_ble_eq_true rfl) (by decide) (ty_120 hS.1.1) ?_
      refine Tr.imp (Tr.deep (by decide) (ns_X12_must__120_w4 (G120_3 := s149_120_3) (G120_4 := s149_120_4) (G120_5 := s149_120_5) (G120_7 := s149_120_7) (G120_8 := s149_120_8) (G9010_0 := s149_9010_0) hS.1 (((Wr.b w152 rfl).trans es149_120_3)) (((Wr.b w152 rfl).trans es149_120_4)) (((Wr.b w152 rfl).trans es149_120_5)) (((Wr.b w152 rfl).trans es149_120_7)) (((Wr.b w152 rfl).trans es149_120_8)) (((tav_of ((Wr.b w152 rfl).trans rfl) ((Wr.b w152 rfl).trans rfl)).trans es149_9010_0)) 2003792491 (by omega) (by first | exact (hd_o z149_0) | exact (hd_o z149_0).elim (fun h1 => by omega) (fun h1 => by omega)) (by omega) (by first | exact (hd_o z149_2) | exact (hd_o z149_2).elim (fun h1 => by omega) (fun h1 => h1.elim (fun h1 => by omega) (fun h1 => by omega))))) ?_
      rintro M157 _ ⟨h157, s157_120_3, s157_120_4, s157_120_5, s157_120_7, s157_120_8, s157_9010_0, es157_120_3, bs157_120_3, es157_120_4, bs157_120_4, es157_120_5, bs157_120_5, es157_120_7, bs157_120_7, es157_120_8, bs157_120_8, es157_9010_0, bs157_9010_0, rfl, z157_0, z157_1, z157_2, z157_3, z157_4, z157_5⟩
      have hS := St.tr hS h157 (by decide) (by decide)
      refine Tr.sc [] rfl ?_
      refine Tr.aload_n (pc := 160) (i := 0) d_X12_part_160 rfl rfl ?_
      refine Tr.getf (pc := 161) d_X12_part_161 f_12_79 (by decide) (by decide) (ty_120 hS.1.1) ?_
      refine Tr.tp 131 (fx_120_22 hS.1.1) ?_
      refine Tr.bipush (pc := 164) d_X12_part_164 rfl (by decide) ?_
      refine Tr.iload_n (pc := 166) (i := 1) d_X12_part_166 rfl rfl ?_
      refine Tr.imul (pc := 167) d_X12_part_167 ?_
      refine Tr.tp (6 * g126_0) ((w32_id (by and_intros <;> omega)).trans (by omega)) ?_
      refine Tr.iconst (pc := 168) d_X12_part_168 (by decide) ?_
      refine Tr.iadd (pc := 169) d_X12_part_169 ?_
      refine Tr.tp (6 * g126_0 + 4) ((w32_id (by and_intros <;> omega)).trans (by omega)) ?_
      refine Tr.aload_n (pc := 170) (i := 0) d_X12_part_170 rfl rfl ?_
      refine Tr.iconst (pc := 171) d_X12_part_171 (by decide) ?_
      refine Tr.sipush (pc := 172) d_X12_part_172 rfl (by decide) ?_
      refine Tr.callV (pc := 175) (as := [_, _]) d_X12_part_175 s_12_516 ok_X12_number rfl rfl (Nat.le_of_ble_eq_true rfl) (Nat.le_of_ble_eq_true rfl) (by decide) (ty_120 hS.1.1) ?_
      refine Tr.imp (Tr.deep (by decide) (ns_X12_number_120_w1 (G120_3 := s157_120_3) (G120_4 := s157_120_4) (G120_5 := s157_120_5) (G120_7 := s157_120_7) (G120_8 := s157_120_8) (G9010_0 := s157_9010_0) hS.1 (es157_120_3) (es157_120_4) (es157_120_5) (es157_120_7) (es157_120_8) (es157_9010_0) 0 (by omega) 999 (by omega) (by first | exact (hd_o z157_0) | exact (hd_o z157_0).elim (fun h1 => by omega) (fun h1 => by omega)) (by omega) (by first | exact (hd_o z157_2) | exact (hd_o z157_2).elim (fun h1 => by omega) (fun h1 => h1.elim (fun h1 => by omega) (fun h1 => by omega))))) ?_
      rintro M175 _ ⟨h175, s175_120_3, s175_120_4, s175_120_5, s175_120_7, s175_120_8, s175_9010_0, es175_120_3, bs175_120_3, es175_120_4, bs175_120_4, es175_120_5, bs175_120_5, es175_120_7, bs175_120_7, es175_120_8, bs175_120_8, es175_9010_0, bs175_9010_0, r175, rfl, lr175, ur175, z175_0, z175_1, z175_2, z175_3, z175_4, z175_5, z175_6⟩
      have hS := St.tr hS h175 (by decide) (by decide)
      refine Tr.sc [(0, r175), (0, (6 * g126_0 + 4)), (2, 131)] rfl ?_
      have kx_126_0 : rd M175 126 0 = g126_0 := ((kp_X12_number_120_w1_126_0 h175).trans ((kp_X12_must__120_w4_126_0 h157).trans ((Wr.b w152 rfl).trans ((kp_X12_number_120_w1_126_0 h149).trans ((kp_X12_must__120_w5_126_0 h131).trans ((Wr.b w126 rfl).trans ((kp_X12_number_120_w1_126_0 h123).trans ((Wr.b w107 rfl).trans ((kp_X12_number_120_w1_126_0 h104).trans ((kp_X12_must__120_w4_126_0 h87).trans ((Wr.b w82 rfl).trans ((kp_X12_number_120_w1_126_0 h79).trans ((kp_X12_must__120_w3_126_0 h63).trans ((Wr.b w58 rfl).trans ((kp_X12_fresh_120_w1_126_0 h55).trans ((kp_X12_counts_120_w1_126_0 h20).trans k20_126_0))))))))))))))))
      refine Tr.iastS (pc := 178) (P := St Pm0 ws_X12_part_120_w1 as_X12_part_120_w1 M0) d_X12_part_178 (ty_131 hS.1.1) (by omega) (by omega) (sa_131 hS (by decide) (by and_intros <;> omega) (Pm0_rate hS.1.2.2.2.2 hS.1.2.1 (by omega) (by exact (hd_o t20_0).elim (fun h1 => (hd_o z20_6).elim (fun h2 => by omega) (fun h2 => by omega)) (fun h1 => (ne_o h1.2).elim (fun h2 => by omega) (fun h2 => by omega))))) (fun M178 hS w178 => ?_)
      refine Tr.aload_n (pc := 179) (i := 0) d_X12_part_179 rfl rfl ?_
      refine Tr.ldc2 (pc := 180) d_X12_part_180 kl_12_413 (by decide) ?_
      refine Tr.callV (pc := 183) (as := [_]) d_X12_part_183 s_12_512 ok_X12_must_ rfl rfl (Nat.le_of_ble_eq_true rfl) (Nat.le_of_ble_eq_true rfl) (by decide) (ty_120 hS.1.1) ?_
      refine Tr.imp (Tr.deep (by decide) (ns_X12_must__120_w4 (G120_3 := s175_120_3) (G120_4 := s175_120_4) (G120_5 := s175_120_5) (G120_7 := s175_120_7) (G120_8 := s175_120_8) (G9010_0 := s175_9010_0) hS.1 (((Wr.b w178 rfl).trans es175_120_3)) (((Wr.b w178 rfl).trans es175_120_4)) (((Wr.b w178 rfl).trans es175_120_5)) (((Wr.b w178 rfl).trans es175_120_7)) (((Wr.b w178 rfl).trans es175_120_8)) (((tav_of ((Wr.b w178 rfl).trans rfl) ((Wr.b w178 rfl).trans rfl)).trans es175_9010_0)) 1952541036 (by omega) (by first | exact (hd_o z175_0) | exact (hd_o z175_0).elim (fun h1 => by omega) (fun h1 => by omega)) (by omega) (by first | exact (hd_o z175_2) | exact (hd_o z175_2).elim (fun h1 => by omega) (fun h1 => h1.elim (fun h1 => by omega) (fun h1 => by omega))))) ?_
      rintro M183 _ ⟨h183, s183_120_3, s183_120_4, s183_120_5, s183_120_7, s183_120_8, s183_9010_0, es183_120_3, bs183_120_3, es183_120_4, bs183_120_4, es183_120_5, bs183_120_5, es183_120_7, bs183_120_7, es183_120_8, bs183_120_8, es183_9010_0, bs183_9010_0, rfl, z183_0, z183_1, z183_2, z183_3, z183_4, z183_5⟩
      have hS := St.tr hS h183 (by decide) (by decide)
      refine Tr.sc [] rfl ?_
      refine Tr.aload_n (pc := 186) (i := 0) d_X12_part_186 rfl rfl ?_
      refine Tr.getf (pc := 187) d_X12_part_187 f_12_79 (by decide) (by decide) (ty_120 hS.1.1) ?_
      refine Tr.tp 131 (fx_120_22 hS.1.1) ?_
      refine Tr.bipush (pc := 190) d_X12_part_190 rfl (by decide) ?_
      refine Tr.iload_n (pc := 192) (i := 1) d_X12_part_192 rfl rfl ?_
      refine Tr.imul (pc := 193) d_X12_part_193 ?_
      refine Tr.tp (6 * g126_0) ((w32_id (by and_intros <;> omega)).trans (by omega)) ?_
      refine Tr.iconst (pc := 194) d_X12_part_194 (by decide) ?_
      refine Tr.iadd (pc := 195) d_X12_part_195 ?_
      refine Tr.tp (6 * g126_0 + 5) ((w32_id (by and_intros <;> omega)).trans (by omega)) ?_
      refine Tr.aload_n (pc := 196) (i := 0) d_X12_part_196 rfl rfl ?_
      refine Tr.iconst (pc := 197) d_X12_part_197 (by decide) ?_
      refine Tr.bipush (pc := 198) d_X12_part_198 rfl (by decide) ?_
      refine Tr.callV (pc := 200) (as := [_, _]) d_X12_part_200 s_12_516 ok_X12_number rfl rfl (Nat.le_of_ble_eq_true rfl) (Nat.le_of_ble_eq_true rfl) (by decide) (ty_120 hS.1.1) ?_
      refine Tr.imp (Tr.deep (by decide) (ns_X12_number_120_w1 (G120_3 := s183_120_3) (G120_4 := s183_120_4) (G120_5 := s183_120_5) (G120_7 := s183_120_7) (G120_8 := s183_120_8) (G9010_0 := s183_9010_0) hS.1 (es183_120_3) (es183_120_4) (es183_120_5) (es183_120_7) (es183_120_8) (es183_9010_0) 0 (by omega) 50 (by omega) (by first | exact (hd_o z183_0) | exact (hd_o z183_0).elim (fun h1 => by omega) (fun h1 => by omega)) (by omega) (by first | exact (hd_o z183_2) | exact (hd_o z183_2).elim (fun h1 => by omega) (fun h1 => h1.elim (fun h1 => by omega) (fun h1 => by omega))))) ?_
      rintro M200 _ ⟨h200, s200_120_3, s200_120_4, s200_120_5, s200_120_7, s200_120_8, s200_9010_0, es200_120_3, bs200_120_3, es200_120_4, bs200_120_4, es200_120_5, bs200_120_5, es200_120_7, bs200_120_7, es200_120_8, bs200_120_8, es200_9010_0, bs200_9010_0, r200, rfl, lr200, ur200, z200_0, z200_1, z200_2, z200_3, z200_4, z200_5, z200_6⟩
      have hS := St.tr hS h200 (by decide) (by decide)
      refine Tr.sc [(0, r200), (0, (6 * g126_0 + 5)), (2, 131)] rfl ?_
      have kx_126_0 : rd M200 126 0 = g126_0 := ((kp_X12_number_120_w1_126_0 h200).trans ((kp_X12_must__120_w4_126_0 h183).trans ((Wr.b w178 rfl).trans ((kp_X12_number_120_w1_126_0 h175).trans ((kp_X12_must__120_w4_126_0 h157).trans ((Wr.b w152 rfl).trans ((kp_X12_number_120_w1_126_0 h149).trans ((kp_X12_must__120_w5_126_0 h131).trans ((Wr.b w126 rfl).trans ((kp_X12_number_120_w1_126_0 h123).trans ((Wr.b w107 rfl).trans ((kp_X12_number_120_w1_126_0 h104).trans ((kp_X12_must__120_w4_126_0 h87).trans ((Wr.b w82 rfl).trans ((kp_X12_number_120_w1_126_0 h79).trans ((kp_X12_must__120_w3_126_0 h63).trans ((Wr.b w58 rfl).trans ((kp_X12_fresh_120_w1_126_0 h55).trans ((kp_X12_counts_120_w1_126_0 h20).trans k20_126_0)))))))))))))))))))
      refine Tr.iastS (pc := 203) (P := St Pm0 ws_X12_part_120_w1 as_X12_part_120_w1 M0) d_X12_part_203 (ty_131 hS.1.1) (by omega) (by omega) (sa_131 hS (by decide) (by and_intros <;> omega) (Pm0_rate hS.1.2.2.2.2 hS.1.2.1 (by omega) (by exact (hd_o t20_0).elim (fun h1 => (hd_o z20_6).elim (fun h2 => by omega) (fun h2 => by omega)) (fun h1 => (ne_o h1.2).elim (fun h2 => by omega) (fun h2 => by omega))))) (fun M203 hS w203 => ?_)
      refine Tr.aload_n (pc := 204) (i := 0) d_X12_part_204 rfl rfl ?_
      refine Tr.getf (pc := 205) d_X12_part_205 f_12_36 (by decide) (by decide) (ty_120 hS.1.1) ?_
      refine Tr.tp s200_120_8 ((Wr.b w203 rfl).trans es200_120_8) ?_
      refine Tr.if_ne (pc := 208) (tgt := 224) d_X12_part_208 rfl (fun c208 => ?_) (fun c208 => ?_)
      · have c208b : 1 ≤ s200_120_8 ∧ s200_120_8 ≤ 5 := by omega
        replace c208 := hd_i c208
        have kr_120_3 : rd M203 120 3 = s200_120_3 := ((Wr.b w203 rfl).trans es200_120_3)
        have kr_120_4 : rd M203 120 4 = s200_120_4 := ((Wr.b w203 rfl).trans es200_120_4)
        have kr_120_5 : rd M203 120 5 = s200_120_5 := ((Wr.b w203 rfl).trans es200_120_5)
        have kr_120_7 : rd M203 120 7 = s200_120_7 := ((Wr.b w203 rfl).trans es200_120_7)
        have kr_120_8 : rd M203 120 8 = s200_120_8 := ((Wr.b w203 rfl).trans es200_120_8)
        have kr_9010_0 : tav M203 = s200_9010_0 := ((tav_of ((Wr.b w203 rfl).trans rfl) ((Wr.b w203 rfl).trans rfl)).trans es200_9010_0)
        exact Tr.vret (pc := 224) d_X12_part_224 rfl ⟨hS, rfl, (by first | exact (hd_o z200_0) | exact (hd_o z200_0).elim (fun h1 => by omega) (fun h1 => by omega)), (by omega), (by first | exact (hd_o z200_2) | exact (hd_o z200_2).elim (fun h1 => by omega) (fun h1 => h1.elim (fun h1 => by omega) (fun h1 => by omega))), (by and_intros <;> omega), (by omega), (by omega)⟩
      · refine Tr.aload_n (pc := 211) (i := 0) d_X12_part_211 rfl rfl ?_
        refine Tr.getf (pc := 212) d_X12_part_212 f_12_63 (by decide) (by decide) (ty_120 hS.1.1) ?_
        refine Tr.tp 126 (fx_120_17 hS.1.1) ?_
        refine Tr.aload_n (pc := 215) (i := 0) d_X12_part_215 rfl rfl ?_
        refine Tr.getf (pc := 216) d_X12_part_216 f_12_124 (by decide) (by decide) (ty_120 hS.1.1) ?_
        refine Tr.tp 0 ((kp_X12_part_120_w1_120_37 hS).trans en_120_37) ?_
        refine Tr.dup2 (pc := 219) d_X12_part_219 ne01 ne21 ?_
        refine Tr.iald (pc := 220) d_X12_part_220 (ty_126 hS.1.1) (by omega) (by omega) ?_
        refine Tr.tp g126_0 ((Wr.b w203 rfl).trans ((kp_X12_number_120_w1_126_0 h200).trans ((kp_X12_must__120_w4_126_0 h183).trans ((Wr.b w178 rfl).trans ((kp_X12_number_120_w1_126_0 h175).trans ((kp_X12_must__120_w4_126_0 h157).trans ((Wr.b w152 rfl).trans ((kp_X12_number_120_w1_126_0 h149).trans ((kp_X12_must__120_w5_126_0 h131).trans ((Wr.b w126 rfl).trans ((kp_X12_number_120_w1_126_0 h123).trans ((Wr.b w107 rfl).trans ((kp_X12_number_120_w1_126_0 h104).trans ((kp_X12_must__120_w4_126_0 h87).trans ((Wr.b w82 rfl).trans ((kp_X12_number_120_w1_126_0 h79).trans ((kp_X12_must__120_w3_126_0 h63).trans ((Wr.b w58 rfl).trans ((kp_X12_fresh_120_w1_126_0 h55).trans ((kp_X12_counts_120_w1_126_0 h20).trans k20_126_0)))))))))))))))))))) ?_
        refine Tr.iconst (pc := 221) d_X12_part_221 (by decide) ?_
        refine Tr.iadd (pc := 222) d_X12_part_222 ?_
        refine Tr.tp (g126_0 + 1) ((w32_id (by and_intros <;> omega)).trans (by omega)) ?_
        have hr5 : rd M203 131 (6 * g126_0 + 5) = r200 := w203.1
        have kx_126_0 : rd M203 126 0 = g126_0 := ((Wr.b w203 rfl).trans ((kp_X12_number_120_w1_126_0 h200).trans ((kp_X12_must__120_w4_126_0 h183).trans ((Wr.b w178 rfl).trans ((kp_X12_number_120_w1_126_0 h175).trans ((kp_X12_must__120_w4_126_0 h157).trans ((Wr.b w152 rfl).trans ((kp_X12_number_120_w1_126_0 h149).trans ((kp_X12_must__120_w5_126_0 h131).trans ((Wr.b w126 rfl).trans ((kp_X12_number_120_w1_126_0 h123).trans ((Wr.b w107 rfl).trans ((kp_X12_number_120_w1_126_0 h104).trans ((kp_X12_must__120_w4_126_0 h87).trans ((Wr.b w82 rfl).trans ((kp_X12_number_120_w1_126_0 h79).trans ((kp_X12_must__120_w3_126_0 h63).trans ((Wr.b w58 rfl).trans ((kp_X12_fresh_120_w1_126_0 h55).trans ((kp_X12_counts_120_w1_126_0 h20).trans k20_126_0))))))))))))))))))))
        refine Tr.iastS (pc := 223) (P := St Pm0 ws_X12_part_120_w1 as_X12_part_120_w1 M0) d_X12_part_223 (ty_126 hS.1.1) (by omega) (by omega) (st_126_0 hS (by decide) (by exact (hd_o t20_0).elim (fun h1 => (hd_o z20_6).elim (fun h2 => by omega) (fun h2 => by omega)) (fun h1 => (ne_o h1.2).elim (fun h2 => by omega) (fun h2 => by omega))) (Pm0_parts hS.1.2.2.2.2 (by omega) (by have e9 : rd M203 126 0 = g126_0 := ((Wr.b w203 rfl).trans ((kp_X12_number_120_w1_126_0 h200).trans ((kp_X12_must__120_w4_126_0 h183).trans ((Wr.b w178 rfl).trans ((kp_X12_number_120_w1_126_0 h175).trans ((kp_X12_must__120_w4_126_0 h157).trans ((Wr.b w152 rfl).trans ((kp_X12_number_120_w1_126_0 h149).trans ((kp_X12_must__120_w5_126_0 h131).trans ((Wr.b w126 rfl).trans ((kp_X12_number_120_w1_126_0 h123).trans ((Wr.b w107 rfl).trans ((kp_X12_number_120_w1_126_0 h104).trans ((kp_X12_must__120_w4_126_0 h87).trans ((Wr.b w82 rfl).trans ((kp_X12_number_120_w1_126_0 h79).trans ((kp_X12_must__120_w3_126_0 h63).trans ((Wr.b w58 rfl).trans ((kp_X12_fresh_120_w1_126_0 h55).trans ((kp_X12_counts_120_w1_126_0 h20).trans k20_126_0)))))))))))))))))))); rw [e9]; have e8 : rd M203 131 (0 + 6 * g126_0 + 5) = rd M203 131 (6 * g126_0 + 5) := congrArg _ (by omega); have e7 : r200 ≤ 50 := (by exact (hd_o z200_6).elim (fun h1 => by omega) (fun h1 => by omega)); omega))) (fun M223 hS w223 => ?_)
        have kr_120_3 : rd M223 120 3 = s200_120_3 := ((Wr.b w223 rfl).trans ((Wr.b w203 rfl).trans es200_120_3))
        have kr_120_4 : rd M223 120 4 = s200_120_4 := ((Wr.b w223 rfl).trans ((Wr.b w203 rfl).trans es200_120_4))
        have kr_120_5 : rd M223 120 5 = s200_120_5 := ((Wr.b w223 rfl).trans ((Wr.b w203 rfl).trans es200_120_5))
        have kr_120_7 : rd M223 120 7 = s200_120_7 := ((Wr.b w223 rfl).trans ((Wr.b w203 rfl).trans es200_120_7))
        have kr_120_8 : rd M223 120 8 = s200_120_8 := ((Wr.b w223 rfl).trans ((Wr.b w203 rfl).trans es200_120_8))
        have kr_9010_0 : tav M223 = s200_9010_0 := ((tav_of ((Wr.b w223 rfl).trans ((Wr.b w203 rfl).trans rfl)) ((Wr.b w223 rfl).trans ((Wr.b w203 rfl).trans rfl))).trans es200_9010_0)
        exact Tr.vret (pc := 224) d_X12_part_224 rfl ⟨hS, rfl, (by first | exact (hd_o z200_0) | exact (hd_o z200_0).elim (fun h1 => by omega) (fun h1 => by omega)), (by omega), (by first | exact (hd_o z200_2) | exact (hd_o z200_2).elim (fun h1 => by omega) (fun h1 => h1.elim (fun h1 => by omega) (fun h1 => by omega))), (by and_intros <;> omega), (by omega), (by exact (hd_o z200_5).elim (fun h1 => by omega) (fun h1 => by omega))⟩
    · have kr_120_3 : rd M20 120 3 = s20_120_3 := es20_120_3
      have kr_120_4 : rd M20 120 4 = s20_120_4 := es20_120_4
      have kr_120_5 : rd M20 120 5 = s20_120_5 := es20_120_5
      have kr_120_7 : rd M20 120 7 = s20_120_7 := es20_120_7
      have kr_120_8 : rd M20 120 8 = s20_120_8 := es20_120_8
      have kr_9010_0 : tav M20 = s20_9010_0 := es20_9010_0
      exact Tr.vret (pc := 30) d_X12_part_30 rfl ⟨hS, rfl, (by first | exact (hd_o z20_0) | exact (hd_o z20_0).elim (fun h1 => by omega) (fun h1 => by omega)), (by omega), (by first | exact (hd_o z20_2) | exact (hd_o z20_2).elim (fun h1 => by omega) (fun h1 => h1.elim (fun h1 => by omega) (fun h1 => by omega))), (by and_intros <;> omega), (by first | exact (hd_o z20_4) | exact (hd_o z20_4).elim (fun h1 => by omega) (fun h1 => by omega)), (by first | exact (hd_o z20_5) | exact (hd_o z20_5).elim (fun h1 => by omega) (fun h1 => by omega))⟩
  refine Tr.icmp_ne (pc := 12) (tgt := 19) d_X12_part_12 rfl (fun c12 => ?_) (fun c12 => ?_)
  · have c12b : 0 ≤ g126_0 ∧ g126_0 ≤ 5 := by omega
    replace c12 := hd_i c12
    refine Tr.iconst (pc := 19) d_X12_part_19 (by decide) ?_
    refine Tr.pick [0] (ls2 := [(0, (2, 120))]) rfl ?_
    exact J20 _ _ hS (by omega) eg120_3 eg120_4 eg120_5 eg120_7 eg120_8 eg126_0 eg9010_0 (by omega)
  · refine Tr.iconst (pc := 15) d_X12_part_15 (by decide) ?_
    refine Tr.goto (pc := 16) (tgt := 20) d_X12_part_16 rfl ?_
    refine Tr.pick [0] (ls2 := [(0, (2, 120))]) rfl ?_
    exact J20 _ _ hS (by omega) eg120_3 eg120_4 eg120_5 eg120_7 eg120_8 eg126_0 eg9010_0 (by omega)

set_option maxRecDepth 100000 in
set_option maxHeartbeats 4000000 in
theorem ns_X12_part_120_w1 {l : Launch} {K : EC} {M0 : Mem} {G120_3 G120_4 G120_5 G120_7 G120_8 G9010_0 : Int} (hI : In Pm0 M0) (k120_3 : rd M0 120 3 = G120_3) (k120_4 : rd M0 120 4 = G120_4) (k120_5 : rd M0 120 5 = G120_5) (k120_7 : rd M0 120 7 = G120_7) (k120_8 : rd M0 120 8 = G120_8) (k9010_0 : tav M0 = G9010_0) (en_120_37 : rd M0 120 37 = 0)   (hq0 : G120_3 = 0 ∨ G120_4 + 1 ≤ G120_5) (hq1 : G120_4 ≤ G120_5) (hq2 : G120_3 ≠ 1 ∨ G120_4 + 2 ≤ G120_5 ∨ G120_7 < 256) (hq3 : G120_3 ≠ 0) (hq4 : G120_8 = 0) : Tr l K 3 mX12_part 0 [(0, (2, 120))] [] M0 (fun M' r => St Pm0 ws_X12_part_120_w1 as_X12_part_120_w1 M0 M' ∧ ∃ S120_3 S120_4 S120_5 S120_7 S120_8 S9010_0 : Int, rd M' 120 3 = S120_3 ∧ (0 ≤ S120_3 ∧ S120_3 ≤ 3) ∧ rd M' 120 4 = S120_4 ∧ (0 ≤ S120_4 ∧ S120_4 ≤ 900) ∧ rd M' 120 5 = S120_5 ∧ (0 ≤ S120_5 ∧ S120_5 ≤ 900) ∧ rd M' 120 7 = S120_7 ∧ ((-9223372036854775808) ≤ S120_7 ∧ S120_7 ≤ 9223372036854775807) ∧ rd M' 120 8 = S120_8 ∧ (0 ≤ S120_8 ∧ S120_8 ≤ 5) ∧ tav M' = S9010_0 ∧ ((-1) ≤ S9010_0 ∧ S9010_0 ≤ 1800) ∧ r = none ∧ Hd (S120_3 = 0 ∨ S120_4 + 1 ≤ S120_5) ∧ (S120_4 ≤ S120_5) ∧ Hd (S120_3 ≠ 1 ∨ S120_4 + 2 ≤ S120_5 ∨ S120_7 < 256) ∧ (G120_4 ≤ S120_4 ∧ G120_5 ≤ S120_5 ∧ G9010_0 ≤ S9010_0) ∧ Hd (G120_8 = 0 ∨ S120_8 = G120_8) ∧ Hd (1 ≤ S120_8 ∨ G9010_0 < S9010_0)) := by
  subst k120_3
  subst k120_4
  subst k120_5
  subst k120_7
  subst k120_8
  subst k9010_0
  refine Tr.imp (sp_X12_part_120_w1 hI en_120_37 hq0 hq1 hq2 hq3 hq4) ?_
  rintro M' _ ⟨hS, rfl, z0, z1, z2, z3, z4, z5⟩
  exact ⟨hS, _, _, _, _, _, _, rfl, ir_120_3 hS.1.2.1, rfl, ir_120_4 hS.1.2.1, rfl, ir_120_5 hS.1.2.1, rfl, ir_120_7 hS.1.2.1, rfl, ir_120_8 hS.1.2.1, rfl, (tav_b hS.1.2.1), rfl, hd_i z0, z1, hd_i z2, z3, hd_i z4, hd_i z5⟩

def ws_X12_must_120_w1 : List (Int × Int) := [(120, 3), (120, 4), (120, 5), (120, 6), (120, 7), (120, 8), (120, 9)]
def as_X12_must_120_w1 : List Int := []
def q_X12_must_120_w1 (a1 : Int) (M0 M' : Mem) (r : Option PV) : Prop := St Pm0 ws_X12_must_120_w1 as_X12_must_120_w1 M0 M' ∧ r = none ∧ (rd M' 120 3 = 0 ∨ rd M' 120 4 + 1 ≤ rd M' 120 5) ∧ (rd M' 120 4 ≤ rd M' 120 5) ∧ (rd M' 120 3 ≠ 1 ∨ rd M' 120 4 + 2 ≤ rd M' 120 5 ∨ rd M' 120 7 < 256) ∧ (rd M0 120 4 ≤ rd M' 120 4 ∧ rd M0 120 5 ≤ rd M' 120 5 ∧ tav M0 ≤ tav M') ∧ (rd M0 120 8 = 0 ∨ rd M' 120 8 = rd M0 120 8) ∧ (1 ≤ rd M' 120 8 ∨ tav M0 < tav M')
set_option maxRecDepth 100000 in
set_option maxHeartbeats 4000000 in
theorem sp_X12_must_120_w1 {l : Launch} {K : EC} {M0 : Mem} (hI : In Pm0 M0)  (a1 : Int) (ha1 : 0 ≤ a1 ∧ a1 ≤ 300)  (hq0 : rd M0 120 3 = 0 ∨ rd M0 120 4 + 1 ≤ rd M0 120 5) (hq1 : rd M0 120 4 ≤ rd M0 120 5) (hq2 : rd M0 120 3 ≠ 1 ∨ rd M0 120 4 + 2 ≤ rd M0 120 5 ∨ rd M0 120 7 < 256) : Tr l K 2 mX12_must 0 [(0, (2, 120)), (1, (0, a1))] [] M0 (q_X12_must_120_w1 a1 M0) := by
  have hS : St Pm0 ws_X12_must_120_w1 as_X12_must_120_w1 M0 M0 := St.rf hI
  obtain ⟨g120_8, eg120_8⟩ : ∃ v, rd M0 120 8 = v := ⟨_, rfl⟩
  have bg120_8 : 0 ≤ g120_8 ∧ g120_8 ≤ 5 := by rw [← eg120_8]; exact ir_120_8 hI.2.1
  obtain ⟨g120_3, eg120_3⟩ : ∃ v, rd M0 120 3 = v := ⟨_, rfl⟩
  have bg120_3 : 0 ≤ g120_3 ∧ g120_3 ≤ 3 := by rw [← eg120_3]; exact ir_120_3 hI.2.1
  obtain ⟨g120_4, eg120_4⟩ : ∃ v, rd M0 120 4 = v := ⟨_, rfl⟩
  have bg120_4 : 0 ≤ g120_4 ∧ g120_4 ≤ 900 := by rw [← eg120_4]; exact ir_120_4 hI.2.1
  obtain ⟨g120_5, eg120_5⟩ : ∃ v, rd M0 120 5 = v := ⟨_, rfl⟩
  have bg120_5 : 0 ≤ g120_5 ∧ g120_5 ≤ 900 := by rw [← eg120_5]; exact ir_120_5 hI.2.1
  obtain ⟨g120_7, eg120_7⟩ : ∃ v, rd M0 120 7 = v := ⟨_, rfl⟩
  have bg120_7 : (-9223372036854775808) ≤ g120_7 ∧ g120_7 ≤ 9223372036854775807 := by rw [← eg120_7]; exact ir_120_7 hI.2.1
  obtain ⟨g9010_0, eg9010_0⟩ : ∃ v, tav M0 = v := ⟨_, rfl⟩
  have bg9010_0 : (-1) ≤ g9010_0 ∧ g9010_0 ≤ 1800 := by rw [← eg9010_0]; exact (tav_b hI.2.1)
  obtain ⟨g120_6, eg120_6⟩ : ∃ v, rd M0 120 6 = v := ⟨_, rfl⟩
  have bg120_6 : (-2147483648) ≤ g120_6 ∧ g120_6 ≤ 2147483647 := by rw [← eg120_6]; exact ir_120_6 hI.2.1
  replace hq0 := hd_i hq0
  replace hq2 := hd_i hq2
  refine Tr.aload_n (pc := 0) (i := 0) d_X12_must_0 rfl rfl ?_
  refine Tr.iload_n (pc := 1) (i := 1) d_X12_must_1 rfl rfl ?_
  refine Tr.callV (pc := 2) (as := [_]) d_X12_must_2 s_12_393 ok_X12_isSign rfl rfl (Nat.le_of_ble_eq_true rfl) (Nat.le_of_ble_eq_true rfl) (by decide) (ty_120 hS.1.1) ?_
  refine Tr.imp (Tr.deep (by decide) (ns_X12_isSign_120 (G120_3 := g120_3) (G120_6 := g120_6) hS.1.wk (eg120_3) (eg120_6) a1 (by and_intros <;> omega))) ?_
  rintro M2 _ ⟨h2, r2, rfl, lr2, ur2, z2_0⟩
  have h2 := St.rn h2 (Pm0.of hS.1.2.2.2.2 (fun _ => (ka_X12_isSign_120_131 h2 _)) (fun _ => (ka_X12_isSign_120_137 h2 _)) (fun _ => (ka_X12_isSign_120_138 h2 _)) (fun _ => (ka_X12_isSign_120_139 h2 _)) (fun _ => (ka_X12_isSign_120_140 h2 _)) (fun _ => (ka_X12_isSign_120_141 h2 _)) (fun _ => (ka_X12_isSign_120_142 h2 _)) (fun _ => (ka_X12_isSign_120_143 h2 _)) (fun _ => (ka_X12_isSign_120_151 h2 _)) (fun _ => (ka_X12_isSign_120_152 h2 _)) (kp_X12_isSign_120_126_0 h2) (kp_X12_isSign_120_126_1 h2) (kp_X12_isSign_120_136_0 h2) (kp_X12_isSign_120_136_1 h2) (kp_X12_isSign_120_123_0 h2) (kp_X12_isSign_120_123_1 h2) (kp_X12_isSign_120_124_0 h2) (kp_X12_isSign_120_124_1 h2) (kp_X12_isSign_120_120_8 h2) (kp_X12_isSign_120_120_36 h2) (kp_X12_isSign_120_120_50 h2))
  have hS := St.tr hS h2 (by decide) (by decide)
  refine Tr.sc [(0, r2)] rfl ?_
  have J17 : ∀ (M : Mem) (u17_120_8 : Int), St Pm0 ws_X12_must_120_w1 as_X12_must_120_w1 M0 M → (0 ≤ u17_120_8 ∧ u17_120_8 ≤ 5) → rd M 120 3 = g120_3 → rd M 120 4 = g120_4 → rd M 120 5 = g120_5 → rd M 120 6 = g120_6 → rd M 120 7 = g120_7 → rd M 120 8 = u17_120_8 → tav M = g9010_0 → (u17_120_8 ≠ 0 ∨ g120_3 ≠ 0) → (g120_8 = 0 ∨ u17_120_8 = g120_8) → Tr l K 2 mX12_must 17 [(0, (2, 120))] [] M (q_X12_must_120_w1 a1 M0) := by
    intro M u17_120_8 hS bu17_120_8 k17_120_3 k17_120_4 k17_120_5 k17_120_6 k17_120_7 k17_120_8 k17_9010_0 t17_0 t17_1
    replace t17_0 := hd_i t17_0
    replace t17_1 := hd_i t17_1
    refine Tr.aload_n (pc := 17) (i := 0) d_X12_must_17 rfl rfl ?_
    refine Tr.getf (pc := 18) d_X12_must_18 f_12_36 (by decide) (by decide) (ty_120 hS.1.1) ?_
    refine Tr.tp u17_120_8 k17_120_8 ?_
    refine Tr.if_ne (pc := 21) (tgt := 28) d_X12_must_21 rfl (fun c21 => ?_) (fun c21 => ?_)
    · have c21b : 1 ≤ u17_120_8 ∧ u17_120_8 ≤ 5 := by omega
      replace c21 := hd_i c21
      have kr_120_3 : rd M 120 3 = g120_3 := k17_120_3
      have kr_120_4 : rd M 120 4 = g120_4 := k17_120_4
      have kr_120_5 : rd M 120 5 = g120_5 := k17_120_5
      have kr_120_7 : rd M 120 7 = g120_7 := k17_120_7
      have kr_120_8 : rd M 120 8 = u17_120_8 := k17_120_8
      have kr_9010_0 : tav M = g9010_0 := k17_9010_0
      exact Tr.vret (pc := 28) d_X12_must_28 rfl ⟨hS, rfl, (by first | exact (hd_o hq0) | exact (hd_o hq0).elim (fun h1 => by omega) (fun h1 => by omega)), (by omega), (by first | exact (hd_o hq2) | exact (hd_o hq2).elim (fun h1 => by omega) (fun h1 => h1.elim (fun h1 => by omega) (fun h1 => by omega))), (by and_intros <;> omega), (by first | exact (hd_o t17_1) | exact (hd_o t17_1).elim (fun h1 => by omega) (fun h1 => by omega)), (by omega)⟩
    · refine Tr.aload_n (pc := 24) (i := 0) d_X12_must_24 rfl rfl ?_
      refine Tr.callV (pc := 25) (as := []) d_X12_must_25 s_12_396 ok_X12_next rfl rfl (Nat.le_of_ble_eq_true rfl) (Nat.le_of_ble_eq_true rfl) (by decide) (ty_120 hS.1.1) ?_
      refine Tr.imp (Tr.deep (by decide) (ns_X12_next_120_w1 (G120_3 := g120_3) (G120_5 := g120_5) (G120_8 := u17_120_8) (G9010_0 := g9010_0) hS.1 (k17_120_3) (k17_120_5) (k17_120_8) (k17_9010_0))) ?_
      rintro M25 _ ⟨h25, s25_120_3, s25_120_4, s25_120_5, s25_120_7, s25_120_8, s25_9010_0, es25_120_3, bs25_120_3, es25_120_4, bs25_120_4, es25_120_5, bs25_120_5, es25_120_7, bs25_120_7, es25_120_8, bs25_120_8, es25_9010_0, bs25_9010_0, rfl, z25_0, z25_1, z25_2, z25_3, z25_4, z25_5, z25_6⟩
      have hS := St.tr hS h25 (by decide) (by decide)
      refine Tr.sc [] rfl ?_
      have kr_120_3 : rd M25 120 3 = s25_120_3 := es25_120_3
      have kr_120_4 : rd M25 120 4 = s25_120_4 := es25_120_4
      have kr_120_5 : rd M25 120 5 = s25_120_5 := es25_120_5
      have kr_120_7 : rd M25 120 7 = s25_120_7 := es25_120_7
      have kr_120_8 : rd M25 120 8 = s25_120_8 := es25_120_8
      have kr_9010_0 : tav M25 = s25_9010_0 := es25_9010_0
      exact Tr.vret (pc := 28) d_X12_must_28 rfl ⟨hS, rfl, (by first | exact (hd_o z25_0) | exact (hd_o z25_0).elim (fun h1 => by omega) (fun h1 => by omega)), (by omega), (by first | exact (hd_o z25_2) | exact (hd_o z25_2).elim (fun h1 => by omega) (fun h1 => h1.elim (fun h1 => by omega) (fun h1 => by omega))), (by and_intros <;> omega), (by exact (hd_o t17_1).elim (fun h1 => by omega) (fun h1 => by omega)), (by exact (hd_o t17_0).elim (fun h1 => (ne_o h1).elim (fun h2 => by omega) (fun h2 => by omega)) (fun h1 => (ne_o h1).elim (fun h2 => by omega) (fun h2 => (hd_o z25_5).elim (fun h3 => by omega) (fun h3 => by omega))))⟩
  refine Tr.if_ne (pc := 5) (tgt := 17) d_X12_must_5 rfl (fun c5 => ?_) (fun c5 => ?_)
  · have c5b : 1 ≤ r2 ∧ r2 ≤ 1 := by omega
    replace c5 := hd_i c5
    refine Tr.pick [0] (ls2 := [(0, (2, 120))]) rfl ?_
    exact J17 _ _ hS (by and_intros <;> omega) ((kp_X12_isSign_120_120_3 h2).trans eg120_3) ((kp_X12_isSign_120_120_4 h2).trans eg120_4) ((kp_X12_isSign_120_120_5 h2).trans eg120_5) ((kp_X12_isSign_120_120_6 h2).trans eg120_6) ((kp_X12_isSign_120_120_7 h2).trans eg120_7) ((kp_X12_isSign_120_120_8 h2).trans eg120_8) ((tav_of ((kp_X12_isSign_120_120_5 h2).trans rfl) ((kp_X12_isSign_120_120_3 h2).trans rfl)).trans eg9010_0) (by exact (hd_o z2_0).elim (fun h1 => by omega) (fun h1 => by omega)) (by omega)
  · refine Tr.aload_n (pc := 8) (i := 0) d_X12_must_8 rfl rfl ?_
    refine Tr.iconst (pc := 9) d_X12_must_9 (by decide) ?_
    refine Tr.aload_n (pc := 10) (i := 0) d_X12_must_10 rfl rfl ?_
    refine Tr.getf (pc := 11) d_X12_must_11 f_12_23 (by decide) (by decide) (ty_120 hS.1.1) ?_
    refine Tr.tp g120_4 ((kp_X12_isSign_120_120_4 h2).trans eg120_4) ?_
    refine Tr.callV (pc := 14) (as := [_, _]) d_X12_must_14 s_12_389 ok_X12_blame rfl rfl (Nat.le_of_ble_eq_true rfl) (Nat.le_of_ble_eq_true rfl) (by decide) (ty_120 hS.1.1) ?_
    refine Tr.imp (Tr.deep (by decide) (ns_X12_blame_120_w1 (G120_8 := g120_8) hS.1 (((kp_X12_isSign_120_120_8 h2).trans eg120_8)) 1 (by omega) g120_4 (by and_intros <;> omega))) ?_
    rintro M14 _ ⟨h14, s14_120_8, es14_120_8, bs14_120_8, rfl, z14_0⟩
    have hS := St.tr hS h14 (by decide) (by decide)
    refine Tr.sc [] rfl ?_
    refine Tr.pick [0] (ls2 := [(0, (2, 120))]) rfl ?_
    exact J17 _ _ hS (by and_intros <;> omega) ((kp_X12_blame_120_w1_120_3 h14).trans ((kp_X12_isSign_120_120_3 h2).trans eg120_3)) ((kp_X12_blame_120_w1_120_4 h14).trans ((kp_X12_isSign_120_120_4 h2).trans eg120_4)) ((kp_X12_blame_120_w1_120_5 h14).trans ((kp_X12_isSign_120_120_5 h2).trans eg120_5)) ((kp_X12_blame_120_w1_120_6 h14).trans ((kp_X12_isSign_120_120_6 h2).trans eg120_6)) ((kp_X12_blame_120_w1_120_7 h14).trans ((kp_X12_isSign_120_120_7 h2).trans eg120_7)) es14_120_8 ((tav_of ((kp_X12_blame_120_w1_120_5 h14).trans ((kp_X12_isSign_120_120_5 h2).trans rfl)) ((kp_X12_blame_120_w1_120_3 h14).trans ((kp_X12_isSign_120_120_3 h2).trans rfl))).trans eg9010_0) (by exact (hd_o z14_0).elim (fun h1 => by omega) (fun h1 => by omega)) (by exact (hd_o z14_0).elim (fun h1 => by omega) (fun h1 => by omega))

set_option maxRecDepth 100000 in
set_option maxHeartbeats 4000000 in
theorem ns_X12_must_120_w1 {l : Launch} {K : EC} {M0 : Mem} {G120_3 G120_4 G120_5 G120_7 G120_8 G9010_0 : Int} (hI : In Pm0 M0) (k120_3 : rd M0 120 3 = G120_3) (k120_4 : rd M0 120 4 = G120_4) (k120_5 : rd M0 120 5 = G120_5) (k120_7 : rd M0 120 7 = G120_7) (k120_8 : rd M0 120 8 = G120_8) (k9010_0 : tav M0 = G9010_0)  (a1 : Int) (ha1 : 0 ≤ a1 ∧ a1 ≤ 300)  (hq0 : G120_3 = 0 ∨ G120_4 + 1 ≤ G120_5) (hq1 : G120_4 ≤ G120_5) (hq2 : G120_3 ≠ 1 ∨ G120_4 + 2 ≤ G120_5 ∨ G120_7 < 256) : Tr l K 2 mX12_must 0 [(0, (2, 120)), (1, (0, a1))] [] M0 (fun M' r => St Pm0 ws_X12_must_120_w1 as_X12_must_120_w1 M0 M' ∧ ∃ S120_3 S120_4 S120_5 S120_7 S120_8 S9010_0 : Int, rd M' 120 3 = S120_3 ∧ (0 ≤ S120_3 ∧ S120_3 ≤ 3) ∧ rd M' 120 4 = S120_4 ∧ (0 ≤ S120_4 ∧ S120_4 ≤ 900) ∧ rd M' 120 5 = S120_5 ∧ (0 ≤ S120_5 ∧ S120_5 ≤ 900) ∧ rd M' 120 7 = S120_7 ∧ ((-9223372036854775808) ≤ S120_7 ∧ S120_7 ≤ 9223372036854775807) ∧ rd M' 120 8 = S120_8 ∧ (0 ≤ S120_8 ∧ S120_8 ≤ 5) ∧ tav M' = S9010_0 ∧ ((-1) ≤ S9010_0 ∧ S9010_0 ≤ 1800) ∧ r = none ∧ Hd (S120_3 = 0 ∨ S120_4 + 1 ≤ S120_5) ∧ (S120_4 ≤ S120_5) ∧ Hd (S120_3 ≠ 1 ∨ S120_4 + 2 ≤ S120_5 ∨ S120_7 < 256) ∧ (G120_4 ≤ S120_4 ∧ G120_5 ≤ S120_5 ∧ G9010_0 ≤ S9010_0) ∧ Hd (G120_8 = 0 ∨ S120_8 = G120_8) ∧ Hd (1 ≤ S120_8 ∨ G9010_0 < S9010_0)) := by
  subst k120_3
  subst k120_4
  subst k120_5
  subst k120_7
  subst k120_8
  subst k9010_0
  refine Tr.imp (sp_X12_must_120_w1 hI a1 ha1 hq0 hq1 hq2) ?_
  rintro M' _ ⟨hS, rfl, z0, z1, z2, z3, z4, z5⟩
  exact ⟨hS, _, _, _, _, _, _, rfl, ir_120_3 hS.1.2.1, rfl, ir_120_4 hS.1.2.1, rfl, ir_120_5 hS.1.2.1, rfl, ir_120_7 hS.1.2.1, rfl, ir_120_8 hS.1.2.1, rfl, (tav_b hS.1.2.1), rfl, hd_i z0, z1, hd_i z2, z3, hd_i z4, hd_i z5⟩

def ws_X12_declares_120_w1 : List (Int × Int) := [(120, 3), (120, 4), (120, 5), (120, 6), (120, 7), (120, 8), (120, 9), (122, 0), (123, 0), (124, 0), (125, 0), (126, 0), (127, 0), (128, 0)]
def as_X12_declares_120_w1 : List Int := [130, 131, 132, 133, 134, 135]
def q_X12_declares_120_w1 (M0 M' : Mem) (r : Option PV) : Prop := St Pm0 ws_X12_declares_120_w1 as_X12_declares_120_w1 M0 M' ∧ ∃ v : Int, r = some (0, v) ∧ 0 ≤ v ∧ v ≤ 1 ∧ (rd M' 120 3 = 0 ∨ rd M' 120 4 + 1 ≤ rd M' 120 5) ∧ (rd M' 120 4 ≤ rd M' 120 5) ∧ (rd M' 120 3 ≠ 1 ∨ rd M' 120 4 + 2 ≤ rd M' 120 5 ∨ rd M' 120 7 < 256) ∧ (rd M0 120 4 ≤ rd M' 120 4 ∧ rd M0 120 5 ≤ rd M' 120 5 ∧ tav M0 ≤ tav M') ∧ (rd M0 120 8 = 0 ∨ rd M' 120 8 = rd M0 120 8) ∧ (v = 0 ∨ 1 ≤ rd M' 120 8 ∨ tav M0 < tav M')
theorem kp_X12_declares_120_w1_120_37 {q : Mem → Prop} {M0 M : Mem} (h : St q ws_X12_declares_120_w1 as_X12_declares_120_w1 M0 M) : rd M 120 37 = rd M0 120 37 := St.kp h (by decide) (by decide) (by decide)
set_option maxRecDepth 100000 in
set_option maxHeartbeats 4000000 in
theorem sp_X12_declares_120_w1 {l : Launch} {K : EC} {M0 : Mem} (hI : In Pm0 M0) (en_120_37 : rd M0 120 37 = 0)   (hq0 : rd M0 120 3 = 0 ∨ rd M0 120 4 + 1 ≤ rd M0 120 5) (hq1 : rd M0 120 4 ≤ rd M0 120 5) (hq2 : rd M0 120 3 ≠ 1 ∨ rd M0 120 4 + 2 ≤ rd M0 120 5 ∨ rd M0 120 7 < 256) (hq3 : rd M0 120 3 ≠ 0) (hq4 : rd M0 120 8 = 0) : Tr l K 4 mX12_declares 0 [(0, (2, 120))] [] M0 (q_X12_declares_120_w1 M0) := by
  have hS : St Pm0 ws_X12_declares_120_w1 as_X12_declares_120_w1 M0 M0 := St.rf hI
  obtain ⟨g120_8, eg120_8⟩ : ∃ v, rd M0 120 8 = v := ⟨_, rfl⟩
  have bg120_8 : 0 ≤ g120_8 ∧ g120_8 ≤ 5 := by rw [← eg120_8]; exact ir_120_8 hI.2.1
  obtain ⟨g120_3, eg120_3⟩ : ∃ v, rd M0 120 3 = v := ⟨_, rfl⟩
  have bg120_3 : 0 ≤ g120_3 ∧ g120_3 ≤ 3 := by rw [← eg120_3]; exact ir_120_3 hI.2.1
  obtain ⟨g120_4, eg120_4⟩ : ∃ v, rd M0 120 4 = v := ⟨_, rfl⟩
  have bg120_4 : 0 ≤ g120_4 ∧ g120_4 ≤ 900 := by rw [← eg120_4]; exact ir_120_4 hI.2.1
  obtain ⟨g120_5, eg120_5⟩ : ∃ v, rd M0 120 5 = v := ⟨_, rfl⟩
  have bg120_5 : 0 ≤ g120_5 ∧ g120_5 ≤ 900 := by rw [← eg120_5]; exact ir_120_5 hI.2.1
  obtain ⟨g120_7, eg120_7⟩ : ∃ v, rd M0 120 7 = v := ⟨_, rfl⟩
  have bg120_7 : (-9223372036854775808) ≤ g120_7 ∧ g120_7 ≤ 9223372036854775807 := by rw [← eg120_7]; exact ir_120_7 hI.2.1
  obtain ⟨g9010_0, eg9010_0⟩ : ∃ v, tav M0 = v := ⟨_, rfl⟩
  have bg9010_0 : (-1) ≤ g9010_0 ∧ g9010_0 ≤ 1800 := by rw [← eg9010_0]; exact (tav_b hI.2.1)
  obtain ⟨g120_6, eg120_6⟩ : ∃ v, rd M0 120 6 = v := ⟨_, rfl⟩
  have bg120_6 : (-2147483648) ≤ g120_6 ∧ g120_6 ≤ 2147483647 := by rw [← eg120_6]; exact ir_120_6 hI.2.1
  replace hq0 := hd_i hq0
  replace hq2 := hd_i hq2
  replace hq3 := hd_i hq3
  refine Tr.aload_n (pc := 0) (i := 0) d_X12_declares_0 rfl rfl ?_
  refine Tr.ldc2 (pc := 1) d_X12_declares_1 kl_12_399 (by decide) ?_
  refine Tr.callV (pc := 4) (as := [_]) d_X12_declares_4 s_12_484 ok_X12_isWord rfl rfl (Nat.le_of_ble_eq_true rfl) (Nat.le_of_ble_eq_true rfl) (by decide) (ty_120 hS.1.1) ?_
  refine Tr.imp (Tr.deep (by decide) (ns_X12_isWord_120 (G120_3 := g120_3) (G120_7 := g120_7) hS.1.wk (eg120_3) (eg120_7) 448377483892 (by omega))) ?_
  rintro M4 _ ⟨h4, r4, rfl, lr4, ur4, z4_0⟩
  have h4 := St.rn h4 (Pm0.of hS.1.2.2.2.2 (fun _ => (ka_X12_isWord_120_131 h4 _)) (fun _ => (ka_X12_isWord_120_137 h4 _)) (fun _ => (ka_X12_isWord_120_138 h4 _)) (fun _ => (ka_X12_isWord_120_139 h4 _)) (fun _ => (ka_X12_isWord_120_140 h4 _)) (fun _ => (ka_X12_isWord_120_141 h4 _)) (fun _ => (ka_X12_isWord_120_142 h4 _)) (fun _ => (ka_X12_isWord_120_143 h4 _)) (fun _ => (ka_X12_isWord_120_151 h4 _)) (fun _ => (ka_X12_isWord_120_152 h4 _)) (kp_X12_isWord_120_126_0 h4) (kp_X12_isWord_120_126_1 h4) (kp_X12_isWord_120_136_0 h4) (kp_X12_isWord_120_136_1 h4) (kp_X12_isWord_120_123_0 h4) (kp_X12_isWord_120_123_1 h4) (kp_X12_isWord_120_124_0 h4) (kp_X12_isWord_120_124_1 h4) (kp_X12_isWord_120_120_8 h4) (kp_X12_isWord_120_120_36 h4) (kp_X12_isWord_120_120_50 h4))
  have hS := St.tr hS h4 (by decide) (by decide)
  refine Tr.sc [(0, r4)] rfl ?_
  have J152 : ∀ (M : Mem) (u152_120_3 u152_120_4 u152_120_5 u152_120_6 u152_120_7 u152_120_8 u152_9010_0 : Int), St Pm0 ws_X12_declares_120_w1 as_X12_declares_120_w1 M0 M → (0 ≤ u152_120_3 ∧ u152_120_3 ≤ 3) → (0 ≤ u152_120_4 ∧ u152_120_4 ≤ 900) → (0 ≤ u152_120_5 ∧ u152_120_5 ≤ 900) → ((-2147483648) ≤ u152_120_6 ∧ u152_120_6 ≤ 2147483647) → ((-9223372036854775808) ≤ u152_120_7 ∧ u152_120_7 ≤ 9223372036854775807) → (0 ≤ u152_120_8 ∧ u152_120_8 ≤ 5) → ((-1) ≤ u152_9010_0 ∧ u152_9010_0 ≤ 1800) → rd M 120 3 = u152_120_3 → rd M 120 4 = u152_120_4 → rd M 120 5 = u152_120_5 → rd M 120 6 = u152_120_6 → rd M 120 7 = u152_120_7 → rd M 120 8 = u152_120_8 → tav M = u152_9010_0 → (u152_120_3 = 0 ∨ u152_120_4 + 1 ≤ u152_120_5) → (u152_120_4 ≤ u152_120_5) → (u152_120_3 ≠ 1 ∨ u152_120_4 + 2 ≤ u152_120_5 ∨ u152_120_7 < 256) → (g120_4 ≤ u152_120_4 ∧ g120_5 ≤ u152_120_5 ∧ g9010_0 ≤ u152_9010_0) → (g120_8 = 0 ∨ u152_120_8 = g120_8) → Tr l K 4 mX12_declares 152 [(0, (2, 120))] [] M (q_X12_declares_120_w1 M0) := by
    intro M u152_120_3 u152_120_4 u152_120_5 u152_120_6 u152_120_7 u152_120_8 u152_9010_0 hS bu152_120_3 bu152_120_4 bu152_120_5 bu152_120_6 bu152_120_7 bu152_120_8 bu152_9010_0 k152_120_3 k152_120_4 k152_120_5 k152_120_6 k152_120_7 k152_120_8 k152_9010_0 t152_0 t152_1 t152_2 t152_3 t152_4
    replace t152_0 := hd_i t152_0
    replace t152_2 := hd_i t152_2
    replace t152_4 := hd_i t152_4
    refine Tr.aload_n (pc := 152) (i := 0) d_X12_declares_152 rfl rfl ?_
    refine Tr.bipush (pc := 153) d_X12_declares_153 rfl (by decide) ?_
    refine Tr.callV (pc := 155) (as := [_]) d_X12_declares_155 s_12_529 ok_X12_must rfl rfl (Nat.le_of_ble_eq_true rfl) (Nat.le_of_ble_eq_true rfl) (by decide) (ty_120 hS.1.1) ?_
    refine Tr.imp (Tr.deep (by decide) (ns_X12_must_120_w1 (G120_3 := u152_120_3) (G120_4 := u152_120_4) (G120_5 := u152_120_5) (G120_7 := u152_120_7) (G120_8 := u152_120_8) (G9010_0 := u152_9010_0) hS.1 (k152_120_3) (k152_120_4) (k152_120_5) (k152_120_7) (k152_120_8) (k152_9010_0) 59 (by omega) (by first | exact (hd_o t152_0) | exact (hd_o t152_0).elim (fun h1 => by omega) (fun h1 => by omega)) (by omega) (by first | exact (hd_o t152_2) | exact (hd_o t152_2).elim (fun h1 => by omega) (fun h1 => h1.elim (fun h1 => by omega) (fun h1 => by omega))))) ?_
    rintro M155 _ ⟨h155, s155_120_3, s155_120_4, s155_120_5, s155_120_7, s155_120_8, s155_9010_0, es155_120_3, bs155_120_3, es155_120_4, bs155_120_4, es155_120_5, bs155_120_5, es155_120_7, bs155_120_7, es155_120_8, bs155_120_8, es155_9010_0, bs155_9010_0, rfl, z155_0, z155_1, z155_2, z155_3, z155_4, z155_5⟩
    have hS := St.tr hS h155 (by decide) (by decide)
    refine Tr.sc [] rfl ?_
    refine Tr.iconst (pc := 158) d_X12_declares_158 (by decide) ?_
    have kr_120_3 : rd M155 120 3 = s155_120_3 := es155_120_3
    have kr_120_4 : rd M155 120 4 = s155_120_4 := es155_120_4
    have kr_120_5 : rd M155 120 5 = s155_120_5 := es155_120_5
    have kr_120_7 : rd M155 120 7 = s155_120_7 := es155_120_7
    have kr_120_8 : rd M155 120 8 = s155_120_8 := es155_120_8
    have kr_9010_0 : tav M155 = s155_9010_0 := es155_9010_0
    exact Tr.zret (pc := 159) d_X12_declares_159 rfl (by omega) ⟨hS, _, rfl, by omega, by omega, (by first | exact (hd_o z155_0) | exact (hd_o z155_0).elim (fun h1 => by omega) (fun h1 => by omega)), (by omega), (by first | exact (hd_o z155_2) | exact (hd_o z155_2).elim (fun h1 => by omega) (fun h1 => h1.elim (fun h1 => by omega) (fun h1 => by omega))), (by and_intros <;> omega), (by omega), (by exact (hd_o z155_5).elim (fun h1 => by omega) (fun h1 => by omega))⟩
  refine Tr.if_eq (pc := 7) (tgt := 34) d_X12_declares_7 rfl (fun c7 => ?_) (fun c7 => ?_)
  · refine Tr.aload_n (pc := 34) (i := 0) d_X12_declares_34 rfl rfl ?_
    refine Tr.ldc2 (pc := 35) d_X12_declares_35 kl_12_401 (by decide) ?_
    refine Tr.callV (pc := 38) (as := [_]) d_X12_declares_38 s_12_484 ok_X12_isWord rfl rfl (Nat.le_of_ble_eq_true rfl) (Nat.le_of_ble_eq_true rfl) (by decide) (ty_120 hS.1.1) ?_
    refine Tr.imp (Tr.deep (by decide) (ns_X12_isWord_120 (G120_3 := g120_3) (G120_7 := g120_7) hS.1.wk (((kp_X12_isWord_120_120_3 h4).trans eg120_3)) (((kp_X12_isWord_120_120_7 h4).trans eg120_7)) 426835667045 (by omega))) ?_
    rintro M38 _ ⟨h38, r38, rfl, lr38, ur38, z38_0⟩
    have h38 := St.rn h38 (Pm0.of hS.1.2.2.2.2 (fun _ => (ka_X12_isWord_120_131 h38 _)) (fun _ => (ka_X12_isWord_120_137 h38 _)) (fun _ => (ka_X12_isWord_120_138 h38 _)) (fun _ => (ka_X12_isWord_120_139 h38 _)) (fun _ => (ka_X12_isWord_120_140 h38 _)) (fun _ => (ka_X12_isWord_120_141 h38 _)) (fun _ => (ka_X12_isWord_120_142 h38 _)) (fun _ => (ka_X12_isWord_120_143 h38 _)) (fun _ => (ka_X12_isWord_120_151 h38 _)) (fun _ => (ka_X12_isWord_120_152 h38 _)) (kp_X12_isWord_120_126_0 h38) (kp_X12_isWord_120_126_1 h38) (kp_X12_isWord_120_136_0 h38) (kp_X12_isWord_120_136_1 h38) (kp_X12_isWord_120_123_0 h38) (kp_X12_isWord_120_123_1 h38) (kp_X12_isWord_120_124_0 h38) (kp_X12_isWord_120_124_1 h38) (kp_X12_isWord_120_120_8 h38) (kp_X12_isWord_120_120_36 h38) (kp_X12_isWord_120_120_50 h38))
    have hS := St.tr hS h38 (by decide) (by decide)
    refine Tr.sc [(0, r38)] rfl ?_
    refine Tr.if_eq (pc := 41) (tgt := 99) d_X12_declares_41 rfl (fun c41 => ?_) (fun c41 => ?_)
    · refine Tr.aload_n (pc := 99) (i := 0) d_X12_declares_99 rfl rfl ?_
      refine Tr.ldc2 (pc := 100) d_X12_declares_100 kl_12_403 (by decide) ?_
      refine Tr.callV (pc := 103) (as := [_]) d_X12_declares_103 s_12_484 ok_X12_isWord rfl rfl (Nat.le_of_ble_eq_true rfl) (Nat.le_of_ble_eq_true rfl) (by decide) (ty_120 hS.1.1) ?_
      refine Tr.imp (Tr.deep (by decide) (ns_X12_isWord_120 (G120_3 := g120_3) (G120_7 := g120_7) hS.1.wk (((kp_X12_isWord_120_120_3 h38).trans ((kp_X12_isWord_120_120_3 h4).trans eg120_3))) (((kp_X12_isWord_120_120_7 h38).trans ((kp_X12_isWord_120_120_7 h4).trans eg120_7))) 1885434484 (by omega))) ?_
      rintro M103 _ ⟨h103, r103, rfl, lr103, ur103, z103_0⟩
      have h103 := St.rn h103 (Pm0.of hS.1.2.2.2.2 (fun _ => (ka_X12_isWord_120_131 h103 _)) (fun _ => (ka_X12_isWord_120_137 h103 _)) (fun _ => (ka_X12_isWord_120_138 h103 _)) (fun _ => (ka_X12_isWord_120_139 h103 _)) (fun _ => (ka_X12_isWord_120_140 h103 _)) (fun _ => (ka_X12_isWord_120_141 h103 _)) (fun _ => (ka_X12_isWord_120_142 h103 _)) (fun _ => (ka_X12_isWord_120_143 h103 _)) (fun _ => (ka_X12_isWord_120_151 h103 _)) (fun _ => (ka_X12_isWord_120_152 h103 _)) (kp_X12_isWord_120_126_0 h103) (kp_X12_isWord_120_126_1 h103) (kp_X12_isWord_120_136_0 h103) (kp_X12_isWord_120_136_1 h103) (kp_X12_isWord_120_123_0 h103) (kp_X12_isWord_120_123_1 h103) (kp_X12_isWord_120_124_0 h103) (kp_X12_isWord_120_124_1 h103) (kp_X12_isWord_120_120_8 h103) (kp_X12_isWord_120_120_36 h103) (kp_X12_isWord_120_120_50 h103))
      have hS := St.tr hS h103 (by decide) (by decide)
      refine Tr.sc [(0, r103)] rfl ?_
      refine Tr.if_eq (pc := 106) (tgt := 116) d_X12_declares_106 rfl (fun c106 => ?_) (fun c106 => ?_)
      · refine Tr.aload_n (pc := 116) (i := 0) d_X12_declares_116 rfl rfl ?_
        refine Tr.ldc2 (pc := 117) d_X12_declares_117 kl_12_415 (by decide) ?_
        refine Tr.callV (pc := 120) (as := [_]) d_X12_declares_120 s_12_484 ok_X12_isWord rfl rfl (Nat.le_of_ble_eq_true rfl) (Nat.le_of_ble_eq_true rfl) (by decide) (ty_120 hS.1.1) ?_
        refine Tr.imp (Tr.deep (by decide) (ns_X12_isWord_120 (G120_3 := g120_3) (G120_7 := g120_7) hS.1.wk (((kp_X12_isWord_120_120_3 h103).trans ((kp_X12_isWord_120_120_3 h38).trans ((kp_X12_isWord_120_120_3 h4).trans eg120_3)))) (((kp_X12_isWord_120_120_7 h103).trans ((kp_X12_isWord_120_120_7 h38).trans ((kp_X12_isWord_120_120_7 h4).trans eg120_7)))) 452824429940 (by omega))) ?_
        rintro M120 _ ⟨h120, r120, rfl, lr120, ur120, z120_0⟩
        have h120 := St.rn h120 (Pm0.of hS.1.2.2.2.2 (fun _ => (ka_X12_isWord_120_131 h120 _)) (fun _ => (ka_X12_isWord_120_137 h120 _)) (fun _ => (ka_X12_isWord_120_138 h120 _)) (fun _ => (ka_X12_isWord_120_139 h120 _)) (fun _ => (ka_X12_isWord_120_140 h120 _)) (fun _ => (ka_X12_isWord_120_141 h120 _)) (fun _ => (ka_X12_isWord_120_142 h120 _)) (fun _ => (ka_X12_isWord_120_143 h120 _)) (fun _ => (ka_X12_isWord_120_151 h120 _)) (fun _ => (ka_X12_isWord_120_152 h120 _)) (kp_X12_isWord_120_126_0 h120) (kp_X12_isWord_120_126_1 h120) (kp_X12_isWord_120_136_0 h120) (kp_X12_isWord_120_136_1 h120) (kp_X12_isWord_120_123_0 h120) (kp_X12_isWord_120_123_1 h120) (kp_X12_isWord_120_124_0 h120) (kp_X12_isWord_120_124_1 h120) (kp_X12_isWord_120_120_8 h120) (kp_X12_isWord_120_120_36 h120) (kp_X12_isWord_120_120_50 h120))
        have hS := St.tr hS h120 (by decide) (by decide)
        refine Tr.sc [(0, r120)] rfl ?_
        refine Tr.if_eq (pc := 123) (tgt := 133) d_X12_declares_123 rfl (fun c123 => ?_) (fun c123 => ?_)
        · refine Tr.aload_n (pc := 133) (i := 0) d_X12_declares_133 rfl rfl ?_
          refine Tr.ldc2 (pc := 134) d_X12_declares_134 kl_12_417 (by decide) ?_
          refine Tr.callV (pc := 137) (as := [_]) d_X12_declares_137 s_12_484 ok_X12_isWord rfl rfl (Nat.le_of_ble_eq_true rfl) (Nat.le_of_ble_eq_true rfl) (by decide) (ty_120 hS.1.1) ?_
          refine Tr.imp (Tr.deep (by decide) (ns_X12_isWord_120 (G120_3 := g120_3) (G120_7 := g120_7) hS.1.wk (((kp_X12_isWord_120_120_3 h120).trans ((kp_X12_isWord_120_120_3 h103).trans ((kp_X12_isWord_120_120_3 h38).trans ((kp_X12_isWord_120_120_3 h4).trans eg120_3))))) (((kp_X12_isWord_120_120_7 h120).trans ((kp_X12_isWord_120_120_7 h103).trans ((kp_X12_isWord_120_120_7 h38).trans ((kp_X12_isWord_120_120_7 h4).trans eg120_7))))) 7758194 (by omega))) ?_
          rintro M137 _ ⟨h137, r137, rfl, lr137, ur137, z137_0⟩
          have h137 := St.rn h137 (Pm0.of hS.1.2.2.2.2 (fun _ => (ka_X12_isWord_120_131 h137 _)) (fun _ => (ka_X12_isWord_120_137 h137 _)) (fun _ => (ka_X12_isWord_120_138 h137 _)) (fun _ => (ka_X12_isWord_120_139 h137 _)) (fun _ => (ka_X12_isWord_120_140 h137 _)) (fun _ => (ka_X12_isWord_120_141 h137 _)) (fun _ => (ka_X12_isWord_120_142 h137 _)) (fun _ => (ka_X12_isWord_120_143 h137 _)) (fun _ => (ka_X12_isWord_120_151 h137 _)) (fun _ => (ka_X12_isWord_120_152 h137 _)) (kp_X12_isWord_120_126_0 h137) (kp_X12_isWord_120_126_1 h137) (kp_X12_isWord_120_136_0 h137) (kp_X12_isWord_120_136_1 h137) (kp_X12_isWord_120_123_0 h137) (kp_X12_isWord_120_123_1 h137) (kp_X12_isWord_120_124_0 h137) (kp_X12_isWord_120_124_1 h137) (kp_X12_isWord_120_120_8 h137) (kp_X12_isWord_120_120_36 h137) (kp_X12_isWord_120_120_50 h137))
          have hS := St.tr hS h137 (by decide) (by decide)
          refine Tr.sc [(0, r137)] rfl ?_
          refine Tr.if_eq (pc := 140) (tgt := 150) d_X12_declares_140 rfl (fun c140 => ?_) (fun c140 => ?_)
          · refine Tr.iconst (pc := 150) d_X12_declares_150 (by decide) ?_
            have kr_120_3 : rd M137 120 3 = g120_3 := ((kp_X12_isWord_120_120_3 h137).trans ((kp_X12_isWord_120_120_3 h120).trans ((kp_X12_isWord_120_120_3 h103).trans ((kp_X12_isWord_120_120_3 h38).trans ((kp_X12_isWord_120_120_3 h4).trans eg120_3)))))
            have kr_120_4 : rd M137 120 4 = g120_4 := ((kp_X12_isWord_120_120_4 h137).trans ((kp_X12_isWord_120_120_4 h120).trans ((kp_X12_isWord_120_120_4 h103).trans ((kp_X12_isWord_120_120_4 h38).trans ((kp_X12_isWord_120_120_4 h4).trans eg120_4)))))
            have kr_120_5 : rd M137 120 5 = g120_5 := ((kp_X12_isWord_120_120_5 h137).trans ((kp_X12_isWord_120_120_5 h120).trans ((kp_X12_isWord_120_120_5 h103).trans ((kp_X12_isWord_120_120_5 h38).trans ((kp_X12_isWord_120_120_5 h4).trans eg120_5)))))
            have kr_120_7 : rd M137 120 7 = g120_7 := ((kp_X12_isWord_120_120_7 h137).trans ((kp_X12_isWord_120_120_7 h120).trans ((kp_X12_isWord_120_120_7 h103).trans ((kp_X12_isWord_120_120_7 h38).trans ((kp_X12_isWord_120_120_7 h4).trans eg120_7)))))
            have kr_120_8 : rd M137 120 8 = g120_8 := ((kp_X12_isWord_120_120_8 h137).trans ((kp_X12_isWord_120_120_8 h120).trans ((kp_X12_isWord_120_120_8 h103).trans ((kp_X12_isWord_120_120_8 h38).trans ((kp_X12_isWord_120_120_8 h4).trans eg120_8)))))
            have kr_9010_0 : tav M137 = g9010_0 := ((tav_of ((kp_X12_isWord_120_120_5 h137).trans ((kp_X12_isWord_120_120_5 h120).trans ((kp_X12_isWord_120_120_5 h103).trans ((kp_X12_isWord_120_120_5 h38).trans ((kp_X12_isWord_120_120_5 h4).trans rfl))))) ((kp_X12_isWord_120_120_3 h137).trans ((kp_X12_isWord_120_120_3 h120).trans ((kp_X12_isWord_120_120_3 h103).trans ((kp_X12_isWord_120_120_3 h38).trans ((kp_X12_isWord_120_120_3 h4).trans rfl)))))).trans eg9010_0)
            exact Tr.zret (pc := 151) d_X12_declares_151 rfl (by omega) ⟨hS, _, rfl, by omega, by omega, (by first | exact (hd_o hq0) | exact (hd_o hq0).elim (fun h1 => by omega) (fun h1 => by omega)), (by omega), (by first | exact (hd_o hq2) | exact (hd_o hq2).elim (fun h1 => by omega) (fun h1 => h1.elim (fun h1 => by omega) (fun h1 => by omega))), (by and_intros <;> omega), (by omega), (by omega)⟩
          · have c140b : 1 ≤ r137 ∧ r137 ≤ 1 := by omega
            replace c140 := hd_i c140
            refine Tr.aload_n (pc := 143) (i := 0) d_X12_declares_143 rfl rfl ?_
            refine Tr.callV (pc := 144) (as := []) d_X12_declares_144 s_12_526 ok_X12_variable rfl rfl (Nat.le_of_ble_eq_true rfl) (Nat.le_of_ble_eq_true rfl) (by decide) (ty_120 hS.1.1) ?_
            refine Tr.imp (Tr.deep (by decide) (ns_X12_variable_120_w1 (G120_3 := g120_3) (G120_4 := g120_4) (G120_5 := g120_5) (G120_7 := g120_7) (G120_8 := g120_8) (G9010_0 := g9010_0) hS.1 (((kp_X12_isWord_120_120_3 h137).trans ((kp_X12_isWord_120_120_3 h120).trans ((kp_X12_isWord_120_120_3 h103).trans ((kp_X12_isWord_120_120_3 h38).trans ((kp_X12_isWord_120_120_3 h4).trans eg120_3)))))) (((kp_X12_isWord_120_120_4 h137).trans ((kp_X12_isWord_120_120_4 h120).trans ((kp_X12_isWord_120_120_4 h103).trans ((kp_X12_isWord_120_120_4 h38).trans ((kp_X12_isWord_120_120_4 h4).trans eg120_4)))))) (((kp_X12_isWord_120_120_5 h137).trans ((kp_X12_isWord_120_120_5 h120).trans ((kp_X12_isWord_120_120_5 h103).trans ((kp_X12_isWord_120_120_5 h38).trans ((kp_X12_isWord_120_120_5 h4).trans eg120_5)))))) (((kp_X12_isWord_120_120_7 h137).trans ((kp_X12_isWord_120_120_7 h120).trans ((kp_X12_isWord_120_120_7 h103).trans ((kp_X12_isWord_120_120_7 h38).trans ((kp_X12_isWord_120_120_7 h4).trans eg120_7)))))) (((kp_X12_isWord_120_120_8 h137).trans ((kp_X12_isWord_120_120_8 h120).trans ((kp_X12_isWord_120_120_8 h103).trans ((kp_X12_isWord_120_120_8 h38).trans ((kp_X12_isWord_120_120_8 h4).trans eg120_8)))))) (((tav_of ((kp_X12_isWord_120_120_5 h137).trans ((kp_X12_isWord_120_120_5 h120).trans ((kp_X12_isWord_120_120_5 h103).trans ((kp_X12_isWord_120_120_5 h38).trans ((kp_X12_isWord_120_120_5 h4).trans rfl))))) ((kp_X12_isWord_120_120_3 h137).trans ((kp_X12_isWord_120_120_3 h120).trans ((kp_X12_isWord_120_120_3 h103).trans ((kp_X12_isWord_120_120_3 h38).trans ((kp_X12_isWord_120_120_3 h4).trans rfl)))))).trans eg9010_0)) ((kp_X12_declares_120_w1_120_37 hS).trans en_120_37) (by first | exact (hd_o hq0) | exact (hd_o hq0).elim (fun h1 => by omega) (fun h1 => by omega)) (by omega) (by first | exact (hd_o hq2) | exact (hd_o hq2).elim (fun h1 => by omega) (fun h1 => h1.elim (fun h1 => by omega) (fun h1 => by omega))) (by have h1 := (hd_o hq3); omega) (by omega))) ?_
            rintro M144 _ ⟨h144, s144_120_3, s144_120_4, s144_120_5, s144_120_7, s144_120_8, s144_9010_0, es144_120_3, bs144_120_3, es144_120_4, bs144_120_4, es144_120_5, bs144_120_5, es144_120_7, bs144_120_7, es144_120_8, bs144_120_8, es144_9010_0, bs144_9010_0, rfl, z144_0, z144_1, z144_2, z144_3, z144_4, z144_5⟩
            have hS := St.tr hS h144 (by decide) (by decide)
            refine Tr.sc [] rfl ?_
            refine Tr.goto (pc := 147) (tgt := 152) d_X12_declares_147 rfl ?_
            refine Tr.pick [0] (ls2 := [(0, (2, 120))]) rfl ?_
            obtain ⟨w152p147_120_6, ew152p147_120_6⟩ : ∃ v, rd M144 120 6 = v := ⟨_, rfl⟩
            have bw152p147_120_6 : (-2147483648) ≤ w152p147_120_6 ∧ w152p147_120_6 ≤ 2147483647 := by rw [← ew152p147_120_6]; exact ir_120_6 hS.1.2.1
            exact J152 _ _ _ _ _ _ _ _ hS (by and_intros <;> omega) (by and_intros <;> omega) (by and_intros <;> omega) (by and_intros <;> omega) (by omega) (by and_intros <;> omega) (by and_intros <;> omega) es144_120_3 es144_120_4 es144_120_5 ew152p147_120_6 es144_120_7 es144_120_8 es144_9010_0 (by first | exact (hd_o z144_0) | exact (hd_o z144_0).elim (fun h1 => by omega) (fun h1 => by omega)) (by omega) (by first | exact (hd_o z144_2) | exact (hd_o z144_2).elim (fun h1 => by omega) (fun h1 => h1.elim (fun h1 => by omega) (fun h1 => by omega))) (by and_intros <;> omega) (by first | exact (hd_o z144_4) | exact (hd_o z144_4).elim (fun h1 => by omega) (fun h1 => by omega))
        · have c123b : 1 ≤ r120 ∧ r120 ≤ 1 := by omega
          replace c123 := hd_i c123
          refine Tr.aload_n (pc := 126) (i := 0) d_X12_declares_126 rfl rfl ?_
          refine Tr.callV (pc := 127) (as := []) d_X12_declares_127 s_12_523 ok_X12_input rfl rfl (Nat.le_of_ble_eq_true rfl) (Nat.le_of_ble_eq_true rfl) (by decide) (ty_120 hS.1.1) ?_
          refine Tr.imp (Tr.deep (by decide) (ns_X12_input_120_w1 (G120_3 := g120_3) (G120_4 := g120_4) (G120_5 := g120_5) (G120_7 := g120_7) (G120_8 := g120_8) (G9010_0 := g9010_0) hS.1 (((kp_X12_isWord_120_120_3 h120).trans ((kp_X12_isWord_120_120_3 h103).trans ((kp_X12_isWord_120_120_3 h38).trans ((kp_X12_isWord_120_120_3 h4).trans eg120_3))))) (((kp_X12_isWord_120_120_4 h120).trans ((kp_X12_isWord_120_120_4 h103).trans ((kp_X12_isWord_120_120_4 h38).trans ((kp_X12_isWord_120_120_4 h4).trans eg120_4))))) (((kp_X12_isWord_120_120_5 h120).trans ((kp_X12_isWord_120_120_5 h103).trans ((kp_X12_isWord_120_120_5 h38).trans ((kp_X12_isWord_120_120_5 h4).trans eg120_5))))) (((kp_X12_isWord_120_120_7 h120).trans ((kp_X12_isWord_120_120_7 h103).trans ((kp_X12_isWord_120_120_7 h38).trans ((kp_X12_isWord_120_120_7 h4).trans eg120_7))))) (((kp_X12_isWord_120_120_8 h120).trans ((kp_X12_isWord_120_120_8 h103).trans ((kp_X12_isWord_120_120_8 h38).trans ((kp_X12_isWord_120_120_8 h4).trans eg120_8))))) (((tav_of ((kp_X12_isWord_120_120_5 h120).trans ((kp_X12_isWord_120_120_5 h103).trans ((kp_X12_isWord_120_120_5 h38).trans ((kp_X12_isWord_120_120_5 h4).trans rfl)))) ((kp_X12_isWord_120_120_3 h120).trans ((kp_X12_isWord_120_120_3 h103).trans ((kp_X12_isWord_120_120_3 h38).trans ((kp_X12_isWord_120_120_3 h4).trans rfl))))).trans eg9010_0)) ((kp_X12_declares_120_w1_120_37 hS).trans en_120_37) (by first | exact (hd_o hq0) | exact (hd_o hq0).elim (fun h1 => by omega) (fun h1 => by omega)) (by omega) (by first | exact (hd_o hq2) | exact (hd_o hq2).elim (fun h1 => by omega) (fun h1 => h1.elim (fun h1 => by omega) (fun h1 => by omega))) (by have h1 := (hd_o hq3); omega) (by omega))) ?_
          rintro M127 _ ⟨h127, s127_120_3, s127_120_4, s127_120_5, s127_120_7, s127_120_8, s127_9010_0, es127_120_3, bs127_120_3, es127_120_4, bs127_120_4, es127_120_5, bs127_120_5, es127_120_7, bs127_120_7, es127_120_8, bs127_120_8, es127_9010_0, bs127_9010_0, rfl, z127_0, z127_1, z127_2, z127_3, z127_4, z127_5⟩
          have hS := St.tr hS h127 (by decide) (by decide)
          refine Tr.sc [] rfl ?_
          refine Tr.goto (pc := 130) (tgt := 152) d_X12_declares_130 rfl ?_
          refine Tr.pick [0] (ls2 := [(0, (2, 120))]) rfl ?_
          obtain ⟨w152p130_120_6, ew152p130_120_6⟩ : ∃ v, rd M127 120 6 = v := ⟨_, rfl⟩
          have bw152p130_120_6 : (-2147483648) ≤ w152p130_120_6 ∧ w152p130_120_6 ≤ 2147483647 := by rw [← ew152p130_120_6]; exact ir_120_6 hS.1.2.1
          exact J152 _ _ _ _ _ _ _ _ hS (by and_intros <;> omega) (by and_intros <;> omega) (by and_intros <;> omega) (by and_intros <;> omega) (by omega) (by and_intros <;> omega) (by and_intros <;> omega) es127_120_3 es127_120_4 es127_120_5 ew152p130_120_6 es127_120_7 es127_120_8 es127_9010_0 (by first | exact (hd_o z127_0) | exact (hd_o z127_0).elim (fun h1 => by omega) (fun h1 => by omega)) (by omega) (by first | exact (hd_o z127_2) | exact (hd_o z127_2).elim (fun h1 => by omega) (fun h1 => h1.elim (fun h1 => by omega) (fun h1 => by omega))) (by and_intros <;> omega) (by first | exact (hd_o z127_4) | exact (hd_o z127_4).elim (fun h1 => by omega) (fun h1 => by omega))
      · have c106b : 1 ≤ r103 ∧ r103 ≤ 1 := by omega
        replace c106 := hd_i c106
        refine Tr.aload_n (pc := 109) (i := 0) d_X12_declares_109 rfl rfl ?_
        refine Tr.callV (pc := 110) (as := []) d_X12_declares_110 s_12_520 ok_X12_part rfl rfl (Nat.le_of_ble_eq_true rfl) (Nat.le_of_ble_eq_true rfl) (by decide) (ty_120 hS.1.1) ?_
        refine Tr.imp (Tr.deep (by decide) (ns_X12_part_120_w1 (G120_3 := g120_3) (G120_4 := g120_4) (G120_5 := g120_5) (G120_7 := g120_7) (G120_8 := g120_8) (G9010_0 := g9010_0) hS.1 (((kp_X12_isWord_120_120_3 h103).trans ((kp_X12_isWord_120_120_3 h38).trans ((kp_X12_isWord_120_120_3 h4).trans eg120_3)))) (((kp_X12_isWord_120_120_4 h103).trans ((kp_X12_isWord_120_120_4 h38).trans ((kp_X12_isWord_120_120_4 h4).trans eg120_4)))) (((kp_X12_isWord_120_120_5 h103).trans ((kp_X12_isWord_120_120_5 h38).trans ((kp_X12_isWord_120_120_5 h4).trans eg120_5)))) (((kp_X12_isWord_120_120_7 h103).trans ((kp_X12_isWord_120_120_7 h38).trans ((kp_X12_isWord_120_120_7 h4).trans eg120_7)))) (((kp_X12_isWord_120_120_8 h103).trans ((kp_X12_isWord_120_120_8 h38).trans ((kp_X12_isWord_120_120_8 h4).trans eg120_8)))) (((tav_of ((kp_X12_isWord_120_120_5 h103).trans ((kp_X12_isWord_120_120_5 h38).trans ((kp_X12_isWord_120_120_5 h4).trans rfl))) ((kp_X12_isWord_120_120_3 h103).trans ((kp_X12_isWord_120_120_3 h38).trans ((kp_X12_isWord_120_120_3 h4).trans rfl)))).trans eg9010_0)) ((kp_X12_declares_120_w1_120_37 hS).trans en_120_37) (by first | exact (hd_o hq0) | exact (hd_o hq0).elim (fun h1 => by omega) (fun h1 => by omega)) (by omega) (by first | exact (hd_o hq2) | exact (hd_o hq2).elim (fun h1 => by omega) (fun h1 => h1.elim (fun h1 => by omega) (fun h1 => by omega))) (by have h1 := (hd_o hq3); omega) (by omega))) ?_
        rintro M110 _ ⟨h110, s110_120_3, s110_120_4, s110_120_5, s110_120_7, s110_120_8, s110_9010_0, es110_120_3, bs110_120_3, es110_120_4, bs110_120_4, es110_120_5, bs110_120_5, es110_120_7, bs110_120_7, es110_120_8, bs110_120_8, es110_9010_0, bs110_9010_0, rfl, z110_0, z110_1, z110_2, z110_3, z110_4, z110_5⟩
        have hS := St.tr hS h110 (by decide) (by decide)
        refine Tr.sc [] rfl ?_
        refine Tr.goto (pc := 113) (tgt := 152) d_X12_declares_113 rfl ?_
        refine Tr.pick [0] (ls2 := [(0, (2, 120))]) rfl ?_
        obtain ⟨w152p113_120_6, ew152p113_120_6⟩ : ∃ v, rd M110 120 6 = v := ⟨_, rfl⟩
        have bw152p113_120_6 : (-2147483648) ≤ w152p113_120_6 ∧ w152p113_120_6 ≤ 2147483647 := by rw [← ew152p113_120_6]; exact ir_120_6 hS.1.2.1
        exact J152 _ _ _ _ _ _ _ _ hS (by and_intros <;> omega) (by and_intros <;> omega) (by and_intros <;> omega) (by and_intros <;> omega) (by omega) (by and_intros <;> omega) (by and_intros <;> omega) es110_120_3 es110_120_4 es110_120_5 ew152p113_120_6 es110_120_7 es110_120_8 es110_9010_0 (by first | exact (hd_o z110_0) | exact (hd_o z110_0).elim (fun h1 => by omega) (fun h1 => by omega)) (by omega) (by first | exact (hd_o z110_2) | exact (hd_o z110_2).elim (fun h1 => by omega) (fun h1 => h1.elim (fun h1 => by omega) (fun h1 => by omega))) (by and_intros <;> omega) (by first | exact (hd_o z110_4) | exact (hd_o z110_4).elim (fun h1 => by omega) (fun h1 => by omega))
    · have c41b : 1 ≤ r38 ∧ r38 ≤ 1 := by omega
      replace c41 := hd_i c41
      refine Tr.aload_n (pc := 44) (i := 0) d_X12_declares_44 rfl rfl ?_
      refine Tr.callV (pc := 45) (as := []) d_X12_declares_45 s_12_396 ok_X12_next rfl rfl (Nat.le_of_ble_eq_true rfl) (Nat.le_of_ble_eq_true rfl) (by decide) (ty_120 hS.1.1) ?_
      refine Tr.imp (Tr.deep (by decide) (ns_X12_next_120_w1 (G120_3 := g120_3) (G120_5 := g120_5) (G120_8 := g120_8) (G9010_0 := g9010_0) hS.1 (((kp_X12_isWord_120_120_3 h38).trans ((kp_X12_isWord_120_120_3 h4).trans eg120_3))) (((kp_X12_isWord_120_120_5 h38).trans ((kp_X12_isWord_120_120_5 h4).trans eg120_5))) (((kp_X12_isWord_120_120_8 h38).trans ((kp_X12_isWord_120_120_8 h4).trans eg120_8))) (((tav_of ((kp_X12_isWord_120_120_5 h38).trans ((kp_X12_isWord_120_120_5 h4).trans rfl)) ((kp_X12_isWord_120_120_3 h38).trans ((kp_X12_isWord_120_120_3 h4).trans rfl))).trans eg9010_0)))) ?_
      rintro M45 _ ⟨h45, s45_120_3, s45_120_4, s45_120_5, s45_120_7, s45_120_8, s45_9010_0, es45_120_3, bs45_120_3, es45_120_4, bs45_120_4, es45_120_5, bs45_120_5, es45_120_7, bs45_120_7, es45_120_8, bs45_120_8, es45_9010_0, bs45_9010_0, rfl, z45_0, z45_1, z45_2, z45_3, z45_4, z45_5, z45_6⟩
      have hS := St.tr hS h45 (by decide) (by decide)
      refine Tr.sc [] rfl ?_
      refine Tr.aload_n (pc := 48) (i := 0) d_X12_declares_48 rfl rfl ?_
      refine Tr.getf (pc := 49) d_X12_declares_49 f_12_54 (by decide) (by decide) (ty_120 hS.1.1) ?_
      refine Tr.tp 123 (fx_120_14 hS.1.1) ?_
      refine Tr.aload_n (pc := 52) (i := 0) d_X12_declares_52 rfl rfl ?_
      refine Tr.getf (pc := 53) d_X12_declares_53 f_12_124 (by decide) (by decide) (ty_120 hS.1.1) ?_
      refine Tr.tp 0 ((kp_X12_declares_120_w1_120_37 hS).trans en_120_37) ?_
      refine Tr.aload_n (pc := 56) (i := 0) d_X12_declares_56 rfl rfl ?_
      refine Tr.iconst (pc := 57) d_X12_declares_57 (by decide) ?_
      refine Tr.bipush (pc := 58) d_X12_declares_58 rfl (by decide) ?_
      refine Tr.callV (pc := 60) (as := [_, _]) d_X12_declares_60 s_12_516 ok_X12_number rfl rfl (Nat.le_of_ble_eq_true rfl) (Nat.le_of_ble_eq_true rfl) (by decide) (ty_120 hS.1.1) ?_
      refine Tr.imp (Tr.deep (by decide) (ns_X12_number_120_w1 (G120_3 := s45_120_3) (G120_4 := s45_120_4) (G120_5 := s45_120_5) (G120_7 := s45_120_7) (G120_8 := s45_120_8) (G9010_0 := s45_9010_0) hS.1 (es45_120_3) (es45_120_4) (es45_120_5) (es45_120_7) (es45_120_8) (es45_9010_0) 1 (by omega) 8 (by omega) (by first | exact (hd_o z45_0) | exact (hd_o z45_0).elim (fun h1 => by omega) (fun h1 => by omega)) (by omega) (by first | exact (hd_o z45_2) | exact (hd_o z45_2).elim (fun h1 => by omega) (fun h1 => h1.elim (fun h1 => by omega) (fun h1 => by omega))))) ?_
      rintro M60 _ ⟨h60, s60_120_3, s60_120_4, s60_120_5, s60_120_7, s60_120_8, s60_9010_0, es60_120_3, bs60_120_3, es60_120_4, bs60_120_4, es60_120_5, bs60_120_5, es60_120_7, bs60_120_7, es60_120_8, bs60_120_8, es60_9010_0, bs60_9010_0, r60, rfl, lr60, ur60, z60_0, z60_1, z60_2, z60_3, z60_4, z60_5, z60_6⟩
      have hS := St.tr hS h60 (by decide) (by decide)
      refine Tr.sc [(0, r60), (0, 0), (2, 123)] rfl ?_
      have kx_120_8 : rd M60 120 8 = s60_120_8 := es60_120_8
      refine Tr.iastS (pc := 63) (P := St Pm0 ws_X12_declares_120_w1 as_X12_declares_120_w1 M0) d_X12_declares_63 (ty_123 hS.1.1) (by omega) (by omega) (st_123_0 hS (by decide) (by and_intros <;> omega) (Pm0_cache hS.1.2.2.2.2 (by omega) (fun hf => by have hz : 1 ≤ s60_120_8 ∨ (1 ≤ r60 ∧ r60 ≤ 8) := (by first | exact (hd_o z60_6) | exact (hd_o z60_6).elim (fun h1 => by omega) (fun h1 => by omega)); omega))) (fun M63 hS w63 => ?_)
      refine Tr.aload_n (pc := 64) (i := 0) d_X12_declares_64 rfl rfl ?_
      refine Tr.getf (pc := 65) d_X12_declares_65 f_12_57 (by decide) (by decide) (ty_120 hS.1.1) ?_
      refine Tr.tp 124 (fx_120_15 hS.1.1) ?_
      refine Tr.aload_n (pc := 68) (i := 0) d_X12_declares_68 rfl rfl ?_
      refine Tr.getf (pc := 69) d_X12_declares_69 f_12_124 (by decide) (by decide) (ty_120 hS.1.1) ?_
      refine Tr.tp 0 ((kp_X12_declares_120_w1_120_37 hS).trans en_120_37) ?_
      refine Tr.aload_n (pc := 72) (i := 0) d_X12_declares_72 rfl rfl ?_
      refine Tr.iconst (pc := 73) d_X12_declares_73 (by decide) ?_
      refine Tr.bipush (pc := 74) d_X12_declares_74 rfl (by decide) ?_
      refine Tr.callV (pc := 76) (as := [_, _]) d_X12_declares_76 s_12_516 ok_X12_number rfl rfl (Nat.le_of_ble_eq_true rfl) (Nat.le_of_ble_eq_true rfl) (by decide) (ty_120 hS.1.1) ?_
      refine Tr.imp (Tr.deep (by decide) (ns_X12_number_120_w1 (G120_3 := s60_120_3) (G120_4 := s60_120_4) (G120_5 := s60_120_5) (G120_7 := s60_120_7) (G120_8 := s60_120_8) (G9010_0 := s60_9010_0) hS.1 (((Wr.b w63 rfl).trans es60_120_3)) (((Wr.b w63 rfl).trans es60_120_4)) (((Wr.b w63 rfl).trans es60_120_5)) (((Wr.b w63 rfl).trans es60_120_7)) (((Wr.b w63 rfl).trans es60_120_8)) (((tav_of ((Wr.b w63 rfl).trans rfl) ((Wr.b w63 rfl).trans rfl)).trans es60_9010_0)) 1 (by omega) 8 (by omega) (by first | exact (hd_o z60_0) | exact (hd_o z60_0).elim (fun h1 => by omega) (fun h1 => by omega)) (by omega) (by first | exact (hd_o z60_2) | exact (hd_o z60_2).elim (fun h1 => by omega) (fun h1 => h1.elim (fun h1 => by omega) (fun h1 => by omega))))) ?_
      rintro M76 _ ⟨h76, s76_120_3, s76_120_4, s76_120_5, s76_120_7, s76_120_8, s76_9010_0, es76_120_3, bs76_120_3, es76_120_4, bs76_120_4, es76_120_5, bs76_120_5, es76_120_7, bs76_120_7, es76_120_8, bs76_120_8, es76_9010_0, bs76_9010_0, r76, rfl, lr76, ur76, z76_0, z76_1, z76_2, z76_3, z76_4, z76_5, z76_6⟩
      have hS := St.tr hS h76 (by decide) (by decide)
      refine Tr.sc [(0, r76), (0, 0), (2, 124)] rfl ?_
      have kx_120_8 : rd M76 120 8 = s76_120_8 := es76_120_8
      refine Tr.iastS (pc := 79) (P := St Pm0 ws_X12_declares_120_w1 as_X12_declares_120_w1 M0) d_X12_declares_79 (ty_124 hS.1.1) (by omega) (by omega) (st_124_0 hS (by decide) (by and_intros <;> omega) (Pm0_cache hS.1.2.2.2.2 (by omega) (fun hf => by have hz : 1 ≤ s76_120_8 ∨ (1 ≤ r76 ∧ r76 ≤ 8) := (by first | exact (hd_o z76_6) | exact (hd_o z76_6).elim (fun h1 => by omega) (fun h1 => by omega)); omega))) (fun M79 hS w79 => ?_)
      refine Tr.aload_n (pc := 80) (i := 0) d_X12_declares_80 rfl rfl ?_
      refine Tr.getf (pc := 81) d_X12_declares_81 f_12_60 (by decide) (by decide) (ty_120 hS.1.1) ?_
      refine Tr.tp 125 (fx_120_16 hS.1.1) ?_
      refine Tr.aload_n (pc := 84) (i := 0) d_X12_declares_84 rfl rfl ?_
      refine Tr.getf (pc := 85) d_X12_declares_85 f_12_124 (by decide) (by decide) (ty_120 hS.1.1) ?_
      refine Tr.tp 0 ((kp_X12_declares_120_w1_120_37 hS).trans en_120_37) ?_
      refine Tr.aload_n (pc := 88) (i := 0) d_X12_declares_88 rfl rfl ?_
      refine Tr.iconst (pc := 89) d_X12_declares_89 (by decide) ?_
      refine Tr.bipush (pc := 90) d_X12_declares_90 rfl (by decide) ?_
      refine Tr.callV (pc := 92) (as := [_, _]) d_X12_declares_92 s_12_516 ok_X12_number rfl rfl (Nat.le_of_ble_eq_true rfl) (Nat.le_of_ble_eq_true rfl) (by decide) (ty_120 hS.1.1) ?_
      refine Tr.imp (Tr.deep (by decide) (ns_X12_number_120_w1 (G120_3 := s76_120_3) (G120_4 := s76_120_4) (G120_5 := s76_120_5) (G120_7 := s76_120_7) (G120_8 := s76_120_8) (G9010_0 := s76_9010_0) hS.1 (((Wr.b w79 rfl).trans es76_120_3)) (((Wr.b w79 rfl).trans es76_120_4)) (((Wr.b w79 rfl).trans es76_120_5)) (((Wr.b w79 rfl).trans es76_120_7)) (((Wr.b w79 rfl).trans es76_120_8)) (((tav_of ((Wr.b w79 rfl).trans rfl) ((Wr.b w79 rfl).trans rfl)).trans es76_9010_0)) 0 (by omega) 20 (by omega) (by first | exact (hd_o z76_0) | exact (hd_o z76_0).elim (fun h1 => by omega) (fun h1 => by omega)) (by omega) (by first | exact (hd_o z76_2) | exact (hd_o z76_2).elim (fun h1 => by omega) (fun h1 => h1.elim (fun h1 => by omega) (fun h1 => by omega))))) ?_
      rintro M92 _ ⟨h92, s92_120_3, s92_120_4, s92_120_5, s92_120_7, s92_120_8, s92_9010_0, es92_120_3, bs92_120_3, es92_120_4, bs92_120_4, es92_120_5, bs92_120_5, es92_120_7, bs92_120_7, es92_120_8, bs92_120_8, es92_9010_0, bs92_9010_0, r92, rfl, lr92, ur92, z92_0, z92_1, z92_2, z92_3, z92_4, z92_5, z92_6⟩
      have hS := St.tr hS h92 (by decide) (by decide)
      refine Tr.sc [(0, r92), (0, 0), (2, 125)] rfl ?_
      refine Tr.iastS (pc := 95) (P := St Pm0 ws_X12_declares_120_w1 as_X12_declares_120_w1 M0) d_X12_declares_95 (ty_125 hS.1.1) (by omega) (by omega) (st_125_0 hS (by decide) (by and_intros <;> omega) (Pm0.of hS.1.2.2.2.2 (fun _ => rd_wb _ rfl) (fun _ => rd_wb _ rfl) (fun _ => rd_wb _ rfl) (fun _ => rd_wb _ rfl) (fun _ => rd_wb _ rfl) (fun _ => rd_wb _ rfl) (fun _ => rd_wb _ rfl) (fun _ => rd_wb _ rfl) (fun _ => rd_wb _ rfl) (fun _ => rd_wb _ rfl) (rd_wb _ rfl) (rd_wb _ rfl) (rd_wb _ rfl) (rd_wb _ rfl) (rd_wb _ rfl) (rd_wb _ rfl) (rd_wb _ rfl) (rd_wb _ rfl) (rd_wb _ rfl) (rd_wb _ rfl) (rd_wb _ rfl))) (fun M95 hS w95 => ?_)
      refine Tr.goto (pc := 96) (tgt := 152) d_X12_declares_96 rfl ?_
      refine Tr.pick [0] (ls2 := [(0, (2, 120))]) rfl ?_
      obtain ⟨w152p96_120_6, ew152p96_120_6⟩ : ∃ v, rd M95 120 6 = v := ⟨_, rfl⟩
      have bw152p96_120_6 : (-2147483648) ≤ w152p96_120_6 ∧ w152p96_120_6 ≤ 2147483647 := by rw [← ew152p96_120_6]; exact ir_120_6 hS.1.2.1
      exact J152 _ _ _ _ _ _ _ _ hS (by and_intros <;> omega) (by and_intros <;> omega) (by and_intros <;> omega) (by and_intros <;> omega) (by omega) (by and_intros <;> omega) (by and_intros <;> omega) ((Wr.b w95 rfl).trans es92_120_3) ((Wr.b w95 rfl).trans es92_120_4) ((Wr.b w95 rfl).trans es92_120_5) ew152p96_120_6 ((Wr.b w95 rfl).trans es92_120_7) ((Wr.b w95 rfl).trans es92_120_8) ((tav_of ((Wr.b w95 rfl).trans rfl) ((Wr.b w95 rfl).trans rfl)).trans es92_9010_0) (by first | exact (hd_o z92_0) | exact (hd_o z92_0).elim (fun h1 => by omega) (fun h1 => by omega)) (by omega) (by first | exact (hd_o z92_2) | exact (hd_o z92_2).elim (fun h1 => by omega) (fun h1 => h1.elim (fun h1 => by omega) (fun h1 => by omega))) (by and_intros <;> omega) (by omega)
  · have c7b : 1 ≤ r4 ∧ r4 ≤ 1 := by omega
    replace c7 := hd_i c7
    refine Tr.aload_n (pc := 10) (i := 0) d_X12_declares_10 rfl rfl ?_
    refine Tr.callV (pc := 11) (as := []) d_X12_declares_11 s_12_396 ok_X12_next rfl rfl (Nat.le_of_ble_eq_true rfl) (Nat.le_of_ble_eq_true rfl) (by decide) (ty_120 hS.1.1) ?_
    refine Tr.imp (Tr.deep (by decide) (ns_X12_next_120_w1 (G120_3 := g120_3) (G120_5 := g120_5) (G120_8 := g120_8) (G9010_0 := g9010_0) hS.1 (((kp_X12_isWord_120_120_3 h4).trans eg120_3)) (((kp_X12_isWord_120_120_5 h4).trans eg120_5)) (((kp_X12_isWord_120_120_8 h4).trans eg120_8)) (((tav_of ((kp_X12_isWord_120_120_5 h4).trans rfl) ((kp_X12_isWord_120_120_3 h4).trans rfl)).trans eg9010_0)))) ?_
    rintro M11 _ ⟨h11, s11_120_3, s11_120_4, s11_120_5, s11_120_7, s11_120_8, s11_9010_0, es11_120_3, bs11_120_3, es11_120_4, bs11_120_4, es11_120_5, bs11_120_5, es11_120_7, bs11_120_7, es11_120_8, bs11_120_8, es11_9010_0, bs11_9010_0, rfl, z11_0, z11_1, z11_2, z11_3, z11_4, z11_5, z11_6⟩
    have hS := St.tr hS h11 (by decide) (by decide)
    refine Tr.sc [] rfl ?_
    refine Tr.aload_n (pc := 14) (i := 0) d_X12_declares_14 rfl rfl ?_
    refine Tr.getf (pc := 15) d_X12_declares_15 f_12_51 (by decide) (by decide) (ty_120 hS.1.1) ?_
    refine Tr.tp 122 (fx_120_13 hS.1.1) ?_
    refine Tr.aload_n (pc := 18) (i := 0) d_X12_declares_18 rfl rfl ?_
    refine Tr.getf (pc := 19) d_X12_declares_19 f_12_124 (by decide) (by decide) (ty_120 hS.1.1) ?_
    refine Tr.tp 0 ((kp_X12_declares_120_w1_120_37 hS).trans en_120_37) ?_
    refine Tr.aload_n (pc := 22) (i := 0) d_X12_declares_22 rfl rfl ?_
    refine Tr.iconst (pc := 23) d_X12_declares_23 (by decide) ?_
    refine Tr.sipush (pc := 24) d_X12_declares_24 rfl (by decide) ?_
    refine Tr.callV (pc := 27) (as := [_, _]) d_X12_declares_27 s_12_516 ok_X12_number rfl rfl (Nat.le_of_ble_eq_true rfl) (Nat.le_of_ble_eq_true rfl) (by decide) (ty_120 hS.1.1) ?_
    refine Tr.imp (Tr.deep (by decide) (ns_X12_number_120_w1 (G120_3 := s11_120_3) (G120_4 := s11_120_4) (G120_5 := s11_120_5) (G120_7 := s11_120_7) (G120_8 := s11_120_8) (G9010_0 := s11_9010_0) hS.1 (es11_120_3) (es11_120_4) (es11_120_5) (es11_120_7) (es11_120_8) (es11_9010_0) 0 (by omega) 999 (by omega) (by first | exact (hd_o z11_0) | exact (hd_o z11_0).elim (fun h1 => by omega) (fun h1 => by omega)) (by omega) (by first | exact (hd_o z11_2) | exact (hd_o z11_2).elim (fun h1 => by omega) (fun h1 => h1.elim (fun h1 => by omega) (fun h1 => by omega))))) ?_
    rintro M27 _ ⟨h27, s27_120_3, s27_120_4, s27_120_5, s27_120_7, s27_120_8, s27_9010_0, es27_120_3, bs27_120_3, es27_120_4, bs27_120_4, es27_120_5, bs27_120_5, es27_120_7, bs27_120_7, es27_120_8, bs27_120_8, es27_9010_0, bs27_9010_0, r27, rfl, lr27, ur27, z27_0, z27_1, z27_2, z27_3, z27_4, z27_5, z27_6⟩
    have hS := St.tr hS h27 (by decide) (by decide)
    refine Tr.sc [(0, r27), (0, 0), (2, 122)] rfl ?_
    refine Tr.iastS (pc := 30) (P := St Pm0 ws_X12_declares_120_w1 as_X12_declares_120_w1 M0) d_X12_declares_30 (ty_122 hS.1.1) (by omega) (by omega) (st_122_0 hS (by decide) (by and_intros <;> omega) (Pm0.of hS.1.2.2.2.2 (fun _ => rd_wb _ rfl) (fun _ => rd_wb _ rfl) (fun _ => rd_wb _ rfl) (fun _ => rd_wb _ rfl) (fun _ => rd_wb _ rfl) (fun _ => rd_wb _ rfl) (fun _ => rd_wb _ rfl) (fun _ => rd_wb _ rfl) (fun _ => rd_wb _ rfl) (fun _ => rd_wb _ rfl) (rd_wb _ rfl) (rd_wb _ rfl) (rd_wb _ rfl) (rd_wb _ rfl) (rd_wb _ rfl) (rd_wb _ rfl) (rd_wb _ rfl) (rd_wb _ rfl) (rd_wb _ rfl) (rd_wb _ rfl) (rd_wb _ rfl))) (fun M30 hS w30 => ?_)
    refine Tr.goto (pc := 31) (tgt := 152) d_X12_declares_31 rfl ?_
    refine Tr.pick [0] (ls2 := [(0, (2, 120))]) rfl ?_
    obtain ⟨w152p31_120_6, ew152p31_120_6⟩ : ∃ v, rd M30 120 6 = v := ⟨_, rfl⟩
    have bw152p31_120_6 : (-2147483648) ≤ w152p31_120_6 ∧ w152p31_120_6 ≤ 2147483647 := by rw [← ew152p31_120_6]; exact ir_120_6 hS.1.2.1
    exact J152 _ _ _ _ _ _ _ _ hS (by and_intros <;> omega) (by and_intros <;> omega) (by and_intros <;> omega) (by and_intros <;> omega) (by omega) (by and_intros <;> omega) (by and_intros <;> omega) ((Wr.b w30 rfl).trans es27_120_3) ((Wr.b w30 rfl).trans es27_120_4) ((Wr.b w30 rfl).trans es27_120_5) ew152p31_120_6 ((Wr.b w30 rfl).trans es27_120_7) ((Wr.b w30 rfl).trans es27_120_8) ((tav_of ((Wr.b w30 rfl).trans rfl) ((Wr.b w30 rfl).trans rfl)).trans es27_9010_0) (by first | exact (hd_o z27_0) | exact (hd_o z27_0).elim (fun h1 => by omega) (fun h1 => by omega)) (by omega) (by first | exact (hd_o z27_2) | exact (hd_o z27_2).elim (fun h1 => by omega) (fun h1 => h1.elim (fun h1 => by omega) (fun h1 => by omega))) (by and_intros <;> omega) (by omega)
end
/-! 40.10 -/
section
set_option maxRecDepth 100000 in
set_option maxHeartbeats 4000000 in
theorem ns_X12_declares_120_w1 {l : Launch} {K : EC} {M0 : Mem} {G120_3 G120_4 G120_5 G120_7 G120_8 G9010_0 : Int} (hI : In Pm0 M0) (k120_3 : rd M0 120 3 = G120_3) (k120_4 : rd M0 120 4 = G120_4) (k120_5 : rd M0 120 5 = G120_5) (k120_7 : rd M0 120 7 = G120_7) (k120_8 : rd M0 120 8 = G120_8) (k9010_0 : tav M0 = G9010_0) (en_120_37 : rd M0 120 37 = 0)   (hq0 : G120_3 = 0 ∨ G120_4 + 1 ≤ G120_5) (hq1 : G120_4 ≤ G120_5) (hq2 : G120_3 ≠ 1 ∨ G120_4 + 2 ≤ G120_5 ∨ G120_7 < 256) (hq3 : G120_3 ≠ 0) (hq4 : G120_8 = 0) : Tr l K 4 mX12_declares 0 [(0, (2, 120))] [] M0 (fun M' r => St Pm0 ws_X12_declares_120_w1 as_X12_declares_120_w1 M0 M' ∧ ∃ S120_3 S120_4 S120_5 S120_7 S120_8 S9010_0 : Int, rd M' 120 3 = S120_3 ∧ (0 ≤ S120_3 ∧ S120_3 ≤ 3) ∧ rd M' 120 4 = S120_4 ∧ (0 ≤ S120_4 ∧ S120_4 ≤ 900) ∧ rd M' 120 5 = S120_5 ∧ (0 ≤ S120_5 ∧ S120_5 ≤ 900) ∧ rd M' 120 7 = S120_7 ∧ ((-9223372036854775808) ≤ S120_7 ∧ S120_7 ≤ 9223372036854775807) ∧ rd M' 120 8 = S120_8 ∧ (0 ≤ S120_8 ∧ S120_8 ≤ 5) ∧ tav M' = S9010_0 ∧ ((-1) ≤ S9010_0 ∧ S9010_0 ≤ 1800) ∧ ∃ v : Int, r = some (0, v) ∧ 0 ≤ v ∧ v ≤ 1 ∧ Hd (S120_3 = 0 ∨ S120_4 + 1 ≤ S120_5) ∧ (S120_4 ≤ S120_5) ∧ Hd (S120_3 ≠ 1 ∨ S120_4 + 2 ≤ S120_5 ∨ S120_7 < 256) ∧ (G120_4 ≤ S120_4 ∧ G120_5 ≤ S120_5 ∧ G9010_0 ≤ S9010_0) ∧ Hd (G120_8 = 0 ∨ S120_8 = G120_8) ∧ Hd (v = 0 ∨ 1 ≤ S120_8 ∨ G9010_0 < S9010_0)) := by
  subst k120_3
  subst k120_4
  subst k120_5
  subst k120_7
  subst k120_8
  subst k9010_0
  refine Tr.imp (sp_X12_declares_120_w1 hI en_120_37 hq0 hq1 hq2 hq3 hq4) ?_
  rintro M' _ ⟨hS, v, rfl, lr, ur, z0, z1, z2, z3, z4, z5⟩
  exact ⟨hS, _, _, _, _, _, _, rfl, ir_120_3 hS.1.2.1, rfl, ir_120_4 hS.1.2.1, rfl, ir_120_5 hS.1.2.1, rfl, ir_120_7 hS.1.2.1, rfl, ir_120_8 hS.1.2.1, rfl, (tav_b hS.1.2.1), v, rfl, lr, ur, hd_i z0, z1, hd_i z2, z3, hd_i z4, hd_i z5⟩

def ws_X12_spot_120_w1 : List (Int × Int) := [(136, 0)]
def as_X12_spot_120_w1 : List Int := [137, 138, 139, 140, 141, 142]
def q_X12_spot_120_w1 (a1 : Int) (a2 : Int) (M0 M' : Mem) (r : Option PV) : Prop := St Pm0 ws_X12_spot_120_w1 as_X12_spot_120_w1 M0 M' ∧ ∃ v : Int, r = some (0, v) ∧ 0 ≤ v ∧ v ≤ 199 ∧ (rd M' 136 0 = rd M0 136 0 + 1) ∧ (v = 0 + rd M0 136 0) ∧ (∀ j : Int, j < 0 + rd M0 136 0 → rd M' 137 j = rd M0 137 j) ∧ (rd M' 137 (0 + rd M0 136 0) = a1)
theorem kp_X12_spot_120_w1_120_37 {q : Mem → Prop} {M0 M : Mem} (h : St q ws_X12_spot_120_w1 as_X12_spot_120_w1 M0 M) : rd M 120 37 = rd M0 120 37 := St.kp h (by decide) (by decide) (by decide)
set_option maxRecDepth 100000 in
set_option maxHeartbeats 4000000 in
theorem sp_X12_spot_120_w1 {l : Launch} {K : EC} {M0 : Mem} (hI : In Pm0 M0) (en_120_37 : rd M0 120 37 = 0) (a1 : Int) (ha1 : 0 ≤ a1 ∧ a1 ≤ 8) (a2 : Int) (ha2 : (-1) ≤ a2 ∧ a2 ≤ 59)  (hq0 : rd M0 136 0 ≤ 199) (hq1 : a1 ≠ 0 ∨ 1 ≤ rd M0 136 0) (hq2 : a1 = 0 ∨ 0 ≤ a2) : Tr l K 0 mX12_spot 0 [(0, (2, 120)), (1, (0, a1)), (2, (0, a2))] [] M0 (q_X12_spot_120_w1 a1 a2 M0) := by
  have hS : St Pm0 ws_X12_spot_120_w1 as_X12_spot_120_w1 M0 M0 := St.rf hI
  obtain ⟨g136_0, eg136_0⟩ : ∃ v, rd M0 136 0 = v := ⟨_, rfl⟩
  have bg136_0 : 0 ≤ g136_0 ∧ g136_0 ≤ 200 := by rw [← eg136_0]; exact ir_136_0 hI.2.1
  obtain ⟨g120_36, eg120_36⟩ : ∃ v, rd M0 120 36 = v := ⟨_, rfl⟩
  have bg120_36 : 0 ≤ g120_36 ∧ g120_36 ≤ 900 := by rw [← eg120_36]; exact ir_120_36 hI.2.1
  replace hq1 := hd_i hq1
  replace hq2 := hd_i hq2
  refine Tr.sipush (pc := 0) d_X12_spot_0 rfl (by decide) ?_
  refine Tr.aload_n (pc := 3) (i := 0) d_X12_spot_3 rfl rfl ?_
  refine Tr.getf (pc := 4) d_X12_spot_4 f_12_124 (by decide) (by decide) (ty_120 hS.1.1) ?_
  refine Tr.tp 0 ((kp_X12_spot_120_w1_120_37 hS).trans en_120_37) ?_
  refine Tr.imul (pc := 7) d_X12_spot_7 ?_
  refine Tr.tp 0 (by decide) ?_
  refine Tr.aload_n (pc := 8) (i := 0) d_X12_spot_8 rfl rfl ?_
  refine Tr.getf (pc := 9) d_X12_spot_9 f_12_94 (by decide) (by decide) (ty_120 hS.1.1) ?_
  refine Tr.tp 136 (fx_120_27 hS.1.1) ?_
  refine Tr.aload_n (pc := 12) (i := 0) d_X12_spot_12 rfl rfl ?_
  refine Tr.getf (pc := 13) d_X12_spot_13 f_12_124 (by decide) (by decide) (ty_120 hS.1.1) ?_
  refine Tr.tp 0 ((kp_X12_spot_120_w1_120_37 hS).trans en_120_37) ?_
  refine Tr.iald (pc := 16) d_X12_spot_16 (ty_136 hS.1.1) (by omega) (by omega) ?_
  refine Tr.tp g136_0 eg136_0 ?_
  refine Tr.iadd (pc := 17) d_X12_spot_17 ?_
  refine Tr.tp g136_0 ((w32_id (by and_intros <;> omega)).trans (by omega)) ?_
  refine Tr.istore_n (pc := 18) (i := 3) (ls2 := [(3, (0, g136_0)), (0, (2, 120)), (1, (0, a1)), (2, (0, a2))]) d_X12_spot_18 rfl (by decide) rfl ?_
  refine Tr.aload_n (pc := 19) (i := 0) d_X12_spot_19 rfl rfl ?_
  refine Tr.getf (pc := 20) d_X12_spot_20 f_12_97 (by decide) (by decide) (ty_120 hS.1.1) ?_
  refine Tr.tp 137 (fx_120_28 hS.1.1) ?_
  refine Tr.iload_n (pc := 23) (i := 3) d_X12_spot_23 rfl rfl ?_
  refine Tr.iload_n (pc := 24) (i := 1) d_X12_spot_24 rfl rfl ?_
  have kx_136_0 : rd M0 136 0 = g136_0 := eg136_0
  refine Tr.iastS (pc := 25) (P := St Pm0 ws_X12_spot_120_w1 as_X12_spot_120_w1 M0) d_X12_spot_25 (ty_137 hS.1.1) (by omega) (by omega) (sa_137 hS (by decide) (by and_intros <;> omega) (Pm0_free hS.1.2.2.2.2 hS.1.2.1 (by omega) (by omega) (by omega))) (fun M25 hS w25 => ?_)
  refine Tr.aload_n (pc := 26) (i := 0) d_X12_spot_26 rfl rfl ?_
  refine Tr.getf (pc := 27) d_X12_spot_27 f_12_100 (by decide) (by decide) (ty_120 hS.1.1) ?_
  refine Tr.tp 138 (fx_120_29 hS.1.1) ?_
  refine Tr.iload_n (pc := 30) (i := 3) d_X12_spot_30 rfl rfl ?_
  refine Tr.iload_n (pc := 31) (i := 2) d_X12_spot_31 rfl rfl ?_
  have kx_136_0 : rd M25 136 0 = g136_0 := ((Wr.b w25 rfl).trans eg136_0)
  refine Tr.iastS (pc := 32) (P := St Pm0 ws_X12_spot_120_w1 as_X12_spot_120_w1 M0) d_X12_spot_32 (ty_138 hS.1.1) (by omega) (by omega) (sa_138 hS (by decide) (by and_intros <;> omega) (Pm0_free hS.1.2.2.2.2 hS.1.2.1 (by omega) (by omega) (by omega))) (fun M32 hS w32 => ?_)
  refine Tr.aload_n (pc := 33) (i := 0) d_X12_spot_33 rfl rfl ?_
  refine Tr.getf (pc := 34) d_X12_spot_34 f_12_103 (by decide) (by decide) (ty_120 hS.1.1) ?_
  refine Tr.tp 139 (fx_120_30 hS.1.1) ?_
  refine Tr.iload_n (pc := 37) (i := 3) d_X12_spot_37 rfl rfl ?_
  refine Tr.iconst (pc := 38) d_X12_spot_38 (by decide) ?_
  have kx_136_0 : rd M32 136 0 = g136_0 := ((Wr.b w32 rfl).trans ((Wr.b w25 rfl).trans eg136_0))
  refine Tr.iastS (pc := 39) (P := St Pm0 ws_X12_spot_120_w1 as_X12_spot_120_w1 M0) d_X12_spot_39 (ty_139 hS.1.1) (by omega) (by omega) (sa_139 hS (by decide) (by omega) (Pm0_free hS.1.2.2.2.2 hS.1.2.1 (by omega) (by omega) (by omega))) (fun M39 hS w39 => ?_)
  refine Tr.aload_n (pc := 40) (i := 0) d_X12_spot_40 rfl rfl ?_
  refine Tr.getf (pc := 41) d_X12_spot_41 f_12_106 (by decide) (by decide) (ty_120 hS.1.1) ?_
  refine Tr.tp 140 (fx_120_31 hS.1.1) ?_
  refine Tr.iload_n (pc := 44) (i := 3) d_X12_spot_44 rfl rfl ?_
  refine Tr.aload_n (pc := 45) (i := 0) d_X12_spot_45 rfl rfl ?_
  refine Tr.getf (pc := 46) d_X12_spot_46 f_12_121 (by decide) (by decide) (ty_120 hS.1.1) ?_
  refine Tr.tp g120_36 ((Wr.b w39 rfl).trans ((Wr.b w32 rfl).trans ((Wr.b w25 rfl).trans eg120_36))) ?_
  have kx_136_0 : rd M39 136 0 = g136_0 := ((Wr.b w39 rfl).trans ((Wr.b w32 rfl).trans ((Wr.b w25 rfl).trans eg136_0)))
  refine Tr.iastS (pc := 49) (P := St Pm0 ws_X12_spot_120_w1 as_X12_spot_120_w1 M0) d_X12_spot_49 (ty_140 hS.1.1) (by omega) (by omega) (sa_140 hS (by decide) (by and_intros <;> omega) (Pm0_free hS.1.2.2.2.2 hS.1.2.1 (by omega) (by omega) (by omega))) (fun M49 hS w49 => ?_)
  refine Tr.aload_n (pc := 50) (i := 0) d_X12_spot_50 rfl rfl ?_
  refine Tr.getf (pc := 51) d_X12_spot_51 f_12_109 (by decide) (by decide) (ty_120 hS.1.1) ?_
  refine Tr.tp 141 (fx_120_32 hS.1.1) ?_
  refine Tr.iload_n (pc := 54) (i := 3) d_X12_spot_54 rfl rfl ?_
  refine Tr.aload_n (pc := 55) (i := 0) d_X12_spot_55 rfl rfl ?_
  refine Tr.getf (pc := 56) d_X12_spot_56 f_12_121 (by decide) (by decide) (ty_120 hS.1.1) ?_
  refine Tr.tp g120_36 ((Wr.b w49 rfl).trans ((Wr.b w39 rfl).trans ((Wr.b w32 rfl).trans ((Wr.b w25 rfl).trans eg120_36)))) ?_
  have kx_136_0 : rd M49 136 0 = g136_0 := ((Wr.b w49 rfl).trans ((Wr.b w39 rfl).trans ((Wr.b w32 rfl).trans ((Wr.b w25 rfl).trans eg136_0))))
  refine Tr.iastS (pc := 59) (P := St Pm0 ws_X12_spot_120_w1 as_X12_spot_120_w1 M0) d_X12_spot_59 (ty_141 hS.1.1) (by omega) (by omega) (sa_141 hS (by decide) (by and_intros <;> omega) (Pm0_free hS.1.2.2.2.2 hS.1.2.1 (by omega) (by omega) (by omega))) (fun M59 hS w59 => ?_)
  refine Tr.aload_n (pc := 60) (i := 0) d_X12_spot_60 rfl rfl ?_
  refine Tr.getf (pc := 61) d_X12_spot_61 f_12_112 (by decide) (by decide) (ty_120 hS.1.1) ?_
  refine Tr.tp 142 (fx_120_33 hS.1.1) ?_
  refine Tr.iload_n (pc := 64) (i := 3) d_X12_spot_64 rfl rfl ?_
  refine Tr.iconst (pc := 65) d_X12_spot_65 (by decide) ?_
  have kx_136_0 : rd M59 136 0 = g136_0 := ((Wr.b w59 rfl).trans ((Wr.b w49 rfl).trans ((Wr.b w39 rfl).trans ((Wr.b w32 rfl).trans ((Wr.b w25 rfl).trans eg136_0)))))
  refine Tr.iastS (pc := 66) (P := St Pm0 ws_X12_spot_120_w1 as_X12_spot_120_w1 M0) d_X12_spot_66 (ty_142 hS.1.1) (by omega) (by omega) (sa_142 hS (by decide) (by omega) (Pm0_free hS.1.2.2.2.2 hS.1.2.1 (by omega) (by omega) (by omega))) (fun M66 hS w66 => ?_)
  refine Tr.aload_n (pc := 67) (i := 0) d_X12_spot_67 rfl rfl ?_
  refine Tr.getf (pc := 68) d_X12_spot_68 f_12_94 (by decide) (by decide) (ty_120 hS.1.1) ?_
  refine Tr.tp 136 (fx_120_27 hS.1.1) ?_
  refine Tr.aload_n (pc := 71) (i := 0) d_X12_spot_71 rfl rfl ?_
  refine Tr.getf (pc := 72) d_X12_spot_72 f_12_124 (by decide) (by decide) (ty_120 hS.1.1) ?_
  refine Tr.tp 0 ((kp_X12_spot_120_w1_120_37 hS).trans en_120_37) ?_
  refine Tr.dup2 (pc := 75) d_X12_spot_75 ne01 ne21 ?_
  refine Tr.iald (pc := 76) d_X12_spot_76 (ty_136 hS.1.1) (by omega) (by omega) ?_
  refine Tr.tp g136_0 ((Wr.b w66 rfl).trans ((Wr.b w59 rfl).trans ((Wr.b w49 rfl).trans ((Wr.b w39 rfl).trans ((Wr.b w32 rfl).trans ((Wr.b w25 rfl).trans eg136_0)))))) ?_
  refine Tr.iconst (pc := 77) d_X12_spot_77 (by decide) ?_
  refine Tr.iadd (pc := 78) d_X12_spot_78 ?_
  refine Tr.tp (g136_0 + 1) ((w32_id (by and_intros <;> omega)).trans (by omega)) ?_
  have kx_136_0 : rd M66 136 0 = g136_0 := ((Wr.b w66 rfl).trans ((Wr.b w59 rfl).trans ((Wr.b w49 rfl).trans ((Wr.b w39 rfl).trans ((Wr.b w32 rfl).trans ((Wr.b w25 rfl).trans eg136_0))))))
  refine Tr.iastS (pc := 79) (P := St Pm0 ws_X12_spot_120_w1 as_X12_spot_120_w1 M0) d_X12_spot_79 (ty_136 hS.1.1) (by omega) (by omega) (st_136_0 hS (by decide) (by and_intros <;> omega) (Pm0_spot hS.1.2.2.2.2 hS.1.2.1 (by have e9 := ((Wr.b w66 rfl).trans ((Wr.b w59 rfl).trans ((Wr.b w49 rfl).trans ((Wr.b w39 rfl).trans ((Wr.b w32 rfl).trans ((Wr.b w25 rfl).trans eg136_0)))))); omega) ((show rd M66 137 (0 + rd M66 136 0) = rd M66 137 g136_0 from congrArg _ (by have e9 := ((Wr.b w66 rfl).trans ((Wr.b w59 rfl).trans ((Wr.b w49 rfl).trans ((Wr.b w39 rfl).trans ((Wr.b w32 rfl).trans ((Wr.b w25 rfl).trans eg136_0)))))); omega)).trans (((Wr.b w66 rfl).trans ((Wr.b w59 rfl).trans ((Wr.b w49 rfl).trans ((Wr.b w39 rfl).trans ((Wr.b w32 rfl).trans w25.1))))))) ((show rd M66 138 (0 + rd M66 136 0) = rd M66 138 g136_0 from congrArg _ (by have e9 := ((Wr.b w66 rfl).trans ((Wr.b w59 rfl).trans ((Wr.b w49 rfl).trans ((Wr.b w39 rfl).trans ((Wr.b w32 rfl).trans ((Wr.b w25 rfl).trans eg136_0)))))); omega)).trans (((Wr.b w66 rfl).trans ((Wr.b w59 rfl).trans ((Wr.b w49 rfl).trans ((Wr.b w39 rfl).trans w32.1)))))) ((show rd M66 139 (0 + rd M66 136 0) = rd M66 139 g136_0 from congrArg _ (by have e9 := ((Wr.b w66 rfl).trans ((Wr.b w59 rfl).trans ((Wr.b w49 rfl).trans ((Wr.b w39 rfl).trans ((Wr.b w32 rfl).trans ((Wr.b w25 rfl).trans eg136_0)))))); omega)).trans (((Wr.b w66 rfl).trans ((Wr.b w59 rfl).trans ((Wr.b w49 rfl).trans w39.1))))) ((show rd M66 140 (0 + rd M66 136 0) = rd M66 140 g136_0 from congrArg _ (by have e9 := ((Wr.b w66 rfl).trans ((Wr.b w59 rfl).trans ((Wr.b w49 rfl).trans ((Wr.b w39 rfl).trans ((Wr.b w32 rfl).trans ((Wr.b w25 rfl).trans eg136_0)))))); omega)).trans (((Wr.b w66 rfl).trans ((Wr.b w59 rfl).trans w49.1)))) ((show rd M66 141 (0 + rd M66 136 0) = rd M66 141 g136_0 from congrArg _ (by have e9 := ((Wr.b w66 rfl).trans ((Wr.b w59 rfl).trans ((Wr.b w49 rfl).trans ((Wr.b w39 rfl).trans ((Wr.b w32 rfl).trans ((Wr.b w25 rfl).trans eg136_0)))))); omega)).trans (((Wr.b w66 rfl).trans w59.1))) ((show rd M66 142 (0 + rd M66 136 0) = rd M66 142 g136_0 from congrArg _ (by have e9 := ((Wr.b w66 rfl).trans ((Wr.b w59 rfl).trans ((Wr.b w49 rfl).trans ((Wr.b w39 rfl).trans ((Wr.b w32 rfl).trans ((Wr.b w25 rfl).trans eg136_0)))))); omega)).trans (w66.1)) (((Wr.b w66 rfl).trans ((Wr.b w59 rfl).trans ((Wr.b w49 rfl).trans ((Wr.b w39 rfl).trans ((Wr.b w32 rfl).trans ((Wr.b w25 rfl).trans eg120_36))))))) (fun c => by have e9 := ((Wr.b w66 rfl).trans ((Wr.b w59 rfl).trans ((Wr.b w49 rfl).trans ((Wr.b w39 rfl).trans ((Wr.b w32 rfl).trans ((Wr.b w25 rfl).trans eg136_0)))))); have h5 := hd_o hq1; omega) (fun c => by have h5 := hd_o hq2; omega))) (fun M79 hS w79 => ?_)
  refine Tr.iload_n (pc := 80) (i := 3) d_X12_spot_80 rfl rfl ?_
  have kr_136_0 : rd M79 136 0 = (g136_0 + 1) := w79.1
  exact Tr.iret (pc := 81) d_X12_spot_81 rfl ⟨hS, _, rfl, (by omega), (by omega), (by omega), (by omega), (fun j hj => ((Wr.b w79 rfl).trans ((Wr.b w66 rfl).trans ((Wr.b w59 rfl).trans ((Wr.b w49 rfl).trans ((Wr.b w39 rfl).trans ((Wr.b w32 rfl).trans (w25.2 _ _ (fun c => by have := c.2; omega))))))))), ((show _ = _ from congrArg _ (by omega)).trans (((Wr.b w79 rfl).trans ((Wr.b w66 rfl).trans ((Wr.b w59 rfl).trans ((Wr.b w49 rfl).trans ((Wr.b w39 rfl).trans ((Wr.b w32 rfl).trans w25.1))))))))⟩

set_option maxRecDepth 100000 in
set_option maxHeartbeats 4000000 in
theorem ns_X12_spot_120_w1 {l : Launch} {K : EC} {M0 : Mem} {G136_0 : Int} (hI : In Pm0 M0) (k136_0 : rd M0 136 0 = G136_0) (en_120_37 : rd M0 120 37 = 0) (a1 : Int) (ha1 : 0 ≤ a1 ∧ a1 ≤ 8) (a2 : Int) (ha2 : (-1) ≤ a2 ∧ a2 ≤ 59)  (hq0 : G136_0 ≤ 199) (hq1 : a1 ≠ 0 ∨ 1 ≤ G136_0) (hq2 : a1 = 0 ∨ 0 ≤ a2) : Tr l K 0 mX12_spot 0 [(0, (2, 120)), (1, (0, a1)), (2, (0, a2))] [] M0 (fun M' r => St Pm0 ws_X12_spot_120_w1 as_X12_spot_120_w1 M0 M' ∧ ∃ S136_0 : Int, rd M' 136 0 = S136_0 ∧ (0 ≤ S136_0 ∧ S136_0 ≤ 200) ∧ ∃ v : Int, r = some (0, v) ∧ 0 ≤ v ∧ v ≤ 199 ∧ (S136_0 = G136_0 + 1) ∧ (v = 0 + G136_0) ∧ (∀ j : Int, j < 0 + rd M0 136 0 → rd M' 137 j = rd M0 137 j) ∧ (rd M' 137 (0 + rd M0 136 0) = a1)) := by
  subst k136_0
  refine Tr.imp (sp_X12_spot_120_w1 hI en_120_37 a1 ha1 a2 ha2 hq0 hq1 hq2) ?_
  rintro M' _ ⟨hS, v, rfl, lr, ur, z0, z1, z2, z3⟩
  exact ⟨hS, _, rfl, ir_136_0 hS.1.2.1, v, rfl, lr, ur, z0, z1, z2, z3⟩

def ws_X12_asked_120_w1 : List (Int × Int) := [(120, 3), (120, 4), (120, 5), (120, 6), (120, 7), (120, 8), (120, 9)]
def as_X12_asked_120_w1 : List Int := []
def q_X12_asked_120_w1 (a1 : Int) (M0 M' : Mem) (r : Option PV) : Prop := St Pm0 ws_X12_asked_120_w1 as_X12_asked_120_w1 M0 M' ∧ ∃ v : Int, r = some (0, v) ∧ (-1) ≤ v ∧ v ≤ 5 ∧ (rd M' 120 3 = 0 ∨ rd M' 120 4 + 1 ≤ rd M' 120 5) ∧ (rd M' 120 4 ≤ rd M' 120 5) ∧ (rd M' 120 3 ≠ 1 ∨ rd M' 120 4 + 2 ≤ rd M' 120 5 ∨ rd M' 120 7 < 256) ∧ (rd M0 120 4 ≤ rd M' 120 4 ∧ rd M0 120 5 ≤ rd M' 120 5 ∧ tav M0 ≤ tav M') ∧ (rd M0 120 8 = 0 ∨ rd M' 120 8 = rd M0 120 8) ∧ (1 ≤ rd M' 120 8 ∨ tav M0 < tav M') ∧ (1 ≤ rd M' 120 8 ∨ (0 ≤ v ∧ v ≤ 5))
theorem kp_X12_asked_120_w1_120_37 {q : Mem → Prop} {M0 M : Mem} (h : St q ws_X12_asked_120_w1 as_X12_asked_120_w1 M0 M) : rd M 120 37 = rd M0 120 37 := St.kp h (by decide) (by decide) (by decide)
set_option maxRecDepth 100000 in
set_option maxHeartbeats 4000000 in
theorem sp_X12_asked_120_w1 {l : Launch} {K : EC} {M0 : Mem} (hI : In Pm0 M0) (en_120_37 : rd M0 120 37 = 0) (a1 : Int) (ha1 : 0 ≤ a1 ∧ a1 ≤ 1)  (hq0 : rd M0 120 3 = 0 ∨ rd M0 120 4 + 1 ≤ rd M0 120 5) (hq1 : rd M0 120 4 ≤ rd M0 120 5) (hq2 : rd M0 120 3 ≠ 1 ∨ rd M0 120 4 + 2 ≤ rd M0 120 5 ∨ rd M0 120 7 < 256) : Tr l K 2 mX12_asked 0 [(0, (2, 120)), (1, (0, a1))] [] M0 (q_X12_asked_120_w1 a1 M0) := by
  have hS : St Pm0 ws_X12_asked_120_w1 as_X12_asked_120_w1 M0 M0 := St.rf hI
  obtain ⟨g120_8, eg120_8⟩ : ∃ v, rd M0 120 8 = v := ⟨_, rfl⟩
  have bg120_8 : 0 ≤ g120_8 ∧ g120_8 ≤ 5 := by rw [← eg120_8]; exact ir_120_8 hI.2.1
  obtain ⟨g120_3, eg120_3⟩ : ∃ v, rd M0 120 3 = v := ⟨_, rfl⟩
  have bg120_3 : 0 ≤ g120_3 ∧ g120_3 ≤ 3 := by rw [← eg120_3]; exact ir_120_3 hI.2.1
  obtain ⟨g120_4, eg120_4⟩ : ∃ v, rd M0 120 4 = v := ⟨_, rfl⟩
  have bg120_4 : 0 ≤ g120_4 ∧ g120_4 ≤ 900 := by rw [← eg120_4]; exact ir_120_4 hI.2.1
  obtain ⟨g120_5, eg120_5⟩ : ∃ v, rd M0 120 5 = v := ⟨_, rfl⟩
  have bg120_5 : 0 ≤ g120_5 ∧ g120_5 ≤ 900 := by rw [← eg120_5]; exact ir_120_5 hI.2.1
  obtain ⟨g120_7, eg120_7⟩ : ∃ v, rd M0 120 7 = v := ⟨_, rfl⟩
  have bg120_7 : (-9223372036854775808) ≤ g120_7 ∧ g120_7 ≤ 9223372036854775807 := by rw [← eg120_7]; exact ir_120_7 hI.2.1
  obtain ⟨g9010_0, eg9010_0⟩ : ∃ v, tav M0 = v := ⟨_, rfl⟩
  have bg9010_0 : (-1) ≤ g9010_0 ∧ g9010_0 ≤ 1800 := by rw [← eg9010_0]; exact (tav_b hI.2.1)
  replace hq0 := hd_i hq0
  replace hq2 := hd_i hq2
  refine Tr.aload_n (pc := 0) (i := 0) d_X12_asked_0 rfl rfl ?_
  refine Tr.getf (pc := 1) d_X12_asked_1 f_12_36 (by decide) (by decide) (ty_120 hS.1.1) ?_
  refine Tr.tp g120_8 eg120_8 ?_
  refine Tr.if_le (pc := 4) (tgt := 9) d_X12_asked_4 rfl (fun c4 => ?_) (fun c4 => ?_)
  · refine Tr.aload_n (pc := 9) (i := 0) d_X12_asked_9 rfl rfl ?_
    refine Tr.getf (pc := 10) d_X12_asked_10 f_12_20 (by decide) (by decide) (ty_120 hS.1.1) ?_
    refine Tr.tp g120_3 eg120_3 ?_
    refine Tr.iconst (pc := 13) d_X12_asked_13 (by decide) ?_
    have J37 : ∀ (M : Mem) (u37_120_8 : Int), St Pm0 ws_X12_asked_120_w1 as_X12_asked_120_w1 M0 M → (0 ≤ u37_120_8 ∧ u37_120_8 ≤ 5) → rd M 120 3 = g120_3 → rd M 120 4 = g120_4 → rd M 120 5 = g120_5 → rd M 120 7 = g120_7 → rd M 120 8 = u37_120_8 → tav M = g9010_0 → (u37_120_8 ≠ 0 ∨ g120_3 ≠ 0) → (g120_8 = 0) → Tr l K 2 mX12_asked 37 [(0, (2, 120)), (1, (0, a1))] [] M (q_X12_asked_120_w1 a1 M0) := by
      intro M u37_120_8 hS bu37_120_8 k37_120_3 k37_120_4 k37_120_5 k37_120_7 k37_120_8 k37_9010_0 t37_0 t37_1
      replace t37_0 := hd_i t37_0
      refine Tr.aload_n (pc := 37) (i := 0) d_X12_asked_37 rfl rfl ?_
      refine Tr.getf (pc := 38) d_X12_asked_38 f_12_36 (by decide) (by decide) (ty_120 hS.1.1) ?_
      refine Tr.tp u37_120_8 k37_120_8 ?_
      have J71 : ∀ (M : Mem) (q71_0 : Int), St Pm0 ws_X12_asked_120_w1 as_X12_asked_120_w1 M0 M → ((-1) ≤ q71_0 ∧ q71_0 ≤ 5) → rd M 120 3 = g120_3 → rd M 120 4 = g120_4 → rd M 120 5 = g120_5 → rd M 120 7 = g120_7 → rd M 120 8 = u37_120_8 → tav M = g9010_0 → (u37_120_8 ≠ 0 ∨ g120_3 ≠ 0) → (g120_8 = 0) → (u37_120_8 ≠ 0 ∨ (-1 ≤ q71_0 ∧ q71_0 ≤ 5)) → Tr l K 2 mX12_asked 71 [(0, (2, 120))] [(0, q71_0)] M (q_X12_asked_120_w1 a1 M0) := by
        intro M q71_0 hS bq71_0 k71_120_3 k71_120_4 k71_120_5 k71_120_7 k71_120_8 k71_9010_0 t71_0 t71_1 t71_2
        clear k37_120_3 k37_120_4 k37_120_5 k37_120_7 k37_120_8 k37_9010_0
        replace t71_0 := hd_i t71_0
        replace t71_2 := hd_i t71_2
        refine Tr.istore_n (pc := 71) (i := 2) (ls2 := [(2, (0, q71_0)), (0, (2, 120))]) d_X12_asked_71 rfl (by decide) rfl ?_
        refine Tr.aload_n (pc := 72) (i := 0) d_X12_asked_72 rfl rfl ?_
        refine Tr.getf (pc := 73) d_X12_asked_73 f_12_36 (by decide) (by decide) (ty_120 hS.1.1) ?_
        refine Tr.tp u37_120_8 k71_120_8 ?_
        have J93 : ∀ (M : Mem) (u93_120_8 : Int), St Pm0 ws_X12_asked_120_w1 as_X12_asked_120_w1 M0 M → (0 ≤ u93_120_8 ∧ u93_120_8 ≤ 5) → rd M 120 3 = g120_3 → rd M 120 4 = g120_4 → rd M 120 5 = g120_5 → rd M 120 7 = g120_7 → rd M 120 8 = u93_120_8 → tav M = g9010_0 → (u93_120_8 ≠ 0 ∨ g120_3 ≠ 0) → (g120_8 = 0) → (u93_120_8 ≠ 0 ∨ (0 ≤ q71_0 ∧ q71_0 ≤ 5)) → Tr l K 2 mX12_asked 93 [(0, (2, 120)), (2, (0, q71_0))] [] M (q_X12_asked_120_w1 a1 M0) := by
          intro M u93_120_8 hS bu93_120_8 k93_120_3 k93_120_4 k93_120_5 k93_120_7 k93_120_8 k93_9010_0 t93_0 t93_1 t93_2
          clear k71_120_3 k71_120_4 k71_120_5 k71_120_7 k71_120_8 k71_9010_0
          replace t93_0 := hd_i t93_0
          replace t93_2 := hd_i t93_2
          refine Tr.aload_n (pc := 93) (i := 0) d_X12_asked_93 rfl rfl ?_
          refine Tr.getf (pc := 94) d_X12_asked_94 f_12_36 (by decide) (by decide) (ty_120 hS.1.1) ?_
          refine Tr.tp u93_120_8 k93_120_8 ?_
          refine Tr.if_ne (pc := 97) (tgt := 104) d_X12_asked_97 rfl (fun c97 => ?_) (fun c97 => ?_)
          · have c97b : 1 ≤ u93_120_8 ∧ u93_120_8 ≤ 5 := by omega
            replace c97 := hd_i c97
            refine Tr.iload_n (pc := 104) (i := 2) d_X12_asked_104 rfl rfl ?_
            have kr_120_3 : rd M 120 3 = g120_3 := k93_120_3
            have kr_120_4 : rd M 120 4 = g120_4 := k93_120_4
            have kr_120_5 : rd M 120 5 = g120_5 := k93_120_5
            have kr_120_7 : rd M 120 7 = g120_7 := k93_120_7
            have kr_120_8 : rd M 120 8 = u93_120_8 := k93_120_8
            have kr_9010_0 : tav M = g9010_0 := k93_9010_0
            exact Tr.iret (pc := 105) d_X12_asked_105 rfl ⟨hS, _, rfl, (by omega), (by omega), (by first | exact (hd_o hq0) | exact (hd_o hq0).elim (fun h1 => by omega) (fun h1 => by omega)), (by omega), (by first | exact (hd_o hq2) | exact (hd_o hq2).elim (fun h1 => by omega) (fun h1 => h1.elim (fun h1 => by omega) (fun h1 => by omega))), (by and_intros <;> omega), (by omega), (by omega), (by omega)⟩
          · refine Tr.aload_n (pc := 100) (i := 0) d_X12_asked_100 rfl rfl ?_
            refine Tr.callV (pc := 101) (as := []) d_X12_asked_101 s_12_396 ok_X12_next rfl rfl (Nat.le_of_ble_eq_true rfl) (Nat.le_of_ble_eq_true rfl) (by decide) (ty_120 hS.1.1) ?_
            refine Tr.imp (Tr.deep (by decide) (ns_X12_next_120_w1 (G120_3 := g120_3) (G120_5 := g120_5) (G120_8 := u93_120_8) (G9010_0 := g9010_0) hS.1 (k93_120_3) (k93_120_5) (k93_120_8) (k93_9010_0))) ?_
            rintro M101 _ ⟨h101, s101_120_3, s101_120_4, s101_120_5, s101_120_7, s101_120_8, s101_9010_0, es101_120_3, bs101_120_3, es101_120_4, bs101_120_4, es101_120_5, bs101_120_5, es101_120_7, bs101_120_7, es101_120_8, bs101_120_8, es101_9010_0, bs101_9010_0, rfl, z101_0, z101_1, z101_2, z101_3, z101_4, z101_5, z101_6⟩
            have hS := St.tr hS h101 (by decide) (by decide)
            refine Tr.sc [] rfl ?_
            refine Tr.iload_n (pc := 104) (i := 2) d_X12_asked_104 rfl rfl ?_
            have kr_120_3 : rd M101 120 3 = s101_120_3 := es101_120_3
            have kr_120_4 : rd M101 120 4 = s101_120_4 := es101_120_4
            have kr_120_5 : rd M101 120 5 = s101_120_5 := es101_120_5
            have kr_120_7 : rd M101 120 7 = s101_120_7 := es101_120_7
            have kr_120_8 : rd M101 120 8 = s101_120_8 := es101_120_8
            have kr_9010_0 : tav M101 = s101_9010_0 := es101_9010_0
            exact Tr.iret (pc := 105) d_X12_asked_105 rfl ⟨hS, _, rfl, (by omega), (by omega), (by first | exact (hd_o z101_0) | exact (hd_o z101_0).elim (fun h1 => by omega) (fun h1 => by omega)), (by omega), (by first | exact (hd_o z101_2) | exact (hd_o z101_2).elim (fun h1 => by omega) (fun h1 => h1.elim (fun h1 => by omega) (fun h1 => by omega))), (by and_intros <;> omega), (by omega), (by exact (hd_o t93_0).elim (fun h1 => (ne_o h1).elim (fun h2 => by omega) (fun h2 => by omega)) (fun h1 => (ne_o h1).elim (fun h2 => by omega) (fun h2 => (hd_o z101_5).elim (fun h3 => by omega) (fun h3 => by omega)))), (by exact (hd_o t93_2).elim (fun h1 => (ne_o h1).elim (fun h2 => by omega) (fun h2 => by omega)) (fun h1 => by omega))⟩
        refine Tr.if_ne (pc := 76) (tgt := 93) d_X12_asked_76 rfl (fun c76 => ?_) (fun c76 => ?_)
        · have c76b : 1 ≤ u37_120_8 ∧ u37_120_8 ≤ 5 := by omega
          replace c76 := hd_i c76
          refine Tr.pick [1, 0] (ls2 := [(0, (2, 120)), (2, (0, q71_0))]) rfl ?_
          exact J93 _ _ hS (by and_intros <;> omega) k71_120_3 k71_120_4 k71_120_5 k71_120_7 k71_120_8 k71_9010_0 (by first | exact (hd_o t71_0) | exact (hd_o t71_0).elim (fun h1 => by omega) (fun h1 => by omega)) (by omega) (by omega)
        · refine Tr.iload_n (pc := 79) (i := 2) d_X12_asked_79 rfl rfl ?_
          refine Tr.iconst (pc := 80) d_X12_asked_80 (by decide) ?_
          refine Tr.icmp_ne (pc := 81) (tgt := 93) d_X12_asked_81 rfl (fun c81 => ?_) (fun c81 => ?_)
          · have c81b : 0 ≤ q71_0 ∧ q71_0 ≤ 5 := by omega
            replace c81 := hd_i c81
            refine Tr.pick [1, 0] (ls2 := [(0, (2, 120)), (2, (0, q71_0))]) rfl ?_
            exact J93 _ _ hS (by and_intros <;> omega) k71_120_3 k71_120_4 k71_120_5 k71_120_7 k71_120_8 k71_9010_0 (by first | exact (hd_o t71_0) | exact (hd_o t71_0).elim (fun h1 => by omega) (fun h1 => by omega)) (by omega) (by omega)
          · refine Tr.aload_n (pc := 84) (i := 0) d_X12_asked_84 rfl rfl ?_
            refine Tr.iconst (pc := 85) d_X12_asked_85 (by decide) ?_
            refine Tr.aload_n (pc := 86) (i := 0) d_X12_asked_86 rfl rfl ?_
            refine Tr.getf (pc := 87) d_X12_asked_87 f_12_23 (by decide) (by decide) (ty_120 hS.1.1) ?_
            refine Tr.tp g120_4 k71_120_4 ?_
            refine Tr.callV (pc := 90) (as := [_, _]) d_X12_asked_90 s_12_389 ok_X12_blame rfl rfl (Nat.le_of_ble_eq_true rfl) (Nat.le_of_ble_eq_true rfl) (by decide) (ty_120 hS.1.1) ?_
            refine Tr.imp (Tr.deep (by decide) (ns_X12_blame_120_w1 (G120_8 := u37_120_8) hS.1 (k71_120_8) 3 (by omega) g120_4 (by and_intros <;> omega))) ?_
            rintro M90 _ ⟨h90, s90_120_8, es90_120_8, bs90_120_8, rfl, z90_0⟩
            have hS := St.tr hS h90 (by decide) (by decide)
            refine Tr.sc [] rfl ?_
            refine Tr.pick [1, 0] (ls2 := [(0, (2, 120)), (2, (0, q71_0))]) rfl ?_
            exact J93 _ _ hS (by and_intros <;> omega) ((kp_X12_blame_120_w1_120_3 h90).trans k71_120_3) ((kp_X12_blame_120_w1_120_4 h90).trans k71_120_4) ((kp_X12_blame_120_w1_120_5 h90).trans k71_120_5) ((kp_X12_blame_120_w1_120_7 h90).trans k71_120_7) es90_120_8 ((tav_of ((kp_X12_blame_120_w1_120_5 h90).trans rfl) ((kp_X12_blame_120_w1_120_3 h90).trans rfl)).trans k71_9010_0) (by exact (hd_o z90_0).elim (fun h1 => by omega) (fun h1 => by omega)) (by omega) (by exact (hd_o z90_0).elim (fun h1 => by omega) (fun h1 => by omega))
      refine Tr.if_le (pc := 41) (tgt := 48) d_X12_asked_41 rfl (fun c41 => ?_) (fun c41 => ?_)
      · refine Tr.iload_n (pc := 48) (i := 1) d_X12_asked_48 rfl rfl ?_
        refine Tr.if_ne (pc := 49) (tgt := 63) d_X12_asked_49 rfl (fun c49 => ?_) (fun c49 => ?_)
        · have c49b : 1 ≤ a1 ∧ a1 ≤ 1 := by omega
          replace c49 := hd_i c49
          refine Tr.aload_n (pc := 63) (i := 0) d_X12_asked_63 rfl rfl ?_
          refine Tr.aload_n (pc := 64) (i := 0) d_X12_asked_64 rfl rfl ?_
          refine Tr.getf (pc := 65) d_X12_asked_65 f_12_32 (by decide) (by decide) (ty_120 hS.1.1) ?_
          refine Tr.tp g120_7 k37_120_7 ?_
          refine Tr.callV (pc := 68) (as := [_]) d_X12_asked_68 s_12_464 ok_X12_varOf rfl rfl (Nat.le_of_ble_eq_true rfl) (Nat.le_of_ble_eq_true rfl) (by decide) (ty_120 hS.1.1) ?_
          refine Tr.imp (Tr.deep (by decide) (sp_X12_varOf_120_w1 hS.1.wk ((kp_X12_asked_120_w1_120_37 hS).trans en_120_37) g120_7 (by omega))) ?_
          rintro M68 _ ⟨h68, r68, rfl, lr68, ur68⟩
          have h68 := St.rn h68 (Pm0.of hS.1.2.2.2.2 (fun _ => (ka_X12_varOf_120_w1_131 h68 _)) (fun _ => (ka_X12_varOf_120_w1_137 h68 _)) (fun _ => (ka_X12_varOf_120_w1_138 h68 _)) (fun _ => (ka_X12_varOf_120_w1_139 h68 _)) (fun _ => (ka_X12_varOf_120_w1_140 h68 _)) (fun _ => (ka_X12_varOf_120_w1_141 h68 _)) (fun _ => (ka_X12_varOf_120_w1_142 h68 _)) (fun _ => (ka_X12_varOf_120_w1_143 h68 _)) (fun _ => (ka_X12_varOf_120_w1_151 h68 _)) (fun _ => (ka_X12_varOf_120_w1_152 h68 _)) (kp_X12_varOf_120_w1_126_0 h68) (kp_X12_varOf_120_w1_126_1 h68) (kp_X12_varOf_120_w1_136_0 h68) (kp_X12_varOf_120_w1_136_1 h68) (kp_X12_varOf_120_w1_123_0 h68) (kp_X12_varOf_120_w1_123_1 h68) (kp_X12_varOf_120_w1_124_0 h68) (kp_X12_varOf_120_w1_124_1 h68) (kp_X12_varOf_120_w1_120_8 h68) (kp_X12_varOf_120_w1_120_36 h68) (kp_X12_varOf_120_w1_120_50 h68))
          have hS := St.tr hS h68 (by decide) (by decide)
          refine Tr.sc [(0, r68)] rfl ?_
          refine Tr.pick [0] (ls2 := [(0, (2, 120))]) rfl ?_
          exact J71 _ _ hS (by and_intros <;> omega) ((kp_X12_varOf_120_w1_120_3 h68).trans k37_120_3) ((kp_X12_varOf_120_w1_120_4 h68).trans k37_120_4) ((kp_X12_varOf_120_w1_120_5 h68).trans k37_120_5) ((kp_X12_varOf_120_w1_120_7 h68).trans k37_120_7) ((kp_X12_varOf_120_w1_120_8 h68).trans k37_120_8) ((tav_of ((kp_X12_varOf_120_w1_120_5 h68).trans rfl) ((kp_X12_varOf_120_w1_120_3 h68).trans rfl)).trans k37_9010_0) (by first | exact (hd_o t37_0) | exact (hd_o t37_0).elim (fun h1 => by omega) (fun h1 => by omega)) (by omega) (by omega)
        · refine Tr.aload_n (pc := 52) (i := 0) d_X12_asked_52 rfl rfl ?_
          refine Tr.aload_n (pc := 53) (i := 0) d_X12_asked_53 rfl rfl ?_
          refine Tr.getf (pc := 54) d_X12_asked_54 f_12_32 (by decide) (by decide) (ty_120 hS.1.1) ?_
          refine Tr.tp g120_7 k37_120_7 ?_
          refine Tr.callV (pc := 57) (as := [_]) d_X12_asked_57 s_12_457 ok_X12_partOf rfl rfl (Nat.le_of_ble_eq_true rfl) (Nat.le_of_ble_eq_true rfl) (by decide) (ty_120 hS.1.1) ?_
          refine Tr.imp (Tr.deep (by decide) (sp_X12_partOf_120_w1 hS.1.wk ((kp_X12_asked_120_w1_120_37 hS).trans en_120_37) g120_7 (by omega))) ?_
          rintro M57 _ ⟨h57, r57, rfl, lr57, ur57⟩
          have h57 := St.rn h57 (Pm0.of hS.1.2.2.2.2 (fun _ => (ka_X12_partOf_120_w1_131 h57 _)) (fun _ => (ka_X12_partOf_120_w1_137 h57 _)) (fun _ => (ka_X12_partOf_120_w1_138 h57 _)) (fun _ => (ka_X12_partOf_120_w1_139 h57 _)) (fun _ => (ka_X12_partOf_120_w1_140 h57 _)) (fun _ => (ka_X12_partOf_120_w1_141 h57 _)) (fun _ => (ka_X12_partOf_120_w1_142 h57 _)) (fun _ => (ka_X12_partOf_120_w1_143 h57 _)) (fun _ => (ka_X12_partOf_120_w1_151 h57 _)) (fun _ => (ka_X12_partOf_120_w1_152 h57 _)) (kp_X12_partOf_120_w1_126_0 h57) (kp_X12_partOf_120_w1_126_1 h57) (kp_X12_partOf_120_w1_136_0 h57) (kp_X12_partOf_120_w1_136_1 h57) (kp_X12_partOf_120_w1_123_0 h57) (kp_X12_partOf_120_w1_123_1 h57) (kp_X12_partOf_120_w1_124_0 h57) (kp_X12_partOf_120_w1_124_1 h57) (kp_X12_partOf_120_w1_120_8 h57) (kp_X12_partOf_120_w1_120_36 h57) (kp_X12_partOf_120_w1_120_50 h57))
          have hS := St.tr hS h57 (by decide) (by decide)
          refine Tr.sc [(0, r57)] rfl ?_
          refine Tr.goto (pc := 60) (tgt := 71) d_X12_asked_60 rfl ?_
          refine Tr.pick [0] (ls2 := [(0, (2, 120))]) rfl ?_
          exact J71 _ _ hS (by and_intros <;> omega) ((kp_X12_partOf_120_w1_120_3 h57).trans k37_120_3) ((kp_X12_partOf_120_w1_120_4 h57).trans k37_120_4) ((kp_X12_partOf_120_w1_120_5 h57).trans k37_120_5) ((kp_X12_partOf_120_w1_120_7 h57).trans k37_120_7) ((kp_X12_partOf_120_w1_120_8 h57).trans k37_120_8) ((tav_of ((kp_X12_partOf_120_w1_120_5 h57).trans rfl) ((kp_X12_partOf_120_w1_120_3 h57).trans rfl)).trans k37_9010_0) (by first | exact (hd_o t37_0) | exact (hd_o t37_0).elim (fun h1 => by omega) (fun h1 => by omega)) (by omega) (by omega)
      · refine Tr.iconst (pc := 44) d_X12_asked_44 (by decide) ?_
        refine Tr.goto (pc := 45) (tgt := 71) d_X12_asked_45 rfl ?_
        refine Tr.pick [0] (ls2 := [(0, (2, 120))]) rfl ?_
        exact J71 _ _ hS (by omega) k37_120_3 k37_120_4 k37_120_5 k37_120_7 k37_120_8 k37_9010_0 (by first | exact (hd_o t37_0) | exact (hd_o t37_0).elim (fun h1 => by omega) (fun h1 => by omega)) (by omega) (by omega)
    have J28 : ∀ (M : Mem), St Pm0 ws_X12_asked_120_w1 as_X12_asked_120_w1 M0 M → rd M 120 3 = g120_3 → rd M 120 4 = g120_4 → rd M 120 5 = g120_5 → rd M 120 7 = g120_7 → rd M 120 8 = g120_8 → tav M = g9010_0 → (g120_8 = 0) → (g120_8 = 0) → Tr l K 2 mX12_asked 28 [(0, (2, 120)), (1, (0, a1))] [] M (q_X12_asked_120_w1 a1 M0) := by
      intro M  hS  k28_120_3 k28_120_4 k28_120_5 k28_120_7 k28_120_8 k28_9010_0 t28_0 t28_1
      refine Tr.aload_n (pc := 28) (i := 0) d_X12_asked_28 rfl rfl ?_
      refine Tr.iconst (pc := 29) d_X12_asked_29 (by decide) ?_
      refine Tr.aload_n (pc := 30) (i := 0) d_X12_asked_30 rfl rfl ?_
      refine Tr.getf (pc := 31) d_X12_asked_31 f_12_23 (by decide) (by decide) (ty_120 hS.1.1) ?_
      refine Tr.tp g120_4 k28_120_4 ?_
      refine Tr.callV (pc := 34) (as := [_, _]) d_X12_asked_34 s_12_389 ok_X12_blame rfl rfl (Nat.le_of_ble_eq_true rfl) (Nat.le_of_ble_eq_true rfl) (by decide) (ty_120 hS.1.1) ?_
      refine Tr.imp (Tr.deep (by decide) (ns_X12_blame_120_w1 (G120_8 := g120_8) hS.1 (k28_120_8) 1 (by omega) g120_4 (by and_intros <;> omega))) ?_
      rintro M34 _ ⟨h34, s34_120_8, es34_120_8, bs34_120_8, rfl, z34_0⟩
      have hS := St.tr hS h34 (by decide) (by decide)
      refine Tr.sc [] rfl ?_
      refine Tr.pick [0, 1] (ls2 := [(0, (2, 120)), (1, (0, a1))]) rfl ?_
      exact J37 _ _ hS (by and_intros <;> omega) ((kp_X12_blame_120_w1_120_3 h34).trans k28_120_3) ((kp_X12_blame_120_w1_120_4 h34).trans k28_120_4) ((kp_X12_blame_120_w1_120_5 h34).trans k28_120_5) ((kp_X12_blame_120_w1_120_7 h34).trans k28_120_7) es34_120_8 ((tav_of ((kp_X12_blame_120_w1_120_5 h34).trans rfl) ((kp_X12_blame_120_w1_120_3 h34).trans rfl)).trans k28_9010_0) (by exact (hd_o z34_0).elim (fun h1 => by omega) (fun h1 => by omega)) (by omega)
    refine Tr.icmp_ne (pc := 14) (tgt := 28) d_X12_asked_14 rfl (fun c14 => ?_) (fun c14 => ?_)
    · replace c14 := hd_i c14
      refine Tr.pick [0, 1] (ls2 := [(0, (2, 120)), (1, (0, a1))]) rfl ?_
      exact J28 _ hS eg120_3 eg120_4 eg120_5 eg120_7 eg120_8 eg9010_0 (by omega) (by omega)
    · refine Tr.aload_n (pc := 17) (i := 0) d_X12_asked_17 rfl rfl ?_
      refine Tr.aload_n (pc := 18) (i := 0) d_X12_asked_18 rfl rfl ?_
      refine Tr.getf (pc := 19) d_X12_asked_19 f_12_32 (by decide) (by decide) (ty_120 hS.1.1) ?_
      refine Tr.tp g120_7 eg120_7 ?_
      refine Tr.callV (pc := 22) (as := [_]) d_X12_asked_22 s_12_453 ok_X12_isOwn rfl rfl (Nat.le_of_ble_eq_true rfl) (Nat.le_of_ble_eq_true rfl) (by decide) (ty_120 hS.1.1) ?_
      refine Tr.imp (Tr.deep (by decide) (sp_X12_isOwn_120 hS.1.wk g120_7 (by omega))) ?_
      rintro M22 _ ⟨h22, r22, rfl, lr22, ur22⟩
      have h22 := St.rn h22 (Pm0.of hS.1.2.2.2.2 (fun _ => (ka_X12_isOwn_120_131 h22 _)) (fun _ => (ka_X12_isOwn_120_137 h22 _)) (fun _ => (ka_X12_isOwn_120_138 h22 _)) (fun _ => (ka_X12_isOwn_120_139 h22 _)) (fun _ => (ka_X12_isOwn_120_140 h22 _)) (fun _ => (ka_X12_isOwn_120_141 h22 _)) (fun _ => (ka_X12_isOwn_120_142 h22 _)) (fun _ => (ka_X12_isOwn_120_143 h22 _)) (fun _ => (ka_X12_isOwn_120_151 h22 _)) (fun _ => (ka_X12_isOwn_120_152 h22 _)) (kp_X12_isOwn_120_126_0 h22) (kp_X12_isOwn_120_126_1 h22) (kp_X12_isOwn_120_136_0 h22) (kp_X12_isOwn_120_136_1 h22) (kp_X12_isOwn_120_123_0 h22) (kp_X12_isOwn_120_123_1 h22) (kp_X12_isOwn_120_124_0 h22) (kp_X12_isOwn_120_124_1 h22) (kp_X12_isOwn_120_120_8 h22) (kp_X12_isOwn_120_120_36 h22) (kp_X12_isOwn_120_120_50 h22))
      have hS := St.tr hS h22 (by decide) (by decide)
      refine Tr.sc [(0, r22)] rfl ?_
      refine Tr.if_eq (pc := 25) (tgt := 37) d_X12_asked_25 rfl (fun c25 => ?_) (fun c25 => ?_)
      · refine Tr.pick [0, 1] (ls2 := [(0, (2, 120)), (1, (0, a1))]) rfl ?_
        exact J37 _ _ hS (by and_intros <;> omega) ((kp_X12_isOwn_120_120_3 h22).trans eg120_3) ((kp_X12_isOwn_120_120_4 h22).trans eg120_4) ((kp_X12_isOwn_120_120_5 h22).trans eg120_5) ((kp_X12_isOwn_120_120_7 h22).trans eg120_7) ((kp_X12_isOwn_120_120_8 h22).trans eg120_8) ((tav_of ((kp_X12_isOwn_120_120_5 h22).trans rfl) ((kp_X12_isOwn_120_120_3 h22).trans rfl)).trans eg9010_0) (by omega) (by omega)
      · have c25b : 1 ≤ r22 ∧ r22 ≤ 1 := by omega
        replace c25 := hd_i c25
        refine Tr.pick [0, 1] (ls2 := [(0, (2, 120)), (1, (0, a1))]) rfl ?_
        exact J28 _ hS ((kp_X12_isOwn_120_120_3 h22).trans eg120_3) ((kp_X12_isOwn_120_120_4 h22).trans eg120_4) ((kp_X12_isOwn_120_120_5 h22).trans eg120_5) ((kp_X12_isOwn_120_120_7 h22).trans eg120_7) ((kp_X12_isOwn_120_120_8 h22).trans eg120_8) ((tav_of ((kp_X12_isOwn_120_120_5 h22).trans rfl) ((kp_X12_isOwn_120_120_3 h22).trans rfl)).trans eg9010_0) (by omega) (by omega)
  · refine Tr.iconst (pc := 7) d_X12_asked_7 (by decide) ?_
    have kr_120_3 : rd M0 120 3 = g120_3 := eg120_3
    have kr_120_4 : rd M0 120 4 = g120_4 := eg120_4
    have kr_120_5 : rd M0 120 5 = g120_5 := eg120_5
    have kr_120_7 : rd M0 120 7 = g120_7 := eg120_7
    have kr_120_8 : rd M0 120 8 = g120_8 := eg120_8
    have kr_9010_0 : tav M0 = g9010_0 := eg9010_0
    exact Tr.iret (pc := 8) d_X12_asked_8 rfl ⟨hS, _, rfl, by omega, by omega, (by first | exact (hd_o hq0) | exact (hd_o hq0).elim (fun h1 => by omega) (fun h1 => by omega)), (by omega), (by first | exact (hd_o hq2) | exact (hd_o hq2).elim (fun h1 => by omega) (fun h1 => h1.elim (fun h1 => by omega) (fun h1 => by omega))), (by and_intros <;> omega), (by omega), (by omega), (by omega)⟩

set_option maxRecDepth 100000 in
set_option maxHeartbeats 4000000 in
theorem ns_X12_asked_120_w1 {l : Launch} {K : EC} {M0 : Mem} {G120_3 G120_4 G120_5 G120_7 G120_8 G9010_0 : Int} (hI : In Pm0 M0) (k120_3 : rd M0 120 3 = G120_3) (k120_4 : rd M0 120 4 = G120_4) (k120_5 : rd M0 120 5 = G120_5) (k120_7 : rd M0 120 7 = G120_7) (k120_8 : rd M0 120 8 = G120_8) (k9010_0 : tav M0 = G9010_0) (en_120_37 : rd M0 120 37 = 0) (a1 : Int) (ha1 : 0 ≤ a1 ∧ a1 ≤ 1)  (hq0 : G120_3 = 0 ∨ G120_4 + 1 ≤ G120_5) (hq1 : G120_4 ≤ G120_5) (hq2 : G120_3 ≠ 1 ∨ G120_4 + 2 ≤ G120_5 ∨ G120_7 < 256) : Tr l K 2 mX12_asked 0 [(0, (2, 120)), (1, (0, a1))] [] M0 (fun M' r => St Pm0 ws_X12_asked_120_w1 as_X12_asked_120_w1 M0 M' ∧ ∃ S120_3 S120_4 S120_5 S120_7 S120_8 S9010_0 : Int, rd M' 120 3 = S120_3 ∧ (0 ≤ S120_3 ∧ S120_3 ≤ 3) ∧ rd M' 120 4 = S120_4 ∧ (0 ≤ S120_4 ∧ S120_4 ≤ 900) ∧ rd M' 120 5 = S120_5 ∧ (0 ≤ S120_5 ∧ S120_5 ≤ 900) ∧ rd M' 120 7 = S120_7 ∧ ((-9223372036854775808) ≤ S120_7 ∧ S120_7 ≤ 9223372036854775807) ∧ rd M' 120 8 = S120_8 ∧ (0 ≤ S120_8 ∧ S120_8 ≤ 5) ∧ tav M' = S9010_0 ∧ ((-1) ≤ S9010_0 ∧ S9010_0 ≤ 1800) ∧ ∃ v : Int, r = some (0, v) ∧ (-1) ≤ v ∧ v ≤ 5 ∧ Hd (S120_3 = 0 ∨ S120_4 + 1 ≤ S120_5) ∧ (S120_4 ≤ S120_5) ∧ Hd (S120_3 ≠ 1 ∨ S120_4 + 2 ≤ S120_5 ∨ S120_7 < 256) ∧ (G120_4 ≤ S120_4 ∧ G120_5 ≤ S120_5 ∧ G9010_0 ≤ S9010_0) ∧ Hd (G120_8 = 0 ∨ S120_8 = G120_8) ∧ Hd (1 ≤ S120_8 ∨ G9010_0 < S9010_0) ∧ Hd (1 ≤ S120_8 ∨ (0 ≤ v ∧ v ≤ 5))) := by
  subst k120_3
  subst k120_4
  subst k120_5
  subst k120_7
  subst k120_8
  subst k9010_0
  refine Tr.imp (sp_X12_asked_120_w1 hI en_120_37 a1 ha1 hq0 hq1 hq2) ?_
  rintro M' _ ⟨hS, v, rfl, lr, ur, z0, z1, z2, z3, z4, z5, z6⟩
  exact ⟨hS, _, _, _, _, _, _, rfl, ir_120_3 hS.1.2.1, rfl, ir_120_4 hS.1.2.1, rfl, ir_120_5 hS.1.2.1, rfl, ir_120_7 hS.1.2.1, rfl, ir_120_8 hS.1.2.1, rfl, (tav_b hS.1.2.1), v, rfl, lr, ur, hd_i z0, z1, hd_i z2, z3, hd_i z4, hd_i z5, hd_i z6⟩

def ws_X12_pushes_120_w1 : List (Int × Int) := [(120, 43)]
def as_X12_pushes_120_w1 : List Int := [145, 146, 147, 149]
def q_X12_pushes_120_w1 (a1 : Int) (M0 M' : Mem) (r : Option PV) : Prop := St Pm0 ws_X12_pushes_120_w1 as_X12_pushes_120_w1 M0 M' ∧ r = none ∧ (rd M' 120 43 = rd M0 120 43 + 1) ∧ (n4v M' = n4v M0) ∧ (fr0 M' ≤ 1)
set_option maxRecDepth 100000 in
set_option maxHeartbeats 4000000 in
theorem sp_X12_pushes_120_w1 {l : Launch} {K : EC} {M0 : Mem} (hI : In Pm0 M0)  (a1 : Int) (ha1 : 0 ≤ a1 ∧ a1 ≤ 5)  (hq0 : rd M0 120 43 ≤ 19) (hq1 : a1 ≠ 4) (hq2 : 1 ≤ rd M0 120 43 ∨ a1 ≤ 1) (hq3 : fr0 M0 ≤ 1 ∨ rd M0 120 43 = 0) : Tr l K 0 mX12_pushes 0 [(0, (2, 120)), (1, (0, a1))] [] M0 (q_X12_pushes_120_w1 a1 M0) := by
  have hS : St Pm0 ws_X12_pushes_120_w1 as_X12_pushes_120_w1 M0 M0 := St.rf hI
  obtain ⟨g120_43, eg120_43⟩ : ∃ v, rd M0 120 43 = v := ⟨_, rfl⟩
  have bg120_43 : 0 ≤ g120_43 ∧ g120_43 ≤ 20 := by rw [← eg120_43]; exact ir_120_43 hI.2.1
  obtain ⟨g9002_0, eg9002_0⟩ : ∃ v, n4v M0 = v := ⟨_, rfl⟩
  have bg9002_0 : 0 ≤ g9002_0 ∧ g9002_0 ≤ 20 := by rw [← eg9002_0]; exact (n4v_b hI.2.1)
  obtain ⟨g9005_0, eg9005_0⟩ : ∃ v, fr0 M0 = v := ⟨_, rfl⟩
  have bg9005_0 : 0 ≤ g9005_0 ∧ g9005_0 ≤ 5 := by rw [← eg9005_0]; exact (fr0_b hI.2.1)
  obtain ⟨g120_46, eg120_46⟩ : ∃ v, rd M0 120 46 = v := ⟨_, rfl⟩
  have bg120_46 : 0 ≤ g120_46 ∧ g120_46 ≤ 500 := by rw [← eg120_46]; exact ir_120_46 hI.2.1
  replace hq1 := hd_i hq1
  replace hq2 := hd_i hq2
  replace hq3 := hd_i hq3
  refine Tr.aload_n (pc := 0) (i := 0) d_X12_pushes_0 rfl rfl ?_
  refine Tr.getf (pc := 1) d_X12_pushes_1 f_12_127 (by decide) (by decide) (ty_120 hS.1.1) ?_
  refine Tr.tp 145 (fx_120_38 hS.1.1) ?_
  refine Tr.aload_n (pc := 4) (i := 0) d_X12_pushes_4 rfl rfl ?_
  refine Tr.getf (pc := 5) d_X12_pushes_5 f_12_143 (by decide) (by decide) (ty_120 hS.1.1) ?_
  refine Tr.tp g120_43 eg120_43 ?_
  refine Tr.iload_n (pc := 8) (i := 1) d_X12_pushes_8 rfl rfl ?_
  refine Tr.iastS (pc := 9) (P := St Pm0 ws_X12_pushes_120_w1 as_X12_pushes_120_w1 M0) d_X12_pushes_9 (ty_145 hS.1.1) (by omega) (by omega) (sa_145 hS (by decide) (by and_intros <;> omega) (Pm0.of hS.1.2.2.2.2 (fun _ => rd_wb _ rfl) (fun _ => rd_wb _ rfl) (fun _ => rd_wb _ rfl) (fun _ => rd_wb _ rfl) (fun _ => rd_wb _ rfl) (fun _ => rd_wb _ rfl) (fun _ => rd_wb _ rfl) (fun _ => rd_wb _ rfl) (fun _ => rd_wb _ rfl) (fun _ => rd_wb _ rfl) (rd_wb _ rfl) (rd_wb _ rfl) (rd_wb _ rfl) (rd_wb _ rfl) (rd_wb _ rfl) (rd_wb _ rfl) (rd_wb _ rfl) (rd_wb _ rfl) (rd_wb _ rfl) (rd_wb _ rfl) (rd_wb _ rfl))) (fun M9 hS w9 => ?_)
  obtain ⟨v9_9005, ev9_9005⟩ : ∃ v, fr0 M9 = v := ⟨_, rfl⟩
  have bv9_9005 : 0 ≤ v9_9005 ∧ v9_9005 ≤ 5 := by rw [← ev9_9005]; exact (fr0_b hS.1.2.1)
  have fv9_9005 : (g120_43 = 0 ∧ v9_9005 = a1) ∨ (g120_43 ≠ 0 ∧ v9_9005 = g9005_0) := by have h8 := fr0_w w9; have h7 : fr0 M9 = v9_9005 := ev9_9005; have h6 := eg9005_0; omega
  replace fv9_9005 := hd_i fv9_9005
  refine Tr.aload_n (pc := 10) (i := 0) d_X12_pushes_10 rfl rfl ?_
  refine Tr.getf (pc := 11) d_X12_pushes_11 f_12_130 (by decide) (by decide) (ty_120 hS.1.1) ?_
  refine Tr.tp 146 (fx_120_39 hS.1.1) ?_
  refine Tr.aload_n (pc := 14) (i := 0) d_X12_pushes_14 rfl rfl ?_
  refine Tr.getf (pc := 15) d_X12_pushes_15 f_12_143 (by decide) (by decide) (ty_120 hS.1.1) ?_
  refine Tr.tp g120_43 ((Wr.b w9 rfl).trans eg120_43) ?_
  refine Tr.iconst (pc := 18) d_X12_pushes_18 (by decide) ?_
  refine Tr.iastS (pc := 19) (P := St Pm0 ws_X12_pushes_120_w1 as_X12_pushes_120_w1 M0) d_X12_pushes_19 (ty_146 hS.1.1) (by omega) (by omega) (sa_146 hS (by decide) (by omega) (Pm0.of hS.1.2.2.2.2 (fun _ => rd_wb _ rfl) (fun _ => rd_wb _ rfl) (fun _ => rd_wb _ rfl) (fun _ => rd_wb _ rfl) (fun _ => rd_wb _ rfl) (fun _ => rd_wb _ rfl) (fun _ => rd_wb _ rfl) (fun _ => rd_wb _ rfl) (fun _ => rd_wb _ rfl) (fun _ => rd_wb _ rfl) (rd_wb _ rfl) (rd_wb _ rfl) (rd_wb _ rfl) (rd_wb _ rfl) (rd_wb _ rfl) (rd_wb _ rfl) (rd_wb _ rfl) (rd_wb _ rfl) (rd_wb _ rfl) (rd_wb _ rfl) (rd_wb _ rfl))) (fun M19 hS w19 => ?_)
  refine Tr.aload_n (pc := 20) (i := 0) d_X12_pushes_20 rfl rfl ?_
  refine Tr.getf (pc := 21) d_X12_pushes_21 f_12_133 (by decide) (by decide) (ty_120 hS.1.1) ?_
  refine Tr.tp 147 (fx_120_40 hS.1.1) ?_
  refine Tr.aload_n (pc := 24) (i := 0) d_X12_pushes_24 rfl rfl ?_
  refine Tr.getf (pc := 25) d_X12_pushes_25 f_12_143 (by decide) (by decide) (ty_120 hS.1.1) ?_
  refine Tr.tp g120_43 ((Wr.b w19 rfl).trans ((Wr.b w9 rfl).trans eg120_43)) ?_
  refine Tr.iconst (pc := 28) d_X12_pushes_28 (by decide) ?_
  refine Tr.zastS (pc := 29) (P := St Pm0 ws_X12_pushes_120_w1 as_X12_pushes_120_w1 M0) d_X12_pushes_29 (ty_147 hS.1.1) (by omega) (by omega) (by omega) (sa_147 hS (by decide) (by omega) (Pm0.of hS.1.2.2.2.2 (fun _ => rd_wb _ rfl) (fun _ => rd_wb _ rfl) (fun _ => rd_wb _ rfl) (fun _ => rd_wb _ rfl) (fun _ => rd_wb _ rfl) (fun _ => rd_wb _ rfl) (fun _ => rd_wb _ rfl) (fun _ => rd_wb _ rfl) (fun _ => rd_wb _ rfl) (fun _ => rd_wb _ rfl) (rd_wb _ rfl) (rd_wb _ rfl) (rd_wb _ rfl) (rd_wb _ rfl) (rd_wb _ rfl) (rd_wb _ rfl) (rd_wb _ rfl) (rd_wb _ rfl) (rd_wb _ rfl) (rd_wb _ rfl) (rd_wb _ rfl))) (fun M29 hS w29 => ?_)
  refine Tr.aload_n (pc := 30) (i := 0) d_X12_pushes_30 rfl rfl ?_
  refine Tr.getf (pc := 31) d_X12_pushes_31 f_12_140 (by decide) (by decide) (ty_120 hS.1.1) ?_
  refine Tr.tp 149 (fx_120_42 hS.1.1) ?_
  refine Tr.aload_n (pc := 34) (i := 0) d_X12_pushes_34 rfl rfl ?_
  refine Tr.getf (pc := 35) d_X12_pushes_35 f_12_143 (by decide) (by decide) (ty_120 hS.1.1) ?_
  refine Tr.tp g120_43 ((Wr.b w29 rfl).trans ((Wr.b w19 rfl).trans ((Wr.b w9 rfl).trans eg120_43))) ?_
  refine Tr.aload_n (pc := 38) (i := 0) d_X12_pushes_38 rfl rfl ?_
  refine Tr.getf (pc := 39) d_X12_pushes_39 f_12_152 (by decide) (by decide) (ty_120 hS.1.1) ?_
  refine Tr.tp g120_46 ((Wr.b w29 rfl).trans ((Wr.b w19 rfl).trans ((Wr.b w9 rfl).trans eg120_46))) ?_
  refine Tr.iastS (pc := 42) (P := St Pm0 ws_X12_pushes_120_w1 as_X12_pushes_120_w1 M0) d_X12_pushes_42 (ty_149 hS.1.1) (by omega) (by omega) (sa_149 hS (by decide) (by and_intros <;> omega) (Pm0.of hS.1.2.2.2.2 (fun _ => rd_wb _ rfl) (fun _ => rd_wb _ rfl) (fun _ => rd_wb _ rfl) (fun _ => rd_wb _ rfl) (fun _ => rd_wb _ rfl) (fun _ => rd_wb _ rfl) (fun _ => rd_wb _ rfl) (fun _ => rd_wb _ rfl) (fun _ => rd_wb _ rfl) (fun _ => rd_wb _ rfl) (rd_wb _ rfl) (rd_wb _ rfl) (rd_wb _ rfl) (rd_wb _ rfl) (rd_wb _ rfl) (rd_wb _ rfl) (rd_wb _ rfl) (rd_wb _ rfl) (rd_wb _ rfl) (rd_wb _ rfl) (rd_wb _ rfl))) (fun M42 hS w42 => ?_)
  refine Tr.aload_n (pc := 43) (i := 0) d_X12_pushes_43 rfl rfl ?_
  refine Tr.dup (pc := 44) d_X12_pushes_44 ne21 ?_
  refine Tr.getf (pc := 45) d_X12_pushes_45 f_12_143 (by decide) (by decide) (ty_120 hS.1.1) ?_
  refine Tr.tp g120_43 ((Wr.b w42 rfl).trans ((Wr.b w29 rfl).trans ((Wr.b w19 rfl).trans ((Wr.b w9 rfl).trans eg120_43)))) ?_
  refine Tr.iconst (pc := 48) d_X12_pushes_48 (by decide) ?_
  refine Tr.iadd (pc := 49) d_X12_pushes_49 ?_
  refine Tr.tp (g120_43 + 1) ((w32_id (by and_intros <;> omega)).trans (by omega)) ?_
  refine Tr.putfS (pc := 50) (P := St Pm0 ws_X12_pushes_120_w1 as_X12_pushes_120_w1 M0) d_X12_pushes_50 f_12_143 (by decide) (by decide) (ty_120 hS.1.1) (st_120_43 hS (by decide) (by and_intros <;> omega) (Pm0.of hS.1.2.2.2.2 (fun _ => rd_wb _ rfl) (fun _ => rd_wb _ rfl) (fun _ => rd_wb _ rfl) (fun _ => rd_wb _ rfl) (fun _ => rd_wb _ rfl) (fun _ => rd_wb _ rfl) (fun _ => rd_wb _ rfl) (fun _ => rd_wb _ rfl) (fun _ => rd_wb _ rfl) (fun _ => rd_wb _ rfl) (rd_wb _ rfl) (rd_wb _ rfl) (rd_wb _ rfl) (rd_wb _ rfl) (rd_wb _ rfl) (rd_wb _ rfl) (rd_wb _ rfl) (rd_wb _ rfl) (rd_wb _ rfl) (rd_wb _ rfl) (rd_wb _ rfl))) (fun M50 hS w50 => ?_)
  obtain ⟨v50_9002, ev50_9002⟩ : ∃ v, n4v M50 = v := ⟨_, rfl⟩
  have bv50_9002 : 0 ≤ v50_9002 ∧ v50_9002 ≤ 20 := by rw [← ev50_9002]; exact (n4v_b hS.1.2.1)
  have fv50_9002 : v50_9002 = g9002_0 := by have h8 := ct_push (x := 145) (j := 43) (e := 4) (a := 1) (b := 0) (M := M0) (M2 := M50) (n := g120_43) (v := a1) eg120_43 (w50.1.trans (by omega)) ((Wr.b w50 rfl).trans ((Wr.b w42 rfl).trans ((Wr.b w29 rfl).trans ((Wr.b w19 rfl).trans w9.1)))) (fun i hi => (Wr.b w50 rfl).trans ((Wr.b w42 rfl).trans ((Wr.b w29 rfl).trans ((Wr.b w19 rfl).trans (w9.2 _ _ (fun c => hi c.2)))))) (by omega); have h7 : ctV 145 43 4 1 0 M50 = v50_9002 := ev50_9002; have h6 : ctV 145 43 4 1 0 M0 = g9002_0 := eg9002_0; have h5 := hd_o hq1; omega
  have kr_120_43 : rd M50 120 43 = (g120_43 + 1) := w50.1
  have kr_9002_0 : n4v M50 = v50_9002 := ev50_9002
  have kr_9005_0 : fr0 M50 = v9_9005 := ((fr0_of (fun j => ((Wr.b w50 rfl).trans ((Wr.b w42 rfl).trans ((Wr.b w29 rfl).trans ((Wr.b w19 rfl).trans rfl)))))).trans ev9_9005)
  exact Tr.vret (pc := 53) d_X12_pushes_53 rfl ⟨hS, rfl, (by omega), (by omega), (by exact (hd_o fv9_9005).elim (fun h1 => (hd_o hq2).elim (fun h2 => by omega) (fun h2 => by omega)) (fun h1 => (ne_o h1.1).elim (fun h2 => by omega) (fun h2 => (hd_o hq3).elim (fun h3 => by omega) (fun h3 => by omega))))⟩

set_option maxRecDepth 100000 in
set_option maxHeartbeats 4000000 in
theorem ns_X12_pushes_120_w1 {l : Launch} {K : EC} {M0 : Mem} {G120_43 G9002_0 G9005_0 : Int} (hI : In Pm0 M0) (k120_43 : rd M0 120 43 = G120_43) (k9002_0 : n4v M0 = G9002_0) (k9005_0 : fr0 M0 = G9005_0)  (a1 : Int) (ha1 : 0 ≤ a1 ∧ a1 ≤ 5)  (hq0 : G120_43 ≤ 19) (hq1 : a1 ≠ 4) (hq2 : 1 ≤ G120_43 ∨ a1 ≤ 1) (hq3 : G9005_0 ≤ 1 ∨ G120_43 = 0) : Tr l K 0 mX12_pushes 0 [(0, (2, 120)), (1, (0, a1))] [] M0 (fun M' r => St Pm0 ws_X12_pushes_120_w1 as_X12_pushes_120_w1 M0 M' ∧ ∃ S120_43 S9002_0 S9005_0 : Int, rd M' 120 43 = S120_43 ∧ (0 ≤ S120_43 ∧ S120_43 ≤ 20) ∧ n4v M' = S9002_0 ∧ (0 ≤ S9002_0 ∧ S9002_0 ≤ 20) ∧ fr0 M' = S9005_0 ∧ (0 ≤ S9005_0 ∧ S9005_0 ≤ 5) ∧ r = none ∧ (S120_43 = G120_43 + 1) ∧ (S9002_0 = G9002_0) ∧ (S9005_0 ≤ 1)) := by
  subst k120_43
  subst k9002_0
  subst k9005_0
  refine Tr.imp (sp_X12_pushes_120_w1 hI a1 ha1 hq0 hq1 hq2 hq3) ?_
  rintro M' _ ⟨hS, rfl, z0, z1, z2⟩
  exact ⟨hS, _, _, _, rfl, ir_120_43 hS.1.2.1, rfl, (n4v_b hS.1.2.1), rfl, (fr0_b hS.1.2.1), rfl, z0, z1, z2⟩

def ws_X12_holdsBack_120_w1 : List (Int × Int) := [(120, 46)]
def as_X12_holdsBack_120_w1 : List Int := [150]
def q_X12_holdsBack_120_w1 (a1 : Int) (M0 M' : Mem) (r : Option PV) : Prop := St Pm0 ws_X12_holdsBack_120_w1 as_X12_holdsBack_120_w1 M0 M' ∧ r = none ∧ (rd M' 120 46 = rd M0 120 46 + 1) ∧ ((a1 = 18 ∧ nb2v M' = nb2v M0) ∨ (a1 ≠ 18 ∧ nb2v M' = nb2v M0 + 1))
set_option maxRecDepth 100000 in
set_option maxHeartbeats 4000000 in
theorem sp_X12_holdsBack_120_w1 {l : Launch} {K : EC} {M0 : Mem} (hI : In Pm0 M0)  (a1 : Int) (ha1 : 6 ≤ a1 ∧ a1 ≤ 18)  (hq0 : rd M0 120 46 ≤ 499) : Tr l K 0 mX12_holdsBack 0 [(0, (2, 120)), (1, (0, a1))] [] M0 (q_X12_holdsBack_120_w1 a1 M0) := by
  have hS : St Pm0 ws_X12_holdsBack_120_w1 as_X12_holdsBack_120_w1 M0 M0 := St.rf hI
  obtain ⟨g120_46, eg120_46⟩ : ∃ v, rd M0 120 46 = v := ⟨_, rfl⟩
  have bg120_46 : 0 ≤ g120_46 ∧ g120_46 ≤ 500 := by rw [← eg120_46]; exact ir_120_46 hI.2.1
  obtain ⟨g9001_0, eg9001_0⟩ : ∃ v, nb2v M0 = v := ⟨_, rfl⟩
  have bg9001_0 : 0 ≤ g9001_0 ∧ g9001_0 ≤ 1000000 := by rw [← eg9001_0]; exact (nb2v_b hI.2.1)
  refine Tr.aload_n (pc := 0) (i := 0) d_X12_holdsBack_0 rfl rfl ?_
  refine Tr.getf (pc := 1) d_X12_holdsBack_1 f_12_149 (by decide) (by decide) (ty_120 hS.1.1) ?_
  refine Tr.tp 150 (fx_120_45 hS.1.1) ?_
  refine Tr.aload_n (pc := 4) (i := 0) d_X12_holdsBack_4 rfl rfl ?_
  refine Tr.getf (pc := 5) d_X12_holdsBack_5 f_12_152 (by decide) (by decide) (ty_120 hS.1.1) ?_
  refine Tr.tp g120_46 eg120_46 ?_
  refine Tr.iload_n (pc := 8) (i := 1) d_X12_holdsBack_8 rfl rfl ?_
  refine Tr.iastS (pc := 9) (P := St Pm0 ws_X12_holdsBack_120_w1 as_X12_holdsBack_120_w1 M0) d_X12_holdsBack_9 (ty_150 hS.1.1) (by omega) (by omega) (sa_150 hS (by decide) (by and_intros <;> omega) (Pm0.of hS.1.2.2.2.2 (fun _ => rd_wb _ rfl) (fun _ => rd_wb _ rfl) (fun _ => rd_wb _ rfl) (fun _ => rd_wb _ rfl) (fun _ => rd_wb _ rfl) (fun _ => rd_wb _ rfl) (fun _ => rd_wb _ rfl) (fun _ => rd_wb _ rfl) (fun _ => rd_wb _ rfl) (fun _ => rd_wb _ rfl) (rd_wb _ rfl) (rd_wb _ rfl) (rd_wb _ rfl) (rd_wb _ rfl) (rd_wb _ rfl) (rd_wb _ rfl) (rd_wb _ rfl) (rd_wb _ rfl) (rd_wb _ rfl) (rd_wb _ rfl) (rd_wb _ rfl))) (fun M9 hS w9 => ?_)
  refine Tr.aload_n (pc := 10) (i := 0) d_X12_holdsBack_10 rfl rfl ?_
  refine Tr.dup (pc := 11) d_X12_holdsBack_11 ne21 ?_
  refine Tr.getf (pc := 12) d_X12_holdsBack_12 f_12_152 (by decide) (by decide) (ty_120 hS.1.1) ?_
  refine Tr.tp g120_46 ((Wr.b w9 rfl).trans eg120_46) ?_
  refine Tr.iconst (pc := 15) d_X12_holdsBack_15 (by decide) ?_
  refine Tr.iadd (pc := 16) d_X12_holdsBack_16 ?_
  refine Tr.tp (g120_46 + 1) ((w32_id (by and_intros <;> omega)).trans (by omega)) ?_
  refine Tr.putfS (pc := 17) (P := St Pm0 ws_X12_holdsBack_120_w1 as_X12_holdsBack_120_w1 M0) d_X12_holdsBack_17 f_12_152 (by decide) (by decide) (ty_120 hS.1.1) (st_120_46 hS (by decide) (by and_intros <;> omega) (Pm0.of hS.1.2.2.2.2 (fun _ => rd_wb _ rfl) (fun _ => rd_wb _ rfl) (fun _ => rd_wb _ rfl) (fun _ => rd_wb _ rfl) (fun _ => rd_wb _ rfl) (fun _ => rd_wb _ rfl) (fun _ => rd_wb _ rfl) (fun _ => rd_wb _ rfl) (fun _ => rd_wb _ rfl) (fun _ => rd_wb _ rfl) (rd_wb _ rfl) (rd_wb _ rfl) (rd_wb _ rfl) (rd_wb _ rfl) (rd_wb _ rfl) (rd_wb _ rfl) (rd_wb _ rfl) (rd_wb _ rfl) (rd_wb _ rfl) (rd_wb _ rfl) (rd_wb _ rfl))) (fun M17 hS w17 => ?_)
  obtain ⟨v17_9001, ev17_9001⟩ : ∃ v, nb2v M17 = v := ⟨_, rfl⟩
  have bv17_9001 : 0 ≤ v17_9001 ∧ v17_9001 ≤ 1000000 := by rw [← ev17_9001]; exact (nb2v_b hS.1.2.1)
  have fv17_9001 : (a1 = 18 ∧ v17_9001 = g9001_0) ∨ (a1 ≤ 5 ∧ v17_9001 = g9001_0 + 2000) ∨ (5 < a1 ∧ a1 ≠ 18 ∧ v17_9001 = g9001_0 + 1) := by have h8 := nb2_push (M := M0) (M2 := M17) (n := g120_46) (v := a1) eg120_46 (w17.1.trans (by omega)) ((Wr.b w17 rfl).trans w9.1) (fun i hi => (Wr.b w17 rfl).trans (w9.2 _ _ (fun c => hi c.2))) (by omega); have h7 : nb2v M17 = v17_9001 := ev17_9001; have h6 : nb2v M0 = g9001_0 := eg9001_0; rw [h7, h6] at h8; exact h8
  replace fv17_9001 := hd_i fv17_9001
  have kr_120_46 : rd M17 120 46 = (g120_46 + 1) := w17.1
  have kr_9001_0 : nb2v M17 = v17_9001 := ev17_9001
  exact Tr.vret (pc := 20) d_X12_holdsBack_20 rfl ⟨hS, rfl, (by omega), (by exact (hd_o fv17_9001).elim (fun h1 => by omega) (fun h1 => h1.elim (fun h1 => by omega) (fun h1 => (ne_o h1.2.1).elim (fun h2 => by omega) (fun h2 => by omega))))⟩

set_option maxRecDepth 100000 in
set_option maxHeartbeats 4000000 in
theorem ns_X12_holdsBack_120_w1 {l : Launch} {K : EC} {M0 : Mem} {G120_46 G9001_0 : Int} (hI : In Pm0 M0) (k120_46 : rd M0 120 46 = G120_46) (k9001_0 : nb2v M0 = G9001_0)  (a1 : Int) (ha1 : 6 ≤ a1 ∧ a1 ≤ 18)  (hq0 : G120_46 ≤ 499) : Tr l K 0 mX12_holdsBack 0 [(0, (2, 120)), (1, (0, a1))] [] M0 (fun M' r => St Pm0 ws_X12_holdsBack_120_w1 as_X12_holdsBack_120_w1 M0 M' ∧ ∃ S120_46 S9001_0 : Int, rd M' 120 46 = S120_46 ∧ (0 ≤ S120_46 ∧ S120_46 ≤ 500) ∧ nb2v M' = S9001_0 ∧ (0 ≤ S9001_0 ∧ S9001_0 ≤ 1000000) ∧ r = none ∧ (S120_46 = G120_46 + 1) ∧ Hd ((a1 = 18 ∧ S9001_0 = G9001_0) ∨ (a1 ≠ 18 ∧ S9001_0 = G9001_0 + 1))) := by
  subst k120_46
  subst k9001_0
  refine Tr.imp (sp_X12_holdsBack_120_w1 hI a1 ha1 hq0) ?_
  rintro M' _ ⟨hS, rfl, z0, z1⟩
  exact ⟨hS, _, _, rfl, ir_120_46 hS.1.2.1, rfl, (nb2v_b hS.1.2.1), rfl, z0, hd_i z1⟩

def ws_X12_opens_120_w1 : List (Int × Int) := [(120, 3), (120, 4), (120, 5), (120, 6), (120, 7), (120, 8), (120, 9), (120, 43), (120, 44)]
def as_X12_opens_120_w1 : List Int := [145, 146, 147, 149]
def q_X12_opens_120_w1 (a1 : Int) (M0 M' : Mem) (r : Option PV) : Prop := St Pm0 ws_X12_opens_120_w1 as_X12_opens_120_w1 M0 M' ∧ r = none ∧ (rd M' 120 3 = 0 ∨ rd M' 120 4 + 1 ≤ rd M' 120 5) ∧ (rd M' 120 4 ≤ rd M' 120 5) ∧ (rd M' 120 3 ≠ 1 ∨ rd M' 120 4 + 2 ≤ rd M' 120 5 ∨ rd M' 120 7 < 256) ∧ (rd M0 120 4 ≤ rd M' 120 4 ∧ rd M0 120 5 ≤ rd M' 120 5 ∧ tav M0 ≤ tav M') ∧ (rd M0 120 8 = 0 ∨ rd M' 120 8 = rd M0 120 8) ∧ (1 ≤ rd M' 120 8 ∨ tav M0 < tav M') ∧ (rd M' 120 43 - rd M0 120 43 = rd M' 120 44 - rd M0 120 44 ∧ rd M0 120 44 ≤ rd M' 120 44 ∧ rd M' 120 44 ≤ rd M0 120 44 + 1) ∧ (rd M' 120 44 = rd M0 120 44 ∨ rd M0 120 5 ≤ rd M' 120 4) ∧ (n4v M' = n4v M0) ∧ (fr0 M' ≤ 1) ∧ (rd M' 120 44 = rd M0 120 44 + 1 ∨ 1 ≤ rd M' 120 8)
theorem kp_X12_next_120_w1_120_43 {q : Mem → Prop} {M0 M : Mem} (h : St q ws_X12_next_120_w1 as_X12_next_120_w1 M0 M) : rd M 120 43 = rd M0 120 43 := St.kp h (by decide) (by decide) (by decide)
theorem ka_X12_next_120_w1_145 {q : Mem → Prop} {M0 M : Mem} (h : St q ws_X12_next_120_w1 as_X12_next_120_w1 M0 M) (j : Int) : rd M 145 j = rd M0 145 j := St.ka h (by decide) (by decide) (by decide)
theorem kp_X12_pushes_120_w1_120_3 {q : Mem → Prop} {M0 M : Mem} (h : St q ws_X12_pushes_120_w1 as_X12_pushes_120_w1 M0 M) : rd M 120 3 = rd M0 120 3 := St.kp h (by decide) (by decide) (by decide)
theorem kp_X12_pushes_120_w1_120_4 {q : Mem → Prop} {M0 M : Mem} (h : St q ws_X12_pushes_120_w1 as_X12_pushes_120_w1 M0 M) : rd M 120 4 = rd M0 120 4 := St.kp h (by decide) (by decide) (by decide)
theorem kp_X12_pushes_120_w1_120_5 {q : Mem → Prop} {M0 M : Mem} (h : St q ws_X12_pushes_120_w1 as_X12_pushes_120_w1 M0 M) : rd M 120 5 = rd M0 120 5 := St.kp h (by decide) (by decide) (by decide)
theorem kp_X12_pushes_120_w1_120_7 {q : Mem → Prop} {M0 M : Mem} (h : St q ws_X12_pushes_120_w1 as_X12_pushes_120_w1 M0 M) : rd M 120 7 = rd M0 120 7 := St.kp h (by decide) (by decide) (by decide)
theorem kp_X12_pushes_120_w1_120_8 {q : Mem → Prop} {M0 M : Mem} (h : St q ws_X12_pushes_120_w1 as_X12_pushes_120_w1 M0 M) : rd M 120 8 = rd M0 120 8 := St.kp h (by decide) (by decide) (by decide)
theorem kp_X12_next_120_w1_120_44 {q : Mem → Prop} {M0 M : Mem} (h : St q ws_X12_next_120_w1 as_X12_next_120_w1 M0 M) : rd M 120 44 = rd M0 120 44 := St.kp h (by decide) (by decide) (by decide)
theorem kp_X12_pushes_120_w1_120_44 {q : Mem → Prop} {M0 M : Mem} (h : St q ws_X12_pushes_120_w1 as_X12_pushes_120_w1 M0 M) : rd M 120 44 = rd M0 120 44 := St.kp h (by decide) (by decide) (by decide)
theorem kp_X12_blame_120_w1_120_43 {q : Mem → Prop} {M0 M : Mem} (h : St q ws_X12_blame_120_w1 as_X12_blame_120_w1 M0 M) : rd M 120 43 = rd M0 120 43 := St.kp h (by decide) (by decide) (by decide)
theorem kp_X12_blame_120_w1_120_44 {q : Mem → Prop} {M0 M : Mem} (h : St q ws_X12_blame_120_w1 as_X12_blame_120_w1 M0 M) : rd M 120 44 = rd M0 120 44 := St.kp h (by decide) (by decide) (by decide)
theorem kp_X12_blame_120_w1_120_46 {q : Mem → Prop} {M0 M : Mem} (h : St q ws_X12_blame_120_w1 as_X12_blame_120_w1 M0 M) : rd M 120 46 = rd M0 120 46 := St.kp h (by decide) (by decide) (by decide)
theorem ka_X12_blame_120_w1_145 {q : Mem → Prop} {M0 M : Mem} (h : St q ws_X12_blame_120_w1 as_X12_blame_120_w1 M0 M) (j : Int) : rd M 145 j = rd M0 145 j := St.ka h (by decide) (by decide) (by decide)
set_option maxRecDepth 100000 in
set_option maxHeartbeats 4000000 in
theorem sp_X12_opens_120_w1 {l : Launch} {K : EC} {M0 : Mem} (hI : In Pm0 M0)  (a1 : Int) (ha1 : 2 ≤ a1 ∧ a1 ≤ 5)  (hq0 : rd M0 120 3 = 0 ∨ rd M0 120 4 + 1 ≤ rd M0 120 5) (hq1 : rd M0 120 4 ≤ rd M0 120 5) (hq2 : rd M0 120 3 ≠ 1 ∨ rd M0 120 4 + 2 ≤ rd M0 120 5 ∨ rd M0 120 7 < 256) (hq3 : 1 ≤ rd M0 120 43 ∧ rd M0 120 43 ≤ 19) (hq4 : rd M0 120 3 ≠ 0 ∨ 1 ≤ rd M0 120 8) (hq5 : fr0 M0 ≤ 1) (hq6 : a1 ≠ 4) : Tr l K 2 mX12_opens 0 [(0, (2, 120)), (1, (0, a1))] [] M0 (q_X12_opens_120_w1 a1 M0) := by
  have hS : St Pm0 ws_X12_opens_120_w1 as_X12_opens_120_w1 M0 M0 := St.rf hI
  obtain ⟨g120_8, eg120_8⟩ : ∃ v, rd M0 120 8 = v := ⟨_, rfl⟩
  have bg120_8 : 0 ≤ g120_8 ∧ g120_8 ≤ 5 := by rw [← eg120_8]; exact ir_120_8 hI.2.1
  obtain ⟨g120_3, eg120_3⟩ : ∃ v, rd M0 120 3 = v := ⟨_, rfl⟩
  have bg120_3 : 0 ≤ g120_3 ∧ g120_3 ≤ 3 := by rw [← eg120_3]; exact ir_120_3 hI.2.1
  obtain ⟨g120_4, eg120_4⟩ : ∃ v, rd M0 120 4 = v := ⟨_, rfl⟩
  have bg120_4 : 0 ≤ g120_4 ∧ g120_4 ≤ 900 := by rw [← eg120_4]; exact ir_120_4 hI.2.1
  obtain ⟨g120_5, eg120_5⟩ : ∃ v, rd M0 120 5 = v := ⟨_, rfl⟩
  have bg120_5 : 0 ≤ g120_5 ∧ g120_5 ≤ 900 := by rw [← eg120_5]; exact ir_120_5 hI.2.1
  obtain ⟨g120_7, eg120_7⟩ : ∃ v, rd M0 120 7 = v := ⟨_, rfl⟩
  have bg120_7 : (-9223372036854775808) ≤ g120_7 ∧ g120_7 ≤ 9223372036854775807 := by rw [← eg120_7]; exact ir_120_7 hI.2.1
  obtain ⟨g9010_0, eg9010_0⟩ : ∃ v, tav M0 = v := ⟨_, rfl⟩
  have bg9010_0 : (-1) ≤ g9010_0 ∧ g9010_0 ≤ 1800 := by rw [← eg9010_0]; exact (tav_b hI.2.1)
  obtain ⟨g120_44, eg120_44⟩ : ∃ v, rd M0 120 44 = v := ⟨_, rfl⟩
  have bg120_44 : 0 ≤ g120_44 ∧ g120_44 ≤ 8 := by rw [← eg120_44]; exact ir_120_44 hI.2.1
  obtain ⟨g120_43, eg120_43⟩ : ∃ v, rd M0 120 43 = v := ⟨_, rfl⟩
  have bg120_43 : 0 ≤ g120_43 ∧ g120_43 ≤ 20 := by rw [← eg120_43]; exact ir_120_43 hI.2.1
  obtain ⟨g9002_0, eg9002_0⟩ : ∃ v, n4v M0 = v := ⟨_, rfl⟩
  have bg9002_0 : 0 ≤ g9002_0 ∧ g9002_0 ≤ 20 := by rw [← eg9002_0]; exact (n4v_b hI.2.1)
  obtain ⟨g9005_0, eg9005_0⟩ : ∃ v, fr0 M0 = v := ⟨_, rfl⟩
  have bg9005_0 : 0 ≤ g9005_0 ∧ g9005_0 ≤ 5 := by rw [← eg9005_0]; exact (fr0_b hI.2.1)
  obtain ⟨g120_46, eg120_46⟩ : ∃ v, rd M0 120 46 = v := ⟨_, rfl⟩
  have bg120_46 : 0 ≤ g120_46 ∧ g120_46 ≤ 500 := by rw [← eg120_46]; exact ir_120_46 hI.2.1
  replace hq0 := hd_i hq0
  replace hq2 := hd_i hq2
  replace hq4 := hd_i hq4
  replace hq6 := hd_i hq6
  refine Tr.aload_n (pc := 0) (i := 0) d_X12_opens_0 rfl rfl ?_
  refine Tr.getf (pc := 1) d_X12_opens_1 f_12_146 (by decide) (by decide) (ty_120 hS.1.1) ?_
  refine Tr.tp g120_44 eg120_44 ?_
  refine Tr.bipush (pc := 4) d_X12_opens_4 rfl (by decide) ?_
  have J18 : ∀ (M : Mem) (u18_120_8 : Int), St Pm0 ws_X12_opens_120_w1 as_X12_opens_120_w1 M0 M → (0 ≤ u18_120_8 ∧ u18_120_8 ≤ 5) → rd M 120 3 = g120_3 → rd M 120 4 = g120_4 → rd M 120 43 = g120_43 → rd M 120 44 = g120_44 → rd M 120 46 = g120_46 → rd M 120 5 = g120_5 → rd M 120 7 = g120_7 → rd M 120 8 = u18_120_8 → n4v M = g9002_0 → fr0 M = g9005_0 → tav M = g9010_0 → ((u18_120_8 = 0 ∧ g120_44 ≤ 7) ∨ 1 ≤ u18_120_8) → (g120_8 = 0 ∨ u18_120_8 = g120_8) → Tr l K 2 mX12_opens 18 [(0, (2, 120)), (1, (0, a1))] [] M (q_X12_opens_120_w1 a1 M0) := by
    intro M u18_120_8 hS bu18_120_8 k18_120_3 k18_120_4 k18_120_43 k18_120_44 k18_120_46 k18_120_5 k18_120_7 k18_120_8 k18_9002_0 k18_9005_0 k18_9010_0 t18_0 t18_1
    replace t18_0 := hd_i t18_0
    replace t18_1 := hd_i t18_1
    refine Tr.aload_n (pc := 18) (i := 0) d_X12_opens_18 rfl rfl ?_
    refine Tr.getf (pc := 19) d_X12_opens_19 f_12_36 (by decide) (by decide) (ty_120 hS.1.1) ?_
    refine Tr.tp u18_120_8 k18_120_8 ?_
    refine Tr.if_le (pc := 22) (tgt := 26) d_X12_opens_22 rfl (fun c22 => ?_) (fun c22 => ?_)
    · refine Tr.aload_n (pc := 26) (i := 0) d_X12_opens_26 rfl rfl ?_
      refine Tr.dup (pc := 27) d_X12_opens_27 ne21 ?_
      refine Tr.getf (pc := 28) d_X12_opens_28 f_12_146 (by decide) (by decide) (ty_120 hS.1.1) ?_
      refine Tr.tp g120_44 k18_120_44 ?_
      refine Tr.iconst (pc := 31) d_X12_opens_31 (by decide) ?_
      refine Tr.iadd (pc := 32) d_X12_opens_32 ?_
      refine Tr.tp (g120_44 + 1) ((w32_id (by and_intros <;> omega)).trans (by omega)) ?_
      refine Tr.putfS (pc := 33) (P := St Pm0 ws_X12_opens_120_w1 as_X12_opens_120_w1 M0) d_X12_opens_33 f_12_146 (by decide) (by decide) (ty_120 hS.1.1) (st_120_44 hS (by decide) (by exact (hd_o t18_0).elim (fun h1 => by omega) (fun h1 => by omega)) (Pm0.of hS.1.2.2.2.2 (fun _ => rd_wb _ rfl) (fun _ => rd_wb _ rfl) (fun _ => rd_wb _ rfl) (fun _ => rd_wb _ rfl) (fun _ => rd_wb _ rfl) (fun _ => rd_wb _ rfl) (fun _ => rd_wb _ rfl) (fun _ => rd_wb _ rfl) (fun _ => rd_wb _ rfl) (fun _ => rd_wb _ rfl) (rd_wb _ rfl) (rd_wb _ rfl) (rd_wb _ rfl) (rd_wb _ rfl) (rd_wb _ rfl) (rd_wb _ rfl) (rd_wb _ rfl) (rd_wb _ rfl) (rd_wb _ rfl) (rd_wb _ rfl) (rd_wb _ rfl))) (fun M33 hS w33 => ?_)
      refine Tr.aload_n (pc := 36) (i := 0) d_X12_opens_36 rfl rfl ?_
      refine Tr.callV (pc := 37) (as := []) d_X12_opens_37 s_12_396 ok_X12_next rfl rfl (Nat.le_of_ble_eq_true rfl) (Nat.le_of_ble_eq_true rfl) (by decide) (ty_120 hS.1.1) ?_
      refine Tr.imp (Tr.deep (by decide) (ns_X12_next_120_w1 (G120_3 := g120_3) (G120_5 := g120_5) (G120_8 := u18_120_8) (G9010_0 := g9010_0) hS.1 (((Wr.b w33 rfl).trans k18_120_3)) (((Wr.b w33 rfl).trans k18_120_5)) (((Wr.b w33 rfl).trans k18_120_8)) (((tav_of ((Wr.b w33 rfl).trans rfl) ((Wr.b w33 rfl).trans rfl)).trans k18_9010_0)))) ?_
      rintro M37 _ ⟨h37, s37_120_3, s37_120_4, s37_120_5, s37_120_7, s37_120_8, s37_9010_0, es37_120_3, bs37_120_3, es37_120_4, bs37_120_4, es37_120_5, bs37_120_5, es37_120_7, bs37_120_7, es37_120_8, bs37_120_8, es37_9010_0, bs37_9010_0, rfl, z37_0, z37_1, z37_2, z37_3, z37_4, z37_5, z37_6⟩
      have hS := St.tr hS h37 (by decide) (by decide)
      refine Tr.sc [] rfl ?_
      refine Tr.aload_n (pc := 40) (i := 0) d_X12_opens_40 rfl rfl ?_
      refine Tr.iload_n (pc := 41) (i := 1) d_X12_opens_41 rfl rfl ?_
      refine Tr.callV (pc := 42) (as := [_]) d_X12_opens_42 s_12_478 ok_X12_pushes rfl rfl (Nat.le_of_ble_eq_true rfl) (Nat.le_of_ble_eq_true rfl) (by decide) (ty_120 hS.1.1) ?_
      refine Tr.imp (Tr.deep (by decide) (ns_X12_pushes_120_w1 (G120_43 := g120_43) (G9002_0 := g9002_0) (G9005_0 := g9005_0) hS.1 (((kp_X12_next_120_w1_120_43 h37).trans ((Wr.b w33 rfl).trans k18_120_43))) (((n4v_of (fun j => ((ka_X12_next_120_w1_145 h37 _).trans ((Wr.b w33 rfl).trans rfl))) ((kp_X12_next_120_w1_120_43 h37).trans ((Wr.b w33 rfl).trans rfl))).trans k18_9002_0)) (((fr0_of (fun j => ((ka_X12_next_120_w1_145 h37 _).trans ((Wr.b w33 rfl).trans rfl)))).trans k18_9005_0)) a1 (by and_intros <;> omega) (by omega) (by have h1 := (hd_o hq6); omega) (by omega) (by omega))) ?_
      rintro M42 _ ⟨h42, s42_120_43, s42_9002_0, s42_9005_0, es42_120_43, bs42_120_43, es42_9002_0, bs42_9002_0, es42_9005_0, bs42_9005_0, rfl, z42_0, z42_1, z42_2⟩
      have hS := St.tr hS h42 (by decide) (by decide)
      refine Tr.sc [] rfl ?_
      have kr_120_3 : rd M42 120 3 = s37_120_3 := ((kp_X12_pushes_120_w1_120_3 h42).trans es37_120_3)
      have kr_120_4 : rd M42 120 4 = s37_120_4 := ((kp_X12_pushes_120_w1_120_4 h42).trans es37_120_4)
      have kr_120_5 : rd M42 120 5 = s37_120_5 := ((kp_X12_pushes_120_w1_120_5 h42).trans es37_120_5)
      have kr_120_7 : rd M42 120 7 = s37_120_7 := ((kp_X12_pushes_120_w1_120_7 h42).trans es37_120_7)
      have kr_120_8 : rd M42 120 8 = s37_120_8 := ((kp_X12_pushes_120_w1_120_8 h42).trans es37_120_8)
      have kr_120_43 : rd M42 120 43 = s42_120_43 := es42_120_43
      have kr_120_44 : rd M42 120 44 = (g120_44 + 1) := ((kp_X12_pushes_120_w1_120_44 h42).trans ((kp_X12_next_120_w1_120_44 h37).trans w33.1))
      have kr_9002_0 : n4v M42 = s42_9002_0 := es42_9002_0
      have kr_9005_0 : fr0 M42 = s42_9005_0 := es42_9005_0
      have kr_9010_0 : tav M42 = s37_9010_0 := ((tav_of ((kp_X12_pushes_120_w1_120_5 h42).trans rfl) ((kp_X12_pushes_120_w1_120_3 h42).trans rfl)).trans es37_9010_0)
      exact Tr.vret (pc := 45) d_X12_opens_45 rfl ⟨hS, rfl, (by first | exact (hd_o z37_0) | exact (hd_o z37_0).elim (fun h1 => by omega) (fun h1 => by omega)), (by omega), (by first | exact (hd_o z37_2) | exact (hd_o z37_2).elim (fun h1 => by omega) (fun h1 => h1.elim (fun h1 => by omega) (fun h1 => by omega))), (by and_intros <;> omega), (by exact (hd_o t18_1).elim (fun h1 => by omega) (fun h1 => by omega)), (by exact (hd_o hq4).elim (fun h1 => (ne_o h1).elim (fun h2 => by omega) (fun h2 => (hd_o z37_5).elim (fun h3 => by omega) (fun h3 => by omega))) (fun h1 => (hd_o t18_1).elim (fun h2 => by omega) (fun h2 => by omega))), (by and_intros <;> omega), (by omega), (by omega), (by omega), (by omega)⟩
    · have kr_120_3 : rd M 120 3 = g120_3 := k18_120_3
      have kr_120_4 : rd M 120 4 = g120_4 := k18_120_4
      have kr_120_5 : rd M 120 5 = g120_5 := k18_120_5
      have kr_120_7 : rd M 120 7 = g120_7 := k18_120_7
      have kr_120_8 : rd M 120 8 = u18_120_8 := k18_120_8
      have kr_120_43 : rd M 120 43 = g120_43 := k18_120_43
      have kr_120_44 : rd M 120 44 = g120_44 := k18_120_44
      have kr_9002_0 : n4v M = g9002_0 := k18_9002_0
      have kr_9005_0 : fr0 M = g9005_0 := k18_9005_0
      have kr_9010_0 : tav M = g9010_0 := k18_9010_0
      exact Tr.vret (pc := 25) d_X12_opens_25 rfl ⟨hS, rfl, (by first | exact (hd_o hq0) | exact (hd_o hq0).elim (fun h1 => by omega) (fun h1 => by omega)), (by omega), (by first | exact (hd_o hq2) | exact (hd_o hq2).elim (fun h1 => by omega) (fun h1 => h1.elim (fun h1 => by omega) (fun h1 => by omega))), (by and_intros <;> omega), (by first | exact (hd_o t18_1) | exact (hd_o t18_1).elim (fun h1 => by omega) (fun h1 => by omega)), (by omega), (by and_intros <;> omega), (by omega), (by omega), (by omega), (by omega)⟩
  refine Tr.icmp_ne (pc := 6) (tgt := 18) d_X12_opens_6 rfl (fun c6 => ?_) (fun c6 => ?_)
  · have c6b : 0 ≤ g120_44 ∧ g120_44 ≤ 7 := by omega
    replace c6 := hd_i c6
    refine Tr.pick [0, 1] (ls2 := [(0, (2, 120)), (1, (0, a1))]) rfl ?_
    exact J18 _ _ hS (by and_intros <;> omega) eg120_3 eg120_4 eg120_43 eg120_44 eg120_46 eg120_5 eg120_7 eg120_8 eg9002_0 eg9005_0 eg9010_0 (by omega) (by omega)
  · refine Tr.aload_n (pc := 9) (i := 0) d_X12_opens_9 rfl rfl ?_
    refine Tr.iconst (pc := 10) d_X12_opens_10 (by decide) ?_
    refine Tr.aload_n (pc := 11) (i := 0) d_X12_opens_11 rfl rfl ?_
    refine Tr.getf (pc := 12) d_X12_opens_12 f_12_23 (by decide) (by decide) (ty_120 hS.1.1) ?_
    refine Tr.tp g120_4 eg120_4 ?_
    refine Tr.callV (pc := 15) (as := [_, _]) d_X12_opens_15 s_12_389 ok_X12_blame rfl rfl (Nat.le_of_ble_eq_true rfl) (Nat.le_of_ble_eq_true rfl) (by decide) (ty_120 hS.1.1) ?_
    refine Tr.imp (Tr.deep (by decide) (ns_X12_blame_120_w1 (G120_8 := g120_8) hS.1 (eg120_8) 5 (by omega) g120_4 (by and_intros <;> omega))) ?_
    rintro M15 _ ⟨h15, s15_120_8, es15_120_8, bs15_120_8, rfl, z15_0⟩
    have hS := St.tr hS h15 (by decide) (by decide)
    refine Tr.sc [] rfl ?_
    refine Tr.pick [0, 1] (ls2 := [(0, (2, 120)), (1, (0, a1))]) rfl ?_
    exact J18 _ _ hS (by and_intros <;> omega) ((kp_X12_blame_120_w1_120_3 h15).trans eg120_3) ((kp_X12_blame_120_w1_120_4 h15).trans eg120_4) ((kp_X12_blame_120_w1_120_43 h15).trans eg120_43) ((kp_X12_blame_120_w1_120_44 h15).trans eg120_44) ((kp_X12_blame_120_w1_120_46 h15).trans eg120_46) ((kp_X12_blame_120_w1_120_5 h15).trans eg120_5) ((kp_X12_blame_120_w1_120_7 h15).trans eg120_7) es15_120_8 ((n4v_of (fun j => ((ka_X12_blame_120_w1_145 h15 _).trans rfl)) ((kp_X12_blame_120_w1_120_43 h15).trans rfl)).trans eg9002_0) ((fr0_of (fun j => ((ka_X12_blame_120_w1_145 h15 _).trans rfl))).trans eg9005_0) ((tav_of ((kp_X12_blame_120_w1_120_5 h15).trans rfl) ((kp_X12_blame_120_w1_120_3 h15).trans rfl)).trans eg9010_0) (by exact (hd_o z15_0).elim (fun h1 => by omega) (fun h1 => by omega)) (by exact (hd_o z15_0).elim (fun h1 => by omega) (fun h1 => by omega))

set_option maxRecDepth 100000 in
set_option maxHeartbeats 4000000 in
theorem ns_X12_opens_120_w1 {l : Launch} {K : EC} {M0 : Mem} {G120_3 G120_4 G120_5 G120_7 G120_8 G120_43 G120_44 G9002_0 G9005_0 G9010_0 : Int} (hI : In Pm0 M0) (k120_3 : rd M0 120 3 = G120_3) (k120_4 : rd M0 120 4 = G120_4) (k120_5 : rd M0 120 5 = G120_5) (k120_7 : rd M0 120 7 = G120_7) (k120_8 : rd M0 120 8 = G120_8) (k120_43 : rd M0 120 43 = G120_43) (k120_44 : rd M0 120 44 = G120_44) (k9002_0 : n4v M0 = G9002_0) (k9005_0 : fr0 M0 = G9005_0) (k9010_0 : tav M0 = G9010_0)  (a1 : Int) (ha1 : 2 ≤ a1 ∧ a1 ≤ 5)  (hq0 : G120_3 = 0 ∨ G120_4 + 1 ≤ G120_5) (hq1 : G120_4 ≤ G120_5) (hq2 : G120_3 ≠ 1 ∨ G120_4 + 2 ≤ G120_5 ∨ G120_7 < 256) (hq3 : 1 ≤ G120_43 ∧ G120_43 ≤ 19) (hq4 : G120_3 ≠ 0 ∨ 1 ≤ G120_8) (hq5 : G9005_0 ≤ 1) (hq6 : a1 ≠ 4) : Tr l K 2 mX12_opens 0 [(0, (2, 120)), (1, (0, a1))] [] M0 (fun M' r => St Pm0 ws_X12_opens_120_w1 as_X12_opens_120_w1 M0 M' ∧ ∃ S120_3 S120_4 S120_5 S120_7 S120_8 S120_43 S120_44 S9002_0 S9005_0 S9010_0 : Int, rd M' 120 3 = S120_3 ∧ (0 ≤ S120_3 ∧ S120_3 ≤ 3) ∧ rd M' 120 4 = S120_4 ∧ (0 ≤ S120_4 ∧ S120_4 ≤ 900) ∧ rd M' 120 5 = S120_5 ∧ (0 ≤ S120_5 ∧ S120_5 ≤ 900) ∧ rd M' 120 7 = S120_7 ∧ ((-9223372036854775808) ≤ S120_7 ∧ S120_7 ≤ 9223372036854775807) ∧ rd M' 120 8 = S120_8 ∧ (0 ≤ S120_8 ∧ S120_8 ≤ 5) ∧ rd M' 120 43 = S120_43 ∧ (0 ≤ S120_43 ∧ S120_43 ≤ 20) ∧ rd M' 120 44 = S120_44 ∧ (0 ≤ S120_44 ∧ S120_44 ≤ 8) ∧ n4v M' = S9002_0 ∧ (0 ≤ S9002_0 ∧ S9002_0 ≤ 20) ∧ fr0 M' = S9005_0 ∧ (0 ≤ S9005_0 ∧ S9005_0 ≤ 5) ∧ tav M' = S9010_0 ∧ ((-1) ≤ S9010_0 ∧ S9010_0 ≤ 1800) ∧ r = none ∧ Hd (S120_3 = 0 ∨ S120_4 + 1 ≤ S120_5) ∧ (S120_4 ≤ S120_5) ∧ Hd (S120_3 ≠ 1 ∨ S120_4 + 2 ≤ S120_5 ∨ S120_7 < 256) ∧ (G120_4 ≤ S120_4 ∧ G120_5 ≤ S120_5 ∧ G9010_0 ≤ S9010_0) ∧ Hd (G120_8 = 0 ∨ S120_8 = G120_8) ∧ Hd (1 ≤ S120_8 ∨ G9010_0 < S9010_0) ∧ (S120_43 - G120_43 = S120_44 - G120_44 ∧ G120_44 ≤ S120_44 ∧ S120_44 ≤ G120_44 + 1) ∧ Hd (S120_44 = G120_44 ∨ G120_5 ≤ S120_4) ∧ (S9002_0 = G9002_0) ∧ (S9005_0 ≤ 1) ∧ Hd (S120_44 = G120_44 + 1 ∨ 1 ≤ S120_8)) := by
  subst k120_3
  subst k120_4
  subst k120_5
  subst k120_7
  subst k120_8
  subst k120_43
  subst k120_44
  subst k9002_0
  subst k9005_0
  subst k9010_0
  refine Tr.imp (sp_X12_opens_120_w1 hI a1 ha1 hq0 hq1 hq2 hq3 hq4 hq5 hq6) ?_
  rintro M' _ ⟨hS, rfl, z0, z1, z2, z3, z4, z5, z6, z7, z8, z9, z10⟩
  exact ⟨hS, _, _, _, _, _, _, _, _, _, _, rfl, ir_120_3 hS.1.2.1, rfl, ir_120_4 hS.1.2.1, rfl, ir_120_5 hS.1.2.1, rfl, ir_120_7 hS.1.2.1, rfl, ir_120_8 hS.1.2.1, rfl, ir_120_43 hS.1.2.1, rfl, ir_120_44 hS.1.2.1, rfl, (n4v_b hS.1.2.1), rfl, (fr0_b hS.1.2.1), rfl, (tav_b hS.1.2.1), rfl, hd_i z0, z1, hd_i z2, z3, hd_i z4, hd_i z5, z6, hd_i z7, z8, z9, hd_i z10⟩

def ws_X12_add_120_w4 : List (Int × Int) := [(120, 36)]
def as_X12_add_120_w4 : List Int := [143, 144]
def q_X12_add_120_w4 (a1 a2 : Int) (M0 M' : Mem) (r : Option PV) : Prop := St Pm0 ws_X12_add_120_w4 as_X12_add_120_w4 M0 M' ∧ r = none ∧ (rd M' 120 36 = rd M0 120 36 + 1) ∧ ((a1 ≤ 5 ∧ Dv0 M' = Dv0 M0 + 1) ∨ (a1 = 18 ∧ Dv0 M' = Dv0 M0) ∨ (5 < a1 ∧ a1 ≠ 18 ∧ Dv0 M' = Dv0 M0 - 1))
set_option maxRecDepth 100000 in
set_option maxHeartbeats 4000000 in
theorem sp_X12_add_120_w4 {l : Launch} {K : EC} {M0 : Mem} (hI : In Pm0 M0) (en_120_37 : rd M0 120 37 = 0) (a1 : Int) (ha1 : -2147483648 ≤ a1 ∧ a1 ≤ 2147483647) (a2 : Int) (ha2 : -2147483648 ≤ a2 ∧ a2 ≤ 2147483647) (hp0 : (a1 = 1 → 0 ≤ a2 ∧ a2 ≤ 2) ∧ (a1 = 2 ∨ a1 = 4 → 0 ≤ a2 ∧ a2 ≤ 5)) (hq0 : rd M0 120 36 ≤ 899) (hq1 : 1 ≤ rd M0 136 0) (hq2 : a1 ≤ 5 ∨ 1 ≤ Dv0 M0) (hq3 : a1 ≤ 5 ∨ a1 = 18 ∨ 2 ≤ Dv0 M0) : Tr l K 0 mX12_add 0 [(0, (2, 120)), (1, (0, a1)), (2, (0, a2))] [] M0 (q_X12_add_120_w4 a1 a2 M0) := by
  have hS : St Pm0 ws_X12_add_120_w4 as_X12_add_120_w4 M0 M0 := St.rf hI
  obtain ⟨n, hn⟩ : ∃ v, rd M0 120 36 = v := ⟨_, rfl⟩
  have hb := ir_120_36 hI.2.1
  refine Tr.aload_n (pc := 0) (i := 0) d_X12_add_0 rfl rfl ?_
  refine Tr.getf (pc := 1) d_X12_add_1 f_12_115 (by decide) (by decide) (ty_120 hS.1.1) ?_
  refine Tr.tp 143 (fx_120_34 hS.1.1) ?_
  refine Tr.sipush (pc := 4) d_X12_add_4 rfl (by decide) ?_
  refine Tr.aload_n (pc := 7) (i := 0) d_X12_add_7 rfl rfl ?_
  refine Tr.getf (pc := 8) d_X12_add_8 f_12_124 (by decide) (by decide) (ty_120 hS.1.1) ?_
  refine Tr.tp 0 en_120_37 ?_
  refine Tr.imul (pc := 11) d_X12_add_11 ?_
  refine Tr.tp 0 (by decide) ?_
  refine Tr.aload_n (pc := 12) (i := 0) d_X12_add_12 rfl rfl ?_
  refine Tr.getf (pc := 13) d_X12_add_13 f_12_121 (by decide) (by decide) (ty_120 hS.1.1) ?_
  refine Tr.tp n hn ?_
  refine Tr.iadd (pc := 16) d_X12_add_16 ?_
  refine Tr.tp (0 + n) (w32_id (by omega)) ?_
  refine Tr.iload_n (pc := 17) (i := 1) d_X12_add_17 rfl rfl ?_
  refine Tr.iast (pc := 18) d_X12_add_18 (ty_143 hS.1.1) (by omega) (by omega) ?_
  refine Tr.aload_n (pc := 19) (i := 0) d_X12_add_19 rfl rfl ?_
  refine Tr.getf (pc := 20) d_X12_add_20 f_12_118 (by decide) (by decide) (show mT (wr M0 143 (0 + n) a1) 120 = (12, 121) from ty_120 (M := M0) hS.1.1) ?_
  refine Tr.tp 144 ((rd_wb _ rfl).trans (fx_120_35 (M := M0) hS.1.1)) ?_
  refine Tr.sipush (pc := 23) d_X12_add_23 rfl (by decide) ?_
  refine Tr.aload_n (pc := 26) (i := 0) d_X12_add_26 rfl rfl ?_
  refine Tr.getf (pc := 27) d_X12_add_27 f_12_124 (by decide) (by decide) (show mT (wr M0 143 (0 + n) a1) 120 = (12, 121) from ty_120 (M := M0) hS.1.1) ?_
  refine Tr.tp 0 ((rd_wb _ rfl).trans en_120_37) ?_
  refine Tr.imul (pc := 30) d_X12_add_30 ?_
  refine Tr.tp 0 (by decide) ?_
  refine Tr.aload_n (pc := 31) (i := 0) d_X12_add_31 rfl rfl ?_
  refine Tr.getf (pc := 32) d_X12_add_32 f_12_121 (by decide) (by decide) (show mT (wr M0 143 (0 + n) a1) 120 = (12, 121) from ty_120 (M := M0) hS.1.1) ?_
  refine Tr.tp n ((rd_wb _ rfl).trans hn) ?_
  refine Tr.iadd (pc := 35) d_X12_add_35 ?_
  refine Tr.tp (0 + n) (w32_id (by omega)) ?_
  refine Tr.iload_n (pc := 36) (i := 2) d_X12_add_36 rfl rfl ?_
  refine Tr.iastS (pc := 37) (P := fun M1 => St Tru ws_X12_add_120_w4 as_X12_add_120_w4 M0 M1) d_X12_add_37 (show mT (wr M0 143 (0 + n) a1) 144 = (20, 1800) from ty_144 (M := M0) hS.1.1) (by omega) (by omega) (St.two (x := 143) (y := 144) 96 97 hS.wk (by decide) hp0 (by decide) (by decide) rfl (by decide +kernel) (by decide +kernel) (by decide +kernel) (by omega) rfl (by decide +kernel) (by decide +kernel) (by decide +kernel) (by omega) trivial) (fun M37 hS9 w37 => ?_)
  have ho : ∀ y j : Int, ¬ (y = 143 ∧ j = 0 + n) → y ≠ 144 → rd M37 y j = rd M0 y j := fun y j c1 c2 => by rw [w37.2 _ _ (fun d => c2 d.1), rd_wn _ c1]
  have e1 : rd M37 143 (0 + n) = a1 := by rw [w37.2 _ _ (fun d => absurd d.1 (by decide)), rd_ws]
  have hA := Pm0_add (w := 0) hI.2.2.2.2 hI.2.1 hn (by omega) (by omega) e1 ho (fun c => by omega) (fun c c2 => by omega)
  refine Tr.aload_n (pc := 38) (i := 0) d_X12_add_38 rfl rfl ?_
  refine Tr.dup (pc := 39) d_X12_add_39 ne21 ?_
  refine Tr.getf (pc := 40) d_X12_add_40 f_12_121 (by decide) (by decide) (ty_120 hS9.1.1) ?_
  refine Tr.tp n ((ho 120 36 (fun d => absurd d.1 (by decide)) (by decide)).trans hn) ?_
  refine Tr.iconst (pc := 43) d_X12_add_43 (by decide) ?_
  refine Tr.iadd (pc := 44) d_X12_add_44 ?_
  refine Tr.tp (n + 1) (w32_id (by omega)) ?_
  have hS8 : St Tru ws_X12_add_120_w4 as_X12_add_120_w4 M0 (wr M37 120 36 (n + 1)) := st_120_36 hS9 (by decide) (by omega) trivial
  have hq := hA.2
  have hl := dl_c a1
  have hc : rd (wr M37 120 36 (n + 1)) 120 36 = n + 1 := rd_ws _ _ _ _
  refine Tr.putf (pc := 45) d_X12_add_45 f_12_121 (by decide) (by decide) (ty_120 hS9.1.1) ?_
  exact Tr.vret (pc := 48) d_X12_add_48 rfl ⟨St.rn hS8 hA.1, rfl, by omega, by omega⟩

set_option maxRecDepth 100000 in
set_option maxHeartbeats 4000000 in
theorem ns_X12_add_120_w4 {l : Launch} {K : EC} {M0 : Mem} {G120_36 G136_0 G9003_0 : Int} (hI : In Pm0 M0) (k120_36 : rd M0 120 36 = G120_36) (k136_0 : rd M0 136 0 = G136_0) (k9003_0 : Dv0 M0 = G9003_0) (en_120_37 : rd M0 120 37 = 0) (a1 : Int) (ha1 : (-2147483648) ≤ a1 ∧ a1 ≤ 2147483647) (a2 : Int) (ha2 : (-2147483648) ≤ a2 ∧ a2 ≤ 2147483647) (hp0 : (a1 = 1 → 0 ≤ a2 ∧ a2 ≤ 2) ∧ (a1 = 2 ∨ a1 = 4 → 0 ≤ a2 ∧ a2 ≤ 5)) (hq0 : G120_36 ≤ 899) (hq1 : 1 ≤ G136_0) (hq2 : a1 ≤ 5 ∨ 1 ≤ G9003_0) (hq3 : a1 ≤ 5 ∨ a1 = 18 ∨ 2 ≤ G9003_0) : Tr l K 0 mX12_add 0 [(0, (2, 120)), (1, (0, a1)), (2, (0, a2))] [] M0 (fun M' r => St Pm0 ws_X12_add_120_w4 as_X12_add_120_w4 M0 M' ∧ ∃ S120_36 S9003_0 : Int, rd M' 120 36 = S120_36 ∧ (0 ≤ S120_36 ∧ S120_36 ≤ 900) ∧ Dv0 M' = S9003_0 ∧ ((-1000) ≤ S9003_0 ∧ S9003_0 ≤ 1000) ∧ r = none ∧ (S120_36 = G120_36 + 1) ∧ Hd ((a1 ≤ 5 ∧ S9003_0 = G9003_0 + 1) ∨ (a1 = 18 ∧ S9003_0 = G9003_0) ∨ (5 < a1 ∧ a1 ≠ 18 ∧ S9003_0 = G9003_0 - 1))) := by
  subst k120_36
  subst k136_0
  subst k9003_0
  refine Tr.imp (sp_X12_add_120_w4 hI en_120_37 a1 ha1 a2 ha2 hp0 hq0 hq1 hq2 hq3) ?_
  rintro M' _ ⟨hS, rfl, z0, z1⟩
  exact ⟨hS, _, _, rfl, ir_120_36 hS.1.2.1, rfl, (Dv0_b hS.1.2.1), rfl, z0, hd_i z1⟩

def ws_X12_add_120_w5 : List (Int × Int) := [(120, 36)]
def as_X12_add_120_w5 : List Int := [143, 144]
def q_X12_add_120_w5 (a1 a2 : Int) (M0 M' : Mem) (r : Option PV) : Prop := St Pm0 ws_X12_add_120_w5 as_X12_add_120_w5 M0 M' ∧ r = none ∧ (rd M' 120 36 = rd M0 120 36 + 1) ∧ ((a1 ≤ 5 ∧ Dv0 M' = Dv0 M0 + 1) ∨ (a1 = 18 ∧ Dv0 M' = Dv0 M0) ∨ (5 < a1 ∧ a1 ≠ 18 ∧ Dv0 M' = Dv0 M0 - 1))
set_option maxRecDepth 100000 in
set_option maxHeartbeats 4000000 in
theorem sp_X12_add_120_w5 {l : Launch} {K : EC} {M0 : Mem} (hI : In Pm0 M0) (en_120_37 : rd M0 120 37 = 0) (a1 : Int) (ha1 : -2147483648 ≤ a1 ∧ a1 ≤ 2147483647) (a2 : Int) (ha2 : -2147483648 ≤ a2 ∧ a2 ≤ 2147483647) (hp0 : (a1 = 1 → 0 ≤ a2 ∧ a2 ≤ 2) ∧ (a1 = 2 ∨ a1 = 4 → 0 ≤ a2 ∧ a2 ≤ 5)) (hq0 : rd M0 120 36 ≤ 899) (hq1 : 1 ≤ rd M0 136 0) (hq2 : a1 ≤ 5 ∨ 1 ≤ Dv0 M0) (hq3 : a1 ≤ 5 ∨ a1 = 18 ∨ 2 ≤ Dv0 M0) : Tr l K 0 mX12_add 0 [(0, (2, 120)), (1, (0, a1)), (2, (0, a2))] [] M0 (q_X12_add_120_w5 a1 a2 M0) := by
  have hS : St Pm0 ws_X12_add_120_w5 as_X12_add_120_w5 M0 M0 := St.rf hI
  obtain ⟨n, hn⟩ : ∃ v, rd M0 120 36 = v := ⟨_, rfl⟩
  have hb := ir_120_36 hI.2.1
  refine Tr.aload_n (pc := 0) (i := 0) d_X12_add_0 rfl rfl ?_
  refine Tr.getf (pc := 1) d_X12_add_1 f_12_115 (by decide) (by decide) (ty_120 hS.1.1) ?_
  refine Tr.tp 143 (fx_120_34 hS.1.1) ?_
  refine Tr.sipush (pc := 4) d_X12_add_4 rfl (by decide) ?_
  refine Tr.aload_n (pc := 7) (i := 0) d_X12_add_7 rfl rfl ?_
  refine Tr.getf (pc := 8) d_X12_add_8 f_12_124 (by decide) (by decide) (ty_120 hS.1.1) ?_
  refine Tr.tp 0 en_120_37 ?_
  refine Tr.imul (pc := 11) d_X12_add_11 ?_
  refine Tr.tp 0 (by decide) ?_
  refine Tr.aload_n (pc := 12) (i := 0) d_X12_add_12 rfl rfl ?_
  refine Tr.getf (pc := 13) d_X12_add_13 f_12_121 (by decide) (by decide) (ty_120 hS.1.1) ?_
  refine Tr.tp n hn ?_
  refine Tr.iadd (pc := 16) d_X12_add_16 ?_
  refine Tr.tp (0 + n) (w32_id (by omega)) ?_
  refine Tr.iload_n (pc := 17) (i := 1) d_X12_add_17 rfl rfl ?_
  refine Tr.iast (pc := 18) d_X12_add_18 (ty_143 hS.1.1) (by omega) (by omega) ?_
  refine Tr.aload_n (pc := 19) (i := 0) d_X12_add_19 rfl rfl ?_
  refine Tr.getf (pc := 20) d_X12_add_20 f_12_118 (by decide) (by decide) (show mT (wr M0 143 (0 + n) a1) 120 = (12, 121) from ty_120 (M := M0) hS.1.1) ?_
  refine Tr.tp 144 ((rd_wb _ rfl).trans (fx_120_35 (M := M0) hS.1.1)) ?_
  refine Tr.sipush (pc := 23) d_X12_add_23 rfl (by decide) ?_
  refine Tr.aload_n (pc := 26) (i := 0) d_X12_add_26 rfl rfl ?_
  refine Tr.getf (pc := 27) d_X12_add_27 f_12_124 (by decide) (by decide) (show mT (wr M0 143 (0 + n) a1) 120 = (12, 121) from ty_120 (M := M0) hS.1.1) ?_
  refine Tr.tp 0 ((rd_wb _ rfl).trans en_120_37) ?_
  refine Tr.imul (pc := 30) d_X12_add_30 ?_
  refine Tr.tp 0 (by decide) ?_
  refine Tr.aload_n (pc := 31) (i := 0) d_X12_add_31 rfl rfl ?_
  refine Tr.getf (pc := 32) d_X12_add_32 f_12_121 (by decide) (by decide) (show mT (wr M0 143 (0 + n) a1) 120 = (12, 121) from ty_120 (M := M0) hS.1.1) ?_
  refine Tr.tp n ((rd_wb _ rfl).trans hn) ?_
  refine Tr.iadd (pc := 35) d_X12_add_35 ?_
  refine Tr.tp (0 + n) (w32_id (by omega)) ?_
  refine Tr.iload_n (pc := 36) (i := 2) d_X12_add_36 rfl rfl ?_
  refine Tr.iastS (pc := 37) (P := fun M1 => St Tru ws_X12_add_120_w5 as_X12_add_120_w5 M0 M1) d_X12_add_37 (show mT (wr M0 143 (0 + n) a1) 144 = (20, 1800) from ty_144 (M := M0) hS.1.1) (by omega) (by omega) (St.two (x := 143) (y := 144) 96 97 hS.wk (by decide) hp0 (by decide) (by decide) rfl (by decide +kernel) (by decide +kernel) (by decide +kernel) (by omega) rfl (by decide +kernel) (by decide +kernel) (by decide +kernel) (by omega) trivial) (fun M37 hS9 w37 => ?_)
  have ho : ∀ y j : Int, ¬ (y = 143 ∧ j = 0 + n) → y ≠ 144 → rd M37 y j = rd M0 y j := fun y j c1 c2 => by rw [w37.2 _ _ (fun d => c2 d.1), rd_wn _ c1]
  have e1 : rd M37 143 (0 + n) = a1 := by rw [w37.2 _ _ (fun d => absurd d.1 (by decide)), rd_ws]
  have hA := Pm0_add (w := 0) hI.2.2.2.2 hI.2.1 hn (by omega) (by omega) e1 ho (fun c => by omega) (fun c c2 => by omega)
  refine Tr.aload_n (pc := 38) (i := 0) d_X12_add_38 rfl rfl ?_
  refine Tr.dup (pc := 39) d_X12_add_39 ne21 ?_
  refine Tr.getf (pc := 40) d_X12_add_40 f_12_121 (by decide) (by decide) (ty_120 hS9.1.1) ?_
  refine Tr.tp n ((ho 120 36 (fun d => absurd d.1 (by decide)) (by decide)).trans hn) ?_
  refine Tr.iconst (pc := 43) d_X12_add_43 (by decide) ?_
  refine Tr.iadd (pc := 44) d_X12_add_44 ?_
  refine Tr.tp (n + 1) (w32_id (by omega)) ?_
  have hS8 : St Tru ws_X12_add_120_w5 as_X12_add_120_w5 M0 (wr M37 120 36 (n + 1)) := st_120_36 hS9 (by decide) (by omega) trivial
  have hq := hA.2
  have hl := dl_c a1
  have hc : rd (wr M37 120 36 (n + 1)) 120 36 = n + 1 := rd_ws _ _ _ _
  refine Tr.putf (pc := 45) d_X12_add_45 f_12_121 (by decide) (by decide) (ty_120 hS9.1.1) ?_
  exact Tr.vret (pc := 48) d_X12_add_48 rfl ⟨St.rn hS8 hA.1, rfl, by omega, by omega⟩

set_option maxRecDepth 100000 in
set_option maxHeartbeats 4000000 in
theorem ns_X12_add_120_w5 {l : Launch} {K : EC} {M0 : Mem} {G120_36 G136_0 G9003_0 : Int} (hI : In Pm0 M0) (k120_36 : rd M0 120 36 = G120_36) (k136_0 : rd M0 136 0 = G136_0) (k9003_0 : Dv0 M0 = G9003_0) (en_120_37 : rd M0 120 37 = 0) (a1 : Int) (ha1 : (-2147483648) ≤ a1 ∧ a1 ≤ 2147483647) (a2 : Int) (ha2 : (-2147483648) ≤ a2 ∧ a2 ≤ 2147483647) (hp0 : (a1 = 1 → 0 ≤ a2 ∧ a2 ≤ 2) ∧ (a1 = 2 ∨ a1 = 4 → 0 ≤ a2 ∧ a2 ≤ 5)) (hq0 : G120_36 ≤ 899) (hq1 : 1 ≤ G136_0) (hq2 : a1 ≤ 5 ∨ 1 ≤ G9003_0) (hq3 : a1 ≤ 5 ∨ a1 = 18 ∨ 2 ≤ G9003_0) : Tr l K 0 mX12_add 0 [(0, (2, 120)), (1, (0, a1)), (2, (0, a2))] [] M0 (fun M' r => St Pm0 ws_X12_add_120_w5 as_X12_add_120_w5 M0 M' ∧ ∃ S120_36 S9003_0 : Int, rd M' 120 36 = S120_36 ∧ (0 ≤ S120_36 ∧ S120_36 ≤ 900) ∧ Dv0 M' = S9003_0 ∧ ((-1000) ≤ S9003_0 ∧ S9003_0 ≤ 1000) ∧ r = none ∧ (S120_36 = G120_36 + 1) ∧ Hd ((a1 ≤ 5 ∧ S9003_0 = G9003_0 + 1) ∨ (a1 = 18 ∧ S9003_0 = G9003_0) ∨ (5 < a1 ∧ a1 ≠ 18 ∧ S9003_0 = G9003_0 - 1))) := by
  subst k120_36
  subst k136_0
  subst k9003_0
  refine Tr.imp (sp_X12_add_120_w5 hI en_120_37 a1 ha1 a2 ha2 hp0 hq0 hq1 hq2 hq3) ?_
  rintro M' _ ⟨hS, rfl, z0, z1⟩
  exact ⟨hS, _, _, rfl, ir_120_36 hS.1.2.1, rfl, (Dv0_b hS.1.2.1), rfl, z0, hd_i z1⟩

def ws_X12_add_120_w6 : List (Int × Int) := [(120, 36)]
def as_X12_add_120_w6 : List Int := [143, 144]
def q_X12_add_120_w6 (a1 a2 : Int) (M0 M' : Mem) (r : Option PV) : Prop := St Pm0 ws_X12_add_120_w6 as_X12_add_120_w6 M0 M' ∧ r = none ∧ (rd M' 120 36 = rd M0 120 36 + 1) ∧ ((a1 ≤ 5 ∧ Dv0 M' = Dv0 M0 + 1) ∨ (a1 = 18 ∧ Dv0 M' = Dv0 M0) ∨ (5 < a1 ∧ a1 ≠ 18 ∧ Dv0 M' = Dv0 M0 - 1))
set_option maxRecDepth 100000 in
set_option maxHeartbeats 4000000 in
theorem sp_X12_add_120_w6 {l : Launch} {K : EC} {M0 : Mem} (hI : In Pm0 M0) (en_120_37 : rd M0 120 37 = 0) (a1 : Int) (ha1 : -2147483648 ≤ a1 ∧ a1 ≤ 2147483647) (a2 : Int) (ha2 : -2147483648 ≤ a2 ∧ a2 ≤ 2147483647) (hp0 : (a1 = 1 → 0 ≤ a2 ∧ a2 ≤ 2) ∧ (a1 = 2 ∨ a1 = 4 → 0 ≤ a2 ∧ a2 ≤ 5)) (hq0 : rd M0 120 36 ≤ 899) (hq1 : 1 ≤ rd M0 136 0) (hq2 : a1 ≤ 5 ∨ 1 ≤ Dv0 M0) (hq3 : a1 ≤ 5 ∨ a1 = 18 ∨ 2 ≤ Dv0 M0) : Tr l K 0 mX12_add 0 [(0, (2, 120)), (1, (0, a1)), (2, (0, a2))] [] M0 (q_X12_add_120_w6 a1 a2 M0) := by
  have hS : St Pm0 ws_X12_add_120_w6 as_X12_add_120_w6 M0 M0 := St.rf hI
  obtain ⟨n, hn⟩ : ∃ v, rd M0 120 36 = v := ⟨_, rfl⟩
  have hb := ir_120_36 hI.2.1
  refine Tr.aload_n (pc := 0) (i := 0) d_X12_add_0 rfl rfl ?_
  refine Tr.getf (pc := 1) d_X12_add_1 f_12_115 (by decide) (by decide) (ty_120 hS.1.1) ?_
  refine Tr.tp 143 (fx_120_34 hS.1.1) ?_
  refine Tr.sipush (pc := 4) d_X12_add_4 rfl (by decide) ?_
  refine Tr.aload_n (pc := 7) (i := 0) d_X12_add_7 rfl rfl ?_
  refine Tr.getf (pc := 8) d_X12_add_8 f_12_124 (by decide) (by decide) (ty_120 hS.1.1) ?_
  refine Tr.tp 0 en_120_37 ?_
  refine Tr.imul (pc := 11) d_X12_add_11 ?_
  refine Tr.tp 0 (by decide) ?_
  refine Tr.aload_n (pc := 12) (i := 0) d_X12_add_12 rfl rfl ?_
  refine Tr.getf (pc := 13) d_X12_add_13 f_12_121 (by decide) (by decide) (ty_120 hS.1.1) ?_
  refine Tr.tp n hn ?_
  refine Tr.iadd (pc := 16) d_X12_add_16 ?_
  refine Tr.tp (0 + n) (w32_id (by omega)) ?_
  refine Tr.iload_n (pc := 17) (i := 1) d_X12_add_17 rfl rfl ?_
  refine Tr.iast (pc := 18) d_X12_add_18 (ty_143 hS.1.1) (by omega) (by omega) ?_
  refine Tr.aload_n (pc := 19) (i := 0) d_X12_add_19 rfl rfl ?_
  refine Tr.getf (pc := 20) d_X12_add_20 f_12_118 (by decide) (by decide) (show mT (wr M0 143 (0 + n) a1) 120 = (12, 121) from ty_120 (M := M0) hS.1.1) ?_
  refine Tr.tp 144 ((rd_wb _ rfl).trans (fx_120_35 (M := M0) hS.1.1)) ?_
  refine Tr.sipush (pc := 23) d_X12_add_23 rfl (by decide) ?_
  refine Tr.aload_n (pc := 26) (i := 0) d_X12_add_26 rfl rfl ?_
  refine Tr.getf (pc := 27) d_X12_add_27 f_12_124 (by decide) (by decide) (show mT (wr M0 143 (0 + n) a1) 120 = (12, 121) from ty_120 (M := M0) hS.1.1) ?_
  refine Tr.tp 0 ((rd_wb _ rfl).trans en_120_37) ?_
  refine Tr.imul (pc := 30) d_X12_add_30 ?_
  refine Tr.tp 0 (by decide) ?_
  refine Tr.aload_n (pc := 31) (i := 0) d_X12_add_31 rfl rfl ?_
  refine Tr.getf (pc := 32) d_X12_add_32 f_12_121 (by decide) (by decide) (show mT (wr M0 143 (0 + n) a1) 120 = (12, 121) from ty_120 (M := M0) hS.1.1) ?_
  refine Tr.tp n ((rd_wb _ rfl).trans hn) ?_
  refine Tr.iadd (pc := 35) d_X12_add_35 ?_
  refine Tr.tp (0 + n) (w32_id (by omega)) ?_
  refine Tr.iload_n (pc := 36) (i := 2) d_X12_add_36 rfl rfl ?_
  refine Tr.iastS (pc := 37) (P := fun M1 => St Tru ws_X12_add_120_w6 as_X12_add_120_w6 M0 M1) d_X12_add_37 (show mT (wr M0 143 (0 + n) a1) 144 = (20, 1800) from ty_144 (M := M0) hS.1.1) (by omega) (by omega) (St.two (x := 143) (y := 144) 96 97 hS.wk (by decide) hp0 (by decide) (by decide) rfl (by decide +kernel) (by decide +kernel) (by decide +kernel) (by omega) rfl (by decide +kernel) (by decide +kernel) (by decide +kernel) (by omega) trivial) (fun M37 hS9 w37 => ?_)
  have ho : ∀ y j : Int, ¬ (y = 143 ∧ j = 0 + n) → y ≠ 144 → rd M37 y j = rd M0 y j := fun y j c1 c2 => by rw [w37.2 _ _ (fun d => c2 d.1), rd_wn _ c1]
  have e1 : rd M37 143 (0 + n) = a1 := by rw [w37.2 _ _ (fun d => absurd d.1 (by decide)), rd_ws]
  have hA := Pm0_add (w := 0) hI.2.2.2.2 hI.2.1 hn (by omega) (by omega) e1 ho (fun c => by omega) (fun c c2 => by omega)
  refine Tr.aload_n (pc := 38) (i := 0) d_X12_add_38 rfl rfl ?_
  refine Tr.dup (pc := 39) d_X12_add_39 ne21 ?_
  refine Tr.getf (pc := 40) d_X12_add_40 f_12_121 (by decide) (by decide) (ty_120 hS9.1.1) ?_
  refine Tr.tp n ((ho 120 36 (fun d => absurd d.1 (by decide)) (by decide)).trans hn) ?_
  refine Tr.iconst (pc := 43) d_X12_add_43 (by decide) ?_
  refine Tr.iadd (pc := 44) d_X12_add_44 ?_
  refine Tr.tp (n + 1) (w32_id (by omega)) ?_
  have hS8 : St Tru ws_X12_add_120_w6 as_X12_add_120_w6 M0 (wr M37 120 36 (n + 1)) := st_120_36 hS9 (by decide) (by omega) trivial
  have hq := hA.2
  have hl := dl_c a1
  have hc : rd (wr M37 120 36 (n + 1)) 120 36 = n + 1 := rd_ws _ _ _ _
  refine Tr.putf (pc := 45) d_X12_add_45 f_12_121 (by decide) (by decide) (ty_120 hS9.1.1) ?_
  exact Tr.vret (pc := 48) d_X12_add_48 rfl ⟨St.rn hS8 hA.1, rfl, by omega, by omega⟩
end
/-! 40.11 -/
section
set_option maxRecDepth 100000 in
set_option maxHeartbeats 4000000 in
theorem ns_X12_add_120_w6 {l : Launch} {K : EC} {M0 : Mem} {G120_36 G136_0 G9003_0 : Int} (hI : In Pm0 M0) (k120_36 : rd M0 120 36 = G120_36) (k136_0 : rd M0 136 0 = G136_0) (k9003_0 : Dv0 M0 = G9003_0) (en_120_37 : rd M0 120 37 = 0) (a1 : Int) (ha1 : (-2147483648) ≤ a1 ∧ a1 ≤ 2147483647) (a2 : Int) (ha2 : (-2147483648) ≤ a2 ∧ a2 ≤ 2147483647) (hp0 : (a1 = 1 → 0 ≤ a2 ∧ a2 ≤ 2) ∧ (a1 = 2 ∨ a1 = 4 → 0 ≤ a2 ∧ a2 ≤ 5)) (hq0 : G120_36 ≤ 899) (hq1 : 1 ≤ G136_0) (hq2 : a1 ≤ 5 ∨ 1 ≤ G9003_0) (hq3 : a1 ≤ 5 ∨ a1 = 18 ∨ 2 ≤ G9003_0) : Tr l K 0 mX12_add 0 [(0, (2, 120)), (1, (0, a1)), (2, (0, a2))] [] M0 (fun M' r => St Pm0 ws_X12_add_120_w6 as_X12_add_120_w6 M0 M' ∧ ∃ S120_36 S9003_0 : Int, rd M' 120 36 = S120_36 ∧ (0 ≤ S120_36 ∧ S120_36 ≤ 900) ∧ Dv0 M' = S9003_0 ∧ ((-1000) ≤ S9003_0 ∧ S9003_0 ≤ 1000) ∧ r = none ∧ (S120_36 = G120_36 + 1) ∧ Hd ((a1 ≤ 5 ∧ S9003_0 = G9003_0 + 1) ∨ (a1 = 18 ∧ S9003_0 = G9003_0) ∨ (5 < a1 ∧ a1 ≠ 18 ∧ S9003_0 = G9003_0 - 1))) := by
  subst k120_36
  subst k136_0
  subst k9003_0
  refine Tr.imp (sp_X12_add_120_w6 hI en_120_37 a1 ha1 a2 ha2 hp0 hq0 hq1 hq2 hq3) ?_
  rintro M' _ ⟨hS, rfl, z0, z1⟩
  exact ⟨hS, _, _, rfl, ir_120_36 hS.1.2.1, rfl, (Dv0_b hS.1.2.1), rfl, z0, hd_i z1⟩

def ws_X12_operand_120_w1 : List (Int × Int) := [(120, 3), (120, 4), (120, 5), (120, 6), (120, 7), (120, 8), (120, 9), (120, 36), (120, 43), (120, 44), (120, 46)]
def as_X12_operand_120_w1 : List Int := [143, 144, 145, 146, 147, 148, 149, 150]
def q_X12_operand_120_w1 (M0 M' : Mem) (r : Option PV) : Prop := St Pm0 ws_X12_operand_120_w1 as_X12_operand_120_w1 M0 M' ∧ ∃ v : Int, r = some (0, v) ∧ 0 ≤ v ∧ v ≤ 1 ∧ (rd M' 120 3 = 0 ∨ rd M' 120 4 + 1 ≤ rd M' 120 5) ∧ (rd M' 120 4 ≤ rd M' 120 5) ∧ (rd M' 120 3 ≠ 1 ∨ rd M' 120 4 + 2 ≤ rd M' 120 5 ∨ rd M' 120 7 < 256) ∧ (rd M0 120 4 ≤ rd M' 120 4 ∧ rd M0 120 5 ≤ rd M' 120 5 ∧ tav M0 ≤ tav M') ∧ (rd M0 120 8 = 0 ∨ rd M' 120 8 = rd M0 120 8) ∧ (1 ≤ rd M' 120 8 ∨ tav M0 < tav M') ∧ (rd M' 120 36 + rd M' 120 46 + rd M' 120 44 ≤ rd M' 120 4) ∧ (1 ≤ rd M' 120 43) ∧ (rd M' 120 50 + rd M' 120 43 ≤ rd M' 120 44 + 1) ∧ (fr0 M' ≤ 1) ∧ (1 ≤ rd M' 136 0) ∧ (1 ≤ rd M' 120 8 ∨ 2 * rd M' 120 46 + v ≤ rd M' 120 4) ∧ (1 ≤ rd M' 120 8 ∨ nb2v M' + n4v M' + v ≤ Dv0 M')
theorem kp_X12_opens_120_w1_120_36 {q : Mem → Prop} {M0 M : Mem} (h : St q ws_X12_opens_120_w1 as_X12_opens_120_w1 M0 M) : rd M 120 36 = rd M0 120 36 := St.kp h (by decide) (by decide) (by decide)
theorem kp_X12_opens_120_w1_120_46 {q : Mem → Prop} {M0 M : Mem} (h : St q ws_X12_opens_120_w1 as_X12_opens_120_w1 M0 M) : rd M 120 46 = rd M0 120 46 := St.kp h (by decide) (by decide) (by decide)
theorem kp_X12_opens_120_w1_120_50 {q : Mem → Prop} {M0 M : Mem} (h : St q ws_X12_opens_120_w1 as_X12_opens_120_w1 M0 M) : rd M 120 50 = rd M0 120 50 := St.kp h (by decide) (by decide) (by decide)
theorem kp_X12_opens_120_w1_136_0 {q : Mem → Prop} {M0 M : Mem} (h : St q ws_X12_opens_120_w1 as_X12_opens_120_w1 M0 M) : rd M 136 0 = rd M0 136 0 := St.kp h (by decide) (by decide) (by decide)
theorem ka_X12_opens_120_w1_150 {q : Mem → Prop} {M0 M : Mem} (h : St q ws_X12_opens_120_w1 as_X12_opens_120_w1 M0 M) (j : Int) : rd M 150 j = rd M0 150 j := St.ka h (by decide) (by decide) (by decide)
theorem ka_X12_opens_120_w1_143 {q : Mem → Prop} {M0 M : Mem} (h : St q ws_X12_opens_120_w1 as_X12_opens_120_w1 M0 M) (j : Int) : rd M 143 j = rd M0 143 j := St.ka h (by decide) (by decide) (by decide)
theorem ka_X12_opens_120_w1_140 {q : Mem → Prop} {M0 M : Mem} (h : St q ws_X12_opens_120_w1 as_X12_opens_120_w1 M0 M) (j : Int) : rd M 140 j = rd M0 140 j := St.ka h (by decide) (by decide) (by decide)
theorem kp_X12_next_120_w1_120_36 {q : Mem → Prop} {M0 M : Mem} (h : St q ws_X12_next_120_w1 as_X12_next_120_w1 M0 M) : rd M 120 36 = rd M0 120 36 := St.kp h (by decide) (by decide) (by decide)
theorem kp_X12_next_120_w1_120_46 {q : Mem → Prop} {M0 M : Mem} (h : St q ws_X12_next_120_w1 as_X12_next_120_w1 M0 M) : rd M 120 46 = rd M0 120 46 := St.kp h (by decide) (by decide) (by decide)
theorem kp_X12_next_120_w1_120_50 {q : Mem → Prop} {M0 M : Mem} (h : St q ws_X12_next_120_w1 as_X12_next_120_w1 M0 M) : rd M 120 50 = rd M0 120 50 := St.kp h (by decide) (by decide) (by decide)
theorem kp_X12_next_120_w1_136_0 {q : Mem → Prop} {M0 M : Mem} (h : St q ws_X12_next_120_w1 as_X12_next_120_w1 M0 M) : rd M 136 0 = rd M0 136 0 := St.kp h (by decide) (by decide) (by decide)
theorem ka_X12_next_120_w1_147 {q : Mem → Prop} {M0 M : Mem} (h : St q ws_X12_next_120_w1 as_X12_next_120_w1 M0 M) (j : Int) : rd M 147 j = rd M0 147 j := St.ka h (by decide) (by decide) (by decide)
theorem ka_X12_next_120_w1_150 {q : Mem → Prop} {M0 M : Mem} (h : St q ws_X12_next_120_w1 as_X12_next_120_w1 M0 M) (j : Int) : rd M 150 j = rd M0 150 j := St.ka h (by decide) (by decide) (by decide)
theorem ka_X12_next_120_w1_143 {q : Mem → Prop} {M0 M : Mem} (h : St q ws_X12_next_120_w1 as_X12_next_120_w1 M0 M) (j : Int) : rd M 143 j = rd M0 143 j := St.ka h (by decide) (by decide) (by decide)
theorem ka_X12_next_120_w1_140 {q : Mem → Prop} {M0 M : Mem} (h : St q ws_X12_next_120_w1 as_X12_next_120_w1 M0 M) (j : Int) : rd M 140 j = rd M0 140 j := St.ka h (by decide) (by decide) (by decide)
theorem kp_X12_blame_120_w1_120_36 {q : Mem → Prop} {M0 M : Mem} (h : St q ws_X12_blame_120_w1 as_X12_blame_120_w1 M0 M) : rd M 120 36 = rd M0 120 36 := St.kp h (by decide) (by decide) (by decide)
theorem kp_X12_blame_120_w1_120_50 {q : Mem → Prop} {M0 M : Mem} (h : St q ws_X12_blame_120_w1 as_X12_blame_120_w1 M0 M) : rd M 120 50 = rd M0 120 50 := St.kp h (by decide) (by decide) (by decide)
theorem kp_X12_blame_120_w1_136_0 {q : Mem → Prop} {M0 M : Mem} (h : St q ws_X12_blame_120_w1 as_X12_blame_120_w1 M0 M) : rd M 136 0 = rd M0 136 0 := St.kp h (by decide) (by decide) (by decide)
theorem ka_X12_blame_120_w1_147 {q : Mem → Prop} {M0 M : Mem} (h : St q ws_X12_blame_120_w1 as_X12_blame_120_w1 M0 M) (j : Int) : rd M 147 j = rd M0 147 j := St.ka h (by decide) (by decide) (by decide)
theorem ka_X12_blame_120_w1_150 {q : Mem → Prop} {M0 M : Mem} (h : St q ws_X12_blame_120_w1 as_X12_blame_120_w1 M0 M) (j : Int) : rd M 150 j = rd M0 150 j := St.ka h (by decide) (by decide) (by decide)
theorem ka_X12_blame_120_w1_143 {q : Mem → Prop} {M0 M : Mem} (h : St q ws_X12_blame_120_w1 as_X12_blame_120_w1 M0 M) (j : Int) : rd M 143 j = rd M0 143 j := St.ka h (by decide) (by decide) (by decide)
theorem ka_X12_blame_120_w1_140 {q : Mem → Prop} {M0 M : Mem} (h : St q ws_X12_blame_120_w1 as_X12_blame_120_w1 M0 M) (j : Int) : rd M 140 j = rd M0 140 j := St.ka h (by decide) (by decide) (by decide)
theorem kp_X12_operand_120_w1_120_37 {q : Mem → Prop} {M0 M : Mem} (h : St q ws_X12_operand_120_w1 as_X12_operand_120_w1 M0 M) : rd M 120 37 = rd M0 120 37 := St.kp h (by decide) (by decide) (by decide)
theorem kp_X12_add_120_w6_120_3 {q : Mem → Prop} {M0 M : Mem} (h : St q ws_X12_add_120_w6 as_X12_add_120_w6 M0 M) : rd M 120 3 = rd M0 120 3 := St.kp h (by decide) (by decide) (by decide)
theorem kp_X12_add_120_w6_120_5 {q : Mem → Prop} {M0 M : Mem} (h : St q ws_X12_add_120_w6 as_X12_add_120_w6 M0 M) : rd M 120 5 = rd M0 120 5 := St.kp h (by decide) (by decide) (by decide)
theorem kp_X12_add_120_w6_120_8 {q : Mem → Prop} {M0 M : Mem} (h : St q ws_X12_add_120_w6 as_X12_add_120_w6 M0 M) : rd M 120 8 = rd M0 120 8 := St.kp h (by decide) (by decide) (by decide)
theorem kp_X12_add_120_w6_120_43 {q : Mem → Prop} {M0 M : Mem} (h : St q ws_X12_add_120_w6 as_X12_add_120_w6 M0 M) : rd M 120 43 = rd M0 120 43 := St.kp h (by decide) (by decide) (by decide)
theorem kp_X12_add_120_w6_120_44 {q : Mem → Prop} {M0 M : Mem} (h : St q ws_X12_add_120_w6 as_X12_add_120_w6 M0 M) : rd M 120 44 = rd M0 120 44 := St.kp h (by decide) (by decide) (by decide)
theorem kp_X12_add_120_w6_120_46 {q : Mem → Prop} {M0 M : Mem} (h : St q ws_X12_add_120_w6 as_X12_add_120_w6 M0 M) : rd M 120 46 = rd M0 120 46 := St.kp h (by decide) (by decide) (by decide)
theorem kp_X12_add_120_w6_120_50 {q : Mem → Prop} {M0 M : Mem} (h : St q ws_X12_add_120_w6 as_X12_add_120_w6 M0 M) : rd M 120 50 = rd M0 120 50 := St.kp h (by decide) (by decide) (by decide)
theorem kp_X12_add_120_w6_136_0 {q : Mem → Prop} {M0 M : Mem} (h : St q ws_X12_add_120_w6 as_X12_add_120_w6 M0 M) : rd M 136 0 = rd M0 136 0 := St.kp h (by decide) (by decide) (by decide)
theorem ka_X12_add_120_w6_150 {q : Mem → Prop} {M0 M : Mem} (h : St q ws_X12_add_120_w6 as_X12_add_120_w6 M0 M) (j : Int) : rd M 150 j = rd M0 150 j := St.ka h (by decide) (by decide) (by decide)
theorem ka_X12_add_120_w6_145 {q : Mem → Prop} {M0 M : Mem} (h : St q ws_X12_add_120_w6 as_X12_add_120_w6 M0 M) (j : Int) : rd M 145 j = rd M0 145 j := St.ka h (by decide) (by decide) (by decide)
theorem kp_X12_varOf_120_w1_120_43 {q : Mem → Prop} {M0 M : Mem} (h : St q ws_X12_varOf_120_w1 as_X12_varOf_120_w1 M0 M) : rd M 120 43 = rd M0 120 43 := St.kp h (by decide) (by decide) (by decide)
theorem kp_X12_varOf_120_w1_120_44 {q : Mem → Prop} {M0 M : Mem} (h : St q ws_X12_varOf_120_w1 as_X12_varOf_120_w1 M0 M) : rd M 120 44 = rd M0 120 44 := St.kp h (by decide) (by decide) (by decide)
theorem kp_X12_varOf_120_w1_120_46 {q : Mem → Prop} {M0 M : Mem} (h : St q ws_X12_varOf_120_w1 as_X12_varOf_120_w1 M0 M) : rd M 120 46 = rd M0 120 46 := St.kp h (by decide) (by decide) (by decide)
theorem kp_X12_varOf_120_w1_120_6 {q : Mem → Prop} {M0 M : Mem} (h : St q ws_X12_varOf_120_w1 as_X12_varOf_120_w1 M0 M) : rd M 120 6 = rd M0 120 6 := St.kp h (by decide) (by decide) (by decide)
theorem ka_X12_varOf_120_w1_145 {q : Mem → Prop} {M0 M : Mem} (h : St q ws_X12_varOf_120_w1 as_X12_varOf_120_w1 M0 M) (j : Int) : rd M 145 j = rd M0 145 j := St.ka h (by decide) (by decide) (by decide)
theorem ka_X12_varOf_120_w1_147 {q : Mem → Prop} {M0 M : Mem} (h : St q ws_X12_varOf_120_w1 as_X12_varOf_120_w1 M0 M) (j : Int) : rd M 147 j = rd M0 147 j := St.ka h (by decide) (by decide) (by decide)
theorem ka_X12_varOf_120_w1_150 {q : Mem → Prop} {M0 M : Mem} (h : St q ws_X12_varOf_120_w1 as_X12_varOf_120_w1 M0 M) (j : Int) : rd M 150 j = rd M0 150 j := St.ka h (by decide) (by decide) (by decide)
theorem kp_X12_inputOf_120_w1_120_43 {q : Mem → Prop} {M0 M : Mem} (h : St q ws_X12_inputOf_120_w1 as_X12_inputOf_120_w1 M0 M) : rd M 120 43 = rd M0 120 43 := St.kp h (by decide) (by decide) (by decide)
theorem kp_X12_inputOf_120_w1_120_44 {q : Mem → Prop} {M0 M : Mem} (h : St q ws_X12_inputOf_120_w1 as_X12_inputOf_120_w1 M0 M) : rd M 120 44 = rd M0 120 44 := St.kp h (by decide) (by decide) (by decide)
theorem kp_X12_inputOf_120_w1_120_46 {q : Mem → Prop} {M0 M : Mem} (h : St q ws_X12_inputOf_120_w1 as_X12_inputOf_120_w1 M0 M) : rd M 120 46 = rd M0 120 46 := St.kp h (by decide) (by decide) (by decide)
theorem kp_X12_inputOf_120_w1_120_6 {q : Mem → Prop} {M0 M : Mem} (h : St q ws_X12_inputOf_120_w1 as_X12_inputOf_120_w1 M0 M) : rd M 120 6 = rd M0 120 6 := St.kp h (by decide) (by decide) (by decide)
theorem ka_X12_inputOf_120_w1_145 {q : Mem → Prop} {M0 M : Mem} (h : St q ws_X12_inputOf_120_w1 as_X12_inputOf_120_w1 M0 M) (j : Int) : rd M 145 j = rd M0 145 j := St.ka h (by decide) (by decide) (by decide)
theorem ka_X12_inputOf_120_w1_147 {q : Mem → Prop} {M0 M : Mem} (h : St q ws_X12_inputOf_120_w1 as_X12_inputOf_120_w1 M0 M) (j : Int) : rd M 147 j = rd M0 147 j := St.ka h (by decide) (by decide) (by decide)
theorem ka_X12_inputOf_120_w1_150 {q : Mem → Prop} {M0 M : Mem} (h : St q ws_X12_inputOf_120_w1 as_X12_inputOf_120_w1 M0 M) (j : Int) : rd M 150 j = rd M0 150 j := St.ka h (by decide) (by decide) (by decide)
theorem kp_X12_asked_120_w1_120_36 {q : Mem → Prop} {M0 M : Mem} (h : St q ws_X12_asked_120_w1 as_X12_asked_120_w1 M0 M) : rd M 120 36 = rd M0 120 36 := St.kp h (by decide) (by decide) (by decide)
theorem kp_X12_asked_120_w1_120_43 {q : Mem → Prop} {M0 M : Mem} (h : St q ws_X12_asked_120_w1 as_X12_asked_120_w1 M0 M) : rd M 120 43 = rd M0 120 43 := St.kp h (by decide) (by decide) (by decide)
theorem kp_X12_asked_120_w1_120_44 {q : Mem → Prop} {M0 M : Mem} (h : St q ws_X12_asked_120_w1 as_X12_asked_120_w1 M0 M) : rd M 120 44 = rd M0 120 44 := St.kp h (by decide) (by decide) (by decide)
theorem kp_X12_asked_120_w1_120_46 {q : Mem → Prop} {M0 M : Mem} (h : St q ws_X12_asked_120_w1 as_X12_asked_120_w1 M0 M) : rd M 120 46 = rd M0 120 46 := St.kp h (by decide) (by decide) (by decide)
theorem kp_X12_asked_120_w1_120_50 {q : Mem → Prop} {M0 M : Mem} (h : St q ws_X12_asked_120_w1 as_X12_asked_120_w1 M0 M) : rd M 120 50 = rd M0 120 50 := St.kp h (by decide) (by decide) (by decide)
theorem kp_X12_asked_120_w1_136_0 {q : Mem → Prop} {M0 M : Mem} (h : St q ws_X12_asked_120_w1 as_X12_asked_120_w1 M0 M) : rd M 136 0 = rd M0 136 0 := St.kp h (by decide) (by decide) (by decide)
theorem ka_X12_asked_120_w1_145 {q : Mem → Prop} {M0 M : Mem} (h : St q ws_X12_asked_120_w1 as_X12_asked_120_w1 M0 M) (j : Int) : rd M 145 j = rd M0 145 j := St.ka h (by decide) (by decide) (by decide)
theorem ka_X12_asked_120_w1_147 {q : Mem → Prop} {M0 M : Mem} (h : St q ws_X12_asked_120_w1 as_X12_asked_120_w1 M0 M) (j : Int) : rd M 147 j = rd M0 147 j := St.ka h (by decide) (by decide) (by decide)
theorem ka_X12_asked_120_w1_150 {q : Mem → Prop} {M0 M : Mem} (h : St q ws_X12_asked_120_w1 as_X12_asked_120_w1 M0 M) (j : Int) : rd M 150 j = rd M0 150 j := St.ka h (by decide) (by decide) (by decide)
theorem ka_X12_asked_120_w1_143 {q : Mem → Prop} {M0 M : Mem} (h : St q ws_X12_asked_120_w1 as_X12_asked_120_w1 M0 M) (j : Int) : rd M 143 j = rd M0 143 j := St.ka h (by decide) (by decide) (by decide)
theorem ka_X12_asked_120_w1_140 {q : Mem → Prop} {M0 M : Mem} (h : St q ws_X12_asked_120_w1 as_X12_asked_120_w1 M0 M) (j : Int) : rd M 140 j = rd M0 140 j := St.ka h (by decide) (by decide) (by decide)
theorem kp_X12_add_120_w5_120_3 {q : Mem → Prop} {M0 M : Mem} (h : St q ws_X12_add_120_w5 as_X12_add_120_w5 M0 M) : rd M 120 3 = rd M0 120 3 := St.kp h (by decide) (by decide) (by decide)
theorem kp_X12_add_120_w5_120_4 {q : Mem → Prop} {M0 M : Mem} (h : St q ws_X12_add_120_w5 as_X12_add_120_w5 M0 M) : rd M 120 4 = rd M0 120 4 := St.kp h (by decide) (by decide) (by decide)
theorem kp_X12_add_120_w5_120_43 {q : Mem → Prop} {M0 M : Mem} (h : St q ws_X12_add_120_w5 as_X12_add_120_w5 M0 M) : rd M 120 43 = rd M0 120 43 := St.kp h (by decide) (by decide) (by decide)
theorem kp_X12_add_120_w5_120_44 {q : Mem → Prop} {M0 M : Mem} (h : St q ws_X12_add_120_w5 as_X12_add_120_w5 M0 M) : rd M 120 44 = rd M0 120 44 := St.kp h (by decide) (by decide) (by decide)
theorem kp_X12_add_120_w5_120_46 {q : Mem → Prop} {M0 M : Mem} (h : St q ws_X12_add_120_w5 as_X12_add_120_w5 M0 M) : rd M 120 46 = rd M0 120 46 := St.kp h (by decide) (by decide) (by decide)
theorem kp_X12_add_120_w5_120_5 {q : Mem → Prop} {M0 M : Mem} (h : St q ws_X12_add_120_w5 as_X12_add_120_w5 M0 M) : rd M 120 5 = rd M0 120 5 := St.kp h (by decide) (by decide) (by decide)
theorem kp_X12_add_120_w5_120_50 {q : Mem → Prop} {M0 M : Mem} (h : St q ws_X12_add_120_w5 as_X12_add_120_w5 M0 M) : rd M 120 50 = rd M0 120 50 := St.kp h (by decide) (by decide) (by decide)
theorem kp_X12_add_120_w5_120_7 {q : Mem → Prop} {M0 M : Mem} (h : St q ws_X12_add_120_w5 as_X12_add_120_w5 M0 M) : rd M 120 7 = rd M0 120 7 := St.kp h (by decide) (by decide) (by decide)
theorem kp_X12_add_120_w5_120_8 {q : Mem → Prop} {M0 M : Mem} (h : St q ws_X12_add_120_w5 as_X12_add_120_w5 M0 M) : rd M 120 8 = rd M0 120 8 := St.kp h (by decide) (by decide) (by decide)
theorem kp_X12_add_120_w5_136_0 {q : Mem → Prop} {M0 M : Mem} (h : St q ws_X12_add_120_w5 as_X12_add_120_w5 M0 M) : rd M 136 0 = rd M0 136 0 := St.kp h (by decide) (by decide) (by decide)
theorem ka_X12_add_120_w5_145 {q : Mem → Prop} {M0 M : Mem} (h : St q ws_X12_add_120_w5 as_X12_add_120_w5 M0 M) (j : Int) : rd M 145 j = rd M0 145 j := St.ka h (by decide) (by decide) (by decide)
theorem ka_X12_add_120_w5_147 {q : Mem → Prop} {M0 M : Mem} (h : St q ws_X12_add_120_w5 as_X12_add_120_w5 M0 M) (j : Int) : rd M 147 j = rd M0 147 j := St.ka h (by decide) (by decide) (by decide)
theorem ka_X12_add_120_w5_150 {q : Mem → Prop} {M0 M : Mem} (h : St q ws_X12_add_120_w5 as_X12_add_120_w5 M0 M) (j : Int) : rd M 150 j = rd M0 150 j := St.ka h (by decide) (by decide) (by decide)
theorem kp_X12_add_120_w4_120_3 {q : Mem → Prop} {M0 M : Mem} (h : St q ws_X12_add_120_w4 as_X12_add_120_w4 M0 M) : rd M 120 3 = rd M0 120 3 := St.kp h (by decide) (by decide) (by decide)
theorem kp_X12_add_120_w4_120_5 {q : Mem → Prop} {M0 M : Mem} (h : St q ws_X12_add_120_w4 as_X12_add_120_w4 M0 M) : rd M 120 5 = rd M0 120 5 := St.kp h (by decide) (by decide) (by decide)
theorem kp_X12_add_120_w4_120_8 {q : Mem → Prop} {M0 M : Mem} (h : St q ws_X12_add_120_w4 as_X12_add_120_w4 M0 M) : rd M 120 8 = rd M0 120 8 := St.kp h (by decide) (by decide) (by decide)
theorem kp_X12_add_120_w4_120_43 {q : Mem → Prop} {M0 M : Mem} (h : St q ws_X12_add_120_w4 as_X12_add_120_w4 M0 M) : rd M 120 43 = rd M0 120 43 := St.kp h (by decide) (by decide) (by decide)
theorem kp_X12_add_120_w4_120_44 {q : Mem → Prop} {M0 M : Mem} (h : St q ws_X12_add_120_w4 as_X12_add_120_w4 M0 M) : rd M 120 44 = rd M0 120 44 := St.kp h (by decide) (by decide) (by decide)
theorem kp_X12_add_120_w4_120_46 {q : Mem → Prop} {M0 M : Mem} (h : St q ws_X12_add_120_w4 as_X12_add_120_w4 M0 M) : rd M 120 46 = rd M0 120 46 := St.kp h (by decide) (by decide) (by decide)
theorem kp_X12_add_120_w4_120_50 {q : Mem → Prop} {M0 M : Mem} (h : St q ws_X12_add_120_w4 as_X12_add_120_w4 M0 M) : rd M 120 50 = rd M0 120 50 := St.kp h (by decide) (by decide) (by decide)
theorem kp_X12_add_120_w4_136_0 {q : Mem → Prop} {M0 M : Mem} (h : St q ws_X12_add_120_w4 as_X12_add_120_w4 M0 M) : rd M 136 0 = rd M0 136 0 := St.kp h (by decide) (by decide) (by decide)
theorem ka_X12_add_120_w4_150 {q : Mem → Prop} {M0 M : Mem} (h : St q ws_X12_add_120_w4 as_X12_add_120_w4 M0 M) (j : Int) : rd M 150 j = rd M0 150 j := St.ka h (by decide) (by decide) (by decide)
theorem ka_X12_add_120_w4_145 {q : Mem → Prop} {M0 M : Mem} (h : St q ws_X12_add_120_w4 as_X12_add_120_w4 M0 M) (j : Int) : rd M 145 j = rd M0 145 j := St.ka h (by decide) (by decide) (by decide)
theorem kp_X12_holdsBack_120_w1_120_3 {q : Mem → Prop} {M0 M : Mem} (h : St q ws_X12_holdsBack_120_w1 as_X12_holdsBack_120_w1 M0 M) : rd M 120 3 = rd M0 120 3 := St.kp h (by decide) (by decide) (by decide)
theorem kp_X12_holdsBack_120_w1_120_5 {q : Mem → Prop} {M0 M : Mem} (h : St q ws_X12_holdsBack_120_w1 as_X12_holdsBack_120_w1 M0 M) : rd M 120 5 = rd M0 120 5 := St.kp h (by decide) (by decide) (by decide)
theorem kp_X12_holdsBack_120_w1_120_8 {q : Mem → Prop} {M0 M : Mem} (h : St q ws_X12_holdsBack_120_w1 as_X12_holdsBack_120_w1 M0 M) : rd M 120 8 = rd M0 120 8 := St.kp h (by decide) (by decide) (by decide)
theorem kp_X12_holdsBack_120_w1_120_36 {q : Mem → Prop} {M0 M : Mem} (h : St q ws_X12_holdsBack_120_w1 as_X12_holdsBack_120_w1 M0 M) : rd M 120 36 = rd M0 120 36 := St.kp h (by decide) (by decide) (by decide)
theorem kp_X12_holdsBack_120_w1_120_43 {q : Mem → Prop} {M0 M : Mem} (h : St q ws_X12_holdsBack_120_w1 as_X12_holdsBack_120_w1 M0 M) : rd M 120 43 = rd M0 120 43 := St.kp h (by decide) (by decide) (by decide)
theorem kp_X12_holdsBack_120_w1_120_44 {q : Mem → Prop} {M0 M : Mem} (h : St q ws_X12_holdsBack_120_w1 as_X12_holdsBack_120_w1 M0 M) : rd M 120 44 = rd M0 120 44 := St.kp h (by decide) (by decide) (by decide)
theorem kp_X12_holdsBack_120_w1_120_50 {q : Mem → Prop} {M0 M : Mem} (h : St q ws_X12_holdsBack_120_w1 as_X12_holdsBack_120_w1 M0 M) : rd M 120 50 = rd M0 120 50 := St.kp h (by decide) (by decide) (by decide)
theorem kp_X12_holdsBack_120_w1_136_0 {q : Mem → Prop} {M0 M : Mem} (h : St q ws_X12_holdsBack_120_w1 as_X12_holdsBack_120_w1 M0 M) : rd M 136 0 = rd M0 136 0 := St.kp h (by decide) (by decide) (by decide)
theorem ka_X12_holdsBack_120_w1_145 {q : Mem → Prop} {M0 M : Mem} (h : St q ws_X12_holdsBack_120_w1 as_X12_holdsBack_120_w1 M0 M) (j : Int) : rd M 145 j = rd M0 145 j := St.ka h (by decide) (by decide) (by decide)
theorem ka_X12_holdsBack_120_w1_143 {q : Mem → Prop} {M0 M : Mem} (h : St q ws_X12_holdsBack_120_w1 as_X12_holdsBack_120_w1 M0 M) (j : Int) : rd M 143 j = rd M0 143 j := St.ka h (by decide) (by decide) (by decide)
theorem ka_X12_holdsBack_120_w1_140 {q : Mem → Prop} {M0 M : Mem} (h : St q ws_X12_holdsBack_120_w1 as_X12_holdsBack_120_w1 M0 M) (j : Int) : rd M 140 j = rd M0 140 j := St.ka h (by decide) (by decide) (by decide)
set_option maxRecDepth 100000 in
set_option maxHeartbeats 4000000 in
theorem sp_X12_operand_120_w1 {l : Launch} {K : EC} {M0 : Mem} (hI : In Pm0 M0) (en_120_37 : rd M0 120 37 = 0)   (hq0 : rd M0 120 3 = 0 ∨ rd M0 120 4 + 1 ≤ rd M0 120 5) (hq1 : rd M0 120 4 ≤ rd M0 120 5) (hq2 : rd M0 120 3 ≠ 1 ∨ rd M0 120 4 + 2 ≤ rd M0 120 5 ∨ rd M0 120 7 < 256) (hq3 : rd M0 120 8 = 0) (hq4 : 2 * rd M0 120 46 ≤ rd M0 120 4) (hq5 : nb2v M0 + n4v M0 ≤ Dv0 M0) (hq6 : rd M0 120 36 + rd M0 120 46 + rd M0 120 44 ≤ rd M0 120 4) (hq7 : 1 ≤ rd M0 120 43) (hq8 : rd M0 120 50 + rd M0 120 43 ≤ rd M0 120 44 + 1) (hq9 : fr0 M0 ≤ 1) (hq10 : 1 ≤ rd M0 136 0) : Tr l K 3 mX12_operand 0 [(0, (2, 120))] [] M0 (q_X12_operand_120_w1 M0) := by
  have hS : St Pm0 ws_X12_operand_120_w1 as_X12_operand_120_w1 M0 M0 := St.rf hI
  obtain ⟨g120_8, eg120_8⟩ : ∃ v, rd M0 120 8 = v := ⟨_, rfl⟩
  have bg120_8 : 0 ≤ g120_8 ∧ g120_8 ≤ 5 := by rw [← eg120_8]; exact ir_120_8 hI.2.1
  obtain ⟨g120_3, eg120_3⟩ : ∃ v, rd M0 120 3 = v := ⟨_, rfl⟩
  have bg120_3 : 0 ≤ g120_3 ∧ g120_3 ≤ 3 := by rw [← eg120_3]; exact ir_120_3 hI.2.1
  obtain ⟨g120_4, eg120_4⟩ : ∃ v, rd M0 120 4 = v := ⟨_, rfl⟩
  have bg120_4 : 0 ≤ g120_4 ∧ g120_4 ≤ 900 := by rw [← eg120_4]; exact ir_120_4 hI.2.1
  obtain ⟨g120_5, eg120_5⟩ : ∃ v, rd M0 120 5 = v := ⟨_, rfl⟩
  have bg120_5 : 0 ≤ g120_5 ∧ g120_5 ≤ 900 := by rw [← eg120_5]; exact ir_120_5 hI.2.1
  obtain ⟨g120_7, eg120_7⟩ : ∃ v, rd M0 120 7 = v := ⟨_, rfl⟩
  have bg120_7 : (-9223372036854775808) ≤ g120_7 ∧ g120_7 ≤ 9223372036854775807 := by rw [← eg120_7]; exact ir_120_7 hI.2.1
  obtain ⟨g9010_0, eg9010_0⟩ : ∃ v, tav M0 = v := ⟨_, rfl⟩
  have bg9010_0 : (-1) ≤ g9010_0 ∧ g9010_0 ≤ 1800 := by rw [← eg9010_0]; exact (tav_b hI.2.1)
  obtain ⟨g120_6, eg120_6⟩ : ∃ v, rd M0 120 6 = v := ⟨_, rfl⟩
  have bg120_6 : (-2147483648) ≤ g120_6 ∧ g120_6 ≤ 2147483647 := by rw [← eg120_6]; exact ir_120_6 hI.2.1
  obtain ⟨g120_36, eg120_36⟩ : ∃ v, rd M0 120 36 = v := ⟨_, rfl⟩
  have bg120_36 : 0 ≤ g120_36 ∧ g120_36 ≤ 900 := by rw [← eg120_36]; exact ir_120_36 hI.2.1
  obtain ⟨g120_46, eg120_46⟩ : ∃ v, rd M0 120 46 = v := ⟨_, rfl⟩
  have bg120_46 : 0 ≤ g120_46 ∧ g120_46 ≤ 500 := by rw [← eg120_46]; exact ir_120_46 hI.2.1
  obtain ⟨g120_44, eg120_44⟩ : ∃ v, rd M0 120 44 = v := ⟨_, rfl⟩
  have bg120_44 : 0 ≤ g120_44 ∧ g120_44 ≤ 8 := by rw [← eg120_44]; exact ir_120_44 hI.2.1
  obtain ⟨g120_43, eg120_43⟩ : ∃ v, rd M0 120 43 = v := ⟨_, rfl⟩
  have bg120_43 : 0 ≤ g120_43 ∧ g120_43 ≤ 20 := by rw [← eg120_43]; exact ir_120_43 hI.2.1
  obtain ⟨g120_50, eg120_50⟩ : ∃ v, rd M0 120 50 = v := ⟨_, rfl⟩
  have bg120_50 : 0 ≤ g120_50 ∧ g120_50 ≤ 20 := by rw [← eg120_50]; exact ir_120_50 hI.2.1
  obtain ⟨g9001_0, eg9001_0⟩ : ∃ v, nb2v M0 = v := ⟨_, rfl⟩
  have bg9001_0 : 0 ≤ g9001_0 ∧ g9001_0 ≤ 1000000 := by rw [← eg9001_0]; exact (nb2v_b hI.2.1)
  obtain ⟨g9002_0, eg9002_0⟩ : ∃ v, n4v M0 = v := ⟨_, rfl⟩
  have bg9002_0 : 0 ≤ g9002_0 ∧ g9002_0 ≤ 20 := by rw [← eg9002_0]; exact (n4v_b hI.2.1)
  obtain ⟨g9005_0, eg9005_0⟩ : ∃ v, fr0 M0 = v := ⟨_, rfl⟩
  have bg9005_0 : 0 ≤ g9005_0 ∧ g9005_0 ≤ 5 := by rw [← eg9005_0]; exact (fr0_b hI.2.1)
  obtain ⟨g9003_0, eg9003_0⟩ : ∃ v, Dv0 M0 = v := ⟨_, rfl⟩
  have bg9003_0 : (-1000) ≤ g9003_0 ∧ g9003_0 ≤ 1000 := by rw [← eg9003_0]; exact (Dv0_b hI.2.1)
  obtain ⟨g136_0, eg136_0⟩ : ∃ v, rd M0 136 0 = v := ⟨_, rfl⟩
  have bg136_0 : 0 ≤ g136_0 ∧ g136_0 ≤ 200 := by rw [← eg136_0]; exact ir_136_0 hI.2.1
  replace hq0 := hd_i hq0
  replace hq2 := hd_i hq2
  refine Tr.aload_n (pc := 0) (i := 0) d_X12_operand_0 rfl rfl ?_
  refine Tr.getf (pc := 1) d_X12_operand_1 f_12_143 (by decide) (by decide) (ty_120 hS.1.1) ?_
  refine Tr.tp g120_43 eg120_43 ?_
  refine Tr.iconst (pc := 4) d_X12_operand_4 (by decide) ?_
  refine Tr.isub (pc := 5) d_X12_operand_5 ?_
  refine Tr.tp (g120_43 - 1) ((w32_id (by and_intros <;> omega)).trans (by omega)) ?_
  refine Tr.istore_n (pc := 6) (i := 1) (ls2 := [(1, (0, (g120_43 - 1))), (0, (2, 120))]) d_X12_operand_6 rfl (by decide) rfl ?_
  refine Tr.aload_n (pc := 7) (i := 0) d_X12_operand_7 rfl rfl ?_
  refine Tr.getf (pc := 8) d_X12_operand_8 f_12_127 (by decide) (by decide) (ty_120 hS.1.1) ?_
  refine Tr.tp 145 (fx_120_38 hS.1.1) ?_
  refine Tr.iload_n (pc := 11) (i := 1) d_X12_operand_11 rfl rfl ?_
  refine Tr.iald (pc := 12) d_X12_operand_12 (ty_145 hS.1.1) (by omega) (by omega) ?_
  refine Tr.gen (P := fun v => (0 ≤ v ∧ v ≤ 5) ∧ ((g120_43 - 1) ≠ 0 ∨ v = g9005_0)) (by have h9 := (ar_145 hS.1.2.1 ((g120_43 - 1))); have h8 : fr0 M0 = g9005_0 := eg9005_0; refine ⟨h9, ?_⟩; by_cases c : (g120_43 - 1) = 0; (refine Or.inr ?_; rw [c]; exact h8); exact Or.inl c) (fun r12 er12 br12 => ?_)
  have br12d0 := hd_i br12.2
  replace br12 := And.intro br12.1.1  (br12.1.2)
  refine Tr.callS (pc := 13) (as := [_]) d_X12_operand_13 s_12_481 ok_X12_isTest rfl rfl (Nat.le_of_ble_eq_true rfl) (Nat.le_of_ble_eq_true rfl) ?_
  refine Tr.imp (Tr.deep (by decide) (sp_X12_isTest hS.1.wk r12 (by and_intros <;> omega))) ?_
  rintro M13 _ ⟨h13, r13, rfl, lr13, ur13, wr13⟩
  have h13 := St.rn h13 (Pm0.of hS.1.2.2.2.2 (fun _ => (ka_X12_isTest_131 h13 _)) (fun _ => (ka_X12_isTest_137 h13 _)) (fun _ => (ka_X12_isTest_138 h13 _)) (fun _ => (ka_X12_isTest_139 h13 _)) (fun _ => (ka_X12_isTest_140 h13 _)) (fun _ => (ka_X12_isTest_141 h13 _)) (fun _ => (ka_X12_isTest_142 h13 _)) (fun _ => (ka_X12_isTest_143 h13 _)) (fun _ => (ka_X12_isTest_151 h13 _)) (fun _ => (ka_X12_isTest_152 h13 _)) (kp_X12_isTest_126_0 h13) (kp_X12_isTest_126_1 h13) (kp_X12_isTest_136_0 h13) (kp_X12_isTest_136_1 h13) (kp_X12_isTest_123_0 h13) (kp_X12_isTest_123_1 h13) (kp_X12_isTest_124_0 h13) (kp_X12_isTest_124_1 h13) (kp_X12_isTest_120_8 h13) (kp_X12_isTest_120_36 h13) (kp_X12_isTest_120_50 h13))
  have hS := St.tr hS h13 (by decide) (by decide)
  replace wr13 := hd_i wr13
  refine Tr.sc [(0, r13)] rfl ?_
  have J33 : ∀ (M : Mem) (q33_0 : Int), St Pm0 ws_X12_operand_120_w1 as_X12_operand_120_w1 M0 M → (0 ≤ q33_0 ∧ q33_0 ≤ 1) → rd M 120 3 = g120_3 → rd M 120 36 = g120_36 → rd M 120 4 = g120_4 → rd M 120 43 = g120_43 → rd M 120 44 = g120_44 → rd M 120 46 = g120_46 → rd M 120 5 = g120_5 → rd M 120 50 = g120_50 → rd M 120 6 = g120_6 → rd M 120 7 = g120_7 → rd M 120 8 = g120_8 → rd M 136 0 = g136_0 → rd M 145 (g120_43 - 1) = r12 → nb2v M = g9001_0 → n4v M = g9002_0 → Dv0 M = g9003_0 → fr0 M = g9005_0 → tav M = g9010_0 → (g120_3 = 0 ∨ g120_4 + 1 ≤ g120_5) → (g120_4 ≤ g120_5) → (g120_3 ≠ 1 ∨ g120_4 + 2 ≤ g120_5 ∨ g120_7 < 256) → (g120_4 ≤ g120_4 ∧ g120_5 ≤ g120_5 ∧ g9010_0 ≤ g9010_0) → (g120_8 = 0 ∨ g120_8 = g120_8) → Tr l K 3 mX12_operand 33 [(0, (2, 120)), (1, (0, (g120_43 - 1)))] [(0, q33_0)] M (q_X12_operand_120_w1 M0) := by
    intro M q33_0 hS bq33_0 k33_120_3 k33_120_36 k33_120_4 k33_120_43 k33_120_44 k33_120_46 k33_120_5 k33_120_50 k33_120_6 k33_120_7 k33_120_8 k33_136_0 k33_145_g120_431n1 k33_9001_0 k33_9002_0 k33_9003_0 k33_9005_0 k33_9010_0 t33_0 t33_1 t33_2 t33_3 t33_4
    clear er12
    replace t33_0 := hd_i t33_0
    replace t33_2 := hd_i t33_2
    replace t33_4 := hd_i t33_4
    refine Tr.istore_n (pc := 33) (i := 2) (ls2 := [(2, (0, q33_0)), (0, (2, 120)), (1, (0, (g120_43 - 1)))]) d_X12_operand_33 rfl (by decide) rfl ?_
    refine Tr.iload_n (pc := 34) (i := 2) d_X12_operand_34 rfl rfl ?_
    have J60 : ∀ (M : Mem), St Pm0 ws_X12_operand_120_w1 as_X12_operand_120_w1 M0 M → rd M 120 3 = g120_3 → rd M 120 36 = g120_36 → rd M 120 4 = g120_4 → rd M 120 43 = g120_43 → rd M 120 44 = g120_44 → rd M 120 46 = g120_46 → rd M 120 5 = g120_5 → rd M 120 50 = g120_50 → rd M 120 6 = g120_6 → rd M 120 7 = g120_7 → rd M 120 8 = g120_8 → rd M 136 0 = g136_0 → rd M 145 (g120_43 - 1) = r12 → nb2v M = g9001_0 → n4v M = g9002_0 → Dv0 M = g9003_0 → fr0 M = g9005_0 → tav M = g9010_0 → (g120_3 = 0 ∨ g120_4 + 1 ≤ g120_5) → (g120_4 ≤ g120_5) → (g120_3 ≠ 1 ∨ g120_4 + 2 ≤ g120_5 ∨ g120_7 < 256) → (g120_4 ≤ g120_4 ∧ g120_5 ≤ g120_5 ∧ g9010_0 ≤ g9010_0) → (g120_8 = 0 ∨ g120_8 = g120_8) → Tr l K 3 mX12_operand 60 [(0, (2, 120)), (1, (0, (g120_43 - 1))), (2, (0, q33_0))] [] M (q_X12_operand_120_w1 M0) := by
      intro M  hS  k60_120_3 k60_120_36 k60_120_4 k60_120_43 k60_120_44 k60_120_46 k60_120_5 k60_120_50 k60_120_6 k60_120_7 k60_120_8 k60_136_0 k60_145_g120_431n1 k60_9001_0 k60_9002_0 k60_9003_0 k60_9005_0 k60_9010_0 t60_0 t60_1 t60_2 t60_3 t60_4
      clear k33_120_3 k33_120_36 k33_120_4 k33_120_43 k33_120_44 k33_120_46 k33_120_5 k33_120_50 k33_120_6 k33_120_7 k33_120_8 k33_136_0 k33_145_g120_431n1 k33_9001_0 k33_9002_0 k33_9003_0 k33_9005_0 k33_9010_0
      replace t60_0 := hd_i t60_0
      replace t60_2 := hd_i t60_2
      replace t60_4 := hd_i t60_4
      refine Tr.aload_n (pc := 60) (i := 0) d_X12_operand_60 rfl rfl ?_
      refine Tr.getf (pc := 61) d_X12_operand_61 f_12_133 (by decide) (by decide) (ty_120 hS.1.1) ?_
      refine Tr.tp 147 (fx_120_40 hS.1.1) ?_
      refine Tr.iload_n (pc := 64) (i := 1) d_X12_operand_64 rfl rfl ?_
      refine Tr.iconst (pc := 65) d_X12_operand_65 (by decide) ?_
      refine Tr.zastS (pc := 66) (P := St Pm0 ws_X12_operand_120_w1 as_X12_operand_120_w1 M0) d_X12_operand_66 (ty_147 hS.1.1) (by omega) (by omega) (by omega) (sa_147 hS (by decide) (by omega) (Pm0.of hS.1.2.2.2.2 (fun _ => rd_wb _ rfl) (fun _ => rd_wb _ rfl) (fun _ => rd_wb _ rfl) (fun _ => rd_wb _ rfl) (fun _ => rd_wb _ rfl) (fun _ => rd_wb _ rfl) (fun _ => rd_wb _ rfl) (fun _ => rd_wb _ rfl) (fun _ => rd_wb _ rfl) (fun _ => rd_wb _ rfl) (rd_wb _ rfl) (rd_wb _ rfl) (rd_wb _ rfl) (rd_wb _ rfl) (rd_wb _ rfl) (rd_wb _ rfl) (rd_wb _ rfl) (rd_wb _ rfl) (rd_wb _ rfl) (rd_wb _ rfl) (rd_wb _ rfl))) (fun M66 hS w66 => ?_)
      refine Tr.iload_n (pc := 67) (i := 2) d_X12_operand_67 rfl rfl ?_
      have J87 : ∀ (M : Mem), St Pm0 ws_X12_operand_120_w1 as_X12_operand_120_w1 M0 M → rd M 120 3 = g120_3 → rd M 120 36 = g120_36 → rd M 120 4 = g120_4 → rd M 120 43 = g120_43 → rd M 120 44 = g120_44 → rd M 120 46 = g120_46 → rd M 120 5 = g120_5 → rd M 120 50 = g120_50 → rd M 120 6 = g120_6 → rd M 120 7 = g120_7 → rd M 120 8 = g120_8 → rd M 136 0 = g136_0 → rd M 145 (g120_43 - 1) = r12 → rd M 147 (g120_43 - 1) = 0 → nb2v M = g9001_0 → n4v M = g9002_0 → Dv0 M = g9003_0 → fr0 M = g9005_0 → tav M = g9010_0 → (g120_3 = 0 ∨ g120_4 + 1 ≤ g120_5) → (g120_4 ≤ g120_5) → (g120_3 ≠ 1 ∨ g120_4 + 2 ≤ g120_5 ∨ g120_7 < 256) → (g120_4 ≤ g120_4 ∧ g120_5 ≤ g120_5 ∧ g9010_0 ≤ g9010_0) → (g120_8 = 0 ∨ g120_8 = g120_8) → Tr l K 3 mX12_operand 87 [(0, (2, 120)), (1, (0, (g120_43 - 1))), (2, (0, q33_0))] [] M (q_X12_operand_120_w1 M0) := by
        intro M  hS  k87_120_3 k87_120_36 k87_120_4 k87_120_43 k87_120_44 k87_120_46 k87_120_5 k87_120_50 k87_120_6 k87_120_7 k87_120_8 k87_136_0 k87_145_g120_431n1 k87_147_g120_431n1 k87_9001_0 k87_9002_0 k87_9003_0 k87_9005_0 k87_9010_0 t87_0 t87_1 t87_2 t87_3 t87_4
        clear k60_120_3 k60_120_36 k60_120_4 k60_120_43 k60_120_44 k60_120_46 k60_120_5 k60_120_50 k60_120_6 k60_120_7 k60_120_8 k60_136_0 k60_145_g120_431n1 k60_9001_0 k60_9002_0 k60_9003_0 k60_9005_0 k60_9010_0 w66
        replace t87_0 := hd_i t87_0
        replace t87_2 := hd_i t87_2
        replace t87_4 := hd_i t87_4
        refine Tr.iload_n (pc := 87) (i := 2) d_X12_operand_87 rfl rfl ?_
        have J120 : ∀ (M : Mem), St Pm0 ws_X12_operand_120_w1 as_X12_operand_120_w1 M0 M → rd M 120 3 = g120_3 → rd M 120 36 = g120_36 → rd M 120 4 = g120_4 → rd M 120 43 = g120_43 → rd M 120 44 = g120_44 → rd M 120 46 = g120_46 → rd M 120 5 = g120_5 → rd M 120 50 = g120_50 → rd M 120 6 = g120_6 → rd M 120 7 = g120_7 → rd M 120 8 = g120_8 → rd M 136 0 = g136_0 → rd M 145 (g120_43 - 1) = r12 → rd M 147 (g120_43 - 1) = 0 → nb2v M = g9001_0 → n4v M = g9002_0 → Dv0 M = g9003_0 → fr0 M = g9005_0 → tav M = g9010_0 → (g120_3 = 0 ∨ g120_4 + 1 ≤ g120_5) → (g120_4 ≤ g120_5) → (g120_3 ≠ 1 ∨ g120_4 + 2 ≤ g120_5 ∨ g120_7 < 256) → (g120_4 ≤ g120_4 ∧ g120_5 ≤ g120_5 ∧ g9010_0 ≤ g9010_0) → (g120_8 = 0 ∨ g120_8 = g120_8) → Tr l K 3 mX12_operand 120 [(0, (2, 120)), (1, (0, (g120_43 - 1))), (2, (0, q33_0))] [] M (q_X12_operand_120_w1 M0) := by
          intro M  hS  k120_120_3 k120_120_36 k120_120_4 k120_120_43 k120_120_44 k120_120_46 k120_120_5 k120_120_50 k120_120_6 k120_120_7 k120_120_8 k120_136_0 k120_145_g120_431n1 k120_147_g120_431n1 k120_9001_0 k120_9002_0 k120_9003_0 k120_9005_0 k120_9010_0 t120_0 t120_1 t120_2 t120_3 t120_4
          clear k87_120_3 k87_120_36 k87_120_4 k87_120_43 k87_120_44 k87_120_46 k87_120_5 k87_120_50 k87_120_6 k87_120_7 k87_120_8 k87_136_0 k87_145_g120_431n1 k87_147_g120_431n1 k87_9001_0 k87_9002_0 k87_9003_0 k87_9005_0 k87_9010_0
          replace t120_0 := hd_i t120_0
          replace t120_2 := hd_i t120_2
          replace t120_4 := hd_i t120_4
          refine Tr.iload_n (pc := 120) (i := 2) d_X12_operand_120 rfl rfl ?_
          have J166 : ∀ (M : Mem), St Pm0 ws_X12_operand_120_w1 as_X12_operand_120_w1 M0 M → rd M 120 3 = g120_3 → rd M 120 36 = g120_36 → rd M 120 4 = g120_4 → rd M 120 43 = g120_43 → rd M 120 44 = g120_44 → rd M 120 46 = g120_46 → rd M 120 5 = g120_5 → rd M 120 50 = g120_50 → rd M 120 6 = g120_6 → rd M 120 7 = g120_7 → rd M 120 8 = g120_8 → rd M 136 0 = g136_0 → rd M 145 (g120_43 - 1) = r12 → rd M 147 (g120_43 - 1) = 0 → nb2v M = g9001_0 → n4v M = g9002_0 → Dv0 M = g9003_0 → fr0 M = g9005_0 → tav M = g9010_0 → (g120_3 = 0 ∨ g120_4 + 1 ≤ g120_5) → (g120_4 ≤ g120_5) → (g120_3 ≠ 1 ∨ g120_4 + 2 ≤ g120_5 ∨ g120_7 < 256) → (g120_4 ≤ g120_4 ∧ g120_5 ≤ g120_5 ∧ g9010_0 ≤ g9010_0) → (g120_8 = 0 ∨ g120_8 = g120_8) → Tr l K 3 mX12_operand 166 [(0, (2, 120))] [] M (q_X12_operand_120_w1 M0) := by
            intro M  hS  k166_120_3 k166_120_36 k166_120_4 k166_120_43 k166_120_44 k166_120_46 k166_120_5 k166_120_50 k166_120_6 k166_120_7 k166_120_8 k166_136_0 k166_145_g120_431n1 k166_147_g120_431n1 k166_9001_0 k166_9002_0 k166_9003_0 k166_9005_0 k166_9010_0 t166_0 t166_1 t166_2 t166_3 t166_4
            clear k120_120_3 k120_120_36 k120_120_4 k120_120_43 k120_120_44 k120_120_46 k120_120_5 k120_120_50 k120_120_6 k120_120_7 k120_120_8 k120_136_0 k120_145_g120_431n1 k120_147_g120_431n1 k120_9001_0 k120_9002_0 k120_9003_0 k120_9005_0 k120_9010_0
            replace t166_0 := hd_i t166_0
            replace t166_2 := hd_i t166_2
            replace t166_4 := hd_i t166_4
            refine Tr.aload_n (pc := 166) (i := 0) d_X12_operand_166 rfl rfl ?_
            refine Tr.bipush (pc := 167) d_X12_operand_167 rfl (by decide) ?_
            refine Tr.callV (pc := 169) (as := [_]) d_X12_operand_169 s_12_393 ok_X12_isSign rfl rfl (Nat.le_of_ble_eq_true rfl) (Nat.le_of_ble_eq_true rfl) (by decide) (ty_120 hS.1.1) ?_
            refine Tr.imp (Tr.deep (by decide) (ns_X12_isSign_120 (G120_3 := g120_3) (G120_6 := g120_6) hS.1.wk (k166_120_3) (k166_120_6) 40 (by omega))) ?_
            rintro M169 _ ⟨h169, r169, rfl, lr169, ur169, z169_0⟩
            have h169 := St.rn h169 (Pm0.of hS.1.2.2.2.2 (fun _ => (ka_X12_isSign_120_131 h169 _)) (fun _ => (ka_X12_isSign_120_137 h169 _)) (fun _ => (ka_X12_isSign_120_138 h169 _)) (fun _ => (ka_X12_isSign_120_139 h169 _)) (fun _ => (ka_X12_isSign_120_140 h169 _)) (fun _ => (ka_X12_isSign_120_141 h169 _)) (fun _ => (ka_X12_isSign_120_142 h169 _)) (fun _ => (ka_X12_isSign_120_143 h169 _)) (fun _ => (ka_X12_isSign_120_151 h169 _)) (fun _ => (ka_X12_isSign_120_152 h169 _)) (kp_X12_isSign_120_126_0 h169) (kp_X12_isSign_120_126_1 h169) (kp_X12_isSign_120_136_0 h169) (kp_X12_isSign_120_136_1 h169) (kp_X12_isSign_120_123_0 h169) (kp_X12_isSign_120_123_1 h169) (kp_X12_isSign_120_124_0 h169) (kp_X12_isSign_120_124_1 h169) (kp_X12_isSign_120_120_8 h169) (kp_X12_isSign_120_120_36 h169) (kp_X12_isSign_120_120_50 h169))
            have hS := St.tr hS h169 (by decide) (by decide)
            refine Tr.sc [(0, r169)] rfl ?_
            refine Tr.if_eq (pc := 172) (tgt := 182) d_X12_operand_172 rfl (fun c172 => ?_) (fun c172 => ?_)
            · refine Tr.aload_n (pc := 182) (i := 0) d_X12_operand_182 rfl rfl ?_
              refine Tr.ldc2 (pc := 183) d_X12_operand_183 kl_12_449 (by decide) ?_
              refine Tr.callV (pc := 186) (as := [_]) d_X12_operand_186 s_12_484 ok_X12_isWord rfl rfl (Nat.le_of_ble_eq_true rfl) (Nat.le_of_ble_eq_true rfl) (by decide) (ty_120 hS.1.1) ?_
              refine Tr.imp (Tr.deep (by decide) (ns_X12_isWord_120 (G120_3 := g120_3) (G120_7 := g120_7) hS.1.wk (((kp_X12_isSign_120_120_3 h169).trans k166_120_3)) (((kp_X12_isSign_120_120_7 h169).trans k166_120_7)) 7170414 (by omega))) ?_
              rintro M186 _ ⟨h186, r186, rfl, lr186, ur186, z186_0⟩
              have h186 := St.rn h186 (Pm0.of hS.1.2.2.2.2 (fun _ => (ka_X12_isWord_120_131 h186 _)) (fun _ => (ka_X12_isWord_120_137 h186 _)) (fun _ => (ka_X12_isWord_120_138 h186 _)) (fun _ => (ka_X12_isWord_120_139 h186 _)) (fun _ => (ka_X12_isWord_120_140 h186 _)) (fun _ => (ka_X12_isWord_120_141 h186 _)) (fun _ => (ka_X12_isWord_120_142 h186 _)) (fun _ => (ka_X12_isWord_120_143 h186 _)) (fun _ => (ka_X12_isWord_120_151 h186 _)) (fun _ => (ka_X12_isWord_120_152 h186 _)) (kp_X12_isWord_120_126_0 h186) (kp_X12_isWord_120_126_1 h186) (kp_X12_isWord_120_136_0 h186) (kp_X12_isWord_120_136_1 h186) (kp_X12_isWord_120_123_0 h186) (kp_X12_isWord_120_123_1 h186) (kp_X12_isWord_120_124_0 h186) (kp_X12_isWord_120_124_1 h186) (kp_X12_isWord_120_120_8 h186) (kp_X12_isWord_120_120_36 h186) (kp_X12_isWord_120_120_50 h186))
              have hS := St.tr hS h186 (by decide) (by decide)
              refine Tr.sc [(0, r186)] rfl ?_
              have J202 : ∀ (M : Mem), St Pm0 ws_X12_operand_120_w1 as_X12_operand_120_w1 M0 M → rd M 120 3 = g120_3 → rd M 120 36 = g120_36 → rd M 120 4 = g120_4 → rd M 120 43 = g120_43 → rd M 120 44 = g120_44 → rd M 120 46 = g120_46 → rd M 120 5 = g120_5 → rd M 120 50 = g120_50 → rd M 120 6 = g120_6 → rd M 120 7 = g120_7 → rd M 120 8 = g120_8 → rd M 136 0 = g136_0 → rd M 145 (g120_43 - 1) = r12 → rd M 147 (g120_43 - 1) = 0 → nb2v M = g9001_0 → n4v M = g9002_0 → Dv0 M = g9003_0 → fr0 M = g9005_0 → tav M = g9010_0 → (g120_3 = 1) → Tr l K 3 mX12_operand 202 [(0, (2, 120))] [] M (q_X12_operand_120_w1 M0) := by
                intro M  hS  k202_120_3 k202_120_36 k202_120_4 k202_120_43 k202_120_44 k202_120_46 k202_120_5 k202_120_50 k202_120_6 k202_120_7 k202_120_8 k202_136_0 k202_145_g120_431n1 k202_147_g120_431n1 k202_9001_0 k202_9002_0 k202_9003_0 k202_9005_0 k202_9010_0 t202_0
                clear k166_120_3 k166_120_36 k166_120_4 k166_120_43 k166_120_44 k166_120_46 k166_120_5 k166_120_50 k166_120_6 k166_120_7 k166_120_8 k166_136_0 k166_145_g120_431n1 k166_147_g120_431n1 k166_9001_0 k166_9002_0 k166_9003_0 k166_9005_0 k166_9010_0
                refine Tr.aload_n (pc := 202) (i := 0) d_X12_operand_202 rfl rfl ?_
                refine Tr.ldc2 (pc := 203) d_X12_operand_203 kl_12_449 (by decide) ?_
                refine Tr.callV (pc := 206) (as := [_]) d_X12_operand_206 s_12_484 ok_X12_isWord rfl rfl (Nat.le_of_ble_eq_true rfl) (Nat.le_of_ble_eq_true rfl) (by decide) (ty_120 hS.1.1) ?_
                refine Tr.imp (Tr.deep (by decide) (ns_X12_isWord_120 (G120_3 := g120_3) (G120_7 := g120_7) hS.1.wk (k202_120_3) (k202_120_7) 7170414 (by omega))) ?_
                rintro M206 _ ⟨h206, r206, rfl, lr206, ur206, z206_0⟩
                have h206 := St.rn h206 (Pm0.of hS.1.2.2.2.2 (fun _ => (ka_X12_isWord_120_131 h206 _)) (fun _ => (ka_X12_isWord_120_137 h206 _)) (fun _ => (ka_X12_isWord_120_138 h206 _)) (fun _ => (ka_X12_isWord_120_139 h206 _)) (fun _ => (ka_X12_isWord_120_140 h206 _)) (fun _ => (ka_X12_isWord_120_141 h206 _)) (fun _ => (ka_X12_isWord_120_142 h206 _)) (fun _ => (ka_X12_isWord_120_143 h206 _)) (fun _ => (ka_X12_isWord_120_151 h206 _)) (fun _ => (ka_X12_isWord_120_152 h206 _)) (kp_X12_isWord_120_126_0 h206) (kp_X12_isWord_120_126_1 h206) (kp_X12_isWord_120_136_0 h206) (kp_X12_isWord_120_136_1 h206) (kp_X12_isWord_120_123_0 h206) (kp_X12_isWord_120_123_1 h206) (kp_X12_isWord_120_124_0 h206) (kp_X12_isWord_120_124_1 h206) (kp_X12_isWord_120_120_8 h206) (kp_X12_isWord_120_120_36 h206) (kp_X12_isWord_120_120_50 h206))
                have hS := St.tr hS h206 (by decide) (by decide)
                refine Tr.sc [(0, r206)] rfl ?_
                have J219 : ∀ (M : Mem) (q219_0 : Int), St Pm0 ws_X12_operand_120_w1 as_X12_operand_120_w1 M0 M → (11 ≤ q219_0 ∧ q219_0 ≤ 12) → rd M 120 3 = g120_3 → rd M 120 36 = g120_36 → rd M 120 4 = g120_4 → rd M 120 43 = g120_43 → rd M 120 44 = g120_44 → rd M 120 46 = g120_46 → rd M 120 5 = g120_5 → rd M 120 50 = g120_50 → rd M 120 6 = g120_6 → rd M 120 7 = g120_7 → rd M 120 8 = g120_8 → rd M 136 0 = g136_0 → rd M 145 (g120_43 - 1) = r12 → rd M 147 (g120_43 - 1) = 0 → nb2v M = g9001_0 → n4v M = g9002_0 → Dv0 M = g9003_0 → fr0 M = g9005_0 → tav M = g9010_0 → (g120_3 = 0 ∨ g120_4 + 1 ≤ g120_5) → (g120_4 ≤ g120_5) → (g120_3 ≠ 1 ∨ g120_4 + 2 ≤ g120_5 ∨ g120_7 < 256) → (g120_4 ≤ g120_4 ∧ g120_5 ≤ g120_5 ∧ g9010_0 ≤ g9010_0) → (g120_8 = 0 ∨ g120_8 = g120_8) → Tr l K 3 mX12_operand 219 [(0, (2, 120))] [(0, q219_0)] M (q_X12_operand_120_w1 M0) := by
                  intro M q219_0 hS bq219_0 k219_120_3 k219_120_36 k219_120_4 k219_120_43 k219_120_44 k219_120_46 k219_120_5 k219_120_50 k219_120_6 k219_120_7 k219_120_8 k219_136_0 k219_145_g120_431n1 k219_147_g120_431n1 k219_9001_0 k219_9002_0 k219_9003_0 k219_9005_0 k219_9010_0 t219_0 t219_1 t219_2 t219_3 t219_4
                  clear k202_120_3 k202_120_36 k202_120_4 k202_120_43 k202_120_44 k202_120_46 k202_120_5 k202_120_50 k202_120_6 k202_120_7 k202_120_8 k202_136_0 k202_145_g120_431n1 k202_147_g120_431n1 k202_9001_0 k202_9002_0 k202_9003_0 k202_9005_0 k202_9010_0
                  replace t219_0 := hd_i t219_0
                  replace t219_2 := hd_i t219_2
                  replace t219_4 := hd_i t219_4
                  refine Tr.istore_n (pc := 219) (i := 3) (ls2 := [(3, (0, q219_0)), (0, (2, 120))]) d_X12_operand_219 rfl (by decide) rfl ?_
                  refine Tr.aload_n (pc := 220) (i := 0) d_X12_operand_220 rfl rfl ?_
                  refine Tr.callV (pc := 221) (as := []) d_X12_operand_221 s_12_396 ok_X12_next rfl rfl (Nat.le_of_ble_eq_true rfl) (Nat.le_of_ble_eq_true rfl) (by decide) (ty_120 hS.1.1) ?_
                  refine Tr.imp (Tr.deep (by decide) (ns_X12_next_120_w1 (G120_3 := g120_3) (G120_5 := g120_5) (G120_8 := g120_8) (G9010_0 := g9010_0) hS.1 (k219_120_3) (k219_120_5) (k219_120_8) (k219_9010_0))) ?_
                  rintro M221 _ ⟨h221, s221_120_3, s221_120_4, s221_120_5, s221_120_7, s221_120_8, s221_9010_0, es221_120_3, bs221_120_3, es221_120_4, bs221_120_4, es221_120_5, bs221_120_5, es221_120_7, bs221_120_7, es221_120_8, bs221_120_8, es221_9010_0, bs221_9010_0, rfl, z221_0, z221_1, z221_2, z221_3, z221_4, z221_5, z221_6⟩
                  have hS := St.tr hS h221 (by decide) (by decide)
                  refine Tr.sc [] rfl ?_
                  refine Tr.aload_n (pc := 224) (i := 0) d_X12_operand_224 rfl rfl ?_
                  refine Tr.bipush (pc := 225) d_X12_operand_225 rfl (by decide) ?_
                  refine Tr.callV (pc := 227) (as := [_]) d_X12_operand_227 s_12_393 ok_X12_isSign rfl rfl (Nat.le_of_ble_eq_true rfl) (Nat.le_of_ble_eq_true rfl) (by decide) (ty_120 hS.1.1) ?_
                  obtain ⟨w227_120_6, ew227_120_6⟩ : ∃ v, rd M221 120 6 = v := ⟨_, rfl⟩
                  have bw227_120_6 : (-2147483648) ≤ w227_120_6 ∧ w227_120_6 ≤ 2147483647 := by rw [← ew227_120_6]; exact ir_120_6 hS.1.2.1
                  refine Tr.imp (Tr.deep (by decide) (ns_X12_isSign_120 (G120_3 := s221_120_3) (G120_6 := w227_120_6) hS.1.wk (es221_120_3) (ew227_120_6) 40 (by omega))) ?_
                  rintro M227 _ ⟨h227, r227, rfl, lr227, ur227, z227_0⟩
                  have h227 := St.rn h227 (Pm0.of hS.1.2.2.2.2 (fun _ => (ka_X12_isSign_120_131 h227 _)) (fun _ => (ka_X12_isSign_120_137 h227 _)) (fun _ => (ka_X12_isSign_120_138 h227 _)) (fun _ => (ka_X12_isSign_120_139 h227 _)) (fun _ => (ka_X12_isSign_120_140 h227 _)) (fun _ => (ka_X12_isSign_120_141 h227 _)) (fun _ => (ka_X12_isSign_120_142 h227 _)) (fun _ => (ka_X12_isSign_120_143 h227 _)) (fun _ => (ka_X12_isSign_120_151 h227 _)) (fun _ => (ka_X12_isSign_120_152 h227 _)) (kp_X12_isSign_120_126_0 h227) (kp_X12_isSign_120_126_1 h227) (kp_X12_isSign_120_136_0 h227) (kp_X12_isSign_120_136_1 h227) (kp_X12_isSign_120_123_0 h227) (kp_X12_isSign_120_123_1 h227) (kp_X12_isSign_120_124_0 h227) (kp_X12_isSign_120_124_1 h227) (kp_X12_isSign_120_120_8 h227) (kp_X12_isSign_120_120_36 h227) (kp_X12_isSign_120_120_50 h227))
                  have hS := St.tr hS h227 (by decide) (by decide)
                  refine Tr.sc [(0, r227)] rfl ?_
                  have J242 : ∀ (M : Mem) (u242_120_8 : Int), St Pm0 ws_X12_operand_120_w1 as_X12_operand_120_w1 M0 M → (0 ≤ u242_120_8 ∧ u242_120_8 ≤ 5) → rd M 120 3 = s221_120_3 → rd M 120 36 = g120_36 → rd M 120 4 = s221_120_4 → rd M 120 43 = g120_43 → rd M 120 44 = g120_44 → rd M 120 46 = g120_46 → rd M 120 5 = s221_120_5 → rd M 120 50 = g120_50 → rd M 120 6 = w227_120_6 → rd M 120 7 = s221_120_7 → rd M 120 8 = u242_120_8 → rd M 136 0 = g136_0 → rd M 145 (g120_43 - 1) = r12 → rd M 147 (g120_43 - 1) = 0 → nb2v M = g9001_0 → n4v M = g9002_0 → Dv0 M = g9003_0 → fr0 M = g9005_0 → tav M = s221_9010_0 → (1 ≤ u242_120_8 ∨ s221_120_3 ≠ 0) → (g120_8 = 0 ∨ u242_120_8 = g120_8) → Tr l K 3 mX12_operand 242 [(0, (2, 120)), (3, (0, q219_0))] [] M (q_X12_operand_120_w1 M0) := by
                    intro M u242_120_8 hS bu242_120_8 k242_120_3 k242_120_36 k242_120_4 k242_120_43 k242_120_44 k242_120_46 k242_120_5 k242_120_50 k242_120_6 k242_120_7 k242_120_8 k242_136_0 k242_145_g120_431n1 k242_147_g120_431n1 k242_9001_0 k242_9002_0 k242_9003_0 k242_9005_0 k242_9010_0 t242_0 t242_1
                    clear k219_120_3 k219_120_36 k219_120_4 k219_120_43 k219_120_44 k219_120_46 k219_120_5 k219_120_50 k219_120_6 k219_120_7 k219_120_8 k219_136_0 k219_145_g120_431n1 k219_147_g120_431n1 k219_9001_0 k219_9002_0 k219_9003_0 k219_9005_0 k219_9010_0 es221_120_3 es221_120_4 es221_120_5 es221_120_7 es221_120_8 es221_9010_0 ew227_120_6
                    replace t242_0 := hd_i t242_0
                    replace t242_1 := hd_i t242_1
                    refine Tr.aload_n (pc := 242) (i := 0) d_X12_operand_242 rfl rfl ?_
                    refine Tr.iconst (pc := 243) d_X12_operand_243 (by decide) ?_
                    refine Tr.callV (pc := 244) (as := [_]) d_X12_operand_244 s_12_490 ok_X12_opens rfl rfl (Nat.le_of_ble_eq_true rfl) (Nat.le_of_ble_eq_true rfl) (by decide) (ty_120 hS.1.1) ?_
                    refine Tr.imp (Tr.deep (by decide) (ns_X12_opens_120_w1 (G120_3 := s221_120_3) (G120_4 := s221_120_4) (G120_5 := s221_120_5) (G120_7 := s221_120_7) (G120_8 := u242_120_8) (G120_43 := g120_43) (G120_44 := g120_44) (G9002_0 := g9002_0) (G9005_0 := g9005_0) (G9010_0 := s221_9010_0) hS.1 (k242_120_3) (k242_120_4) (k242_120_5) (k242_120_7) (k242_120_8) (k242_120_43) (k242_120_44) (k242_9002_0) (k242_9005_0) (k242_9010_0) 3 (by omega) (by first | exact (hd_o z221_0) | exact (hd_o z221_0).elim (fun h1 => by omega) (fun h1 => by omega)) (by omega) (by first | exact (hd_o z221_2) | exact (hd_o z221_2).elim (fun h1 => by omega) (fun h1 => h1.elim (fun h1 => by omega) (fun h1 => by omega))) (by and_intros <;> omega) (by exact (hd_o t242_0).elim (fun h1 => by omega) (fun h1 => (ne_o h1).elim (fun h2 => by omega) (fun h2 => by omega))) (by omega) (by omega))) ?_
                    rintro M244 _ ⟨h244, s244_120_3, s244_120_4, s244_120_5, s244_120_7, s244_120_8, s244_120_43, s244_120_44, s244_9002_0, s244_9005_0, s244_9010_0, es244_120_3, bs244_120_3, es244_120_4, bs244_120_4, es244_120_5, bs244_120_5, es244_120_7, bs244_120_7, es244_120_8, bs244_120_8, es244_120_43, bs244_120_43, es244_120_44, bs244_120_44, es244_9002_0, bs244_9002_0, es244_9005_0, bs244_9005_0, es244_9010_0, bs244_9010_0, rfl, z244_0, z244_1, z244_2, z244_3, z244_4, z244_5, z244_6, z244_7, z244_8, z244_9, z244_10⟩
                    have hS := St.tr hS h244 (by decide) (by decide)
                    refine Tr.sc [] rfl ?_
                    refine Tr.aload_n (pc := 247) (i := 0) d_X12_operand_247 rfl rfl ?_
                    refine Tr.getf (pc := 248) d_X12_operand_248 f_12_36 (by decide) (by decide) (ty_120 hS.1.1) ?_
                    refine Tr.tp s244_120_8 es244_120_8 ?_
                    refine Tr.if_ne (pc := 251) (tgt := 266) d_X12_operand_251 rfl (fun c251 => ?_) (fun c251 => ?_)
                    · have c251b : 1 ≤ s244_120_8 ∧ s244_120_8 ≤ 5 := by omega
                      replace c251 := hd_i c251
                      refine Tr.iconst (pc := 266) d_X12_operand_266 (by decide) ?_
                      have kr_120_3 : rd M244 120 3 = s244_120_3 := es244_120_3
                      have kr_120_4 : rd M244 120 4 = s244_120_4 := es244_120_4
                      have kr_120_5 : rd M244 120 5 = s244_120_5 := es244_120_5
                      have kr_120_7 : rd M244 120 7 = s244_120_7 := es244_120_7
                      have kr_120_8 : rd M244 120 8 = s244_120_8 := es244_120_8
                      have kr_120_36 : rd M244 120 36 = g120_36 := ((kp_X12_opens_120_w1_120_36 h244).trans k242_120_36)
                      have kr_120_43 : rd M244 120 43 = s244_120_43 := es244_120_43
                      have kr_120_44 : rd M244 120 44 = s244_120_44 := es244_120_44
                      have kr_120_46 : rd M244 120 46 = g120_46 := ((kp_X12_opens_120_w1_120_46 h244).trans k242_120_46)
                      have kr_120_50 : rd M244 120 50 = g120_50 := ((kp_X12_opens_120_w1_120_50 h244).trans k242_120_50)
                      have kr_136_0 : rd M244 136 0 = g136_0 := ((kp_X12_opens_120_w1_136_0 h244).trans k242_136_0)
                      have kr_9001_0 : nb2v M244 = g9001_0 := ((nb2v_of (fun j => ((ka_X12_opens_120_w1_150 h244 _).trans rfl)) ((kp_X12_opens_120_w1_120_46 h244).trans rfl)).trans k242_9001_0)
                      have kr_9002_0 : n4v M244 = s244_9002_0 := es244_9002_0
                      have kr_9003_0 : Dv0 M244 = g9003_0 := ((Dv0_of (fun j => ((ka_X12_opens_120_w1_143 h244 _).trans rfl)) (fun j => ((ka_X12_opens_120_w1_140 h244 _).trans rfl)) ((kp_X12_opens_120_w1_136_0 h244).trans rfl) ((kp_X12_opens_120_w1_120_36 h244).trans rfl)).trans k242_9003_0)
                      have kr_9005_0 : fr0 M244 = s244_9005_0 := es244_9005_0
                      have kr_9010_0 : tav M244 = s244_9010_0 := es244_9010_0
                      exact Tr.zret (pc := 267) d_X12_operand_267 rfl (by omega) ⟨hS, _, rfl, by omega, by omega, (by first | exact (hd_o z244_0) | exact (hd_o z244_0).elim (fun h1 => by omega) (fun h1 => by omega)), (by omega), (by first | exact (hd_o z244_2) | exact (hd_o z244_2).elim (fun h1 => by omega) (fun h1 => h1.elim (fun h1 => by omega) (fun h1 => by omega))), (by and_intros <;> omega), (by omega), (by omega), (by exact (hd_o t219_0).elim (fun h1 => by omega) (fun h1 => by omega)), (by omega), (by omega), (by omega), (by omega), (by omega), (by omega)⟩
                    · refine Tr.aload_n (pc := 254) (i := 0) d_X12_operand_254 rfl rfl ?_
                      refine Tr.getf (pc := 255) d_X12_operand_255 f_12_137 (by decide) (by decide) (ty_120 hS.1.1) ?_
                      refine Tr.tp 148 (fx_120_41 hS.1.1) ?_
                      refine Tr.aload_n (pc := 258) (i := 0) d_X12_operand_258 rfl rfl ?_
                      refine Tr.getf (pc := 259) d_X12_operand_259 f_12_143 (by decide) (by decide) (ty_120 hS.1.1) ?_
                      refine Tr.tp s244_120_43 es244_120_43 ?_
                      refine Tr.iconst (pc := 262) d_X12_operand_262 (by decide) ?_
                      refine Tr.isub (pc := 263) d_X12_operand_263 ?_
                      refine Tr.tp (s244_120_43 - 1) ((w32_id (by and_intros <;> omega)).trans (by omega)) ?_
                      refine Tr.iload_n (pc := 264) (i := 3) d_X12_operand_264 rfl rfl ?_
                      refine Tr.iastS (pc := 265) (P := St Pm0 ws_X12_operand_120_w1 as_X12_operand_120_w1 M0) d_X12_operand_265 (ty_148 hS.1.1) (by omega) (by omega) (sa_148 hS (by decide) (by and_intros <;> omega) (Pm0.of hS.1.2.2.2.2 (fun _ => rd_wb _ rfl) (fun _ => rd_wb _ rfl) (fun _ => rd_wb _ rfl) (fun _ => rd_wb _ rfl) (fun _ => rd_wb _ rfl) (fun _ => rd_wb _ rfl) (fun _ => rd_wb _ rfl) (fun _ => rd_wb _ rfl) (fun _ => rd_wb _ rfl) (fun _ => rd_wb _ rfl) (rd_wb _ rfl) (rd_wb _ rfl) (rd_wb _ rfl) (rd_wb _ rfl) (rd_wb _ rfl) (rd_wb _ rfl) (rd_wb _ rfl) (rd_wb _ rfl) (rd_wb _ rfl) (rd_wb _ rfl) (rd_wb _ rfl))) (fun M265 hS w265 => ?_)
                      refine Tr.iconst (pc := 266) d_X12_operand_266 (by decide) ?_
                      have kr_120_3 : rd M265 120 3 = s244_120_3 := ((Wr.b w265 rfl).trans es244_120_3)
                      have kr_120_4 : rd M265 120 4 = s244_120_4 := ((Wr.b w265 rfl).trans es244_120_4)
                      have kr_120_5 : rd M265 120 5 = s244_120_5 := ((Wr.b w265 rfl).trans es244_120_5)
                      have kr_120_7 : rd M265 120 7 = s244_120_7 := ((Wr.b w265 rfl).trans es244_120_7)
                      have kr_120_8 : rd M265 120 8 = s244_120_8 := ((Wr.b w265 rfl).trans es244_120_8)
                      have kr_120_36 : rd M265 120 36 = g120_36 := ((Wr.b w265 rfl).trans ((kp_X12_opens_120_w1_120_36 h244).trans k242_120_36))
                      have kr_120_43 : rd M265 120 43 = s244_120_43 := ((Wr.b w265 rfl).trans es244_120_43)
                      have kr_120_44 : rd M265 120 44 = s244_120_44 := ((Wr.b w265 rfl).trans es244_120_44)
                      have kr_120_46 : rd M265 120 46 = g120_46 := ((Wr.b w265 rfl).trans ((kp_X12_opens_120_w1_120_46 h244).trans k242_120_46))
                      have kr_120_50 : rd M265 120 50 = g120_50 := ((Wr.b w265 rfl).trans ((kp_X12_opens_120_w1_120_50 h244).trans k242_120_50))
                      have kr_136_0 : rd M265 136 0 = g136_0 := ((Wr.b w265 rfl).trans ((kp_X12_opens_120_w1_136_0 h244).trans k242_136_0))
                      have kr_9001_0 : nb2v M265 = g9001_0 := ((nb2v_of (fun j => ((Wr.b w265 rfl).trans ((ka_X12_opens_120_w1_150 h244 _).trans rfl))) ((Wr.b w265 rfl).trans ((kp_X12_opens_120_w1_120_46 h244).trans rfl))).trans k242_9001_0)
                      have kr_9002_0 : n4v M265 = s244_9002_0 := ((n4v_of (fun j => ((Wr.b w265 rfl).trans rfl)) ((Wr.b w265 rfl).trans rfl)).trans es244_9002_0)
                      have kr_9003_0 : Dv0 M265 = g9003_0 := ((Dv0_of (fun j => ((Wr.b w265 rfl).trans ((ka_X12_opens_120_w1_143 h244 _).trans rfl))) (fun j => ((Wr.b w265 rfl).trans ((ka_X12_opens_120_w1_140 h244 _).trans rfl))) ((Wr.b w265 rfl).trans ((kp_X12_opens_120_w1_136_0 h244).trans rfl)) ((Wr.b w265 rfl).trans ((kp_X12_opens_120_w1_120_36 h244).trans rfl))).trans k242_9003_0)
                      have kr_9005_0 : fr0 M265 = s244_9005_0 := ((fr0_of (fun j => ((Wr.b w265 rfl).trans rfl))).trans es244_9005_0)
                      have kr_9010_0 : tav M265 = s244_9010_0 := ((tav_of ((Wr.b w265 rfl).trans rfl) ((Wr.b w265 rfl).trans rfl)).trans es244_9010_0)
                      exact Tr.zret (pc := 267) d_X12_operand_267 rfl (by omega) ⟨hS, _, rfl, by omega, by omega, (by first | exact (hd_o z244_0) | exact (hd_o z244_0).elim (fun h1 => by omega) (fun h1 => by omega)), (by omega), (by first | exact (hd_o z244_2) | exact (hd_o z244_2).elim (fun h1 => by omega) (fun h1 => h1.elim (fun h1 => by omega) (fun h1 => by omega))), (by and_intros <;> omega), (by omega), (by exact (hd_o z244_5).elim (fun h1 => by omega) (fun h1 => by omega)), (by exact (hd_o z244_7).elim (fun h1 => by omega) (fun h1 => (hd_o t242_0).elim (fun h2 => (hd_o z244_4).elim (fun h3 => by omega) (fun h3 => by omega)) (fun h2 => (ne_o h2).elim (fun h3 => by omega) (fun h3 => (hd_o z221_0).elim (fun h4 => by omega) (fun h4 => by omega))))), (by omega), (by omega), (by omega), (by omega), (by omega), (by omega)⟩
                  refine Tr.if_ne (pc := 230) (tgt := 242) d_X12_operand_230 rfl (fun c230 => ?_) (fun c230 => ?_)
                  · have c230b : 1 ≤ r227 ∧ r227 ≤ 1 := by omega
                    replace c230 := hd_i c230
                    refine Tr.pick [1, 0] (ls2 := [(0, (2, 120)), (3, (0, q219_0))]) rfl ?_
                    exact J242 _ _ hS (by and_intros <;> omega) ((kp_X12_isSign_120_120_3 h227).trans es221_120_3) ((kp_X12_isSign_120_120_36 h227).trans ((kp_X12_next_120_w1_120_36 h221).trans k219_120_36)) ((kp_X12_isSign_120_120_4 h227).trans es221_120_4) ((kp_X12_isSign_120_120_43 h227).trans ((kp_X12_next_120_w1_120_43 h221).trans k219_120_43)) ((kp_X12_isSign_120_120_44 h227).trans ((kp_X12_next_120_w1_120_44 h221).trans k219_120_44)) ((kp_X12_isSign_120_120_46 h227).trans ((kp_X12_next_120_w1_120_46 h221).trans k219_120_46)) ((kp_X12_isSign_120_120_5 h227).trans es221_120_5) ((kp_X12_isSign_120_120_50 h227).trans ((kp_X12_next_120_w1_120_50 h221).trans k219_120_50)) ((kp_X12_isSign_120_120_6 h227).trans ew227_120_6) ((kp_X12_isSign_120_120_7 h227).trans es221_120_7) ((kp_X12_isSign_120_120_8 h227).trans es221_120_8) ((kp_X12_isSign_120_136_0 h227).trans ((kp_X12_next_120_w1_136_0 h221).trans k219_136_0)) ((ka_X12_isSign_120_145 h227 _).trans ((ka_X12_next_120_w1_145 h221 _).trans k219_145_g120_431n1)) ((ka_X12_isSign_120_147 h227 _).trans ((ka_X12_next_120_w1_147 h221 _).trans k219_147_g120_431n1)) ((nb2v_of (fun j => ((ka_X12_isSign_120_150 h227 _).trans ((ka_X12_next_120_w1_150 h221 _).trans rfl))) ((kp_X12_isSign_120_120_46 h227).trans ((kp_X12_next_120_w1_120_46 h221).trans rfl))).trans k219_9001_0) ((n4v_of (fun j => ((ka_X12_isSign_120_145 h227 _).trans ((ka_X12_next_120_w1_145 h221 _).trans rfl))) ((kp_X12_isSign_120_120_43 h227).trans ((kp_X12_next_120_w1_120_43 h221).trans rfl))).trans k219_9002_0) ((Dv0_of (fun j => ((ka_X12_isSign_120_143 h227 _).trans ((ka_X12_next_120_w1_143 h221 _).trans rfl))) (fun j => ((ka_X12_isSign_120_140 h227 _).trans ((ka_X12_next_120_w1_140 h221 _).trans rfl))) ((kp_X12_isSign_120_136_0 h227).trans ((kp_X12_next_120_w1_136_0 h221).trans rfl)) ((kp_X12_isSign_120_120_36 h227).trans ((kp_X12_next_120_w1_120_36 h221).trans rfl))).trans k219_9003_0) ((fr0_of (fun j => ((ka_X12_isSign_120_145 h227 _).trans ((ka_X12_next_120_w1_145 h221 _).trans rfl)))).trans k219_9005_0) ((tav_of ((kp_X12_isSign_120_120_5 h227).trans rfl) ((kp_X12_isSign_120_120_3 h227).trans rfl)).trans es221_9010_0) (by exact (hd_o z227_0).elim (fun h1 => by omega) (fun h1 => by omega)) (by first | exact (hd_o z221_6) | exact (hd_o z221_6).elim (fun h1 => by omega) (fun h1 => by omega))
                  · refine Tr.aload_n (pc := 233) (i := 0) d_X12_operand_233 rfl rfl ?_
                    refine Tr.iconst (pc := 234) d_X12_operand_234 (by decide) ?_
                    refine Tr.aload_n (pc := 235) (i := 0) d_X12_operand_235 rfl rfl ?_
                    refine Tr.getf (pc := 236) d_X12_operand_236 f_12_23 (by decide) (by decide) (ty_120 hS.1.1) ?_
                    refine Tr.tp s221_120_4 ((kp_X12_isSign_120_120_4 h227).trans es221_120_4) ?_
                    refine Tr.callV (pc := 239) (as := [_, _]) d_X12_operand_239 s_12_389 ok_X12_blame rfl rfl (Nat.le_of_ble_eq_true rfl) (Nat.le_of_ble_eq_true rfl) (by decide) (ty_120 hS.1.1) ?_
                    refine Tr.imp (Tr.deep (by decide) (ns_X12_blame_120_w1 (G120_8 := s221_120_8) hS.1 (((kp_X12_isSign_120_120_8 h227).trans es221_120_8)) 1 (by omega) s221_120_4 (by and_intros <;> omega))) ?_
                    rintro M239 _ ⟨h239, s239_120_8, es239_120_8, bs239_120_8, rfl, z239_0⟩
                    have hS := St.tr hS h239 (by decide) (by decide)
                    refine Tr.sc [] rfl ?_
                    refine Tr.pick [1, 0] (ls2 := [(0, (2, 120)), (3, (0, q219_0))]) rfl ?_
                    exact J242 _ _ hS (by and_intros <;> omega) ((kp_X12_blame_120_w1_120_3 h239).trans ((kp_X12_isSign_120_120_3 h227).trans es221_120_3)) ((kp_X12_blame_120_w1_120_36 h239).trans ((kp_X12_isSign_120_120_36 h227).trans ((kp_X12_next_120_w1_120_36 h221).trans k219_120_36))) ((kp_X12_blame_120_w1_120_4 h239).trans ((kp_X12_isSign_120_120_4 h227).trans es221_120_4)) ((kp_X12_blame_120_w1_120_43 h239).trans ((kp_X12_isSign_120_120_43 h227).trans ((kp_X12_next_120_w1_120_43 h221).trans k219_120_43))) ((kp_X12_blame_120_w1_120_44 h239).trans ((kp_X12_isSign_120_120_44 h227).trans ((kp_X12_next_120_w1_120_44 h221).trans k219_120_44))) ((kp_X12_blame_120_w1_120_46 h239).trans ((kp_X12_isSign_120_120_46 h227).trans ((kp_X12_next_120_w1_120_46 h221).trans k219_120_46))) ((kp_X12_blame_120_w1_120_5 h239).trans ((kp_X12_isSign_120_120_5 h227).trans es221_120_5)) ((kp_X12_blame_120_w1_120_50 h239).trans ((kp_X12_isSign_120_120_50 h227).trans ((kp_X12_next_120_w1_120_50 h221).trans k219_120_50))) ((kp_X12_blame_120_w1_120_6 h239).trans ((kp_X12_isSign_120_120_6 h227).trans ew227_120_6)) ((kp_X12_blame_120_w1_120_7 h239).trans ((kp_X12_isSign_120_120_7 h227).trans es221_120_7)) es239_120_8 ((kp_X12_blame_120_w1_136_0 h239).trans ((kp_X12_isSign_120_136_0 h227).trans ((kp_X12_next_120_w1_136_0 h221).trans k219_136_0))) ((ka_X12_blame_120_w1_145 h239 _).trans ((ka_X12_isSign_120_145 h227 _).trans ((ka_X12_next_120_w1_145 h221 _).trans k219_145_g120_431n1))) ((ka_X12_blame_120_w1_147 h239 _).trans ((ka_X12_isSign_120_147 h227 _).trans ((ka_X12_next_120_w1_147 h221 _).trans k219_147_g120_431n1))) ((nb2v_of (fun j => ((ka_X12_blame_120_w1_150 h239 _).trans ((ka_X12_isSign_120_150 h227 _).trans ((ka_X12_next_120_w1_150 h221 _).trans rfl)))) ((kp_X12_blame_120_w1_120_46 h239).trans ((kp_X12_isSign_120_120_46 h227).trans ((kp_X12_next_120_w1_120_46 h221).trans rfl)))).trans k219_9001_0) ((n4v_of (fun j => ((ka_X12_blame_120_w1_145 h239 _).trans ((ka_X12_isSign_120_145 h227 _).trans ((ka_X12_next_120_w1_145 h221 _).trans rfl)))) ((kp_X12_blame_120_w1_120_43 h239).trans ((kp_X12_isSign_120_120_43 h227).trans ((kp_X12_next_120_w1_120_43 h221).trans rfl)))).trans k219_9002_0) ((Dv0_of (fun j => ((ka_X12_blame_120_w1_143 h239 _).trans ((ka_X12_isSign_120_143 h227 _).trans ((ka_X12_next_120_w1_143 h221 _).trans rfl)))) (fun j => ((ka_X12_blame_120_w1_140 h239 _).trans ((ka_X12_isSign_120_140 h227 _).trans ((ka_X12_next_120_w1_140 h221 _).trans rfl)))) ((kp_X12_blame_120_w1_136_0 h239).trans ((kp_X12_isSign_120_136_0 h227).trans ((kp_X12_next_120_w1_136_0 h221).trans rfl))) ((kp_X12_blame_120_w1_120_36 h239).trans ((kp_X12_isSign_120_120_36 h227).trans ((kp_X12_next_120_w1_120_36 h221).trans rfl)))).trans k219_9003_0) ((fr0_of (fun j => ((ka_X12_blame_120_w1_145 h239 _).trans ((ka_X12_isSign_120_145 h227 _).trans ((ka_X12_next_120_w1_145 h221 _).trans rfl))))).trans k219_9005_0) ((tav_of ((kp_X12_blame_120_w1_120_5 h239).trans ((kp_X12_isSign_120_120_5 h227).trans rfl)) ((kp_X12_blame_120_w1_120_3 h239).trans ((kp_X12_isSign_120_120_3 h227).trans rfl))).trans es221_9010_0) (by exact (hd_o z239_0).elim (fun h1 => by omega) (fun h1 => by omega)) (by omega)
                refine Tr.if_eq (pc := 209) (tgt := 217) d_X12_operand_209 rfl (fun c209 => ?_) (fun c209 => ?_)
                · refine Tr.bipush (pc := 217) d_X12_operand_217 rfl (by decide) ?_
                  refine Tr.pick [0] (ls2 := [(0, (2, 120))]) rfl ?_
                  exact J219 _ _ hS (by omega) ((kp_X12_isWord_120_120_3 h206).trans k202_120_3) ((kp_X12_isWord_120_120_36 h206).trans k202_120_36) ((kp_X12_isWord_120_120_4 h206).trans k202_120_4) ((kp_X12_isWord_120_120_43 h206).trans k202_120_43) ((kp_X12_isWord_120_120_44 h206).trans k202_120_44) ((kp_X12_isWord_120_120_46 h206).trans k202_120_46) ((kp_X12_isWord_120_120_5 h206).trans k202_120_5) ((kp_X12_isWord_120_120_50 h206).trans k202_120_50) ((kp_X12_isWord_120_120_6 h206).trans k202_120_6) ((kp_X12_isWord_120_120_7 h206).trans k202_120_7) ((kp_X12_isWord_120_120_8 h206).trans k202_120_8) ((kp_X12_isWord_120_136_0 h206).trans k202_136_0) ((ka_X12_isWord_120_145 h206 _).trans k202_145_g120_431n1) ((ka_X12_isWord_120_147 h206 _).trans k202_147_g120_431n1) ((nb2v_of (fun j => ((ka_X12_isWord_120_150 h206 _).trans rfl)) ((kp_X12_isWord_120_120_46 h206).trans rfl)).trans k202_9001_0) ((n4v_of (fun j => ((ka_X12_isWord_120_145 h206 _).trans rfl)) ((kp_X12_isWord_120_120_43 h206).trans rfl)).trans k202_9002_0) ((Dv0_of (fun j => ((ka_X12_isWord_120_143 h206 _).trans rfl)) (fun j => ((ka_X12_isWord_120_140 h206 _).trans rfl)) ((kp_X12_isWord_120_136_0 h206).trans rfl) ((kp_X12_isWord_120_120_36 h206).trans rfl)).trans k202_9003_0) ((fr0_of (fun j => ((ka_X12_isWord_120_145 h206 _).trans rfl))).trans k202_9005_0) ((tav_of ((kp_X12_isWord_120_120_5 h206).trans rfl) ((kp_X12_isWord_120_120_3 h206).trans rfl)).trans k202_9010_0) (by first | exact (hd_o t166_0) | exact (hd_o t166_0).elim (fun h1 => by omega) (fun h1 => by omega)) (by omega) (by first | exact (hd_o t166_2) | exact (hd_o t166_2).elim (fun h1 => by omega) (fun h1 => h1.elim (fun h1 => by omega) (fun h1 => by omega))) (by and_intros <;> omega) (by first | exact (hd_o t166_4) | exact (hd_o t166_4).elim (fun h1 => by omega) (fun h1 => by omega))
                · have c209b : 1 ≤ r206 ∧ r206 ≤ 1 := by omega
                  replace c209 := hd_i c209
                  refine Tr.bipush (pc := 212) d_X12_operand_212 rfl (by decide) ?_
                  refine Tr.goto (pc := 214) (tgt := 219) d_X12_operand_214 rfl ?_
                  refine Tr.pick [0] (ls2 := [(0, (2, 120))]) rfl ?_
                  exact J219 _ _ hS (by omega) ((kp_X12_isWord_120_120_3 h206).trans k202_120_3) ((kp_X12_isWord_120_120_36 h206).trans k202_120_36) ((kp_X12_isWord_120_120_4 h206).trans k202_120_4) ((kp_X12_isWord_120_120_43 h206).trans k202_120_43) ((kp_X12_isWord_120_120_44 h206).trans k202_120_44) ((kp_X12_isWord_120_120_46 h206).trans k202_120_46) ((kp_X12_isWord_120_120_5 h206).trans k202_120_5) ((kp_X12_isWord_120_120_50 h206).trans k202_120_50) ((kp_X12_isWord_120_120_6 h206).trans k202_120_6) ((kp_X12_isWord_120_120_7 h206).trans k202_120_7) ((kp_X12_isWord_120_120_8 h206).trans k202_120_8) ((kp_X12_isWord_120_136_0 h206).trans k202_136_0) ((ka_X12_isWord_120_145 h206 _).trans k202_145_g120_431n1) ((ka_X12_isWord_120_147 h206 _).trans k202_147_g120_431n1) ((nb2v_of (fun j => ((ka_X12_isWord_120_150 h206 _).trans rfl)) ((kp_X12_isWord_120_120_46 h206).trans rfl)).trans k202_9001_0) ((n4v_of (fun j => ((ka_X12_isWord_120_145 h206 _).trans rfl)) ((kp_X12_isWord_120_120_43 h206).trans rfl)).trans k202_9002_0) ((Dv0_of (fun j => ((ka_X12_isWord_120_143 h206 _).trans rfl)) (fun j => ((ka_X12_isWord_120_140 h206 _).trans rfl)) ((kp_X12_isWord_120_136_0 h206).trans rfl) ((kp_X12_isWord_120_120_36 h206).trans rfl)).trans k202_9003_0) ((fr0_of (fun j => ((ka_X12_isWord_120_145 h206 _).trans rfl))).trans k202_9005_0) ((tav_of ((kp_X12_isWord_120_120_5 h206).trans rfl) ((kp_X12_isWord_120_120_3 h206).trans rfl)).trans k202_9010_0) (by first | exact (hd_o t166_0) | exact (hd_o t166_0).elim (fun h1 => by omega) (fun h1 => by omega)) (by omega) (by first | exact (hd_o t166_2) | exact (hd_o t166_2).elim (fun h1 => by omega) (fun h1 => h1.elim (fun h1 => by omega) (fun h1 => by omega))) (by and_intros <;> omega) (by first | exact (hd_o t166_4) | exact (hd_o t166_4).elim (fun h1 => by omega) (fun h1 => by omega))
              refine Tr.if_ne (pc := 189) (tgt := 202) d_X12_operand_189 rfl (fun c189 => ?_) (fun c189 => ?_)
              · have c189b : 1 ≤ r186 ∧ r186 ≤ 1 := by omega
                replace c189 := hd_i c189
                refine Tr.pick [0] (ls2 := [(0, (2, 120))]) rfl ?_
                exact J202 _ hS ((kp_X12_isWord_120_120_3 h186).trans ((kp_X12_isSign_120_120_3 h169).trans k166_120_3)) ((kp_X12_isWord_120_120_36 h186).trans ((kp_X12_isSign_120_120_36 h169).trans k166_120_36)) ((kp_X12_isWord_120_120_4 h186).trans ((kp_X12_isSign_120_120_4 h169).trans k166_120_4)) ((kp_X12_isWord_120_120_43 h186).trans ((kp_X12_isSign_120_120_43 h169).trans k166_120_43)) ((kp_X12_isWord_120_120_44 h186).trans ((kp_X12_isSign_120_120_44 h169).trans k166_120_44)) ((kp_X12_isWord_120_120_46 h186).trans ((kp_X12_isSign_120_120_46 h169).trans k166_120_46)) ((kp_X12_isWord_120_120_5 h186).trans ((kp_X12_isSign_120_120_5 h169).trans k166_120_5)) ((kp_X12_isWord_120_120_50 h186).trans ((kp_X12_isSign_120_120_50 h169).trans k166_120_50)) ((kp_X12_isWord_120_120_6 h186).trans ((kp_X12_isSign_120_120_6 h169).trans k166_120_6)) ((kp_X12_isWord_120_120_7 h186).trans ((kp_X12_isSign_120_120_7 h169).trans k166_120_7)) ((kp_X12_isWord_120_120_8 h186).trans ((kp_X12_isSign_120_120_8 h169).trans k166_120_8)) ((kp_X12_isWord_120_136_0 h186).trans ((kp_X12_isSign_120_136_0 h169).trans k166_136_0)) ((ka_X12_isWord_120_145 h186 _).trans ((ka_X12_isSign_120_145 h169 _).trans k166_145_g120_431n1)) ((ka_X12_isWord_120_147 h186 _).trans ((ka_X12_isSign_120_147 h169 _).trans k166_147_g120_431n1)) ((nb2v_of (fun j => ((ka_X12_isWord_120_150 h186 _).trans ((ka_X12_isSign_120_150 h169 _).trans rfl))) ((kp_X12_isWord_120_120_46 h186).trans ((kp_X12_isSign_120_120_46 h169).trans rfl))).trans k166_9001_0) ((n4v_of (fun j => ((ka_X12_isWord_120_145 h186 _).trans ((ka_X12_isSign_120_145 h169 _).trans rfl))) ((kp_X12_isWord_120_120_43 h186).trans ((kp_X12_isSign_120_120_43 h169).trans rfl))).trans k166_9002_0) ((Dv0_of (fun j => ((ka_X12_isWord_120_143 h186 _).trans ((ka_X12_isSign_120_143 h169 _).trans rfl))) (fun j => ((ka_X12_isWord_120_140 h186 _).trans ((ka_X12_isSign_120_140 h169 _).trans rfl))) ((kp_X12_isWord_120_136_0 h186).trans ((kp_X12_isSign_120_136_0 h169).trans rfl)) ((kp_X12_isWord_120_120_36 h186).trans ((kp_X12_isSign_120_120_36 h169).trans rfl))).trans k166_9003_0) ((fr0_of (fun j => ((ka_X12_isWord_120_145 h186 _).trans ((ka_X12_isSign_120_145 h169 _).trans rfl)))).trans k166_9005_0) ((tav_of ((kp_X12_isWord_120_120_5 h186).trans ((kp_X12_isSign_120_120_5 h169).trans rfl)) ((kp_X12_isWord_120_120_3 h186).trans ((kp_X12_isSign_120_120_3 h169).trans rfl))).trans k166_9010_0) (by exact (hd_o z186_0).elim (fun h1 => by omega) (fun h1 => by omega))
              · refine Tr.aload_n (pc := 192) (i := 0) d_X12_operand_192 rfl rfl ?_
                refine Tr.ldc2 (pc := 193) d_X12_operand_193 kl_12_451 (by decide) ?_
                refine Tr.callV (pc := 196) (as := [_]) d_X12_operand_196 s_12_484 ok_X12_isWord rfl rfl (Nat.le_of_ble_eq_true rfl) (Nat.le_of_ble_eq_true rfl) (by decide) (ty_120 hS.1.1) ?_
                refine Tr.imp (Tr.deep (by decide) (ns_X12_isWord_120 (G120_3 := g120_3) (G120_7 := g120_7) hS.1.wk (((kp_X12_isWord_120_120_3 h186).trans ((kp_X12_isSign_120_120_3 h169).trans k166_120_3))) (((kp_X12_isWord_120_120_7 h186).trans ((kp_X12_isSign_120_120_7 h169).trans k166_120_7))) 7168376 (by omega))) ?_
                rintro M196 _ ⟨h196, r196, rfl, lr196, ur196, z196_0⟩
                have h196 := St.rn h196 (Pm0.of hS.1.2.2.2.2 (fun _ => (ka_X12_isWord_120_131 h196 _)) (fun _ => (ka_X12_isWord_120_137 h196 _)) (fun _ => (ka_X12_isWord_120_138 h196 _)) (fun _ => (ka_X12_isWord_120_139 h196 _)) (fun _ => (ka_X12_isWord_120_140 h196 _)) (fun _ => (ka_X12_isWord_120_141 h196 _)) (fun _ => (ka_X12_isWord_120_142 h196 _)) (fun _ => (ka_X12_isWord_120_143 h196 _)) (fun _ => (ka_X12_isWord_120_151 h196 _)) (fun _ => (ka_X12_isWord_120_152 h196 _)) (kp_X12_isWord_120_126_0 h196) (kp_X12_isWord_120_126_1 h196) (kp_X12_isWord_120_136_0 h196) (kp_X12_isWord_120_136_1 h196) (kp_X12_isWord_120_123_0 h196) (kp_X12_isWord_120_123_1 h196) (kp_X12_isWord_120_124_0 h196) (kp_X12_isWord_120_124_1 h196) (kp_X12_isWord_120_120_8 h196) (kp_X12_isWord_120_120_36 h196) (kp_X12_isWord_120_120_50 h196))
                have hS := St.tr hS h196 (by decide) (by decide)
                refine Tr.sc [(0, r196)] rfl ?_
                refine Tr.if_eq (pc := 199) (tgt := 268) d_X12_operand_199 rfl (fun c199 => ?_) (fun c199 => ?_)
                · refine Tr.aload_n (pc := 268) (i := 0) d_X12_operand_268 rfl rfl ?_
                  refine Tr.getf (pc := 269) d_X12_operand_269 f_12_20 (by decide) (by decide) (ty_120 hS.1.1) ?_
                  refine Tr.tp g120_3 ((kp_X12_isWord_120_120_3 h196).trans ((kp_X12_isWord_120_120_3 h186).trans ((kp_X12_isSign_120_120_3 h169).trans k166_120_3))) ?_
                  refine Tr.iconst (pc := 272) d_X12_operand_272 (by decide) ?_
                  have J295 : ∀ (M : Mem) (q295_0 : Int), St Pm0 ws_X12_operand_120_w1 as_X12_operand_120_w1 M0 M → (0 ≤ q295_0 ∧ q295_0 ≤ 3) → rd M 120 3 = g120_3 → rd M 120 36 = g120_36 → rd M 120 4 = g120_4 → rd M 120 43 = g120_43 → rd M 120 44 = g120_44 → rd M 120 46 = g120_46 → rd M 120 5 = g120_5 → rd M 120 50 = g120_50 → rd M 120 6 = g120_6 → rd M 120 7 = g120_7 → rd M 120 8 = g120_8 → rd M 136 0 = g136_0 → rd M 145 (g120_43 - 1) = r12 → rd M 147 (g120_43 - 1) = 0 → nb2v M = g9001_0 → n4v M = g9002_0 → Dv0 M = g9003_0 → fr0 M = g9005_0 → tav M = g9010_0 → (q295_0 = 1 ∨ g120_3 ≠ 0) → (q295_0 = 0 ∨ q295_0 = 1 ∨ q295_0 = 3) → Tr l K 3 mX12_operand 295 [(0, (2, 120))] [(0, q295_0)] M (q_X12_operand_120_w1 M0) := by
                    intro M q295_0 hS bq295_0 k295_120_3 k295_120_36 k295_120_4 k295_120_43 k295_120_44 k295_120_46 k295_120_5 k295_120_50 k295_120_6 k295_120_7 k295_120_8 k295_136_0 k295_145_g120_431n1 k295_147_g120_431n1 k295_9001_0 k295_9002_0 k295_9003_0 k295_9005_0 k295_9010_0 t295_0 t295_1
                    clear k166_120_3 k166_120_36 k166_120_4 k166_120_43 k166_120_44 k166_120_46 k166_120_5 k166_120_50 k166_120_6 k166_120_7 k166_120_8 k166_136_0 k166_145_g120_431n1 k166_147_g120_431n1 k166_9001_0 k166_9002_0 k166_9003_0 k166_9005_0 k166_9010_0
                    replace t295_0 := hd_i t295_0
                    replace t295_1 := hd_i t295_1
                    refine Tr.istore_n (pc := 295) (i := 3) (ls2 := [(3, (0, q295_0)), (0, (2, 120))]) d_X12_operand_295 rfl (by decide) rfl ?_
                    refine Tr.aload_n (pc := 296) (i := 0) d_X12_operand_296 rfl rfl ?_
                    refine Tr.getf (pc := 297) d_X12_operand_297 f_12_29 (by decide) (by decide) (ty_120 hS.1.1) ?_
                    refine Tr.tp g120_6 k295_120_6 ?_
                    refine Tr.istore (pc := 300) (i := 4) (ls2 := [(4, (0, g120_6)), (3, (0, q295_0)), (0, (2, 120))]) d_X12_operand_300 (by decide) rfl ?_
                    refine Tr.iload_n (pc := 302) (i := 3) d_X12_operand_302 rfl rfl ?_
                    refine Tr.iconst (pc := 303) d_X12_operand_303 (by decide) ?_
                    have J396 : ∀ (M : Mem) (p396_3 p396_4 u396_120_8 : Int), St Pm0 ws_X12_operand_120_w1 as_X12_operand_120_w1 M0 M → (0 ≤ p396_3 ∧ p396_3 ≤ 3) → ((-2147483648) ≤ p396_4 ∧ p396_4 ≤ 2147483647) → (0 ≤ u396_120_8 ∧ u396_120_8 ≤ 5) → rd M 120 3 = g120_3 → rd M 120 36 = g120_36 → rd M 120 4 = g120_4 → rd M 120 43 = g120_43 → rd M 120 44 = g120_44 → rd M 120 46 = g120_46 → rd M 120 5 = g120_5 → rd M 120 50 = g120_50 → rd M 120 6 = g120_6 → rd M 120 7 = g120_7 → rd M 120 8 = u396_120_8 → rd M 136 0 = g136_0 → rd M 145 (g120_43 - 1) = r12 → rd M 147 (g120_43 - 1) = 0 → nb2v M = g9001_0 → n4v M = g9002_0 → Dv0 M = g9003_0 → fr0 M = g9005_0 → tav M = g9010_0 → (1 ≤ u396_120_8 ∨ p396_3 = 0 ∨ p396_3 = 3 ∨ (p396_3 = 1 ∧ 0 ≤ p396_4 ∧ p396_4 ≤ 2) ∨ (p396_3 = 2 ∧ 0 ≤ p396_4 ∧ p396_4 ≤ 5)) → (u396_120_8 ≠ 0 ∨ g120_3 ≠ 0) → Tr l K 3 mX12_operand 396 [(0, (2, 120)), (3, (0, p396_3)), (4, (0, p396_4))] [] M (q_X12_operand_120_w1 M0) := by
                      intro M p396_3 p396_4 u396_120_8 hS bp396_3 bp396_4 bu396_120_8 k396_120_3 k396_120_36 k396_120_4 k396_120_43 k396_120_44 k396_120_46 k396_120_5 k396_120_50 k396_120_6 k396_120_7 k396_120_8 k396_136_0 k396_145_g120_431n1 k396_147_g120_431n1 k396_9001_0 k396_9002_0 k396_9003_0 k396_9005_0 k396_9010_0 t396_0 t396_1
                      clear k295_120_3 k295_120_36 k295_120_4 k295_120_43 k295_120_44 k295_120_46 k295_120_5 k295_120_50 k295_120_6 k295_120_7 k295_120_8 k295_136_0 k295_145_g120_431n1 k295_147_g120_431n1 k295_9001_0 k295_9002_0 k295_9003_0 k295_9005_0 k295_9010_0
                      replace t396_0 := hd_i t396_0
                      replace t396_1 := hd_i t396_1
                      refine Tr.aload_n (pc := 396) (i := 0) d_X12_operand_396 rfl rfl ?_
                      refine Tr.getf (pc := 397) d_X12_operand_397 f_12_36 (by decide) (by decide) (ty_120 hS.1.1) ?_
                      refine Tr.tp u396_120_8 k396_120_8 ?_
                      refine Tr.if_le (pc := 400) (tgt := 405) d_X12_operand_400 rfl (fun c400 => ?_) (fun c400 => ?_)
                      · refine Tr.aload_n (pc := 405) (i := 0) d_X12_operand_405 rfl rfl ?_
                        refine Tr.iload_n (pc := 406) (i := 3) d_X12_operand_406 rfl rfl ?_
                        refine Tr.iload (pc := 407) (i := 4) d_X12_operand_407 rfl ?_
                        refine Tr.callV (pc := 409) (as := [_, _]) d_X12_operand_409 s_12_475 ok_X12_add rfl rfl (Nat.le_of_ble_eq_true rfl) (Nat.le_of_ble_eq_true rfl) (by decide) (ty_120 hS.1.1) ?_
                        refine Tr.imp (Tr.deep (by decide) (ns_X12_add_120_w6 (G120_36 := g120_36) (G136_0 := g136_0) (G9003_0 := g9003_0) hS.1 (k396_120_36) (k396_136_0) (k396_9003_0) ((kp_X12_operand_120_w1_120_37 hS).trans en_120_37) p396_3 (by and_intros <;> omega) p396_4 (by and_intros <;> omega) (by exact (hd_o t396_0).elim (fun h1 => by omega) (fun h1 => h1.elim (fun h1 => by omega) (fun h1 => h1.elim (fun h1 => by omega) (fun h1 => h1.elim (fun h1 => by omega) (fun h1 => by omega))))) (by exact (hd_o t396_1).elim (fun h1 => (ne_o h1).elim (fun h2 => by omega) (fun h2 => by omega)) (fun h1 => (ne_o h1).elim (fun h2 => by omega) (fun h2 => (hd_o t166_0).elim (fun h3 => by omega) (fun h3 => by omega)))) (by omega) (by omega) (by omega))) ?_
                        rintro M409 _ ⟨h409, s409_120_36, s409_9003_0, es409_120_36, bs409_120_36, es409_9003_0, bs409_9003_0, rfl, z409_0, z409_1⟩
                        have hS := St.tr hS h409 (by decide) (by decide)
                        refine Tr.sc [] rfl ?_
                        refine Tr.aload_n (pc := 412) (i := 0) d_X12_operand_412 rfl rfl ?_
                        refine Tr.callV (pc := 413) (as := []) d_X12_operand_413 s_12_396 ok_X12_next rfl rfl (Nat.le_of_ble_eq_true rfl) (Nat.le_of_ble_eq_true rfl) (by decide) (ty_120 hS.1.1) ?_
                        refine Tr.imp (Tr.deep (by decide) (ns_X12_next_120_w1 (G120_3 := g120_3) (G120_5 := g120_5) (G120_8 := u396_120_8) (G9010_0 := g9010_0) hS.1 (((kp_X12_add_120_w6_120_3 h409).trans k396_120_3)) (((kp_X12_add_120_w6_120_5 h409).trans k396_120_5)) (((kp_X12_add_120_w6_120_8 h409).trans k396_120_8)) (((tav_of ((kp_X12_add_120_w6_120_5 h409).trans rfl) ((kp_X12_add_120_w6_120_3 h409).trans rfl)).trans k396_9010_0)))) ?_
                        rintro M413 _ ⟨h413, s413_120_3, s413_120_4, s413_120_5, s413_120_7, s413_120_8, s413_9010_0, es413_120_3, bs413_120_3, es413_120_4, bs413_120_4, es413_120_5, bs413_120_5, es413_120_7, bs413_120_7, es413_120_8, bs413_120_8, es413_9010_0, bs413_9010_0, rfl, z413_0, z413_1, z413_2, z413_3, z413_4, z413_5, z413_6⟩
                        have hS := St.tr hS h413 (by decide) (by decide)
                        refine Tr.sc [] rfl ?_
                        refine Tr.iconst (pc := 416) d_X12_operand_416 (by decide) ?_
                        have kr_120_3 : rd M413 120 3 = s413_120_3 := es413_120_3
                        have kr_120_4 : rd M413 120 4 = s413_120_4 := es413_120_4
                        have kr_120_5 : rd M413 120 5 = s413_120_5 := es413_120_5
                        have kr_120_7 : rd M413 120 7 = s413_120_7 := es413_120_7
                        have kr_120_8 : rd M413 120 8 = s413_120_8 := es413_120_8
                        have kr_120_36 : rd M413 120 36 = s409_120_36 := ((kp_X12_next_120_w1_120_36 h413).trans es409_120_36)
                        have kr_120_43 : rd M413 120 43 = g120_43 := ((kp_X12_next_120_w1_120_43 h413).trans ((kp_X12_add_120_w6_120_43 h409).trans k396_120_43))
                        have kr_120_44 : rd M413 120 44 = g120_44 := ((kp_X12_next_120_w1_120_44 h413).trans ((kp_X12_add_120_w6_120_44 h409).trans k396_120_44))
                        have kr_120_46 : rd M413 120 46 = g120_46 := ((kp_X12_next_120_w1_120_46 h413).trans ((kp_X12_add_120_w6_120_46 h409).trans k396_120_46))
                        have kr_120_50 : rd M413 120 50 = g120_50 := ((kp_X12_next_120_w1_120_50 h413).trans ((kp_X12_add_120_w6_120_50 h409).trans k396_120_50))
                        have kr_136_0 : rd M413 136 0 = g136_0 := ((kp_X12_next_120_w1_136_0 h413).trans ((kp_X12_add_120_w6_136_0 h409).trans k396_136_0))
                        have kr_9001_0 : nb2v M413 = g9001_0 := ((nb2v_of (fun j => ((ka_X12_next_120_w1_150 h413 _).trans ((ka_X12_add_120_w6_150 h409 _).trans rfl))) ((kp_X12_next_120_w1_120_46 h413).trans ((kp_X12_add_120_w6_120_46 h409).trans rfl))).trans k396_9001_0)
                        have kr_9002_0 : n4v M413 = g9002_0 := ((n4v_of (fun j => ((ka_X12_next_120_w1_145 h413 _).trans ((ka_X12_add_120_w6_145 h409 _).trans rfl))) ((kp_X12_next_120_w1_120_43 h413).trans ((kp_X12_add_120_w6_120_43 h409).trans rfl))).trans k396_9002_0)
                        have kr_9003_0 : Dv0 M413 = s409_9003_0 := ((Dv0_of (fun j => ((ka_X12_next_120_w1_143 h413 _).trans rfl)) (fun j => ((ka_X12_next_120_w1_140 h413 _).trans rfl)) ((kp_X12_next_120_w1_136_0 h413).trans rfl) ((kp_X12_next_120_w1_120_36 h413).trans rfl)).trans es409_9003_0)
                        have kr_9005_0 : fr0 M413 = g9005_0 := ((fr0_of (fun j => ((ka_X12_next_120_w1_145 h413 _).trans ((ka_X12_add_120_w6_145 h409 _).trans rfl)))).trans k396_9005_0)
                        have kr_9010_0 : tav M413 = s413_9010_0 := es413_9010_0
                        exact Tr.zret (pc := 417) d_X12_operand_417 rfl (by omega) ⟨hS, _, rfl, by omega, by omega, (by first | exact (hd_o z413_0) | exact (hd_o z413_0).elim (fun h1 => by omega) (fun h1 => by omega)), (by omega), (by first | exact (hd_o z413_2) | exact (hd_o z413_2).elim (fun h1 => by omega) (fun h1 => h1.elim (fun h1 => by omega) (fun h1 => by omega))), (by and_intros <;> omega), (by omega), (by exact (hd_o t396_1).elim (fun h1 => (ne_o h1).elim (fun h2 => by omega) (fun h2 => by omega)) (fun h1 => (ne_o h1).elim (fun h2 => by omega) (fun h2 => (hd_o z413_5).elim (fun h3 => by omega) (fun h3 => by omega)))), (by exact (hd_o t396_1).elim (fun h1 => (ne_o h1).elim (fun h2 => by omega) (fun h2 => by omega)) (fun h1 => (ne_o h1).elim (fun h2 => by omega) (fun h2 => (hd_o t166_0).elim (fun h3 => by omega) (fun h3 => by omega)))), (by omega), (by omega), (by omega), (by omega), (by exact (hd_o t396_1).elim (fun h1 => (ne_o h1).elim (fun h2 => by omega) (fun h2 => by omega)) (fun h1 => (ne_o h1).elim (fun h2 => by omega) (fun h2 => (hd_o t166_0).elim (fun h3 => by omega) (fun h3 => by omega)))), (by exact (hd_o z409_1).elim (fun h1 => by omega) (fun h1 => h1.elim (fun h1 => by omega) (fun h1 => by omega)))⟩
                      · refine Tr.iconst (pc := 403) d_X12_operand_403 (by decide) ?_
                        have kr_120_3 : rd M 120 3 = g120_3 := k396_120_3
                        have kr_120_4 : rd M 120 4 = g120_4 := k396_120_4
                        have kr_120_5 : rd M 120 5 = g120_5 := k396_120_5
                        have kr_120_7 : rd M 120 7 = g120_7 := k396_120_7
                        have kr_120_8 : rd M 120 8 = u396_120_8 := k396_120_8
                        have kr_120_36 : rd M 120 36 = g120_36 := k396_120_36
                        have kr_120_43 : rd M 120 43 = g120_43 := k396_120_43
                        have kr_120_44 : rd M 120 44 = g120_44 := k396_120_44
                        have kr_120_46 : rd M 120 46 = g120_46 := k396_120_46
                        have kr_120_50 : rd M 120 50 = g120_50 := k396_120_50
                        have kr_136_0 : rd M 136 0 = g136_0 := k396_136_0
                        have kr_9001_0 : nb2v M = g9001_0 := k396_9001_0
                        have kr_9002_0 : n4v M = g9002_0 := k396_9002_0
                        have kr_9003_0 : Dv0 M = g9003_0 := k396_9003_0
                        have kr_9005_0 : fr0 M = g9005_0 := k396_9005_0
                        have kr_9010_0 : tav M = g9010_0 := k396_9010_0
                        exact Tr.zret (pc := 404) d_X12_operand_404 rfl (by omega) ⟨hS, _, rfl, by omega, by omega, (by first | exact (hd_o t166_0) | exact (hd_o t166_0).elim (fun h1 => by omega) (fun h1 => by omega)), (by omega), (by first | exact (hd_o t166_2) | exact (hd_o t166_2).elim (fun h1 => by omega) (fun h1 => h1.elim (fun h1 => by omega) (fun h1 => by omega))), (by and_intros <;> omega), (by omega), (by omega), (by omega), (by omega), (by omega), (by omega), (by omega), (by omega), (by omega)⟩
                    refine Tr.icmp_ne (pc := 304) (tgt := 396) d_X12_operand_304 rfl (fun c304 => ?_) (fun c304 => ?_)
                    · replace c304 := hd_i c304
                      refine Tr.pick [2, 1, 0] (ls2 := [(0, (2, 120)), (3, (0, q295_0)), (4, (0, g120_6))]) rfl ?_
                      exact J396 _ _ _ _ hS (by and_intros <;> omega) (by and_intros <;> omega) (by and_intros <;> omega) k295_120_3 k295_120_36 k295_120_4 k295_120_43 k295_120_44 k295_120_46 k295_120_5 k295_120_50 k295_120_6 k295_120_7 k295_120_8 k295_136_0 k295_145_g120_431n1 k295_147_g120_431n1 k295_9001_0 k295_9002_0 k295_9003_0 k295_9005_0 k295_9010_0 (by exact (hd_o t295_1).elim (fun h1 => by omega) (fun h1 => h1.elim (fun h1 => (ne_o (hd_o c304)).elim (fun h2 => by omega) (fun h2 => by omega)) (fun h1 => by omega))) (by exact (hd_o t295_0).elim (fun h1 => (ne_o (hd_o c304)).elim (fun h2 => by omega) (fun h2 => by omega)) (fun h1 => (ne_o h1).elim (fun h2 => by omega) (fun h2 => by omega)))
                    · refine Tr.aload_n (pc := 307) (i := 0) d_X12_operand_307 rfl rfl ?_
                      refine Tr.getf (pc := 308) d_X12_operand_308 f_12_20 (by decide) (by decide) (ty_120 hS.1.1) ?_
                      refine Tr.tp g120_3 k295_120_3 ?_
                      refine Tr.iconst (pc := 311) d_X12_operand_311 (by decide) ?_
                      have J335 : ∀ (M : Mem) (u335_120_8 : Int), St Pm0 ws_X12_operand_120_w1 as_X12_operand_120_w1 M0 M → (0 ≤ u335_120_8 ∧ u335_120_8 ≤ 5) → rd M 120 3 = g120_3 → rd M 120 36 = g120_36 → rd M 120 4 = g120_4 → rd M 120 43 = g120_43 → rd M 120 44 = g120_44 → rd M 120 46 = g120_46 → rd M 120 5 = g120_5 → rd M 120 50 = g120_50 → rd M 120 6 = g120_6 → rd M 120 7 = g120_7 → rd M 120 8 = u335_120_8 → rd M 136 0 = g136_0 → rd M 145 (g120_43 - 1) = r12 → rd M 147 (g120_43 - 1) = 0 → nb2v M = g9001_0 → n4v M = g9002_0 → Dv0 M = g9003_0 → fr0 M = g9005_0 → tav M = g9010_0 → (u335_120_8 ≠ 0 ∨ g120_3 ≠ 0) → Tr l K 3 mX12_operand 335 [(0, (2, 120)), (3, (0, q295_0))] [] M (q_X12_operand_120_w1 M0) := by
                        intro M u335_120_8 hS bu335_120_8 k335_120_3 k335_120_36 k335_120_4 k335_120_43 k335_120_44 k335_120_46 k335_120_5 k335_120_50 k335_120_6 k335_120_7 k335_120_8 k335_136_0 k335_145_g120_431n1 k335_147_g120_431n1 k335_9001_0 k335_9002_0 k335_9003_0 k335_9005_0 k335_9010_0 t335_0
                        clear k295_120_3 k295_120_36 k295_120_4 k295_120_43 k295_120_44 k295_120_46 k295_120_5 k295_120_50 k295_120_6 k295_120_7 k295_120_8 k295_136_0 k295_145_g120_431n1 k295_147_g120_431n1 k295_9001_0 k295_9002_0 k295_9003_0 k295_9005_0 k295_9010_0
                        replace t335_0 := hd_i t335_0
                        refine Tr.aload_n (pc := 335) (i := 0) d_X12_operand_335 rfl rfl ?_
                        refine Tr.getf (pc := 336) d_X12_operand_336 f_12_36 (by decide) (by decide) (ty_120 hS.1.1) ?_
                        refine Tr.tp u335_120_8 k335_120_8 ?_
                        have J354 : ∀ (M : Mem) (q354_0 : Int), St Pm0 ws_X12_operand_120_w1 as_X12_operand_120_w1 M0 M → ((-1) ≤ q354_0 ∧ q354_0 ≤ 2) → rd M 120 3 = g120_3 → rd M 120 36 = g120_36 → rd M 120 4 = g120_4 → rd M 120 43 = g120_43 → rd M 120 44 = g120_44 → rd M 120 46 = g120_46 → rd M 120 5 = g120_5 → rd M 120 50 = g120_50 → rd M 120 6 = g120_6 → rd M 120 7 = g120_7 → rd M 120 8 = u335_120_8 → rd M 136 0 = g136_0 → rd M 145 (g120_43 - 1) = r12 → rd M 147 (g120_43 - 1) = 0 → nb2v M = g9001_0 → n4v M = g9002_0 → Dv0 M = g9003_0 → fr0 M = g9005_0 → tav M = g9010_0 → (-1 ≤ q354_0 ∧ q354_0 ≤ 2) → Tr l K 3 mX12_operand 354 [(0, (2, 120)), (3, (0, q295_0))] [(0, q354_0)] M (q_X12_operand_120_w1 M0) := by
                          intro M q354_0 hS bq354_0 k354_120_3 k354_120_36 k354_120_4 k354_120_43 k354_120_44 k354_120_46 k354_120_5 k354_120_50 k354_120_6 k354_120_7 k354_120_8 k354_136_0 k354_145_g120_431n1 k354_147_g120_431n1 k354_9001_0 k354_9002_0 k354_9003_0 k354_9005_0 k354_9010_0 t354_0
                          clear k335_120_3 k335_120_36 k335_120_4 k335_120_43 k335_120_44 k335_120_46 k335_120_5 k335_120_50 k335_120_6 k335_120_7 k335_120_8 k335_136_0 k335_145_g120_431n1 k335_147_g120_431n1 k335_9001_0 k335_9002_0 k335_9003_0 k335_9005_0 k335_9010_0
                          refine Tr.istore (pc := 354) (i := 4) (ls2 := [(4, (0, q354_0)), (0, (2, 120)), (3, (0, q295_0))]) d_X12_operand_354 (by decide) rfl ?_
                          refine Tr.iload (pc := 356) (i := 4) d_X12_operand_356 rfl ?_
                          refine Tr.iconst (pc := 358) d_X12_operand_358 (by decide) ?_
                          have J374 : ∀ (M : Mem) (p374_3 p374_4 : Int), St Pm0 ws_X12_operand_120_w1 as_X12_operand_120_w1 M0 M → (1 ≤ p374_3 ∧ p374_3 ≤ 2) → ((-1) ≤ p374_4 ∧ p374_4 ≤ 5) → rd M 120 3 = g120_3 → rd M 120 36 = g120_36 → rd M 120 4 = g120_4 → rd M 120 43 = g120_43 → rd M 120 44 = g120_44 → rd M 120 46 = g120_46 → rd M 120 5 = g120_5 → rd M 120 50 = g120_50 → rd M 120 6 = g120_6 → rd M 120 7 = g120_7 → rd M 120 8 = u335_120_8 → rd M 136 0 = g136_0 → rd M 145 (g120_43 - 1) = r12 → rd M 147 (g120_43 - 1) = 0 → nb2v M = g9001_0 → n4v M = g9002_0 → Dv0 M = g9003_0 → fr0 M = g9005_0 → tav M = g9010_0 → ((p374_3 = 1 ∧ 0 ≤ p374_4 ∧ p374_4 ≤ 2) ∨ (p374_3 = 2 ∧ -1 ≤ p374_4 ∧ p374_4 ≤ 5)) → (u335_120_8 ≠ 0 ∨ g120_3 ≠ 0) → Tr l K 3 mX12_operand 374 [(0, (2, 120)), (3, (0, p374_3)), (4, (0, p374_4))] [] M (q_X12_operand_120_w1 M0) := by
                            intro M p374_3 p374_4 hS bp374_3 bp374_4 k374_120_3 k374_120_36 k374_120_4 k374_120_43 k374_120_44 k374_120_46 k374_120_5 k374_120_50 k374_120_6 k374_120_7 k374_120_8 k374_136_0 k374_145_g120_431n1 k374_147_g120_431n1 k374_9001_0 k374_9002_0 k374_9003_0 k374_9005_0 k374_9010_0 t374_0 t374_1
                            clear k354_120_3 k354_120_36 k354_120_4 k354_120_43 k354_120_44 k354_120_46 k354_120_5 k354_120_50 k354_120_6 k354_120_7 k354_120_8 k354_136_0 k354_145_g120_431n1 k354_147_g120_431n1 k354_9001_0 k354_9002_0 k354_9003_0 k354_9005_0 k354_9010_0
                            replace t374_0 := hd_i t374_0
                            replace t374_1 := hd_i t374_1
                            refine Tr.aload_n (pc := 374) (i := 0) d_X12_operand_374 rfl rfl ?_
                            refine Tr.getf (pc := 375) d_X12_operand_375 f_12_36 (by decide) (by decide) (ty_120 hS.1.1) ?_
                            refine Tr.tp u335_120_8 k374_120_8 ?_
                            refine Tr.if_ne (pc := 378) (tgt := 396) d_X12_operand_378 rfl (fun c378 => ?_) (fun c378 => ?_)
                            · have c378b : 1 ≤ u335_120_8 ∧ u335_120_8 ≤ 5 := by omega
                              replace c378 := hd_i c378
                              refine Tr.pick [0, 1, 2] (ls2 := [(0, (2, 120)), (3, (0, p374_3)), (4, (0, p374_4))]) rfl ?_
                              exact J396 _ _ _ _ hS (by and_intros <;> omega) (by and_intros <;> omega) (by and_intros <;> omega) k374_120_3 k374_120_36 k374_120_4 k374_120_43 k374_120_44 k374_120_46 k374_120_5 k374_120_50 k374_120_6 k374_120_7 k374_120_8 k374_136_0 k374_145_g120_431n1 k374_147_g120_431n1 k374_9001_0 k374_9002_0 k374_9003_0 k374_9005_0 k374_9010_0 (by omega) (by first | exact (hd_o t374_1) | exact (hd_o t374_1).elim (fun h1 => by omega) (fun h1 => by omega))
                            · refine Tr.iload (pc := 381) (i := 4) d_X12_operand_381 rfl ?_
                              refine Tr.iconst (pc := 383) d_X12_operand_383 (by decide) ?_
                              refine Tr.icmp_ne (pc := 384) (tgt := 396) d_X12_operand_384 rfl (fun c384 => ?_) (fun c384 => ?_)
                              · have c384b : 0 ≤ p374_4 ∧ p374_4 ≤ 5 := by omega
                                replace c384 := hd_i c384
                                refine Tr.pick [0, 1, 2] (ls2 := [(0, (2, 120)), (3, (0, p374_3)), (4, (0, p374_4))]) rfl ?_
                                exact J396 _ _ _ _ hS (by and_intros <;> omega) (by and_intros <;> omega) (by and_intros <;> omega) k374_120_3 k374_120_36 k374_120_4 k374_120_43 k374_120_44 k374_120_46 k374_120_5 k374_120_50 k374_120_6 k374_120_7 k374_120_8 k374_136_0 k374_145_g120_431n1 k374_147_g120_431n1 k374_9001_0 k374_9002_0 k374_9003_0 k374_9005_0 k374_9010_0 (by exact (hd_o t374_0).elim (fun h1 => by omega) (fun h1 => by omega)) (by first | exact (hd_o t374_1) | exact (hd_o t374_1).elim (fun h1 => by omega) (fun h1 => by omega))
                              · refine Tr.aload_n (pc := 387) (i := 0) d_X12_operand_387 rfl rfl ?_
                                refine Tr.iconst (pc := 388) d_X12_operand_388 (by decide) ?_
                                refine Tr.aload_n (pc := 389) (i := 0) d_X12_operand_389 rfl rfl ?_
                                refine Tr.getf (pc := 390) d_X12_operand_390 f_12_23 (by decide) (by decide) (ty_120 hS.1.1) ?_
                                refine Tr.tp g120_4 k374_120_4 ?_
                                refine Tr.callV (pc := 393) (as := [_, _]) d_X12_operand_393 s_12_389 ok_X12_blame rfl rfl (Nat.le_of_ble_eq_true rfl) (Nat.le_of_ble_eq_true rfl) (by decide) (ty_120 hS.1.1) ?_
                                refine Tr.imp (Tr.deep (by decide) (ns_X12_blame_120_w1 (G120_8 := u335_120_8) hS.1 (k374_120_8) 3 (by omega) g120_4 (by and_intros <;> omega))) ?_
                                rintro M393 _ ⟨h393, s393_120_8, es393_120_8, bs393_120_8, rfl, z393_0⟩
                                have hS := St.tr hS h393 (by decide) (by decide)
                                refine Tr.sc [] rfl ?_
                                refine Tr.pick [0, 1, 2] (ls2 := [(0, (2, 120)), (3, (0, p374_3)), (4, (0, p374_4))]) rfl ?_
                                exact J396 _ _ _ _ hS (by and_intros <;> omega) (by and_intros <;> omega) (by and_intros <;> omega) ((kp_X12_blame_120_w1_120_3 h393).trans k374_120_3) ((kp_X12_blame_120_w1_120_36 h393).trans k374_120_36) ((kp_X12_blame_120_w1_120_4 h393).trans k374_120_4) ((kp_X12_blame_120_w1_120_43 h393).trans k374_120_43) ((kp_X12_blame_120_w1_120_44 h393).trans k374_120_44) ((kp_X12_blame_120_w1_120_46 h393).trans k374_120_46) ((kp_X12_blame_120_w1_120_5 h393).trans k374_120_5) ((kp_X12_blame_120_w1_120_50 h393).trans k374_120_50) ((kp_X12_blame_120_w1_120_6 h393).trans k374_120_6) ((kp_X12_blame_120_w1_120_7 h393).trans k374_120_7) es393_120_8 ((kp_X12_blame_120_w1_136_0 h393).trans k374_136_0) ((ka_X12_blame_120_w1_145 h393 _).trans k374_145_g120_431n1) ((ka_X12_blame_120_w1_147 h393 _).trans k374_147_g120_431n1) ((nb2v_of (fun j => ((ka_X12_blame_120_w1_150 h393 _).trans rfl)) ((kp_X12_blame_120_w1_120_46 h393).trans rfl)).trans k374_9001_0) ((n4v_of (fun j => ((ka_X12_blame_120_w1_145 h393 _).trans rfl)) ((kp_X12_blame_120_w1_120_43 h393).trans rfl)).trans k374_9002_0) ((Dv0_of (fun j => ((ka_X12_blame_120_w1_143 h393 _).trans rfl)) (fun j => ((ka_X12_blame_120_w1_140 h393 _).trans rfl)) ((kp_X12_blame_120_w1_136_0 h393).trans rfl) ((kp_X12_blame_120_w1_120_36 h393).trans rfl)).trans k374_9003_0) ((fr0_of (fun j => ((ka_X12_blame_120_w1_145 h393 _).trans rfl))).trans k374_9005_0) ((tav_of ((kp_X12_blame_120_w1_120_5 h393).trans rfl) ((kp_X12_blame_120_w1_120_3 h393).trans rfl)).trans k374_9010_0) (by exact (hd_o z393_0).elim (fun h1 => by omega) (fun h1 => by omega)) (by exact (hd_o z393_0).elim (fun h1 => by omega) (fun h1 => by omega))
                          refine Tr.icmp_ne (pc := 359) (tgt := 374) d_X12_operand_359 rfl (fun c359 => ?_) (fun c359 => ?_)
                          · have c359b : 0 ≤ q354_0 ∧ q354_0 ≤ 2 := by omega
                            replace c359 := hd_i c359
                            refine Tr.pick [1, 2, 0] (ls2 := [(0, (2, 120)), (3, (0, q295_0)), (4, (0, q354_0))]) rfl ?_
                            exact J374 _ _ _ hS (by and_intros <;> omega) (by and_intros <;> omega) k354_120_3 k354_120_36 k354_120_4 k354_120_43 k354_120_44 k354_120_46 k354_120_5 k354_120_50 k354_120_6 k354_120_7 k354_120_8 k354_136_0 k354_145_g120_431n1 k354_147_g120_431n1 k354_9001_0 k354_9002_0 k354_9003_0 k354_9005_0 k354_9010_0 (by omega) (by first | exact (hd_o t335_0) | exact (hd_o t335_0).elim (fun h1 => by omega) (fun h1 => by omega))
                          · refine Tr.iconst (pc := 362) d_X12_operand_362 (by decide) ?_
                            refine Tr.istore_n (pc := 363) (i := 3) (ls2 := [(3, (0, 2)), (4, (0, q354_0)), (0, (2, 120))]) d_X12_operand_363 rfl (by decide) rfl ?_
                            refine Tr.aload_n (pc := 364) (i := 0) d_X12_operand_364 rfl rfl ?_
                            refine Tr.aload_n (pc := 365) (i := 0) d_X12_operand_365 rfl rfl ?_
                            refine Tr.getf (pc := 366) d_X12_operand_366 f_12_32 (by decide) (by decide) (ty_120 hS.1.1) ?_
                            refine Tr.tp g120_7 k354_120_7 ?_
                            refine Tr.callV (pc := 369) (as := [_]) d_X12_operand_369 s_12_464 ok_X12_varOf rfl rfl (Nat.le_of_ble_eq_true rfl) (Nat.le_of_ble_eq_true rfl) (by decide) (ty_120 hS.1.1) ?_
                            refine Tr.imp (Tr.deep (by decide) (sp_X12_varOf_120_w1 hS.1.wk ((kp_X12_operand_120_w1_120_37 hS).trans en_120_37) g120_7 (by omega))) ?_
                            rintro M369 _ ⟨h369, r369, rfl, lr369, ur369⟩
                            have h369 := St.rn h369 (Pm0.of hS.1.2.2.2.2 (fun _ => (ka_X12_varOf_120_w1_131 h369 _)) (fun _ => (ka_X12_varOf_120_w1_137 h369 _)) (fun _ => (ka_X12_varOf_120_w1_138 h369 _)) (fun _ => (ka_X12_varOf_120_w1_139 h369 _)) (fun _ => (ka_X12_varOf_120_w1_140 h369 _)) (fun _ => (ka_X12_varOf_120_w1_141 h369 _)) (fun _ => (ka_X12_varOf_120_w1_142 h369 _)) (fun _ => (ka_X12_varOf_120_w1_143 h369 _)) (fun _ => (ka_X12_varOf_120_w1_151 h369 _)) (fun _ => (ka_X12_varOf_120_w1_152 h369 _)) (kp_X12_varOf_120_w1_126_0 h369) (kp_X12_varOf_120_w1_126_1 h369) (kp_X12_varOf_120_w1_136_0 h369) (kp_X12_varOf_120_w1_136_1 h369) (kp_X12_varOf_120_w1_123_0 h369) (kp_X12_varOf_120_w1_123_1 h369) (kp_X12_varOf_120_w1_124_0 h369) (kp_X12_varOf_120_w1_124_1 h369) (kp_X12_varOf_120_w1_120_8 h369) (kp_X12_varOf_120_w1_120_36 h369) (kp_X12_varOf_120_w1_120_50 h369))
                            have hS := St.tr hS h369 (by decide) (by decide)
                            refine Tr.sc [(0, r369)] rfl ?_
                            refine Tr.istore (pc := 372) (i := 4) (ls2 := [(4, (0, r369)), (3, (0, 2)), (0, (2, 120))]) d_X12_operand_372 (by decide) rfl ?_
                            refine Tr.pick [2, 1, 0] (ls2 := [(0, (2, 120)), (3, (0, 2)), (4, (0, r369))]) rfl ?_
                            exact J374 _ _ _ hS (by omega) (by and_intros <;> omega) ((kp_X12_varOf_120_w1_120_3 h369).trans k354_120_3) ((kp_X12_varOf_120_w1_120_36 h369).trans k354_120_36) ((kp_X12_varOf_120_w1_120_4 h369).trans k354_120_4) ((kp_X12_varOf_120_w1_120_43 h369).trans k354_120_43) ((kp_X12_varOf_120_w1_120_44 h369).trans k354_120_44) ((kp_X12_varOf_120_w1_120_46 h369).trans k354_120_46) ((kp_X12_varOf_120_w1_120_5 h369).trans k354_120_5) ((kp_X12_varOf_120_w1_120_50 h369).trans k354_120_50) ((kp_X12_varOf_120_w1_120_6 h369).trans k354_120_6) ((kp_X12_varOf_120_w1_120_7 h369).trans k354_120_7) ((kp_X12_varOf_120_w1_120_8 h369).trans k354_120_8) ((kp_X12_varOf_120_w1_136_0 h369).trans k354_136_0) ((ka_X12_varOf_120_w1_145 h369 _).trans k354_145_g120_431n1) ((ka_X12_varOf_120_w1_147 h369 _).trans k354_147_g120_431n1) ((nb2v_of (fun j => ((ka_X12_varOf_120_w1_150 h369 _).trans rfl)) ((kp_X12_varOf_120_w1_120_46 h369).trans rfl)).trans k354_9001_0) ((n4v_of (fun j => ((ka_X12_varOf_120_w1_145 h369 _).trans rfl)) ((kp_X12_varOf_120_w1_120_43 h369).trans rfl)).trans k354_9002_0) ((Dv0_of (fun j => ((ka_X12_varOf_120_w1_143 h369 _).trans rfl)) (fun j => ((ka_X12_varOf_120_w1_140 h369 _).trans rfl)) ((kp_X12_varOf_120_w1_136_0 h369).trans rfl) ((kp_X12_varOf_120_w1_120_36 h369).trans rfl)).trans k354_9003_0) ((fr0_of (fun j => ((ka_X12_varOf_120_w1_145 h369 _).trans rfl))).trans k354_9005_0) ((tav_of ((kp_X12_varOf_120_w1_120_5 h369).trans rfl) ((kp_X12_varOf_120_w1_120_3 h369).trans rfl)).trans k354_9010_0) (by omega) (by first | exact (hd_o t335_0) | exact (hd_o t335_0).elim (fun h1 => by omega) (fun h1 => by omega))
                        refine Tr.if_le (pc := 339) (tgt := 346) d_X12_operand_339 rfl (fun c339 => ?_) (fun c339 => ?_)
                        · refine Tr.aload_n (pc := 346) (i := 0) d_X12_operand_346 rfl rfl ?_
                          refine Tr.aload_n (pc := 347) (i := 0) d_X12_operand_347 rfl rfl ?_
                          refine Tr.getf (pc := 348) d_X12_operand_348 f_12_32 (by decide) (by decide) (ty_120 hS.1.1) ?_
                          refine Tr.tp g120_7 k335_120_7 ?_
                          refine Tr.callV (pc := 351) (as := [_]) d_X12_operand_351 s_12_461 ok_X12_inputOf rfl rfl (Nat.le_of_ble_eq_true rfl) (Nat.le_of_ble_eq_true rfl) (by decide) (ty_120 hS.1.1) ?_
                          refine Tr.imp (Tr.deep (by decide) (sp_X12_inputOf_120_w1 hS.1.wk ((kp_X12_operand_120_w1_120_37 hS).trans en_120_37) g120_7 (by omega))) ?_
                          rintro M351 _ ⟨h351, r351, rfl, lr351, ur351⟩
                          have h351 := St.rn h351 (Pm0.of hS.1.2.2.2.2 (fun _ => (ka_X12_inputOf_120_w1_131 h351 _)) (fun _ => (ka_X12_inputOf_120_w1_137 h351 _)) (fun _ => (ka_X12_inputOf_120_w1_138 h351 _)) (fun _ => (ka_X12_inputOf_120_w1_139 h351 _)) (fun _ => (ka_X12_inputOf_120_w1_140 h351 _)) (fun _ => (ka_X12_inputOf_120_w1_141 h351 _)) (fun _ => (ka_X12_inputOf_120_w1_142 h351 _)) (fun _ => (ka_X12_inputOf_120_w1_143 h351 _)) (fun _ => (ka_X12_inputOf_120_w1_151 h351 _)) (fun _ => (ka_X12_inputOf_120_w1_152 h351 _)) (kp_X12_inputOf_120_w1_126_0 h351) (kp_X12_inputOf_120_w1_126_1 h351) (kp_X12_inputOf_120_w1_136_0 h351) (kp_X12_inputOf_120_w1_136_1 h351) (kp_X12_inputOf_120_w1_123_0 h351) (kp_X12_inputOf_120_w1_123_1 h351) (kp_X12_inputOf_120_w1_124_0 h351) (kp_X12_inputOf_120_w1_124_1 h351) (kp_X12_inputOf_120_w1_120_8 h351) (kp_X12_inputOf_120_w1_120_36 h351) (kp_X12_inputOf_120_w1_120_50 h351))
                          have hS := St.tr hS h351 (by decide) (by decide)
                          refine Tr.sc [(0, r351)] rfl ?_
                          refine Tr.pick [0, 1] (ls2 := [(0, (2, 120)), (3, (0, q295_0))]) rfl ?_
                          exact J354 _ _ hS (by and_intros <;> omega) ((kp_X12_inputOf_120_w1_120_3 h351).trans k335_120_3) ((kp_X12_inputOf_120_w1_120_36 h351).trans k335_120_36) ((kp_X12_inputOf_120_w1_120_4 h351).trans k335_120_4) ((kp_X12_inputOf_120_w1_120_43 h351).trans k335_120_43) ((kp_X12_inputOf_120_w1_120_44 h351).trans k335_120_44) ((kp_X12_inputOf_120_w1_120_46 h351).trans k335_120_46) ((kp_X12_inputOf_120_w1_120_5 h351).trans k335_120_5) ((kp_X12_inputOf_120_w1_120_50 h351).trans k335_120_50) ((kp_X12_inputOf_120_w1_120_6 h351).trans k335_120_6) ((kp_X12_inputOf_120_w1_120_7 h351).trans k335_120_7) ((kp_X12_inputOf_120_w1_120_8 h351).trans k335_120_8) ((kp_X12_inputOf_120_w1_136_0 h351).trans k335_136_0) ((ka_X12_inputOf_120_w1_145 h351 _).trans k335_145_g120_431n1) ((ka_X12_inputOf_120_w1_147 h351 _).trans k335_147_g120_431n1) ((nb2v_of (fun j => ((ka_X12_inputOf_120_w1_150 h351 _).trans rfl)) ((kp_X12_inputOf_120_w1_120_46 h351).trans rfl)).trans k335_9001_0) ((n4v_of (fun j => ((ka_X12_inputOf_120_w1_145 h351 _).trans rfl)) ((kp_X12_inputOf_120_w1_120_43 h351).trans rfl)).trans k335_9002_0) ((Dv0_of (fun j => ((ka_X12_inputOf_120_w1_143 h351 _).trans rfl)) (fun j => ((ka_X12_inputOf_120_w1_140 h351 _).trans rfl)) ((kp_X12_inputOf_120_w1_136_0 h351).trans rfl) ((kp_X12_inputOf_120_w1_120_36 h351).trans rfl)).trans k335_9003_0) ((fr0_of (fun j => ((ka_X12_inputOf_120_w1_145 h351 _).trans rfl))).trans k335_9005_0) ((tav_of ((kp_X12_inputOf_120_w1_120_5 h351).trans rfl) ((kp_X12_inputOf_120_w1_120_3 h351).trans rfl)).trans k335_9010_0) (by and_intros <;> omega)
                        · refine Tr.iconst (pc := 342) d_X12_operand_342 (by decide) ?_
                          refine Tr.goto (pc := 343) (tgt := 354) d_X12_operand_343 rfl ?_
                          refine Tr.pick [0, 1] (ls2 := [(0, (2, 120)), (3, (0, q295_0))]) rfl ?_
                          exact J354 _ _ hS (by omega) k335_120_3 k335_120_36 k335_120_4 k335_120_43 k335_120_44 k335_120_46 k335_120_5 k335_120_50 k335_120_6 k335_120_7 k335_120_8 k335_136_0 k335_145_g120_431n1 k335_147_g120_431n1 k335_9001_0 k335_9002_0 k335_9003_0 k335_9005_0 k335_9010_0 (by and_intros <;> omega)
                      have J326 : ∀ (M : Mem), St Pm0 ws_X12_operand_120_w1 as_X12_operand_120_w1 M0 M → rd M 120 3 = g120_3 → rd M 120 36 = g120_36 → rd M 120 4 = g120_4 → rd M 120 43 = g120_43 → rd M 120 44 = g120_44 → rd M 120 46 = g120_46 → rd M 120 5 = g120_5 → rd M 120 50 = g120_50 → rd M 120 6 = g120_6 → rd M 120 7 = g120_7 → rd M 120 8 = g120_8 → rd M 136 0 = g136_0 → rd M 145 (g120_43 - 1) = r12 → rd M 147 (g120_43 - 1) = 0 → nb2v M = g9001_0 → n4v M = g9002_0 → Dv0 M = g9003_0 → fr0 M = g9005_0 → tav M = g9010_0 → (g120_3 = 0 ∨ g120_4 + 1 ≤ g120_5) → (g120_4 ≤ g120_5) → (g120_3 ≠ 1 ∨ g120_4 + 2 ≤ g120_5 ∨ g120_7 < 256) → (g120_4 ≤ g120_4 ∧ g120_5 ≤ g120_5 ∧ g9010_0 ≤ g9010_0) → (g120_8 = 0 ∨ g120_8 = g120_8) → Tr l K 3 mX12_operand 326 [(0, (2, 120)), (3, (0, q295_0))] [] M (q_X12_operand_120_w1 M0) := by
                        intro M  hS  k326_120_3 k326_120_36 k326_120_4 k326_120_43 k326_120_44 k326_120_46 k326_120_5 k326_120_50 k326_120_6 k326_120_7 k326_120_8 k326_136_0 k326_145_g120_431n1 k326_147_g120_431n1 k326_9001_0 k326_9002_0 k326_9003_0 k326_9005_0 k326_9010_0 t326_0 t326_1 t326_2 t326_3 t326_4
                        clear k295_120_3 k295_120_36 k295_120_4 k295_120_43 k295_120_44 k295_120_46 k295_120_5 k295_120_50 k295_120_6 k295_120_7 k295_120_8 k295_136_0 k295_145_g120_431n1 k295_147_g120_431n1 k295_9001_0 k295_9002_0 k295_9003_0 k295_9005_0 k295_9010_0
                        replace t326_0 := hd_i t326_0
                        replace t326_2 := hd_i t326_2
                        replace t326_4 := hd_i t326_4
                        refine Tr.aload_n (pc := 326) (i := 0) d_X12_operand_326 rfl rfl ?_
                        refine Tr.iconst (pc := 327) d_X12_operand_327 (by decide) ?_
                        refine Tr.aload_n (pc := 328) (i := 0) d_X12_operand_328 rfl rfl ?_
                        refine Tr.getf (pc := 329) d_X12_operand_329 f_12_23 (by decide) (by decide) (ty_120 hS.1.1) ?_
                        refine Tr.tp g120_4 k326_120_4 ?_
                        refine Tr.callV (pc := 332) (as := [_, _]) d_X12_operand_332 s_12_389 ok_X12_blame rfl rfl (Nat.le_of_ble_eq_true rfl) (Nat.le_of_ble_eq_true rfl) (by decide) (ty_120 hS.1.1) ?_
                        refine Tr.imp (Tr.deep (by decide) (ns_X12_blame_120_w1 (G120_8 := g120_8) hS.1 (k326_120_8) 1 (by omega) g120_4 (by and_intros <;> omega))) ?_
                        rintro M332 _ ⟨h332, s332_120_8, es332_120_8, bs332_120_8, rfl, z332_0⟩
                        have hS := St.tr hS h332 (by decide) (by decide)
                        refine Tr.sc [] rfl ?_
                        refine Tr.pick [0, 1] (ls2 := [(0, (2, 120)), (3, (0, q295_0))]) rfl ?_
                        exact J335 _ _ hS (by and_intros <;> omega) ((kp_X12_blame_120_w1_120_3 h332).trans k326_120_3) ((kp_X12_blame_120_w1_120_36 h332).trans k326_120_36) ((kp_X12_blame_120_w1_120_4 h332).trans k326_120_4) ((kp_X12_blame_120_w1_120_43 h332).trans k326_120_43) ((kp_X12_blame_120_w1_120_44 h332).trans k326_120_44) ((kp_X12_blame_120_w1_120_46 h332).trans k326_120_46) ((kp_X12_blame_120_w1_120_5 h332).trans k326_120_5) ((kp_X12_blame_120_w1_120_50 h332).trans k326_120_50) ((kp_X12_blame_120_w1_120_6 h332).trans k326_120_6) ((kp_X12_blame_120_w1_120_7 h332).trans k326_120_7) es332_120_8 ((kp_X12_blame_120_w1_136_0 h332).trans k326_136_0) ((ka_X12_blame_120_w1_145 h332 _).trans k326_145_g120_431n1) ((ka_X12_blame_120_w1_147 h332 _).trans k326_147_g120_431n1) ((nb2v_of (fun j => ((ka_X12_blame_120_w1_150 h332 _).trans rfl)) ((kp_X12_blame_120_w1_120_46 h332).trans rfl)).trans k326_9001_0) ((n4v_of (fun j => ((ka_X12_blame_120_w1_145 h332 _).trans rfl)) ((kp_X12_blame_120_w1_120_43 h332).trans rfl)).trans k326_9002_0) ((Dv0_of (fun j => ((ka_X12_blame_120_w1_143 h332 _).trans rfl)) (fun j => ((ka_X12_blame_120_w1_140 h332 _).trans rfl)) ((kp_X12_blame_120_w1_136_0 h332).trans rfl) ((kp_X12_blame_120_w1_120_36 h332).trans rfl)).trans k326_9003_0) ((fr0_of (fun j => ((ka_X12_blame_120_w1_145 h332 _).trans rfl))).trans k326_9005_0) ((tav_of ((kp_X12_blame_120_w1_120_5 h332).trans rfl) ((kp_X12_blame_120_w1_120_3 h332).trans rfl)).trans k326_9010_0) (by exact (hd_o z332_0).elim (fun h1 => by omega) (fun h1 => by omega))
                      refine Tr.icmp_ne (pc := 312) (tgt := 326) d_X12_operand_312 rfl (fun c312 => ?_) (fun c312 => ?_)
                      · replace c312 := hd_i c312
                        refine Tr.pick [2, 1] (ls2 := [(0, (2, 120)), (3, (0, q295_0))]) rfl ?_
                        exact J326 _ hS k295_120_3 k295_120_36 k295_120_4 k295_120_43 k295_120_44 k295_120_46 k295_120_5 k295_120_50 k295_120_6 k295_120_7 k295_120_8 k295_136_0 k295_145_g120_431n1 k295_147_g120_431n1 k295_9001_0 k295_9002_0 k295_9003_0 k295_9005_0 k295_9010_0 (by first | exact (hd_o t166_0) | exact (hd_o t166_0).elim (fun h1 => by omega) (fun h1 => by omega)) (by omega) (by first | exact (hd_o t166_2) | exact (hd_o t166_2).elim (fun h1 => by omega) (fun h1 => h1.elim (fun h1 => by omega) (fun h1 => by omega))) (by and_intros <;> omega) (by first | exact (hd_o t166_4) | exact (hd_o t166_4).elim (fun h1 => by omega) (fun h1 => by omega))
                      · refine Tr.aload_n (pc := 315) (i := 0) d_X12_operand_315 rfl rfl ?_
                        refine Tr.aload_n (pc := 316) (i := 0) d_X12_operand_316 rfl rfl ?_
                        refine Tr.getf (pc := 317) d_X12_operand_317 f_12_32 (by decide) (by decide) (ty_120 hS.1.1) ?_
                        refine Tr.tp g120_7 k295_120_7 ?_
                        refine Tr.callV (pc := 320) (as := [_]) d_X12_operand_320 s_12_453 ok_X12_isOwn rfl rfl (Nat.le_of_ble_eq_true rfl) (Nat.le_of_ble_eq_true rfl) (by decide) (ty_120 hS.1.1) ?_
                        refine Tr.imp (Tr.deep (by decide) (sp_X12_isOwn_120 hS.1.wk g120_7 (by omega))) ?_
                        rintro M320 _ ⟨h320, r320, rfl, lr320, ur320⟩
                        have h320 := St.rn h320 (Pm0.of hS.1.2.2.2.2 (fun _ => (ka_X12_isOwn_120_131 h320 _)) (fun _ => (ka_X12_isOwn_120_137 h320 _)) (fun _ => (ka_X12_isOwn_120_138 h320 _)) (fun _ => (ka_X12_isOwn_120_139 h320 _)) (fun _ => (ka_X12_isOwn_120_140 h320 _)) (fun _ => (ka_X12_isOwn_120_141 h320 _)) (fun _ => (ka_X12_isOwn_120_142 h320 _)) (fun _ => (ka_X12_isOwn_120_143 h320 _)) (fun _ => (ka_X12_isOwn_120_151 h320 _)) (fun _ => (ka_X12_isOwn_120_152 h320 _)) (kp_X12_isOwn_120_126_0 h320) (kp_X12_isOwn_120_126_1 h320) (kp_X12_isOwn_120_136_0 h320) (kp_X12_isOwn_120_136_1 h320) (kp_X12_isOwn_120_123_0 h320) (kp_X12_isOwn_120_123_1 h320) (kp_X12_isOwn_120_124_0 h320) (kp_X12_isOwn_120_124_1 h320) (kp_X12_isOwn_120_120_8 h320) (kp_X12_isOwn_120_120_36 h320) (kp_X12_isOwn_120_120_50 h320))
                        have hS := St.tr hS h320 (by decide) (by decide)
                        refine Tr.sc [(0, r320)] rfl ?_
                        refine Tr.if_eq (pc := 323) (tgt := 335) d_X12_operand_323 rfl (fun c323 => ?_) (fun c323 => ?_)
                        · refine Tr.pick [2, 1] (ls2 := [(0, (2, 120)), (3, (0, q295_0))]) rfl ?_
                          exact J335 _ _ hS (by and_intros <;> omega) ((kp_X12_isOwn_120_120_3 h320).trans k295_120_3) ((kp_X12_isOwn_120_120_36 h320).trans k295_120_36) ((kp_X12_isOwn_120_120_4 h320).trans k295_120_4) ((kp_X12_isOwn_120_120_43 h320).trans k295_120_43) ((kp_X12_isOwn_120_120_44 h320).trans k295_120_44) ((kp_X12_isOwn_120_120_46 h320).trans k295_120_46) ((kp_X12_isOwn_120_120_5 h320).trans k295_120_5) ((kp_X12_isOwn_120_120_50 h320).trans k295_120_50) ((kp_X12_isOwn_120_120_6 h320).trans k295_120_6) ((kp_X12_isOwn_120_120_7 h320).trans k295_120_7) ((kp_X12_isOwn_120_120_8 h320).trans k295_120_8) ((kp_X12_isOwn_120_136_0 h320).trans k295_136_0) ((ka_X12_isOwn_120_145 h320 _).trans k295_145_g120_431n1) ((ka_X12_isOwn_120_147 h320 _).trans k295_147_g120_431n1) ((nb2v_of (fun j => ((ka_X12_isOwn_120_150 h320 _).trans rfl)) ((kp_X12_isOwn_120_120_46 h320).trans rfl)).trans k295_9001_0) ((n4v_of (fun j => ((ka_X12_isOwn_120_145 h320 _).trans rfl)) ((kp_X12_isOwn_120_120_43 h320).trans rfl)).trans k295_9002_0) ((Dv0_of (fun j => ((ka_X12_isOwn_120_143 h320 _).trans rfl)) (fun j => ((ka_X12_isOwn_120_140 h320 _).trans rfl)) ((kp_X12_isOwn_120_136_0 h320).trans rfl) ((kp_X12_isOwn_120_120_36 h320).trans rfl)).trans k295_9003_0) ((fr0_of (fun j => ((ka_X12_isOwn_120_145 h320 _).trans rfl))).trans k295_9005_0) ((tav_of ((kp_X12_isOwn_120_120_5 h320).trans rfl) ((kp_X12_isOwn_120_120_3 h320).trans rfl)).trans k295_9010_0) (by omega)
                        · have c323b : 1 ≤ r320 ∧ r320 ≤ 1 := by omega
                          replace c323 := hd_i c323
                          refine Tr.pick [2, 1] (ls2 := [(0, (2, 120)), (3, (0, q295_0))]) rfl ?_
                          exact J326 _ hS ((kp_X12_isOwn_120_120_3 h320).trans k295_120_3) ((kp_X12_isOwn_120_120_36 h320).trans k295_120_36) ((kp_X12_isOwn_120_120_4 h320).trans k295_120_4) ((kp_X12_isOwn_120_120_43 h320).trans k295_120_43) ((kp_X12_isOwn_120_120_44 h320).trans k295_120_44) ((kp_X12_isOwn_120_120_46 h320).trans k295_120_46) ((kp_X12_isOwn_120_120_5 h320).trans k295_120_5) ((kp_X12_isOwn_120_120_50 h320).trans k295_120_50) ((kp_X12_isOwn_120_120_6 h320).trans k295_120_6) ((kp_X12_isOwn_120_120_7 h320).trans k295_120_7) ((kp_X12_isOwn_120_120_8 h320).trans k295_120_8) ((kp_X12_isOwn_120_136_0 h320).trans k295_136_0) ((ka_X12_isOwn_120_145 h320 _).trans k295_145_g120_431n1) ((ka_X12_isOwn_120_147 h320 _).trans k295_147_g120_431n1) ((nb2v_of (fun j => ((ka_X12_isOwn_120_150 h320 _).trans rfl)) ((kp_X12_isOwn_120_120_46 h320).trans rfl)).trans k295_9001_0) ((n4v_of (fun j => ((ka_X12_isOwn_120_145 h320 _).trans rfl)) ((kp_X12_isOwn_120_120_43 h320).trans rfl)).trans k295_9002_0) ((Dv0_of (fun j => ((ka_X12_isOwn_120_143 h320 _).trans rfl)) (fun j => ((ka_X12_isOwn_120_140 h320 _).trans rfl)) ((kp_X12_isOwn_120_136_0 h320).trans rfl) ((kp_X12_isOwn_120_120_36 h320).trans rfl)).trans k295_9003_0) ((fr0_of (fun j => ((ka_X12_isOwn_120_145 h320 _).trans rfl))).trans k295_9005_0) ((tav_of ((kp_X12_isOwn_120_120_5 h320).trans rfl) ((kp_X12_isOwn_120_120_3 h320).trans rfl)).trans k295_9010_0) (by first | exact (hd_o t166_0) | exact (hd_o t166_0).elim (fun h1 => by omega) (fun h1 => by omega)) (by omega) (by first | exact (hd_o t166_2) | exact (hd_o t166_2).elim (fun h1 => by omega) (fun h1 => h1.elim (fun h1 => by omega) (fun h1 => by omega))) (by and_intros <;> omega) (by first | exact (hd_o t166_4) | exact (hd_o t166_4).elim (fun h1 => by omega) (fun h1 => by omega))
                  refine Tr.icmp_ne (pc := 273) (tgt := 280) d_X12_operand_273 rfl (fun c273 => ?_) (fun c273 => ?_)
                  · replace c273 := hd_i c273
                    refine Tr.aload_n (pc := 280) (i := 0) d_X12_operand_280 rfl rfl ?_
                    refine Tr.ldc2 (pc := 281) d_X12_operand_281 kl_12_447 (by decide) ?_
                    refine Tr.callV (pc := 284) (as := [_]) d_X12_operand_284 s_12_484 ok_X12_isWord rfl rfl (Nat.le_of_ble_eq_true rfl) (Nat.le_of_ble_eq_true rfl) (by decide) (ty_120 hS.1.1) ?_
                    refine Tr.imp (Tr.deep (by decide) (ns_X12_isWord_120 (G120_3 := g120_3) (G120_7 := g120_7) hS.1.wk (((kp_X12_isWord_120_120_3 h196).trans ((kp_X12_isWord_120_120_3 h186).trans ((kp_X12_isSign_120_120_3 h169).trans k166_120_3)))) (((kp_X12_isWord_120_120_7 h196).trans ((kp_X12_isWord_120_120_7 h186).trans ((kp_X12_isSign_120_120_7 h169).trans k166_120_7)))) 1953063787 (by omega))) ?_
                    rintro M284 _ ⟨h284, r284, rfl, lr284, ur284, z284_0⟩
                    have h284 := St.rn h284 (Pm0.of hS.1.2.2.2.2 (fun _ => (ka_X12_isWord_120_131 h284 _)) (fun _ => (ka_X12_isWord_120_137 h284 _)) (fun _ => (ka_X12_isWord_120_138 h284 _)) (fun _ => (ka_X12_isWord_120_139 h284 _)) (fun _ => (ka_X12_isWord_120_140 h284 _)) (fun _ => (ka_X12_isWord_120_141 h284 _)) (fun _ => (ka_X12_isWord_120_142 h284 _)) (fun _ => (ka_X12_isWord_120_143 h284 _)) (fun _ => (ka_X12_isWord_120_151 h284 _)) (fun _ => (ka_X12_isWord_120_152 h284 _)) (kp_X12_isWord_120_126_0 h284) (kp_X12_isWord_120_126_1 h284) (kp_X12_isWord_120_136_0 h284) (kp_X12_isWord_120_136_1 h284) (kp_X12_isWord_120_123_0 h284) (kp_X12_isWord_120_123_1 h284) (kp_X12_isWord_120_124_0 h284) (kp_X12_isWord_120_124_1 h284) (kp_X12_isWord_120_120_8 h284) (kp_X12_isWord_120_120_36 h284) (kp_X12_isWord_120_120_50 h284))
                    have hS := St.tr hS h284 (by decide) (by decide)
                    refine Tr.sc [(0, r284)] rfl ?_
                    refine Tr.if_eq (pc := 287) (tgt := 294) d_X12_operand_287 rfl (fun c287 => ?_) (fun c287 => ?_)
                    · refine Tr.iconst (pc := 294) d_X12_operand_294 (by decide) ?_
                      refine Tr.pick [0] (ls2 := [(0, (2, 120))]) rfl ?_
                      exact J295 _ _ hS (by omega) ((kp_X12_isWord_120_120_3 h284).trans ((kp_X12_isWord_120_120_3 h196).trans ((kp_X12_isWord_120_120_3 h186).trans ((kp_X12_isSign_120_120_3 h169).trans k166_120_3)))) ((kp_X12_isWord_120_120_36 h284).trans ((kp_X12_isWord_120_120_36 h196).trans ((kp_X12_isWord_120_120_36 h186).trans ((kp_X12_isSign_120_120_36 h169).trans k166_120_36)))) ((kp_X12_isWord_120_120_4 h284).trans ((kp_X12_isWord_120_120_4 h196).trans ((kp_X12_isWord_120_120_4 h186).trans ((kp_X12_isSign_120_120_4 h169).trans k166_120_4)))) ((kp_X12_isWord_120_120_43 h284).trans ((kp_X12_isWord_120_120_43 h196).trans ((kp_X12_isWord_120_120_43 h186).trans ((kp_X12_isSign_120_120_43 h169).trans k166_120_43)))) ((kp_X12_isWord_120_120_44 h284).trans ((kp_X12_isWord_120_120_44 h196).trans ((kp_X12_isWord_120_120_44 h186).trans ((kp_X12_isSign_120_120_44 h169).trans k166_120_44)))) ((kp_X12_isWord_120_120_46 h284).trans ((kp_X12_isWord_120_120_46 h196).trans ((kp_X12_isWord_120_120_46 h186).trans ((kp_X12_isSign_120_120_46 h169).trans k166_120_46)))) ((kp_X12_isWord_120_120_5 h284).trans ((kp_X12_isWord_120_120_5 h196).trans ((kp_X12_isWord_120_120_5 h186).trans ((kp_X12_isSign_120_120_5 h169).trans k166_120_5)))) ((kp_X12_isWord_120_120_50 h284).trans ((kp_X12_isWord_120_120_50 h196).trans ((kp_X12_isWord_120_120_50 h186).trans ((kp_X12_isSign_120_120_50 h169).trans k166_120_50)))) ((kp_X12_isWord_120_120_6 h284).trans ((kp_X12_isWord_120_120_6 h196).trans ((kp_X12_isWord_120_120_6 h186).trans ((kp_X12_isSign_120_120_6 h169).trans k166_120_6)))) ((kp_X12_isWord_120_120_7 h284).trans ((kp_X12_isWord_120_120_7 h196).trans ((kp_X12_isWord_120_120_7 h186).trans ((kp_X12_isSign_120_120_7 h169).trans k166_120_7)))) ((kp_X12_isWord_120_120_8 h284).trans ((kp_X12_isWord_120_120_8 h196).trans ((kp_X12_isWord_120_120_8 h186).trans ((kp_X12_isSign_120_120_8 h169).trans k166_120_8)))) ((kp_X12_isWord_120_136_0 h284).trans ((kp_X12_isWord_120_136_0 h196).trans ((kp_X12_isWord_120_136_0 h186).trans ((kp_X12_isSign_120_136_0 h169).trans k166_136_0)))) ((ka_X12_isWord_120_145 h284 _).trans ((ka_X12_isWord_120_145 h196 _).trans ((ka_X12_isWord_120_145 h186 _).trans ((ka_X12_isSign_120_145 h169 _).trans k166_145_g120_431n1)))) ((ka_X12_isWord_120_147 h284 _).trans ((ka_X12_isWord_120_147 h196 _).trans ((ka_X12_isWord_120_147 h186 _).trans ((ka_X12_isSign_120_147 h169 _).trans k166_147_g120_431n1)))) ((nb2v_of (fun j => ((ka_X12_isWord_120_150 h284 _).trans ((ka_X12_isWord_120_150 h196 _).trans ((ka_X12_isWord_120_150 h186 _).trans ((ka_X12_isSign_120_150 h169 _).trans rfl))))) ((kp_X12_isWord_120_120_46 h284).trans ((kp_X12_isWord_120_120_46 h196).trans ((kp_X12_isWord_120_120_46 h186).trans ((kp_X12_isSign_120_120_46 h169).trans rfl))))).trans k166_9001_0) ((n4v_of (fun j => ((ka_X12_isWord_120_145 h284 _).trans ((ka_X12_isWord_120_145 h196 _).trans ((ka_X12_isWord_120_145 h186 _).trans ((ka_X12_isSign_120_145 h169 _).trans rfl))))) ((kp_X12_isWord_120_120_43 h284).trans ((kp_X12_isWord_120_120_43 h196).trans ((kp_X12_isWord_120_120_43 h186).trans ((kp_X12_isSign_120_120_43 h169).trans rfl))))).trans k166_9002_0) ((Dv0_of (fun j => ((ka_X12_isWord_120_143 h284 _).trans ((ka_X12_isWord_120_143 h196 _).trans ((ka_X12_isWord_120_143 h186 _).trans ((ka_X12_isSign_120_143 h169 _).trans rfl))))) (fun j => ((ka_X12_isWord_120_140 h284 _).trans ((ka_X12_isWord_120_140 h196 _).trans ((ka_X12_isWord_120_140 h186 _).trans ((ka_X12_isSign_120_140 h169 _).trans rfl))))) ((kp_X12_isWord_120_136_0 h284).trans ((kp_X12_isWord_120_136_0 h196).trans ((kp_X12_isWord_120_136_0 h186).trans ((kp_X12_isSign_120_136_0 h169).trans rfl)))) ((kp_X12_isWord_120_120_36 h284).trans ((kp_X12_isWord_120_120_36 h196).trans ((kp_X12_isWord_120_120_36 h186).trans ((kp_X12_isSign_120_120_36 h169).trans rfl))))).trans k166_9003_0) ((fr0_of (fun j => ((ka_X12_isWord_120_145 h284 _).trans ((ka_X12_isWord_120_145 h196 _).trans ((ka_X12_isWord_120_145 h186 _).trans ((ka_X12_isSign_120_145 h169 _).trans rfl)))))).trans k166_9005_0) ((tav_of ((kp_X12_isWord_120_120_5 h284).trans ((kp_X12_isWord_120_120_5 h196).trans ((kp_X12_isWord_120_120_5 h186).trans ((kp_X12_isSign_120_120_5 h169).trans rfl)))) ((kp_X12_isWord_120_120_3 h284).trans ((kp_X12_isWord_120_120_3 h196).trans ((kp_X12_isWord_120_120_3 h186).trans ((kp_X12_isSign_120_120_3 h169).trans rfl))))).trans k166_9010_0) (by omega) (by omega)
                    · have c287b : 1 ≤ r284 ∧ r284 ≤ 1 := by omega
                      replace c287 := hd_i c287
                      refine Tr.iconst (pc := 290) d_X12_operand_290 (by decide) ?_
                      refine Tr.goto (pc := 291) (tgt := 295) d_X12_operand_291 rfl ?_
                      refine Tr.pick [0] (ls2 := [(0, (2, 120))]) rfl ?_
                      exact J295 _ _ hS (by omega) ((kp_X12_isWord_120_120_3 h284).trans ((kp_X12_isWord_120_120_3 h196).trans ((kp_X12_isWord_120_120_3 h186).trans ((kp_X12_isSign_120_120_3 h169).trans k166_120_3)))) ((kp_X12_isWord_120_120_36 h284).trans ((kp_X12_isWord_120_120_36 h196).trans ((kp_X12_isWord_120_120_36 h186).trans ((kp_X12_isSign_120_120_36 h169).trans k166_120_36)))) ((kp_X12_isWord_120_120_4 h284).trans ((kp_X12_isWord_120_120_4 h196).trans ((kp_X12_isWord_120_120_4 h186).trans ((kp_X12_isSign_120_120_4 h169).trans k166_120_4)))) ((kp_X12_isWord_120_120_43 h284).trans ((kp_X12_isWord_120_120_43 h196).trans ((kp_X12_isWord_120_120_43 h186).trans ((kp_X12_isSign_120_120_43 h169).trans k166_120_43)))) ((kp_X12_isWord_120_120_44 h284).trans ((kp_X12_isWord_120_120_44 h196).trans ((kp_X12_isWord_120_120_44 h186).trans ((kp_X12_isSign_120_120_44 h169).trans k166_120_44)))) ((kp_X12_isWord_120_120_46 h284).trans ((kp_X12_isWord_120_120_46 h196).trans ((kp_X12_isWord_120_120_46 h186).trans ((kp_X12_isSign_120_120_46 h169).trans k166_120_46)))) ((kp_X12_isWord_120_120_5 h284).trans ((kp_X12_isWord_120_120_5 h196).trans ((kp_X12_isWord_120_120_5 h186).trans ((kp_X12_isSign_120_120_5 h169).trans k166_120_5)))) ((kp_X12_isWord_120_120_50 h284).trans ((kp_X12_isWord_120_120_50 h196).trans ((kp_X12_isWord_120_120_50 h186).trans ((kp_X12_isSign_120_120_50 h169).trans k166_120_50)))) ((kp_X12_isWord_120_120_6 h284).trans ((kp_X12_isWord_120_120_6 h196).trans ((kp_X12_isWord_120_120_6 h186).trans ((kp_X12_isSign_120_120_6 h169).trans k166_120_6)))) ((kp_X12_isWord_120_120_7 h284).trans ((kp_X12_isWord_120_120_7 h196).trans ((kp_X12_isWord_120_120_7 h186).trans ((kp_X12_isSign_120_120_7 h169).trans k166_120_7)))) ((kp_X12_isWord_120_120_8 h284).trans ((kp_X12_isWord_120_120_8 h196).trans ((kp_X12_isWord_120_120_8 h186).trans ((kp_X12_isSign_120_120_8 h169).trans k166_120_8)))) ((kp_X12_isWord_120_136_0 h284).trans ((kp_X12_isWord_120_136_0 h196).trans ((kp_X12_isWord_120_136_0 h186).trans ((kp_X12_isSign_120_136_0 h169).trans k166_136_0)))) ((ka_X12_isWord_120_145 h284 _).trans ((ka_X12_isWord_120_145 h196 _).trans ((ka_X12_isWord_120_145 h186 _).trans ((ka_X12_isSign_120_145 h169 _).trans k166_145_g120_431n1)))) ((ka_X12_isWord_120_147 h284 _).trans ((ka_X12_isWord_120_147 h196 _).trans ((ka_X12_isWord_120_147 h186 _).trans ((ka_X12_isSign_120_147 h169 _).trans k166_147_g120_431n1)))) ((nb2v_of (fun j => ((ka_X12_isWord_120_150 h284 _).trans ((ka_X12_isWord_120_150 h196 _).trans ((ka_X12_isWord_120_150 h186 _).trans ((ka_X12_isSign_120_150 h169 _).trans rfl))))) ((kp_X12_isWord_120_120_46 h284).trans ((kp_X12_isWord_120_120_46 h196).trans ((kp_X12_isWord_120_120_46 h186).trans ((kp_X12_isSign_120_120_46 h169).trans rfl))))).trans k166_9001_0) ((n4v_of (fun j => ((ka_X12_isWord_120_145 h284 _).trans ((ka_X12_isWord_120_145 h196 _).trans ((ka_X12_isWord_120_145 h186 _).trans ((ka_X12_isSign_120_145 h169 _).trans rfl))))) ((kp_X12_isWord_120_120_43 h284).trans ((kp_X12_isWord_120_120_43 h196).trans ((kp_X12_isWord_120_120_43 h186).trans ((kp_X12_isSign_120_120_43 h169).trans rfl))))).trans k166_9002_0) ((Dv0_of (fun j => ((ka_X12_isWord_120_143 h284 _).trans ((ka_X12_isWord_120_143 h196 _).trans ((ka_X12_isWord_120_143 h186 _).trans ((ka_X12_isSign_120_143 h169 _).trans rfl))))) (fun j => ((ka_X12_isWord_120_140 h284 _).trans ((ka_X12_isWord_120_140 h196 _).trans ((ka_X12_isWord_120_140 h186 _).trans ((ka_X12_isSign_120_140 h169 _).trans rfl))))) ((kp_X12_isWord_120_136_0 h284).trans ((kp_X12_isWord_120_136_0 h196).trans ((kp_X12_isWord_120_136_0 h186).trans ((kp_X12_isSign_120_136_0 h169).trans rfl)))) ((kp_X12_isWord_120_120_36 h284).trans ((kp_X12_isWord_120_120_36 h196).trans ((kp_X12_isWord_120_120_36 h186).trans ((kp_X12_isSign_120_120_36 h169).trans rfl))))).trans k166_9003_0) ((fr0_of (fun j => ((ka_X12_isWord_120_145 h284 _).trans ((ka_X12_isWord_120_145 h196 _).trans ((ka_X12_isWord_120_145 h186 _).trans ((ka_X12_isSign_120_145 h169 _).trans rfl)))))).trans k166_9005_0) ((tav_of ((kp_X12_isWord_120_120_5 h284).trans ((kp_X12_isWord_120_120_5 h196).trans ((kp_X12_isWord_120_120_5 h186).trans ((kp_X12_isSign_120_120_5 h169).trans rfl)))) ((kp_X12_isWord_120_120_3 h284).trans ((kp_X12_isWord_120_120_3 h196).trans ((kp_X12_isWord_120_120_3 h186).trans ((kp_X12_isSign_120_120_3 h169).trans rfl))))).trans k166_9010_0) (by exact (hd_o z284_0).elim (fun h1 => by omega) (fun h1 => by omega)) (by omega)
                  · refine Tr.iconst (pc := 276) d_X12_operand_276 (by decide) ?_
                    refine Tr.goto (pc := 277) (tgt := 295) d_X12_operand_277 rfl ?_
                    refine Tr.pick [0] (ls2 := [(0, (2, 120))]) rfl ?_
                    exact J295 _ _ hS (by omega) ((kp_X12_isWord_120_120_3 h196).trans ((kp_X12_isWord_120_120_3 h186).trans ((kp_X12_isSign_120_120_3 h169).trans k166_120_3))) ((kp_X12_isWord_120_120_36 h196).trans ((kp_X12_isWord_120_120_36 h186).trans ((kp_X12_isSign_120_120_36 h169).trans k166_120_36))) ((kp_X12_isWord_120_120_4 h196).trans ((kp_X12_isWord_120_120_4 h186).trans ((kp_X12_isSign_120_120_4 h169).trans k166_120_4))) ((kp_X12_isWord_120_120_43 h196).trans ((kp_X12_isWord_120_120_43 h186).trans ((kp_X12_isSign_120_120_43 h169).trans k166_120_43))) ((kp_X12_isWord_120_120_44 h196).trans ((kp_X12_isWord_120_120_44 h186).trans ((kp_X12_isSign_120_120_44 h169).trans k166_120_44))) ((kp_X12_isWord_120_120_46 h196).trans ((kp_X12_isWord_120_120_46 h186).trans ((kp_X12_isSign_120_120_46 h169).trans k166_120_46))) ((kp_X12_isWord_120_120_5 h196).trans ((kp_X12_isWord_120_120_5 h186).trans ((kp_X12_isSign_120_120_5 h169).trans k166_120_5))) ((kp_X12_isWord_120_120_50 h196).trans ((kp_X12_isWord_120_120_50 h186).trans ((kp_X12_isSign_120_120_50 h169).trans k166_120_50))) ((kp_X12_isWord_120_120_6 h196).trans ((kp_X12_isWord_120_120_6 h186).trans ((kp_X12_isSign_120_120_6 h169).trans k166_120_6))) ((kp_X12_isWord_120_120_7 h196).trans ((kp_X12_isWord_120_120_7 h186).trans ((kp_X12_isSign_120_120_7 h169).trans k166_120_7))) ((kp_X12_isWord_120_120_8 h196).trans ((kp_X12_isWord_120_120_8 h186).trans ((kp_X12_isSign_120_120_8 h169).trans k166_120_8))) ((kp_X12_isWord_120_136_0 h196).trans ((kp_X12_isWord_120_136_0 h186).trans ((kp_X12_isSign_120_136_0 h169).trans k166_136_0))) ((ka_X12_isWord_120_145 h196 _).trans ((ka_X12_isWord_120_145 h186 _).trans ((ka_X12_isSign_120_145 h169 _).trans k166_145_g120_431n1))) ((ka_X12_isWord_120_147 h196 _).trans ((ka_X12_isWord_120_147 h186 _).trans ((ka_X12_isSign_120_147 h169 _).trans k166_147_g120_431n1))) ((nb2v_of (fun j => ((ka_X12_isWord_120_150 h196 _).trans ((ka_X12_isWord_120_150 h186 _).trans ((ka_X12_isSign_120_150 h169 _).trans rfl)))) ((kp_X12_isWord_120_120_46 h196).trans ((kp_X12_isWord_120_120_46 h186).trans ((kp_X12_isSign_120_120_46 h169).trans rfl)))).trans k166_9001_0) ((n4v_of (fun j => ((ka_X12_isWord_120_145 h196 _).trans ((ka_X12_isWord_120_145 h186 _).trans ((ka_X12_isSign_120_145 h169 _).trans rfl)))) ((kp_X12_isWord_120_120_43 h196).trans ((kp_X12_isWord_120_120_43 h186).trans ((kp_X12_isSign_120_120_43 h169).trans rfl)))).trans k166_9002_0) ((Dv0_of (fun j => ((ka_X12_isWord_120_143 h196 _).trans ((ka_X12_isWord_120_143 h186 _).trans ((ka_X12_isSign_120_143 h169 _).trans rfl)))) (fun j => ((ka_X12_isWord_120_140 h196 _).trans ((ka_X12_isWord_120_140 h186 _).trans ((ka_X12_isSign_120_140 h169 _).trans rfl)))) ((kp_X12_isWord_120_136_0 h196).trans ((kp_X12_isWord_120_136_0 h186).trans ((kp_X12_isSign_120_136_0 h169).trans rfl))) ((kp_X12_isWord_120_120_36 h196).trans ((kp_X12_isWord_120_120_36 h186).trans ((kp_X12_isSign_120_120_36 h169).trans rfl)))).trans k166_9003_0) ((fr0_of (fun j => ((ka_X12_isWord_120_145 h196 _).trans ((ka_X12_isWord_120_145 h186 _).trans ((ka_X12_isSign_120_145 h169 _).trans rfl))))).trans k166_9005_0) ((tav_of ((kp_X12_isWord_120_120_5 h196).trans ((kp_X12_isWord_120_120_5 h186).trans ((kp_X12_isSign_120_120_5 h169).trans rfl))) ((kp_X12_isWord_120_120_3 h196).trans ((kp_X12_isWord_120_120_3 h186).trans ((kp_X12_isSign_120_120_3 h169).trans rfl)))).trans k166_9010_0) (by omega) (by omega)
                · have c199b : 1 ≤ r196 ∧ r196 ≤ 1 := by omega
                  replace c199 := hd_i c199
                  refine Tr.pick [0] (ls2 := [(0, (2, 120))]) rfl ?_
                  exact J202 _ hS ((kp_X12_isWord_120_120_3 h196).trans ((kp_X12_isWord_120_120_3 h186).trans ((kp_X12_isSign_120_120_3 h169).trans k166_120_3))) ((kp_X12_isWord_120_120_36 h196).trans ((kp_X12_isWord_120_120_36 h186).trans ((kp_X12_isSign_120_120_36 h169).trans k166_120_36))) ((kp_X12_isWord_120_120_4 h196).trans ((kp_X12_isWord_120_120_4 h186).trans ((kp_X12_isSign_120_120_4 h169).trans k166_120_4))) ((kp_X12_isWord_120_120_43 h196).trans ((kp_X12_isWord_120_120_43 h186).trans ((kp_X12_isSign_120_120_43 h169).trans k166_120_43))) ((kp_X12_isWord_120_120_44 h196).trans ((kp_X12_isWord_120_120_44 h186).trans ((kp_X12_isSign_120_120_44 h169).trans k166_120_44))) ((kp_X12_isWord_120_120_46 h196).trans ((kp_X12_isWord_120_120_46 h186).trans ((kp_X12_isSign_120_120_46 h169).trans k166_120_46))) ((kp_X12_isWord_120_120_5 h196).trans ((kp_X12_isWord_120_120_5 h186).trans ((kp_X12_isSign_120_120_5 h169).trans k166_120_5))) ((kp_X12_isWord_120_120_50 h196).trans ((kp_X12_isWord_120_120_50 h186).trans ((kp_X12_isSign_120_120_50 h169).trans k166_120_50))) ((kp_X12_isWord_120_120_6 h196).trans ((kp_X12_isWord_120_120_6 h186).trans ((kp_X12_isSign_120_120_6 h169).trans k166_120_6))) ((kp_X12_isWord_120_120_7 h196).trans ((kp_X12_isWord_120_120_7 h186).trans ((kp_X12_isSign_120_120_7 h169).trans k166_120_7))) ((kp_X12_isWord_120_120_8 h196).trans ((kp_X12_isWord_120_120_8 h186).trans ((kp_X12_isSign_120_120_8 h169).trans k166_120_8))) ((kp_X12_isWord_120_136_0 h196).trans ((kp_X12_isWord_120_136_0 h186).trans ((kp_X12_isSign_120_136_0 h169).trans k166_136_0))) ((ka_X12_isWord_120_145 h196 _).trans ((ka_X12_isWord_120_145 h186 _).trans ((ka_X12_isSign_120_145 h169 _).trans k166_145_g120_431n1))) ((ka_X12_isWord_120_147 h196 _).trans ((ka_X12_isWord_120_147 h186 _).trans ((ka_X12_isSign_120_147 h169 _).trans k166_147_g120_431n1))) ((nb2v_of (fun j => ((ka_X12_isWord_120_150 h196 _).trans ((ka_X12_isWord_120_150 h186 _).trans ((ka_X12_isSign_120_150 h169 _).trans rfl)))) ((kp_X12_isWord_120_120_46 h196).trans ((kp_X12_isWord_120_120_46 h186).trans ((kp_X12_isSign_120_120_46 h169).trans rfl)))).trans k166_9001_0) ((n4v_of (fun j => ((ka_X12_isWord_120_145 h196 _).trans ((ka_X12_isWord_120_145 h186 _).trans ((ka_X12_isSign_120_145 h169 _).trans rfl)))) ((kp_X12_isWord_120_120_43 h196).trans ((kp_X12_isWord_120_120_43 h186).trans ((kp_X12_isSign_120_120_43 h169).trans rfl)))).trans k166_9002_0) ((Dv0_of (fun j => ((ka_X12_isWord_120_143 h196 _).trans ((ka_X12_isWord_120_143 h186 _).trans ((ka_X12_isSign_120_143 h169 _).trans rfl)))) (fun j => ((ka_X12_isWord_120_140 h196 _).trans ((ka_X12_isWord_120_140 h186 _).trans ((ka_X12_isSign_120_140 h169 _).trans rfl)))) ((kp_X12_isWord_120_136_0 h196).trans ((kp_X12_isWord_120_136_0 h186).trans ((kp_X12_isSign_120_136_0 h169).trans rfl))) ((kp_X12_isWord_120_120_36 h196).trans ((kp_X12_isWord_120_120_36 h186).trans ((kp_X12_isSign_120_120_36 h169).trans rfl)))).trans k166_9003_0) ((fr0_of (fun j => ((ka_X12_isWord_120_145 h196 _).trans ((ka_X12_isWord_120_145 h186 _).trans ((ka_X12_isSign_120_145 h169 _).trans rfl))))).trans k166_9005_0) ((tav_of ((kp_X12_isWord_120_120_5 h196).trans ((kp_X12_isWord_120_120_5 h186).trans ((kp_X12_isSign_120_120_5 h169).trans rfl))) ((kp_X12_isWord_120_120_3 h196).trans ((kp_X12_isWord_120_120_3 h186).trans ((kp_X12_isSign_120_120_3 h169).trans rfl)))).trans k166_9010_0) (by exact (hd_o z196_0).elim (fun h1 => by omega) (fun h1 => by omega))
            · have c172b : 1 ≤ r169 ∧ r169 ≤ 1 := by omega
              replace c172 := hd_i c172
              refine Tr.aload_n (pc := 175) (i := 0) d_X12_operand_175 rfl rfl ?_
              refine Tr.iconst (pc := 176) d_X12_operand_176 (by decide) ?_
              refine Tr.callV (pc := 177) (as := [_]) d_X12_operand_177 s_12_490 ok_X12_opens rfl rfl (Nat.le_of_ble_eq_true rfl) (Nat.le_of_ble_eq_true rfl) (by decide) (ty_120 hS.1.1) ?_
              refine Tr.imp (Tr.deep (by decide) (ns_X12_opens_120_w1 (G120_3 := g120_3) (G120_4 := g120_4) (G120_5 := g120_5) (G120_7 := g120_7) (G120_8 := g120_8) (G120_43 := g120_43) (G120_44 := g120_44) (G9002_0 := g9002_0) (G9005_0 := g9005_0) (G9010_0 := g9010_0) hS.1 (((kp_X12_isSign_120_120_3 h169).trans k166_120_3)) (((kp_X12_isSign_120_120_4 h169).trans k166_120_4)) (((kp_X12_isSign_120_120_5 h169).trans k166_120_5)) (((kp_X12_isSign_120_120_7 h169).trans k166_120_7)) (((kp_X12_isSign_120_120_8 h169).trans k166_120_8)) (((kp_X12_isSign_120_120_43 h169).trans k166_120_43)) (((kp_X12_isSign_120_120_44 h169).trans k166_120_44)) (((n4v_of (fun j => ((ka_X12_isSign_120_145 h169 _).trans rfl)) ((kp_X12_isSign_120_120_43 h169).trans rfl)).trans k166_9002_0)) (((fr0_of (fun j => ((ka_X12_isSign_120_145 h169 _).trans rfl))).trans k166_9005_0)) (((tav_of ((kp_X12_isSign_120_120_5 h169).trans rfl) ((kp_X12_isSign_120_120_3 h169).trans rfl)).trans k166_9010_0)) 2 (by omega) (by first | exact (hd_o t166_0) | exact (hd_o t166_0).elim (fun h1 => by omega) (fun h1 => by omega)) (by omega) (by first | exact (hd_o t166_2) | exact (hd_o t166_2).elim (fun h1 => by omega) (fun h1 => h1.elim (fun h1 => by omega) (fun h1 => by omega))) (by and_intros <;> omega) (by exact (hd_o z169_0).elim (fun h1 => by omega) (fun h1 => by omega)) (by omega) (by omega))) ?_
              rintro M177 _ ⟨h177, s177_120_3, s177_120_4, s177_120_5, s177_120_7, s177_120_8, s177_120_43, s177_120_44, s177_9002_0, s177_9005_0, s177_9010_0, es177_120_3, bs177_120_3, es177_120_4, bs177_120_4, es177_120_5, bs177_120_5, es177_120_7, bs177_120_7, es177_120_8, bs177_120_8, es177_120_43, bs177_120_43, es177_120_44, bs177_120_44, es177_9002_0, bs177_9002_0, es177_9005_0, bs177_9005_0, es177_9010_0, bs177_9010_0, rfl, z177_0, z177_1, z177_2, z177_3, z177_4, z177_5, z177_6, z177_7, z177_8, z177_9, z177_10⟩
              have hS := St.tr hS h177 (by decide) (by decide)
              refine Tr.sc [] rfl ?_
              refine Tr.iconst (pc := 180) d_X12_operand_180 (by decide) ?_
              have kr_120_3 : rd M177 120 3 = s177_120_3 := es177_120_3
              have kr_120_4 : rd M177 120 4 = s177_120_4 := es177_120_4
              have kr_120_5 : rd M177 120 5 = s177_120_5 := es177_120_5
              have kr_120_7 : rd M177 120 7 = s177_120_7 := es177_120_7
              have kr_120_8 : rd M177 120 8 = s177_120_8 := es177_120_8
              have kr_120_36 : rd M177 120 36 = g120_36 := ((kp_X12_opens_120_w1_120_36 h177).trans ((kp_X12_isSign_120_120_36 h169).trans k166_120_36))
              have kr_120_43 : rd M177 120 43 = s177_120_43 := es177_120_43
              have kr_120_44 : rd M177 120 44 = s177_120_44 := es177_120_44
              have kr_120_46 : rd M177 120 46 = g120_46 := ((kp_X12_opens_120_w1_120_46 h177).trans ((kp_X12_isSign_120_120_46 h169).trans k166_120_46))
              have kr_120_50 : rd M177 120 50 = g120_50 := ((kp_X12_opens_120_w1_120_50 h177).trans ((kp_X12_isSign_120_120_50 h169).trans k166_120_50))
              have kr_136_0 : rd M177 136 0 = g136_0 := ((kp_X12_opens_120_w1_136_0 h177).trans ((kp_X12_isSign_120_136_0 h169).trans k166_136_0))
              have kr_9001_0 : nb2v M177 = g9001_0 := ((nb2v_of (fun j => ((ka_X12_opens_120_w1_150 h177 _).trans ((ka_X12_isSign_120_150 h169 _).trans rfl))) ((kp_X12_opens_120_w1_120_46 h177).trans ((kp_X12_isSign_120_120_46 h169).trans rfl))).trans k166_9001_0)
              have kr_9002_0 : n4v M177 = s177_9002_0 := es177_9002_0
              have kr_9003_0 : Dv0 M177 = g9003_0 := ((Dv0_of (fun j => ((ka_X12_opens_120_w1_143 h177 _).trans ((ka_X12_isSign_120_143 h169 _).trans rfl))) (fun j => ((ka_X12_opens_120_w1_140 h177 _).trans ((ka_X12_isSign_120_140 h169 _).trans rfl))) ((kp_X12_opens_120_w1_136_0 h177).trans ((kp_X12_isSign_120_136_0 h169).trans rfl)) ((kp_X12_opens_120_w1_120_36 h177).trans ((kp_X12_isSign_120_120_36 h169).trans rfl))).trans k166_9003_0)
              have kr_9005_0 : fr0 M177 = s177_9005_0 := es177_9005_0
              have kr_9010_0 : tav M177 = s177_9010_0 := es177_9010_0
              exact Tr.zret (pc := 181) d_X12_operand_181 rfl (by omega) ⟨hS, _, rfl, by omega, by omega, (by first | exact (hd_o z177_0) | exact (hd_o z177_0).elim (fun h1 => by omega) (fun h1 => by omega)), (by omega), (by first | exact (hd_o z177_2) | exact (hd_o z177_2).elim (fun h1 => by omega) (fun h1 => h1.elim (fun h1 => by omega) (fun h1 => by omega))), (by and_intros <;> omega), (by first | exact (hd_o z177_4) | exact (hd_o z177_4).elim (fun h1 => by omega) (fun h1 => by omega)), (by first | exact (hd_o z177_5) | exact (hd_o z177_5).elim (fun h1 => by omega) (fun h1 => by omega)), (by exact (hd_o z177_7).elim (fun h1 => by omega) (fun h1 => (hd_o z169_0).elim (fun h2 => (hd_o t166_0).elim (fun h3 => by omega) (fun h3 => by omega)) (fun h2 => by omega))), (by omega), (by omega), (by omega), (by omega), (by omega), (by omega)⟩
          refine Tr.if_eq (pc := 121) (tgt := 166) d_X12_operand_121 rfl (fun c121 => ?_) (fun c121 => ?_)
          · refine Tr.pick [0] (ls2 := [(0, (2, 120))]) rfl ?_
            exact J166 _ hS k120_120_3 k120_120_36 k120_120_4 k120_120_43 k120_120_44 k120_120_46 k120_120_5 k120_120_50 k120_120_6 k120_120_7 k120_120_8 k120_136_0 k120_145_g120_431n1 k120_147_g120_431n1 k120_9001_0 k120_9002_0 k120_9003_0 k120_9005_0 k120_9010_0 (by first | exact (hd_o t120_0) | exact (hd_o t120_0).elim (fun h1 => by omega) (fun h1 => by omega)) (by omega) (by first | exact (hd_o t120_2) | exact (hd_o t120_2).elim (fun h1 => by omega) (fun h1 => h1.elim (fun h1 => by omega) (fun h1 => by omega))) (by and_intros <;> omega) (by first | exact (hd_o t120_4) | exact (hd_o t120_4).elim (fun h1 => by omega) (fun h1 => by omega))
          · have c121b : 1 ≤ q33_0 ∧ q33_0 ≤ 1 := by omega
            replace c121 := hd_i c121
            refine Tr.aload_n (pc := 124) (i := 0) d_X12_operand_124 rfl rfl ?_
            refine Tr.ldc2 (pc := 125) d_X12_operand_125 kl_12_445 (by decide) ?_
            refine Tr.callV (pc := 128) (as := [_]) d_X12_operand_128 s_12_484 ok_X12_isWord rfl rfl (Nat.le_of_ble_eq_true rfl) (Nat.le_of_ble_eq_true rfl) (by decide) (ty_120 hS.1.1) ?_
            refine Tr.imp (Tr.deep (by decide) (ns_X12_isWord_120 (G120_3 := g120_3) (G120_7 := g120_7) hS.1.wk (k120_120_3) (k120_120_7) 1751477348 (by omega))) ?_
            rintro M128 _ ⟨h128, r128, rfl, lr128, ur128, z128_0⟩
            have h128 := St.rn h128 (Pm0.of hS.1.2.2.2.2 (fun _ => (ka_X12_isWord_120_131 h128 _)) (fun _ => (ka_X12_isWord_120_137 h128 _)) (fun _ => (ka_X12_isWord_120_138 h128 _)) (fun _ => (ka_X12_isWord_120_139 h128 _)) (fun _ => (ka_X12_isWord_120_140 h128 _)) (fun _ => (ka_X12_isWord_120_141 h128 _)) (fun _ => (ka_X12_isWord_120_142 h128 _)) (fun _ => (ka_X12_isWord_120_143 h128 _)) (fun _ => (ka_X12_isWord_120_151 h128 _)) (fun _ => (ka_X12_isWord_120_152 h128 _)) (kp_X12_isWord_120_126_0 h128) (kp_X12_isWord_120_126_1 h128) (kp_X12_isWord_120_136_0 h128) (kp_X12_isWord_120_136_1 h128) (kp_X12_isWord_120_123_0 h128) (kp_X12_isWord_120_123_1 h128) (kp_X12_isWord_120_124_0 h128) (kp_X12_isWord_120_124_1 h128) (kp_X12_isWord_120_120_8 h128) (kp_X12_isWord_120_120_36 h128) (kp_X12_isWord_120_120_50 h128))
            have hS := St.tr hS h128 (by decide) (by decide)
            refine Tr.sc [(0, r128)] rfl ?_
            refine Tr.if_eq (pc := 131) (tgt := 166) d_X12_operand_131 rfl (fun c131 => ?_) (fun c131 => ?_)
            · refine Tr.pick [0] (ls2 := [(0, (2, 120))]) rfl ?_
              exact J166 _ hS ((kp_X12_isWord_120_120_3 h128).trans k120_120_3) ((kp_X12_isWord_120_120_36 h128).trans k120_120_36) ((kp_X12_isWord_120_120_4 h128).trans k120_120_4) ((kp_X12_isWord_120_120_43 h128).trans k120_120_43) ((kp_X12_isWord_120_120_44 h128).trans k120_120_44) ((kp_X12_isWord_120_120_46 h128).trans k120_120_46) ((kp_X12_isWord_120_120_5 h128).trans k120_120_5) ((kp_X12_isWord_120_120_50 h128).trans k120_120_50) ((kp_X12_isWord_120_120_6 h128).trans k120_120_6) ((kp_X12_isWord_120_120_7 h128).trans k120_120_7) ((kp_X12_isWord_120_120_8 h128).trans k120_120_8) ((kp_X12_isWord_120_136_0 h128).trans k120_136_0) ((ka_X12_isWord_120_145 h128 _).trans k120_145_g120_431n1) ((ka_X12_isWord_120_147 h128 _).trans k120_147_g120_431n1) ((nb2v_of (fun j => ((ka_X12_isWord_120_150 h128 _).trans rfl)) ((kp_X12_isWord_120_120_46 h128).trans rfl)).trans k120_9001_0) ((n4v_of (fun j => ((ka_X12_isWord_120_145 h128 _).trans rfl)) ((kp_X12_isWord_120_120_43 h128).trans rfl)).trans k120_9002_0) ((Dv0_of (fun j => ((ka_X12_isWord_120_143 h128 _).trans rfl)) (fun j => ((ka_X12_isWord_120_140 h128 _).trans rfl)) ((kp_X12_isWord_120_136_0 h128).trans rfl) ((kp_X12_isWord_120_120_36 h128).trans rfl)).trans k120_9003_0) ((fr0_of (fun j => ((ka_X12_isWord_120_145 h128 _).trans rfl))).trans k120_9005_0) ((tav_of ((kp_X12_isWord_120_120_5 h128).trans rfl) ((kp_X12_isWord_120_120_3 h128).trans rfl)).trans k120_9010_0) (by first | exact (hd_o t120_0) | exact (hd_o t120_0).elim (fun h1 => by omega) (fun h1 => by omega)) (by omega) (by first | exact (hd_o t120_2) | exact (hd_o t120_2).elim (fun h1 => by omega) (fun h1 => h1.elim (fun h1 => by omega) (fun h1 => by omega))) (by and_intros <;> omega) (by first | exact (hd_o t120_4) | exact (hd_o t120_4).elim (fun h1 => by omega) (fun h1 => by omega))
            · have c131b : 1 ≤ r128 ∧ r128 ≤ 1 := by omega
              replace c131 := hd_i c131
              refine Tr.aload_n (pc := 134) (i := 0) d_X12_operand_134 rfl rfl ?_
              refine Tr.callV (pc := 135) (as := []) d_X12_operand_135 s_12_396 ok_X12_next rfl rfl (Nat.le_of_ble_eq_true rfl) (Nat.le_of_ble_eq_true rfl) (by decide) (ty_120 hS.1.1) ?_
              refine Tr.imp (Tr.deep (by decide) (ns_X12_next_120_w1 (G120_3 := g120_3) (G120_5 := g120_5) (G120_8 := g120_8) (G9010_0 := g9010_0) hS.1 (((kp_X12_isWord_120_120_3 h128).trans k120_120_3)) (((kp_X12_isWord_120_120_5 h128).trans k120_120_5)) (((kp_X12_isWord_120_120_8 h128).trans k120_120_8)) (((tav_of ((kp_X12_isWord_120_120_5 h128).trans rfl) ((kp_X12_isWord_120_120_3 h128).trans rfl)).trans k120_9010_0)))) ?_
              rintro M135 _ ⟨h135, s135_120_3, s135_120_4, s135_120_5, s135_120_7, s135_120_8, s135_9010_0, es135_120_3, bs135_120_3, es135_120_4, bs135_120_4, es135_120_5, bs135_120_5, es135_120_7, bs135_120_7, es135_120_8, bs135_120_8, es135_9010_0, bs135_9010_0, rfl, z135_0, z135_1, z135_2, z135_3, z135_4, z135_5, z135_6⟩
              have hS := St.tr hS h135 (by decide) (by decide)
              refine Tr.sc [] rfl ?_
              refine Tr.aload_n (pc := 138) (i := 0) d_X12_operand_138 rfl rfl ?_
              refine Tr.iconst (pc := 139) d_X12_operand_139 (by decide) ?_
              refine Tr.callV (pc := 140) (as := [_]) d_X12_operand_140 s_12_493 ok_X12_asked rfl rfl (Nat.le_of_ble_eq_true rfl) (Nat.le_of_ble_eq_true rfl) (by decide) (ty_120 hS.1.1) ?_
              refine Tr.imp (Tr.deep (by decide) (ns_X12_asked_120_w1 (G120_3 := s135_120_3) (G120_4 := s135_120_4) (G120_5 := s135_120_5) (G120_7 := s135_120_7) (G120_8 := s135_120_8) (G9010_0 := s135_9010_0) hS.1 (es135_120_3) (es135_120_4) (es135_120_5) (es135_120_7) (es135_120_8) (es135_9010_0) ((kp_X12_operand_120_w1_120_37 hS).trans en_120_37) 0 (by omega) (by first | exact (hd_o z135_0) | exact (hd_o z135_0).elim (fun h1 => by omega) (fun h1 => by omega)) (by omega) (by first | exact (hd_o z135_2) | exact (hd_o z135_2).elim (fun h1 => by omega) (fun h1 => h1.elim (fun h1 => by omega) (fun h1 => by omega))))) ?_
              rintro M140 _ ⟨h140, s140_120_3, s140_120_4, s140_120_5, s140_120_7, s140_120_8, s140_9010_0, es140_120_3, bs140_120_3, es140_120_4, bs140_120_4, es140_120_5, bs140_120_5, es140_120_7, bs140_120_7, es140_120_8, bs140_120_8, es140_9010_0, bs140_9010_0, r140, rfl, lr140, ur140, z140_0, z140_1, z140_2, z140_3, z140_4, z140_5, z140_6⟩
              have hS := St.tr hS h140 (by decide) (by decide)
              refine Tr.sc [(0, r140)] rfl ?_
              refine Tr.istore_n (pc := 143) (i := 3) (ls2 := [(3, (0, r140)), (0, (2, 120)), (1, (0, (g120_43 - 1))), (2, (0, q33_0))]) d_X12_operand_143 rfl (by decide) rfl ?_
              refine Tr.aload_n (pc := 144) (i := 0) d_X12_operand_144 rfl rfl ?_
              refine Tr.getf (pc := 145) d_X12_operand_145 f_12_36 (by decide) (by decide) (ty_120 hS.1.1) ?_
              refine Tr.tp s140_120_8 es140_120_8 ?_
              have J157 : ∀ (M : Mem) (u157_120_6 u157_120_36 u157_9003_0 : Int), St Pm0 ws_X12_operand_120_w1 as_X12_operand_120_w1 M0 M → ((-2147483648) ≤ u157_120_6 ∧ u157_120_6 ≤ 2147483647) → (0 ≤ u157_120_36 ∧ u157_120_36 ≤ 900) → ((-1000) ≤ u157_9003_0 ∧ u157_9003_0 ≤ 1000) → rd M 120 3 = s140_120_3 → rd M 120 36 = u157_120_36 → rd M 120 4 = s140_120_4 → rd M 120 43 = g120_43 → rd M 120 44 = g120_44 → rd M 120 46 = g120_46 → rd M 120 5 = s140_120_5 → rd M 120 50 = g120_50 → rd M 120 6 = u157_120_6 → rd M 120 7 = s140_120_7 → rd M 120 8 = s140_120_8 → rd M 136 0 = g136_0 → rd M 145 (g120_43 - 1) = r12 → rd M 147 (g120_43 - 1) = 0 → nb2v M = g9001_0 → n4v M = g9002_0 → Dv0 M = u157_9003_0 → fr0 M = g9005_0 → tav M = s140_9010_0 → (1 ≤ s140_120_8 ∨ g9001_0 + g9002_0 + 1 ≤ u157_9003_0) → (u157_120_36 + g120_46 + g120_44 ≤ s140_120_4) → (2 * g120_46 + 1 ≤ s140_120_4) → Tr l K 3 mX12_operand 157 [(0, (2, 120)), (1, (0, (g120_43 - 1)))] [] M (q_X12_operand_120_w1 M0) := by
                intro M u157_120_6 u157_120_36 u157_9003_0 hS bu157_120_6 bu157_120_36 bu157_9003_0 k157_120_3 k157_120_36 k157_120_4 k157_120_43 k157_120_44 k157_120_46 k157_120_5 k157_120_50 k157_120_6 k157_120_7 k157_120_8 k157_136_0 k157_145_g120_431n1 k157_147_g120_431n1 k157_9001_0 k157_9002_0 k157_9003_0 k157_9005_0 k157_9010_0 t157_0 t157_1 t157_2
                clear k120_120_3 k120_120_36 k120_120_4 k120_120_43 k120_120_44 k120_120_46 k120_120_5 k120_120_50 k120_120_6 k120_120_7 k120_120_8 k120_136_0 k120_145_g120_431n1 k120_147_g120_431n1 k120_9001_0 k120_9002_0 k120_9003_0 k120_9005_0 k120_9010_0 es135_120_3 es135_120_4 es135_120_5 es135_120_7 es135_120_8 es135_9010_0 es140_120_3 es140_120_4 es140_120_5 es140_120_7 es140_120_8 es140_9010_0
                replace t157_0 := hd_i t157_0
                refine Tr.aload_n (pc := 157) (i := 0) d_X12_operand_157 rfl rfl ?_
                refine Tr.getf (pc := 158) d_X12_operand_158 f_12_130 (by decide) (by decide) (ty_120 hS.1.1) ?_
                refine Tr.tp 146 (fx_120_39 hS.1.1) ?_
                refine Tr.iload_n (pc := 161) (i := 1) d_X12_operand_161 rfl rfl ?_
                refine Tr.iconst (pc := 162) d_X12_operand_162 (by decide) ?_
                refine Tr.iastS (pc := 163) (P := St Pm0 ws_X12_operand_120_w1 as_X12_operand_120_w1 M0) d_X12_operand_163 (ty_146 hS.1.1) (by omega) (by omega) (sa_146 hS (by decide) (by omega) (Pm0.of hS.1.2.2.2.2 (fun _ => rd_wb _ rfl) (fun _ => rd_wb _ rfl) (fun _ => rd_wb _ rfl) (fun _ => rd_wb _ rfl) (fun _ => rd_wb _ rfl) (fun _ => rd_wb _ rfl) (fun _ => rd_wb _ rfl) (fun _ => rd_wb _ rfl) (fun _ => rd_wb _ rfl) (fun _ => rd_wb _ rfl) (rd_wb _ rfl) (rd_wb _ rfl) (rd_wb _ rfl) (rd_wb _ rfl) (rd_wb _ rfl) (rd_wb _ rfl) (rd_wb _ rfl) (rd_wb _ rfl) (rd_wb _ rfl) (rd_wb _ rfl) (rd_wb _ rfl))) (fun M163 hS w163 => ?_)
                refine Tr.iconst (pc := 164) d_X12_operand_164 (by decide) ?_
                have kr_120_3 : rd M163 120 3 = s140_120_3 := ((Wr.b w163 rfl).trans k157_120_3)
                have kr_120_4 : rd M163 120 4 = s140_120_4 := ((Wr.b w163 rfl).trans k157_120_4)
                have kr_120_5 : rd M163 120 5 = s140_120_5 := ((Wr.b w163 rfl).trans k157_120_5)
                have kr_120_7 : rd M163 120 7 = s140_120_7 := ((Wr.b w163 rfl).trans k157_120_7)
                have kr_120_8 : rd M163 120 8 = s140_120_8 := ((Wr.b w163 rfl).trans k157_120_8)
                have kr_120_36 : rd M163 120 36 = u157_120_36 := ((Wr.b w163 rfl).trans k157_120_36)
                have kr_120_43 : rd M163 120 43 = g120_43 := ((Wr.b w163 rfl).trans k157_120_43)
                have kr_120_44 : rd M163 120 44 = g120_44 := ((Wr.b w163 rfl).trans k157_120_44)
                have kr_120_46 : rd M163 120 46 = g120_46 := ((Wr.b w163 rfl).trans k157_120_46)
                have kr_120_50 : rd M163 120 50 = g120_50 := ((Wr.b w163 rfl).trans k157_120_50)
                have kr_136_0 : rd M163 136 0 = g136_0 := ((Wr.b w163 rfl).trans k157_136_0)
                have kr_9001_0 : nb2v M163 = g9001_0 := ((nb2v_of (fun j => ((Wr.b w163 rfl).trans rfl)) ((Wr.b w163 rfl).trans rfl)).trans k157_9001_0)
                have kr_9002_0 : n4v M163 = g9002_0 := ((n4v_of (fun j => ((Wr.b w163 rfl).trans rfl)) ((Wr.b w163 rfl).trans rfl)).trans k157_9002_0)
                have kr_9003_0 : Dv0 M163 = u157_9003_0 := ((Dv0_of (fun j => ((Wr.b w163 rfl).trans rfl)) (fun j => ((Wr.b w163 rfl).trans rfl)) ((Wr.b w163 rfl).trans rfl) ((Wr.b w163 rfl).trans rfl)).trans k157_9003_0)
                have kr_9005_0 : fr0 M163 = g9005_0 := ((fr0_of (fun j => ((Wr.b w163 rfl).trans rfl))).trans k157_9005_0)
                have kr_9010_0 : tav M163 = s140_9010_0 := ((tav_of ((Wr.b w163 rfl).trans rfl) ((Wr.b w163 rfl).trans rfl)).trans k157_9010_0)
                exact Tr.zret (pc := 165) d_X12_operand_165 rfl (by omega) ⟨hS, _, rfl, by omega, by omega, (by first | exact (hd_o z140_0) | exact (hd_o z140_0).elim (fun h1 => by omega) (fun h1 => by omega)), (by omega), (by first | exact (hd_o z140_2) | exact (hd_o z140_2).elim (fun h1 => by omega) (fun h1 => h1.elim (fun h1 => by omega) (fun h1 => by omega))), (by and_intros <;> omega), (by omega), (by exact (hd_o z140_5).elim (fun h1 => by omega) (fun h1 => by omega)), (by omega), (by omega), (by omega), (by omega), (by omega), (by omega), (by first | exact (hd_o t157_0) | exact (hd_o t157_0).elim (fun h1 => by omega) (fun h1 => by omega))⟩
              refine Tr.if_ne (pc := 148) (tgt := 157) d_X12_operand_148 rfl (fun c148 => ?_) (fun c148 => ?_)
              · have c148b : 1 ≤ s140_120_8 ∧ s140_120_8 ≤ 5 := by omega
                replace c148 := hd_i c148
                refine Tr.pick [1, 2] (ls2 := [(0, (2, 120)), (1, (0, (g120_43 - 1)))]) rfl ?_
                obtain ⟨w157p148_120_6, ew157p148_120_6⟩ : ∃ v, rd M140 120 6 = v := ⟨_, rfl⟩
                have bw157p148_120_6 : (-2147483648) ≤ w157p148_120_6 ∧ w157p148_120_6 ≤ 2147483647 := by rw [← ew157p148_120_6]; exact ir_120_6 hS.1.2.1
                exact J157 _ _ _ _ hS (by and_intros <;> omega) (by and_intros <;> omega) (by and_intros <;> omega) es140_120_3 ((kp_X12_asked_120_w1_120_36 h140).trans ((kp_X12_next_120_w1_120_36 h135).trans ((kp_X12_isWord_120_120_36 h128).trans k120_120_36))) es140_120_4 ((kp_X12_asked_120_w1_120_43 h140).trans ((kp_X12_next_120_w1_120_43 h135).trans ((kp_X12_isWord_120_120_43 h128).trans k120_120_43))) ((kp_X12_asked_120_w1_120_44 h140).trans ((kp_X12_next_120_w1_120_44 h135).trans ((kp_X12_isWord_120_120_44 h128).trans k120_120_44))) ((kp_X12_asked_120_w1_120_46 h140).trans ((kp_X12_next_120_w1_120_46 h135).trans ((kp_X12_isWord_120_120_46 h128).trans k120_120_46))) es140_120_5 ((kp_X12_asked_120_w1_120_50 h140).trans ((kp_X12_next_120_w1_120_50 h135).trans ((kp_X12_isWord_120_120_50 h128).trans k120_120_50))) ew157p148_120_6 es140_120_7 es140_120_8 ((kp_X12_asked_120_w1_136_0 h140).trans ((kp_X12_next_120_w1_136_0 h135).trans ((kp_X12_isWord_120_136_0 h128).trans k120_136_0))) ((ka_X12_asked_120_w1_145 h140 _).trans ((ka_X12_next_120_w1_145 h135 _).trans ((ka_X12_isWord_120_145 h128 _).trans k120_145_g120_431n1))) ((ka_X12_asked_120_w1_147 h140 _).trans ((ka_X12_next_120_w1_147 h135 _).trans ((ka_X12_isWord_120_147 h128 _).trans k120_147_g120_431n1))) ((nb2v_of (fun j => ((ka_X12_asked_120_w1_150 h140 _).trans ((ka_X12_next_120_w1_150 h135 _).trans ((ka_X12_isWord_120_150 h128 _).trans rfl)))) ((kp_X12_asked_120_w1_120_46 h140).trans ((kp_X12_next_120_w1_120_46 h135).trans ((kp_X12_isWord_120_120_46 h128).trans rfl)))).trans k120_9001_0) ((n4v_of (fun j => ((ka_X12_asked_120_w1_145 h140 _).trans ((ka_X12_next_120_w1_145 h135 _).trans ((ka_X12_isWord_120_145 h128 _).trans rfl)))) ((kp_X12_asked_120_w1_120_43 h140).trans ((kp_X12_next_120_w1_120_43 h135).trans ((kp_X12_isWord_120_120_43 h128).trans rfl)))).trans k120_9002_0) ((Dv0_of (fun j => ((ka_X12_asked_120_w1_143 h140 _).trans ((ka_X12_next_120_w1_143 h135 _).trans ((ka_X12_isWord_120_143 h128 _).trans rfl)))) (fun j => ((ka_X12_asked_120_w1_140 h140 _).trans ((ka_X12_next_120_w1_140 h135 _).trans ((ka_X12_isWord_120_140 h128 _).trans rfl)))) ((kp_X12_asked_120_w1_136_0 h140).trans ((kp_X12_next_120_w1_136_0 h135).trans ((kp_X12_isWord_120_136_0 h128).trans rfl))) ((kp_X12_asked_120_w1_120_36 h140).trans ((kp_X12_next_120_w1_120_36 h135).trans ((kp_X12_isWord_120_120_36 h128).trans rfl)))).trans k120_9003_0) ((fr0_of (fun j => ((ka_X12_asked_120_w1_145 h140 _).trans ((ka_X12_next_120_w1_145 h135 _).trans ((ka_X12_isWord_120_145 h128 _).trans rfl))))).trans k120_9005_0) es140_9010_0 (by omega) (by omega) (by exact (hd_o z128_0).elim (fun h1 => (hd_o t120_0).elim (fun h2 => by omega) (fun h2 => by omega)) (fun h1 => by omega))
              · refine Tr.aload_n (pc := 151) (i := 0) d_X12_operand_151 rfl rfl ?_
                refine Tr.iconst (pc := 152) d_X12_operand_152 (by decide) ?_
                refine Tr.iload_n (pc := 153) (i := 3) d_X12_operand_153 rfl rfl ?_
                refine Tr.callV (pc := 154) (as := [_, _]) d_X12_operand_154 s_12_475 ok_X12_add rfl rfl (Nat.le_of_ble_eq_true rfl) (Nat.le_of_ble_eq_true rfl) (by decide) (ty_120 hS.1.1) ?_
                refine Tr.imp (Tr.deep (by decide) (ns_X12_add_120_w5 (G120_36 := g120_36) (G136_0 := g136_0) (G9003_0 := g9003_0) hS.1 (((kp_X12_asked_120_w1_120_36 h140).trans ((kp_X12_next_120_w1_120_36 h135).trans ((kp_X12_isWord_120_120_36 h128).trans k120_120_36)))) (((kp_X12_asked_120_w1_136_0 h140).trans ((kp_X12_next_120_w1_136_0 h135).trans ((kp_X12_isWord_120_136_0 h128).trans k120_136_0)))) (((Dv0_of (fun j => ((ka_X12_asked_120_w1_143 h140 _).trans ((ka_X12_next_120_w1_143 h135 _).trans ((ka_X12_isWord_120_143 h128 _).trans rfl)))) (fun j => ((ka_X12_asked_120_w1_140 h140 _).trans ((ka_X12_next_120_w1_140 h135 _).trans ((ka_X12_isWord_120_140 h128 _).trans rfl)))) ((kp_X12_asked_120_w1_136_0 h140).trans ((kp_X12_next_120_w1_136_0 h135).trans ((kp_X12_isWord_120_136_0 h128).trans rfl))) ((kp_X12_asked_120_w1_120_36 h140).trans ((kp_X12_next_120_w1_120_36 h135).trans ((kp_X12_isWord_120_120_36 h128).trans rfl)))).trans k120_9003_0)) ((kp_X12_operand_120_w1_120_37 hS).trans en_120_37) 4 (by omega) r140 (by and_intros <;> omega) (by exact (hd_o z140_6).elim (fun h1 => by omega) (fun h1 => by omega)) (by exact (hd_o z128_0).elim (fun h1 => (hd_o t120_0).elim (fun h2 => by omega) (fun h2 => by omega)) (fun h1 => by omega)) (by omega) (by omega) (by omega))) ?_
                rintro M154 _ ⟨h154, s154_120_36, s154_9003_0, es154_120_36, bs154_120_36, es154_9003_0, bs154_9003_0, rfl, z154_0, z154_1⟩
                have hS := St.tr hS h154 (by decide) (by decide)
                refine Tr.sc [] rfl ?_
                refine Tr.pick [1, 2] (ls2 := [(0, (2, 120)), (1, (0, (g120_43 - 1)))]) rfl ?_
                obtain ⟨w157p154_120_6, ew157p154_120_6⟩ : ∃ v, rd M154 120 6 = v := ⟨_, rfl⟩
                have bw157p154_120_6 : (-2147483648) ≤ w157p154_120_6 ∧ w157p154_120_6 ≤ 2147483647 := by rw [← ew157p154_120_6]; exact ir_120_6 hS.1.2.1
                exact J157 _ _ _ _ hS (by and_intros <;> omega) (by and_intros <;> omega) (by and_intros <;> omega) ((kp_X12_add_120_w5_120_3 h154).trans es140_120_3) es154_120_36 ((kp_X12_add_120_w5_120_4 h154).trans es140_120_4) ((kp_X12_add_120_w5_120_43 h154).trans ((kp_X12_asked_120_w1_120_43 h140).trans ((kp_X12_next_120_w1_120_43 h135).trans ((kp_X12_isWord_120_120_43 h128).trans k120_120_43)))) ((kp_X12_add_120_w5_120_44 h154).trans ((kp_X12_asked_120_w1_120_44 h140).trans ((kp_X12_next_120_w1_120_44 h135).trans ((kp_X12_isWord_120_120_44 h128).trans k120_120_44)))) ((kp_X12_add_120_w5_120_46 h154).trans ((kp_X12_asked_120_w1_120_46 h140).trans ((kp_X12_next_120_w1_120_46 h135).trans ((kp_X12_isWord_120_120_46 h128).trans k120_120_46)))) ((kp_X12_add_120_w5_120_5 h154).trans es140_120_5) ((kp_X12_add_120_w5_120_50 h154).trans ((kp_X12_asked_120_w1_120_50 h140).trans ((kp_X12_next_120_w1_120_50 h135).trans ((kp_X12_isWord_120_120_50 h128).trans k120_120_50)))) ew157p154_120_6 ((kp_X12_add_120_w5_120_7 h154).trans es140_120_7) ((kp_X12_add_120_w5_120_8 h154).trans es140_120_8) ((kp_X12_add_120_w5_136_0 h154).trans ((kp_X12_asked_120_w1_136_0 h140).trans ((kp_X12_next_120_w1_136_0 h135).trans ((kp_X12_isWord_120_136_0 h128).trans k120_136_0)))) ((ka_X12_add_120_w5_145 h154 _).trans ((ka_X12_asked_120_w1_145 h140 _).trans ((ka_X12_next_120_w1_145 h135 _).trans ((ka_X12_isWord_120_145 h128 _).trans k120_145_g120_431n1)))) ((ka_X12_add_120_w5_147 h154 _).trans ((ka_X12_asked_120_w1_147 h140 _).trans ((ka_X12_next_120_w1_147 h135 _).trans ((ka_X12_isWord_120_147 h128 _).trans k120_147_g120_431n1)))) ((nb2v_of (fun j => ((ka_X12_add_120_w5_150 h154 _).trans ((ka_X12_asked_120_w1_150 h140 _).trans ((ka_X12_next_120_w1_150 h135 _).trans ((ka_X12_isWord_120_150 h128 _).trans rfl))))) ((kp_X12_add_120_w5_120_46 h154).trans ((kp_X12_asked_120_w1_120_46 h140).trans ((kp_X12_next_120_w1_120_46 h135).trans ((kp_X12_isWord_120_120_46 h128).trans rfl))))).trans k120_9001_0) ((n4v_of (fun j => ((ka_X12_add_120_w5_145 h154 _).trans ((ka_X12_asked_120_w1_145 h140 _).trans ((ka_X12_next_120_w1_145 h135 _).trans ((ka_X12_isWord_120_145 h128 _).trans rfl))))) ((kp_X12_add_120_w5_120_43 h154).trans ((kp_X12_asked_120_w1_120_43 h140).trans ((kp_X12_next_120_w1_120_43 h135).trans ((kp_X12_isWord_120_120_43 h128).trans rfl))))).trans k120_9002_0) es154_9003_0 ((fr0_of (fun j => ((ka_X12_add_120_w5_145 h154 _).trans ((ka_X12_asked_120_w1_145 h140 _).trans ((ka_X12_next_120_w1_145 h135 _).trans ((ka_X12_isWord_120_145 h128 _).trans rfl)))))).trans k120_9005_0) ((tav_of ((kp_X12_add_120_w5_120_5 h154).trans rfl) ((kp_X12_add_120_w5_120_3 h154).trans rfl)).trans es140_9010_0) (by exact (hd_o z154_1).elim (fun h1 => by omega) (fun h1 => h1.elim (fun h1 => by omega) (fun h1 => by omega))) (by exact (hd_o z128_0).elim (fun h1 => (hd_o t120_0).elim (fun h2 => by omega) (fun h2 => by omega)) (fun h1 => by omega)) (by exact (hd_o z128_0).elim (fun h1 => (hd_o t120_0).elim (fun h2 => by omega) (fun h2 => by omega)) (fun h1 => by omega))
        refine Tr.if_eq (pc := 88) (tgt := 120) d_X12_operand_88 rfl (fun c88 => ?_) (fun c88 => ?_)
        · refine Tr.pick [0, 1, 2] (ls2 := [(0, (2, 120)), (1, (0, (g120_43 - 1))), (2, (0, q33_0))]) rfl ?_
          exact J120 _ hS k87_120_3 k87_120_36 k87_120_4 k87_120_43 k87_120_44 k87_120_46 k87_120_5 k87_120_50 k87_120_6 k87_120_7 k87_120_8 k87_136_0 k87_145_g120_431n1 k87_147_g120_431n1 k87_9001_0 k87_9002_0 k87_9003_0 k87_9005_0 k87_9010_0 (by first | exact (hd_o t87_0) | exact (hd_o t87_0).elim (fun h1 => by omega) (fun h1 => by omega)) (by omega) (by first | exact (hd_o t87_2) | exact (hd_o t87_2).elim (fun h1 => by omega) (fun h1 => h1.elim (fun h1 => by omega) (fun h1 => by omega))) (by and_intros <;> omega) (by first | exact (hd_o t87_4) | exact (hd_o t87_4).elim (fun h1 => by omega) (fun h1 => by omega))
        · have c88b : 1 ≤ q33_0 ∧ q33_0 ≤ 1 := by omega
          replace c88 := hd_i c88
          refine Tr.aload_n (pc := 91) (i := 0) d_X12_operand_91 rfl rfl ?_
          refine Tr.ldc2 (pc := 92) d_X12_operand_92 kl_12_443 (by decide) ?_
          refine Tr.callV (pc := 95) (as := [_]) d_X12_operand_95 s_12_484 ok_X12_isWord rfl rfl (Nat.le_of_ble_eq_true rfl) (Nat.le_of_ble_eq_true rfl) (by decide) (ty_120 hS.1.1) ?_
          refine Tr.imp (Tr.deep (by decide) (ns_X12_isWord_120 (G120_3 := g120_3) (G120_7 := g120_7) hS.1.wk (k87_120_3) (k87_120_7) 6384748 (by omega))) ?_
          rintro M95 _ ⟨h95, r95, rfl, lr95, ur95, z95_0⟩
          have h95 := St.rn h95 (Pm0.of hS.1.2.2.2.2 (fun _ => (ka_X12_isWord_120_131 h95 _)) (fun _ => (ka_X12_isWord_120_137 h95 _)) (fun _ => (ka_X12_isWord_120_138 h95 _)) (fun _ => (ka_X12_isWord_120_139 h95 _)) (fun _ => (ka_X12_isWord_120_140 h95 _)) (fun _ => (ka_X12_isWord_120_141 h95 _)) (fun _ => (ka_X12_isWord_120_142 h95 _)) (fun _ => (ka_X12_isWord_120_143 h95 _)) (fun _ => (ka_X12_isWord_120_151 h95 _)) (fun _ => (ka_X12_isWord_120_152 h95 _)) (kp_X12_isWord_120_126_0 h95) (kp_X12_isWord_120_126_1 h95) (kp_X12_isWord_120_136_0 h95) (kp_X12_isWord_120_136_1 h95) (kp_X12_isWord_120_123_0 h95) (kp_X12_isWord_120_123_1 h95) (kp_X12_isWord_120_124_0 h95) (kp_X12_isWord_120_124_1 h95) (kp_X12_isWord_120_120_8 h95) (kp_X12_isWord_120_120_36 h95) (kp_X12_isWord_120_120_50 h95))
          have hS := St.tr hS h95 (by decide) (by decide)
          refine Tr.sc [(0, r95)] rfl ?_
          refine Tr.if_eq (pc := 98) (tgt := 120) d_X12_operand_98 rfl (fun c98 => ?_) (fun c98 => ?_)
          · refine Tr.pick [0, 1, 2] (ls2 := [(0, (2, 120)), (1, (0, (g120_43 - 1))), (2, (0, q33_0))]) rfl ?_
            exact J120 _ hS ((kp_X12_isWord_120_120_3 h95).trans k87_120_3) ((kp_X12_isWord_120_120_36 h95).trans k87_120_36) ((kp_X12_isWord_120_120_4 h95).trans k87_120_4) ((kp_X12_isWord_120_120_43 h95).trans k87_120_43) ((kp_X12_isWord_120_120_44 h95).trans k87_120_44) ((kp_X12_isWord_120_120_46 h95).trans k87_120_46) ((kp_X12_isWord_120_120_5 h95).trans k87_120_5) ((kp_X12_isWord_120_120_50 h95).trans k87_120_50) ((kp_X12_isWord_120_120_6 h95).trans k87_120_6) ((kp_X12_isWord_120_120_7 h95).trans k87_120_7) ((kp_X12_isWord_120_120_8 h95).trans k87_120_8) ((kp_X12_isWord_120_136_0 h95).trans k87_136_0) ((ka_X12_isWord_120_145 h95 _).trans k87_145_g120_431n1) ((ka_X12_isWord_120_147 h95 _).trans k87_147_g120_431n1) ((nb2v_of (fun j => ((ka_X12_isWord_120_150 h95 _).trans rfl)) ((kp_X12_isWord_120_120_46 h95).trans rfl)).trans k87_9001_0) ((n4v_of (fun j => ((ka_X12_isWord_120_145 h95 _).trans rfl)) ((kp_X12_isWord_120_120_43 h95).trans rfl)).trans k87_9002_0) ((Dv0_of (fun j => ((ka_X12_isWord_120_143 h95 _).trans rfl)) (fun j => ((ka_X12_isWord_120_140 h95 _).trans rfl)) ((kp_X12_isWord_120_136_0 h95).trans rfl) ((kp_X12_isWord_120_120_36 h95).trans rfl)).trans k87_9003_0) ((fr0_of (fun j => ((ka_X12_isWord_120_145 h95 _).trans rfl))).trans k87_9005_0) ((tav_of ((kp_X12_isWord_120_120_5 h95).trans rfl) ((kp_X12_isWord_120_120_3 h95).trans rfl)).trans k87_9010_0) (by first | exact (hd_o t87_0) | exact (hd_o t87_0).elim (fun h1 => by omega) (fun h1 => by omega)) (by omega) (by first | exact (hd_o t87_2) | exact (hd_o t87_2).elim (fun h1 => by omega) (fun h1 => h1.elim (fun h1 => by omega) (fun h1 => by omega))) (by and_intros <;> omega) (by first | exact (hd_o t87_4) | exact (hd_o t87_4).elim (fun h1 => by omega) (fun h1 => by omega))
          · have c98b : 1 ≤ r95 ∧ r95 ≤ 1 := by omega
            replace c98 := hd_i c98
            refine Tr.aload_n (pc := 101) (i := 0) d_X12_operand_101 rfl rfl ?_
            refine Tr.iconst (pc := 102) d_X12_operand_102 (by decide) ?_
            refine Tr.iconst (pc := 103) d_X12_operand_103 (by decide) ?_
            refine Tr.callV (pc := 104) (as := [_, _]) d_X12_operand_104 s_12_475 ok_X12_add rfl rfl (Nat.le_of_ble_eq_true rfl) (Nat.le_of_ble_eq_true rfl) (by decide) (ty_120 hS.1.1) ?_
            refine Tr.imp (Tr.deep (by decide) (ns_X12_add_120_w4 (G120_36 := g120_36) (G136_0 := g136_0) (G9003_0 := g9003_0) hS.1 (((kp_X12_isWord_120_120_36 h95).trans k87_120_36)) (((kp_X12_isWord_120_136_0 h95).trans k87_136_0)) (((Dv0_of (fun j => ((ka_X12_isWord_120_143 h95 _).trans rfl)) (fun j => ((ka_X12_isWord_120_140 h95 _).trans rfl)) ((kp_X12_isWord_120_136_0 h95).trans rfl) ((kp_X12_isWord_120_120_36 h95).trans rfl)).trans k87_9003_0)) ((kp_X12_operand_120_w1_120_37 hS).trans en_120_37) 5 (by omega) 0 (by omega) (by omega) (by exact (hd_o z95_0).elim (fun h1 => (hd_o t87_0).elim (fun h2 => by omega) (fun h2 => by omega)) (fun h1 => by omega)) (by omega) (by omega) (by omega))) ?_
            rintro M104 _ ⟨h104, s104_120_36, s104_9003_0, es104_120_36, bs104_120_36, es104_9003_0, bs104_9003_0, rfl, z104_0, z104_1⟩
            have hS := St.tr hS h104 (by decide) (by decide)
            refine Tr.sc [] rfl ?_
            refine Tr.aload_n (pc := 107) (i := 0) d_X12_operand_107 rfl rfl ?_
            refine Tr.getf (pc := 108) d_X12_operand_108 f_12_130 (by decide) (by decide) (ty_120 hS.1.1) ?_
            refine Tr.tp 146 (fx_120_39 hS.1.1) ?_
            refine Tr.iload_n (pc := 111) (i := 1) d_X12_operand_111 rfl rfl ?_
            refine Tr.iconst (pc := 112) d_X12_operand_112 (by decide) ?_
            refine Tr.iastS (pc := 113) (P := St Pm0 ws_X12_operand_120_w1 as_X12_operand_120_w1 M0) d_X12_operand_113 (ty_146 hS.1.1) (by omega) (by omega) (sa_146 hS (by decide) (by omega) (Pm0.of hS.1.2.2.2.2 (fun _ => rd_wb _ rfl) (fun _ => rd_wb _ rfl) (fun _ => rd_wb _ rfl) (fun _ => rd_wb _ rfl) (fun _ => rd_wb _ rfl) (fun _ => rd_wb _ rfl) (fun _ => rd_wb _ rfl) (fun _ => rd_wb _ rfl) (fun _ => rd_wb _ rfl) (fun _ => rd_wb _ rfl) (rd_wb _ rfl) (rd_wb _ rfl) (rd_wb _ rfl) (rd_wb _ rfl) (rd_wb _ rfl) (rd_wb _ rfl) (rd_wb _ rfl) (rd_wb _ rfl) (rd_wb _ rfl) (rd_wb _ rfl) (rd_wb _ rfl))) (fun M113 hS w113 => ?_)
            refine Tr.aload_n (pc := 114) (i := 0) d_X12_operand_114 rfl rfl ?_
            refine Tr.callV (pc := 115) (as := []) d_X12_operand_115 s_12_396 ok_X12_next rfl rfl (Nat.le_of_ble_eq_true rfl) (Nat.le_of_ble_eq_true rfl) (by decide) (ty_120 hS.1.1) ?_
            refine Tr.imp (Tr.deep (by decide) (ns_X12_next_120_w1 (G120_3 := g120_3) (G120_5 := g120_5) (G120_8 := g120_8) (G9010_0 := g9010_0) hS.1 (((Wr.b w113 rfl).trans ((kp_X12_add_120_w4_120_3 h104).trans ((kp_X12_isWord_120_120_3 h95).trans k87_120_3)))) (((Wr.b w113 rfl).trans ((kp_X12_add_120_w4_120_5 h104).trans ((kp_X12_isWord_120_120_5 h95).trans k87_120_5)))) (((Wr.b w113 rfl).trans ((kp_X12_add_120_w4_120_8 h104).trans ((kp_X12_isWord_120_120_8 h95).trans k87_120_8)))) (((tav_of ((Wr.b w113 rfl).trans ((kp_X12_add_120_w4_120_5 h104).trans ((kp_X12_isWord_120_120_5 h95).trans rfl))) ((Wr.b w113 rfl).trans ((kp_X12_add_120_w4_120_3 h104).trans ((kp_X12_isWord_120_120_3 h95).trans rfl)))).trans k87_9010_0)))) ?_
            rintro M115 _ ⟨h115, s115_120_3, s115_120_4, s115_120_5, s115_120_7, s115_120_8, s115_9010_0, es115_120_3, bs115_120_3, es115_120_4, bs115_120_4, es115_120_5, bs115_120_5, es115_120_7, bs115_120_7, es115_120_8, bs115_120_8, es115_9010_0, bs115_9010_0, rfl, z115_0, z115_1, z115_2, z115_3, z115_4, z115_5, z115_6⟩
            have hS := St.tr hS h115 (by decide) (by decide)
            refine Tr.sc [] rfl ?_
            refine Tr.iconst (pc := 118) d_X12_operand_118 (by decide) ?_
            have kr_120_3 : rd M115 120 3 = s115_120_3 := es115_120_3
            have kr_120_4 : rd M115 120 4 = s115_120_4 := es115_120_4
            have kr_120_5 : rd M115 120 5 = s115_120_5 := es115_120_5
            have kr_120_7 : rd M115 120 7 = s115_120_7 := es115_120_7
            have kr_120_8 : rd M115 120 8 = s115_120_8 := es115_120_8
            have kr_120_36 : rd M115 120 36 = s104_120_36 := ((kp_X12_next_120_w1_120_36 h115).trans ((Wr.b w113 rfl).trans es104_120_36))
            have kr_120_43 : rd M115 120 43 = g120_43 := ((kp_X12_next_120_w1_120_43 h115).trans ((Wr.b w113 rfl).trans ((kp_X12_add_120_w4_120_43 h104).trans ((kp_X12_isWord_120_120_43 h95).trans k87_120_43))))
            have kr_120_44 : rd M115 120 44 = g120_44 := ((kp_X12_next_120_w1_120_44 h115).trans ((Wr.b w113 rfl).trans ((kp_X12_add_120_w4_120_44 h104).trans ((kp_X12_isWord_120_120_44 h95).trans k87_120_44))))
            have kr_120_46 : rd M115 120 46 = g120_46 := ((kp_X12_next_120_w1_120_46 h115).trans ((Wr.b w113 rfl).trans ((kp_X12_add_120_w4_120_46 h104).trans ((kp_X12_isWord_120_120_46 h95).trans k87_120_46))))
            have kr_120_50 : rd M115 120 50 = g120_50 := ((kp_X12_next_120_w1_120_50 h115).trans ((Wr.b w113 rfl).trans ((kp_X12_add_120_w4_120_50 h104).trans ((kp_X12_isWord_120_120_50 h95).trans k87_120_50))))
            have kr_136_0 : rd M115 136 0 = g136_0 := ((kp_X12_next_120_w1_136_0 h115).trans ((Wr.b w113 rfl).trans ((kp_X12_add_120_w4_136_0 h104).trans ((kp_X12_isWord_120_136_0 h95).trans k87_136_0))))
            have kr_9001_0 : nb2v M115 = g9001_0 := ((nb2v_of (fun j => ((ka_X12_next_120_w1_150 h115 _).trans ((Wr.b w113 rfl).trans ((ka_X12_add_120_w4_150 h104 _).trans ((ka_X12_isWord_120_150 h95 _).trans rfl))))) ((kp_X12_next_120_w1_120_46 h115).trans ((Wr.b w113 rfl).trans ((kp_X12_add_120_w4_120_46 h104).trans ((kp_X12_isWord_120_120_46 h95).trans rfl))))).trans k87_9001_0)
            have kr_9002_0 : n4v M115 = g9002_0 := ((n4v_of (fun j => ((ka_X12_next_120_w1_145 h115 _).trans ((Wr.b w113 rfl).trans ((ka_X12_add_120_w4_145 h104 _).trans ((ka_X12_isWord_120_145 h95 _).trans rfl))))) ((kp_X12_next_120_w1_120_43 h115).trans ((Wr.b w113 rfl).trans ((kp_X12_add_120_w4_120_43 h104).trans ((kp_X12_isWord_120_120_43 h95).trans rfl))))).trans k87_9002_0)
            have kr_9003_0 : Dv0 M115 = s104_9003_0 := ((Dv0_of (fun j => ((ka_X12_next_120_w1_143 h115 _).trans ((Wr.b w113 rfl).trans rfl))) (fun j => ((ka_X12_next_120_w1_140 h115 _).trans ((Wr.b w113 rfl).trans rfl))) ((kp_X12_next_120_w1_136_0 h115).trans ((Wr.b w113 rfl).trans rfl)) ((kp_X12_next_120_w1_120_36 h115).trans ((Wr.b w113 rfl).trans rfl))).trans es104_9003_0)
            have kr_9005_0 : fr0 M115 = g9005_0 := ((fr0_of (fun j => ((ka_X12_next_120_w1_145 h115 _).trans ((Wr.b w113 rfl).trans ((ka_X12_add_120_w4_145 h104 _).trans ((ka_X12_isWord_120_145 h95 _).trans rfl)))))).trans k87_9005_0)
            have kr_9010_0 : tav M115 = s115_9010_0 := es115_9010_0
            exact Tr.zret (pc := 119) d_X12_operand_119 rfl (by omega) ⟨hS, _, rfl, by omega, by omega, (by first | exact (hd_o z115_0) | exact (hd_o z115_0).elim (fun h1 => by omega) (fun h1 => by omega)), (by omega), (by first | exact (hd_o z115_2) | exact (hd_o z115_2).elim (fun h1 => by omega) (fun h1 => h1.elim (fun h1 => by omega) (fun h1 => by omega))), (by and_intros <;> omega), (by first | exact (hd_o z115_6) | exact (hd_o z115_6).elim (fun h1 => by omega) (fun h1 => by omega)), (by exact (hd_o z95_0).elim (fun h1 => (hd_o z115_5).elim (fun h2 => by omega) (fun h2 => by omega)) (fun h1 => by omega)), (by exact (hd_o z95_0).elim (fun h1 => (hd_o t87_0).elim (fun h2 => by omega) (fun h2 => by omega)) (fun h1 => by omega)), (by omega), (by omega), (by omega), (by omega), (by exact (hd_o z95_0).elim (fun h1 => (hd_o t87_0).elim (fun h2 => by omega) (fun h2 => by omega)) (fun h1 => by omega)), (by exact (hd_o z104_1).elim (fun h1 => by omega) (fun h1 => h1.elim (fun h1 => by omega) (fun h1 => by omega)))⟩
      refine Tr.if_eq (pc := 68) (tgt := 87) d_X12_operand_68 rfl (fun c68 => ?_) (fun c68 => ?_)
      · refine Tr.pick [0, 1, 2] (ls2 := [(0, (2, 120)), (1, (0, (g120_43 - 1))), (2, (0, q33_0))]) rfl ?_
        exact J87 _ hS ((Wr.b w66 rfl).trans k60_120_3) ((Wr.b w66 rfl).trans k60_120_36) ((Wr.b w66 rfl).trans k60_120_4) ((Wr.b w66 rfl).trans k60_120_43) ((Wr.b w66 rfl).trans k60_120_44) ((Wr.b w66 rfl).trans k60_120_46) ((Wr.b w66 rfl).trans k60_120_5) ((Wr.b w66 rfl).trans k60_120_50) ((Wr.b w66 rfl).trans k60_120_6) ((Wr.b w66 rfl).trans k60_120_7) ((Wr.b w66 rfl).trans k60_120_8) ((Wr.b w66 rfl).trans k60_136_0) ((Wr.b w66 rfl).trans k60_145_g120_431n1) w66.1 ((nb2v_of (fun j => ((Wr.b w66 rfl).trans rfl)) ((Wr.b w66 rfl).trans rfl)).trans k60_9001_0) ((n4v_of (fun j => ((Wr.b w66 rfl).trans rfl)) ((Wr.b w66 rfl).trans rfl)).trans k60_9002_0) ((Dv0_of (fun j => ((Wr.b w66 rfl).trans rfl)) (fun j => ((Wr.b w66 rfl).trans rfl)) ((Wr.b w66 rfl).trans rfl) ((Wr.b w66 rfl).trans rfl)).trans k60_9003_0) ((fr0_of (fun j => ((Wr.b w66 rfl).trans rfl))).trans k60_9005_0) ((tav_of ((Wr.b w66 rfl).trans rfl) ((Wr.b w66 rfl).trans rfl)).trans k60_9010_0) (by first | exact (hd_o t60_0) | exact (hd_o t60_0).elim (fun h1 => by omega) (fun h1 => by omega)) (by omega) (by first | exact (hd_o t60_2) | exact (hd_o t60_2).elim (fun h1 => by omega) (fun h1 => h1.elim (fun h1 => by omega) (fun h1 => by omega))) (by and_intros <;> omega) (by first | exact (hd_o t60_4) | exact (hd_o t60_4).elim (fun h1 => by omega) (fun h1 => by omega))
      · have c68b : 1 ≤ q33_0 ∧ q33_0 ≤ 1 := by omega
        replace c68 := hd_i c68
        refine Tr.aload_n (pc := 71) (i := 0) d_X12_operand_71 rfl rfl ?_
        refine Tr.bipush (pc := 72) d_X12_operand_72 rfl (by decide) ?_
        refine Tr.callV (pc := 74) (as := [_]) d_X12_operand_74 s_12_393 ok_X12_isSign rfl rfl (Nat.le_of_ble_eq_true rfl) (Nat.le_of_ble_eq_true rfl) (by decide) (ty_120 hS.1.1) ?_
        refine Tr.imp (Tr.deep (by decide) (ns_X12_isSign_120 (G120_3 := g120_3) (G120_6 := g120_6) hS.1.wk (((Wr.b w66 rfl).trans k60_120_3)) (((Wr.b w66 rfl).trans k60_120_6)) 91 (by omega))) ?_
        rintro M74 _ ⟨h74, r74, rfl, lr74, ur74, z74_0⟩
        have h74 := St.rn h74 (Pm0.of hS.1.2.2.2.2 (fun _ => (ka_X12_isSign_120_131 h74 _)) (fun _ => (ka_X12_isSign_120_137 h74 _)) (fun _ => (ka_X12_isSign_120_138 h74 _)) (fun _ => (ka_X12_isSign_120_139 h74 _)) (fun _ => (ka_X12_isSign_120_140 h74 _)) (fun _ => (ka_X12_isSign_120_141 h74 _)) (fun _ => (ka_X12_isSign_120_142 h74 _)) (fun _ => (ka_X12_isSign_120_143 h74 _)) (fun _ => (ka_X12_isSign_120_151 h74 _)) (fun _ => (ka_X12_isSign_120_152 h74 _)) (kp_X12_isSign_120_126_0 h74) (kp_X12_isSign_120_126_1 h74) (kp_X12_isSign_120_136_0 h74) (kp_X12_isSign_120_136_1 h74) (kp_X12_isSign_120_123_0 h74) (kp_X12_isSign_120_123_1 h74) (kp_X12_isSign_120_124_0 h74) (kp_X12_isSign_120_124_1 h74) (kp_X12_isSign_120_120_8 h74) (kp_X12_isSign_120_120_36 h74) (kp_X12_isSign_120_120_50 h74))
        have hS := St.tr hS h74 (by decide) (by decide)
        refine Tr.sc [(0, r74)] rfl ?_
        refine Tr.if_eq (pc := 77) (tgt := 87) d_X12_operand_77 rfl (fun c77 => ?_) (fun c77 => ?_)
        · refine Tr.pick [0, 1, 2] (ls2 := [(0, (2, 120)), (1, (0, (g120_43 - 1))), (2, (0, q33_0))]) rfl ?_
          exact J87 _ hS ((kp_X12_isSign_120_120_3 h74).trans ((Wr.b w66 rfl).trans k60_120_3)) ((kp_X12_isSign_120_120_36 h74).trans ((Wr.b w66 rfl).trans k60_120_36)) ((kp_X12_isSign_120_120_4 h74).trans ((Wr.b w66 rfl).trans k60_120_4)) ((kp_X12_isSign_120_120_43 h74).trans ((Wr.b w66 rfl).trans k60_120_43)) ((kp_X12_isSign_120_120_44 h74).trans ((Wr.b w66 rfl).trans k60_120_44)) ((kp_X12_isSign_120_120_46 h74).trans ((Wr.b w66 rfl).trans k60_120_46)) ((kp_X12_isSign_120_120_5 h74).trans ((Wr.b w66 rfl).trans k60_120_5)) ((kp_X12_isSign_120_120_50 h74).trans ((Wr.b w66 rfl).trans k60_120_50)) ((kp_X12_isSign_120_120_6 h74).trans ((Wr.b w66 rfl).trans k60_120_6)) ((kp_X12_isSign_120_120_7 h74).trans ((Wr.b w66 rfl).trans k60_120_7)) ((kp_X12_isSign_120_120_8 h74).trans ((Wr.b w66 rfl).trans k60_120_8)) ((kp_X12_isSign_120_136_0 h74).trans ((Wr.b w66 rfl).trans k60_136_0)) ((ka_X12_isSign_120_145 h74 _).trans ((Wr.b w66 rfl).trans k60_145_g120_431n1)) ((ka_X12_isSign_120_147 h74 _).trans w66.1) ((nb2v_of (fun j => ((ka_X12_isSign_120_150 h74 _).trans ((Wr.b w66 rfl).trans rfl))) ((kp_X12_isSign_120_120_46 h74).trans ((Wr.b w66 rfl).trans rfl))).trans k60_9001_0) ((n4v_of (fun j => ((ka_X12_isSign_120_145 h74 _).trans ((Wr.b w66 rfl).trans rfl))) ((kp_X12_isSign_120_120_43 h74).trans ((Wr.b w66 rfl).trans rfl))).trans k60_9002_0) ((Dv0_of (fun j => ((ka_X12_isSign_120_143 h74 _).trans ((Wr.b w66 rfl).trans rfl))) (fun j => ((ka_X12_isSign_120_140 h74 _).trans ((Wr.b w66 rfl).trans rfl))) ((kp_X12_isSign_120_136_0 h74).trans ((Wr.b w66 rfl).trans rfl)) ((kp_X12_isSign_120_120_36 h74).trans ((Wr.b w66 rfl).trans rfl))).trans k60_9003_0) ((fr0_of (fun j => ((ka_X12_isSign_120_145 h74 _).trans ((Wr.b w66 rfl).trans rfl)))).trans k60_9005_0) ((tav_of ((kp_X12_isSign_120_120_5 h74).trans ((Wr.b w66 rfl).trans rfl)) ((kp_X12_isSign_120_120_3 h74).trans ((Wr.b w66 rfl).trans rfl))).trans k60_9010_0) (by first | exact (hd_o t60_0) | exact (hd_o t60_0).elim (fun h1 => by omega) (fun h1 => by omega)) (by omega) (by first | exact (hd_o t60_2) | exact (hd_o t60_2).elim (fun h1 => by omega) (fun h1 => h1.elim (fun h1 => by omega) (fun h1 => by omega))) (by and_intros <;> omega) (by first | exact (hd_o t60_4) | exact (hd_o t60_4).elim (fun h1 => by omega) (fun h1 => by omega))
        · have c77b : 1 ≤ r74 ∧ r74 ≤ 1 := by omega
          replace c77 := hd_i c77
          refine Tr.aload_n (pc := 80) (i := 0) d_X12_operand_80 rfl rfl ?_
          refine Tr.iconst (pc := 81) d_X12_operand_81 (by decide) ?_
          refine Tr.callV (pc := 82) (as := [_]) d_X12_operand_82 s_12_490 ok_X12_opens rfl rfl (Nat.le_of_ble_eq_true rfl) (Nat.le_of_ble_eq_true rfl) (by decide) (ty_120 hS.1.1) ?_
          refine Tr.imp (Tr.deep (by decide) (ns_X12_opens_120_w1 (G120_3 := g120_3) (G120_4 := g120_4) (G120_5 := g120_5) (G120_7 := g120_7) (G120_8 := g120_8) (G120_43 := g120_43) (G120_44 := g120_44) (G9002_0 := g9002_0) (G9005_0 := g9005_0) (G9010_0 := g9010_0) hS.1 (((kp_X12_isSign_120_120_3 h74).trans ((Wr.b w66 rfl).trans k60_120_3))) (((kp_X12_isSign_120_120_4 h74).trans ((Wr.b w66 rfl).trans k60_120_4))) (((kp_X12_isSign_120_120_5 h74).trans ((Wr.b w66 rfl).trans k60_120_5))) (((kp_X12_isSign_120_120_7 h74).trans ((Wr.b w66 rfl).trans k60_120_7))) (((kp_X12_isSign_120_120_8 h74).trans ((Wr.b w66 rfl).trans k60_120_8))) (((kp_X12_isSign_120_120_43 h74).trans ((Wr.b w66 rfl).trans k60_120_43))) (((kp_X12_isSign_120_120_44 h74).trans ((Wr.b w66 rfl).trans k60_120_44))) (((n4v_of (fun j => ((ka_X12_isSign_120_145 h74 _).trans ((Wr.b w66 rfl).trans rfl))) ((kp_X12_isSign_120_120_43 h74).trans ((Wr.b w66 rfl).trans rfl))).trans k60_9002_0)) (((fr0_of (fun j => ((ka_X12_isSign_120_145 h74 _).trans ((Wr.b w66 rfl).trans rfl)))).trans k60_9005_0)) (((tav_of ((kp_X12_isSign_120_120_5 h74).trans ((Wr.b w66 rfl).trans rfl)) ((kp_X12_isSign_120_120_3 h74).trans ((Wr.b w66 rfl).trans rfl))).trans k60_9010_0)) 5 (by omega) (by first | exact (hd_o t60_0) | exact (hd_o t60_0).elim (fun h1 => by omega) (fun h1 => by omega)) (by omega) (by first | exact (hd_o t60_2) | exact (hd_o t60_2).elim (fun h1 => by omega) (fun h1 => h1.elim (fun h1 => by omega) (fun h1 => by omega))) (by and_intros <;> omega) (by exact (hd_o z74_0).elim (fun h1 => by omega) (fun h1 => by omega)) (by omega) (by omega))) ?_
          rintro M82 _ ⟨h82, s82_120_3, s82_120_4, s82_120_5, s82_120_7, s82_120_8, s82_120_43, s82_120_44, s82_9002_0, s82_9005_0, s82_9010_0, es82_120_3, bs82_120_3, es82_120_4, bs82_120_4, es82_120_5, bs82_120_5, es82_120_7, bs82_120_7, es82_120_8, bs82_120_8, es82_120_43, bs82_120_43, es82_120_44, bs82_120_44, es82_9002_0, bs82_9002_0, es82_9005_0, bs82_9005_0, es82_9010_0, bs82_9010_0, rfl, z82_0, z82_1, z82_2, z82_3, z82_4, z82_5, z82_6, z82_7, z82_8, z82_9, z82_10⟩
          have hS := St.tr hS h82 (by decide) (by decide)
          refine Tr.sc [] rfl ?_
          refine Tr.iconst (pc := 85) d_X12_operand_85 (by decide) ?_
          have kr_120_3 : rd M82 120 3 = s82_120_3 := es82_120_3
          have kr_120_4 : rd M82 120 4 = s82_120_4 := es82_120_4
          have kr_120_5 : rd M82 120 5 = s82_120_5 := es82_120_5
          have kr_120_7 : rd M82 120 7 = s82_120_7 := es82_120_7
          have kr_120_8 : rd M82 120 8 = s82_120_8 := es82_120_8
          have kr_120_36 : rd M82 120 36 = g120_36 := ((kp_X12_opens_120_w1_120_36 h82).trans ((kp_X12_isSign_120_120_36 h74).trans ((Wr.b w66 rfl).trans k60_120_36)))
          have kr_120_43 : rd M82 120 43 = s82_120_43 := es82_120_43
          have kr_120_44 : rd M82 120 44 = s82_120_44 := es82_120_44
          have kr_120_46 : rd M82 120 46 = g120_46 := ((kp_X12_opens_120_w1_120_46 h82).trans ((kp_X12_isSign_120_120_46 h74).trans ((Wr.b w66 rfl).trans k60_120_46)))
          have kr_120_50 : rd M82 120 50 = g120_50 := ((kp_X12_opens_120_w1_120_50 h82).trans ((kp_X12_isSign_120_120_50 h74).trans ((Wr.b w66 rfl).trans k60_120_50)))
          have kr_136_0 : rd M82 136 0 = g136_0 := ((kp_X12_opens_120_w1_136_0 h82).trans ((kp_X12_isSign_120_136_0 h74).trans ((Wr.b w66 rfl).trans k60_136_0)))
          have kr_9001_0 : nb2v M82 = g9001_0 := ((nb2v_of (fun j => ((ka_X12_opens_120_w1_150 h82 _).trans ((ka_X12_isSign_120_150 h74 _).trans ((Wr.b w66 rfl).trans rfl)))) ((kp_X12_opens_120_w1_120_46 h82).trans ((kp_X12_isSign_120_120_46 h74).trans ((Wr.b w66 rfl).trans rfl)))).trans k60_9001_0)
          have kr_9002_0 : n4v M82 = s82_9002_0 := es82_9002_0
          have kr_9003_0 : Dv0 M82 = g9003_0 := ((Dv0_of (fun j => ((ka_X12_opens_120_w1_143 h82 _).trans ((ka_X12_isSign_120_143 h74 _).trans ((Wr.b w66 rfl).trans rfl)))) (fun j => ((ka_X12_opens_120_w1_140 h82 _).trans ((ka_X12_isSign_120_140 h74 _).trans ((Wr.b w66 rfl).trans rfl)))) ((kp_X12_opens_120_w1_136_0 h82).trans ((kp_X12_isSign_120_136_0 h74).trans ((Wr.b w66 rfl).trans rfl))) ((kp_X12_opens_120_w1_120_36 h82).trans ((kp_X12_isSign_120_120_36 h74).trans ((Wr.b w66 rfl).trans rfl)))).trans k60_9003_0)
          have kr_9005_0 : fr0 M82 = s82_9005_0 := es82_9005_0
          have kr_9010_0 : tav M82 = s82_9010_0 := es82_9010_0
          exact Tr.zret (pc := 86) d_X12_operand_86 rfl (by omega) ⟨hS, _, rfl, by omega, by omega, (by first | exact (hd_o z82_0) | exact (hd_o z82_0).elim (fun h1 => by omega) (fun h1 => by omega)), (by omega), (by first | exact (hd_o z82_2) | exact (hd_o z82_2).elim (fun h1 => by omega) (fun h1 => h1.elim (fun h1 => by omega) (fun h1 => by omega))), (by and_intros <;> omega), (by first | exact (hd_o z82_4) | exact (hd_o z82_4).elim (fun h1 => by omega) (fun h1 => by omega)), (by first | exact (hd_o z82_5) | exact (hd_o z82_5).elim (fun h1 => by omega) (fun h1 => by omega)), (by exact (hd_o z82_7).elim (fun h1 => by omega) (fun h1 => (hd_o z74_0).elim (fun h2 => (hd_o t60_0).elim (fun h3 => by omega) (fun h3 => by omega)) (fun h2 => by omega))), (by omega), (by omega), (by omega), (by omega), (by omega), (by omega)⟩
    refine Tr.if_eq (pc := 35) (tgt := 60) d_X12_operand_35 rfl (fun c35 => ?_) (fun c35 => ?_)
    · refine Tr.pick [1, 2, 0] (ls2 := [(0, (2, 120)), (1, (0, (g120_43 - 1))), (2, (0, q33_0))]) rfl ?_
      exact J60 _ hS k33_120_3 k33_120_36 k33_120_4 k33_120_43 k33_120_44 k33_120_46 k33_120_5 k33_120_50 k33_120_6 k33_120_7 k33_120_8 k33_136_0 k33_145_g120_431n1 k33_9001_0 k33_9002_0 k33_9003_0 k33_9005_0 k33_9010_0 (by first | exact (hd_o t33_0) | exact (hd_o t33_0).elim (fun h1 => by omega) (fun h1 => by omega)) (by omega) (by first | exact (hd_o t33_2) | exact (hd_o t33_2).elim (fun h1 => by omega) (fun h1 => h1.elim (fun h1 => by omega) (fun h1 => by omega))) (by and_intros <;> omega) (by first | exact (hd_o t33_4) | exact (hd_o t33_4).elim (fun h1 => by omega) (fun h1 => by omega))
    · have c35b : 1 ≤ q33_0 ∧ q33_0 ≤ 1 := by omega
      replace c35 := hd_i c35
      refine Tr.aload_n (pc := 38) (i := 0) d_X12_operand_38 rfl rfl ?_
      refine Tr.ldc2 (pc := 39) d_X12_operand_39 kl_12_441 (by decide) ?_
      refine Tr.callV (pc := 42) (as := [_]) d_X12_operand_42 s_12_484 ok_X12_isWord rfl rfl (Nat.le_of_ble_eq_true rfl) (Nat.le_of_ble_eq_true rfl) (by decide) (ty_120 hS.1.1) ?_
      refine Tr.imp (Tr.deep (by decide) (ns_X12_isWord_120 (G120_3 := g120_3) (G120_7 := g120_7) hS.1.wk (k33_120_3) (k33_120_7) 7237492 (by omega))) ?_
      rintro M42 _ ⟨h42, r42, rfl, lr42, ur42, z42_0⟩
      have h42 := St.rn h42 (Pm0.of hS.1.2.2.2.2 (fun _ => (ka_X12_isWord_120_131 h42 _)) (fun _ => (ka_X12_isWord_120_137 h42 _)) (fun _ => (ka_X12_isWord_120_138 h42 _)) (fun _ => (ka_X12_isWord_120_139 h42 _)) (fun _ => (ka_X12_isWord_120_140 h42 _)) (fun _ => (ka_X12_isWord_120_141 h42 _)) (fun _ => (ka_X12_isWord_120_142 h42 _)) (fun _ => (ka_X12_isWord_120_143 h42 _)) (fun _ => (ka_X12_isWord_120_151 h42 _)) (fun _ => (ka_X12_isWord_120_152 h42 _)) (kp_X12_isWord_120_126_0 h42) (kp_X12_isWord_120_126_1 h42) (kp_X12_isWord_120_136_0 h42) (kp_X12_isWord_120_136_1 h42) (kp_X12_isWord_120_123_0 h42) (kp_X12_isWord_120_123_1 h42) (kp_X12_isWord_120_124_0 h42) (kp_X12_isWord_120_124_1 h42) (kp_X12_isWord_120_120_8 h42) (kp_X12_isWord_120_120_36 h42) (kp_X12_isWord_120_120_50 h42))
      have hS := St.tr hS h42 (by decide) (by decide)
      refine Tr.sc [(0, r42)] rfl ?_
      refine Tr.if_eq (pc := 45) (tgt := 60) d_X12_operand_45 rfl (fun c45 => ?_) (fun c45 => ?_)
      · refine Tr.pick [1, 2, 0] (ls2 := [(0, (2, 120)), (1, (0, (g120_43 - 1))), (2, (0, q33_0))]) rfl ?_
        exact J60 _ hS ((kp_X12_isWord_120_120_3 h42).trans k33_120_3) ((kp_X12_isWord_120_120_36 h42).trans k33_120_36) ((kp_X12_isWord_120_120_4 h42).trans k33_120_4) ((kp_X12_isWord_120_120_43 h42).trans k33_120_43) ((kp_X12_isWord_120_120_44 h42).trans k33_120_44) ((kp_X12_isWord_120_120_46 h42).trans k33_120_46) ((kp_X12_isWord_120_120_5 h42).trans k33_120_5) ((kp_X12_isWord_120_120_50 h42).trans k33_120_50) ((kp_X12_isWord_120_120_6 h42).trans k33_120_6) ((kp_X12_isWord_120_120_7 h42).trans k33_120_7) ((kp_X12_isWord_120_120_8 h42).trans k33_120_8) ((kp_X12_isWord_120_136_0 h42).trans k33_136_0) ((ka_X12_isWord_120_145 h42 _).trans k33_145_g120_431n1) ((nb2v_of (fun j => ((ka_X12_isWord_120_150 h42 _).trans rfl)) ((kp_X12_isWord_120_120_46 h42).trans rfl)).trans k33_9001_0) ((n4v_of (fun j => ((ka_X12_isWord_120_145 h42 _).trans rfl)) ((kp_X12_isWord_120_120_43 h42).trans rfl)).trans k33_9002_0) ((Dv0_of (fun j => ((ka_X12_isWord_120_143 h42 _).trans rfl)) (fun j => ((ka_X12_isWord_120_140 h42 _).trans rfl)) ((kp_X12_isWord_120_136_0 h42).trans rfl) ((kp_X12_isWord_120_120_36 h42).trans rfl)).trans k33_9003_0) ((fr0_of (fun j => ((ka_X12_isWord_120_145 h42 _).trans rfl))).trans k33_9005_0) ((tav_of ((kp_X12_isWord_120_120_5 h42).trans rfl) ((kp_X12_isWord_120_120_3 h42).trans rfl)).trans k33_9010_0) (by first | exact (hd_o t33_0) | exact (hd_o t33_0).elim (fun h1 => by omega) (fun h1 => by omega)) (by omega) (by first | exact (hd_o t33_2) | exact (hd_o t33_2).elim (fun h1 => by omega) (fun h1 => h1.elim (fun h1 => by omega) (fun h1 => by omega))) (by and_intros <;> omega) (by first | exact (hd_o t33_4) | exact (hd_o t33_4).elim (fun h1 => by omega) (fun h1 => by omega))
      · have c45b : 1 ≤ r42 ∧ r42 ≤ 1 := by omega
        replace c45 := hd_i c45
        refine Tr.aload_n (pc := 48) (i := 0) d_X12_operand_48 rfl rfl ?_
        refine Tr.bipush (pc := 49) d_X12_operand_49 rfl (by decide) ?_
        refine Tr.callV (pc := 51) (as := [_]) d_X12_operand_51 s_12_487 ok_X12_holdsBack rfl rfl (Nat.le_of_ble_eq_true rfl) (Nat.le_of_ble_eq_true rfl) (by decide) (ty_120 hS.1.1) ?_
        refine Tr.imp (Tr.deep (by decide) (ns_X12_holdsBack_120_w1 (G120_46 := g120_46) (G9001_0 := g9001_0) hS.1 (((kp_X12_isWord_120_120_46 h42).trans k33_120_46)) (((nb2v_of (fun j => ((ka_X12_isWord_120_150 h42 _).trans rfl)) ((kp_X12_isWord_120_120_46 h42).trans rfl)).trans k33_9001_0)) 18 (by omega) (by omega))) ?_
        rintro M51 _ ⟨h51, s51_120_46, s51_9001_0, es51_120_46, bs51_120_46, es51_9001_0, bs51_9001_0, rfl, z51_0, z51_1⟩
        have hS := St.tr hS h51 (by decide) (by decide)
        refine Tr.sc [] rfl ?_
        refine Tr.aload_n (pc := 54) (i := 0) d_X12_operand_54 rfl rfl ?_
        refine Tr.callV (pc := 55) (as := []) d_X12_operand_55 s_12_396 ok_X12_next rfl rfl (Nat.le_of_ble_eq_true rfl) (Nat.le_of_ble_eq_true rfl) (by decide) (ty_120 hS.1.1) ?_
        refine Tr.imp (Tr.deep (by decide) (ns_X12_next_120_w1 (G120_3 := g120_3) (G120_5 := g120_5) (G120_8 := g120_8) (G9010_0 := g9010_0) hS.1 (((kp_X12_holdsBack_120_w1_120_3 h51).trans ((kp_X12_isWord_120_120_3 h42).trans k33_120_3))) (((kp_X12_holdsBack_120_w1_120_5 h51).trans ((kp_X12_isWord_120_120_5 h42).trans k33_120_5))) (((kp_X12_holdsBack_120_w1_120_8 h51).trans ((kp_X12_isWord_120_120_8 h42).trans k33_120_8))) (((tav_of ((kp_X12_holdsBack_120_w1_120_5 h51).trans ((kp_X12_isWord_120_120_5 h42).trans rfl)) ((kp_X12_holdsBack_120_w1_120_3 h51).trans ((kp_X12_isWord_120_120_3 h42).trans rfl))).trans k33_9010_0)))) ?_
        rintro M55 _ ⟨h55, s55_120_3, s55_120_4, s55_120_5, s55_120_7, s55_120_8, s55_9010_0, es55_120_3, bs55_120_3, es55_120_4, bs55_120_4, es55_120_5, bs55_120_5, es55_120_7, bs55_120_7, es55_120_8, bs55_120_8, es55_9010_0, bs55_9010_0, rfl, z55_0, z55_1, z55_2, z55_3, z55_4, z55_5, z55_6⟩
        have hS := St.tr hS h55 (by decide) (by decide)
        refine Tr.sc [] rfl ?_
        refine Tr.iconst (pc := 58) d_X12_operand_58 (by decide) ?_
        have kr_120_3 : rd M55 120 3 = s55_120_3 := es55_120_3
        have kr_120_4 : rd M55 120 4 = s55_120_4 := es55_120_4
        have kr_120_5 : rd M55 120 5 = s55_120_5 := es55_120_5
        have kr_120_7 : rd M55 120 7 = s55_120_7 := es55_120_7
        have kr_120_8 : rd M55 120 8 = s55_120_8 := es55_120_8
        have kr_120_36 : rd M55 120 36 = g120_36 := ((kp_X12_next_120_w1_120_36 h55).trans ((kp_X12_holdsBack_120_w1_120_36 h51).trans ((kp_X12_isWord_120_120_36 h42).trans k33_120_36)))
        have kr_120_43 : rd M55 120 43 = g120_43 := ((kp_X12_next_120_w1_120_43 h55).trans ((kp_X12_holdsBack_120_w1_120_43 h51).trans ((kp_X12_isWord_120_120_43 h42).trans k33_120_43)))
        have kr_120_44 : rd M55 120 44 = g120_44 := ((kp_X12_next_120_w1_120_44 h55).trans ((kp_X12_holdsBack_120_w1_120_44 h51).trans ((kp_X12_isWord_120_120_44 h42).trans k33_120_44)))
        have kr_120_46 : rd M55 120 46 = s51_120_46 := ((kp_X12_next_120_w1_120_46 h55).trans es51_120_46)
        have kr_120_50 : rd M55 120 50 = g120_50 := ((kp_X12_next_120_w1_120_50 h55).trans ((kp_X12_holdsBack_120_w1_120_50 h51).trans ((kp_X12_isWord_120_120_50 h42).trans k33_120_50)))
        have kr_136_0 : rd M55 136 0 = g136_0 := ((kp_X12_next_120_w1_136_0 h55).trans ((kp_X12_holdsBack_120_w1_136_0 h51).trans ((kp_X12_isWord_120_136_0 h42).trans k33_136_0)))
        have kr_9001_0 : nb2v M55 = s51_9001_0 := ((nb2v_of (fun j => ((ka_X12_next_120_w1_150 h55 _).trans rfl)) ((kp_X12_next_120_w1_120_46 h55).trans rfl)).trans es51_9001_0)
        have kr_9002_0 : n4v M55 = g9002_0 := ((n4v_of (fun j => ((ka_X12_next_120_w1_145 h55 _).trans ((ka_X12_holdsBack_120_w1_145 h51 _).trans ((ka_X12_isWord_120_145 h42 _).trans rfl)))) ((kp_X12_next_120_w1_120_43 h55).trans ((kp_X12_holdsBack_120_w1_120_43 h51).trans ((kp_X12_isWord_120_120_43 h42).trans rfl)))).trans k33_9002_0)
        have kr_9003_0 : Dv0 M55 = g9003_0 := ((Dv0_of (fun j => ((ka_X12_next_120_w1_143 h55 _).trans ((ka_X12_holdsBack_120_w1_143 h51 _).trans ((ka_X12_isWord_120_143 h42 _).trans rfl)))) (fun j => ((ka_X12_next_120_w1_140 h55 _).trans ((ka_X12_holdsBack_120_w1_140 h51 _).trans ((ka_X12_isWord_120_140 h42 _).trans rfl)))) ((kp_X12_next_120_w1_136_0 h55).trans ((kp_X12_holdsBack_120_w1_136_0 h51).trans ((kp_X12_isWord_120_136_0 h42).trans rfl))) ((kp_X12_next_120_w1_120_36 h55).trans ((kp_X12_holdsBack_120_w1_120_36 h51).trans ((kp_X12_isWord_120_120_36 h42).trans rfl)))).trans k33_9003_0)
        have kr_9005_0 : fr0 M55 = g9005_0 := ((fr0_of (fun j => ((ka_X12_next_120_w1_145 h55 _).trans ((ka_X12_holdsBack_120_w1_145 h51 _).trans ((ka_X12_isWord_120_145 h42 _).trans rfl))))).trans k33_9005_0)
        have kr_9010_0 : tav M55 = s55_9010_0 := es55_9010_0
        exact Tr.zret (pc := 59) d_X12_operand_59 rfl (by omega) ⟨hS, _, rfl, by omega, by omega, (by first | exact (hd_o z55_0) | exact (hd_o z55_0).elim (fun h1 => by omega) (fun h1 => by omega)), (by omega), (by first | exact (hd_o z55_2) | exact (hd_o z55_2).elim (fun h1 => by omega) (fun h1 => h1.elim (fun h1 => by omega) (fun h1 => by omega))), (by and_intros <;> omega), (by first | exact (hd_o z55_6) | exact (hd_o z55_6).elim (fun h1 => by omega) (fun h1 => by omega)), (by exact (hd_o z42_0).elim (fun h1 => (hd_o z55_5).elim (fun h2 => by omega) (fun h2 => by omega)) (fun h1 => by omega)), (by exact (hd_o z42_0).elim (fun h1 => (hd_o t33_0).elim (fun h2 => by omega) (fun h2 => by omega)) (fun h1 => by omega)), (by omega), (by omega), (by omega), (by omega), (by exact (hd_o z42_0).elim (fun h1 => (hd_o t33_2).elim (fun h2 => (ne_o h2).elim (fun h3 => by omega) (fun h3 => by omega)) (fun h2 => h2.elim (fun h2 => by omega) (fun h2 => by omega))) (fun h1 => by omega)), (by exact (hd_o z51_1).elim (fun h1 => by omega) (fun h1 => (ne_o h1.1).elim (fun h2 => by omega) (fun h2 => by omega)))⟩
  have J32 : ∀ (M : Mem), St Pm0 ws_X12_operand_120_w1 as_X12_operand_120_w1 M0 M → rd M 120 3 = g120_3 → rd M 120 36 = g120_36 → rd M 120 4 = g120_4 → rd M 120 43 = g120_43 → rd M 120 44 = g120_44 → rd M 120 46 = g120_46 → rd M 120 5 = g120_5 → rd M 120 50 = g120_50 → rd M 120 6 = g120_6 → rd M 120 7 = g120_7 → rd M 120 8 = g120_8 → rd M 136 0 = g136_0 → rd M 145 (g120_43 - 1) = r12 → nb2v M = g9001_0 → n4v M = g9002_0 → Dv0 M = g9003_0 → fr0 M = g9005_0 → tav M = g9010_0 → (g120_3 = 0 ∨ g120_4 + 1 ≤ g120_5) → (g120_4 ≤ g120_5) → (g120_3 ≠ 1 ∨ g120_4 + 2 ≤ g120_5 ∨ g120_7 < 256) → (g120_4 ≤ g120_4 ∧ g120_5 ≤ g120_5 ∧ g9010_0 ≤ g9010_0) → (g120_8 = 0 ∨ g120_8 = g120_8) → Tr l K 3 mX12_operand 32 [(0, (2, 120)), (1, (0, (g120_43 - 1)))] [] M (q_X12_operand_120_w1 M0) := by
    intro M  hS  k32_120_3 k32_120_36 k32_120_4 k32_120_43 k32_120_44 k32_120_46 k32_120_5 k32_120_50 k32_120_6 k32_120_7 k32_120_8 k32_136_0 k32_145_g120_431n1 k32_9001_0 k32_9002_0 k32_9003_0 k32_9005_0 k32_9010_0 t32_0 t32_1 t32_2 t32_3 t32_4
    clear er12
    replace t32_0 := hd_i t32_0
    replace t32_2 := hd_i t32_2
    replace t32_4 := hd_i t32_4
    refine Tr.iconst (pc := 32) d_X12_operand_32 (by decide) ?_
    refine Tr.pick [0, 1] (ls2 := [(0, (2, 120)), (1, (0, (g120_43 - 1)))]) rfl ?_
    exact J33 _ _ hS (by omega) k32_120_3 k32_120_36 k32_120_4 k32_120_43 k32_120_44 k32_120_46 k32_120_5 k32_120_50 k32_120_6 k32_120_7 k32_120_8 k32_136_0 k32_145_g120_431n1 k32_9001_0 k32_9002_0 k32_9003_0 k32_9005_0 k32_9010_0 (by first | exact (hd_o t32_0) | exact (hd_o t32_0).elim (fun h1 => by omega) (fun h1 => by omega)) (by omega) (by first | exact (hd_o t32_2) | exact (hd_o t32_2).elim (fun h1 => by omega) (fun h1 => h1.elim (fun h1 => by omega) (fun h1 => by omega))) (by and_intros <;> omega) (by first | exact (hd_o t32_4) | exact (hd_o t32_4).elim (fun h1 => by omega) (fun h1 => by omega))
  refine Tr.if_eq (pc := 16) (tgt := 32) d_X12_operand_16 rfl (fun c16 => ?_) (fun c16 => ?_)
  · refine Tr.pick [1, 0] (ls2 := [(0, (2, 120)), (1, (0, (g120_43 - 1)))]) rfl ?_
    exact J32 _ hS ((kp_X12_isTest_120_3 h13).trans eg120_3) ((kp_X12_isTest_120_36 h13).trans eg120_36) ((kp_X12_isTest_120_4 h13).trans eg120_4) ((kp_X12_isTest_120_43 h13).trans eg120_43) ((kp_X12_isTest_120_44 h13).trans eg120_44) ((kp_X12_isTest_120_46 h13).trans eg120_46) ((kp_X12_isTest_120_5 h13).trans eg120_5) ((kp_X12_isTest_120_50 h13).trans eg120_50) ((kp_X12_isTest_120_6 h13).trans eg120_6) ((kp_X12_isTest_120_7 h13).trans eg120_7) ((kp_X12_isTest_120_8 h13).trans eg120_8) ((kp_X12_isTest_136_0 h13).trans eg136_0) ((ka_X12_isTest_145 h13 _).trans er12) ((nb2v_of (fun j => ((ka_X12_isTest_150 h13 _).trans rfl)) ((kp_X12_isTest_120_46 h13).trans rfl)).trans eg9001_0) ((n4v_of (fun j => ((ka_X12_isTest_145 h13 _).trans rfl)) ((kp_X12_isTest_120_43 h13).trans rfl)).trans eg9002_0) ((Dv0_of (fun j => ((ka_X12_isTest_143 h13 _).trans rfl)) (fun j => ((ka_X12_isTest_140 h13 _).trans rfl)) ((kp_X12_isTest_136_0 h13).trans rfl) ((kp_X12_isTest_120_36 h13).trans rfl)).trans eg9003_0) ((fr0_of (fun j => ((ka_X12_isTest_145 h13 _).trans rfl))).trans eg9005_0) ((tav_of ((kp_X12_isTest_120_5 h13).trans rfl) ((kp_X12_isTest_120_3 h13).trans rfl)).trans eg9010_0) (by first | exact (hd_o hq0) | exact (hd_o hq0).elim (fun h1 => by omega) (fun h1 => by omega)) (by omega) (by first | exact (hd_o hq2) | exact (hd_o hq2).elim (fun h1 => by omega) (fun h1 => h1.elim (fun h1 => by omega) (fun h1 => by omega))) (by and_intros <;> omega) (by omega)
  · have c16b : 1 ≤ r13 ∧ r13 ≤ 1 := by omega
    replace c16 := hd_i c16
    refine Tr.aload_n (pc := 19) (i := 0) d_X12_operand_19 rfl rfl ?_
    refine Tr.getf (pc := 20) d_X12_operand_20 f_12_133 (by decide) (by decide) (ty_120 hS.1.1) ?_
    refine Tr.tp 147 (fx_120_40 hS.1.1) ?_
    refine Tr.iload_n (pc := 23) (i := 1) d_X12_operand_23 rfl rfl ?_
    refine Tr.zald (pc := 24) d_X12_operand_24 (ty_147 hS.1.1) (by omega) (by omega) ?_
    refine Tr.gen (P := fun v => 0 ≤ v ∧ v ≤ 1) (ar_147 hS.1.2.1 _) (fun r24 er24 br24 => ?_)
    refine Tr.if_eq (pc := 25) (tgt := 32) d_X12_operand_25 rfl (fun c25 => ?_) (fun c25 => ?_)
    · refine Tr.pick [1, 0] (ls2 := [(0, (2, 120)), (1, (0, (g120_43 - 1)))]) rfl ?_
      exact J32 _ hS ((kp_X12_isTest_120_3 h13).trans eg120_3) ((kp_X12_isTest_120_36 h13).trans eg120_36) ((kp_X12_isTest_120_4 h13).trans eg120_4) ((kp_X12_isTest_120_43 h13).trans eg120_43) ((kp_X12_isTest_120_44 h13).trans eg120_44) ((kp_X12_isTest_120_46 h13).trans eg120_46) ((kp_X12_isTest_120_5 h13).trans eg120_5) ((kp_X12_isTest_120_50 h13).trans eg120_50) ((kp_X12_isTest_120_6 h13).trans eg120_6) ((kp_X12_isTest_120_7 h13).trans eg120_7) ((kp_X12_isTest_120_8 h13).trans eg120_8) ((kp_X12_isTest_136_0 h13).trans eg136_0) ((ka_X12_isTest_145 h13 _).trans er12) ((nb2v_of (fun j => ((ka_X12_isTest_150 h13 _).trans rfl)) ((kp_X12_isTest_120_46 h13).trans rfl)).trans eg9001_0) ((n4v_of (fun j => ((ka_X12_isTest_145 h13 _).trans rfl)) ((kp_X12_isTest_120_43 h13).trans rfl)).trans eg9002_0) ((Dv0_of (fun j => ((ka_X12_isTest_143 h13 _).trans rfl)) (fun j => ((ka_X12_isTest_140 h13 _).trans rfl)) ((kp_X12_isTest_136_0 h13).trans rfl) ((kp_X12_isTest_120_36 h13).trans rfl)).trans eg9003_0) ((fr0_of (fun j => ((ka_X12_isTest_145 h13 _).trans rfl))).trans eg9005_0) ((tav_of ((kp_X12_isTest_120_5 h13).trans rfl) ((kp_X12_isTest_120_3 h13).trans rfl)).trans eg9010_0) (by first | exact (hd_o hq0) | exact (hd_o hq0).elim (fun h1 => by omega) (fun h1 => by omega)) (by omega) (by first | exact (hd_o hq2) | exact (hd_o hq2).elim (fun h1 => by omega) (fun h1 => h1.elim (fun h1 => by omega) (fun h1 => by omega))) (by and_intros <;> omega) (by omega)
    · have c25b : 1 ≤ r24 ∧ r24 ≤ 1 := by omega
      replace c25 := hd_i c25
      refine Tr.iconst (pc := 28) d_X12_operand_28 (by decide) ?_
      refine Tr.goto (pc := 29) (tgt := 33) d_X12_operand_29 rfl ?_
      refine Tr.pick [1, 0] (ls2 := [(0, (2, 120)), (1, (0, (g120_43 - 1)))]) rfl ?_
      exact J33 _ _ hS (by omega) ((kp_X12_isTest_120_3 h13).trans eg120_3) ((kp_X12_isTest_120_36 h13).trans eg120_36) ((kp_X12_isTest_120_4 h13).trans eg120_4) ((kp_X12_isTest_120_43 h13).trans eg120_43) ((kp_X12_isTest_120_44 h13).trans eg120_44) ((kp_X12_isTest_120_46 h13).trans eg120_46) ((kp_X12_isTest_120_5 h13).trans eg120_5) ((kp_X12_isTest_120_50 h13).trans eg120_50) ((kp_X12_isTest_120_6 h13).trans eg120_6) ((kp_X12_isTest_120_7 h13).trans eg120_7) ((kp_X12_isTest_120_8 h13).trans eg120_8) ((kp_X12_isTest_136_0 h13).trans eg136_0) ((ka_X12_isTest_145 h13 _).trans er12) ((nb2v_of (fun j => ((ka_X12_isTest_150 h13 _).trans rfl)) ((kp_X12_isTest_120_46 h13).trans rfl)).trans eg9001_0) ((n4v_of (fun j => ((ka_X12_isTest_145 h13 _).trans rfl)) ((kp_X12_isTest_120_43 h13).trans rfl)).trans eg9002_0) ((Dv0_of (fun j => ((ka_X12_isTest_143 h13 _).trans rfl)) (fun j => ((ka_X12_isTest_140 h13 _).trans rfl)) ((kp_X12_isTest_136_0 h13).trans rfl) ((kp_X12_isTest_120_36 h13).trans rfl)).trans eg9003_0) ((fr0_of (fun j => ((ka_X12_isTest_145 h13 _).trans rfl))).trans eg9005_0) ((tav_of ((kp_X12_isTest_120_5 h13).trans rfl) ((kp_X12_isTest_120_3 h13).trans rfl)).trans eg9010_0) (by first | exact (hd_o hq0) | exact (hd_o hq0).elim (fun h1 => by omega) (fun h1 => by omega)) (by omega) (by first | exact (hd_o hq2) | exact (hd_o hq2).elim (fun h1 => by omega) (fun h1 => h1.elim (fun h1 => by omega) (fun h1 => by omega))) (by and_intros <;> omega) (by omega)
end
