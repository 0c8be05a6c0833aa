def ws_X12_inputOf_120_w1 : List (Int × Int) := []
def as_X12_inputOf_120_w1 : List Int := []
def q_X12_inputOf_120_w1 (M0 M' : Mem) (r : Option PV) : Prop := St Tru ws_X12_inputOf_120_w1 as_X12_inputOf_120_w1 M0 M' ∧ ∃ v : Int, r = some (0, v) ∧ (-1) ≤ v ∧ v ≤ 2
set_option maxRecDepth 100000 in
set_option maxHeartbeats 4000000 in
theorem sp_X12_inputOf_120_w1 {l : Launch} {K : EC} {M0 : Mem} (hI : In Tru M0) (en_120_37 : rd M0 120 37 = 0) (a1 : Int) (ha1 : (-9223372036854775808) ≤ a1 ∧ a1 ≤ 9223372036854775807)  : Tr l K 0 mX12_inputOf 0 [(0, (2, 120)), (1, (1, a1))] [] M0 (q_X12_inputOf_120_w1 M0) := by
  have hS : St Tru ws_X12_inputOf_120_w1 as_X12_inputOf_120_w1 M0 M0 := St.rf hI
  refine Tr.iconst (pc := 0) d_X12_inputOf_0 (by decide) ?_
  refine Tr.istore_n (pc := 1) (i := 3) (ls2 := [(3, (0, 0)), (0, (2, 120)), (1, (1, a1))]) d_X12_inputOf_1 rfl (by decide) rfl ?_
  have J2 : ∀ (n2 : Nat) (M : Mem) (p2_3 : Int), St Tru ws_X12_inputOf_120_w1 as_X12_inputOf_120_w1 M0 M → (0 ≤ p2_3 ∧ p2_3 ≤ 3) → (3 - p2_3).toNat < n2 → Tr l K 0 mX12_inputOf 2 [(0, (2, 120)), (1, (1, a1)), (3, (0, p2_3))] [] M (q_X12_inputOf_120_w1 M0) := by
    intro n2
    induction n2 with
    | zero => intro M p2_3 hS bp2_3  hm2; exact absurd hm2 (Nat.not_lt_zero _)
    | succ n2 J2 =>
      intro M p2_3 hS bp2_3  hm2
      refine Tr.iload_n (pc := 2) (i := 3) d_X12_inputOf_2 rfl rfl ?_
      refine Tr.aload_n (pc := 3) (i := 0) d_X12_inputOf_3 rfl rfl ?_
      refine Tr.getf (pc := 4) d_X12_inputOf_4 f_12_66 (by decide) (by decide) (ty_120 hS.1.1) ?_
      refine Tr.tp 127 (fx_120_18 hS.1.1) ?_
      refine Tr.aload_n (pc := 7) (i := 0) d_X12_inputOf_7 rfl rfl ?_
      refine Tr.getf (pc := 8) d_X12_inputOf_8 f_12_124 (by decide) (by decide) (ty_120 hS.1.1) ?_
      refine Tr.tp 0 ((St.kp hS (by decide) (by decide) (by decide)).trans en_120_37) ?_
      refine Tr.iald (pc := 11) d_X12_inputOf_11 (ty_127 hS.1.1) (by omega) (by omega) ?_
      refine Tr.gen (P := fun v => 0 ≤ v ∧ v ≤ 3) (ir_127_0 hS.1.2.1) (fun r11 er11 br11 => ?_)
      refine Tr.icmp_ge (pc := 12) (tgt := 41) d_X12_inputOf_12 rfl (fun c12 => ?_) (fun c12 => ?_)
      · refine Tr.iconst (pc := 41) d_X12_inputOf_41 (by decide) ?_
        exact Tr.iret (pc := 42) d_X12_inputOf_42 rfl ⟨hS, _, rfl, by omega, by omega⟩
      · refine Tr.aload_n (pc := 15) (i := 0) d_X12_inputOf_15 rfl rfl ?_
        refine Tr.getf (pc := 16) d_X12_inputOf_16 f_12_82 (by decide) (by decide) (ty_120 hS.1.1) ?_
        refine Tr.tp 132 (fx_120_23 hS.1.1) ?_
        refine Tr.iconst (pc := 19) d_X12_inputOf_19 (by decide) ?_
        refine Tr.aload_n (pc := 20) (i := 0) d_X12_inputOf_20 rfl rfl ?_
        refine Tr.getf (pc := 21) d_X12_inputOf_21 f_12_124 (by decide) (by decide) (ty_120 hS.1.1) ?_
        refine Tr.tp 0 ((St.kp hS (by decide) (by decide) (by decide)).trans en_120_37) ?_
        refine Tr.imul (pc := 24) d_X12_inputOf_24 ?_
        refine Tr.tp 0 (by decide) ?_
        refine Tr.iload_n (pc := 25) (i := 3) d_X12_inputOf_25 rfl rfl ?_
        refine Tr.iadd (pc := 26) d_X12_inputOf_26 ?_
        refine Tr.tp p2_3 ((w32_id (by omega)).trans (by omega)) ?_
        refine Tr.lald (pc := 27) d_X12_inputOf_27 (ty_132 hS.1.1) (by omega) (by omega) ?_
        refine Tr.gen (P := fun v => (-9223372036854775808) ≤ v ∧ v ≤ 9223372036854775807) (ar_132 hS.1.2.1 _) (fun r27 er27 br27 => ?_)
        refine Tr.lload_n (pc := 28) (i := 1) d_X12_inputOf_28 rfl rfl ?_
        refine Tr.lcmp (pc := 29) d_X12_inputOf_29 ?_
        refine Tr.gen (P := fun v => (v = 1 ∧ a1 < r27) ∨ (v = 0 ∧ r27 = a1) ∨ (v = -1 ∧ r27 < a1)) (f_lcmp_c _ _) (fun r29 er29 br29 => ?_)
        refine Tr.if_ne (pc := 30) (tgt := 35) d_X12_inputOf_30 rfl (fun c30 => ?_) (fun c30 => ?_)
        · refine Tr.iincV (pc := 35) (n2 := (p2_3 + 1)) (ls2 := [(3, (0, (p2_3 + 1))), (0, (2, 120)), (1, (1, a1))]) d_X12_inputOf_35 rfl (by decide) ((w32_id (by omega)).trans (by omega)) rfl ?_
          refine Tr.goto (pc := 38) (tgt := 2) d_X12_inputOf_38 rfl ?_
          refine Tr.pick [1, 2, 0] (ls2 := [(0, (2, 120)), (1, (1, a1)), (3, (0, (p2_3 + 1)))]) rfl ?_
          exact J2 _ _ hS (by omega) (by omega)
        · refine Tr.iload_n (pc := 33) (i := 3) d_X12_inputOf_33 rfl rfl ?_
          exact Tr.iret (pc := 34) d_X12_inputOf_34 rfl ⟨hS, _, rfl, by omega, by omega⟩
  refine Tr.pick [1, 2, 0] (ls2 := [(0, (2, 120)), (1, (1, a1)), (3, (0, 0))]) rfl ?_
  exact J2 _ _ _ hS (by omega) (Nat.lt_succ_self _)

def ws_X12_varOf_120_w1 : List (Int × Int) := []
def as_X12_varOf_120_w1 : List Int := []
def q_X12_varOf_120_w1 (M0 M' : Mem) (r : Option PV) : Prop := St Tru ws_X12_varOf_120_w1 as_X12_varOf_120_w1 M0 M' ∧ ∃ v : Int, r = some (0, v) ∧ (-1) ≤ v ∧ v ≤ 5
set_option maxRecDepth 100000 in
set_option maxHeartbeats 4000000 in
theorem sp_X12_varOf_120_w1 {l : Launch} {K : EC} {M0 : Mem} (hI : In Tru M0) (en_120_37 : rd M0 120 37 = 0) (a1 : Int) (ha1 : (-9223372036854775808) ≤ a1 ∧ a1 ≤ 9223372036854775807)  : Tr l K 0 mX12_varOf 0 [(0, (2, 120)), (1, (1, a1))] [] M0 (q_X12_varOf_120_w1 M0) := by
  have hS : St Tru ws_X12_varOf_120_w1 as_X12_varOf_120_w1 M0 M0 := St.rf hI
  refine Tr.iconst (pc := 0) d_X12_varOf_0 (by decide) ?_
  refine Tr.istore_n (pc := 1) (i := 3) (ls2 := [(3, (0, 0)), (0, (2, 120)), (1, (1, a1))]) d_X12_varOf_1 rfl (by decide) rfl ?_
  have J2 : ∀ (n2 : Nat) (M : Mem) (p2_3 : Int), St Tru ws_X12_varOf_120_w1 as_X12_varOf_120_w1 M0 M → (0 ≤ p2_3 ∧ p2_3 ≤ 6) → (6 - p2_3).toNat < n2 → Tr l K 0 mX12_varOf 2 [(0, (2, 120)), (1, (1, a1)), (3, (0, p2_3))] [] M (q_X12_varOf_120_w1 M0) := by
    intro n2
    induction n2 with
    | zero => intro M p2_3 hS bp2_3  hm2; exact absurd hm2 (Nat.not_lt_zero _)
    | succ n2 J2 =>
      intro M p2_3 hS bp2_3  hm2
      refine Tr.iload_n (pc := 2) (i := 3) d_X12_varOf_2 rfl rfl ?_
      refine Tr.aload_n (pc := 3) (i := 0) d_X12_varOf_3 rfl rfl ?_
      refine Tr.getf (pc := 4) d_X12_varOf_4 f_12_69 (by decide) (by decide) (ty_120 hS.1.1) ?_
      refine Tr.tp 128 (fx_120_19 hS.1.1) ?_
      refine Tr.aload_n (pc := 7) (i := 0) d_X12_varOf_7 rfl rfl ?_
      refine Tr.getf (pc := 8) d_X12_varOf_8 f_12_124 (by decide) (by decide) (ty_120 hS.1.1) ?_
      refine Tr.tp 0 ((St.kp hS (by decide) (by decide) (by decide)).trans en_120_37) ?_
      refine Tr.iald (pc := 11) d_X12_varOf_11 (ty_128 hS.1.1) (by omega) (by omega) ?_
      refine Tr.gen (P := fun v => 0 ≤ v ∧ v ≤ 6) (ir_128_0 hS.1.2.1) (fun r11 er11 br11 => ?_)
      refine Tr.icmp_ge (pc := 12) (tgt := 42) d_X12_varOf_12 rfl (fun c12 => ?_) (fun c12 => ?_)
      · refine Tr.iconst (pc := 42) d_X12_varOf_42 (by decide) ?_
        exact Tr.iret (pc := 43) d_X12_varOf_43 rfl ⟨hS, _, rfl, by omega, by omega⟩
      · refine Tr.aload_n (pc := 15) (i := 0) d_X12_varOf_15 rfl rfl ?_
        refine Tr.getf (pc := 16) d_X12_varOf_16 f_12_91 (by decide) (by decide) (ty_120 hS.1.1) ?_
        refine Tr.tp 135 (fx_120_26 hS.1.1) ?_
        refine Tr.bipush (pc := 19) d_X12_varOf_19 rfl (by decide) ?_
        refine Tr.aload_n (pc := 21) (i := 0) d_X12_varOf_21 rfl rfl ?_
        refine Tr.getf (pc := 22) d_X12_varOf_22 f_12_124 (by decide) (by decide) (ty_120 hS.1.1) ?_
        refine Tr.tp 0 ((St.kp hS (by decide) (by decide) (by decide)).trans en_120_37) ?_
        refine Tr.imul (pc := 25) d_X12_varOf_25 ?_
        refine Tr.tp 0 (by decide) ?_
        refine Tr.iload_n (pc := 26) (i := 3) d_X12_varOf_26 rfl rfl ?_
        refine Tr.iadd (pc := 27) d_X12_varOf_27 ?_
        refine Tr.tp p2_3 ((w32_id (by omega)).trans (by omega)) ?_
        refine Tr.lald (pc := 28) d_X12_varOf_28 (ty_135 hS.1.1) (by omega) (by omega) ?_
        refine Tr.gen (P := fun v => (-9223372036854775808) ≤ v ∧ v ≤ 9223372036854775807) (ar_135 hS.1.2.1 _) (fun r28 er28 br28 => ?_)
        refine Tr.lload_n (pc := 29) (i := 1) d_X12_varOf_29 rfl rfl ?_
        refine Tr.lcmp (pc := 30) d_X12_varOf_30 ?_
        refine Tr.gen (P := fun v => (v = 1 ∧ a1 < r28) ∨ (v = 0 ∧ r28 = a1) ∨ (v = -1 ∧ r28 < a1)) (f_lcmp_c _ _) (fun r30 er30 br30 => ?_)
        refine Tr.if_ne (pc := 31) (tgt := 36) d_X12_varOf_31 rfl (fun c31 => ?_) (fun c31 => ?_)
        · refine Tr.iincV (pc := 36) (n2 := (p2_3 + 1)) (ls2 := [(3, (0, (p2_3 + 1))), (0, (2, 120)), (1, (1, a1))]) d_X12_varOf_36 rfl (by decide) ((w32_id (by omega)).trans (by omega)) rfl ?_
          refine Tr.goto (pc := 39) (tgt := 2) d_X12_varOf_39 rfl ?_
          refine Tr.pick [1, 2, 0] (ls2 := [(0, (2, 120)), (1, (1, a1)), (3, (0, (p2_3 + 1)))]) rfl ?_
          exact J2 _ _ hS (by omega) (by omega)
        · refine Tr.iload_n (pc := 34) (i := 3) d_X12_varOf_34 rfl rfl ?_
          exact Tr.iret (pc := 35) d_X12_varOf_35 rfl ⟨hS, _, rfl, by omega, by omega⟩
  refine Tr.pick [1, 2, 0] (ls2 := [(0, (2, 120)), (1, (1, a1)), (3, (0, 0))]) rfl ?_
  exact J2 _ _ _ hS (by omega) (Nat.lt_succ_self _)

def ws_X12_fresh_120_w1 : List (Int × Int) := [(120, 3), (120, 4), (120, 5), (120, 6), (120, 7), (120, 8), (120, 9)]
def as_X12_fresh_120_w1 : List Int := []
def q_X12_fresh_120_w1 (M0 M' : Mem) (r : Option PV) : Prop := St Pm0 ws_X12_fresh_120_w1 as_X12_fresh_120_w1 M0 M' ∧ ∃ v : Int, r = some (1, v) ∧ (-9223372036854775808) ≤ v ∧ v ≤ 9223372036854775807 ∧ (rd M' 120 3 = 0 ∨ rd M' 120 4 + 1 ≤ rd M' 120 5) ∧ (rd M' 120 4 ≤ rd M' 120 5) ∧ (rd M' 120 3 ≠ 1 ∨ rd M' 120 4 + 2 ≤ rd M' 120 5 ∨ rd M' 120 7 < 256) ∧ (rd M0 120 4 ≤ rd M' 120 4 ∧ rd M0 120 5 ≤ rd M' 120 5 ∧ tav M0 ≤ tav M') ∧ (rd M0 120 8 = 0 ∨ rd M' 120 8 = rd M0 120 8) ∧ (1 ≤ rd M' 120 8 ∨ tav M0 < tav M')
theorem kp_X12_fresh_120_w1_120_37 {q : Mem → Prop} {M0 M : Mem} (h : St q ws_X12_fresh_120_w1 as_X12_fresh_120_w1 M0 M) : rd M 120 37 = rd M0 120 37 := St.kp h (by decide) (by decide) (by decide)
theorem ka_X12_partOf_120_w1_131 {q : Mem → Prop} {M0 M : Mem} (h : St q ws_X12_partOf_120_w1 as_X12_partOf_120_w1 M0 M) (j : Int) : rd M 131 j = rd M0 131 j := St.ka h (by decide) (by decide) (by decide)
theorem ka_X12_partOf_120_w1_137 {q : Mem → Prop} {M0 M : Mem} (h : St q ws_X12_partOf_120_w1 as_X12_partOf_120_w1 M0 M) (j : Int) : rd M 137 j = rd M0 137 j := St.ka h (by decide) (by decide) (by decide)
theorem ka_X12_partOf_120_w1_138 {q : Mem → Prop} {M0 M : Mem} (h : St q ws_X12_partOf_120_w1 as_X12_partOf_120_w1 M0 M) (j : Int) : rd M 138 j = rd M0 138 j := St.ka h (by decide) (by decide) (by decide)
theorem ka_X12_partOf_120_w1_139 {q : Mem → Prop} {M0 M : Mem} (h : St q ws_X12_partOf_120_w1 as_X12_partOf_120_w1 M0 M) (j : Int) : rd M 139 j = rd M0 139 j := St.ka h (by decide) (by decide) (by decide)
theorem ka_X12_partOf_120_w1_140 {q : Mem → Prop} {M0 M : Mem} (h : St q ws_X12_partOf_120_w1 as_X12_partOf_120_w1 M0 M) (j : Int) : rd M 140 j = rd M0 140 j := St.ka h (by decide) (by decide) (by decide)
theorem ka_X12_partOf_120_w1_141 {q : Mem → Prop} {M0 M : Mem} (h : St q ws_X12_partOf_120_w1 as_X12_partOf_120_w1 M0 M) (j : Int) : rd M 141 j = rd M0 141 j := St.ka h (by decide) (by decide) (by decide)
theorem ka_X12_partOf_120_w1_142 {q : Mem → Prop} {M0 M : Mem} (h : St q ws_X12_partOf_120_w1 as_X12_partOf_120_w1 M0 M) (j : Int) : rd M 142 j = rd M0 142 j := St.ka h (by decide) (by decide) (by decide)
theorem ka_X12_partOf_120_w1_143 {q : Mem → Prop} {M0 M : Mem} (h : St q ws_X12_partOf_120_w1 as_X12_partOf_120_w1 M0 M) (j : Int) : rd M 143 j = rd M0 143 j := St.ka h (by decide) (by decide) (by decide)
theorem ka_X12_partOf_120_w1_151 {q : Mem → Prop} {M0 M : Mem} (h : St q ws_X12_partOf_120_w1 as_X12_partOf_120_w1 M0 M) (j : Int) : rd M 151 j = rd M0 151 j := St.ka h (by decide) (by decide) (by decide)
theorem ka_X12_partOf_120_w1_152 {q : Mem → Prop} {M0 M : Mem} (h : St q ws_X12_partOf_120_w1 as_X12_partOf_120_w1 M0 M) (j : Int) : rd M 152 j = rd M0 152 j := St.ka h (by decide) (by decide) (by decide)
theorem kp_X12_partOf_120_w1_126_0 {q : Mem → Prop} {M0 M : Mem} (h : St q ws_X12_partOf_120_w1 as_X12_partOf_120_w1 M0 M) : rd M 126 0 = rd M0 126 0 := St.kp h (by decide) (by decide) (by decide)
theorem kp_X12_partOf_120_w1_126_1 {q : Mem → Prop} {M0 M : Mem} (h : St q ws_X12_partOf_120_w1 as_X12_partOf_120_w1 M0 M) : rd M 126 1 = rd M0 126 1 := St.kp h (by decide) (by decide) (by decide)
theorem kp_X12_partOf_120_w1_136_0 {q : Mem → Prop} {M0 M : Mem} (h : St q ws_X12_partOf_120_w1 as_X12_partOf_120_w1 M0 M) : rd M 136 0 = rd M0 136 0 := St.kp h (by decide) (by decide) (by decide)
theorem kp_X12_partOf_120_w1_136_1 {q : Mem → Prop} {M0 M : Mem} (h : St q ws_X12_partOf_120_w1 as_X12_partOf_120_w1 M0 M) : rd M 136 1 = rd M0 136 1 := St.kp h (by decide) (by decide) (by decide)
theorem kp_X12_partOf_120_w1_123_0 {q : Mem → Prop} {M0 M : Mem} (h : St q ws_X12_partOf_120_w1 as_X12_partOf_120_w1 M0 M) : rd M 123 0 = rd M0 123 0 := St.kp h (by decide) (by decide) (by decide)
theorem kp_X12_partOf_120_w1_123_1 {q : Mem → Prop} {M0 M : Mem} (h : St q ws_X12_partOf_120_w1 as_X12_partOf_120_w1 M0 M) : rd M 123 1 = rd M0 123 1 := St.kp h (by decide) (by decide) (by decide)
theorem kp_X12_partOf_120_w1_124_0 {q : Mem → Prop} {M0 M : Mem} (h : St q ws_X12_partOf_120_w1 as_X12_partOf_120_w1 M0 M) : rd M 124 0 = rd M0 124 0 := St.kp h (by decide) (by decide) (by decide)
theorem kp_X12_partOf_120_w1_124_1 {q : Mem → Prop} {M0 M : Mem} (h : St q ws_X12_partOf_120_w1 as_X12_partOf_120_w1 M0 M) : rd M 124 1 = rd M0 124 1 := St.kp h (by decide) (by decide) (by decide)
theorem kp_X12_partOf_120_w1_120_8 {q : Mem → Prop} {M0 M : Mem} (h : St q ws_X12_partOf_120_w1 as_X12_partOf_120_w1 M0 M) : rd M 120 8 = rd M0 120 8 := St.kp h (by decide) (by decide) (by decide)
theorem kp_X12_partOf_120_w1_120_36 {q : Mem → Prop} {M0 M : Mem} (h : St q ws_X12_partOf_120_w1 as_X12_partOf_120_w1 M0 M) : rd M 120 36 = rd M0 120 36 := St.kp h (by decide) (by decide) (by decide)
theorem kp_X12_partOf_120_w1_120_50 {q : Mem → Prop} {M0 M : Mem} (h : St q ws_X12_partOf_120_w1 as_X12_partOf_120_w1 M0 M) : rd M 120 50 = rd M0 120 50 := St.kp h (by decide) (by decide) (by decide)
theorem kp_X12_partOf_120_w1_120_3 {q : Mem → Prop} {M0 M : Mem} (h : St q ws_X12_partOf_120_w1 as_X12_partOf_120_w1 M0 M) : rd M 120 3 = rd M0 120 3 := St.kp h (by decide) (by decide) (by decide)
theorem kp_X12_partOf_120_w1_120_4 {q : Mem → Prop} {M0 M : Mem} (h : St q ws_X12_partOf_120_w1 as_X12_partOf_120_w1 M0 M) : rd M 120 4 = rd M0 120 4 := St.kp h (by decide) (by decide) (by decide)
theorem kp_X12_partOf_120_w1_120_5 {q : Mem → Prop} {M0 M : Mem} (h : St q ws_X12_partOf_120_w1 as_X12_partOf_120_w1 M0 M) : rd M 120 5 = rd M0 120 5 := St.kp h (by decide) (by decide) (by decide)
theorem kp_X12_partOf_120_w1_120_7 {q : Mem → Prop} {M0 M : Mem} (h : St q ws_X12_partOf_120_w1 as_X12_partOf_120_w1 M0 M) : rd M 120 7 = rd M0 120 7 := St.kp h (by decide) (by decide) (by decide)
theorem ka_X12_inputOf_120_w1_131 {q : Mem → Prop} {M0 M : Mem} (h : St q ws_X12_inputOf_120_w1 as_X12_inputOf_120_w1 M0 M) (j : Int) : rd M 131 j = rd M0 131 j := St.ka h (by decide) (by decide) (by decide)
theorem ka_X12_inputOf_120_w1_137 {q : Mem → Prop} {M0 M : Mem} (h : St q ws_X12_inputOf_120_w1 as_X12_inputOf_120_w1 M0 M) (j : Int) : rd M 137 j = rd M0 137 j := St.ka h (by decide) (by decide) (by decide)
theorem ka_X12_inputOf_120_w1_138 {q : Mem → Prop} {M0 M : Mem} (h : St q ws_X12_inputOf_120_w1 as_X12_inputOf_120_w1 M0 M) (j : Int) : rd M 138 j = rd M0 138 j := St.ka h (by decide) (by decide) (by decide)
theorem ka_X12_inputOf_120_w1_139 {q : Mem → Prop} {M0 M : Mem} (h : St q ws_X12_inputOf_120_w1 as_X12_inputOf_120_w1 M0 M) (j : Int) : rd M 139 j = rd M0 139 j := St.ka h (by decide) (by decide) (by decide)
theorem ka_X12_inputOf_120_w1_140 {q : Mem → Prop} {M0 M : Mem} (h : St q ws_X12_inputOf_120_w1 as_X12_inputOf_120_w1 M0 M) (j : Int) : rd M 140 j = rd M0 140 j := St.ka h (by decide) (by decide) (by decide)
theorem ka_X12_inputOf_120_w1_141 {q : Mem → Prop} {M0 M : Mem} (h : St q ws_X12_inputOf_120_w1 as_X12_inputOf_120_w1 M0 M) (j : Int) : rd M 141 j = rd M0 141 j := St.ka h (by decide) (by decide) (by decide)
theorem ka_X12_inputOf_120_w1_142 {q : Mem → Prop} {M0 M : Mem} (h : St q ws_X12_inputOf_120_w1 as_X12_inputOf_120_w1 M0 M) (j : Int) : rd M 142 j = rd M0 142 j := St.ka h (by decide) (by decide) (by decide)
theorem ka_X12_inputOf_120_w1_143 {q : Mem → Prop} {M0 M : Mem} (h : St q ws_X12_inputOf_120_w1 as_X12_inputOf_120_w1 M0 M) (j : Int) : rd M 143 j = rd M0 143 j := St.ka h (by decide) (by decide) (by decide)
theorem ka_X12_inputOf_120_w1_151 {q : Mem → Prop} {M0 M : Mem} (h : St q ws_X12_inputOf_120_w1 as_X12_inputOf_120_w1 M0 M) (j : Int) : rd M 151 j = rd M0 151 j := St.ka h (by decide) (by decide) (by decide)
theorem ka_X12_inputOf_120_w1_152 {q : Mem → Prop} {M0 M : Mem} (h : St q ws_X12_inputOf_120_w1 as_X12_inputOf_120_w1 M0 M) (j : Int) : rd M 152 j = rd M0 152 j := St.ka h (by decide) (by decide) (by decide)
theorem kp_X12_inputOf_120_w1_126_0 {q : Mem → Prop} {M0 M : Mem} (h : St q ws_X12_inputOf_120_w1 as_X12_inputOf_120_w1 M0 M) : rd M 126 0 = rd M0 126 0 := St.kp h (by decide) (by decide) (by decide)
theorem kp_X12_inputOf_120_w1_126_1 {q : Mem → Prop} {M0 M : Mem} (h : St q ws_X12_inputOf_120_w1 as_X12_inputOf_120_w1 M0 M) : rd M 126 1 = rd M0 126 1 := St.kp h (by decide) (by decide) (by decide)
theorem kp_X12_inputOf_120_w1_136_0 {q : Mem → Prop} {M0 M : Mem} (h : St q ws_X12_inputOf_120_w1 as_X12_inputOf_120_w1 M0 M) : rd M 136 0 = rd M0 136 0 := St.kp h (by decide) (by decide) (by decide)
theorem kp_X12_inputOf_120_w1_136_1 {q : Mem → Prop} {M0 M : Mem} (h : St q ws_X12_inputOf_120_w1 as_X12_inputOf_120_w1 M0 M) : rd M 136 1 = rd M0 136 1 := St.kp h (by decide) (by decide) (by decide)
theorem kp_X12_inputOf_120_w1_123_0 {q : Mem → Prop} {M0 M : Mem} (h : St q ws_X12_inputOf_120_w1 as_X12_inputOf_120_w1 M0 M) : rd M 123 0 = rd M0 123 0 := St.kp h (by decide) (by decide) (by decide)
theorem kp_X12_inputOf_120_w1_123_1 {q : Mem → Prop} {M0 M : Mem} (h : St q ws_X12_inputOf_120_w1 as_X12_inputOf_120_w1 M0 M) : rd M 123 1 = rd M0 123 1 := St.kp h (by decide) (by decide) (by decide)
theorem kp_X12_inputOf_120_w1_124_0 {q : Mem → Prop} {M0 M : Mem} (h : St q ws_X12_inputOf_120_w1 as_X12_inputOf_120_w1 M0 M) : rd M 124 0 = rd M0 124 0 := St.kp h (by decide) (by decide) (by decide)
theorem kp_X12_inputOf_120_w1_124_1 {q : Mem → Prop} {M0 M : Mem} (h : St q ws_X12_inputOf_120_w1 as_X12_inputOf_120_w1 M0 M) : rd M 124 1 = rd M0 124 1 := St.kp h (by decide) (by decide) (by decide)
theorem kp_X12_inputOf_120_w1_120_8 {q : Mem → Prop} {M0 M : Mem} (h : St q ws_X12_inputOf_120_w1 as_X12_inputOf_120_w1 M0 M) : rd M 120 8 = rd M0 120 8 := St.kp h (by decide) (by decide) (by decide)
theorem kp_X12_inputOf_120_w1_120_36 {q : Mem → Prop} {M0 M : Mem} (h : St q ws_X12_inputOf_120_w1 as_X12_inputOf_120_w1 M0 M) : rd M 120 36 = rd M0 120 36 := St.kp h (by decide) (by decide) (by decide)
theorem kp_X12_inputOf_120_w1_120_50 {q : Mem → Prop} {M0 M : Mem} (h : St q ws_X12_inputOf_120_w1 as_X12_inputOf_120_w1 M0 M) : rd M 120 50 = rd M0 120 50 := St.kp h (by decide) (by decide) (by decide)
theorem kp_X12_inputOf_120_w1_120_3 {q : Mem → Prop} {M0 M : Mem} (h : St q ws_X12_inputOf_120_w1 as_X12_inputOf_120_w1 M0 M) : rd M 120 3 = rd M0 120 3 := St.kp h (by decide) (by decide) (by decide)
theorem kp_X12_inputOf_120_w1_120_4 {q : Mem → Prop} {M0 M : Mem} (h : St q ws_X12_inputOf_120_w1 as_X12_inputOf_120_w1 M0 M) : rd M 120 4 = rd M0 120 4 := St.kp h (by decide) (by decide) (by decide)
theorem kp_X12_inputOf_120_w1_120_5 {q : Mem → Prop} {M0 M : Mem} (h : St q ws_X12_inputOf_120_w1 as_X12_inputOf_120_w1 M0 M) : rd M 120 5 = rd M0 120 5 := St.kp h (by decide) (by decide) (by decide)
theorem kp_X12_inputOf_120_w1_120_7 {q : Mem → Prop} {M0 M : Mem} (h : St q ws_X12_inputOf_120_w1 as_X12_inputOf_120_w1 M0 M) : rd M 120 7 = rd M0 120 7 := St.kp h (by decide) (by decide) (by decide)
theorem ka_X12_varOf_120_w1_131 {q : Mem → Prop} {M0 M : Mem} (h : St q ws_X12_varOf_120_w1 as_X12_varOf_120_w1 M0 M) (j : Int) : rd M 131 j = rd M0 131 j := St.ka h (by decide) (by decide) (by decide)
theorem ka_X12_varOf_120_w1_137 {q : Mem → Prop} {M0 M : Mem} (h : St q ws_X12_varOf_120_w1 as_X12_varOf_120_w1 M0 M) (j : Int) : rd M 137 j = rd M0 137 j := St.ka h (by decide) (by decide) (by decide)
theorem ka_X12_varOf_120_w1_138 {q : Mem → Prop} {M0 M : Mem} (h : St q ws_X12_varOf_120_w1 as_X12_varOf_120_w1 M0 M) (j : Int) : rd M 138 j = rd M0 138 j := St.ka h (by decide) (by decide) (by decide)
theorem ka_X12_varOf_120_w1_139 {q : Mem → Prop} {M0 M : Mem} (h : St q ws_X12_varOf_120_w1 as_X12_varOf_120_w1 M0 M) (j : Int) : rd M 139 j = rd M0 139 j := St.ka h (by decide) (by decide) (by decide)
theorem ka_X12_varOf_120_w1_140 {q : Mem → Prop} {M0 M : Mem} (h : St q ws_X12_varOf_120_w1 as_X12_varOf_120_w1 M0 M) (j : Int) : rd M 140 j = rd M0 140 j := St.ka h (by decide) (by decide) (by decide)
theorem ka_X12_varOf_120_w1_141 {q : Mem → Prop} {M0 M : Mem} (h : St q ws_X12_varOf_120_w1 as_X12_varOf_120_w1 M0 M) (j : Int) : rd M 141 j = rd M0 141 j := St.ka h (by decide) (by decide) (by decide)
theorem ka_X12_varOf_120_w1_142 {q : Mem → Prop} {M0 M : Mem} (h : St q ws_X12_varOf_120_w1 as_X12_varOf_120_w1 M0 M) (j : Int) : rd M 142 j = rd M0 142 j := St.ka h (by decide) (by decide) (by decide)
theorem ka_X12_varOf_120_w1_143 {q : Mem → Prop} {M0 M : Mem} (h : St q ws_X12_varOf_120_w1 as_X12_varOf_120_w1 M0 M) (j : Int) : rd M 143 j = rd M0 143 j := St.ka h (by decide) (by decide) (by decide)
theorem ka_X12_varOf_120_w1_151 {q : Mem → Prop} {M0 M : Mem} (h : St q ws_X12_varOf_120_w1 as_X12_varOf_120_w1 M0 M) (j : Int) : rd M 151 j = rd M0 151 j := St.ka h (by decide) (by decide) (by decide)
theorem ka_X12_varOf_120_w1_152 {q : Mem → Prop} {M0 M : Mem} (h : St q ws_X12_varOf_120_w1 as_X12_varOf_120_w1 M0 M) (j : Int) : rd M 152 j = rd M0 152 j := St.ka h (by decide) (by decide) (by decide)
theorem kp_X12_varOf_120_w1_126_0 {q : Mem → Prop} {M0 M : Mem} (h : St q ws_X12_varOf_120_w1 as_X12_varOf_120_w1 M0 M) : rd M 126 0 = rd M0 126 0 := St.kp h (by decide) (by decide) (by decide)
theorem kp_X12_varOf_120_w1_126_1 {q : Mem → Prop} {M0 M : Mem} (h : St q ws_X12_varOf_120_w1 as_X12_varOf_120_w1 M0 M) : rd M 126 1 = rd M0 126 1 := St.kp h (by decide) (by decide) (by decide)
theorem kp_X12_varOf_120_w1_136_0 {q : Mem → Prop} {M0 M : Mem} (h : St q ws_X12_varOf_120_w1 as_X12_varOf_120_w1 M0 M) : rd M 136 0 = rd M0 136 0 := St.kp h (by decide) (by decide) (by decide)
theorem kp_X12_varOf_120_w1_136_1 {q : Mem → Prop} {M0 M : Mem} (h : St q ws_X12_varOf_120_w1 as_X12_varOf_120_w1 M0 M) : rd M 136 1 = rd M0 136 1 := St.kp h (by decide) (by decide) (by decide)
theorem kp_X12_varOf_120_w1_123_0 {q : Mem → Prop} {M0 M : Mem} (h : St q ws_X12_varOf_120_w1 as_X12_varOf_120_w1 M0 M) : rd M 123 0 = rd M0 123 0 := St.kp h (by decide) (by decide) (by decide)
theorem kp_X12_varOf_120_w1_123_1 {q : Mem → Prop} {M0 M : Mem} (h : St q ws_X12_varOf_120_w1 as_X12_varOf_120_w1 M0 M) : rd M 123 1 = rd M0 123 1 := St.kp h (by decide) (by decide) (by decide)
theorem kp_X12_varOf_120_w1_124_0 {q : Mem → Prop} {M0 M : Mem} (h : St q ws_X12_varOf_120_w1 as_X12_varOf_120_w1 M0 M) : rd M 124 0 = rd M0 124 0 := St.kp h (by decide) (by decide) (by decide)
theorem kp_X12_varOf_120_w1_124_1 {q : Mem → Prop} {M0 M : Mem} (h : St q ws_X12_varOf_120_w1 as_X12_varOf_120_w1 M0 M) : rd M 124 1 = rd M0 124 1 := St.kp h (by decide) (by decide) (by decide)
theorem kp_X12_varOf_120_w1_120_8 {q : Mem → Prop} {M0 M : Mem} (h : St q ws_X12_varOf_120_w1 as_X12_varOf_120_w1 M0 M) : rd M 120 8 = rd M0 120 8 := St.kp h (by decide) (by decide) (by decide)
theorem kp_X12_varOf_120_w1_120_36 {q : Mem → Prop} {M0 M : Mem} (h : St q ws_X12_varOf_120_w1 as_X12_varOf_120_w1 M0 M) : rd M 120 36 = rd M0 120 36 := St.kp h (by decide) (by decide) (by decide)
theorem kp_X12_varOf_120_w1_120_50 {q : Mem → Prop} {M0 M : Mem} (h : St q ws_X12_varOf_120_w1 as_X12_varOf_120_w1 M0 M) : rd M 120 50 = rd M0 120 50 := St.kp h (by decide) (by decide) (by decide)
theorem kp_X12_varOf_120_w1_120_3 {q : Mem → Prop} {M0 M : Mem} (h : St q ws_X12_varOf_120_w1 as_X12_varOf_120_w1 M0 M) : rd M 120 3 = rd M0 120 3 := St.kp h (by decide) (by decide) (by decide)
theorem kp_X12_varOf_120_w1_120_4 {q : Mem → Prop} {M0 M : Mem} (h : St q ws_X12_varOf_120_w1 as_X12_varOf_120_w1 M0 M) : rd M 120 4 = rd M0 120 4 := St.kp h (by decide) (by decide) (by decide)
theorem kp_X12_varOf_120_w1_120_5 {q : Mem → Prop} {M0 M : Mem} (h : St q ws_X12_varOf_120_w1 as_X12_varOf_120_w1 M0 M) : rd M 120 5 = rd M0 120 5 := St.kp h (by decide) (by decide) (by decide)
theorem kp_X12_varOf_120_w1_120_7 {q : Mem → Prop} {M0 M : Mem} (h : St q ws_X12_varOf_120_w1 as_X12_varOf_120_w1 M0 M) : rd M 120 7 = rd M0 120 7 := St.kp h (by decide) (by decide) (by decide)
set_option maxRecDepth 100000 in
set_option maxHeartbeats 4000000 in
theorem sp_X12_fresh_120_w1 {l : Launch} {K : EC} {M0 : Mem} (hI : In Pm0 M0) (en_120_37 : rd M0 120 37 = 0)   (hq0 : rd M0 120 3 = 0 ∨ rd M0 120 4 + 1 ≤ rd M0 120 5) (hq1 : rd M0 120 4 ≤ rd M0 120 5) (hq2 : rd M0 120 3 ≠ 1 ∨ rd M0 120 4 + 2 ≤ rd M0 120 5 ∨ rd M0 120 7 < 256) : Tr l K 2 mX12_fresh 0 [(0, (2, 120))] [] M0 (q_X12_fresh_120_w1 M0) := by
  have hS : St Pm0 ws_X12_fresh_120_w1 as_X12_fresh_120_w1 M0 M0 := St.rf hI
  obtain ⟨g120_8, eg120_8⟩ : ∃ v, rd M0 120 8 = v := ⟨_, rfl⟩
  have bg120_8 : 0 ≤ g120_8 ∧ g120_8 ≤ 5 := by rw [← eg120_8]; exact ir_120_8 hI.2.1
  obtain ⟨g120_3, eg120_3⟩ : ∃ v, rd M0 120 3 = v := ⟨_, rfl⟩
  have bg120_3 : 0 ≤ g120_3 ∧ g120_3 ≤ 3 := by rw [← eg120_3]; exact ir_120_3 hI.2.1
  obtain ⟨g120_4, eg120_4⟩ : ∃ v, rd M0 120 4 = v := ⟨_, rfl⟩
  have bg120_4 : 0 ≤ g120_4 ∧ g120_4 ≤ 900 := by rw [← eg120_4]; exact ir_120_4 hI.2.1
  obtain ⟨g120_5, eg120_5⟩ : ∃ v, rd M0 120 5 = v := ⟨_, rfl⟩
  have bg120_5 : 0 ≤ g120_5 ∧ g120_5 ≤ 900 := by rw [← eg120_5]; exact ir_120_5 hI.2.1
  obtain ⟨g120_7, eg120_7⟩ : ∃ v, rd M0 120 7 = v := ⟨_, rfl⟩
  have bg120_7 : (-9223372036854775808) ≤ g120_7 ∧ g120_7 ≤ 9223372036854775807 := by rw [← eg120_7]; exact ir_120_7 hI.2.1
  obtain ⟨g9010_0, eg9010_0⟩ : ∃ v, tav M0 = v := ⟨_, rfl⟩
  have bg9010_0 : (-1) ≤ g9010_0 ∧ g9010_0 ≤ 1800 := by rw [← eg9010_0]; exact (tav_b hI.2.1)
  replace hq0 := hd_i hq0
  replace hq2 := hd_i hq2
  refine Tr.aload_n (pc := 0) (i := 0) d_X12_fresh_0 rfl rfl ?_
  refine Tr.getf (pc := 1) d_X12_fresh_1 f_12_36 (by decide) (by decide) (ty_120 hS.1.1) ?_
  refine Tr.tp g120_8 eg120_8 ?_
  refine Tr.if_le (pc := 4) (tgt := 9) d_X12_fresh_4 rfl (fun c4 => ?_) (fun c4 => ?_)
  · refine Tr.aload_n (pc := 9) (i := 0) d_X12_fresh_9 rfl rfl ?_
    refine Tr.getf (pc := 10) d_X12_fresh_10 f_12_20 (by decide) (by decide) (ty_120 hS.1.1) ?_
    refine Tr.tp g120_3 eg120_3 ?_
    refine Tr.iconst (pc := 13) d_X12_fresh_13 (by decide) ?_
    have J37 : ∀ (M : Mem) (u37_120_8 : Int), St Pm0 ws_X12_fresh_120_w1 as_X12_fresh_120_w1 M0 M → (0 ≤ u37_120_8 ∧ u37_120_8 ≤ 5) → rd M 120 3 = g120_3 → rd M 120 4 = g120_4 → rd M 120 5 = g120_5 → rd M 120 7 = g120_7 → rd M 120 8 = u37_120_8 → tav M = g9010_0 → (u37_120_8 ≠ 0 ∨ g120_3 ≠ 0) → (g120_8 = 0) → Tr l K 2 mX12_fresh 37 [(0, (2, 120))] [] M (q_X12_fresh_120_w1 M0) := by
      intro M u37_120_8 hS bu37_120_8 k37_120_3 k37_120_4 k37_120_5 k37_120_7 k37_120_8 k37_9010_0 t37_0 t37_1
      replace t37_0 := hd_i t37_0
      refine Tr.aload_n (pc := 37) (i := 0) d_X12_fresh_37 rfl rfl ?_
      refine Tr.getf (pc := 38) d_X12_fresh_38 f_12_36 (by decide) (by decide) (ty_120 hS.1.1) ?_
      refine Tr.tp u37_120_8 k37_120_8 ?_
      have J89 : ∀ (M : Mem) (u89_120_8 : Int), St Pm0 ws_X12_fresh_120_w1 as_X12_fresh_120_w1 M0 M → (0 ≤ u89_120_8 ∧ u89_120_8 ≤ 5) → rd M 120 3 = g120_3 → rd M 120 4 = g120_4 → rd M 120 5 = g120_5 → rd M 120 7 = g120_7 → rd M 120 8 = u89_120_8 → tav M = g9010_0 → (u89_120_8 ≠ 0 ∨ g120_3 ≠ 0) → (g120_8 = 0) → Tr l K 2 mX12_fresh 89 [(0, (2, 120))] [] M (q_X12_fresh_120_w1 M0) := by
        intro M u89_120_8 hS bu89_120_8 k89_120_3 k89_120_4 k89_120_5 k89_120_7 k89_120_8 k89_9010_0 t89_0 t89_1
        clear k37_120_3 k37_120_4 k37_120_5 k37_120_7 k37_120_8 k37_9010_0
        replace t89_0 := hd_i t89_0
        refine Tr.aload_n (pc := 89) (i := 0) d_X12_fresh_89 rfl rfl ?_
        refine Tr.getf (pc := 90) d_X12_fresh_90 f_12_32 (by decide) (by decide) (ty_120 hS.1.1) ?_
        refine Tr.tp g120_7 k89_120_7 ?_
        refine Tr.lstore_n (pc := 93) (i := 1) (ls2 := [(1, (1, g120_7)), (0, (2, 120))]) d_X12_fresh_93 rfl (by decide) rfl ?_
        refine Tr.aload_n (pc := 94) (i := 0) d_X12_fresh_94 rfl rfl ?_
        refine Tr.getf (pc := 95) d_X12_fresh_95 f_12_36 (by decide) (by decide) (ty_120 hS.1.1) ?_
        refine Tr.tp u89_120_8 k89_120_8 ?_
        refine Tr.if_ne (pc := 98) (tgt := 105) d_X12_fresh_98 rfl (fun c98 => ?_) (fun c98 => ?_)
        · have c98b : 1 ≤ u89_120_8 ∧ u89_120_8 ≤ 5 := by omega
          replace c98 := hd_i c98
          refine Tr.lload_n (pc := 105) (i := 1) d_X12_fresh_105 rfl rfl ?_
          have kr_120_3 : rd M 120 3 = g120_3 := k89_120_3
          have kr_120_4 : rd M 120 4 = g120_4 := k89_120_4
          have kr_120_5 : rd M 120 5 = g120_5 := k89_120_5
          have kr_120_7 : rd M 120 7 = g120_7 := k89_120_7
          have kr_120_8 : rd M 120 8 = u89_120_8 := k89_120_8
          have kr_9010_0 : tav M = g9010_0 := k89_9010_0
          exact Tr.lret (pc := 106) d_X12_fresh_106 rfl ⟨hS, _, rfl, (by omega), (by omega), (by first | exact (hd_o hq0) | exact (hd_o hq0).elim (fun h1 => by omega) (fun h1 => by omega)), (by omega), (by first | exact (hd_o hq2) | exact (hd_o hq2).elim (fun h1 => by omega) (fun h1 => h1.elim (fun h1 => by omega) (fun h1 => by omega))), (by and_intros <;> omega), (by omega), (by omega)⟩
        · refine Tr.aload_n (pc := 101) (i := 0) d_X12_fresh_101 rfl rfl ?_
          refine Tr.callV (pc := 102) (as := []) d_X12_fresh_102 s_12_396 ok_X12_next rfl rfl (Nat.le_of_ble_eq_true rfl) (Nat.le_of_ble_eq_true rfl) (by decide) (ty_120 hS.1.1) ?_
          refine Tr.imp (Tr.deep (by decide) (ns_X12_next_120_w1 (G120_3 := g120_3) (G120_5 := g120_5) (G120_8 := u89_120_8) (G9010_0 := g9010_0) hS.1 (k89_120_3) (k89_120_5) (k89_120_8) (k89_9010_0))) ?_
          rintro M102 _ ⟨h102, s102_120_3, s102_120_4, s102_120_5, s102_120_7, s102_120_8, s102_9010_0, es102_120_3, bs102_120_3, es102_120_4, bs102_120_4, es102_120_5, bs102_120_5, es102_120_7, bs102_120_7, es102_120_8, bs102_120_8, es102_9010_0, bs102_9010_0, rfl, z102_0, z102_1, z102_2, z102_3, z102_4, z102_5, z102_6⟩
          have hS := St.tr hS h102 (by decide) (by decide)
          refine Tr.sc [] rfl ?_
          refine Tr.lload_n (pc := 105) (i := 1) d_X12_fresh_105 rfl rfl ?_
          have kr_120_3 : rd M102 120 3 = s102_120_3 := es102_120_3
          have kr_120_4 : rd M102 120 4 = s102_120_4 := es102_120_4
          have kr_120_5 : rd M102 120 5 = s102_120_5 := es102_120_5
          have kr_120_7 : rd M102 120 7 = s102_120_7 := es102_120_7
          have kr_120_8 : rd M102 120 8 = s102_120_8 := es102_120_8
          have kr_9010_0 : tav M102 = s102_9010_0 := es102_9010_0
          exact Tr.lret (pc := 106) d_X12_fresh_106 rfl ⟨hS, _, rfl, (by omega), (by omega), (by first | exact (hd_o z102_0) | exact (hd_o z102_0).elim (fun h1 => by omega) (fun h1 => by omega)), (by omega), (by first | exact (hd_o z102_2) | exact (hd_o z102_2).elim (fun h1 => by omega) (fun h1 => h1.elim (fun h1 => by omega) (fun h1 => by omega))), (by and_intros <;> omega), (by omega), (by exact (hd_o t89_0).elim (fun h1 => (ne_o h1).elim (fun h2 => by omega) (fun h2 => by omega)) (fun h1 => (ne_o h1).elim (fun h2 => by omega) (fun h2 => (hd_o z102_5).elim (fun h3 => by omega) (fun h3 => by omega))))⟩
      refine Tr.if_ne (pc := 41) (tgt := 89) d_X12_fresh_41 rfl (fun c41 => ?_) (fun c41 => ?_)
      · have c41b : 1 ≤ u37_120_8 ∧ u37_120_8 ≤ 5 := by omega
        replace c41 := hd_i c41
        refine Tr.pick [0] (ls2 := [(0, (2, 120))]) rfl ?_
        exact J89 _ _ hS (by and_intros <;> omega) k37_120_3 k37_120_4 k37_120_5 k37_120_7 k37_120_8 k37_9010_0 (by first | exact (hd_o t37_0) | exact (hd_o t37_0).elim (fun h1 => by omega) (fun h1 => by omega)) (by omega)
      · refine Tr.aload_n (pc := 44) (i := 0) d_X12_fresh_44 rfl rfl ?_
        refine Tr.aload_n (pc := 45) (i := 0) d_X12_fresh_45 rfl rfl ?_
        refine Tr.getf (pc := 46) d_X12_fresh_46 f_12_32 (by decide) (by decide) (ty_120 hS.1.1) ?_
        refine Tr.tp g120_7 k37_120_7 ?_
        refine Tr.callV (pc := 49) (as := [_]) d_X12_fresh_49 s_12_457 ok_X12_partOf rfl rfl (Nat.le_of_ble_eq_true rfl) (Nat.le_of_ble_eq_true rfl) (by decide) (ty_120 hS.1.1) ?_
        refine Tr.imp (Tr.deep (by decide) (sp_X12_partOf_120_w1 hS.1.wk ((kp_X12_fresh_120_w1_120_37 hS).trans en_120_37) g120_7 (by omega))) ?_
        rintro M49 _ ⟨h49, r49, rfl, lr49, ur49⟩
        have h49 := St.rn h49 (Pm0.of hS.1.2.2.2.2 (fun _ => (ka_X12_partOf_120_w1_131 h49 _)) (fun _ => (ka_X12_partOf_120_w1_137 h49 _)) (fun _ => (ka_X12_partOf_120_w1_138 h49 _)) (fun _ => (ka_X12_partOf_120_w1_139 h49 _)) (fun _ => (ka_X12_partOf_120_w1_140 h49 _)) (fun _ => (ka_X12_partOf_120_w1_141 h49 _)) (fun _ => (ka_X12_partOf_120_w1_142 h49 _)) (fun _ => (ka_X12_partOf_120_w1_143 h49 _)) (fun _ => (ka_X12_partOf_120_w1_151 h49 _)) (fun _ => (ka_X12_partOf_120_w1_152 h49 _)) (kp_X12_partOf_120_w1_126_0 h49) (kp_X12_partOf_120_w1_126_1 h49) (kp_X12_partOf_120_w1_136_0 h49) (kp_X12_partOf_120_w1_136_1 h49) (kp_X12_partOf_120_w1_123_0 h49) (kp_X12_partOf_120_w1_123_1 h49) (kp_X12_partOf_120_w1_124_0 h49) (kp_X12_partOf_120_w1_124_1 h49) (kp_X12_partOf_120_w1_120_8 h49) (kp_X12_partOf_120_w1_120_36 h49) (kp_X12_partOf_120_w1_120_50 h49))
        have hS := St.tr hS h49 (by decide) (by decide)
        refine Tr.sc [(0, r49)] rfl ?_
        refine Tr.iconst (pc := 52) d_X12_fresh_52 (by decide) ?_
        have J80 : ∀ (M : Mem), St Pm0 ws_X12_fresh_120_w1 as_X12_fresh_120_w1 M0 M → rd M 120 3 = g120_3 → rd M 120 4 = g120_4 → rd M 120 5 = g120_5 → rd M 120 7 = g120_7 → rd M 120 8 = u37_120_8 → tav M = g9010_0 → (u37_120_8 ≠ 0 ∨ g120_3 ≠ 0) → (g120_8 = 0) → Tr l K 2 mX12_fresh 80 [(0, (2, 120))] [] M (q_X12_fresh_120_w1 M0) := by
          intro M  hS  k80_120_3 k80_120_4 k80_120_5 k80_120_7 k80_120_8 k80_9010_0 t80_0 t80_1
          clear k37_120_3 k37_120_4 k37_120_5 k37_120_7 k37_120_8 k37_9010_0
          replace t80_0 := hd_i t80_0
          refine Tr.aload_n (pc := 80) (i := 0) d_X12_fresh_80 rfl rfl ?_
          refine Tr.iconst (pc := 81) d_X12_fresh_81 (by decide) ?_
          refine Tr.aload_n (pc := 82) (i := 0) d_X12_fresh_82 rfl rfl ?_
          refine Tr.getf (pc := 83) d_X12_fresh_83 f_12_23 (by decide) (by decide) (ty_120 hS.1.1) ?_
          refine Tr.tp g120_4 k80_120_4 ?_
          refine Tr.callV (pc := 86) (as := [_, _]) d_X12_fresh_86 s_12_389 ok_X12_blame rfl rfl (Nat.le_of_ble_eq_true rfl) (Nat.le_of_ble_eq_true rfl) (by decide) (ty_120 hS.1.1) ?_
          refine Tr.imp (Tr.deep (by decide) (ns_X12_blame_120_w1 (G120_8 := u37_120_8) hS.1 (k80_120_8) 2 (by omega) g120_4 (by and_intros <;> omega))) ?_
          rintro M86 _ ⟨h86, s86_120_8, es86_120_8, bs86_120_8, rfl, z86_0⟩
          have hS := St.tr hS h86 (by decide) (by decide)
          refine Tr.sc [] rfl ?_
          refine Tr.pick [0] (ls2 := [(0, (2, 120))]) rfl ?_
          exact J89 _ _ hS (by and_intros <;> omega) ((kp_X12_blame_120_w1_120_3 h86).trans k80_120_3) ((kp_X12_blame_120_w1_120_4 h86).trans k80_120_4) ((kp_X12_blame_120_w1_120_5 h86).trans k80_120_5) ((kp_X12_blame_120_w1_120_7 h86).trans k80_120_7) es86_120_8 ((tav_of ((kp_X12_blame_120_w1_120_5 h86).trans rfl) ((kp_X12_blame_120_w1_120_3 h86).trans rfl)).trans k80_9010_0) (by exact (hd_o z86_0).elim (fun h1 => by omega) (fun h1 => by omega)) (by omega)
        refine Tr.icmp_ne (pc := 53) (tgt := 80) d_X12_fresh_53 rfl (fun c53 => ?_) (fun c53 => ?_)
        · have c53b : 0 ≤ r49 ∧ r49 ≤ 5 := by omega
          replace c53 := hd_i c53
          refine Tr.pick [0] (ls2 := [(0, (2, 120))]) rfl ?_
          exact J80 _ hS ((kp_X12_partOf_120_w1_120_3 h49).trans k37_120_3) ((kp_X12_partOf_120_w1_120_4 h49).trans k37_120_4) ((kp_X12_partOf_120_w1_120_5 h49).trans k37_120_5) ((kp_X12_partOf_120_w1_120_7 h49).trans k37_120_7) ((kp_X12_partOf_120_w1_120_8 h49).trans k37_120_8) ((tav_of ((kp_X12_partOf_120_w1_120_5 h49).trans rfl) ((kp_X12_partOf_120_w1_120_3 h49).trans rfl)).trans k37_9010_0) (by first | exact (hd_o t37_0) | exact (hd_o t37_0).elim (fun h1 => by omega) (fun h1 => by omega)) (by omega)
        · refine Tr.aload_n (pc := 56) (i := 0) d_X12_fresh_56 rfl rfl ?_
          refine Tr.aload_n (pc := 57) (i := 0) d_X12_fresh_57 rfl rfl ?_
          refine Tr.getf (pc := 58) d_X12_fresh_58 f_12_32 (by decide) (by decide) (ty_120 hS.1.1) ?_
          refine Tr.tp g120_7 ((kp_X12_partOf_120_w1_120_7 h49).trans k37_120_7) ?_
          refine Tr.callV (pc := 61) (as := [_]) d_X12_fresh_61 s_12_461 ok_X12_inputOf rfl rfl (Nat.le_of_ble_eq_true rfl) (Nat.le_of_ble_eq_true rfl) (by decide) (ty_120 hS.1.1) ?_
          refine Tr.imp (Tr.deep (by decide) (sp_X12_inputOf_120_w1 hS.1.wk ((kp_X12_fresh_120_w1_120_37 hS).trans en_120_37) g120_7 (by omega))) ?_
          rintro M61 _ ⟨h61, r61, rfl, lr61, ur61⟩
          have h61 := St.rn h61 (Pm0.of hS.1.2.2.2.2 (fun _ => (ka_X12_inputOf_120_w1_131 h61 _)) (fun _ => (ka_X12_inputOf_120_w1_137 h61 _)) (fun _ => (ka_X12_inputOf_120_w1_138 h61 _)) (fun _ => (ka_X12_inputOf_120_w1_139 h61 _)) (fun _ => (ka_X12_inputOf_120_w1_140 h61 _)) (fun _ => (ka_X12_inputOf_120_w1_141 h61 _)) (fun _ => (ka_X12_inputOf_120_w1_142 h61 _)) (fun _ => (ka_X12_inputOf_120_w1_143 h61 _)) (fun _ => (ka_X12_inputOf_120_w1_151 h61 _)) (fun _ => (ka_X12_inputOf_120_w1_152 h61 _)) (kp_X12_inputOf_120_w1_126_0 h61) (kp_X12_inputOf_120_w1_126_1 h61) (kp_X12_inputOf_120_w1_136_0 h61) (kp_X12_inputOf_120_w1_136_1 h61) (kp_X12_inputOf_120_w1_123_0 h61) (kp_X12_inputOf_120_w1_123_1 h61) (kp_X12_inputOf_120_w1_124_0 h61) (kp_X12_inputOf_120_w1_124_1 h61) (kp_X12_inputOf_120_w1_120_8 h61) (kp_X12_inputOf_120_w1_120_36 h61) (kp_X12_inputOf_120_w1_120_50 h61))
          have hS := St.tr hS h61 (by decide) (by decide)
          refine Tr.sc [(0, r61)] rfl ?_
          refine Tr.iconst (pc := 64) d_X12_fresh_64 (by decide) ?_
          refine Tr.icmp_ne (pc := 65) (tgt := 80) d_X12_fresh_65 rfl (fun c65 => ?_) (fun c65 => ?_)
          · have c65b : 0 ≤ r61 ∧ r61 ≤ 2 := by omega
            replace c65 := hd_i c65
            refine Tr.pick [0] (ls2 := [(0, (2, 120))]) rfl ?_
            exact J80 _ hS ((kp_X12_inputOf_120_w1_120_3 h61).trans ((kp_X12_partOf_120_w1_120_3 h49).trans k37_120_3)) ((kp_X12_inputOf_120_w1_120_4 h61).trans ((kp_X12_partOf_120_w1_120_4 h49).trans k37_120_4)) ((kp_X12_inputOf_120_w1_120_5 h61).trans ((kp_X12_partOf_120_w1_120_5 h49).trans k37_120_5)) ((kp_X12_inputOf_120_w1_120_7 h61).trans ((kp_X12_partOf_120_w1_120_7 h49).trans k37_120_7)) ((kp_X12_inputOf_120_w1_120_8 h61).trans ((kp_X12_partOf_120_w1_120_8 h49).trans k37_120_8)) ((tav_of ((kp_X12_inputOf_120_w1_120_5 h61).trans ((kp_X12_partOf_120_w1_120_5 h49).trans rfl)) ((kp_X12_inputOf_120_w1_120_3 h61).trans ((kp_X12_partOf_120_w1_120_3 h49).trans rfl))).trans k37_9010_0) (by first | exact (hd_o t37_0) | exact (hd_o t37_0).elim (fun h1 => by omega) (fun h1 => by omega)) (by omega)
          · refine Tr.aload_n (pc := 68) (i := 0) d_X12_fresh_68 rfl rfl ?_
            refine Tr.aload_n (pc := 69) (i := 0) d_X12_fresh_69 rfl rfl ?_
            refine Tr.getf (pc := 70) d_X12_fresh_70 f_12_32 (by decide) (by decide) (ty_120 hS.1.1) ?_
            refine Tr.tp g120_7 ((kp_X12_inputOf_120_w1_120_7 h61).trans ((kp_X12_partOf_120_w1_120_7 h49).trans k37_120_7)) ?_
            refine Tr.callV (pc := 73) (as := [_]) d_X12_fresh_73 s_12_464 ok_X12_varOf rfl rfl (Nat.le_of_ble_eq_true rfl) (Nat.le_of_ble_eq_true rfl) (by decide) (ty_120 hS.1.1) ?_
            refine Tr.imp (Tr.deep (by decide) (sp_X12_varOf_120_w1 hS.1.wk ((kp_X12_fresh_120_w1_120_37 hS).trans en_120_37) g120_7 (by omega))) ?_
            rintro M73 _ ⟨h73, r73, rfl, lr73, ur73⟩
            have h73 := St.rn h73 (Pm0.of hS.1.2.2.2.2 (fun _ => (ka_X12_varOf_120_w1_131 h73 _)) (fun _ => (ka_X12_varOf_120_w1_137 h73 _)) (fun _ => (ka_X12_varOf_120_w1_138 h73 _)) (fun _ => (ka_X12_varOf_120_w1_139 h73 _)) (fun _ => (ka_X12_varOf_120_w1_140 h73 _)) (fun _ => (ka_X12_varOf_120_w1_141 h73 _)) (fun _ => (ka_X12_varOf_120_w1_142 h73 _)) (fun _ => (ka_X12_varOf_120_w1_143 h73 _)) (fun _ => (ka_X12_varOf_120_w1_151 h73 _)) (fun _ => (ka_X12_varOf_120_w1_152 h73 _)) (kp_X12_varOf_120_w1_126_0 h73) (kp_X12_varOf_120_w1_126_1 h73) (kp_X12_varOf_120_w1_136_0 h73) (kp_X12_varOf_120_w1_136_1 h73) (kp_X12_varOf_120_w1_123_0 h73) (kp_X12_varOf_120_w1_123_1 h73) (kp_X12_varOf_120_w1_124_0 h73) (kp_X12_varOf_120_w1_124_1 h73) (kp_X12_varOf_120_w1_120_8 h73) (kp_X12_varOf_120_w1_120_36 h73) (kp_X12_varOf_120_w1_120_50 h73))
            have hS := St.tr hS h73 (by decide) (by decide)
            refine Tr.sc [(0, r73)] rfl ?_
            refine Tr.iconst (pc := 76) d_X12_fresh_76 (by decide) ?_
            refine Tr.icmp_eq (pc := 77) (tgt := 89) d_X12_fresh_77 rfl (fun c77 => ?_) (fun c77 => ?_)
            · refine Tr.pick [0] (ls2 := [(0, (2, 120))]) rfl ?_
              exact J89 _ _ hS (by and_intros <;> omega) ((kp_X12_varOf_120_w1_120_3 h73).trans ((kp_X12_inputOf_120_w1_120_3 h61).trans ((kp_X12_partOf_120_w1_120_3 h49).trans k37_120_3))) ((kp_X12_varOf_120_w1_120_4 h73).trans ((kp_X12_inputOf_120_w1_120_4 h61).trans ((kp_X12_partOf_120_w1_120_4 h49).trans k37_120_4))) ((kp_X12_varOf_120_w1_120_5 h73).trans ((kp_X12_inputOf_120_w1_120_5 h61).trans ((kp_X12_partOf_120_w1_120_5 h49).trans k37_120_5))) ((kp_X12_varOf_120_w1_120_7 h73).trans ((kp_X12_inputOf_120_w1_120_7 h61).trans ((kp_X12_partOf_120_w1_120_7 h49).trans k37_120_7))) ((kp_X12_varOf_120_w1_120_8 h73).trans ((kp_X12_inputOf_120_w1_120_8 h61).trans ((kp_X12_partOf_120_w1_120_8 h49).trans k37_120_8))) ((tav_of ((kp_X12_varOf_120_w1_120_5 h73).trans ((kp_X12_inputOf_120_w1_120_5 h61).trans ((kp_X12_partOf_120_w1_120_5 h49).trans rfl))) ((kp_X12_varOf_120_w1_120_3 h73).trans ((kp_X12_inputOf_120_w1_120_3 h61).trans ((kp_X12_partOf_120_w1_120_3 h49).trans rfl)))).trans k37_9010_0) (by first | exact (hd_o t37_0) | exact (hd_o t37_0).elim (fun h1 => by omega) (fun h1 => by omega)) (by omega)
            · have c77b : 0 ≤ r73 ∧ r73 ≤ 5 := by omega
              replace c77 := hd_i c77
              refine Tr.pick [0] (ls2 := [(0, (2, 120))]) rfl ?_
              exact J80 _ hS ((kp_X12_varOf_120_w1_120_3 h73).trans ((kp_X12_inputOf_120_w1_120_3 h61).trans ((kp_X12_partOf_120_w1_120_3 h49).trans k37_120_3))) ((kp_X12_varOf_120_w1_120_4 h73).trans ((kp_X12_inputOf_120_w1_120_4 h61).trans ((kp_X12_partOf_120_w1_120_4 h49).trans k37_120_4))) ((kp_X12_varOf_120_w1_120_5 h73).trans ((kp_X12_inputOf_120_w1_120_5 h61).trans ((kp_X12_partOf_120_w1_120_5 h49).trans k37_120_5))) ((kp_X12_varOf_120_w1_120_7 h73).trans ((kp_X12_inputOf_120_w1_120_7 h61).trans ((kp_X12_partOf_120_w1_120_7 h49).trans k37_120_7))) ((kp_X12_varOf_120_w1_120_8 h73).trans ((kp_X12_inputOf_120_w1_120_8 h61).trans ((kp_X12_partOf_120_w1_120_8 h49).trans k37_120_8))) ((tav_of ((kp_X12_varOf_120_w1_120_5 h73).trans ((kp_X12_inputOf_120_w1_120_5 h61).trans ((kp_X12_partOf_120_w1_120_5 h49).trans rfl))) ((kp_X12_varOf_120_w1_120_3 h73).trans ((kp_X12_inputOf_120_w1_120_3 h61).trans ((kp_X12_partOf_120_w1_120_3 h49).trans rfl)))).trans k37_9010_0) (by first | exact (hd_o t37_0) | exact (hd_o t37_0).elim (fun h1 => by omega) (fun h1 => by omega)) (by omega)
    have J28 : ∀ (M : Mem), St Pm0 ws_X12_fresh_120_w1 as_X12_fresh_120_w1 M0 M → rd M 120 3 = g120_3 → rd M 120 4 = g120_4 → rd M 120 5 = g120_5 → rd M 120 7 = g120_7 → rd M 120 8 = g120_8 → tav M = g9010_0 → (g120_8 = 0) → (g120_8 = 0) → Tr l K 2 mX12_fresh 28 [(0, (2, 120))] [] M (q_X12_fresh_120_w1 M0) := by
      intro M  hS  k28_120_3 k28_120_4 k28_120_5 k28_120_7 k28_120_8 k28_9010_0 t28_0 t28_1
      refine Tr.aload_n (pc := 28) (i := 0) d_X12_fresh_28 rfl rfl ?_
      refine Tr.iconst (pc := 29) d_X12_fresh_29 (by decide) ?_
      refine Tr.aload_n (pc := 30) (i := 0) d_X12_fresh_30 rfl rfl ?_
      refine Tr.getf (pc := 31) d_X12_fresh_31 f_12_23 (by decide) (by decide) (ty_120 hS.1.1) ?_
      refine Tr.tp g120_4 k28_120_4 ?_
      refine Tr.callV (pc := 34) (as := [_, _]) d_X12_fresh_34 s_12_389 ok_X12_blame rfl rfl (Nat.le_of_ble_eq_true rfl) (Nat.le_of_ble_eq_true rfl) (by decide) (ty_120 hS.1.1) ?_
      refine Tr.imp (Tr.deep (by decide) (ns_X12_blame_120_w1 (G120_8 := g120_8) hS.1 (k28_120_8) 1 (by omega) g120_4 (by and_intros <;> omega))) ?_
      rintro M34 _ ⟨h34, s34_120_8, es34_120_8, bs34_120_8, rfl, z34_0⟩
      have hS := St.tr hS h34 (by decide) (by decide)
      refine Tr.sc [] rfl ?_
      refine Tr.pick [0] (ls2 := [(0, (2, 120))]) rfl ?_
      exact J37 _ _ hS (by and_intros <;> omega) ((kp_X12_blame_120_w1_120_3 h34).trans k28_120_3) ((kp_X12_blame_120_w1_120_4 h34).trans k28_120_4) ((kp_X12_blame_120_w1_120_5 h34).trans k28_120_5) ((kp_X12_blame_120_w1_120_7 h34).trans k28_120_7) es34_120_8 ((tav_of ((kp_X12_blame_120_w1_120_5 h34).trans rfl) ((kp_X12_blame_120_w1_120_3 h34).trans rfl)).trans k28_9010_0) (by exact (hd_o z34_0).elim (fun h1 => by omega) (fun h1 => by omega)) (by omega)
    refine Tr.icmp_ne (pc := 14) (tgt := 28) d_X12_fresh_14 rfl (fun c14 => ?_) (fun c14 => ?_)
    · replace c14 := hd_i c14
      refine Tr.pick [0] (ls2 := [(0, (2, 120))]) rfl ?_
      exact J28 _ hS eg120_3 eg120_4 eg120_5 eg120_7 eg120_8 eg9010_0 (by omega) (by omega)
    · refine Tr.aload_n (pc := 17) (i := 0) d_X12_fresh_17 rfl rfl ?_
      refine Tr.aload_n (pc := 18) (i := 0) d_X12_fresh_18 rfl rfl ?_
      refine Tr.getf (pc := 19) d_X12_fresh_19 f_12_32 (by decide) (by decide) (ty_120 hS.1.1) ?_
      refine Tr.tp g120_7 eg120_7 ?_
      refine Tr.callV (pc := 22) (as := [_]) d_X12_fresh_22 s_12_453 ok_X12_isOwn rfl rfl (Nat.le_of_ble_eq_true rfl) (Nat.le_of_ble_eq_true rfl) (by decide) (ty_120 hS.1.1) ?_
      refine Tr.imp (Tr.deep (by decide) (sp_X12_isOwn_120 hS.1.wk g120_7 (by omega))) ?_
      rintro M22 _ ⟨h22, r22, rfl, lr22, ur22⟩
      have h22 := St.rn h22 (Pm0.of hS.1.2.2.2.2 (fun _ => (ka_X12_isOwn_120_131 h22 _)) (fun _ => (ka_X12_isOwn_120_137 h22 _)) (fun _ => (ka_X12_isOwn_120_138 h22 _)) (fun _ => (ka_X12_isOwn_120_139 h22 _)) (fun _ => (ka_X12_isOwn_120_140 h22 _)) (fun _ => (ka_X12_isOwn_120_141 h22 _)) (fun _ => (ka_X12_isOwn_120_142 h22 _)) (fun _ => (ka_X12_isOwn_120_143 h22 _)) (fun _ => (ka_X12_isOwn_120_151 h22 _)) (fun _ => (ka_X12_isOwn_120_152 h22 _)) (kp_X12_isOwn_120_126_0 h22) (kp_X12_isOwn_120_126_1 h22) (kp_X12_isOwn_120_136_0 h22) (kp_X12_isOwn_120_136_1 h22) (kp_X12_isOwn_120_123_0 h22) (kp_X12_isOwn_120_123_1 h22) (kp_X12_isOwn_120_124_0 h22) (kp_X12_isOwn_120_124_1 h22) (kp_X12_isOwn_120_120_8 h22) (kp_X12_isOwn_120_120_36 h22) (kp_X12_isOwn_120_120_50 h22))
      have hS := St.tr hS h22 (by decide) (by decide)
      refine Tr.sc [(0, r22)] rfl ?_
      refine Tr.if_eq (pc := 25) (tgt := 37) d_X12_fresh_25 rfl (fun c25 => ?_) (fun c25 => ?_)
      · refine Tr.pick [0] (ls2 := [(0, (2, 120))]) rfl ?_
        exact J37 _ _ hS (by and_intros <;> omega) ((kp_X12_isOwn_120_120_3 h22).trans eg120_3) ((kp_X12_isOwn_120_120_4 h22).trans eg120_4) ((kp_X12_isOwn_120_120_5 h22).trans eg120_5) ((kp_X12_isOwn_120_120_7 h22).trans eg120_7) ((kp_X12_isOwn_120_120_8 h22).trans eg120_8) ((tav_of ((kp_X12_isOwn_120_120_5 h22).trans rfl) ((kp_X12_isOwn_120_120_3 h22).trans rfl)).trans eg9010_0) (by omega) (by omega)
      · have c25b : 1 ≤ r22 ∧ r22 ≤ 1 := by omega
        replace c25 := hd_i c25
        refine Tr.pick [0] (ls2 := [(0, (2, 120))]) rfl ?_
        exact J28 _ hS ((kp_X12_isOwn_120_120_3 h22).trans eg120_3) ((kp_X12_isOwn_120_120_4 h22).trans eg120_4) ((kp_X12_isOwn_120_120_5 h22).trans eg120_5) ((kp_X12_isOwn_120_120_7 h22).trans eg120_7) ((kp_X12_isOwn_120_120_8 h22).trans eg120_8) ((tav_of ((kp_X12_isOwn_120_120_5 h22).trans rfl) ((kp_X12_isOwn_120_120_3 h22).trans rfl)).trans eg9010_0) (by omega) (by omega)
  · refine Tr.lconst (pc := 7) (v := 0) d_X12_fresh_7 rfl (by decide) ?_
    have kr_120_3 : rd M0 120 3 = g120_3 := eg120_3
    have kr_120_4 : rd M0 120 4 = g120_4 := eg120_4
    have kr_120_5 : rd M0 120 5 = g120_5 := eg120_5
    have kr_120_7 : rd M0 120 7 = g120_7 := eg120_7
    have kr_120_8 : rd M0 120 8 = g120_8 := eg120_8
    have kr_9010_0 : tav M0 = g9010_0 := eg9010_0
    exact Tr.lret (pc := 8) d_X12_fresh_8 rfl ⟨hS, _, rfl, by omega, by omega, (by first | exact (hd_o hq0) | exact (hd_o hq0).elim (fun h1 => by omega) (fun h1 => by omega)), (by omega), (by first | exact (hd_o hq2) | exact (hd_o hq2).elim (fun h1 => by omega) (fun h1 => h1.elim (fun h1 => by omega) (fun h1 => by omega))), (by and_intros <;> omega), (by omega), (by omega)⟩

set_option maxRecDepth 100000 in
set_option maxHeartbeats 4000000 in
theorem ns_X12_fresh_120_w1 {l : Launch} {K : EC} {M0 : Mem} {G120_3 G120_4 G120_5 G120_7 G120_8 G9010_0 : Int} (hI : In Pm0 M0) (k120_3 : rd M0 120 3 = G120_3) (k120_4 : rd M0 120 4 = G120_4) (k120_5 : rd M0 120 5 = G120_5) (k120_7 : rd M0 120 7 = G120_7) (k120_8 : rd M0 120 8 = G120_8) (k9010_0 : tav M0 = G9010_0) (en_120_37 : rd M0 120 37 = 0)   (hq0 : G120_3 = 0 ∨ G120_4 + 1 ≤ G120_5) (hq1 : G120_4 ≤ G120_5) (hq2 : G120_3 ≠ 1 ∨ G120_4 + 2 ≤ G120_5 ∨ G120_7 < 256) : Tr l K 2 mX12_fresh 0 [(0, (2, 120))] [] M0 (fun M' r => St Pm0 ws_X12_fresh_120_w1 as_X12_fresh_120_w1 M0 M' ∧ ∃ S120_3 S120_4 S120_5 S120_7 S120_8 S9010_0 : Int, rd M' 120 3 = S120_3 ∧ (0 ≤ S120_3 ∧ S120_3 ≤ 3) ∧ rd M' 120 4 = S120_4 ∧ (0 ≤ S120_4 ∧ S120_4 ≤ 900) ∧ rd M' 120 5 = S120_5 ∧ (0 ≤ S120_5 ∧ S120_5 ≤ 900) ∧ rd M' 120 7 = S120_7 ∧ ((-9223372036854775808) ≤ S120_7 ∧ S120_7 ≤ 9223372036854775807) ∧ rd M' 120 8 = S120_8 ∧ (0 ≤ S120_8 ∧ S120_8 ≤ 5) ∧ tav M' = S9010_0 ∧ ((-1) ≤ S9010_0 ∧ S9010_0 ≤ 1800) ∧ ∃ v : Int, r = some (1, v) ∧ (-9223372036854775808) ≤ v ∧ v ≤ 9223372036854775807 ∧ Hd (S120_3 = 0 ∨ S120_4 + 1 ≤ S120_5) ∧ (S120_4 ≤ S120_5) ∧ Hd (S120_3 ≠ 1 ∨ S120_4 + 2 ≤ S120_5 ∨ S120_7 < 256) ∧ (G120_4 ≤ S120_4 ∧ G120_5 ≤ S120_5 ∧ G9010_0 ≤ S9010_0) ∧ Hd (G120_8 = 0 ∨ S120_8 = G120_8) ∧ Hd (1 ≤ S120_8 ∨ G9010_0 < S9010_0)) := by
  subst k120_3
  subst k120_4
  subst k120_5
  subst k120_7
  subst k120_8
  subst k9010_0
  refine Tr.imp (sp_X12_fresh_120_w1 hI en_120_37 hq0 hq1 hq2) ?_
  rintro M' _ ⟨hS, v, rfl, lr, ur, z0, z1, z2, z3, z4, z5⟩
  exact ⟨hS, _, _, _, _, _, _, rfl, ir_120_3 hS.1.2.1, rfl, ir_120_4 hS.1.2.1, rfl, ir_120_5 hS.1.2.1, rfl, ir_120_7 hS.1.2.1, rfl, ir_120_8 hS.1.2.1, rfl, (tav_b hS.1.2.1), v, rfl, lr, ur, hd_i z0, z1, hd_i z2, z3, hd_i z4, hd_i z5⟩

def ws_X12_variable_120_w1 : List (Int × Int) := [(120, 3), (120, 4), (120, 5), (120, 6), (120, 7), (120, 8), (120, 9), (128, 0)]
def as_X12_variable_120_w1 : List Int := [135]
def q_X12_variable_120_w1 (M0 M' : Mem) (r : Option PV) : Prop := St Pm0 ws_X12_variable_120_w1 as_X12_variable_120_w1 M0 M' ∧ r = none ∧ (rd M' 120 3 = 0 ∨ rd M' 120 4 + 1 ≤ rd M' 120 5) ∧ (rd M' 120 4 ≤ rd M' 120 5) ∧ (rd M' 120 3 ≠ 1 ∨ rd M' 120 4 + 2 ≤ rd M' 120 5 ∨ rd M' 120 7 < 256) ∧ (rd M0 120 4 ≤ rd M' 120 4 ∧ rd M0 120 5 ≤ rd M' 120 5 ∧ tav M0 ≤ tav M') ∧ (rd M0 120 8 = 0 ∨ rd M' 120 8 = rd M0 120 8) ∧ (1 ≤ rd M' 120 8 ∨ tav M0 < tav M')
theorem kp_X12_variable_120_w1_120_37 {q : Mem → Prop} {M0 M : Mem} (h : St q ws_X12_variable_120_w1 as_X12_variable_120_w1 M0 M) : rd M 120 37 = rd M0 120 37 := St.kp h (by decide) (by decide) (by decide)
theorem kp_X12_counts_120_w1_128_0 {q : Mem → Prop} {M0 M : Mem} (h : St q ws_X12_counts_120_w1 as_X12_counts_120_w1 M0 M) : rd M 128 0 = rd M0 128 0 := St.kp h (by decide) (by decide) (by decide)
theorem kp_X12_fresh_120_w1_128_0 {q : Mem → Prop} {M0 M : Mem} (h : St q ws_X12_fresh_120_w1 as_X12_fresh_120_w1 M0 M) : rd M 128 0 = rd M0 128 0 := St.kp h (by decide) (by decide) (by decide)
set_option maxRecDepth 100000 in
set_option maxHeartbeats 4000000 in
theorem sp_X12_variable_120_w1 {l : Launch} {K : EC} {M0 : Mem} (hI : In Pm0 M0) (en_120_37 : rd M0 120 37 = 0)   (hq0 : rd M0 120 3 = 0 ∨ rd M0 120 4 + 1 ≤ rd M0 120 5) (hq1 : rd M0 120 4 ≤ rd M0 120 5) (hq2 : rd M0 120 3 ≠ 1 ∨ rd M0 120 4 + 2 ≤ rd M0 120 5 ∨ rd M0 120 7 < 256) (hq3 : rd M0 120 3 ≠ 0) (hq4 : rd M0 120 8 = 0) : Tr l K 3 mX12_variable 0 [(0, (2, 120))] [] M0 (q_X12_variable_120_w1 M0) := by
  have hS : St Pm0 ws_X12_variable_120_w1 as_X12_variable_120_w1 M0 M0 := St.rf hI
  obtain ⟨g120_8, eg120_8⟩ : ∃ v, rd M0 120 8 = v := ⟨_, rfl⟩
  have bg120_8 : 0 ≤ g120_8 ∧ g120_8 ≤ 5 := by rw [← eg120_8]; exact ir_120_8 hI.2.1
  obtain ⟨g120_3, eg120_3⟩ : ∃ v, rd M0 120 3 = v := ⟨_, rfl⟩
  have bg120_3 : 0 ≤ g120_3 ∧ g120_3 ≤ 3 := by rw [← eg120_3]; exact ir_120_3 hI.2.1
  obtain ⟨g120_4, eg120_4⟩ : ∃ v, rd M0 120 4 = v := ⟨_, rfl⟩
  have bg120_4 : 0 ≤ g120_4 ∧ g120_4 ≤ 900 := by rw [← eg120_4]; exact ir_120_4 hI.2.1
  obtain ⟨g120_5, eg120_5⟩ : ∃ v, rd M0 120 5 = v := ⟨_, rfl⟩
  have bg120_5 : 0 ≤ g120_5 ∧ g120_5 ≤ 900 := by rw [← eg120_5]; exact ir_120_5 hI.2.1
  obtain ⟨g120_7, eg120_7⟩ : ∃ v, rd M0 120 7 = v := ⟨_, rfl⟩
  have bg120_7 : (-9223372036854775808) ≤ g120_7 ∧ g120_7 ≤ 9223372036854775807 := by rw [← eg120_7]; exact ir_120_7 hI.2.1
  obtain ⟨g9010_0, eg9010_0⟩ : ∃ v, tav M0 = v := ⟨_, rfl⟩
  have bg9010_0 : (-1) ≤ g9010_0 ∧ g9010_0 ≤ 1800 := by rw [← eg9010_0]; exact (tav_b hI.2.1)
  obtain ⟨g128_0, eg128_0⟩ : ∃ v, rd M0 128 0 = v := ⟨_, rfl⟩
  have bg128_0 : 0 ≤ g128_0 ∧ g128_0 ≤ 6 := by rw [← eg128_0]; exact ir_128_0 hI.2.1
  replace hq0 := hd_i hq0
  replace hq2 := hd_i hq2
  replace hq3 := hd_i hq3
  refine Tr.aload_n (pc := 0) (i := 0) d_X12_variable_0 rfl rfl ?_
  refine Tr.aload_n (pc := 1) (i := 0) d_X12_variable_1 rfl rfl ?_
  refine Tr.getf (pc := 2) d_X12_variable_2 f_12_69 (by decide) (by decide) (ty_120 hS.1.1) ?_
  refine Tr.tp 128 (fx_120_19 hS.1.1) ?_
  refine Tr.aload_n (pc := 5) (i := 0) d_X12_variable_5 rfl rfl ?_
  refine Tr.getf (pc := 6) d_X12_variable_6 f_12_124 (by decide) (by decide) (ty_120 hS.1.1) ?_
  refine Tr.tp 0 ((kp_X12_variable_120_w1_120_37 hS).trans en_120_37) ?_
  refine Tr.iald (pc := 9) d_X12_variable_9 (ty_128 hS.1.1) (by omega) (by omega) ?_
  refine Tr.tp g128_0 eg128_0 ?_
  refine Tr.bipush (pc := 10) d_X12_variable_10 rfl (by decide) ?_
  have J20 : ∀ (M : Mem) (q20_1 : Int), St Pm0 ws_X12_variable_120_w1 as_X12_variable_120_w1 M0 M → (0 ≤ q20_1 ∧ q20_1 ≤ 1) → rd M 120 3 = g120_3 → rd M 120 4 = g120_4 → rd M 120 5 = g120_5 → rd M 120 7 = g120_7 → rd M 120 8 = g120_8 → rd M 128 0 = g128_0 → tav M = g9010_0 → ((q20_1 = 1 ∧ g128_0 = 6) ∨ (q20_1 = 0 ∧ g128_0 ≠ 6)) → Tr l K 3 mX12_variable 20 [(0, (2, 120))] [(0, q20_1), (2, 120)] M (q_X12_variable_120_w1 M0) := by
    intro M q20_1 hS bq20_1 k20_120_3 k20_120_4 k20_120_5 k20_120_7 k20_120_8 k20_128_0 k20_9010_0 t20_0
    replace t20_0 := hd_i t20_0
    refine Tr.callV (pc := 20) (as := [_]) d_X12_variable_20 s_12_505 ok_X12_counts rfl rfl (Nat.le_of_ble_eq_true rfl) (Nat.le_of_ble_eq_true rfl) (by decide) (ty_120 hS.1.1) ?_
    refine Tr.imp (Tr.deep (by decide) (ns_X12_counts_120_w1 (G120_3 := g120_3) (G120_4 := g120_4) (G120_5 := g120_5) (G120_7 := g120_7) (G120_8 := g120_8) (G9010_0 := g9010_0) hS.1 (k20_120_3) (k20_120_4) (k20_120_5) (k20_120_7) (k20_120_8) (k20_9010_0) q20_1 (by and_intros <;> omega) (by first | exact (hd_o hq0) | exact (hd_o hq0).elim (fun h1 => by omega) (fun h1 => by omega)) (by omega) (by first | exact (hd_o hq2) | exact (hd_o hq2).elim (fun h1 => by omega) (fun h1 => h1.elim (fun h1 => by omega) (fun h1 => by omega))) (by have h1 := (hd_o hq3); omega))) ?_
    rintro M20 _ ⟨h20, s20_120_3, s20_120_4, s20_120_5, s20_120_7, s20_120_8, s20_9010_0, es20_120_3, bs20_120_3, es20_120_4, bs20_120_4, es20_120_5, bs20_120_5, es20_120_7, bs20_120_7, es20_120_8, bs20_120_8, es20_9010_0, bs20_9010_0, rfl, z20_0, z20_1, z20_2, z20_3, z20_4, z20_5, z20_6⟩
    have hS := St.tr hS h20 (by decide) (by decide)
    refine Tr.sc [] rfl ?_
    refine Tr.aload_n (pc := 23) (i := 0) d_X12_variable_23 rfl rfl ?_
    refine Tr.getf (pc := 24) d_X12_variable_24 f_12_36 (by decide) (by decide) (ty_120 hS.1.1) ?_
    refine Tr.tp s20_120_8 es20_120_8 ?_
    refine Tr.if_le (pc := 27) (tgt := 31) d_X12_variable_27 rfl (fun c27 => ?_) (fun c27 => ?_)
    · refine Tr.aload_n (pc := 31) (i := 0) d_X12_variable_31 rfl rfl ?_
      refine Tr.getf (pc := 32) d_X12_variable_32 f_12_91 (by decide) (by decide) (ty_120 hS.1.1) ?_
      refine Tr.tp 135 (fx_120_26 hS.1.1) ?_
      refine Tr.bipush (pc := 35) d_X12_variable_35 rfl (by decide) ?_
      refine Tr.aload_n (pc := 37) (i := 0) d_X12_variable_37 rfl rfl ?_
      refine Tr.getf (pc := 38) d_X12_variable_38 f_12_124 (by decide) (by decide) (ty_120 hS.1.1) ?_
      refine Tr.tp 0 ((kp_X12_variable_120_w1_120_37 hS).trans en_120_37) ?_
      refine Tr.imul (pc := 41) d_X12_variable_41 ?_
      refine Tr.tp 0 (by decide) ?_
      refine Tr.aload_n (pc := 42) (i := 0) d_X12_variable_42 rfl rfl ?_
      refine Tr.getf (pc := 43) d_X12_variable_43 f_12_69 (by decide) (by decide) (ty_120 hS.1.1) ?_
      refine Tr.tp 128 (fx_120_19 hS.1.1) ?_
      refine Tr.aload_n (pc := 46) (i := 0) d_X12_variable_46 rfl rfl ?_
      refine Tr.getf (pc := 47) d_X12_variable_47 f_12_124 (by decide) (by decide) (ty_120 hS.1.1) ?_
      refine Tr.tp 0 ((kp_X12_variable_120_w1_120_37 hS).trans en_120_37) ?_
      refine Tr.iald (pc := 50) d_X12_variable_50 (ty_128 hS.1.1) (by omega) (by omega) ?_
      refine Tr.tp g128_0 ((kp_X12_counts_120_w1_128_0 h20).trans k20_128_0) ?_
      refine Tr.iadd (pc := 51) d_X12_variable_51 ?_
      refine Tr.tp g128_0 ((w32_id (by and_intros <;> omega)).trans (by omega)) ?_
      refine Tr.aload_n (pc := 52) (i := 0) d_X12_variable_52 rfl rfl ?_
      refine Tr.callV (pc := 53) (as := []) d_X12_variable_53 s_12_508 ok_X12_fresh rfl rfl (Nat.le_of_ble_eq_true rfl) (Nat.le_of_ble_eq_true rfl) (by decide) (ty_120 hS.1.1) ?_
      refine Tr.imp (Tr.deep (by decide) (ns_X12_fresh_120_w1 (G120_3 := s20_120_3) (G120_4 := s20_120_4) (G120_5 := s20_120_5) (G120_7 := s20_120_7) (G120_8 := s20_120_8) (G9010_0 := s20_9010_0) hS.1 (es20_120_3) (es20_120_4) (es20_120_5) (es20_120_7) (es20_120_8) (es20_9010_0) ((kp_X12_variable_120_w1_120_37 hS).trans en_120_37) (by first | exact (hd_o z20_0) | exact (hd_o z20_0).elim (fun h1 => by omega) (fun h1 => by omega)) (by omega) (by first | exact (hd_o z20_2) | exact (hd_o z20_2).elim (fun h1 => by omega) (fun h1 => h1.elim (fun h1 => by omega) (fun h1 => by omega))))) ?_
      rintro M53 _ ⟨h53, s53_120_3, s53_120_4, s53_120_5, s53_120_7, s53_120_8, s53_9010_0, es53_120_3, bs53_120_3, es53_120_4, bs53_120_4, es53_120_5, bs53_120_5, es53_120_7, bs53_120_7, es53_120_8, bs53_120_8, es53_9010_0, bs53_9010_0, r53, rfl, lr53, ur53, z53_0, z53_1, z53_2, z53_3, z53_4, z53_5⟩
      have hS := St.tr hS h53 (by decide) (by decide)
      refine Tr.sc [(1, r53), (0, g128_0), (2, 135)] rfl ?_
      refine Tr.lastS (pc := 56) (P := St Pm0 ws_X12_variable_120_w1 as_X12_variable_120_w1 M0) d_X12_variable_56 (ty_135 hS.1.1) (by omega) (by omega) (sa_135 hS (by decide) (by omega) (Pm0.of hS.1.2.2.2.2 (fun _ => rd_wb _ rfl) (fun _ => rd_wb _ rfl) (fun _ => rd_wb _ rfl) (fun _ => rd_wb _ rfl) (fun _ => rd_wb _ rfl) (fun _ => rd_wb _ rfl) (fun _ => rd_wb _ rfl) (fun _ => rd_wb _ rfl) (fun _ => rd_wb _ rfl) (fun _ => rd_wb _ rfl) (rd_wb _ rfl) (rd_wb _ rfl) (rd_wb _ rfl) (rd_wb _ rfl) (rd_wb _ rfl) (rd_wb _ rfl) (rd_wb _ rfl) (rd_wb _ rfl) (rd_wb _ rfl) (rd_wb _ rfl) (rd_wb _ rfl))) (fun M56 hS w56 => ?_)
      refine Tr.aload_n (pc := 57) (i := 0) d_X12_variable_57 rfl rfl ?_
      refine Tr.getf (pc := 58) d_X12_variable_58 f_12_36 (by decide) (by decide) (ty_120 hS.1.1) ?_
      refine Tr.tp s53_120_8 ((Wr.b w56 rfl).trans es53_120_8) ?_
      refine Tr.if_ne (pc := 61) (tgt := 77) d_X12_variable_61 rfl (fun c61 => ?_) (fun c61 => ?_)
      · have c61b : 1 ≤ s53_120_8 ∧ s53_120_8 ≤ 5 := by omega
        replace c61 := hd_i c61
        have kr_120_3 : rd M56 120 3 = s53_120_3 := ((Wr.b w56 rfl).trans es53_120_3)
        have kr_120_4 : rd M56 120 4 = s53_120_4 := ((Wr.b w56 rfl).trans es53_120_4)
        have kr_120_5 : rd M56 120 5 = s53_120_5 := ((Wr.b w56 rfl).trans es53_120_5)
        have kr_120_7 : rd M56 120 7 = s53_120_7 := ((Wr.b w56 rfl).trans es53_120_7)
        have kr_120_8 : rd M56 120 8 = s53_120_8 := ((Wr.b w56 rfl).trans es53_120_8)
        have kr_9010_0 : tav M56 = s53_9010_0 := ((tav_of ((Wr.b w56 rfl).trans rfl) ((Wr.b w56 rfl).trans rfl)).trans es53_9010_0)
        exact Tr.vret (pc := 77) d_X12_variable_77 rfl ⟨hS, rfl, (by first | exact (hd_o z53_0) | exact (hd_o z53_0).elim (fun h1 => by omega) (fun h1 => by omega)), (by omega), (by first | exact (hd_o z53_2) | exact (hd_o z53_2).elim (fun h1 => by omega) (fun h1 => h1.elim (fun h1 => by omega) (fun h1 => by omega))), (by and_intros <;> omega), (by omega), (by omega)⟩
      · refine Tr.aload_n (pc := 64) (i := 0) d_X12_variable_64 rfl rfl ?_
        refine Tr.getf (pc := 65) d_X12_variable_65 f_12_69 (by decide) (by decide) (ty_120 hS.1.1) ?_
        refine Tr.tp 128 (fx_120_19 hS.1.1) ?_
        refine Tr.aload_n (pc := 68) (i := 0) d_X12_variable_68 rfl rfl ?_
        refine Tr.getf (pc := 69) d_X12_variable_69 f_12_124 (by decide) (by decide) (ty_120 hS.1.1) ?_
        refine Tr.tp 0 ((kp_X12_variable_120_w1_120_37 hS).trans en_120_37) ?_
        refine Tr.dup2 (pc := 72) d_X12_variable_72 ne01 ne21 ?_
        refine Tr.iald (pc := 73) d_X12_variable_73 (ty_128 hS.1.1) (by omega) (by omega) ?_
        refine Tr.tp g128_0 ((Wr.b w56 rfl).trans ((kp_X12_fresh_120_w1_128_0 h53).trans ((kp_X12_counts_120_w1_128_0 h20).trans k20_128_0))) ?_
        refine Tr.iconst (pc := 74) d_X12_variable_74 (by decide) ?_
        refine Tr.iadd (pc := 75) d_X12_variable_75 ?_
        refine Tr.tp (g128_0 + 1) ((w32_id (by and_intros <;> omega)).trans (by omega)) ?_
        refine Tr.iastS (pc := 76) (P := St Pm0 ws_X12_variable_120_w1 as_X12_variable_120_w1 M0) d_X12_variable_76 (ty_128 hS.1.1) (by omega) (by omega) (st_128_0 hS (by decide) (by exact (hd_o t20_0).elim (fun h1 => (hd_o z20_6).elim (fun h2 => by omega) (fun h2 => by omega)) (fun h1 => (ne_o h1.2).elim (fun h2 => by omega) (fun h2 => by omega))) (Pm0.of hS.1.2.2.2.2 (fun _ => rd_wb _ rfl) (fun _ => rd_wb _ rfl) (fun _ => rd_wb _ rfl) (fun _ => rd_wb _ rfl) (fun _ => rd_wb _ rfl) (fun _ => rd_wb _ rfl) (fun _ => rd_wb _ rfl) (fun _ => rd_wb _ rfl) (fun _ => rd_wb _ rfl) (fun _ => rd_wb _ rfl) (rd_wb _ rfl) (rd_wb _ rfl) (rd_wb _ rfl) (rd_wb _ rfl) (rd_wb _ rfl) (rd_wb _ rfl) (rd_wb _ rfl) (rd_wb _ rfl) (rd_wb _ rfl) (rd_wb _ rfl) (rd_wb _ rfl))) (fun M76 hS w76 => ?_)
        have kr_120_3 : rd M76 120 3 = s53_120_3 := ((Wr.b w76 rfl).trans ((Wr.b w56 rfl).trans es53_120_3))
        have kr_120_4 : rd M76 120 4 = s53_120_4 := ((Wr.b w76 rfl).trans ((Wr.b w56 rfl).trans es53_120_4))
        have kr_120_5 : rd M76 120 5 = s53_120_5 := ((Wr.b w76 rfl).trans ((Wr.b w56 rfl).trans es53_120_5))
        have kr_120_7 : rd M76 120 7 = s53_120_7 := ((Wr.b w76 rfl).trans ((Wr.b w56 rfl).trans es53_120_7))
        have kr_120_8 : rd M76 120 8 = s53_120_8 := ((Wr.b w76 rfl).trans ((Wr.b w56 rfl).trans es53_120_8))
        have kr_9010_0 : tav M76 = s53_9010_0 := ((tav_of ((Wr.b w76 rfl).trans ((Wr.b w56 rfl).trans rfl)) ((Wr.b w76 rfl).trans ((Wr.b w56 rfl).trans rfl))).trans es53_9010_0)
        exact Tr.vret (pc := 77) d_X12_variable_77 rfl ⟨hS, rfl, (by first | exact (hd_o z53_0) | exact (hd_o z53_0).elim (fun h1 => by omega) (fun h1 => by omega)), (by omega), (by first | exact (hd_o z53_2) | exact (hd_o z53_2).elim (fun h1 => by omega) (fun h1 => h1.elim (fun h1 => by omega) (fun h1 => by omega))), (by and_intros <;> omega), (by omega), (by exact (hd_o z53_5).elim (fun h1 => by omega) (fun h1 => by omega))⟩
    · have kr_120_3 : rd M20 120 3 = s20_120_3 := es20_120_3
      have kr_120_4 : rd M20 120 4 = s20_120_4 := es20_120_4
      have kr_120_5 : rd M20 120 5 = s20_120_5 := es20_120_5
      have kr_120_7 : rd M20 120 7 = s20_120_7 := es20_120_7
      have kr_120_8 : rd M20 120 8 = s20_120_8 := es20_120_8
      have kr_9010_0 : tav M20 = s20_9010_0 := es20_9010_0
      exact Tr.vret (pc := 30) d_X12_variable_30 rfl ⟨hS, rfl, (by first | exact (hd_o z20_0) | exact (hd_o z20_0).elim (fun h1 => by omega) (fun h1 => by omega)), (by omega), (by first | exact (hd_o z20_2) | exact (hd_o z20_2).elim (fun h1 => by omega) (fun h1 => h1.elim (fun h1 => by omega) (fun h1 => by omega))), (by and_intros <;> omega), (by first | exact (hd_o z20_4) | exact (hd_o z20_4).elim (fun h1 => by omega) (fun h1 => by omega)), (by first | exact (hd_o z20_5) | exact (hd_o z20_5).elim (fun h1 => by omega) (fun h1 => by omega))⟩
  refine Tr.icmp_ne (pc := 12) (tgt := 19) d_X12_variable_12 rfl (fun c12 => ?_) (fun c12 => ?_)
  · have c12b : 0 ≤ g128_0 ∧ g128_0 ≤ 5 := by omega
    replace c12 := hd_i c12
    refine Tr.iconst (pc := 19) d_X12_variable_19 (by decide) ?_
    refine Tr.pick [0] (ls2 := [(0, (2, 120))]) rfl ?_
    exact J20 _ _ hS (by omega) eg120_3 eg120_4 eg120_5 eg120_7 eg120_8 eg128_0 eg9010_0 (by omega)
  · refine Tr.iconst (pc := 15) d_X12_variable_15 (by decide) ?_
    refine Tr.goto (pc := 16) (tgt := 20) d_X12_variable_16 rfl ?_
    refine Tr.pick [0] (ls2 := [(0, (2, 120))]) rfl ?_
    exact J20 _ _ hS (by omega) eg120_3 eg120_4 eg120_5 eg120_7 eg120_8 eg128_0 eg9010_0 (by omega)

set_option maxRecDepth 100000 in
set_option maxHeartbeats 4000000 in
theorem ns_X12_variable_120_w1 {l : Launch} {K : EC} {M0 : Mem} {G120_3 G120_4 G120_5 G120_7 G120_8 G9010_0 : Int} (hI : In Pm0 M0) (k120_3 : rd M0 120 3 = G120_3) (k120_4 : rd M0 120 4 = G120_4) (k120_5 : rd M0 120 5 = G120_5) (k120_7 : rd M0 120 7 = G120_7) (k120_8 : rd M0 120 8 = G120_8) (k9010_0 : tav M0 = G9010_0) (en_120_37 : rd M0 120 37 = 0)   (hq0 : G120_3 = 0 ∨ G120_4 + 1 ≤ G120_5) (hq1 : G120_4 ≤ G120_5) (hq2 : G120_3 ≠ 1 ∨ G120_4 + 2 ≤ G120_5 ∨ G120_7 < 256) (hq3 : G120_3 ≠ 0) (hq4 : G120_8 = 0) : Tr l K 3 mX12_variable 0 [(0, (2, 120))] [] M0 (fun M' r => St Pm0 ws_X12_variable_120_w1 as_X12_variable_120_w1 M0 M' ∧ ∃ S120_3 S120_4 S120_5 S120_7 S120_8 S9010_0 : Int, rd M' 120 3 = S120_3 ∧ (0 ≤ S120_3 ∧ S120_3 ≤ 3) ∧ rd M' 120 4 = S120_4 ∧ (0 ≤ S120_4 ∧ S120_4 ≤ 900) ∧ rd M' 120 5 = S120_5 ∧ (0 ≤ S120_5 ∧ S120_5 ≤ 900) ∧ rd M' 120 7 = S120_7 ∧ ((-9223372036854775808) ≤ S120_7 ∧ S120_7 ≤ 9223372036854775807) ∧ rd M' 120 8 = S120_8 ∧ (0 ≤ S120_8 ∧ S120_8 ≤ 5) ∧ tav M' = S9010_0 ∧ ((-1) ≤ S9010_0 ∧ S9010_0 ≤ 1800) ∧ r = none ∧ Hd (S120_3 = 0 ∨ S120_4 + 1 ≤ S120_5) ∧ (S120_4 ≤ S120_5) ∧ Hd (S120_3 ≠ 1 ∨ S120_4 + 2 ≤ S120_5 ∨ S120_7 < 256) ∧ (G120_4 ≤ S120_4 ∧ G120_5 ≤ S120_5 ∧ G9010_0 ≤ S9010_0) ∧ Hd (G120_8 = 0 ∨ S120_8 = G120_8) ∧ Hd (1 ≤ S120_8 ∨ G9010_0 < S9010_0)) := by
  subst k120_3
  subst k120_4
  subst k120_5
  subst k120_7
  subst k120_8
  subst k9010_0
  refine Tr.imp (sp_X12_variable_120_w1 hI en_120_37 hq0 hq1 hq2 hq3 hq4) ?_
  rintro M' _ ⟨hS, rfl, z0, z1, z2, z3, z4, z5⟩
  exact ⟨hS, _, _, _, _, _, _, rfl, ir_120_3 hS.1.2.1, rfl, ir_120_4 hS.1.2.1, rfl, ir_120_5 hS.1.2.1, rfl, ir_120_7 hS.1.2.1, rfl, ir_120_8 hS.1.2.1, rfl, (tav_b hS.1.2.1), rfl, hd_i z0, z1, hd_i z2, z3, hd_i z4, hd_i z5⟩

def ws_X12_number_120_w1 : List (Int × Int) := [(120, 3), (120, 4), (120, 5), (120, 6), (120, 7), (120, 8), (120, 9)]
def as_X12_number_120_w1 : List Int := []
def q_X12_number_120_w1 (a1 : Int) (a2 : Int) (M0 M' : Mem) (r : Option PV) : Prop := St Pm0 ws_X12_number_120_w1 as_X12_number_120_w1 M0 M' ∧ ∃ v : Int, r = some (0, v) ∧ (-2147483648) ≤ v ∧ v ≤ 2147483647 ∧ (rd M' 120 3 = 0 ∨ rd M' 120 4 + 1 ≤ rd M' 120 5) ∧ (rd M' 120 4 ≤ rd M' 120 5) ∧ (rd M' 120 3 ≠ 1 ∨ rd M' 120 4 + 2 ≤ rd M' 120 5 ∨ rd M' 120 7 < 256) ∧ (rd M0 120 4 ≤ rd M' 120 4 ∧ rd M0 120 5 ≤ rd M' 120 5 ∧ tav M0 ≤ tav M') ∧ (rd M0 120 8 = 0 ∨ rd M' 120 8 = rd M0 120 8) ∧ (1 ≤ rd M' 120 8 ∨ tav M0 < tav M') ∧ (1 ≤ rd M' 120 8 ∨ (a1 ≤ v ∧ v ≤ a2))
theorem kp_X12_blame_120_w1_120_6 {q : Mem → Prop} {M0 M : Mem} (h : St q ws_X12_blame_120_w1 as_X12_blame_120_w1 M0 M) : rd M 120 6 = rd M0 120 6 := St.kp h (by decide) (by decide) (by decide)
set_option maxRecDepth 100000 in
set_option maxHeartbeats 4000000 in
theorem sp_X12_number_120_w1 {l : Launch} {K : EC} {M0 : Mem} (hI : In Pm0 M0)  (a1 : Int) (ha1 : (-2147483648) ≤ a1 ∧ a1 ≤ 2147483647) (a2 : Int) (ha2 : 0 ≤ a2 ∧ a2 ≤ 999)  (hq0 : rd M0 120 3 = 0 ∨ rd M0 120 4 + 1 ≤ rd M0 120 5) (hq1 : rd M0 120 4 ≤ rd M0 120 5) (hq2 : rd M0 120 3 ≠ 1 ∨ rd M0 120 4 + 2 ≤ rd M0 120 5 ∨ rd M0 120 7 < 256) : Tr l K 2 mX12_number 0 [(0, (2, 120)), (1, (0, a1)), (2, (0, a2))] [] M0 (q_X12_number_120_w1 a1 a2 M0) := by
  have hS : St Pm0 ws_X12_number_120_w1 as_X12_number_120_w1 M0 M0 := St.rf hI
  obtain ⟨g120_8, eg120_8⟩ : ∃ v, rd M0 120 8 = v := ⟨_, rfl⟩
  have bg120_8 : 0 ≤ g120_8 ∧ g120_8 ≤ 5 := by rw [← eg120_8]; exact ir_120_8 hI.2.1
  obtain ⟨g120_3, eg120_3⟩ : ∃ v, rd M0 120 3 = v := ⟨_, rfl⟩
  have bg120_3 : 0 ≤ g120_3 ∧ g120_3 ≤ 3 := by rw [← eg120_3]; exact ir_120_3 hI.2.1
  obtain ⟨g120_4, eg120_4⟩ : ∃ v, rd M0 120 4 = v := ⟨_, rfl⟩
  have bg120_4 : 0 ≤ g120_4 ∧ g120_4 ≤ 900 := by rw [← eg120_4]; exact ir_120_4 hI.2.1
  obtain ⟨g120_5, eg120_5⟩ : ∃ v, rd M0 120 5 = v := ⟨_, rfl⟩
  have bg120_5 : 0 ≤ g120_5 ∧ g120_5 ≤ 900 := by rw [← eg120_5]; exact ir_120_5 hI.2.1
  obtain ⟨g120_7, eg120_7⟩ : ∃ v, rd M0 120 7 = v := ⟨_, rfl⟩
  have bg120_7 : (-9223372036854775808) ≤ g120_7 ∧ g120_7 ≤ 9223372036854775807 := by rw [← eg120_7]; exact ir_120_7 hI.2.1
  obtain ⟨g9010_0, eg9010_0⟩ : ∃ v, tav M0 = v := ⟨_, rfl⟩
  have bg9010_0 : (-1) ≤ g9010_0 ∧ g9010_0 ≤ 1800 := by rw [← eg9010_0]; exact (tav_b hI.2.1)
  obtain ⟨g120_6, eg120_6⟩ : ∃ v, rd M0 120 6 = v := ⟨_, rfl⟩
  have bg120_6 : (-2147483648) ≤ g120_6 ∧ g120_6 ≤ 2147483647 := by rw [← eg120_6]; exact ir_120_6 hI.2.1
  replace hq0 := hd_i hq0
  replace hq2 := hd_i hq2
  refine Tr.aload_n (pc := 0) (i := 0) d_X12_number_0 rfl rfl ?_
  refine Tr.getf (pc := 1) d_X12_number_1 f_12_36 (by decide) (by decide) (ty_120 hS.1.1) ?_
  refine Tr.tp g120_8 eg120_8 ?_
  refine Tr.if_le (pc := 4) (tgt := 9) d_X12_number_4 rfl (fun c4 => ?_) (fun c4 => ?_)
  · refine Tr.aload_n (pc := 9) (i := 0) d_X12_number_9 rfl rfl ?_
    refine Tr.getf (pc := 10) d_X12_number_10 f_12_20 (by decide) (by decide) (ty_120 hS.1.1) ?_
    refine Tr.tp g120_3 eg120_3 ?_
    refine Tr.iconst (pc := 13) d_X12_number_13 (by decide) ?_
    have J26 : ∀ (M : Mem) (u26_120_8 : Int), St Pm0 ws_X12_number_120_w1 as_X12_number_120_w1 M0 M → (0 ≤ u26_120_8 ∧ u26_120_8 ≤ 5) → rd M 120 3 = g120_3 → rd M 120 4 = g120_4 → rd M 120 5 = g120_5 → rd M 120 6 = g120_6 → rd M 120 7 = g120_7 → rd M 120 8 = u26_120_8 → tav M = g9010_0 → (u26_120_8 ≠ 0 ∨ g120_3 ≠ 0) → (g120_8 = 0) → Tr l K 2 mX12_number 26 [(0, (2, 120)), (1, (0, a1)), (2, (0, a2))] [] M (q_X12_number_120_w1 a1 a2 M0) := by
      intro M u26_120_8 hS bu26_120_8 k26_120_3 k26_120_4 k26_120_5 k26_120_6 k26_120_7 k26_120_8 k26_9010_0 t26_0 t26_1
      replace t26_0 := hd_i t26_0
      refine Tr.aload_n (pc := 26) (i := 0) d_X12_number_26 rfl rfl ?_
      refine Tr.getf (pc := 27) d_X12_number_27 f_12_36 (by decide) (by decide) (ty_120 hS.1.1) ?_
      refine Tr.tp u26_120_8 k26_120_8 ?_
      have J54 : ∀ (M : Mem) (u54_120_8 : Int), St Pm0 ws_X12_number_120_w1 as_X12_number_120_w1 M0 M → (0 ≤ u54_120_8 ∧ u54_120_8 ≤ 5) → rd M 120 3 = g120_3 → rd M 120 4 = g120_4 → rd M 120 5 = g120_5 → rd M 120 6 = g120_6 → rd M 120 7 = g120_7 → rd M 120 8 = u54_120_8 → tav M = g9010_0 → (u54_120_8 ≠ 0 ∨ g120_3 ≠ 0) → (g120_8 = 0) → (u54_120_8 ≠ 0 ∨ (a1 ≤ g120_6 ∧ g120_6 ≤ a2)) → Tr l K 2 mX12_number 54 [(0, (2, 120))] [] M (q_X12_number_120_w1 a1 a2 M0) := by
        intro M u54_120_8 hS bu54_120_8 k54_120_3 k54_120_4 k54_120_5 k54_120_6 k54_120_7 k54_120_8 k54_9010_0 t54_0 t54_1 t54_2
        clear k26_120_3 k26_120_4 k26_120_5 k26_120_6 k26_120_7 k26_120_8 k26_9010_0
        replace t54_0 := hd_i t54_0
        replace t54_2 := hd_i t54_2
        refine Tr.aload_n (pc := 54) (i := 0) d_X12_number_54 rfl rfl ?_
        refine Tr.getf (pc := 55) d_X12_number_55 f_12_29 (by decide) (by decide) (ty_120 hS.1.1) ?_
        refine Tr.tp g120_6 k54_120_6 ?_
        refine Tr.istore_n (pc := 58) (i := 3) (ls2 := [(3, (0, g120_6)), (0, (2, 120))]) d_X12_number_58 rfl (by decide) rfl ?_
        refine Tr.aload_n (pc := 59) (i := 0) d_X12_number_59 rfl rfl ?_
        refine Tr.getf (pc := 60) d_X12_number_60 f_12_36 (by decide) (by decide) (ty_120 hS.1.1) ?_
        refine Tr.tp u54_120_8 k54_120_8 ?_
        refine Tr.if_ne (pc := 63) (tgt := 70) d_X12_number_63 rfl (fun c63 => ?_) (fun c63 => ?_)
        · have c63b : 1 ≤ u54_120_8 ∧ u54_120_8 ≤ 5 := by omega
          replace c63 := hd_i c63
          refine Tr.iload_n (pc := 70) (i := 3) d_X12_number_70 rfl rfl ?_
          have kr_120_3 : rd M 120 3 = g120_3 := k54_120_3
          have kr_120_4 : rd M 120 4 = g120_4 := k54_120_4
          have kr_120_5 : rd M 120 5 = g120_5 := k54_120_5
          have kr_120_7 : rd M 120 7 = g120_7 := k54_120_7
          have kr_120_8 : rd M 120 8 = u54_120_8 := k54_120_8
          have kr_9010_0 : tav M = g9010_0 := k54_9010_0
          exact Tr.iret (pc := 71) d_X12_number_71 rfl ⟨hS, _, rfl, (by omega), (by omega), (by first | exact (hd_o hq0) | exact (hd_o hq0).elim (fun h1 => by omega) (fun h1 => by omega)), (by omega), (by first | exact (hd_o hq2) | exact (hd_o hq2).elim (fun h1 => by omega) (fun h1 => h1.elim (fun h1 => by omega) (fun h1 => by omega))), (by and_intros <;> omega), (by omega), (by omega), (by omega)⟩
        · refine Tr.aload_n (pc := 66) (i := 0) d_X12_number_66 rfl rfl ?_
          refine Tr.callV (pc := 67) (as := []) d_X12_number_67 s_12_396 ok_X12_next rfl rfl (Nat.le_of_ble_eq_true rfl) (Nat.le_of_ble_eq_true rfl) (by decide) (ty_120 hS.1.1) ?_
          refine Tr.imp (Tr.deep (by decide) (ns_X12_next_120_w1 (G120_3 := g120_3) (G120_5 := g120_5) (G120_8 := u54_120_8) (G9010_0 := g9010_0) hS.1 (k54_120_3) (k54_120_5) (k54_120_8) (k54_9010_0))) ?_
          rintro M67 _ ⟨h67, s67_120_3, s67_120_4, s67_120_5, s67_120_7, s67_120_8, s67_9010_0, es67_120_3, bs67_120_3, es67_120_4, bs67_120_4, es67_120_5, bs67_120_5, es67_120_7, bs67_120_7, es67_120_8, bs67_120_8, es67_9010_0, bs67_9010_0, rfl, z67_0, z67_1, z67_2, z67_3, z67_4, z67_5, z67_6⟩
          have hS := St.tr hS h67 (by decide) (by decide)
          refine Tr.sc [] rfl ?_
          refine Tr.iload_n (pc := 70) (i := 3) d_X12_number_70 rfl rfl ?_
          have kr_120_3 : rd M67 120 3 = s67_120_3 := es67_120_3
          have kr_120_4 : rd M67 120 4 = s67_120_4 := es67_120_4
          have kr_120_5 : rd M67 120 5 = s67_120_5 := es67_120_5
          have kr_120_7 : rd M67 120 7 = s67_120_7 := es67_120_7
          have kr_120_8 : rd M67 120 8 = s67_120_8 := es67_120_8
          have kr_9010_0 : tav M67 = s67_9010_0 := es67_9010_0
          exact Tr.iret (pc := 71) d_X12_number_71 rfl ⟨hS, _, rfl, (by omega), (by omega), (by first | exact (hd_o z67_0) | exact (hd_o z67_0).elim (fun h1 => by omega) (fun h1 => by omega)), (by omega), (by first | exact (hd_o z67_2) | exact (hd_o z67_2).elim (fun h1 => by omega) (fun h1 => h1.elim (fun h1 => by omega) (fun h1 => by omega))), (by and_intros <;> omega), (by omega), (by exact (hd_o t54_0).elim (fun h1 => (ne_o h1).elim (fun h2 => by omega) (fun h2 => by omega)) (fun h1 => (ne_o h1).elim (fun h2 => by omega) (fun h2 => (hd_o z67_5).elim (fun h3 => by omega) (fun h3 => by omega)))), (by exact (hd_o t54_2).elim (fun h1 => (ne_o h1).elim (fun h2 => by omega) (fun h2 => by omega)) (fun h1 => by omega))⟩
      refine Tr.if_ne (pc := 30) (tgt := 54) d_X12_number_30 rfl (fun c30 => ?_) (fun c30 => ?_)
      · have c30b : 1 ≤ u26_120_8 ∧ u26_120_8 ≤ 5 := by omega
        replace c30 := hd_i c30
        refine Tr.pick [0] (ls2 := [(0, (2, 120))]) rfl ?_
        exact J54 _ _ hS (by and_intros <;> omega) k26_120_3 k26_120_4 k26_120_5 k26_120_6 k26_120_7 k26_120_8 k26_9010_0 (by first | exact (hd_o t26_0) | exact (hd_o t26_0).elim (fun h1 => by omega) (fun h1 => by omega)) (by omega) (by omega)
      · refine Tr.aload_n (pc := 33) (i := 0) d_X12_number_33 rfl rfl ?_
        refine Tr.getf (pc := 34) d_X12_number_34 f_12_29 (by decide) (by decide) (ty_120 hS.1.1) ?_
        refine Tr.tp g120_6 k26_120_6 ?_
        refine Tr.iload_n (pc := 37) (i := 1) d_X12_number_37 rfl rfl ?_
        refine Tr.iload_n (pc := 38) (i := 2) d_X12_number_38 rfl rfl ?_
        refine Tr.callS (pc := 39) (as := [_, _, _]) d_X12_number_39 s_12_467 ok_X12_is rfl rfl (Nat.le_of_ble_eq_true rfl) (Nat.le_of_ble_eq_true rfl) ?_
        refine Tr.imp (Tr.deep (by decide) (sp_X12_is hS.1.wk g120_6 (by and_intros <;> omega) a1 (by and_intros <;> omega) a2 (by and_intros <;> omega))) ?_
        rintro M39 _ ⟨h39, r39, rfl, lr39, ur39, wr39⟩
        have h39 := St.rn h39 (Pm0.of hS.1.2.2.2.2 (fun _ => (ka_X12_is_131 h39 _)) (fun _ => (ka_X12_is_137 h39 _)) (fun _ => (ka_X12_is_138 h39 _)) (fun _ => (ka_X12_is_139 h39 _)) (fun _ => (ka_X12_is_140 h39 _)) (fun _ => (ka_X12_is_141 h39 _)) (fun _ => (ka_X12_is_142 h39 _)) (fun _ => (ka_X12_is_143 h39 _)) (fun _ => (ka_X12_is_151 h39 _)) (fun _ => (ka_X12_is_152 h39 _)) (kp_X12_is_126_0 h39) (kp_X12_is_126_1 h39) (kp_X12_is_136_0 h39) (kp_X12_is_136_1 h39) (kp_X12_is_123_0 h39) (kp_X12_is_123_1 h39) (kp_X12_is_124_0 h39) (kp_X12_is_124_1 h39) (kp_X12_is_120_8 h39) (kp_X12_is_120_36 h39) (kp_X12_is_120_50 h39))
        have hS := St.tr hS h39 (by decide) (by decide)
        replace wr39 := hd_i wr39
        refine Tr.sc [(0, r39)] rfl ?_
        refine Tr.if_ne (pc := 42) (tgt := 54) d_X12_number_42 rfl (fun c42 => ?_) (fun c42 => ?_)
        · have c42b : 1 ≤ r39 ∧ r39 ≤ 1 := by omega
          replace c42 := hd_i c42
          refine Tr.pick [0] (ls2 := [(0, (2, 120))]) rfl ?_
          exact J54 _ _ hS (by and_intros <;> omega) ((kp_X12_is_120_3 h39).trans k26_120_3) ((kp_X12_is_120_4 h39).trans k26_120_4) ((kp_X12_is_120_5 h39).trans k26_120_5) ((kp_X12_is_120_6 h39).trans k26_120_6) ((kp_X12_is_120_7 h39).trans k26_120_7) ((kp_X12_is_120_8 h39).trans k26_120_8) ((tav_of ((kp_X12_is_120_5 h39).trans rfl) ((kp_X12_is_120_3 h39).trans rfl)).trans k26_9010_0) (by first | exact (hd_o t26_0) | exact (hd_o t26_0).elim (fun h1 => by omega) (fun h1 => by omega)) (by omega) (by exact (hd_o wr39).elim (fun h1 => by omega) (fun h1 => by omega))
        · refine Tr.aload_n (pc := 45) (i := 0) d_X12_number_45 rfl rfl ?_
          refine Tr.iconst (pc := 46) d_X12_number_46 (by decide) ?_
          refine Tr.aload_n (pc := 47) (i := 0) d_X12_number_47 rfl rfl ?_
          refine Tr.getf (pc := 48) d_X12_number_48 f_12_23 (by decide) (by decide) (ty_120 hS.1.1) ?_
          refine Tr.tp g120_4 ((kp_X12_is_120_4 h39).trans k26_120_4) ?_
          refine Tr.callV (pc := 51) (as := [_, _]) d_X12_number_51 s_12_389 ok_X12_blame rfl rfl (Nat.le_of_ble_eq_true rfl) (Nat.le_of_ble_eq_true rfl) (by decide) (ty_120 hS.1.1) ?_
          refine Tr.imp (Tr.deep (by decide) (ns_X12_blame_120_w1 (G120_8 := u26_120_8) hS.1 (((kp_X12_is_120_8 h39).trans k26_120_8)) 4 (by omega) g120_4 (by and_intros <;> omega))) ?_
          rintro M51 _ ⟨h51, s51_120_8, es51_120_8, bs51_120_8, rfl, z51_0⟩
          have hS := St.tr hS h51 (by decide) (by decide)
          refine Tr.sc [] rfl ?_
          refine Tr.pick [0] (ls2 := [(0, (2, 120))]) rfl ?_
          exact J54 _ _ hS (by and_intros <;> omega) ((kp_X12_blame_120_w1_120_3 h51).trans ((kp_X12_is_120_3 h39).trans k26_120_3)) ((kp_X12_blame_120_w1_120_4 h51).trans ((kp_X12_is_120_4 h39).trans k26_120_4)) ((kp_X12_blame_120_w1_120_5 h51).trans ((kp_X12_is_120_5 h39).trans k26_120_5)) ((kp_X12_blame_120_w1_120_6 h51).trans ((kp_X12_is_120_6 h39).trans k26_120_6)) ((kp_X12_blame_120_w1_120_7 h51).trans ((kp_X12_is_120_7 h39).trans k26_120_7)) es51_120_8 ((tav_of ((kp_X12_blame_120_w1_120_5 h51).trans ((kp_X12_is_120_5 h39).trans rfl)) ((kp_X12_blame_120_w1_120_3 h51).trans ((kp_X12_is_120_3 h39).trans rfl))).trans k26_9010_0) (by exact (hd_o z51_0).elim (fun h1 => by omega) (fun h1 => by omega)) (by omega) (by exact (hd_o z51_0).elim (fun h1 => by omega) (fun h1 => by omega))
    refine Tr.icmp_eq (pc := 14) (tgt := 26) d_X12_number_14 rfl (fun c14 => ?_) (fun c14 => ?_)
    · refine Tr.pick [0, 1, 2] (ls2 := [(0, (2, 120)), (1, (0, a1)), (2, (0, a2))]) rfl ?_
      exact J26 _ _ hS (by and_intros <;> omega) eg120_3 eg120_4 eg120_5 eg120_6 eg120_7 eg120_8 eg9010_0 (by omega) (by omega)
    · replace c14 := hd_i c14
      refine Tr.aload_n (pc := 17) (i := 0) d_X12_number_17 rfl rfl ?_
      refine Tr.iconst (pc := 18) d_X12_number_18 (by decide) ?_
      refine Tr.aload_n (pc := 19) (i := 0) d_X12_number_19 rfl rfl ?_
      refine Tr.getf (pc := 20) d_X12_number_20 f_12_23 (by decide) (by decide) (ty_120 hS.1.1) ?_
      refine Tr.tp g120_4 eg120_4 ?_
      refine Tr.callV (pc := 23) (as := [_, _]) d_X12_number_23 s_12_389 ok_X12_blame rfl rfl (Nat.le_of_ble_eq_true rfl) (Nat.le_of_ble_eq_true rfl) (by decide) (ty_120 hS.1.1) ?_
      refine Tr.imp (Tr.deep (by decide) (ns_X12_blame_120_w1 (G120_8 := g120_8) hS.1 (eg120_8) 1 (by omega) g120_4 (by and_intros <;> omega))) ?_
      rintro M23 _ ⟨h23, s23_120_8, es23_120_8, bs23_120_8, rfl, z23_0⟩
      have hS := St.tr hS h23 (by decide) (by decide)
      refine Tr.sc [] rfl ?_
      refine Tr.pick [0, 1, 2] (ls2 := [(0, (2, 120)), (1, (0, a1)), (2, (0, a2))]) rfl ?_
      exact J26 _ _ hS (by and_intros <;> omega) ((kp_X12_blame_120_w1_120_3 h23).trans eg120_3) ((kp_X12_blame_120_w1_120_4 h23).trans eg120_4) ((kp_X12_blame_120_w1_120_5 h23).trans eg120_5) ((kp_X12_blame_120_w1_120_6 h23).trans eg120_6) ((kp_X12_blame_120_w1_120_7 h23).trans eg120_7) es23_120_8 ((tav_of ((kp_X12_blame_120_w1_120_5 h23).trans rfl) ((kp_X12_blame_120_w1_120_3 h23).trans rfl)).trans eg9010_0) (by exact (hd_o z23_0).elim (fun h1 => by omega) (fun h1 => by omega)) (by omega)
  · refine Tr.iconst (pc := 7) d_X12_number_7 (by decide) ?_
    have kr_120_3 : rd M0 120 3 = g120_3 := eg120_3
    have kr_120_4 : rd M0 120 4 = g120_4 := eg120_4
    have kr_120_5 : rd M0 120 5 = g120_5 := eg120_5
    have kr_120_7 : rd M0 120 7 = g120_7 := eg120_7
    have kr_120_8 : rd M0 120 8 = g120_8 := eg120_8
    have kr_9010_0 : tav M0 = g9010_0 := eg9010_0
    exact Tr.iret (pc := 8) d_X12_number_8 rfl ⟨hS, _, rfl, by omega, by omega, (by first | exact (hd_o hq0) | exact (hd_o hq0).elim (fun h1 => by omega) (fun h1 => by omega)), (by omega), (by first | exact (hd_o hq2) | exact (hd_o hq2).elim (fun h1 => by omega) (fun h1 => h1.elim (fun h1 => by omega) (fun h1 => by omega))), (by and_intros <;> omega), (by omega), (by omega), (by omega)⟩

set_option maxRecDepth 100000 in
set_option maxHeartbeats 4000000 in
theorem ns_X12_number_120_w1 {l : Launch} {K : EC} {M0 : Mem} {G120_3 G120_4 G120_5 G120_7 G120_8 G9010_0 : Int} (hI : In Pm0 M0) (k120_3 : rd M0 120 3 = G120_3) (k120_4 : rd M0 120 4 = G120_4) (k120_5 : rd M0 120 5 = G120_5) (k120_7 : rd M0 120 7 = G120_7) (k120_8 : rd M0 120 8 = G120_8) (k9010_0 : tav M0 = G9010_0)  (a1 : Int) (ha1 : (-2147483648) ≤ a1 ∧ a1 ≤ 2147483647) (a2 : Int) (ha2 : 0 ≤ a2 ∧ a2 ≤ 999)  (hq0 : G120_3 = 0 ∨ G120_4 + 1 ≤ G120_5) (hq1 : G120_4 ≤ G120_5) (hq2 : G120_3 ≠ 1 ∨ G120_4 + 2 ≤ G120_5 ∨ G120_7 < 256) : Tr l K 2 mX12_number 0 [(0, (2, 120)), (1, (0, a1)), (2, (0, a2))] [] M0 (fun M' r => St Pm0 ws_X12_number_120_w1 as_X12_number_120_w1 M0 M' ∧ ∃ S120_3 S120_4 S120_5 S120_7 S120_8 S9010_0 : Int, rd M' 120 3 = S120_3 ∧ (0 ≤ S120_3 ∧ S120_3 ≤ 3) ∧ rd M' 120 4 = S120_4 ∧ (0 ≤ S120_4 ∧ S120_4 ≤ 900) ∧ rd M' 120 5 = S120_5 ∧ (0 ≤ S120_5 ∧ S120_5 ≤ 900) ∧ rd M' 120 7 = S120_7 ∧ ((-9223372036854775808) ≤ S120_7 ∧ S120_7 ≤ 9223372036854775807) ∧ rd M' 120 8 = S120_8 ∧ (0 ≤ S120_8 ∧ S120_8 ≤ 5) ∧ tav M' = S9010_0 ∧ ((-1) ≤ S9010_0 ∧ S9010_0 ≤ 1800) ∧ ∃ v : Int, r = some (0, v) ∧ (-2147483648) ≤ v ∧ v ≤ 2147483647 ∧ Hd (S120_3 = 0 ∨ S120_4 + 1 ≤ S120_5) ∧ (S120_4 ≤ S120_5) ∧ Hd (S120_3 ≠ 1 ∨ S120_4 + 2 ≤ S120_5 ∨ S120_7 < 256) ∧ (G120_4 ≤ S120_4 ∧ G120_5 ≤ S120_5 ∧ G9010_0 ≤ S9010_0) ∧ Hd (G120_8 = 0 ∨ S120_8 = G120_8) ∧ Hd (1 ≤ S120_8 ∨ G9010_0 < S9010_0) ∧ Hd (1 ≤ S120_8 ∨ (a1 ≤ v ∧ v ≤ a2))) := by
  subst k120_3
  subst k120_4
  subst k120_5
  subst k120_7
  subst k120_8
  subst k9010_0
  refine Tr.imp (sp_X12_number_120_w1 hI a1 ha1 a2 ha2 hq0 hq1 hq2) ?_
  rintro M' _ ⟨hS, v, rfl, lr, ur, z0, z1, z2, z3, z4, z5, z6⟩
  exact ⟨hS, _, _, _, _, _, _, rfl, ir_120_3 hS.1.2.1, rfl, ir_120_4 hS.1.2.1, rfl, ir_120_5 hS.1.2.1, rfl, ir_120_7 hS.1.2.1, rfl, ir_120_8 hS.1.2.1, rfl, (tav_b hS.1.2.1), v, rfl, lr, ur, hd_i z0, z1, hd_i z2, z3, hd_i z4, hd_i z5, hd_i z6⟩

def ws_X12_input_120_w1 : List (Int × Int) := [(120, 3), (120, 4), (120, 5), (120, 6), (120, 7), (120, 8), (120, 9), (127, 0)]
def as_X12_input_120_w1 : List Int := [132, 133, 134]
def q_X12_input_120_w1 (M0 M' : Mem) (r : Option PV) : Prop := St Pm0 ws_X12_input_120_w1 as_X12_input_120_w1 M0 M' ∧ r = none ∧ (rd M' 120 3 = 0 ∨ rd M' 120 4 + 1 ≤ rd M' 120 5) ∧ (rd M' 120 4 ≤ rd M' 120 5) ∧ (rd M' 120 3 ≠ 1 ∨ rd M' 120 4 + 2 ≤ rd M' 120 5 ∨ rd M' 120 7 < 256) ∧ (rd M0 120 4 ≤ rd M' 120 4 ∧ rd M0 120 5 ≤ rd M' 120 5 ∧ tav M0 ≤ tav M') ∧ (rd M0 120 8 = 0 ∨ rd M' 120 8 = rd M0 120 8) ∧ (1 ≤ rd M' 120 8 ∨ tav M0 < tav M')
theorem kp_X12_input_120_w1_120_37 {q : Mem → Prop} {M0 M : Mem} (h : St q ws_X12_input_120_w1 as_X12_input_120_w1 M0 M) : rd M 120 37 = rd M0 120 37 := St.kp h (by decide) (by decide) (by decide)
theorem kp_X12_counts_120_w1_127_0 {q : Mem → Prop} {M0 M : Mem} (h : St q ws_X12_counts_120_w1 as_X12_counts_120_w1 M0 M) : rd M 127 0 = rd M0 127 0 := St.kp h (by decide) (by decide) (by decide)
theorem kp_X12_fresh_120_w1_127_0 {q : Mem → Prop} {M0 M : Mem} (h : St q ws_X12_fresh_120_w1 as_X12_fresh_120_w1 M0 M) : rd M 127 0 = rd M0 127 0 := St.kp h (by decide) (by decide) (by decide)
theorem kp_X12_number_120_w1_127_0 {q : Mem → Prop} {M0 M : Mem} (h : St q ws_X12_number_120_w1 as_X12_number_120_w1 M0 M) : rd M 127 0 = rd M0 127 0 := St.kp h (by decide) (by decide) (by decide)
set_option maxRecDepth 100000 in
set_option maxHeartbeats 4000000 in
theorem sp_X12_input_120_w1 {l : Launch} {K : EC} {M0 : Mem} (hI : In Pm0 M0) (en_120_37 : rd M0 120 37 = 0)   (hq0 : rd M0 120 3 = 0 ∨ rd M0 120 4 + 1 ≤ rd M0 120 5) (hq1 : rd M0 120 4 ≤ rd M0 120 5) (hq2 : rd M0 120 3 ≠ 1 ∨ rd M0 120 4 + 2 ≤ rd M0 120 5 ∨ rd M0 120 7 < 256) (hq3 : rd M0 120 3 ≠ 0) (hq4 : rd M0 120 8 = 0) : Tr l K 3 mX12_input 0 [(0, (2, 120))] [] M0 (q_X12_input_120_w1 M0) := by
  have hS : St Pm0 ws_X12_input_120_w1 as_X12_input_120_w1 M0 M0 := St.rf hI
  obtain ⟨g120_8, eg120_8⟩ : ∃ v, rd M0 120 8 = v := ⟨_, rfl⟩
  have bg120_8 : 0 ≤ g120_8 ∧ g120_8 ≤ 5 := by rw [← eg120_8]; exact ir_120_8 hI.2.1
  obtain ⟨g120_3, eg120_3⟩ : ∃ v, rd M0 120 3 = v := ⟨_, rfl⟩
  have bg120_3 : 0 ≤ g120_3 ∧ g120_3 ≤ 3 := by rw [← eg120_3]; exact ir_120_3 hI.2.1
  obtain ⟨g120_4, eg120_4⟩ : ∃ v, rd M0 120 4 = v := ⟨_, rfl⟩
  have bg120_4 : 0 ≤ g120_4 ∧ g120_4 ≤ 900 := by rw [← eg120_4]; exact ir_120_4 hI.2.1
  obtain ⟨g120_5, eg120_5⟩ : ∃ v, rd M0 120 5 = v := ⟨_, rfl⟩
  have bg120_5 : 0 ≤ g120_5 ∧ g120_5 ≤ 900 := by rw [← eg120_5]; exact ir_120_5 hI.2.1
  obtain ⟨g120_7, eg120_7⟩ : ∃ v, rd M0 120 7 = v := ⟨_, rfl⟩
  have bg120_7 : (-9223372036854775808) ≤ g120_7 ∧ g120_7 ≤ 9223372036854775807 := by rw [← eg120_7]; exact ir_120_7 hI.2.1
  obtain ⟨g9010_0, eg9010_0⟩ : ∃ v, tav M0 = v := ⟨_, rfl⟩
  have bg9010_0 : (-1) ≤ g9010_0 ∧ g9010_0 ≤ 1800 := by rw [← eg9010_0]; exact (tav_b hI.2.1)
  obtain ⟨g127_0, eg127_0⟩ : ∃ v, rd M0 127 0 = v := ⟨_, rfl⟩
  have bg127_0 : 0 ≤ g127_0 ∧ g127_0 ≤ 3 := by rw [← eg127_0]; exact ir_127_0 hI.2.1
  replace hq0 := hd_i hq0
  replace hq2 := hd_i hq2
  replace hq3 := hd_i hq3
  refine Tr.aload_n (pc := 0) (i := 0) d_X12_input_0 rfl rfl ?_
  refine Tr.aload_n (pc := 1) (i := 0) d_X12_input_1 rfl rfl ?_
  refine Tr.getf (pc := 2) d_X12_input_2 f_12_66 (by decide) (by decide) (ty_120 hS.1.1) ?_
  refine Tr.tp 127 (fx_120_18 hS.1.1) ?_
  refine Tr.aload_n (pc := 5) (i := 0) d_X12_input_5 rfl rfl ?_
  refine Tr.getf (pc := 6) d_X12_input_6 f_12_124 (by decide) (by decide) (ty_120 hS.1.1) ?_
  refine Tr.tp 0 ((kp_X12_input_120_w1_120_37 hS).trans en_120_37) ?_
  refine Tr.iald (pc := 9) d_X12_input_9 (ty_127 hS.1.1) (by omega) (by omega) ?_
  refine Tr.tp g127_0 eg127_0 ?_
  refine Tr.iconst (pc := 10) d_X12_input_10 (by decide) ?_
  have J19 : ∀ (M : Mem) (q19_1 : Int), St Pm0 ws_X12_input_120_w1 as_X12_input_120_w1 M0 M → (0 ≤ q19_1 ∧ q19_1 ≤ 1) → rd M 120 3 = g120_3 → rd M 120 4 = g120_4 → rd M 120 5 = g120_5 → rd M 120 7 = g120_7 → rd M 120 8 = g120_8 → rd M 127 0 = g127_0 → tav M = g9010_0 → ((q19_1 = 1 ∧ g127_0 = 3) ∨ (q19_1 = 0 ∧ g127_0 ≠ 3)) → Tr l K 3 mX12_input 19 [(0, (2, 120))] [(0, q19_1), (2, 120)] M (q_X12_input_120_w1 M0) := by
    intro M q19_1 hS bq19_1 k19_120_3 k19_120_4 k19_120_5 k19_120_7 k19_120_8 k19_127_0 k19_9010_0 t19_0
    replace t19_0 := hd_i t19_0
    refine Tr.callV (pc := 19) (as := [_]) d_X12_input_19 s_12_505 ok_X12_counts rfl rfl (Nat.le_of_ble_eq_true rfl) (Nat.le_of_ble_eq_true rfl) (by decide) (ty_120 hS.1.1) ?_
    refine Tr.imp (Tr.deep (by decide) (ns_X12_counts_120_w1 (G120_3 := g120_3) (G120_4 := g120_4) (G120_5 := g120_5) (G120_7 := g120_7) (G120_8 := g120_8) (G9010_0 := g9010_0) hS.1 (k19_120_3) (k19_120_4) (k19_120_5) (k19_120_7) (k19_120_8) (k19_9010_0) q19_1 (by and_intros <;> omega) (by first | exact (hd_o hq0) | exact (hd_o hq0).elim (fun h1 => by omega) (fun h1 => by omega)) (by omega) (by first | exact (hd_o hq2) | exact (hd_o hq2).elim (fun h1 => by omega) (fun h1 => h1.elim (fun h1 => by omega) (fun h1 => by omega))) (by have h1 := (hd_o hq3); omega))) ?_
    rintro M19 _ ⟨h19, s19_120_3, s19_120_4, s19_120_5, s19_120_7, s19_120_8, s19_9010_0, es19_120_3, bs19_120_3, es19_120_4, bs19_120_4, es19_120_5, bs19_120_5, es19_120_7, bs19_120_7, es19_120_8, bs19_120_8, es19_9010_0, bs19_9010_0, rfl, z19_0, z19_1, z19_2, z19_3, z19_4, z19_5, z19_6⟩
    have hS := St.tr hS h19 (by decide) (by decide)
    refine Tr.sc [] rfl ?_
    refine Tr.aload_n (pc := 22) (i := 0) d_X12_input_22 rfl rfl ?_
    refine Tr.getf (pc := 23) d_X12_input_23 f_12_36 (by decide) (by decide) (ty_120 hS.1.1) ?_
    refine Tr.tp s19_120_8 es19_120_8 ?_
    refine Tr.if_le (pc := 26) (tgt := 30) d_X12_input_26 rfl (fun c26 => ?_) (fun c26 => ?_)
    · refine Tr.iconst (pc := 30) d_X12_input_30 (by decide) ?_
      refine Tr.aload_n (pc := 31) (i := 0) d_X12_input_31 rfl rfl ?_
      refine Tr.getf (pc := 32) d_X12_input_32 f_12_124 (by decide) (by decide) (ty_120 hS.1.1) ?_
      refine Tr.tp 0 ((kp_X12_input_120_w1_120_37 hS).trans en_120_37) ?_
      refine Tr.imul (pc := 35) d_X12_input_35 ?_
      refine Tr.tp 0 (by decide) ?_
      refine Tr.aload_n (pc := 36) (i := 0) d_X12_input_36 rfl rfl ?_
      refine Tr.getf (pc := 37) d_X12_input_37 f_12_66 (by decide) (by decide) (ty_120 hS.1.1) ?_
      refine Tr.tp 127 (fx_120_18 hS.1.1) ?_
      refine Tr.aload_n (pc := 40) (i := 0) d_X12_input_40 rfl rfl ?_
      refine Tr.getf (pc := 41) d_X12_input_41 f_12_124 (by decide) (by decide) (ty_120 hS.1.1) ?_
      refine Tr.tp 0 ((kp_X12_input_120_w1_120_37 hS).trans en_120_37) ?_
      refine Tr.iald (pc := 44) d_X12_input_44 (ty_127 hS.1.1) (by omega) (by omega) ?_
      refine Tr.tp g127_0 ((kp_X12_counts_120_w1_127_0 h19).trans k19_127_0) ?_
      refine Tr.iadd (pc := 45) d_X12_input_45 ?_
      refine Tr.tp g127_0 ((w32_id (by and_intros <;> omega)).trans (by omega)) ?_
      refine Tr.istore_n (pc := 46) (i := 1) (ls2 := [(1, (0, g127_0)), (0, (2, 120))]) d_X12_input_46 rfl (by decide) rfl ?_
      refine Tr.aload_n (pc := 47) (i := 0) d_X12_input_47 rfl rfl ?_
      refine Tr.getf (pc := 48) d_X12_input_48 f_12_82 (by decide) (by decide) (ty_120 hS.1.1) ?_
      refine Tr.tp 132 (fx_120_23 hS.1.1) ?_
      refine Tr.iload_n (pc := 51) (i := 1) d_X12_input_51 rfl rfl ?_
      refine Tr.aload_n (pc := 52) (i := 0) d_X12_input_52 rfl rfl ?_
      refine Tr.callV (pc := 53) (as := []) d_X12_input_53 s_12_508 ok_X12_fresh rfl rfl (Nat.le_of_ble_eq_true rfl) (Nat.le_of_ble_eq_true rfl) (by decide) (ty_120 hS.1.1) ?_
      refine Tr.imp (Tr.deep (by decide) (ns_X12_fresh_120_w1 (G120_3 := s19_120_3) (G120_4 := s19_120_4) (G120_5 := s19_120_5) (G120_7 := s19_120_7) (G120_8 := s19_120_8) (G9010_0 := s19_9010_0) hS.1 (es19_120_3) (es19_120_4) (es19_120_5) (es19_120_7) (es19_120_8) (es19_9010_0) ((kp_X12_input_120_w1_120_37 hS).trans en_120_37) (by first | exact (hd_o z19_0) | exact (hd_o z19_0).elim (fun h1 => by omega) (fun h1 => by omega)) (by omega) (by first | exact (hd_o z19_2) | exact (hd_o z19_2).elim (fun h1 => by omega) (fun h1 => h1.elim (fun h1 => by omega) (fun h1 => by omega))))) ?_
      rintro M53 _ ⟨h53, s53_120_3, s53_120_4, s53_120_5, s53_120_7, s53_120_8, s53_9010_0, es53_120_3, bs53_120_3, es53_120_4, bs53_120_4, es53_120_5, bs53_120_5, es53_120_7, bs53_120_7, es53_120_8, bs53_120_8, es53_9010_0, bs53_9010_0, r53, rfl, lr53, ur53, z53_0, z53_1, z53_2, z53_3, z53_4, z53_5⟩
      have hS := St.tr hS h53 (by decide) (by decide)
      refine Tr.sc [(1, r53), (0, g127_0), (2, 132)] rfl ?_
      refine Tr.lastS (pc := 56) (P := St Pm0 ws_X12_input_120_w1 as_X12_input_120_w1 M0) d_X12_input_56 (ty_132 hS.1.1) (by omega) (by omega) (sa_132 hS (by decide) (by omega) (Pm0.of hS.1.2.2.2.2 (fun _ => rd_wb _ rfl) (fun _ => rd_wb _ rfl) (fun _ => rd_wb _ rfl) (fun _ => rd_wb _ rfl) (fun _ => rd_wb _ rfl) (fun _ => rd_wb _ rfl) (fun _ => rd_wb _ rfl) (fun _ => rd_wb _ rfl) (fun _ => rd_wb _ rfl) (fun _ => rd_wb _ rfl) (rd_wb _ rfl) (rd_wb _ rfl) (rd_wb _ rfl) (rd_wb _ rfl) (rd_wb _ rfl) (rd_wb _ rfl) (rd_wb _ rfl) (rd_wb _ rfl) (rd_wb _ rfl) (rd_wb _ rfl) (rd_wb _ rfl))) (fun M56 hS w56 => ?_)
      refine Tr.aload_n (pc := 57) (i := 0) d_X12_input_57 rfl rfl ?_
      refine Tr.getf (pc := 58) d_X12_input_58 f_12_85 (by decide) (by decide) (ty_120 hS.1.1) ?_
      refine Tr.tp 133 (fx_120_24 hS.1.1) ?_
      refine Tr.iload_n (pc := 61) (i := 1) d_X12_input_61 rfl rfl ?_
      refine Tr.aload_n (pc := 62) (i := 0) d_X12_input_62 rfl rfl ?_
      refine Tr.iconst (pc := 63) d_X12_input_63 (by decide) ?_
      refine Tr.bipush (pc := 64) d_X12_input_64 rfl (by decide) ?_
      refine Tr.callV (pc := 66) (as := [_, _]) d_X12_input_66 s_12_516 ok_X12_number rfl rfl (Nat.le_of_ble_eq_true rfl) (Nat.le_of_ble_eq_true rfl) (by decide) (ty_120 hS.1.1) ?_
      refine Tr.imp (Tr.deep (by decide) (ns_X12_number_120_w1 (G120_3 := s53_120_3) (G120_4 := s53_120_4) (G120_5 := s53_120_5) (G120_7 := s53_120_7) (G120_8 := s53_120_8) (G9010_0 := s53_9010_0) hS.1 (((Wr.b w56 rfl).trans es53_120_3)) (((Wr.b w56 rfl).trans es53_120_4)) (((Wr.b w56 rfl).trans es53_120_5)) (((Wr.b w56 rfl).trans es53_120_7)) (((Wr.b w56 rfl).trans es53_120_8)) (((tav_of ((Wr.b w56 rfl).trans rfl) ((Wr.b w56 rfl).trans rfl)).trans es53_9010_0)) 0 (by omega) 99 (by omega) (by first | exact (hd_o z53_0) | exact (hd_o z53_0).elim (fun h1 => by omega) (fun h1 => by omega)) (by omega) (by first | exact (hd_o z53_2) | exact (hd_o z53_2).elim (fun h1 => by omega) (fun h1 => h1.elim (fun h1 => by omega) (fun h1 => by omega))))) ?_
      rintro M66 _ ⟨h66, s66_120_3, s66_120_4, s66_120_5, s66_120_7, s66_120_8, s66_9010_0, es66_120_3, bs66_120_3, es66_120_4, bs66_120_4, es66_120_5, bs66_120_5, es66_120_7, bs66_120_7, es66_120_8, bs66_120_8, es66_9010_0, bs66_9010_0, r66, rfl, lr66, ur66, z66_0, z66_1, z66_2, z66_3, z66_4, z66_5, z66_6⟩
      have hS := St.tr hS h66 (by decide) (by decide)
      refine Tr.sc [(0, r66), (0, g127_0), (2, 133)] rfl ?_
      refine Tr.iastS (pc := 69) (P := St Pm0 ws_X12_input_120_w1 as_X12_input_120_w1 M0) d_X12_input_69 (ty_133 hS.1.1) (by omega) (by omega) (sa_133 hS (by decide) (by and_intros <;> omega) (Pm0.of hS.1.2.2.2.2 (fun _ => rd_wb _ rfl) (fun _ => rd_wb _ rfl) (fun _ => rd_wb _ rfl) (fun _ => rd_wb _ rfl) (fun _ => rd_wb _ rfl) (fun _ => rd_wb _ rfl) (fun _ => rd_wb _ rfl) (fun _ => rd_wb _ rfl) (fun _ => rd_wb _ rfl) (fun _ => rd_wb _ rfl) (rd_wb _ rfl) (rd_wb _ rfl) (rd_wb _ rfl) (rd_wb _ rfl) (rd_wb _ rfl) (rd_wb _ rfl) (rd_wb _ rfl) (rd_wb _ rfl) (rd_wb _ rfl) (rd_wb _ rfl) (rd_wb _ rfl))) (fun M69 hS w69 => ?_)
      refine Tr.aload_n (pc := 70) (i := 0) d_X12_input_70 rfl rfl ?_
      refine Tr.getf (pc := 71) d_X12_input_71 f_12_88 (by decide) (by decide) (ty_120 hS.1.1) ?_
      refine Tr.tp 134 (fx_120_25 hS.1.1) ?_
      refine Tr.iload_n (pc := 74) (i := 1) d_X12_input_74 rfl rfl ?_
      refine Tr.aload_n (pc := 75) (i := 0) d_X12_input_75 rfl rfl ?_
      refine Tr.aload_n (pc := 76) (i := 0) d_X12_input_76 rfl rfl ?_
      refine Tr.getf (pc := 77) d_X12_input_77 f_12_85 (by decide) (by decide) (ty_120 hS.1.1) ?_
      refine Tr.tp 133 (fx_120_24 hS.1.1) ?_
      refine Tr.iload_n (pc := 80) (i := 1) d_X12_input_80 rfl rfl ?_
      refine Tr.iald (pc := 81) d_X12_input_81 (ty_133 hS.1.1) (by omega) (by omega) ?_
      refine Tr.tp r66 w69.1 ?_
      refine Tr.bipush (pc := 82) d_X12_input_82 rfl (by decide) ?_
      refine Tr.callV (pc := 84) (as := [_, _]) d_X12_input_84 s_12_516 ok_X12_number rfl rfl (Nat.le_of_ble_eq_true rfl) (Nat.le_of_ble_eq_true rfl) (by decide) (ty_120 hS.1.1) ?_
      refine Tr.imp (Tr.deep (by decide) (ns_X12_number_120_w1 (G120_3 := s66_120_3) (G120_4 := s66_120_4) (G120_5 := s66_120_5) (G120_7 := s66_120_7) (G120_8 := s66_120_8) (G9010_0 := s66_9010_0) hS.1 (((Wr.b w69 rfl).trans es66_120_3)) (((Wr.b w69 rfl).trans es66_120_4)) (((Wr.b w69 rfl).trans es66_120_5)) (((Wr.b w69 rfl).trans es66_120_7)) (((Wr.b w69 rfl).trans es66_120_8)) (((tav_of ((Wr.b w69 rfl).trans rfl) ((Wr.b w69 rfl).trans rfl)).trans es66_9010_0)) r66 (by and_intros <;> omega) 99 (by omega) (by first | exact (hd_o z66_0) | exact (hd_o z66_0).elim (fun h1 => by omega) (fun h1 => by omega)) (by omega) (by first | exact (hd_o z66_2) | exact (hd_o z66_2).elim (fun h1 => by omega) (fun h1 => h1.elim (fun h1 => by omega) (fun h1 => by omega))))) ?_
      rintro M84 _ ⟨h84, s84_120_3, s84_120_4, s84_120_5, s84_120_7, s84_120_8, s84_9010_0, es84_120_3, bs84_120_3, es84_120_4, bs84_120_4, es84_120_5, bs84_120_5, es84_120_7, bs84_120_7, es84_120_8, bs84_120_8, es84_9010_0, bs84_9010_0, r84, rfl, lr84, ur84, z84_0, z84_1, z84_2, z84_3, z84_4, z84_5, z84_6⟩
      have hS := St.tr hS h84 (by decide) (by decide)
      refine Tr.sc [(0, r84), (0, g127_0), (2, 134)] rfl ?_
      refine Tr.iastS (pc := 87) (P := St Pm0 ws_X12_input_120_w1 as_X12_input_120_w1 M0) d_X12_input_87 (ty_134 hS.1.1) (by omega) (by omega) (sa_134 hS (by decide) (by and_intros <;> omega) (Pm0.of hS.1.2.2.2.2 (fun _ => rd_wb _ rfl) (fun _ => rd_wb _ rfl) (fun _ => rd_wb _ rfl) (fun _ => rd_wb _ rfl) (fun _ => rd_wb _ rfl) (fun _ => rd_wb _ rfl) (fun _ => rd_wb _ rfl) (fun _ => rd_wb _ rfl) (fun _ => rd_wb _ rfl) (fun _ => rd_wb _ rfl) (rd_wb _ rfl) (rd_wb _ rfl) (rd_wb _ rfl) (rd_wb _ rfl) (rd_wb _ rfl) (rd_wb _ rfl) (rd_wb _ rfl) (rd_wb _ rfl) (rd_wb _ rfl) (rd_wb _ rfl) (rd_wb _ rfl))) (fun M87 hS w87 => ?_)
      refine Tr.aload_n (pc := 88) (i := 0) d_X12_input_88 rfl rfl ?_
      refine Tr.getf (pc := 89) d_X12_input_89 f_12_36 (by decide) (by decide) (ty_120 hS.1.1) ?_
      refine Tr.tp s84_120_8 ((Wr.b w87 rfl).trans es84_120_8) ?_
      refine Tr.if_ne (pc := 92) (tgt := 108) d_X12_input_92 rfl (fun c92 => ?_) (fun c92 => ?_)
      · have c92b : 1 ≤ s84_120_8 ∧ s84_120_8 ≤ 5 := by omega
        replace c92 := hd_i c92
        have kr_120_3 : rd M87 120 3 = s84_120_3 := ((Wr.b w87 rfl).trans es84_120_3)
        have kr_120_4 : rd M87 120 4 = s84_120_4 := ((Wr.b w87 rfl).trans es84_120_4)
        have kr_120_5 : rd M87 120 5 = s84_120_5 := ((Wr.b w87 rfl).trans es84_120_5)
        have kr_120_7 : rd M87 120 7 = s84_120_7 := ((Wr.b w87 rfl).trans es84_120_7)
        have kr_120_8 : rd M87 120 8 = s84_120_8 := ((Wr.b w87 rfl).trans es84_120_8)
        have kr_9010_0 : tav M87 = s84_9010_0 := ((tav_of ((Wr.b w87 rfl).trans rfl) ((Wr.b w87 rfl).trans rfl)).trans es84_9010_0)
        exact Tr.vret (pc := 108) d_X12_input_108 rfl ⟨hS, rfl, (by first | exact (hd_o z84_0) | exact (hd_o z84_0).elim (fun h1 => by omega) (fun h1 => by omega)), (by omega), (by first | exact (hd_o z84_2) | exact (hd_o z84_2).elim (fun h1 => by omega) (fun h1 => h1.elim (fun h1 => by omega) (fun h1 => by omega))), (by and_intros <;> omega), (by omega), (by omega)⟩
      · refine Tr.aload_n (pc := 95) (i := 0) d_X12_input_95 rfl rfl ?_
        refine Tr.getf (pc := 96) d_X12_input_96 f_12_66 (by decide) (by decide) (ty_120 hS.1.1) ?_
        refine Tr.tp 127 (fx_120_18 hS.1.1) ?_
        refine Tr.aload_n (pc := 99) (i := 0) d_X12_input_99 rfl rfl ?_
        refine Tr.getf (pc := 100) d_X12_input_100 f_12_124 (by decide) (by decide) (ty_120 hS.1.1) ?_
        refine Tr.tp 0 ((kp_X12_input_120_w1_120_37 hS).trans en_120_37) ?_
        refine Tr.dup2 (pc := 103) d_X12_input_103 ne01 ne21 ?_
        refine Tr.iald (pc := 104) d_X12_input_104 (ty_127 hS.1.1) (by omega) (by omega) ?_
        refine Tr.tp g127_0 ((Wr.b w87 rfl).trans ((kp_X12_number_120_w1_127_0 h84).trans ((Wr.b w69 rfl).trans ((kp_X12_number_120_w1_127_0 h66).trans ((Wr.b w56 rfl).trans ((kp_X12_fresh_120_w1_127_0 h53).trans ((kp_X12_counts_120_w1_127_0 h19).trans k19_127_0))))))) ?_
        refine Tr.iconst (pc := 105) d_X12_input_105 (by decide) ?_
        refine Tr.iadd (pc := 106) d_X12_input_106 ?_
        refine Tr.tp (g127_0 + 1) ((w32_id (by and_intros <;> omega)).trans (by omega)) ?_
        refine Tr.iastS (pc := 107) (P := St Pm0 ws_X12_input_120_w1 as_X12_input_120_w1 M0) d_X12_input_107 (ty_127 hS.1.1) (by omega) (by omega) (st_127_0 hS (by decide) (by exact (hd_o t19_0).elim (fun h1 => (hd_o z19_6).elim (fun h2 => by omega) (fun h2 => by omega)) (fun h1 => (ne_o h1.2).elim (fun h2 => by omega) (fun h2 => by omega))) (Pm0.of hS.1.2.2.2.2 (fun _ => rd_wb _ rfl) (fun _ => rd_wb _ rfl) (fun _ => rd_wb _ rfl) (fun _ => rd_wb _ rfl) (fun _ => rd_wb _ rfl) (fun _ => rd_wb _ rfl) (fun _ => rd_wb _ rfl) (fun _ => rd_wb _ rfl) (fun _ => rd_wb _ rfl) (fun _ => rd_wb _ rfl) (rd_wb _ rfl) (rd_wb _ rfl) (rd_wb _ rfl) (rd_wb _ rfl) (rd_wb _ rfl) (rd_wb _ rfl) (rd_wb _ rfl) (rd_wb _ rfl) (rd_wb _ rfl) (rd_wb _ rfl) (rd_wb _ rfl))) (fun M107 hS w107 => ?_)
        have kr_120_3 : rd M107 120 3 = s84_120_3 := ((Wr.b w107 rfl).trans ((Wr.b w87 rfl).trans es84_120_3))
        have kr_120_4 : rd M107 120 4 = s84_120_4 := ((Wr.b w107 rfl).trans ((Wr.b w87 rfl).trans es84_120_4))
        have kr_120_5 : rd M107 120 5 = s84_120_5 := ((Wr.b w107 rfl).trans ((Wr.b w87 rfl).trans es84_120_5))
        have kr_120_7 : rd M107 120 7 = s84_120_7 := ((Wr.b w107 rfl).trans ((Wr.b w87 rfl).trans es84_120_7))
        have kr_120_8 : rd M107 120 8 = s84_120_8 := ((Wr.b w107 rfl).trans ((Wr.b w87 rfl).trans es84_120_8))
        have kr_9010_0 : tav M107 = s84_9010_0 := ((tav_of ((Wr.b w107 rfl).trans ((Wr.b w87 rfl).trans rfl)) ((Wr.b w107 rfl).trans ((Wr.b w87 rfl).trans rfl))).trans es84_9010_0)
        exact Tr.vret (pc := 108) d_X12_input_108 rfl ⟨hS, rfl, (by first | exact (hd_o z84_0) | exact (hd_o z84_0).elim (fun h1 => by omega) (fun h1 => by omega)), (by omega), (by first | exact (hd_o z84_2) | exact (hd_o z84_2).elim (fun h1 => by omega) (fun h1 => h1.elim (fun h1 => by omega) (fun h1 => by omega))), (by and_intros <;> omega), (by omega), (by exact (hd_o z84_5).elim (fun h1 => by omega) (fun h1 => by omega))⟩
    · have kr_120_3 : rd M19 120 3 = s19_120_3 := es19_120_3
      have kr_120_4 : rd M19 120 4 = s19_120_4 := es19_120_4
      have kr_120_5 : rd M19 120 5 = s19_120_5 := es19_120_5
      have kr_120_7 : rd M19 120 7 = s19_120_7 := es19_120_7
      have kr_120_8 : rd M19 120 8 = s19_120_8 := es19_120_8
      have kr_9010_0 : tav M19 = s19_9010_0 := es19_9010_0
      exact Tr.vret (pc := 29) d_X12_input_29 rfl ⟨hS, rfl, (by first | exact (hd_o z19_0) | exact (hd_o z19_0).elim (fun h1 => by omega) (fun h1 => by omega)), (by omega), (by first | exact (hd_o z19_2) | exact (hd_o z19_2).elim (fun h1 => by omega) (fun h1 => h1.elim (fun h1 => by omega) (fun h1 => by omega))), (by and_intros <;> omega), (by first | exact (hd_o z19_4) | exact (hd_o z19_4).elim (fun h1 => by omega) (fun h1 => by omega)), (by first | exact (hd_o z19_5) | exact (hd_o z19_5).elim (fun h1 => by omega) (fun h1 => by omega))⟩
  refine Tr.icmp_ne (pc := 11) (tgt := 18) d_X12_input_11 rfl (fun c11 => ?_) (fun c11 => ?_)
  · have c11b : 0 ≤ g127_0 ∧ g127_0 ≤ 2 := by omega
    replace c11 := hd_i c11
    refine Tr.iconst (pc := 18) d_X12_input_18 (by decide) ?_
    refine Tr.pick [0] (ls2 := [(0, (2, 120))]) rfl ?_
    exact J19 _ _ hS (by omega) eg120_3 eg120_4 eg120_5 eg120_7 eg120_8 eg127_0 eg9010_0 (by omega)
  · refine Tr.iconst (pc := 14) d_X12_input_14 (by decide) ?_
    refine Tr.goto (pc := 15) (tgt := 19) d_X12_input_15 rfl ?_
    refine Tr.pick [0] (ls2 := [(0, (2, 120))]) rfl ?_
    exact J19 _ _ hS (by omega) eg120_3 eg120_4 eg120_5 eg120_7 eg120_8 eg127_0 eg9010_0 (by omega)
