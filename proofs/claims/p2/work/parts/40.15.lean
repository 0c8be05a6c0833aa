def ws_X12_rows_120_w1 : List (Int × Int) := []
def as_X12_rows_120_w1 : List Int := []
def q_X12_rows_120_w1 (M0 M' : Mem) (r : Option PV) : Prop := St Tru ws_X12_rows_120_w1 as_X12_rows_120_w1 M0 M' ∧ ∃ v : Int, r = some (1, v) ∧ (-9223372036854775808) ≤ v ∧ v ≤ 9223372036854775807
set_option maxRecDepth 100000 in
set_option maxHeartbeats 4000000 in
theorem sp_X12_rows_120_w1 {l : Launch} {K : EC} {M0 : Mem} (hI : In Tru M0) (en_120_12 : rd M0 120 12 = 1) (a1 : Int) (ha1 : 0 ≤ a1 ∧ a1 ≤ 5) (a2 : Int) (ha2 : 0 ≤ a2 ∧ a2 ≤ 2100) (a3 : Int) (ha3 : 0 ≤ a3 ∧ a3 ≤ 2100)  (hF_Bk1 : Bk1 M0) : Tr l K 2 mX12_rows 0 [(0, (2, 120)), (1, (0, a1)), (2, (0, a2)), (3, (0, a3))] [] M0 (q_X12_rows_120_w1 M0) := by
  have hS : St Tru ws_X12_rows_120_w1 as_X12_rows_120_w1 M0 M0 := St.rf hI
  refine Tr.lconst (pc := 0) (v := 0) d_X12_rows_0 rfl (by decide) ?_
  refine Tr.lstore (pc := 1) (i := 4) (ls2 := [(4, (1, 0)), (0, (2, 120)), (1, (0, a1)), (2, (0, a2)), (3, (0, a3))]) d_X12_rows_1 (by decide) rfl ?_
  refine Tr.iload_n (pc := 3) (i := 2) d_X12_rows_3 rfl rfl ?_
  refine Tr.istore (pc := 4) (i := 6) (ls2 := [(6, (0, a2)), (4, (1, 0)), (0, (2, 120)), (1, (0, a1)), (2, (0, a2)), (3, (0, a3))]) d_X12_rows_4 (by decide) rfl ?_
  have J6 : ∀ (n6 : Nat) (M : Mem) (p6_4 p6_6 : Int), St Tru ws_X12_rows_120_w1 as_X12_rows_120_w1 M0 M → ((-9223372036854775808) ≤ p6_4 ∧ p6_4 ≤ 9223372036854775807) → (0 ≤ p6_6 ∧ p6_6 ≤ 2100) → (a2 ≤ p6_6) → (2100 - p6_6).toNat < n6 → Tr l K 2 mX12_rows 6 [(0, (2, 120)), (1, (0, a1)), (2, (0, a2)), (3, (0, a3)), (4, (1, p6_4)), (6, (0, p6_6))] [] M (q_X12_rows_120_w1 M0) := by
    intro n6
    induction n6 with
    | zero => intro M p6_4 p6_6 hS bp6_4 bp6_6  t6_0 hm6; exact absurd hm6 (Nat.not_lt_zero _)
    | succ n6 J6 =>
      intro M p6_4 p6_6 hS bp6_4 bp6_6  t6_0 hm6
      refine Tr.iload (pc := 6) (i := 6) d_X12_rows_6 rfl ?_
      refine Tr.iload_n (pc := 8) (i := 3) d_X12_rows_8 rfl rfl ?_
      refine Tr.icmp_ge (pc := 9) (tgt := 80) d_X12_rows_9 rfl (fun c9 => ?_) (fun c9 => ?_)
      · refine Tr.lload (pc := 80) (i := 4) d_X12_rows_80 rfl ?_
        exact Tr.lret (pc := 82) d_X12_rows_82 rfl ⟨hS, _, rfl, by omega, by omega⟩
      · refine Tr.aload_n (pc := 12) (i := 0) d_X12_rows_12 rfl rfl ?_
        refine Tr.getf (pc := 13) d_X12_rows_13 f_12_321 (by decide) (by decide) (ty_120 hS.1.1) ?_
        refine Tr.tp 177 (fx_120_102 hS.1.1) ?_
        refine Tr.iload (pc := 16) (i := 6) d_X12_rows_16 rfl ?_
        refine Tr.zald (pc := 18) d_X12_rows_18 (ty_177 hS.1.1) (by omega) (by omega) ?_
        refine Tr.gen (P := fun v => 0 ≤ v ∧ v ≤ 1) (ar_177 hS.1.2.1 _) (fun r18 er18 br18 => ?_)
        have J74 : ∀ (M : Mem) (p74_4 : Int), St Tru ws_X12_rows_120_w1 as_X12_rows_120_w1 M0 M → ((-9223372036854775808) ≤ p74_4 ∧ p74_4 ≤ 9223372036854775807) → rd M 177 p6_6 = r18 → (a2 ≤ p6_6) → Tr l K 2 mX12_rows 74 [(0, (2, 120)), (1, (0, a1)), (2, (0, a2)), (3, (0, a3)), (4, (1, p74_4)), (6, (0, p6_6))] [] M (q_X12_rows_120_w1 M0) := by
          intro M p74_4 hS bp74_4 k74_177_p6_610 t74_0
          refine Tr.iincV (pc := 74) (n2 := (p6_6 + 1)) (ls2 := [(6, (0, (p6_6 + 1))), (0, (2, 120)), (1, (0, a1)), (2, (0, a2)), (3, (0, a3)), (4, (1, p74_4))]) d_X12_rows_74 rfl (by decide) ((w32_id (by omega)).trans (by omega)) rfl ?_
          refine Tr.goto (pc := 77) (tgt := 6) d_X12_rows_77 rfl ?_
          refine Tr.pick [1, 2, 3, 4, 5, 0] (ls2 := [(0, (2, 120)), (1, (0, a1)), (2, (0, a2)), (3, (0, a3)), (4, (1, p74_4)), (6, (0, (p6_6 + 1)))]) rfl ?_
          exact J6 _ _ _ hS (by omega) (by omega) (by omega) (by omega)
        refine Tr.if_ne (pc := 19) (tgt := 25) d_X12_rows_19 rfl (fun c19 => ?_) (fun c19 => ?_)
        · refine Tr.lload (pc := 25) (i := 4) d_X12_rows_25 rfl ?_
          refine Tr.aload_n (pc := 27) (i := 0) d_X12_rows_27 rfl rfl ?_
          refine Tr.iload_n (pc := 28) (i := 1) d_X12_rows_28 rfl rfl ?_
          refine Tr.iconst (pc := 29) d_X12_rows_29 (by decide) ?_
          refine Tr.callV (pc := 30) (as := [_, _]) d_X12_rows_30 s_12_565 ok_X12_rate rfl rfl (Nat.le_of_ble_eq_true rfl) (Nat.le_of_ble_eq_true rfl) (by decide) (ty_120 hS.1.1) ?_
          refine Tr.imp (Tr.deep (by decide) (sp_X12_rate_120_w1 hS.1 ((St.kp hS (by decide) (by decide) (by decide)).trans en_120_12) a1 (by omega) 3 (by omega) (Bk1.of hF_Bk1 (fun j => (St.ka hS (by decide) (by decide) (by decide))) (fun j => (St.ka hS (by decide) (by decide) (by decide))) (fun j => (St.ka hS (by decide) (by decide) (by decide))) (fun j => (St.ka hS (by decide) (by decide) (by decide))) (fun j => (St.ka hS (by decide) (by decide) (by decide))) (fun j => (St.ka hS (by decide) (by decide) (by decide))) (fun j => (St.ka hS (by decide) (by decide) (by decide))) (fun j => (St.ka hS (by decide) (by decide) (by decide))) (St.kp hS (by decide) (by decide) (by decide)) (St.kp hS (by decide) (by decide) (by decide)) (St.kp hS (by decide) (by decide) (by decide)) (St.kp hS (by decide) (by decide) (by decide))))) ?_
          rintro M30 _ ⟨h30, r30, rfl, lr30, ur30, z30_0⟩
          have hS := St.tr hS h30 (by decide) (by decide)
          obtain ⟨w30_126_1, ew30_126_1⟩ : ∃ v, rd M30 126 1 = v := ⟨_, rfl⟩
          have bw30_126_1 : 0 ≤ w30_126_1 ∧ w30_126_1 ≤ 6 := by rw [← ew30_126_1]; exact ir_126_1 hS.1.2.1
          have ka30_126_1 : rd M30 126 1 = w30_126_1 := ew30_126_1
          refine Tr.sc [(0, r30), (1, p6_4)] rfl ?_
          refine Tr.i2l (pc := 33) d_X12_rows_33 ?_
          refine Tr.ladd (pc := 34) d_X12_rows_34 ?_
          refine Tr.gen (P := fun v => (-9223372036854775808) ≤ v ∧ v ≤ 9223372036854775807) (w64_b _) (fun r34 er34 br34 => ?_)
          refine Tr.lstore (pc := 35) (i := 4) (ls2 := [(4, (1, r34)), (0, (2, 120)), (1, (0, a1)), (2, (0, a2)), (3, (0, a3)), (6, (0, p6_6))]) d_X12_rows_35 (by decide) rfl ?_
          refine Tr.iload (pc := 37) (i := 6) d_X12_rows_37 rfl ?_
          refine Tr.iload_n (pc := 39) (i := 2) d_X12_rows_39 rfl rfl ?_
          have J55 : ∀ (M : Mem) (p55_4 : Int), St Tru ws_X12_rows_120_w1 as_X12_rows_120_w1 M0 M → ((-9223372036854775808) ≤ p55_4 ∧ p55_4 ≤ 9223372036854775807) → rd M 126 1 = w30_126_1 → rd M 177 p6_6 = r18 → (a2 ≤ p6_6) → Tr l K 2 mX12_rows 55 [(0, (2, 120)), (1, (0, a1)), (2, (0, a2)), (3, (0, a3)), (4, (1, p55_4)), (6, (0, p6_6))] [] M (q_X12_rows_120_w1 M0) := by
            intro M p55_4 hS bp55_4 k55_126_1 k55_177_p6_610 t55_0
            refine Tr.lload (pc := 55) (i := 4) d_X12_rows_55 rfl ?_
            refine Tr.aload_n (pc := 57) (i := 0) d_X12_rows_57 rfl rfl ?_
            refine Tr.iload_n (pc := 58) (i := 1) d_X12_rows_58 rfl rfl ?_
            refine Tr.callV (pc := 59) (as := [_]) d_X12_rows_59 s_12_584 ok_X12_wakes rfl rfl (Nat.le_of_ble_eq_true rfl) (Nat.le_of_ble_eq_true rfl) (by decide) (ty_120 hS.1.1) ?_
            refine Tr.imp (Tr.deep (by decide) (sp_X12_wakes_120_w1 hS.1 ((St.kp hS (by decide) (by decide) (by decide)).trans en_120_12) a1 (by omega) (Bk1.of hF_Bk1 (fun j => (St.ka hS (by decide) (by decide) (by decide))) (fun j => (St.ka hS (by decide) (by decide) (by decide))) (fun j => (St.ka hS (by decide) (by decide) (by decide))) (fun j => (St.ka hS (by decide) (by decide) (by decide))) (fun j => (St.ka hS (by decide) (by decide) (by decide))) (fun j => (St.ka hS (by decide) (by decide) (by decide))) (fun j => (St.ka hS (by decide) (by decide) (by decide))) (fun j => (St.ka hS (by decide) (by decide) (by decide))) (St.kp hS (by decide) (by decide) (by decide)) (St.kp hS (by decide) (by decide) (by decide)) (St.kp hS (by decide) (by decide) (by decide)) (St.kp hS (by decide) (by decide) (by decide))))) ?_
            rintro M59 _ ⟨h59, r59, rfl, lr59, ur59⟩
            have hS := St.tr hS h59 (by decide) (by decide)
            refine Tr.sc [(0, r59), (1, p55_4)] rfl ?_
            refine Tr.i2l (pc := 62) d_X12_rows_62 ?_
            refine Tr.aload_n (pc := 63) (i := 0) d_X12_rows_63 rfl rfl ?_
            refine Tr.iload_n (pc := 64) (i := 1) d_X12_rows_64 rfl rfl ?_
            refine Tr.iconst (pc := 65) d_X12_rows_65 (by decide) ?_
            refine Tr.callV (pc := 66) (as := [_, _]) d_X12_rows_66 s_12_565 ok_X12_rate rfl rfl (Nat.le_of_ble_eq_true rfl) (Nat.le_of_ble_eq_true rfl) (by decide) (ty_120 hS.1.1) ?_
            refine Tr.imp (Tr.deep (by decide) (sp_X12_rate_120_w1 hS.1 ((St.kp hS (by decide) (by decide) (by decide)).trans en_120_12) a1 (by omega) 2 (by omega) (Bk1.of hF_Bk1 (fun j => (St.ka hS (by decide) (by decide) (by decide))) (fun j => (St.ka hS (by decide) (by decide) (by decide))) (fun j => (St.ka hS (by decide) (by decide) (by decide))) (fun j => (St.ka hS (by decide) (by decide) (by decide))) (fun j => (St.ka hS (by decide) (by decide) (by decide))) (fun j => (St.ka hS (by decide) (by decide) (by decide))) (fun j => (St.ka hS (by decide) (by decide) (by decide))) (fun j => (St.ka hS (by decide) (by decide) (by decide))) (St.kp hS (by decide) (by decide) (by decide)) (St.kp hS (by decide) (by decide) (by decide)) (St.kp hS (by decide) (by decide) (by decide)) (St.kp hS (by decide) (by decide) (by decide))))) ?_
            rintro M66 _ ⟨h66, r66, rfl, lr66, ur66, z66_0⟩
            have hS := St.tr hS h66 (by decide) (by decide)
            have ka66_126_1 : rd M66 126 1 = w30_126_1 := ((St.kp h66 (by decide) (by decide) (by decide)).trans ((St.kp h59 (by decide) (by decide) (by decide)).trans k55_126_1))
            refine Tr.sc [(0, r66), (1, r59), (1, p55_4)] rfl ?_
            refine Tr.i2l (pc := 69) d_X12_rows_69 ?_
            refine Tr.lmul (pc := 70) d_X12_rows_70 ?_
            refine Tr.gen (P := fun v => (-9223372036854775808) ≤ v ∧ v ≤ 9223372036854775807) (w64_b _) (fun r70 er70 br70 => ?_)
            refine Tr.ladd (pc := 71) d_X12_rows_71 ?_
            refine Tr.gen (P := fun v => (-9223372036854775808) ≤ v ∧ v ≤ 9223372036854775807) (w64_b _) (fun r71 er71 br71 => ?_)
            refine Tr.lstore (pc := 72) (i := 4) (ls2 := [(4, (1, r71)), (0, (2, 120)), (1, (0, a1)), (2, (0, a2)), (3, (0, a3)), (6, (0, p6_6))]) d_X12_rows_72 (by decide) rfl ?_
            refine Tr.pick [1, 2, 3, 4, 0, 5] (ls2 := [(0, (2, 120)), (1, (0, a1)), (2, (0, a2)), (3, (0, a3)), (4, (1, r71)), (6, (0, p6_6))]) rfl ?_
            exact J74 _ _ hS (by omega) ((St.ka h66 (by decide) (by decide) (by decide)).trans ((St.ka h59 (by decide) (by decide) (by decide)).trans k55_177_p6_610)) (by omega)
          refine Tr.icmp_eq (pc := 40) (tgt := 55) d_X12_rows_40 rfl (fun c40 => ?_) (fun c40 => ?_)
          · refine Tr.pick [1, 2, 3, 4, 0, 5] (ls2 := [(0, (2, 120)), (1, (0, a1)), (2, (0, a2)), (3, (0, a3)), (4, (1, r34)), (6, (0, p6_6))]) rfl ?_
            exact J55 _ _ hS (by omega) ew30_126_1 ((St.ka h30 (by decide) (by decide) (by decide)).trans er18) (by omega)
          · refine Tr.aload_n (pc := 43) (i := 0) d_X12_rows_43 rfl rfl ?_
            refine Tr.getf (pc := 44) d_X12_rows_44 f_12_321 (by decide) (by decide) (ty_120 hS.1.1) ?_
            refine Tr.tp 177 (fx_120_102 hS.1.1) ?_
            refine Tr.iload (pc := 47) (i := 6) d_X12_rows_47 rfl ?_
            refine Tr.iconst (pc := 49) d_X12_rows_49 (by decide) ?_
            refine Tr.isub (pc := 50) d_X12_rows_50 ?_
            refine Tr.tp (p6_6 - 1) ((w32_id (by omega)).trans (by omega)) ?_
            refine Tr.zald (pc := 51) d_X12_rows_51 (ty_177 hS.1.1) (by omega) (by omega) ?_
            refine Tr.gen (P := fun v => 0 ≤ v ∧ v ≤ 1) (ar_177 hS.1.2.1 _) (fun r51 er51 br51 => ?_)
            refine Tr.if_ne (pc := 52) (tgt := 74) d_X12_rows_52 rfl (fun c52 => ?_) (fun c52 => ?_)
            · refine Tr.pick [1, 2, 3, 4, 0, 5] (ls2 := [(0, (2, 120)), (1, (0, a1)), (2, (0, a2)), (3, (0, a3)), (4, (1, r34)), (6, (0, p6_6))]) rfl ?_
              exact J74 _ _ hS (by omega) ((St.ka h30 (by decide) (by decide) (by decide)).trans er18) (by omega)
            · refine Tr.pick [1, 2, 3, 4, 0, 5] (ls2 := [(0, (2, 120)), (1, (0, a1)), (2, (0, a2)), (3, (0, a3)), (4, (1, r34)), (6, (0, p6_6))]) rfl ?_
              exact J55 _ _ hS (by omega) ew30_126_1 ((St.ka h30 (by decide) (by decide) (by decide)).trans er18) (by omega)
        · refine Tr.goto (pc := 22) (tgt := 74) d_X12_rows_22 rfl ?_
          refine Tr.pick [0, 1, 2, 3, 4, 5] (ls2 := [(0, (2, 120)), (1, (0, a1)), (2, (0, a2)), (3, (0, a3)), (4, (1, p6_4)), (6, (0, p6_6))]) rfl ?_
          exact J74 _ _ hS (by omega) er18 (by omega)
  refine Tr.pick [2, 3, 4, 5, 1, 0] (ls2 := [(0, (2, 120)), (1, (0, a1)), (2, (0, a2)), (3, (0, a3)), (4, (1, 0)), (6, (0, a2))]) rfl ?_
  exact J6 _ _ _ _ hS (by omega) (by omega) (by omega) (Nat.lt_succ_self _)

def ws_X12_asksCost_120_w1 : List (Int × Int) := []
def as_X12_asksCost_120_w1 : List Int := [177]
def q_X12_asksCost_120_w1 (M0 M' : Mem) (r : Option PV) : Prop := St Tru ws_X12_asksCost_120_w1 as_X12_asksCost_120_w1 M0 M' ∧ ∃ v : Int, r = some (1, v) ∧ (-9223372036854775808) ≤ v ∧ v ≤ 9223372036854775807
theorem kp_X12_asksCost_120_w1_120_12 {q : Mem → Prop} {M0 M : Mem} (h : St q ws_X12_asksCost_120_w1 as_X12_asksCost_120_w1 M0 M) : rd M 120 12 = rd M0 120 12 := St.kp h (by decide) (by decide) (by decide)
theorem ka_X12_asksCost_120_w1_131 {q : Mem → Prop} {M0 M : Mem} (h : St q ws_X12_asksCost_120_w1 as_X12_asksCost_120_w1 M0 M) (j : Int) : rd M 131 j = rd M0 131 j := St.ka h (by decide) (by decide) (by decide)
theorem ka_X12_asksCost_120_w1_137 {q : Mem → Prop} {M0 M : Mem} (h : St q ws_X12_asksCost_120_w1 as_X12_asksCost_120_w1 M0 M) (j : Int) : rd M 137 j = rd M0 137 j := St.ka h (by decide) (by decide) (by decide)
theorem ka_X12_asksCost_120_w1_138 {q : Mem → Prop} {M0 M : Mem} (h : St q ws_X12_asksCost_120_w1 as_X12_asksCost_120_w1 M0 M) (j : Int) : rd M 138 j = rd M0 138 j := St.ka h (by decide) (by decide) (by decide)
theorem ka_X12_asksCost_120_w1_139 {q : Mem → Prop} {M0 M : Mem} (h : St q ws_X12_asksCost_120_w1 as_X12_asksCost_120_w1 M0 M) (j : Int) : rd M 139 j = rd M0 139 j := St.ka h (by decide) (by decide) (by decide)
theorem ka_X12_asksCost_120_w1_140 {q : Mem → Prop} {M0 M : Mem} (h : St q ws_X12_asksCost_120_w1 as_X12_asksCost_120_w1 M0 M) (j : Int) : rd M 140 j = rd M0 140 j := St.ka h (by decide) (by decide) (by decide)
theorem ka_X12_asksCost_120_w1_141 {q : Mem → Prop} {M0 M : Mem} (h : St q ws_X12_asksCost_120_w1 as_X12_asksCost_120_w1 M0 M) (j : Int) : rd M 141 j = rd M0 141 j := St.ka h (by decide) (by decide) (by decide)
theorem ka_X12_asksCost_120_w1_142 {q : Mem → Prop} {M0 M : Mem} (h : St q ws_X12_asksCost_120_w1 as_X12_asksCost_120_w1 M0 M) (j : Int) : rd M 142 j = rd M0 142 j := St.ka h (by decide) (by decide) (by decide)
theorem ka_X12_asksCost_120_w1_143 {q : Mem → Prop} {M0 M : Mem} (h : St q ws_X12_asksCost_120_w1 as_X12_asksCost_120_w1 M0 M) (j : Int) : rd M 143 j = rd M0 143 j := St.ka h (by decide) (by decide) (by decide)
theorem kp_X12_asksCost_120_w1_126_1 {q : Mem → Prop} {M0 M : Mem} (h : St q ws_X12_asksCost_120_w1 as_X12_asksCost_120_w1 M0 M) : rd M 126 1 = rd M0 126 1 := St.kp h (by decide) (by decide) (by decide)
theorem kp_X12_asksCost_120_w1_136_1 {q : Mem → Prop} {M0 M : Mem} (h : St q ws_X12_asksCost_120_w1 as_X12_asksCost_120_w1 M0 M) : rd M 136 1 = rd M0 136 1 := St.kp h (by decide) (by decide) (by decide)
theorem kp_X12_asksCost_120_w1_123_1 {q : Mem → Prop} {M0 M : Mem} (h : St q ws_X12_asksCost_120_w1 as_X12_asksCost_120_w1 M0 M) : rd M 123 1 = rd M0 123 1 := St.kp h (by decide) (by decide) (by decide)
theorem kp_X12_asksCost_120_w1_124_1 {q : Mem → Prop} {M0 M : Mem} (h : St q ws_X12_asksCost_120_w1 as_X12_asksCost_120_w1 M0 M) : rd M 124 1 = rd M0 124 1 := St.kp h (by decide) (by decide) (by decide)
theorem ka_X12_tails_120_w1_185 {q : Mem → Prop} {M0 M : Mem} (h : St q ws_X12_tails_120_w1 as_X12_tails_120_w1 M0 M) (j : Int) : rd M 185 j = rd M0 185 j := St.ka h (by decide) (by decide) (by decide)
theorem ka_X12_tails_120_w1_189 {q : Mem → Prop} {M0 M : Mem} (h : St q ws_X12_tails_120_w1 as_X12_tails_120_w1 M0 M) (j : Int) : rd M 189 j = rd M0 189 j := St.ka h (by decide) (by decide) (by decide)
theorem kp_X12_tails_120_w1_120_113 {q : Mem → Prop} {M0 M : Mem} (h : St q ws_X12_tails_120_w1 as_X12_tails_120_w1 M0 M) : rd M 120 113 = rd M0 120 113 := St.kp h (by decide) (by decide) (by decide)
theorem kp_X12_tails_120_w1_126_1 {q : Mem → Prop} {M0 M : Mem} (h : St q ws_X12_tails_120_w1 as_X12_tails_120_w1 M0 M) : rd M 126 1 = rd M0 126 1 := St.kp h (by decide) (by decide) (by decide)
theorem ka_X12_tails_120_w1_186 {q : Mem → Prop} {M0 M : Mem} (h : St q ws_X12_tails_120_w1 as_X12_tails_120_w1 M0 M) (j : Int) : rd M 186 j = rd M0 186 j := St.ka h (by decide) (by decide) (by decide)
set_option maxRecDepth 100000 in
set_option maxHeartbeats 4000000 in
theorem sp_X12_asksCost_120_w1 {l : Launch} {K : EC} {M0 : Mem} (hI : In Tru M0) (en_120_12 : rd M0 120 12 = 1) (a1 : Int) (ha1 : 0 ≤ a1 ∧ a1 ≤ 5)  (hq0 : a1 < rd M0 126 1) (hF_Bk1 : Bk1 M0) : Tr l K 3 mX12_asksCost 0 [(0, (2, 120)), (1, (0, a1))] [] M0 (q_X12_asksCost_120_w1 M0) := by
  have hS : St Tru ws_X12_asksCost_120_w1 as_X12_asksCost_120_w1 M0 M0 := St.rf hI
  obtain ⟨g126_1, eg126_1⟩ : ∃ v, rd M0 126 1 = v := ⟨_, rfl⟩
  have bg126_1 : 0 ≤ g126_1 ∧ g126_1 ≤ 6 := by rw [← eg126_1]; exact ir_126_1 hI.2.1
  refine Tr.iconst (pc := 0) d_X12_asksCost_0 (by decide) ?_
  refine Tr.istore_n (pc := 1) (i := 2) (ls2 := [(2, (0, 0)), (0, (2, 120)), (1, (0, a1))]) d_X12_asksCost_1 rfl (by decide) rfl ?_
  have J2 : ∀ (n2 : Nat) (M : Mem) (p2_2 : Int), St Tru ws_X12_asksCost_120_w1 as_X12_asksCost_120_w1 M0 M → (0 ≤ p2_2 ∧ p2_2 ≤ 300) → rd M 126 1 = g126_1 → (300 - p2_2).toNat < n2 → Tr l K 3 mX12_asksCost 2 [(0, (2, 120)), (1, (0, a1)), (2, (0, p2_2))] [] M (q_X12_asksCost_120_w1 M0) := by
    intro n2
    induction n2 with
    | zero => intro M p2_2 hS bp2_2 k2_126_1 hm2; exact absurd hm2 (Nat.not_lt_zero _)
    | succ n2 J2 =>
      intro M p2_2 hS bp2_2 k2_126_1 hm2
      refine Tr.iload_n (pc := 2) (i := 2) d_X12_asksCost_2 rfl rfl ?_
      refine Tr.sipush (pc := 3) d_X12_asksCost_3 rfl (by decide) ?_
      refine Tr.icmp_ge (pc := 6) (tgt := 22) d_X12_asksCost_6 rfl (fun c6 => ?_) (fun c6 => ?_)
      · refine Tr.iconst (pc := 22) d_X12_asksCost_22 (by decide) ?_
        refine Tr.istore_n (pc := 23) (i := 2) (ls2 := [(2, (0, 0)), (0, (2, 120)), (1, (0, a1))]) d_X12_asksCost_23 rfl (by decide) rfl ?_
        have J24 : ∀ (n24 : Nat) (M : Mem) (p24_2 : Int), St Tru ws_X12_asksCost_120_w1 as_X12_asksCost_120_w1 M0 M → (0 ≤ p24_2 ∧ p24_2 ≤ 6) → rd M 126 1 = g126_1 → (6 - p24_2).toNat < n24 → Tr l K 3 mX12_asksCost 24 [(0, (2, 120)), (1, (0, a1)), (2, (0, p24_2))] [] M (q_X12_asksCost_120_w1 M0) := by
          intro n24
          induction n24 with
          | zero => intro M p24_2 hS bp24_2 k24_126_1 hm24; exact absurd hm24 (Nat.not_lt_zero _)
          | succ n24 J24 =>
            intro M p24_2 hS bp24_2 k24_126_1 hm24
            clear k2_126_1
            refine Tr.iload_n (pc := 24) (i := 2) d_X12_asksCost_24 rfl rfl ?_
            refine Tr.aload_n (pc := 25) (i := 0) d_X12_asksCost_25 rfl rfl ?_
            refine Tr.getf (pc := 26) d_X12_asksCost_26 f_12_354 (by decide) (by decide) (ty_120 hS.1.1) ?_
            refine Tr.gen (P := fun v => 0 ≤ v ∧ v ≤ 6) (ir_120_113 hS.1.2.1) (fun r26 er26 br26 => ?_)
            refine Tr.icmp_ge (pc := 29) (tgt := 100) d_X12_asksCost_29 rfl (fun c29 => ?_) (fun c29 => ?_)
            · refine Tr.aload_n (pc := 100) (i := 0) d_X12_asksCost_100 rfl rfl ?_
              refine Tr.iload_n (pc := 101) (i := 1) d_X12_asksCost_101 rfl rfl ?_
              refine Tr.iconst (pc := 102) d_X12_asksCost_102 (by decide) ?_
              refine Tr.sipush (pc := 103) d_X12_asksCost_103 rfl (by decide) ?_
              refine Tr.callV (pc := 106) (as := [_, _, _]) d_X12_asksCost_106 s_12_665 ok_X12_rows rfl rfl (Nat.le_of_ble_eq_true rfl) (Nat.le_of_ble_eq_true rfl) (by decide) (ty_120 hS.1.1) ?_
              refine Tr.imp (Tr.deep (by decide) (sp_X12_rows_120_w1 hS.1 ((kp_X12_asksCost_120_w1_120_12 hS).trans en_120_12) a1 (by and_intros <;> omega) 0 (by omega) 300 (by omega) (Bk1.of hF_Bk1 (fun j => (ka_X12_asksCost_120_w1_131 hS _)) (fun j => (ka_X12_asksCost_120_w1_137 hS _)) (fun j => (ka_X12_asksCost_120_w1_138 hS _)) (fun j => (ka_X12_asksCost_120_w1_139 hS _)) (fun j => (ka_X12_asksCost_120_w1_140 hS _)) (fun j => (ka_X12_asksCost_120_w1_141 hS _)) (fun j => (ka_X12_asksCost_120_w1_142 hS _)) (fun j => (ka_X12_asksCost_120_w1_143 hS _)) (kp_X12_asksCost_120_w1_126_1 hS) (kp_X12_asksCost_120_w1_136_1 hS) (kp_X12_asksCost_120_w1_123_1 hS) (kp_X12_asksCost_120_w1_124_1 hS)))) ?_
              rintro M106 _ ⟨h106, r106, rfl, lr106, ur106⟩
              have hS := St.tr hS h106 (by decide) (by decide)
              refine Tr.sc [(1, r106)] rfl ?_
              exact Tr.lret (pc := 109) d_X12_asksCost_109 rfl ⟨hS, _, rfl, (by omega), (by omega)⟩
            · refine Tr.aload_n (pc := 32) (i := 0) d_X12_asksCost_32 rfl rfl ?_
              refine Tr.getf (pc := 33) d_X12_asksCost_33 f_12_357 (by decide) (by decide) (ty_120 hS.1.1) ?_
              refine Tr.tp 185 (fx_120_114 hS.1.1) ?_
              refine Tr.iload_n (pc := 36) (i := 2) d_X12_asksCost_36 rfl rfl ?_
              refine Tr.iald (pc := 37) d_X12_asksCost_37 (ty_185 hS.1.1) (by omega) (by omega) ?_
              refine Tr.gen (P := fun v => 0 ≤ v ∧ v ≤ 200) (ar_185 hS.1.2.1 _) (fun r37 er37 br37 => ?_)
              refine Tr.aload_n (pc := 38) (i := 0) d_X12_asksCost_38 rfl rfl ?_
              refine Tr.getf (pc := 39) d_X12_asksCost_39 f_12_372 (by decide) (by decide) (ty_120 hS.1.1) ?_
              refine Tr.tp 189 (fx_120_119 hS.1.1) ?_
              refine Tr.iload_n (pc := 42) (i := 2) d_X12_asksCost_42 rfl rfl ?_
              refine Tr.iald (pc := 43) d_X12_asksCost_43 (ty_189 hS.1.1) (by omega) (by omega) ?_
              refine Tr.gen (P := fun v => 0 ≤ v ∧ v ≤ 5) (ar_189 hS.1.2.1 _) (fun r43 er43 br43 => ?_)
              refine Tr.iadd (pc := 44) d_X12_asksCost_44 ?_
              refine Tr.tp (r37 + r43) ((w32_id (by and_intros <;> omega)).trans (by omega)) ?_
              refine Tr.aload_n (pc := 45) (i := 0) d_X12_asksCost_45 rfl rfl ?_
              refine Tr.getf (pc := 46) d_X12_asksCost_46 f_12_360 (by decide) (by decide) (ty_120 hS.1.1) ?_
              refine Tr.tp 186 (fx_120_115 hS.1.1) ?_
              refine Tr.iload_n (pc := 49) (i := 2) d_X12_asksCost_49 rfl rfl ?_
              refine Tr.iald (pc := 50) d_X12_asksCost_50 (ty_186 hS.1.1) (by omega) (by omega) ?_
              refine Tr.gen (P := fun v => 0 ≤ v ∧ v ≤ 20) (ar_186 hS.1.2.1 _) (fun r50 er50 br50 => ?_)
              refine Tr.iadd (pc := 51) d_X12_asksCost_51 ?_
              refine Tr.tp (r37 + r43 + r50) ((w32_id (by and_intros <;> omega)).trans (by omega)) ?_
              refine Tr.aload_n (pc := 52) (i := 0) d_X12_asksCost_52 rfl rfl ?_
              refine Tr.iload_n (pc := 53) (i := 1) d_X12_asksCost_53 rfl rfl ?_
              refine Tr.callV (pc := 54) (as := [_]) d_X12_asksCost_54 s_12_591 ok_X12_tails rfl rfl (Nat.le_of_ble_eq_true rfl) (Nat.le_of_ble_eq_true rfl) (by decide) (ty_120 hS.1.1) ?_
              refine Tr.imp (Tr.deep (by decide) (ns_X12_tails_120_w1 (G126_1 := g126_1) hS.1 (k24_126_1) ((kp_X12_asksCost_120_w1_120_12 hS).trans en_120_12) a1 (by and_intros <;> omega) (Bk1.of hF_Bk1 (fun j => (ka_X12_asksCost_120_w1_131 hS _)) (fun j => (ka_X12_asksCost_120_w1_137 hS _)) (fun j => (ka_X12_asksCost_120_w1_138 hS _)) (fun j => (ka_X12_asksCost_120_w1_139 hS _)) (fun j => (ka_X12_asksCost_120_w1_140 hS _)) (fun j => (ka_X12_asksCost_120_w1_141 hS _)) (fun j => (ka_X12_asksCost_120_w1_142 hS _)) (fun j => (ka_X12_asksCost_120_w1_143 hS _)) (kp_X12_asksCost_120_w1_126_1 hS) (kp_X12_asksCost_120_w1_136_1 hS) (kp_X12_asksCost_120_w1_123_1 hS) (kp_X12_asksCost_120_w1_124_1 hS)))) ?_
              rintro M54 _ ⟨h54, r54, rfl, lr54, ur54, z54_0⟩
              have hS := St.tr hS h54 (by decide) (by decide)
              refine Tr.sc [(0, r54), (0, (r37 + r43 + r50))] rfl ?_
              refine Tr.iadd (pc := 57) d_X12_asksCost_57 ?_
              refine Tr.tp (r37 + r43 + r50 + r54) ((w32_id (by exact (hd_o z54_0).elim (fun h1 => by omega) (fun h1 => by omega))).trans (by omega)) ?_
              refine Tr.istore_n (pc := 58) (i := 3) (ls2 := [(3, (0, (r37 + r43 + r50 + r54))), (0, (2, 120)), (1, (0, a1)), (2, (0, p24_2))]) d_X12_asksCost_58 rfl (by decide) rfl ?_
              refine Tr.aload_n (pc := 59) (i := 0) d_X12_asksCost_59 rfl rfl ?_
              refine Tr.getf (pc := 60) d_X12_asksCost_60 f_12_357 (by decide) (by decide) (ty_120 hS.1.1) ?_
              refine Tr.tp 185 (fx_120_114 hS.1.1) ?_
              refine Tr.iload_n (pc := 63) (i := 2) d_X12_asksCost_63 rfl rfl ?_
              refine Tr.iald (pc := 64) d_X12_asksCost_64 (ty_185 hS.1.1) (by omega) (by omega) ?_
              refine Tr.tp r37 ((ka_X12_tails_120_w1_185 h54 _).trans er37) ?_
              refine Tr.aload_n (pc := 65) (i := 0) d_X12_asksCost_65 rfl rfl ?_
              refine Tr.getf (pc := 66) d_X12_asksCost_66 f_12_372 (by decide) (by decide) (ty_120 hS.1.1) ?_
              refine Tr.tp 189 (fx_120_119 hS.1.1) ?_
              refine Tr.iload_n (pc := 69) (i := 2) d_X12_asksCost_69 rfl rfl ?_
              refine Tr.iald (pc := 70) d_X12_asksCost_70 (ty_189 hS.1.1) (by omega) (by omega) ?_
              refine Tr.tp r43 ((ka_X12_tails_120_w1_189 h54 _).trans er43) ?_
              refine Tr.iadd (pc := 71) d_X12_asksCost_71 ?_
              refine Tr.tp (r37 + r43) ((w32_id (by and_intros <;> omega)).trans (by omega)) ?_
              refine Tr.istore (pc := 72) (i := 4) (ls2 := [(4, (0, (r37 + r43))), (3, (0, (r37 + r43 + r50 + r54))), (0, (2, 120)), (1, (0, a1)), (2, (0, p24_2))]) d_X12_asksCost_72 (by decide) rfl ?_
              have J74 : ∀ (n74 : Nat) (M : Mem) (p74_4 : Int), St Tru ws_X12_asksCost_120_w1 as_X12_asksCost_120_w1 M0 M → (0 ≤ p74_4 ∧ p74_4 ≤ 2200) → rd M 120 113 = r26 → rd M 126 1 = g126_1 → rd M 185 p24_2 = r37 → rd M 186 p24_2 = r50 → rd M 189 p24_2 = r43 → ((r37 + r43 + r50 + r54) ≤ 275) → (2200 - p74_4).toNat < n74 → Tr l K 3 mX12_asksCost 74 [(0, (2, 120)), (1, (0, a1)), (2, (0, p24_2)), (3, (0, (r37 + r43 + r50 + r54))), (4, (0, p74_4))] [] M (q_X12_asksCost_120_w1 M0) := by
                intro n74
                induction n74 with
                | zero => intro M p74_4 hS bp74_4 k74_120_113 k74_126_1 k74_185_p24_210 k74_186_p24_210 k74_189_p24_210 t74_0 hm74; exact absurd hm74 (Nat.not_lt_zero _)
                | succ n74 J74 =>
                  intro M p74_4 hS bp74_4 k74_120_113 k74_126_1 k74_185_p24_210 k74_186_p24_210 k74_189_p24_210 t74_0 hm74
                  clear k24_126_1 er26 er37 er43 er50
                  refine Tr.iload (pc := 74) (i := 4) d_X12_asksCost_74 rfl ?_
                  refine Tr.iload_n (pc := 76) (i := 3) d_X12_asksCost_76 rfl rfl ?_
                  refine Tr.icmp_ge (pc := 77) (tgt := 94) d_X12_asksCost_77 rfl (fun c77 => ?_) (fun c77 => ?_)
                  · refine Tr.iincV (pc := 94) (n2 := (p24_2 + 1)) (ls2 := [(2, (0, (p24_2 + 1))), (0, (2, 120)), (1, (0, a1)), (3, (0, (r37 + r43 + r50 + r54))), (4, (0, p74_4))]) d_X12_asksCost_94 rfl (by decide) ((w32_id (by and_intros <;> omega)).trans (by omega)) rfl ?_
                    refine Tr.goto (pc := 97) (tgt := 24) d_X12_asksCost_97 rfl ?_
                    refine Tr.pick [1, 2, 0] (ls2 := [(0, (2, 120)), (1, (0, a1)), (2, (0, (p24_2 + 1)))]) rfl ?_
                    exact J24 _ _ hS (by and_intros <;> omega) k74_126_1 (me_lt hm24 (by omega) (by omega))
                  · refine Tr.aload_n (pc := 80) (i := 0) d_X12_asksCost_80 rfl rfl ?_
                    refine Tr.getf (pc := 81) d_X12_asksCost_81 f_12_321 (by decide) (by decide) (ty_120 hS.1.1) ?_
                    refine Tr.tp 177 (fx_120_102 hS.1.1) ?_
                    refine Tr.iload (pc := 84) (i := 4) d_X12_asksCost_84 rfl ?_
                    refine Tr.iconst (pc := 86) d_X12_asksCost_86 (by decide) ?_
                    refine Tr.zastS (pc := 87) (P := St Tru ws_X12_asksCost_120_w1 as_X12_asksCost_120_w1 M0) d_X12_asksCost_87 (ty_177 hS.1.1) (by omega) (by omega) (by omega) (sa_177 hS (by decide) (by omega) trivial) (fun M87 hS w87 => ?_)
                    refine Tr.iincV (pc := 88) (n2 := (p74_4 + 1)) (ls2 := [(4, (0, (p74_4 + 1))), (0, (2, 120)), (1, (0, a1)), (2, (0, p24_2)), (3, (0, (r37 + r43 + r50 + r54)))]) d_X12_asksCost_88 rfl (by decide) ((w32_id (by and_intros <;> omega)).trans (by omega)) rfl ?_
                    refine Tr.goto (pc := 91) (tgt := 74) d_X12_asksCost_91 rfl ?_
                    refine Tr.pick [1, 2, 3, 4, 0] (ls2 := [(0, (2, 120)), (1, (0, a1)), (2, (0, p24_2)), (3, (0, (r37 + r43 + r50 + r54))), (4, (0, (p74_4 + 1)))]) rfl ?_
                    exact J74 _ _ hS (by and_intros <;> omega) ((Wr.b w87 rfl).trans k74_120_113) ((Wr.b w87 rfl).trans k74_126_1) ((Wr.b w87 rfl).trans k74_185_p24_210) ((Wr.b w87 rfl).trans k74_186_p24_210) ((Wr.b w87 rfl).trans k74_189_p24_210) (by omega) (me_lt hm74 (by omega) (by omega))
              refine Tr.pick [2, 3, 4, 1, 0] (ls2 := [(0, (2, 120)), (1, (0, a1)), (2, (0, p24_2)), (3, (0, (r37 + r43 + r50 + r54))), (4, (0, (r37 + r43)))]) rfl ?_
              exact J74 _ _ _ hS (by and_intros <;> omega) ((kp_X12_tails_120_w1_120_113 h54).trans er26) ((kp_X12_tails_120_w1_126_1 h54).trans k24_126_1) ((ka_X12_tails_120_w1_185 h54 _).trans er37) ((ka_X12_tails_120_w1_186 h54 _).trans er50) ((ka_X12_tails_120_w1_189 h54 _).trans er43) (by exact (hd_o z54_0).elim (fun h1 => by omega) (fun h1 => by omega)) (Nat.lt_succ_self _)
        refine Tr.pick [1, 2, 0] (ls2 := [(0, (2, 120)), (1, (0, a1)), (2, (0, 0))]) rfl ?_
        exact J24 _ _ _ hS (by omega) k2_126_1 (Nat.lt_succ_self _)
      · refine Tr.aload_n (pc := 9) (i := 0) d_X12_asksCost_9 rfl rfl ?_
        refine Tr.getf (pc := 10) d_X12_asksCost_10 f_12_321 (by decide) (by decide) (ty_120 hS.1.1) ?_
        refine Tr.tp 177 (fx_120_102 hS.1.1) ?_
        refine Tr.iload_n (pc := 13) (i := 2) d_X12_asksCost_13 rfl rfl ?_
        refine Tr.iconst (pc := 14) d_X12_asksCost_14 (by decide) ?_
        refine Tr.zastS (pc := 15) (P := St Tru ws_X12_asksCost_120_w1 as_X12_asksCost_120_w1 M0) d_X12_asksCost_15 (ty_177 hS.1.1) (by omega) (by omega) (by omega) (sa_177 hS (by decide) (by omega) trivial) (fun M15 hS w15 => ?_)
        refine Tr.iincV (pc := 16) (n2 := (p2_2 + 1)) (ls2 := [(2, (0, (p2_2 + 1))), (0, (2, 120)), (1, (0, a1))]) d_X12_asksCost_16 rfl (by decide) ((w32_id (by and_intros <;> omega)).trans (by omega)) rfl ?_
        refine Tr.goto (pc := 19) (tgt := 2) d_X12_asksCost_19 rfl ?_
        refine Tr.pick [1, 2, 0] (ls2 := [(0, (2, 120)), (1, (0, a1)), (2, (0, (p2_2 + 1)))]) rfl ?_
        exact J2 _ _ hS (by and_intros <;> omega) ((Wr.b w15 rfl).trans k2_126_1) (me_lt hm2 (by omega) (by omega))
  refine Tr.pick [1, 2, 0] (ls2 := [(0, (2, 120)), (1, (0, a1)), (2, (0, 0))]) rfl ?_
  exact J2 _ _ _ hS (by omega) eg126_1 (Nat.lt_succ_self _)

set_option maxRecDepth 100000 in
set_option maxHeartbeats 4000000 in
theorem ns_X12_asksCost_120_w1 {l : Launch} {K : EC} {M0 : Mem} {G126_1 : Int} (hI : In Tru M0) (k126_1 : rd M0 126 1 = G126_1) (en_120_12 : rd M0 120 12 = 1) (a1 : Int) (ha1 : 0 ≤ a1 ∧ a1 ≤ 5)  (hq0 : a1 < G126_1) (hF_Bk1 : Bk1 M0) : Tr l K 3 mX12_asksCost 0 [(0, (2, 120)), (1, (0, a1))] [] M0 (fun M' r => St Tru ws_X12_asksCost_120_w1 as_X12_asksCost_120_w1 M0 M' ∧ ∃ v : Int, r = some (1, v) ∧ (-9223372036854775808) ≤ v ∧ v ≤ 9223372036854775807) := by
  subst k126_1
  refine Tr.imp (sp_X12_asksCost_120_w1 hI en_120_12 a1 ha1 hq0 hF_Bk1) ?_
  rintro M' _ ⟨hS, v, rfl, lr, ur⟩
  exact ⟨hS, v, rfl, lr, ur⟩

def ws_X12_together_120_w1 : List (Int × Int) := [(120, 117)]
def as_X12_together_120_w1 : List Int := [177, 188, 189]
def q_X12_together_120_w1 (M0 M' : Mem) (r : Option PV) : Prop := St Tru ws_X12_together_120_w1 as_X12_together_120_w1 M0 M' ∧ ∃ v : Int, r = some (0, v) ∧ (-2147483648) ≤ v ∧ v ≤ 2147483647
theorem kp_X12_together_120_w1_120_12 {q : Mem → Prop} {M0 M : Mem} (h : St q ws_X12_together_120_w1 as_X12_together_120_w1 M0 M) : rd M 120 12 = rd M0 120 12 := St.kp h (by decide) (by decide) (by decide)
theorem kp_X12_isPart_120_w1_120_113 {q : Mem → Prop} {M0 M : Mem} (h : St q ws_X12_isPart_120_w1 as_X12_isPart_120_w1 M0 M) : rd M 120 113 = rd M0 120 113 := St.kp h (by decide) (by decide) (by decide)
theorem ka_X12_together_120_w1_131 {q : Mem → Prop} {M0 M : Mem} (h : St q ws_X12_together_120_w1 as_X12_together_120_w1 M0 M) (j : Int) : rd M 131 j = rd M0 131 j := St.ka h (by decide) (by decide) (by decide)
theorem ka_X12_together_120_w1_137 {q : Mem → Prop} {M0 M : Mem} (h : St q ws_X12_together_120_w1 as_X12_together_120_w1 M0 M) (j : Int) : rd M 137 j = rd M0 137 j := St.ka h (by decide) (by decide) (by decide)
theorem ka_X12_together_120_w1_138 {q : Mem → Prop} {M0 M : Mem} (h : St q ws_X12_together_120_w1 as_X12_together_120_w1 M0 M) (j : Int) : rd M 138 j = rd M0 138 j := St.ka h (by decide) (by decide) (by decide)
theorem ka_X12_together_120_w1_139 {q : Mem → Prop} {M0 M : Mem} (h : St q ws_X12_together_120_w1 as_X12_together_120_w1 M0 M) (j : Int) : rd M 139 j = rd M0 139 j := St.ka h (by decide) (by decide) (by decide)
theorem ka_X12_together_120_w1_140 {q : Mem → Prop} {M0 M : Mem} (h : St q ws_X12_together_120_w1 as_X12_together_120_w1 M0 M) (j : Int) : rd M 140 j = rd M0 140 j := St.ka h (by decide) (by decide) (by decide)
theorem ka_X12_together_120_w1_141 {q : Mem → Prop} {M0 M : Mem} (h : St q ws_X12_together_120_w1 as_X12_together_120_w1 M0 M) (j : Int) : rd M 141 j = rd M0 141 j := St.ka h (by decide) (by decide) (by decide)
theorem ka_X12_together_120_w1_142 {q : Mem → Prop} {M0 M : Mem} (h : St q ws_X12_together_120_w1 as_X12_together_120_w1 M0 M) (j : Int) : rd M 142 j = rd M0 142 j := St.ka h (by decide) (by decide) (by decide)
theorem ka_X12_together_120_w1_143 {q : Mem → Prop} {M0 M : Mem} (h : St q ws_X12_together_120_w1 as_X12_together_120_w1 M0 M) (j : Int) : rd M 143 j = rd M0 143 j := St.ka h (by decide) (by decide) (by decide)
theorem kp_X12_together_120_w1_126_1 {q : Mem → Prop} {M0 M : Mem} (h : St q ws_X12_together_120_w1 as_X12_together_120_w1 M0 M) : rd M 126 1 = rd M0 126 1 := St.kp h (by decide) (by decide) (by decide)
theorem kp_X12_together_120_w1_136_1 {q : Mem → Prop} {M0 M : Mem} (h : St q ws_X12_together_120_w1 as_X12_together_120_w1 M0 M) : rd M 136 1 = rd M0 136 1 := St.kp h (by decide) (by decide) (by decide)
theorem kp_X12_together_120_w1_123_1 {q : Mem → Prop} {M0 M : Mem} (h : St q ws_X12_together_120_w1 as_X12_together_120_w1 M0 M) : rd M 123 1 = rd M0 123 1 := St.kp h (by decide) (by decide) (by decide)
theorem kp_X12_together_120_w1_124_1 {q : Mem → Prop} {M0 M : Mem} (h : St q ws_X12_together_120_w1 as_X12_together_120_w1 M0 M) : rd M 124 1 = rd M0 124 1 := St.kp h (by decide) (by decide) (by decide)
theorem kp_X12_asksCost_120_w1_120_113 {q : Mem → Prop} {M0 M : Mem} (h : St q ws_X12_asksCost_120_w1 as_X12_asksCost_120_w1 M0 M) : rd M 120 113 = rd M0 120 113 := St.kp h (by decide) (by decide) (by decide)
theorem ka_X12_asksCost_120_w1_187 {q : Mem → Prop} {M0 M : Mem} (h : St q ws_X12_asksCost_120_w1 as_X12_asksCost_120_w1 M0 M) (j : Int) : rd M 187 j = rd M0 187 j := St.ka h (by decide) (by decide) (by decide)
theorem ka_X12_asksCost_120_w1_189 {q : Mem → Prop} {M0 M : Mem} (h : St q ws_X12_asksCost_120_w1 as_X12_asksCost_120_w1 M0 M) (j : Int) : rd M 189 j = rd M0 189 j := St.ka h (by decide) (by decide) (by decide)
theorem kp_X12_isPart_120_w1_126_1 {q : Mem → Prop} {M0 M : Mem} (h : St q ws_X12_isPart_120_w1 as_X12_isPart_120_w1 M0 M) : rd M 126 1 = rd M0 126 1 := St.kp h (by decide) (by decide) (by decide)
theorem ka_X12_isPart_120_w1_187 {q : Mem → Prop} {M0 M : Mem} (h : St q ws_X12_isPart_120_w1 as_X12_isPart_120_w1 M0 M) (j : Int) : rd M 187 j = rd M0 187 j := St.ka h (by decide) (by decide) (by decide)
theorem ka_X12_isPart_120_w1_189 {q : Mem → Prop} {M0 M : Mem} (h : St q ws_X12_isPart_120_w1 as_X12_isPart_120_w1 M0 M) (j : Int) : rd M 189 j = rd M0 189 j := St.ka h (by decide) (by decide) (by decide)
set_option maxRecDepth 100000 in
set_option maxHeartbeats 4000000 in
theorem sp_X12_together_120_w1 {l : Launch} {K : EC} {M0 : Mem} (hI : In Tru M0) (en_120_12 : rd M0 120 12 = 1) (a1 : Int) (ha1 : (-2147483648) ≤ a1 ∧ a1 ≤ 2147483647)  (hF_Bk1 : Bk1 M0) : Tr l K 4 mX12_together 0 [(0, (2, 120)), (1, (0, a1))] [] M0 (q_X12_together_120_w1 M0) := by
  have hS : St Tru ws_X12_together_120_w1 as_X12_together_120_w1 M0 M0 := St.rf hI
  obtain ⟨g126_1, eg126_1⟩ : ∃ v, rd M0 126 1 = v := ⟨_, rfl⟩
  have bg126_1 : 0 ≤ g126_1 ∧ g126_1 ≤ 6 := by rw [← eg126_1]; exact ir_126_1 hI.2.1
  obtain ⟨g120_113, eg120_113⟩ : ∃ v, rd M0 120 113 = v := ⟨_, rfl⟩
  have bg120_113 : 0 ≤ g120_113 ∧ g120_113 ≤ 6 := by rw [← eg120_113]; exact ir_120_113 hI.2.1
  obtain ⟨g9020_0, eg9020_0⟩ : ∃ v, shv M0 = v := ⟨_, rfl⟩
  have bg9020_0 : (-46655) ≤ g9020_0 ∧ g9020_0 ≤ 46655 := by rw [← eg9020_0]; exact (shv_b hI.2.1)
  refine Tr.aload_n (pc := 0) (i := 0) d_X12_together_0 rfl rfl ?_
  refine Tr.iload_n (pc := 1) (i := 1) d_X12_together_1 rfl rfl ?_
  refine Tr.callV (pc := 2) (as := [_]) d_X12_together_2 s_12_555 ok_X12_isPart rfl rfl (Nat.le_of_ble_eq_true rfl) (Nat.le_of_ble_eq_true rfl) (by decide) (ty_120 hS.1.1) ?_
  refine Tr.imp (Tr.deep (by decide) (ns_X12_isPart_120_w1 (G126_1 := g126_1) hS.1 (eg126_1) ((kp_X12_together_120_w1_120_12 hS).trans en_120_12) a1 (by and_intros <;> omega))) ?_
  rintro M2 _ ⟨h2, r2, rfl, lr2, ur2, z2_0⟩
  have hS := St.tr hS h2 (by decide) (by decide)
  refine Tr.sc [(0, r2)] rfl ?_
  refine Tr.if_eq (pc := 5) (tgt := 15) d_X12_together_5 rfl (fun c5 => ?_) (fun c5 => ?_)
  · refine Tr.iconst (pc := 15) d_X12_together_15 (by decide) ?_
    exact Tr.iret (pc := 16) d_X12_together_16 rfl ⟨hS, _, rfl, by omega, by omega⟩
  · have c5b : 1 ≤ r2 ∧ r2 ≤ 1 := by omega
    replace c5 := hd_i c5
    refine Tr.aload_n (pc := 8) (i := 0) d_X12_together_8 rfl rfl ?_
    refine Tr.getf (pc := 9) d_X12_together_9 f_12_354 (by decide) (by decide) (ty_120 hS.1.1) ?_
    refine Tr.tp g120_113 ((kp_X12_isPart_120_w1_120_113 h2).trans eg120_113) ?_
    refine Tr.if_ne (pc := 12) (tgt := 17) d_X12_together_12 rfl (fun c12 => ?_) (fun c12 => ?_)
    · have c12b : 1 ≤ g120_113 ∧ g120_113 ≤ 6 := by omega
      replace c12 := hd_i c12
      refine Tr.iconst (pc := 17) d_X12_together_17 (by decide) ?_
      refine Tr.istore_n (pc := 18) (i := 2) (ls2 := [(2, (0, 0)), (0, (2, 120)), (1, (0, a1))]) d_X12_together_18 rfl (by decide) rfl ?_
      have J19 : ∀ (n19 : Nat) (M : Mem) (p19_2 u19_9020_0 : Int), St Tru ws_X12_together_120_w1 as_X12_together_120_w1 M0 M → (0 ≤ p19_2 ∧ p19_2 ≤ 6) → ((-46655) ≤ u19_9020_0 ∧ u19_9020_0 ≤ 46655) → rd M 120 113 = g120_113 → rd M 126 1 = g126_1 → shv M = u19_9020_0 → (0 ≤ a1 ∧ a1 < g126_1) → (Sz M p19_2) → (6 - p19_2).toNat < n19 → Tr l K 4 mX12_together 19 [(0, (2, 120)), (1, (0, a1)), (2, (0, p19_2))] [] M (q_X12_together_120_w1 M0) := by
        intro n19
        induction n19 with
        | zero => intro M p19_2 u19_9020_0 hS bp19_2 bu19_9020_0 k19_120_113 k19_126_1 k19_9020_0 t19_0 tp19_0 hm19; exact absurd hm19 (Nat.not_lt_zero _)
        | succ n19 J19 =>
          intro M p19_2 u19_9020_0 hS bp19_2 bu19_9020_0 k19_120_113 k19_126_1 k19_9020_0 t19_0 tp19_0 hm19
          refine Tr.iload_n (pc := 19) (i := 2) d_X12_together_19 rfl rfl ?_
          refine Tr.bipush (pc := 20) d_X12_together_20 rfl (by decide) ?_
          refine Tr.icmp_ge (pc := 22) (tgt := 38) d_X12_together_22 rfl (fun c22 => ?_) (fun c22 => ?_)
          · refine Tr.ldc2 (pc := 38) d_X12_together_38 kl_12_686 (by decide) ?_
            refine Tr.lstore_n (pc := 41) (i := 2) (ls2 := [(2, (1, (-1))), (0, (2, 120)), (1, (0, a1))]) d_X12_together_41 rfl (by decide) rfl ?_
            refine Tr.iconst (pc := 42) d_X12_together_42 (by decide) ?_
            refine Tr.istore (pc := 43) (i := 4) (ls2 := [(4, (0, 0)), (2, (1, (-1))), (0, (2, 120)), (1, (0, a1))]) d_X12_together_43 (by decide) rfl ?_
            refine Tr.iconst (pc := 45) d_X12_together_45 (by decide) ?_
            refine Tr.istore (pc := 46) (i := 5) (ls2 := [(5, (0, 1)), (4, (0, 0)), (2, (1, (-1))), (0, (2, 120)), (1, (0, a1))]) d_X12_together_46 (by decide) rfl ?_
            have J48 : ∀ (n48 : Nat) (M : Mem) (p48_2 p48_4 p48_5 u48_9020_0 : Int), St Tru ws_X12_together_120_w1 as_X12_together_120_w1 M0 M → ((-9223372036854775808) ≤ p48_2 ∧ p48_2 ≤ 9223372036854775807) → ((-2147483648) ≤ p48_4 ∧ p48_4 ≤ 2147483647) → (0 ≤ p48_5 ∧ p48_5 ≤ 1) → ((-46655) ≤ u48_9020_0 ∧ u48_9020_0 ≤ 46655) → rd M 120 113 = g120_113 → rd M 126 1 = g126_1 → shv M = u48_9020_0 → (0 ≤ a1 ∧ a1 < g126_1) → (p48_5 = 0 ∨ p48_5 = 1) → (Sg M) → (100000 * p48_5 + u48_9020_0 + 46656).toNat < n48 → Tr l K 4 mX12_together 48 [(0, (2, 120)), (1, (0, a1)), (2, (1, p48_2)), (4, (0, p48_4)), (5, (0, p48_5))] [] M (q_X12_together_120_w1 M0) := by
              intro n48
              induction n48 with
              | zero => intro M p48_2 p48_4 p48_5 u48_9020_0 hS bp48_2 bp48_4 bp48_5 bu48_9020_0 k48_120_113 k48_126_1 k48_9020_0 t48_0 t48_1 tp48_0 hm48; exact absurd hm48 (Nat.not_lt_zero _)
              | succ n48 J48 =>
                intro M p48_2 p48_4 p48_5 u48_9020_0 hS bp48_2 bp48_4 bp48_5 bu48_9020_0 k48_120_113 k48_126_1 k48_9020_0 t48_0 t48_1 tp48_0 hm48
                clear k19_120_113 k19_126_1 k19_9020_0
                replace t48_1 := hd_i t48_1
                refine Tr.iload (pc := 48) (i := 5) d_X12_together_48 rfl ?_
                refine Tr.if_eq (pc := 50) (tgt := 236) d_X12_together_50 rfl (fun c50 => ?_) (fun c50 => ?_)
                · refine Tr.aload_n (pc := 236) (i := 0) d_X12_together_236 rfl rfl ?_
                  refine Tr.aload_n (pc := 237) (i := 0) d_X12_together_237 rfl rfl ?_
                  refine Tr.getf (pc := 238) d_X12_together_238 f_12_354 (by decide) (by decide) (ty_120 hS.1.1) ?_
                  refine Tr.tp g120_113 k48_120_113 ?_
                  refine Tr.putfS (pc := 241) (P := St Tru ws_X12_together_120_w1 as_X12_together_120_w1 M0) d_X12_together_241 f_12_366 (by decide) (by decide) (ty_120 hS.1.1) (st_120_117 hS (by decide) (by and_intros <;> omega) trivial) (fun M241 hS w241 => ?_)
                  refine Tr.lload_n (pc := 244) (i := 2) d_X12_together_244 rfl rfl ?_
                  refine Tr.l2i (pc := 245) d_X12_together_245 ?_
                  refine Tr.gen (P := fun v => (-2147483648) ≤ v ∧ v ≤ 2147483647) (w32_b _) (fun r245 er245 br245 => ?_)
                  exact Tr.iret (pc := 246) d_X12_together_246 rfl ⟨hS, _, rfl, (by omega), (by omega)⟩
                · have c50b : 1 ≤ p48_5 ∧ p48_5 ≤ 1 := by omega
                  replace c50 := hd_i c50
                  refine Tr.aload_n (pc := 53) (i := 0) d_X12_together_53 rfl rfl ?_
                  refine Tr.iload_n (pc := 54) (i := 1) d_X12_together_54 rfl rfl ?_
                  refine Tr.callV (pc := 55) (as := [_]) d_X12_together_55 s_12_689 ok_X12_asksCost rfl rfl (Nat.le_of_ble_eq_true rfl) (Nat.le_of_ble_eq_true rfl) (by decide) (ty_120 hS.1.1) ?_
                  refine Tr.imp (Tr.deep (by decide) (ns_X12_asksCost_120_w1 (G126_1 := g126_1) hS.1 (k48_126_1) ((kp_X12_together_120_w1_120_12 hS).trans en_120_12) a1 (by and_intros <;> omega) (by omega) (Bk1.of hF_Bk1 (fun j => (ka_X12_together_120_w1_131 hS _)) (fun j => (ka_X12_together_120_w1_137 hS _)) (fun j => (ka_X12_together_120_w1_138 hS _)) (fun j => (ka_X12_together_120_w1_139 hS _)) (fun j => (ka_X12_together_120_w1_140 hS _)) (fun j => (ka_X12_together_120_w1_141 hS _)) (fun j => (ka_X12_together_120_w1_142 hS _)) (fun j => (ka_X12_together_120_w1_143 hS _)) (kp_X12_together_120_w1_126_1 hS) (kp_X12_together_120_w1_136_1 hS) (kp_X12_together_120_w1_123_1 hS) (kp_X12_together_120_w1_124_1 hS)))) ?_
                  rintro M55 _ ⟨h55, r55, rfl, lr55, ur55⟩
                  have hS := St.tr hS h55 (by decide) (by decide)
                  refine Tr.sc [(1, r55)] rfl ?_
                  refine Tr.lstore (pc := 58) (i := 6) (ls2 := [(6, (1, r55)), (0, (2, 120)), (1, (0, a1)), (2, (1, p48_2)), (4, (0, p48_4)), (5, (0, p48_5))]) d_X12_together_58 (by decide) rfl ?_
                  refine Tr.iconst (pc := 60) d_X12_together_60 (by decide) ?_
                  refine Tr.istore (pc := 61) (i := 8) (ls2 := [(8, (0, 0)), (6, (1, r55)), (0, (2, 120)), (1, (0, a1)), (2, (1, p48_2)), (4, (0, p48_4)), (5, (0, p48_5))]) d_X12_together_61 (by decide) rfl ?_
                  refine Tr.iconst (pc := 63) d_X12_together_63 (by decide) ?_
                  refine Tr.istore (pc := 64) (i := 9) (ls2 := [(9, (0, 0)), (8, (0, 0)), (6, (1, r55)), (0, (2, 120)), (1, (0, a1)), (2, (1, p48_2)), (4, (0, p48_4)), (5, (0, p48_5))]) d_X12_together_64 (by decide) rfl ?_
                  have J66 : ∀ (n66 : Nat) (M : Mem) (p66_8 p66_9 : Int), St Tru ws_X12_together_120_w1 as_X12_together_120_w1 M0 M → ((-2147483648) ≤ p66_8 ∧ p66_8 ≤ 2147483647) → (0 ≤ p66_9 ∧ p66_9 ≤ 6) → rd M 120 113 = g120_113 → rd M 126 1 = g126_1 → shv M = u48_9020_0 → (0 ≤ a1 ∧ a1 < g126_1) → (u48_9020_0 = u48_9020_0) → (Sg M) → (6 - p66_9).toNat < n66 → Tr l K 4 mX12_together 66 [(0, (2, 120)), (1, (0, a1)), (2, (1, p48_2)), (4, (0, p48_4)), (6, (1, r55)), (8, (0, p66_8)), (9, (0, p66_9))] [] M (q_X12_together_120_w1 M0) := by
                    intro n66
                    induction n66 with
                    | zero => intro M p66_8 p66_9 hS bp66_8 bp66_9 k66_120_113 k66_126_1 k66_9020_0 t66_0 t66_1 tp66_0 hm66; exact absurd hm66 (Nat.not_lt_zero _)
                    | succ n66 J66 =>
                      intro M p66_8 p66_9 hS bp66_8 bp66_9 k66_120_113 k66_126_1 k66_9020_0 t66_0 t66_1 tp66_0 hm66
                      clear k48_120_113 k48_126_1 k48_9020_0
                      refine Tr.iload (pc := 66) (i := 9) d_X12_together_66 rfl ?_
                      refine Tr.aload_n (pc := 68) (i := 0) d_X12_together_68 rfl rfl ?_
                      refine Tr.getf (pc := 69) d_X12_together_69 f_12_354 (by decide) (by decide) (ty_120 hS.1.1) ?_
                      refine Tr.tp g120_113 k66_120_113 ?_
                      refine Tr.icmp_ge (pc := 72) (tgt := 93) d_X12_together_72 rfl (fun c72 => ?_) (fun c72 => ?_)
                      · refine Tr.lload_n (pc := 93) (i := 2) d_X12_together_93 rfl rfl ?_
                        refine Tr.ldc2 (pc := 94) d_X12_together_94 kl_12_686 (by decide) ?_
                        refine Tr.lcmp (pc := 97) d_X12_together_97 ?_
                        refine Tr.gen (P := fun v => (v = 1 ∧ (-1) < p48_2) ∨ (v = 0 ∧ p48_2 = (-1)) ∨ (v = -1 ∧ p48_2 < (-1))) (f_lcmp_c _ _) (fun r97 er97 br97 => ?_)
                        replace br97 := hd_i br97
                        have J161 : ∀ (M : Mem) (p161_2 p161_4 : Int), St Tru ws_X12_together_120_w1 as_X12_together_120_w1 M0 M → ((-9223372036854775808) ≤ p161_2 ∧ p161_2 ≤ 9223372036854775807) → ((-2147483648) ≤ p161_4 ∧ p161_4 ≤ 2147483647) → rd M 120 113 = g120_113 → rd M 126 1 = g126_1 → shv M = u48_9020_0 → (0 ≤ a1 ∧ a1 < g126_1) → (u48_9020_0 = u48_9020_0) → (Sg M) → Tr l K 4 mX12_together 161 [(0, (2, 120)), (1, (0, a1)), (2, (1, p161_2)), (4, (0, p161_4))] [] M (q_X12_together_120_w1 M0) := by
                          intro M p161_2 p161_4 hS bp161_2 bp161_4 k161_120_113 k161_126_1 k161_9020_0 t161_0 t161_1 tp161_0
                          clear k66_120_113 k66_126_1 k66_9020_0 er97
                          refine Tr.aload_n (pc := 161) (i := 0) d_X12_together_161 rfl rfl ?_
                          refine Tr.getf (pc := 162) d_X12_together_162 f_12_354 (by decide) (by decide) (ty_120 hS.1.1) ?_
                          refine Tr.tp g120_113 k161_120_113 ?_
                          refine Tr.iconst (pc := 165) d_X12_together_165 (by decide) ?_
                          refine Tr.isub (pc := 166) d_X12_together_166 ?_
                          refine Tr.tp (g120_113 - 1) ((w32_id (by and_intros <;> omega)).trans (by omega)) ?_
                          refine Tr.istore (pc := 167) (i := 9) (ls2 := [(9, (0, (g120_113 - 1))), (0, (2, 120)), (1, (0, a1)), (2, (1, p161_2)), (4, (0, p161_4))]) d_X12_together_167 (by decide) rfl ?_
                          have J169 : ∀ (n169 : Nat) (M : Mem) (p169_9 u169_9020_0 : Int), St Tru ws_X12_together_120_w1 as_X12_together_120_w1 M0 M → ((-1) ≤ p169_9 ∧ p169_9 ≤ 5) → ((-46655) ≤ u169_9020_0 ∧ u169_9020_0 ≤ 46655) → rd M 120 113 = g120_113 → rd M 126 1 = g126_1 → shv M = u169_9020_0 → (0 ≤ a1 ∧ a1 < g126_1) → ((p169_9 = 5 ∧ u169_9020_0 ≤ u48_9020_0 + 0) ∨ (p169_9 = 4 ∧ u169_9020_0 ≤ u48_9020_0 + 5) ∨ (p169_9 = 3 ∧ u169_9020_0 ≤ u48_9020_0 + 35) ∨ (p169_9 = 2 ∧ u169_9020_0 ≤ u48_9020_0 + 215) ∨ (p169_9 = 1 ∧ u169_9020_0 ≤ u48_9020_0 + 1295) ∨ (p169_9 = 0 ∧ u169_9020_0 ≤ u48_9020_0 + 7775) ∨ (p169_9 = -1 ∧ u169_9020_0 ≤ u48_9020_0 + 46655)) → (Sg M) → (p169_9 + 1).toNat < n169 → Tr l K 4 mX12_together 169 [(0, (2, 120)), (1, (0, a1)), (2, (1, p161_2)), (4, (0, p161_4)), (9, (0, p169_9))] [] M (q_X12_together_120_w1 M0) := by
                            intro n169
                            induction n169 with
                            | zero => intro M p169_9 u169_9020_0 hS bp169_9 bu169_9020_0 k169_120_113 k169_126_1 k169_9020_0 t169_0 t169_1 tp169_0 hm169; exact absurd hm169 (Nat.not_lt_zero _)
                            | succ n169 J169 =>
                              intro M p169_9 u169_9020_0 hS bp169_9 bu169_9020_0 k169_120_113 k169_126_1 k169_9020_0 t169_0 t169_1 tp169_0 hm169
                              clear k161_120_113 k161_126_1 k161_9020_0
                              replace t169_1 := hd_i t169_1
                              refine Tr.iload (pc := 169) (i := 9) d_X12_together_169 rfl ?_
                              have J205 : ∀ (M : Mem), St Tru ws_X12_together_120_w1 as_X12_together_120_w1 M0 M → rd M 120 113 = g120_113 → rd M 126 1 = g126_1 → shv M = u169_9020_0 → (0 ≤ a1 ∧ a1 < g126_1) → ((p169_9 = 5 ∧ u169_9020_0 ≤ u48_9020_0 + 0) ∨ (p169_9 = 4 ∧ u169_9020_0 ≤ u48_9020_0 + 5) ∨ (p169_9 = 3 ∧ u169_9020_0 ≤ u48_9020_0 + 35) ∨ (p169_9 = 2 ∧ u169_9020_0 ≤ u48_9020_0 + 215) ∨ (p169_9 = 1 ∧ u169_9020_0 ≤ u48_9020_0 + 1295) ∨ (p169_9 = 0 ∧ u169_9020_0 ≤ u48_9020_0 + 7775) ∨ (p169_9 = -1 ∧ u169_9020_0 ≤ u48_9020_0 + 46655)) → (p169_9 < 0 ∨ (rd M 189 p169_9 < rd M 187 p169_9 ∧ rd M 189 p169_9 ≤ 4)) → (Sg M) → Tr l K 4 mX12_together 205 [(0, (2, 120)), (1, (0, a1)), (2, (1, p161_2)), (4, (0, p161_4)), (9, (0, p169_9))] [] M (q_X12_together_120_w1 M0) := by
                                intro M  hS  k205_120_113 k205_126_1 k205_9020_0 t205_0 t205_1 t205_2 tp205_0
                                clear k169_120_113 k169_126_1 k169_9020_0
                                replace t205_1 := hd_i t205_1
                                replace t205_2 := hd_i t205_2
                                refine Tr.iload (pc := 205) (i := 9) d_X12_together_205 rfl ?_
                                have J215 : ∀ (M : Mem) (q215_0 : Int), St Tru ws_X12_together_120_w1 as_X12_together_120_w1 M0 M → (0 ≤ q215_0 ∧ q215_0 ≤ 1) → rd M 120 113 = g120_113 → rd M 126 1 = g126_1 → shv M = u169_9020_0 → (0 ≤ a1 ∧ a1 < g126_1) → ((p169_9 = 5 ∧ u169_9020_0 ≤ u48_9020_0 + 0) ∨ (p169_9 = 4 ∧ u169_9020_0 ≤ u48_9020_0 + 5) ∨ (p169_9 = 3 ∧ u169_9020_0 ≤ u48_9020_0 + 35) ∨ (p169_9 = 2 ∧ u169_9020_0 ≤ u48_9020_0 + 215) ∨ (p169_9 = 1 ∧ u169_9020_0 ≤ u48_9020_0 + 1295) ∨ (p169_9 = 0 ∧ u169_9020_0 ≤ u48_9020_0 + 7775) ∨ (p169_9 = -1 ∧ u169_9020_0 ≤ u48_9020_0 + 46655)) → (p169_9 < 0 ∨ (rd M 189 p169_9 < rd M 187 p169_9 ∧ rd M 189 p169_9 ≤ 4)) → ((q215_0 = 1 ∧ 0 ≤ p169_9) ∨ (q215_0 = 0 ∧ p169_9 < 0)) → (Sg M) → Tr l K 4 mX12_together 215 [(0, (2, 120)), (1, (0, a1)), (2, (1, p161_2)), (4, (0, p161_4)), (9, (0, p169_9))] [(0, q215_0)] M (q_X12_together_120_w1 M0) := by
                                  intro M q215_0 hS bq215_0 k215_120_113 k215_126_1 k215_9020_0 t215_0 t215_1 t215_2 t215_3 tp215_0
                                  clear k205_120_113 k205_126_1 k205_9020_0
                                  replace t215_1 := hd_i t215_1
                                  replace t215_2 := hd_i t215_2
                                  replace t215_3 := hd_i t215_3
                                  refine Tr.istore (pc := 215) (i := 5) (ls2 := [(5, (0, q215_0)), (0, (2, 120)), (1, (0, a1)), (2, (1, p161_2)), (4, (0, p161_4)), (9, (0, p169_9))]) d_X12_together_215 (by decide) rfl ?_
                                  refine Tr.iload (pc := 217) (i := 5) d_X12_together_217 rfl ?_
                                  have J233 : ∀ (M : Mem) (u233_9020_0 : Int), St Tru ws_X12_together_120_w1 as_X12_together_120_w1 M0 M → ((-46655) ≤ u233_9020_0 ∧ u233_9020_0 ≤ 46655) → rd M 120 113 = g120_113 → rd M 126 1 = g126_1 → shv M = u233_9020_0 → (0 ≤ a1 ∧ a1 < g126_1) → ((q215_0 = 1 ∧ u233_9020_0 < u48_9020_0) ∨ (q215_0 = 0 ∧ u233_9020_0 ≤ u48_9020_0 + 46655)) → (Sg M) → Tr l K 4 mX12_together 233 [(0, (2, 120)), (1, (0, a1)), (2, (1, p161_2)), (4, (0, p161_4)), (5, (0, q215_0))] [] M (q_X12_together_120_w1 M0) := by
                                    intro M u233_9020_0 hS bu233_9020_0 k233_120_113 k233_126_1 k233_9020_0 t233_0 t233_1 tp233_0
                                    clear k215_120_113 k215_126_1 k215_9020_0
                                    replace t233_1 := hd_i t233_1
                                    refine Tr.goto (pc := 233) (tgt := 48) d_X12_together_233 rfl ?_
                                    refine Tr.pick [0, 1, 2, 3, 4] (ls2 := [(0, (2, 120)), (1, (0, a1)), (2, (1, p161_2)), (4, (0, p161_4)), (5, (0, q215_0))]) rfl ?_
                                    exact J48 _ _ _ _ _ hS (by omega) (by and_intros <;> omega) (by and_intros <;> omega) (by and_intros <;> omega) k233_120_113 k233_126_1 k233_9020_0 (by and_intros <;> omega) (by omega) tp233_0 (me_lt hm48 (by exact (hd_o t233_1).elim (fun h1 => by omega) (fun h1 => by omega)) (by omega))
                                  refine Tr.if_eq (pc := 219) (tgt := 233) d_X12_together_219 rfl (fun c219 => ?_) (fun c219 => ?_)
                                  · refine Tr.pick [1, 2, 3, 4, 0] (ls2 := [(0, (2, 120)), (1, (0, a1)), (2, (1, p161_2)), (4, (0, p161_4)), (5, (0, q215_0))]) rfl ?_
                                    exact J233 _ _ hS (by and_intros <;> omega) k215_120_113 k215_126_1 k215_9020_0 (by and_intros <;> omega) (by exact (hd_o t215_1).elim (fun h1 => by omega) (fun h1 => h1.elim (fun h1 => by omega) (fun h1 => h1.elim (fun h1 => by omega) (fun h1 => h1.elim (fun h1 => by omega) (fun h1 => h1.elim (fun h1 => by omega) (fun h1 => h1.elim (fun h1 => by omega) (fun h1 => by omega))))))) tp215_0
                                  · have c219b : 1 ≤ q215_0 ∧ q215_0 ≤ 1 := by omega
                                    replace c219 := hd_i c219
                                    refine Tr.aload_n (pc := 222) (i := 0) d_X12_together_222 rfl rfl ?_
                                    refine Tr.getf (pc := 223) d_X12_together_223 f_12_372 (by decide) (by decide) (ty_120 hS.1.1) ?_
                                    refine Tr.tp 189 (fx_120_119 hS.1.1) ?_
                                    refine Tr.iload (pc := 226) (i := 9) d_X12_together_226 rfl ?_
                                    refine Tr.dup2 (pc := 228) d_X12_together_228 ne01 ne21 ?_
                                    refine Tr.iald (pc := 229) d_X12_together_229 (ty_189 hS.1.1) (by exact (hd_o t215_3).elim (fun h1 => by omega) (fun h1 => by omega)) (by omega) ?_
                                    refine Tr.gen (P := fun v => 0 ≤ v ∧ v ≤ 5) (ar_189 hS.1.2.1 _) (fun r229 er229 br229 => ?_)
                                    refine Tr.iconst (pc := 230) d_X12_together_230 (by decide) ?_
                                    refine Tr.iadd (pc := 231) d_X12_together_231 ?_
                                    refine Tr.tp (r229 + 1) ((w32_id (by and_intros <;> omega)).trans (by omega)) ?_
                                    have h9232 := hS
                                    refine Tr.iastS (pc := 232) (P := St Tru ws_X12_together_120_w1 as_X12_together_120_w1 M0) d_X12_together_232 (ty_189 hS.1.1) (by exact (hd_o t215_3).elim (fun h1 => by omega) (fun h1 => by omega)) (by omega) (sa_189 hS (by decide) (by exact (hd_o t215_3).elim (fun h1 => (hd_o t215_2).elim (fun h2 => by omega) (fun h2 => by omega)) (fun h1 => by omega)) trivial) (fun M232 hS w232 => ?_)
                                    obtain ⟨v232_9020, ev232_9020⟩ : ∃ v, shv M232 = v := ⟨_, rfl⟩
                                    have bv232_9020 : (-46655) ≤ v232_9020 ∧ v232_9020 ≤ 46655 := by rw [← ev232_9020]; exact shv_b hS.1.2.1
                                    have fv232_9020 : (p169_9 = 0 ∧ v232_9020 = u169_9020_0 + 7776 * r229 - 7776 * (r229 + 1)) ∨ (p169_9 = 1 ∧ v232_9020 = u169_9020_0 + 1296 * r229 - 1296 * (r229 + 1)) ∨ (p169_9 = 2 ∧ v232_9020 = u169_9020_0 + 216 * r229 - 216 * (r229 + 1)) ∨ (p169_9 = 3 ∧ v232_9020 = u169_9020_0 + 36 * r229 - 36 * (r229 + 1)) ∨ (p169_9 = 4 ∧ v232_9020 = u169_9020_0 + 6 * r229 - 6 * (r229 + 1)) ∨ (p169_9 = 5 ∧ v232_9020 = u169_9020_0 + r229 - (r229 + 1)) := by have h8 := shv_w w232 (er229) (by exact (hd_o t215_3).elim (fun h1 => by omega) (fun h1 => by omega)) (by omega); rw [ev232_9020, show shv M = u169_9020_0 from k215_9020_0] at h8; exact h8
                                    replace fv232_9020 := hd_i fv232_9020
                                    have hvw232 : (r229 + 1) ≤ rd M 187 p169_9 := by have h5 := hd_o t215_3; have h8 := hd_o t215_2; have h7 : rd M 189 p169_9 = r229 := (er229); have h6 : rd M 187 p169_9 = rd M 187 p169_9 := rfl; omega
                                    refine Tr.pick [1, 2, 3, 4, 0] (ls2 := [(0, (2, 120)), (1, (0, a1)), (2, (1, p161_2)), (4, (0, p161_4)), (5, (0, q215_0))]) rfl ?_
                                    exact J233 _ _ hS (by and_intros <;> omega) ((Wr.b w232 rfl).trans k215_120_113) ((Wr.b w232 rfl).trans k215_126_1) ev232_9020 (by and_intros <;> omega) (by exact (hd_o fv232_9020).elim (fun h1 => (hd_o t215_1).elim (fun h2 => by omega) (fun h2 => h2.elim (fun h2 => by omega) (fun h2 => h2.elim (fun h2 => by omega) (fun h2 => h2.elim (fun h2 => by omega) (fun h2 => h2.elim (fun h2 => by omega) (fun h2 => h2.elim (fun h2 => by omega) (fun h2 => by omega))))))) (fun h1 => h1.elim (fun h1 => (hd_o t215_1).elim (fun h2 => by omega) (fun h2 => h2.elim (fun h2 => by omega) (fun h2 => h2.elim (fun h2 => by omega) (fun h2 => h2.elim (fun h2 => by omega) (fun h2 => h2.elim (fun h2 => by omega) (fun h2 => h2.elim (fun h2 => by omega) (fun h2 => by omega))))))) (fun h1 => h1.elim (fun h1 => (hd_o t215_1).elim (fun h2 => by omega) (fun h2 => h2.elim (fun h2 => by omega) (fun h2 => h2.elim (fun h2 => by omega) (fun h2 => h2.elim (fun h2 => by omega) (fun h2 => h2.elim (fun h2 => by omega) (fun h2 => h2.elim (fun h2 => by omega) (fun h2 => by omega))))))) (fun h1 => h1.elim (fun h1 => (hd_o t215_1).elim (fun h2 => by omega) (fun h2 => h2.elim (fun h2 => by omega) (fun h2 => h2.elim (fun h2 => by omega) (fun h2 => h2.elim (fun h2 => by omega) (fun h2 => h2.elim (fun h2 => by omega) (fun h2 => h2.elim (fun h2 => by omega) (fun h2 => by omega))))))) (fun h1 => h1.elim (fun h1 => (hd_o t215_1).elim (fun h2 => by omega) (fun h2 => h2.elim (fun h2 => by omega) (fun h2 => h2.elim (fun h2 => by omega) (fun h2 => h2.elim (fun h2 => by omega) (fun h2 => h2.elim (fun h2 => by omega) (fun h2 => h2.elim (fun h2 => by omega) (fun h2 => by omega))))))) (fun h1 => (hd_o t215_1).elim (fun h2 => by omega) (fun h2 => h2.elim (fun h2 => by omega) (fun h2 => h2.elim (fun h2 => by omega) (fun h2 => h2.elim (fun h2 => by omega) (fun h2 => h2.elim (fun h2 => by omega) (fun h2 => h2.elim (fun h2 => by omega) (fun h2 => by omega)))))))))))) (Sg.wr tp215_0 w232 hvw232)
                                refine Tr.if_lt (pc := 207) (tgt := 214) d_X12_together_207 rfl (fun c207 => ?_) (fun c207 => ?_)
                                · refine Tr.iconst (pc := 214) d_X12_together_214 (by decide) ?_
                                  refine Tr.pick [0, 1, 2, 3, 4] (ls2 := [(0, (2, 120)), (1, (0, a1)), (2, (1, p161_2)), (4, (0, p161_4)), (9, (0, p169_9))]) rfl ?_
                                  exact J215 _ _ hS (by omega) k205_120_113 k205_126_1 k205_9020_0 (by and_intros <;> omega) (by first | exact (hd_o t205_1) | exact (hd_o t205_1).elim (fun h1 => by omega) (fun h1 => h1.elim (fun h1 => by omega) (fun h1 => h1.elim (fun h1 => by omega) (fun h1 => h1.elim (fun h1 => by omega) (fun h1 => h1.elim (fun h1 => by omega) (fun h1 => h1.elim (fun h1 => by omega) (fun h1 => by omega))))))) (by first | exact (hd_o t205_2) | exact (hd_o t205_2).elim (fun h1 => by omega) (fun h1 => by omega)) (by omega) tp205_0
                                · refine Tr.iconst (pc := 210) d_X12_together_210 (by decide) ?_
                                  refine Tr.goto (pc := 211) (tgt := 215) d_X12_together_211 rfl ?_
                                  refine Tr.pick [0, 1, 2, 3, 4] (ls2 := [(0, (2, 120)), (1, (0, a1)), (2, (1, p161_2)), (4, (0, p161_4)), (9, (0, p169_9))]) rfl ?_
                                  exact J215 _ _ hS (by omega) k205_120_113 k205_126_1 k205_9020_0 (by and_intros <;> omega) (by first | exact (hd_o t205_1) | exact (hd_o t205_1).elim (fun h1 => by omega) (fun h1 => h1.elim (fun h1 => by omega) (fun h1 => h1.elim (fun h1 => by omega) (fun h1 => h1.elim (fun h1 => by omega) (fun h1 => h1.elim (fun h1 => by omega) (fun h1 => h1.elim (fun h1 => by omega) (fun h1 => by omega))))))) (by first | exact (hd_o t205_2) | exact (hd_o t205_2).elim (fun h1 => by omega) (fun h1 => by omega)) (by omega) tp205_0
                              refine Tr.if_lt (pc := 171) (tgt := 205) d_X12_together_171 rfl (fun c171 => ?_) (fun c171 => ?_)
                              · refine Tr.pick [0, 1, 2, 3, 4] (ls2 := [(0, (2, 120)), (1, (0, a1)), (2, (1, p161_2)), (4, (0, p161_4)), (9, (0, p169_9))]) rfl ?_
                                exact J205 _ hS k169_120_113 k169_126_1 k169_9020_0 (by and_intros <;> omega) (by first | exact (hd_o t169_1) | exact (hd_o t169_1).elim (fun h1 => by omega) (fun h1 => h1.elim (fun h1 => by omega) (fun h1 => h1.elim (fun h1 => by omega) (fun h1 => h1.elim (fun h1 => by omega) (fun h1 => h1.elim (fun h1 => by omega) (fun h1 => h1.elim (fun h1 => by omega) (fun h1 => by omega))))))) (by omega) tp169_0
                              · refine Tr.aload_n (pc := 174) (i := 0) d_X12_together_174 rfl rfl ?_
                                refine Tr.getf (pc := 175) d_X12_together_175 f_12_372 (by decide) (by decide) (ty_120 hS.1.1) ?_
                                refine Tr.tp 189 (fx_120_119 hS.1.1) ?_
                                refine Tr.iload (pc := 178) (i := 9) d_X12_together_178 rfl ?_
                                refine Tr.iald (pc := 180) d_X12_together_180 (ty_189 hS.1.1) (by omega) (by omega) ?_
                                refine Tr.gen (P := fun v => 0 ≤ v ∧ v ≤ 5) (ar_189 hS.1.2.1 _) (fun r180 er180 br180 => ?_)
                                refine Tr.aload_n (pc := 181) (i := 0) d_X12_together_181 rfl rfl ?_
                                refine Tr.getf (pc := 182) d_X12_together_182 f_12_363 (by decide) (by decide) (ty_120 hS.1.1) ?_
                                refine Tr.tp 187 (fx_120_116 hS.1.1) ?_
                                refine Tr.iload (pc := 185) (i := 9) d_X12_together_185 rfl ?_
                                refine Tr.iald (pc := 187) d_X12_together_187 (ty_187 hS.1.1) (by omega) (by omega) ?_
                                refine Tr.gen (P := fun v => 0 ≤ v ∧ v ≤ 5) (ar_187 hS.1.2.1 _) (fun r187 er187 br187 => ?_)
                                have sg187 := tp169_0 p169_9 (by omega) (by omega)
                                rw [er180, er187] at sg187
                                refine Tr.icmp_ne (pc := 188) (tgt := 205) d_X12_together_188 rfl (fun c188 => ?_) (fun c188 => ?_)
                                · replace c188 := hd_i c188
                                  refine Tr.pick [0, 1, 2, 3, 4] (ls2 := [(0, (2, 120)), (1, (0, a1)), (2, (1, p161_2)), (4, (0, p161_4)), (9, (0, p169_9))]) rfl ?_
                                  have jr205_0 : rd M 189 p169_9 = r180 := er180
                                  have jr205_1 : rd M 187 p169_9 = r187 := er187
                                  exact J205 _ hS k169_120_113 k169_126_1 k169_9020_0 (by and_intros <;> omega) (by first | exact (hd_o t169_1) | exact (hd_o t169_1).elim (fun h1 => by omega) (fun h1 => h1.elim (fun h1 => by omega) (fun h1 => h1.elim (fun h1 => by omega) (fun h1 => h1.elim (fun h1 => by omega) (fun h1 => h1.elim (fun h1 => by omega) (fun h1 => h1.elim (fun h1 => by omega) (fun h1 => by omega))))))) (by exact (ne_o (hd_o c188)).elim (fun h1 => by omega) (fun h1 => by omega)) tp169_0
                                · refine Tr.aload_n (pc := 191) (i := 0) d_X12_together_191 rfl rfl ?_
                                  refine Tr.getf (pc := 192) d_X12_together_192 f_12_372 (by decide) (by decide) (ty_120 hS.1.1) ?_
                                  refine Tr.tp 189 (fx_120_119 hS.1.1) ?_
                                  refine Tr.iload (pc := 195) (i := 9) d_X12_together_195 rfl ?_
                                  refine Tr.iconst (pc := 197) d_X12_together_197 (by decide) ?_
                                  have h9198 := hS
                                  refine Tr.iastS (pc := 198) (P := St Tru ws_X12_together_120_w1 as_X12_together_120_w1 M0) d_X12_together_198 (ty_189 hS.1.1) (by omega) (by omega) (sa_189 hS (by decide) (by omega) trivial) (fun M198 hS w198 => ?_)
                                  obtain ⟨v198_9020, ev198_9020⟩ : ∃ v, shv M198 = v := ⟨_, rfl⟩
                                  have bv198_9020 : (-46655) ≤ v198_9020 ∧ v198_9020 ≤ 46655 := by rw [← ev198_9020]; exact shv_b hS.1.2.1
                                  have fv198_9020 : (p169_9 = 0 ∧ v198_9020 = u169_9020_0 + 7776 * r180 - 7776 * 0) ∨ (p169_9 = 1 ∧ v198_9020 = u169_9020_0 + 1296 * r180 - 1296 * 0) ∨ (p169_9 = 2 ∧ v198_9020 = u169_9020_0 + 216 * r180 - 216 * 0) ∨ (p169_9 = 3 ∧ v198_9020 = u169_9020_0 + 36 * r180 - 36 * 0) ∨ (p169_9 = 4 ∧ v198_9020 = u169_9020_0 + 6 * r180 - 6 * 0) ∨ (p169_9 = 5 ∧ v198_9020 = u169_9020_0 + r180 - 0) := by have h8 := shv_w w198 (er180) (by omega) (by omega); rw [ev198_9020, show shv M = u169_9020_0 from k169_9020_0] at h8; exact h8
                                  replace fv198_9020 := hd_i fv198_9020
                                  have hvw198 : 0 ≤ rd M 187 p169_9 := (ar_187 (M := M) h9198.1.2.1 _).1
                                  refine Tr.iincV (pc := 199) (n2 := (p169_9 - 1)) (ls2 := [(9, (0, (p169_9 - 1))), (0, (2, 120)), (1, (0, a1)), (2, (1, p161_2)), (4, (0, p161_4))]) d_X12_together_199 rfl (by decide) ((w32_id (by and_intros <;> omega)).trans (by omega)) rfl ?_
                                  refine Tr.goto (pc := 202) (tgt := 169) d_X12_together_202 rfl ?_
                                  refine Tr.pick [1, 2, 3, 4, 0] (ls2 := [(0, (2, 120)), (1, (0, a1)), (2, (1, p161_2)), (4, (0, p161_4)), (9, (0, (p169_9 - 1)))]) rfl ?_
                                  exact J169 _ _ _ hS (by and_intros <;> omega) (by and_intros <;> omega) ((Wr.b w198 rfl).trans k169_120_113) ((Wr.b w198 rfl).trans k169_126_1) ev198_9020 (by and_intros <;> omega) (by exact (hd_o fv198_9020).elim (fun h1 => (hd_o t169_1).elim (fun h2 => by omega) (fun h2 => h2.elim (fun h2 => by omega) (fun h2 => h2.elim (fun h2 => by omega) (fun h2 => h2.elim (fun h2 => by omega) (fun h2 => h2.elim (fun h2 => by omega) (fun h2 => h2.elim (fun h2 => by omega) (fun h2 => by omega))))))) (fun h1 => h1.elim (fun h1 => (hd_o t169_1).elim (fun h2 => by omega) (fun h2 => h2.elim (fun h2 => by omega) (fun h2 => h2.elim (fun h2 => by omega) (fun h2 => h2.elim (fun h2 => by omega) (fun h2 => h2.elim (fun h2 => by omega) (fun h2 => h2.elim (fun h2 => by omega) (fun h2 => by omega))))))) (fun h1 => h1.elim (fun h1 => (hd_o t169_1).elim (fun h2 => by omega) (fun h2 => h2.elim (fun h2 => by omega) (fun h2 => h2.elim (fun h2 => by omega) (fun h2 => h2.elim (fun h2 => by omega) (fun h2 => h2.elim (fun h2 => by omega) (fun h2 => h2.elim (fun h2 => by omega) (fun h2 => by omega))))))) (fun h1 => h1.elim (fun h1 => (hd_o t169_1).elim (fun h2 => by omega) (fun h2 => h2.elim (fun h2 => by omega) (fun h2 => h2.elim (fun h2 => by omega) (fun h2 => h2.elim (fun h2 => by omega) (fun h2 => h2.elim (fun h2 => by omega) (fun h2 => h2.elim (fun h2 => by omega) (fun h2 => by omega))))))) (fun h1 => h1.elim (fun h1 => (hd_o t169_1).elim (fun h2 => by omega) (fun h2 => h2.elim (fun h2 => by omega) (fun h2 => h2.elim (fun h2 => by omega) (fun h2 => h2.elim (fun h2 => by omega) (fun h2 => h2.elim (fun h2 => by omega) (fun h2 => h2.elim (fun h2 => by omega) (fun h2 => by omega))))))) (fun h1 => (hd_o t169_1).elim (fun h2 => by omega) (fun h2 => h2.elim (fun h2 => by omega) (fun h2 => h2.elim (fun h2 => by omega) (fun h2 => h2.elim (fun h2 => by omega) (fun h2 => h2.elim (fun h2 => by omega) (fun h2 => h2.elim (fun h2 => by omega) (fun h2 => by omega)))))))))))) (Sg.wr tp169_0 w198 hvw198) (me_lt hm169 (by omega) (by omega))
                          refine Tr.pick [1, 2, 3, 4, 0] (ls2 := [(0, (2, 120)), (1, (0, a1)), (2, (1, p161_2)), (4, (0, p161_4)), (9, (0, (g120_113 - 1)))]) rfl ?_
                          exact J169 _ _ _ _ hS (by and_intros <;> omega) (by and_intros <;> omega) k161_120_113 k161_126_1 k161_9020_0 (by and_intros <;> omega) (by omega) tp161_0 (Nat.lt_succ_self _)
                        have J122 : ∀ (M : Mem), St Tru ws_X12_together_120_w1 as_X12_together_120_w1 M0 M → rd M 120 113 = g120_113 → rd M 126 1 = g126_1 → shv M = u48_9020_0 → (0 ≤ a1 ∧ a1 < g126_1) → (u48_9020_0 = u48_9020_0) → (Sg M) → Tr l K 4 mX12_together 122 [(0, (2, 120)), (1, (0, a1)), (6, (1, r55)), (8, (0, p66_8))] [] M (q_X12_together_120_w1 M0) := by
                          intro M  hS  k122_120_113 k122_126_1 k122_9020_0 t122_0 t122_1 tp122_0
                          clear k66_120_113 k66_126_1 k66_9020_0 er97
                          refine Tr.lload (pc := 122) (i := 6) d_X12_together_122 rfl ?_
                          refine Tr.lstore_n (pc := 124) (i := 2) (ls2 := [(2, (1, r55)), (0, (2, 120)), (1, (0, a1)), (6, (1, r55)), (8, (0, p66_8))]) d_X12_together_124 rfl (by decide) rfl ?_
                          refine Tr.iload (pc := 125) (i := 8) d_X12_together_125 rfl ?_
                          refine Tr.istore (pc := 127) (i := 4) (ls2 := [(4, (0, p66_8)), (2, (1, r55)), (0, (2, 120)), (1, (0, a1)), (6, (1, r55)), (8, (0, p66_8))]) d_X12_together_127 (by decide) rfl ?_
                          refine Tr.iconst (pc := 129) d_X12_together_129 (by decide) ?_
                          refine Tr.istore (pc := 130) (i := 9) (ls2 := [(9, (0, 0)), (4, (0, p66_8)), (2, (1, r55)), (0, (2, 120)), (1, (0, a1)), (6, (1, r55)), (8, (0, p66_8))]) d_X12_together_130 (by decide) rfl ?_
                          have J132 : ∀ (n132 : Nat) (M : Mem) (p132_9 : Int), St Tru ws_X12_together_120_w1 as_X12_together_120_w1 M0 M → (0 ≤ p132_9 ∧ p132_9 ≤ 6) → rd M 120 113 = g120_113 → rd M 126 1 = g126_1 → shv M = u48_9020_0 → (0 ≤ a1 ∧ a1 < g126_1) → (u48_9020_0 = u48_9020_0) → (Sg M) → (6 - p132_9).toNat < n132 → Tr l K 4 mX12_together 132 [(0, (2, 120)), (1, (0, a1)), (2, (1, r55)), (4, (0, p66_8)), (9, (0, p132_9))] [] M (q_X12_together_120_w1 M0) := by
                            intro n132
                            induction n132 with
                            | zero => intro M p132_9 hS bp132_9 k132_120_113 k132_126_1 k132_9020_0 t132_0 t132_1 tp132_0 hm132; exact absurd hm132 (Nat.not_lt_zero _)
                            | succ n132 J132 =>
                              intro M p132_9 hS bp132_9 k132_120_113 k132_126_1 k132_9020_0 t132_0 t132_1 tp132_0 hm132
                              clear k122_120_113 k122_126_1 k122_9020_0
                              refine Tr.iload (pc := 132) (i := 9) d_X12_together_132 rfl ?_
                              refine Tr.aload_n (pc := 134) (i := 0) d_X12_together_134 rfl rfl ?_
                              refine Tr.getf (pc := 135) d_X12_together_135 f_12_354 (by decide) (by decide) (ty_120 hS.1.1) ?_
                              refine Tr.tp g120_113 k132_120_113 ?_
                              refine Tr.icmp_ge (pc := 138) (tgt := 161) d_X12_together_138 rfl (fun c138 => ?_) (fun c138 => ?_)
                              · refine Tr.pick [0, 1, 2, 3] (ls2 := [(0, (2, 120)), (1, (0, a1)), (2, (1, r55)), (4, (0, p66_8))]) rfl ?_
                                exact J161 _ _ _ hS (by omega) (by and_intros <;> omega) k132_120_113 k132_126_1 k132_9020_0 (by and_intros <;> omega) (by omega) tp132_0
                              · refine Tr.aload_n (pc := 141) (i := 0) d_X12_together_141 rfl rfl ?_
                                refine Tr.getf (pc := 142) d_X12_together_142 f_12_369 (by decide) (by decide) (ty_120 hS.1.1) ?_
                                refine Tr.tp 188 (fx_120_118 hS.1.1) ?_
                                refine Tr.iload (pc := 145) (i := 9) d_X12_together_145 rfl ?_
                                refine Tr.aload_n (pc := 147) (i := 0) d_X12_together_147 rfl rfl ?_
                                refine Tr.getf (pc := 148) d_X12_together_148 f_12_372 (by decide) (by decide) (ty_120 hS.1.1) ?_
                                refine Tr.tp 189 (fx_120_119 hS.1.1) ?_
                                refine Tr.iload (pc := 151) (i := 9) d_X12_together_151 rfl ?_
                                refine Tr.iald (pc := 153) d_X12_together_153 (ty_189 hS.1.1) (by omega) (by omega) ?_
                                refine Tr.gen (P := fun v => 0 ≤ v ∧ v ≤ 5) (ar_189 hS.1.2.1 _) (fun r153 er153 br153 => ?_)
                                refine Tr.iastS (pc := 154) (P := St Tru ws_X12_together_120_w1 as_X12_together_120_w1 M0) d_X12_together_154 (ty_188 hS.1.1) (by omega) (by omega) (sa_188 hS (by decide) (by and_intros <;> omega) trivial) (fun M154 hS w154 => ?_)
                                refine Tr.iincV (pc := 155) (n2 := (p132_9 + 1)) (ls2 := [(9, (0, (p132_9 + 1))), (0, (2, 120)), (1, (0, a1)), (2, (1, r55)), (4, (0, p66_8))]) d_X12_together_155 rfl (by decide) ((w32_id (by and_intros <;> omega)).trans (by omega)) rfl ?_
                                refine Tr.goto (pc := 158) (tgt := 132) d_X12_together_158 rfl ?_
                                refine Tr.pick [1, 2, 3, 4, 0] (ls2 := [(0, (2, 120)), (1, (0, a1)), (2, (1, r55)), (4, (0, p66_8)), (9, (0, (p132_9 + 1)))]) rfl ?_
                                exact J132 _ _ hS (by and_intros <;> omega) ((Wr.b w154 rfl).trans k132_120_113) ((Wr.b w154 rfl).trans k132_126_1) ((shv_of (fun j => ((Wr.b w154 rfl).trans rfl)) (fun j => ((Wr.b w154 rfl).trans rfl))).trans k132_9020_0) (by and_intros <;> omega) (by omega) (Sg.fr tp132_0 (fun _ => ((Wr.b w154 rfl).trans rfl)) (fun _ => ((Wr.b w154 rfl).trans rfl))) (me_lt hm132 (by omega) (by omega))
                          refine Tr.pick [3, 4, 2, 1, 0] (ls2 := [(0, (2, 120)), (1, (0, a1)), (2, (1, r55)), (4, (0, p66_8)), (9, (0, 0))]) rfl ?_
                          exact J132 _ _ _ hS (by omega) k122_120_113 k122_126_1 k122_9020_0 (by and_intros <;> omega) (by omega) tp122_0 (Nat.lt_succ_self _)
                        refine Tr.if_eq (pc := 98) (tgt := 122) d_X12_together_98 rfl (fun c98 => ?_) (fun c98 => ?_)
                        · refine Tr.pick [0, 1, 4, 5] (ls2 := [(0, (2, 120)), (1, (0, a1)), (6, (1, r55)), (8, (0, p66_8))]) rfl ?_
                          exact J122 _ hS k66_120_113 k66_126_1 k66_9020_0 (by and_intros <;> omega) (by omega) tp66_0
                        · replace c98 := hd_i c98
                          refine Tr.lload (pc := 101) (i := 6) d_X12_together_101 rfl ?_
                          refine Tr.lload_n (pc := 103) (i := 2) d_X12_together_103 rfl rfl ?_
                          refine Tr.lcmp (pc := 104) d_X12_together_104 ?_
                          refine Tr.gen (P := fun v => (v = 1 ∧ p48_2 < r55) ∨ (v = 0 ∧ r55 = p48_2) ∨ (v = -1 ∧ r55 < p48_2)) (f_lcmp_c _ _) (fun r104 er104 br104 => ?_)
                          replace br104 := hd_i br104
                          refine Tr.if_lt (pc := 105) (tgt := 122) d_X12_together_105 rfl (fun c105 => ?_) (fun c105 => ?_)
                          · refine Tr.pick [0, 1, 4, 5] (ls2 := [(0, (2, 120)), (1, (0, a1)), (6, (1, r55)), (8, (0, p66_8))]) rfl ?_
                            exact J122 _ hS k66_120_113 k66_126_1 k66_9020_0 (by and_intros <;> omega) (by omega) tp66_0
                          · refine Tr.lload (pc := 108) (i := 6) d_X12_together_108 rfl ?_
                            refine Tr.lload_n (pc := 110) (i := 2) d_X12_together_110 rfl rfl ?_
                            refine Tr.lcmp (pc := 111) d_X12_together_111 ?_
                            refine Tr.gen (P := fun v => (v = 1 ∧ p48_2 < r55) ∨ (v = 0 ∧ r55 = p48_2) ∨ (v = -1 ∧ r55 < p48_2)) (f_lcmp_c _ _) (fun r111 er111 br111 => ?_)
                            replace br111 := hd_i br111
                            refine Tr.if_ne (pc := 112) (tgt := 161) d_X12_together_112 rfl (fun c112 => ?_) (fun c112 => ?_)
                            · replace c112 := hd_i c112
                              refine Tr.pick [0, 1, 2, 3] (ls2 := [(0, (2, 120)), (1, (0, a1)), (2, (1, p48_2)), (4, (0, p48_4))]) rfl ?_
                              exact J161 _ _ _ hS (by omega) (by and_intros <;> omega) k66_120_113 k66_126_1 k66_9020_0 (by and_intros <;> omega) (by omega) tp66_0
                            · refine Tr.iload (pc := 115) (i := 8) d_X12_together_115 rfl ?_
                              refine Tr.iload (pc := 117) (i := 4) d_X12_together_117 rfl ?_
                              refine Tr.icmp_ge (pc := 119) (tgt := 161) d_X12_together_119 rfl (fun c119 => ?_) (fun c119 => ?_)
                              · refine Tr.pick [0, 1, 2, 3] (ls2 := [(0, (2, 120)), (1, (0, a1)), (2, (1, p48_2)), (4, (0, p48_4))]) rfl ?_
                                exact J161 _ _ _ hS (by omega) (by and_intros <;> omega) k66_120_113 k66_126_1 k66_9020_0 (by and_intros <;> omega) (by omega) tp66_0
                              · refine Tr.pick [0, 1, 4, 5] (ls2 := [(0, (2, 120)), (1, (0, a1)), (6, (1, r55)), (8, (0, p66_8))]) rfl ?_
                                exact J122 _ hS k66_120_113 k66_126_1 k66_9020_0 (by and_intros <;> omega) (by omega) tp66_0
                      · refine Tr.iload (pc := 75) (i := 8) d_X12_together_75 rfl ?_
                        refine Tr.aload_n (pc := 77) (i := 0) d_X12_together_77 rfl rfl ?_
                        refine Tr.getf (pc := 78) d_X12_together_78 f_12_372 (by decide) (by decide) (ty_120 hS.1.1) ?_
                        refine Tr.tp 189 (fx_120_119 hS.1.1) ?_
                        refine Tr.iload (pc := 81) (i := 9) d_X12_together_81 rfl ?_
                        refine Tr.iald (pc := 83) d_X12_together_83 (ty_189 hS.1.1) (by omega) (by omega) ?_
                        refine Tr.gen (P := fun v => 0 ≤ v ∧ v ≤ 5) (ar_189 hS.1.2.1 _) (fun r83 er83 br83 => ?_)
                        refine Tr.iadd (pc := 84) d_X12_together_84 ?_
                        refine Tr.gen (P := fun v => (-2147483648) ≤ v ∧ v ≤ 2147483647) (w32_b _) (fun r84 er84 br84 => ?_)
                        refine Tr.istore (pc := 85) (i := 8) (ls2 := [(8, (0, r84)), (0, (2, 120)), (1, (0, a1)), (2, (1, p48_2)), (4, (0, p48_4)), (6, (1, r55)), (9, (0, p66_9))]) d_X12_together_85 (by decide) rfl ?_
                        refine Tr.iincV (pc := 87) (n2 := (p66_9 + 1)) (ls2 := [(9, (0, (p66_9 + 1))), (8, (0, r84)), (0, (2, 120)), (1, (0, a1)), (2, (1, p48_2)), (4, (0, p48_4)), (6, (1, r55))]) d_X12_together_87 rfl (by decide) ((w32_id (by and_intros <;> omega)).trans (by omega)) rfl ?_
                        refine Tr.goto (pc := 90) (tgt := 66) d_X12_together_90 rfl ?_
                        refine Tr.pick [2, 3, 4, 5, 6, 1, 0] (ls2 := [(0, (2, 120)), (1, (0, a1)), (2, (1, p48_2)), (4, (0, p48_4)), (6, (1, r55)), (8, (0, r84)), (9, (0, (p66_9 + 1)))]) rfl ?_
                        exact J66 _ _ _ hS (by and_intros <;> omega) (by and_intros <;> omega) k66_120_113 k66_126_1 k66_9020_0 (by and_intros <;> omega) (by omega) tp66_0 (me_lt hm66 (by omega) (by omega))
                  refine Tr.pick [3, 4, 5, 6, 2, 1, 0] (ls2 := [(0, (2, 120)), (1, (0, a1)), (2, (1, p48_2)), (4, (0, p48_4)), (6, (1, r55)), (8, (0, 0)), (9, (0, 0))]) rfl ?_
                  exact J66 _ _ _ _ hS (by omega) (by omega) ((kp_X12_asksCost_120_w1_120_113 h55).trans k48_120_113) ((kp_X12_asksCost_120_w1_126_1 h55).trans k48_126_1) ((shv_of (fun j => ((ka_X12_asksCost_120_w1_187 h55 _).trans rfl)) (fun j => ((ka_X12_asksCost_120_w1_189 h55 _).trans rfl))).trans k48_9020_0) (by and_intros <;> omega) (by omega) (Sg.fr tp48_0 (fun _ => ((ka_X12_asksCost_120_w1_187 h55 _).trans rfl)) (fun _ => ((ka_X12_asksCost_120_w1_189 h55 _).trans rfl))) (Nat.lt_succ_self _)
            refine Tr.pick [3, 4, 2, 1, 0] (ls2 := [(0, (2, 120)), (1, (0, a1)), (2, (1, (-1))), (4, (0, 0)), (5, (0, 1))]) rfl ?_
            exact J48 _ _ _ _ _ _ hS (by omega) (by omega) (by omega) (by and_intros <;> omega) k19_120_113 k19_126_1 k19_9020_0 (by and_intros <;> omega) (by omega) (Sz.g (tp19_0) hS.1.2.1 (by omega)) (Nat.lt_succ_self _)
          · refine Tr.aload_n (pc := 25) (i := 0) d_X12_together_25 rfl rfl ?_
            refine Tr.getf (pc := 26) d_X12_together_26 f_12_372 (by decide) (by decide) (ty_120 hS.1.1) ?_
            refine Tr.tp 189 (fx_120_119 hS.1.1) ?_
            refine Tr.iload_n (pc := 29) (i := 2) d_X12_together_29 rfl rfl ?_
            refine Tr.iconst (pc := 30) d_X12_together_30 (by decide) ?_
            refine Tr.iastS (pc := 31) (P := St Tru ws_X12_together_120_w1 as_X12_together_120_w1 M0) d_X12_together_31 (ty_189 hS.1.1) (by omega) (by omega) (sa_189 hS (by decide) (by omega) trivial) (fun M31 hS w31 => ?_)
            refine Tr.iincV (pc := 32) (n2 := (p19_2 + 1)) (ls2 := [(2, (0, (p19_2 + 1))), (0, (2, 120)), (1, (0, a1))]) d_X12_together_32 rfl (by decide) ((w32_id (by and_intros <;> omega)).trans (by omega)) rfl ?_
            refine Tr.goto (pc := 35) (tgt := 19) d_X12_together_35 rfl ?_
            refine Tr.pick [1, 2, 0] (ls2 := [(0, (2, 120)), (1, (0, a1)), (2, (0, (p19_2 + 1)))]) rfl ?_
            obtain ⟨w19p35_9020_0, ew19p35_9020_0⟩ : ∃ v, shv M31 = v := ⟨_, rfl⟩
            have bw19p35_9020_0 : (-46655) ≤ w19p35_9020_0 ∧ w19p35_9020_0 ≤ 46655 := by rw [← ew19p35_9020_0]; exact (shv_b hS.1.2.1)
            exact J19 _ _ _ hS (by and_intros <;> omega) (by and_intros <;> omega) ((Wr.b w31 rfl).trans k19_120_113) ((Wr.b w31 rfl).trans k19_126_1) ew19p35_9020_0 (by and_intros <;> omega) (Sz.wr tp19_0 w31) (me_lt hm19 (by omega) (by omega))
      refine Tr.pick [1, 2, 0] (ls2 := [(0, (2, 120)), (1, (0, a1)), (2, (0, 0))]) rfl ?_
      exact J19 _ _ _ _ hS (by omega) (by and_intros <;> omega) ((kp_X12_isPart_120_w1_120_113 h2).trans eg120_113) ((kp_X12_isPart_120_w1_126_1 h2).trans eg126_1) ((shv_of (fun j => ((ka_X12_isPart_120_w1_187 h2 _).trans rfl)) (fun j => ((ka_X12_isPart_120_w1_189 h2 _).trans rfl))).trans eg9020_0) (by exact (hd_o z2_0).elim (fun h1 => by omega) (fun h1 => by omega)) (fun k k0 k1 => absurd k1 (by omega)) (Nat.lt_succ_self _)
    · refine Tr.iconst (pc := 15) d_X12_together_15 (by decide) ?_
      exact Tr.iret (pc := 16) d_X12_together_16 rfl ⟨hS, _, rfl, by omega, by omega⟩

def ws_X12_never_120_w1 : List (Int × Int) := []
def as_X12_never_120_w1 : List Int := [190]
def q_X12_never_120_w1 (M0 M' : Mem) (r : Option PV) : Prop := St Tru ws_X12_never_120_w1 as_X12_never_120_w1 M0 M' ∧ ∃ v : Int, r = some (0, v) ∧ (-2147483648) ≤ v ∧ v ≤ 2147483647
theorem kp_X12_never_120_w1_120_12 {q : Mem → Prop} {M0 M : Mem} (h : St q ws_X12_never_120_w1 as_X12_never_120_w1 M0 M) : rd M 120 12 = rd M0 120 12 := St.kp h (by decide) (by decide) (by decide)
theorem kp_X12_moved_136_1 {q : Mem → Prop} {M0 M : Mem} (h : St q ws_X12_moved as_X12_moved M0 M) : rd M 136 1 = rd M0 136 1 := St.kp h (by decide) (by decide) (by decide)
set_option maxRecDepth 100000 in
set_option maxHeartbeats 4000000 in
theorem sp_X12_never_120_w1 {l : Launch} {K : EC} {M0 : Mem} (hI : In Tru M0) (en_120_12 : rd M0 120 12 = 1)   : Tr l K 1 mX12_never 0 [(0, (2, 120))] [] M0 (q_X12_never_120_w1 M0) := by
  have hS : St Tru ws_X12_never_120_w1 as_X12_never_120_w1 M0 M0 := St.rf hI
  obtain ⟨g9030_0, eg9030_0⟩ : ∃ v, cmv M0 = v := ⟨_, rfl⟩
  have bg9030_0 : 0 ≤ g9030_0 ∧ g9030_0 ≤ 12864 := by rw [← eg9030_0]; exact (cmv_b hI.2.1)
  refine Tr.aload_n (pc := 0) (i := 0) d_X12_never_0 rfl rfl ?_
  refine Tr.getf (pc := 1) d_X12_never_1 f_12_94 (by decide) (by decide) (ty_120 hS.1.1) ?_
  refine Tr.tp 136 (fx_120_27 hS.1.1) ?_
  refine Tr.aload_n (pc := 4) (i := 0) d_X12_never_4 rfl rfl ?_
  refine Tr.getf (pc := 5) d_X12_never_5 f_12_48 (by decide) (by decide) (ty_120 hS.1.1) ?_
  refine Tr.tp 1 ((kp_X12_never_120_w1_120_12 hS).trans en_120_12) ?_
  refine Tr.iald (pc := 8) d_X12_never_8 (ty_136 hS.1.1) (by omega) (by omega) ?_
  refine Tr.gen (P := fun v => 0 ≤ v ∧ v ≤ 200) (ir_136_1 hS.1.2.1) (fun r8 er8 br8 => ?_)
  refine Tr.istore_n (pc := 9) (i := 1) (ls2 := [(1, (0, r8)), (0, (2, 120))]) d_X12_never_9 rfl (by decide) rfl ?_
  refine Tr.iconst (pc := 10) d_X12_never_10 (by decide) ?_
  refine Tr.istore_n (pc := 11) (i := 2) (ls2 := [(2, (0, 0)), (1, (0, r8)), (0, (2, 120))]) d_X12_never_11 rfl (by decide) rfl ?_
  have J12 : ∀ (n12 : Nat) (M : Mem) (p12_2 u12_9030_0 : Int), St Tru ws_X12_never_120_w1 as_X12_never_120_w1 M0 M → (0 ≤ p12_2 ∧ p12_2 ≤ 201) → (0 ≤ u12_9030_0 ∧ u12_9030_0 ≤ 12864) → rd M 136 1 = r8 → cmv M = u12_9030_0 → (201 - p12_2).toNat < n12 → Tr l K 1 mX12_never 12 [(0, (2, 120)), (1, (0, r8)), (2, (0, p12_2))] [] M (q_X12_never_120_w1 M0) := by
    intro n12
    induction n12 with
    | zero => intro M p12_2 u12_9030_0 hS bp12_2 bu12_9030_0 k12_136_1 k12_9030_0 hm12; exact absurd hm12 (Nat.not_lt_zero _)
    | succ n12 J12 =>
      intro M p12_2 u12_9030_0 hS bp12_2 bu12_9030_0 k12_136_1 k12_9030_0 hm12
      clear er8
      refine Tr.iload_n (pc := 12) (i := 2) d_X12_never_12 rfl rfl ?_
      refine Tr.iload_n (pc := 13) (i := 1) d_X12_never_13 rfl rfl ?_
      refine Tr.icmp_gt (pc := 14) (tgt := 38) d_X12_never_14 rfl (fun c14 => ?_) (fun c14 => ?_)
      · refine Tr.iconst (pc := 38) d_X12_never_38 (by decide) ?_
        refine Tr.istore_n (pc := 39) (i := 2) (ls2 := [(2, (0, 1)), (0, (2, 120)), (1, (0, r8))]) d_X12_never_39 rfl (by decide) rfl ?_
        have J40 : ∀ (n40 : Nat) (M : Mem) (p40_2 u40_9030_0 : Int), St Tru ws_X12_never_120_w1 as_X12_never_120_w1 M0 M → (0 ≤ p40_2 ∧ p40_2 ≤ 1) → (0 ≤ u40_9030_0 ∧ u40_9030_0 ≤ 12864) → rd M 136 1 = r8 → cmv M = u40_9030_0 → (p40_2 = 0 ∨ p40_2 = 1) → (2 * (12864 - u40_9030_0) + p40_2).toNat < n40 → Tr l K 1 mX12_never 40 [(0, (2, 120)), (1, (0, r8)), (2, (0, p40_2))] [] M (q_X12_never_120_w1 M0) := by
          intro n40
          induction n40 with
          | zero => intro M p40_2 u40_9030_0 hS bp40_2 bu40_9030_0 k40_136_1 k40_9030_0 t40_0 hm40; exact absurd hm40 (Nat.not_lt_zero _)
          | succ n40 J40 =>
            intro M p40_2 u40_9030_0 hS bp40_2 bu40_9030_0 k40_136_1 k40_9030_0 t40_0 hm40
            clear k12_136_1 k12_9030_0
            replace t40_0 := hd_i t40_0
            refine Tr.iload_n (pc := 40) (i := 2) d_X12_never_40 rfl rfl ?_
            refine Tr.if_eq (pc := 41) (tgt := 261) d_X12_never_41 rfl (fun c41 => ?_) (fun c41 => ?_)
            · refine Tr.iconst (pc := 261) d_X12_never_261 (by decide) ?_
              refine Tr.istore_n (pc := 262) (i := 3) (ls2 := [(3, (0, 0)), (0, (2, 120)), (1, (0, r8)), (2, (0, p40_2))]) d_X12_never_262 rfl (by decide) rfl ?_
              refine Tr.iconst (pc := 263) d_X12_never_263 (by decide) ?_
              refine Tr.istore (pc := 264) (i := 4) (ls2 := [(4, (0, 0)), (3, (0, 0)), (0, (2, 120)), (1, (0, r8)), (2, (0, p40_2))]) d_X12_never_264 (by decide) rfl ?_
              have J266 : ∀ (n266 : Nat) (M : Mem) (p266_3 p266_4 : Int), St Tru ws_X12_never_120_w1 as_X12_never_120_w1 M0 M → ((-2147483648) ≤ p266_3 ∧ p266_3 ≤ 2147483647) → (0 ≤ p266_4 ∧ p266_4 ≤ 64) → rd M 136 1 = r8 → cmv M = u40_9030_0 → (64 - p266_4).toNat < n266 → Tr l K 1 mX12_never 266 [(0, (2, 120)), (1, (0, r8)), (3, (0, p266_3)), (4, (0, p266_4))] [] M (q_X12_never_120_w1 M0) := by
                intro n266
                induction n266 with
                | zero => intro M p266_3 p266_4 hS bp266_3 bp266_4 k266_136_1 k266_9030_0 hm266; exact absurd hm266 (Nat.not_lt_zero _)
                | succ n266 J266 =>
                  intro M p266_3 p266_4 hS bp266_3 bp266_4 k266_136_1 k266_9030_0 hm266
                  clear k40_136_1 k40_9030_0
                  refine Tr.iload (pc := 266) (i := 4) d_X12_never_266 rfl ?_
                  refine Tr.bipush (pc := 268) d_X12_never_268 rfl (by decide) ?_
                  refine Tr.icmp_ge (pc := 270) (tgt := 300) d_X12_never_270 rfl (fun c270 => ?_) (fun c270 => ?_)
                  · refine Tr.iload_n (pc := 300) (i := 3) d_X12_never_300 rfl rfl ?_
                    exact Tr.iret (pc := 301) d_X12_never_301 rfl ⟨hS, _, rfl, (by omega), (by omega)⟩
                  · refine Tr.aload_n (pc := 273) (i := 0) d_X12_never_273 rfl rfl ?_
                    refine Tr.getf (pc := 274) d_X12_never_274 f_12_375 (by decide) (by decide) (ty_120 hS.1.1) ?_
                    refine Tr.tp 190 (fx_120_120 hS.1.1) ?_
                    refine Tr.iload_n (pc := 277) (i := 1) d_X12_never_277 rfl rfl ?_
                    refine Tr.lald (pc := 278) d_X12_never_278 (ty_190 hS.1.1) (by omega) (by omega) ?_
                    refine Tr.gen (P := fun v => (-9223372036854775808) ≤ v ∧ v ≤ 9223372036854775807) (ar_190 hS.1.2.1 _) (fun r278 er278 br278 => ?_)
                    refine Tr.iload (pc := 279) (i := 4) d_X12_never_279 rfl ?_
                    refine Tr.lshr (pc := 281) d_X12_never_281 ?_
                    refine Tr.gen (P := fun v => ((-9223372036854775808) ≤ v ∧ v ≤ 9223372036854775807) ∧ (r278 ≠ 0 ∨ v = 0)) (lshr_z _ _) (fun r281 er281 br281 => ?_)
                    have br281d0 := hd_i br281.2
                    replace br281 := And.intro br281.1.1  (br281.1.2)
                    refine Tr.lconst (pc := 282) (v := 1) d_X12_never_282 rfl (by decide) ?_
                    refine Tr.land (pc := 283) d_X12_never_283 ?_
                    refine Tr.gen (P := fun v => v = r281 % 2 ∧ (0 ≤ v ∧ v ≤ 1)) ⟨(f_land_1 _).1, (f_land_1 _).2⟩ (fun r283 er283 br283 => ?_)
                    refine Tr.lconst (pc := 284) (v := 1) d_X12_never_284 rfl (by decide) ?_
                    refine Tr.lcmp (pc := 285) d_X12_never_285 ?_
                    refine Tr.gen (P := fun v => (v = 1 ∧ 1 < r283) ∨ (v = 0 ∧ r283 = 1) ∨ (v = -1 ∧ r283 < 1)) (f_lcmp_c _ _) (fun r285 er285 br285 => ?_)
                    replace br285 := hd_i br285
                    have J294 : ∀ (M : Mem) (p294_3 : Int), St Tru ws_X12_never_120_w1 as_X12_never_120_w1 M0 M → ((-2147483648) ≤ p294_3 ∧ p294_3 ≤ 2147483647) → rd M 136 1 = r8 → cmv M = u40_9030_0 → Tr l K 1 mX12_never 294 [(0, (2, 120)), (1, (0, r8)), (3, (0, p294_3)), (4, (0, p266_4))] [] M (q_X12_never_120_w1 M0) := by
                      intro M p294_3 hS bp294_3 k294_136_1 k294_9030_0
                      clear k266_136_1 k266_9030_0 er278 er281 er283 er285
                      refine Tr.iincV (pc := 294) (n2 := (p266_4 + 1)) (ls2 := [(4, (0, (p266_4 + 1))), (0, (2, 120)), (1, (0, r8)), (3, (0, p294_3))]) d_X12_never_294 rfl (by decide) ((w32_id (by and_intros <;> omega)).trans (by omega)) rfl ?_
                      refine Tr.goto (pc := 297) (tgt := 266) d_X12_never_297 rfl ?_
                      refine Tr.pick [1, 2, 3, 0] (ls2 := [(0, (2, 120)), (1, (0, r8)), (3, (0, p294_3)), (4, (0, (p266_4 + 1)))]) rfl ?_
                      exact J266 _ _ _ hS (by and_intros <;> omega) (by and_intros <;> omega) k294_136_1 k294_9030_0 (me_lt hm266 (by omega) (by omega))
                    refine Tr.if_ne (pc := 286) (tgt := 294) d_X12_never_286 rfl (fun c286 => ?_) (fun c286 => ?_)
                    · replace c286 := hd_i c286
                      refine Tr.pick [0, 1, 2, 3] (ls2 := [(0, (2, 120)), (1, (0, r8)), (3, (0, p266_3)), (4, (0, p266_4))]) rfl ?_
                      exact J294 _ _ hS (by and_intros <;> omega) k266_136_1 k266_9030_0
                    · refine Tr.iload_n (pc := 289) (i := 3) d_X12_never_289 rfl rfl ?_
                      refine Tr.iload (pc := 290) (i := 4) d_X12_never_290 rfl ?_
                      refine Tr.ior (pc := 292) d_X12_never_292 ?_
                      refine Tr.gen (P := fun v => (-2147483648) ≤ v ∧ v ≤ 2147483647) (i32_b _) (fun r292 er292 br292 => ?_)
                      refine Tr.istore_n (pc := 293) (i := 3) (ls2 := [(3, (0, r292)), (0, (2, 120)), (1, (0, r8)), (4, (0, p266_4))]) d_X12_never_293 rfl (by decide) rfl ?_
                      refine Tr.pick [1, 2, 0, 3] (ls2 := [(0, (2, 120)), (1, (0, r8)), (3, (0, r292)), (4, (0, p266_4))]) rfl ?_
                      exact J294 _ _ hS (by and_intros <;> omega) k266_136_1 k266_9030_0
              refine Tr.pick [2, 3, 1, 0] (ls2 := [(0, (2, 120)), (1, (0, r8)), (3, (0, 0)), (4, (0, 0))]) rfl ?_
              exact J266 _ _ _ _ hS (by omega) (by omega) k40_136_1 k40_9030_0 (Nat.lt_succ_self _)
            · have c41b : 1 ≤ p40_2 ∧ p40_2 ≤ 1 := by omega
              replace c41 := hd_i c41
              refine Tr.iconst (pc := 44) d_X12_never_44 (by decide) ?_
              refine Tr.istore_n (pc := 45) (i := 2) (ls2 := [(2, (0, 0)), (0, (2, 120)), (1, (0, r8))]) d_X12_never_45 rfl (by decide) rfl ?_
              refine Tr.iconst (pc := 46) d_X12_never_46 (by decide) ?_
              refine Tr.istore_n (pc := 47) (i := 3) (ls2 := [(3, (0, 0)), (2, (0, 0)), (0, (2, 120)), (1, (0, r8))]) d_X12_never_47 rfl (by decide) rfl ?_
              have J48 : ∀ (n48 : Nat) (M : Mem) (p48_2 p48_3 u48_9030_0 : Int), St Tru ws_X12_never_120_w1 as_X12_never_120_w1 M0 M → (0 ≤ p48_2 ∧ p48_2 ≤ 1) → (0 ≤ p48_3 ∧ p48_3 ≤ 200) → (0 ≤ u48_9030_0 ∧ u48_9030_0 ≤ 12864) → rd M 136 1 = r8 → cmv M = u48_9030_0 → (u40_9030_0 ≤ u48_9030_0) → (p48_2 = 0 ∨ u40_9030_0 < u48_9030_0) → (p48_2 = 0 ∨ p48_2 = 1) → (200 - p48_3).toNat < n48 → Tr l K 1 mX12_never 48 [(0, (2, 120)), (1, (0, r8)), (2, (0, p48_2)), (3, (0, p48_3))] [] M (q_X12_never_120_w1 M0) := by
                intro n48
                induction n48 with
                | zero => intro M p48_2 p48_3 u48_9030_0 hS bp48_2 bp48_3 bu48_9030_0 k48_136_1 k48_9030_0 t48_0 t48_1 t48_2 hm48; exact absurd hm48 (Nat.not_lt_zero _)
                | succ n48 J48 =>
                  intro M p48_2 p48_3 u48_9030_0 hS bp48_2 bp48_3 bu48_9030_0 k48_136_1 k48_9030_0 t48_0 t48_1 t48_2 hm48
                  clear k40_136_1 k40_9030_0
                  replace t48_1 := hd_i t48_1
                  replace t48_2 := hd_i t48_2
                  refine Tr.iload_n (pc := 48) (i := 3) d_X12_never_48 rfl rfl ?_
                  refine Tr.iload_n (pc := 49) (i := 1) d_X12_never_49 rfl rfl ?_
                  refine Tr.icmp_ge (pc := 50) (tgt := 258) d_X12_never_50 rfl (fun c50 => ?_) (fun c50 => ?_)
                  · refine Tr.goto (pc := 258) (tgt := 40) d_X12_never_258 rfl ?_
                    refine Tr.pick [0, 1, 2] (ls2 := [(0, (2, 120)), (1, (0, r8)), (2, (0, p48_2))]) rfl ?_
                    exact J40 _ _ _ hS (by and_intros <;> omega) (by and_intros <;> omega) k48_136_1 k48_9030_0 (by first | exact (hd_o t48_2) | exact (hd_o t48_2).elim (fun h1 => by omega) (fun h1 => by omega)) (me_lt hm40 (by exact (hd_o t48_1).elim (fun h1 => by omega) (fun h1 => by omega)) (by omega))
                  · refine Tr.sipush (pc := 53) d_X12_never_53 rfl (by decide) ?_
                    refine Tr.aload_n (pc := 56) (i := 0) d_X12_never_56 rfl rfl ?_
                    refine Tr.getf (pc := 57) d_X12_never_57 f_12_48 (by decide) (by decide) (ty_120 hS.1.1) ?_
                    refine Tr.tp 1 ((kp_X12_never_120_w1_120_12 hS).trans en_120_12) ?_
                    refine Tr.imul (pc := 60) d_X12_never_60 ?_
                    refine Tr.tp 200 (by decide) ?_
                    refine Tr.iload_n (pc := 61) (i := 3) d_X12_never_61 rfl rfl ?_
                    refine Tr.iadd (pc := 62) d_X12_never_62 ?_
                    refine Tr.tp (p48_3 + 200) ((w32_id (by and_intros <;> omega)).trans (by omega)) ?_
                    refine Tr.istore (pc := 63) (i := 4) (ls2 := [(4, (0, (p48_3 + 200))), (0, (2, 120)), (1, (0, r8)), (2, (0, p48_2)), (3, (0, p48_3))]) d_X12_never_63 (by decide) rfl ?_
                    refine Tr.aload_n (pc := 65) (i := 0) d_X12_never_65 rfl rfl ?_
                    refine Tr.getf (pc := 66) d_X12_never_66 f_12_375 (by decide) (by decide) (ty_120 hS.1.1) ?_
                    refine Tr.tp 190 (fx_120_120 hS.1.1) ?_
                    refine Tr.iload_n (pc := 69) (i := 3) d_X12_never_69 rfl rfl ?_
                    refine Tr.lald (pc := 70) d_X12_never_70 (ty_190 hS.1.1) (by omega) (by omega) ?_
                    refine Tr.gen (P := fun v => (-9223372036854775808) ≤ v ∧ v ≤ 9223372036854775807) (ar_190 hS.1.2.1 _) (fun r70 er70 br70 => ?_)
                    refine Tr.lstore (pc := 71) (i := 5) (ls2 := [(5, (1, r70)), (4, (0, (p48_3 + 200))), (0, (2, 120)), (1, (0, r8)), (2, (0, p48_2)), (3, (0, p48_3))]) d_X12_never_71 (by decide) rfl ?_
                    refine Tr.aload_n (pc := 73) (i := 0) d_X12_never_73 rfl rfl ?_
                    refine Tr.getf (pc := 74) d_X12_never_74 f_12_97 (by decide) (by decide) (ty_120 hS.1.1) ?_
                    refine Tr.tp 137 (fx_120_28 hS.1.1) ?_
                    refine Tr.iload (pc := 77) (i := 4) d_X12_never_77 rfl ?_
                    refine Tr.iald (pc := 79) d_X12_never_79 (ty_137 hS.1.1) (by omega) (by omega) ?_
                    refine Tr.gen (P := fun v => 0 ≤ v ∧ v ≤ 8) (ar_137 hS.1.2.1 _) (fun r79 er79 br79 => ?_)
                    refine Tr.iconst (pc := 80) d_X12_never_80 (by decide) ?_
                    have J125 : ∀ (M : Mem) (p125_5 : Int), St Tru ws_X12_never_120_w1 as_X12_never_120_w1 M0 M → ((-9223372036854775808) ≤ p125_5 ∧ p125_5 ≤ 9223372036854775807) → rd M 136 1 = r8 → rd M 137 (p48_3 + 200) = r79 → rd M 190 p48_3 = r70 → cmv M = u48_9030_0 → Tr l K 1 mX12_never 125 [(0, (2, 120)), (1, (0, r8)), (2, (0, p48_2)), (3, (0, p48_3)), (4, (0, (p48_3 + 200))), (5, (1, p125_5))] [] M (q_X12_never_120_w1 M0) := by
                      intro M p125_5 hS bp125_5 k125_136_1 k125_137_p48_31200 k125_190_p48_310 k125_9030_0
                      clear k48_136_1 k48_9030_0 er70 er79
                      refine Tr.aload_n (pc := 125) (i := 0) d_X12_never_125 rfl rfl ?_
                      refine Tr.getf (pc := 126) d_X12_never_126 f_12_97 (by decide) (by decide) (ty_120 hS.1.1) ?_
                      refine Tr.tp 137 (fx_120_28 hS.1.1) ?_
                      refine Tr.iload (pc := 129) (i := 4) d_X12_never_129 rfl ?_
                      refine Tr.iald (pc := 131) d_X12_never_131 (ty_137 hS.1.1) (by omega) (by omega) ?_
                      refine Tr.tp r79 k125_137_p48_31200 ?_
                      have J148 : ∀ (M : Mem) (q148_0 : Int), St Tru ws_X12_never_120_w1 as_X12_never_120_w1 M0 M → (0 ≤ q148_0 ∧ q148_0 ≤ 200) → rd M 136 1 = r8 → rd M 137 (p48_3 + 200) = r79 → rd M 190 p48_3 = r70 → cmv M = u48_9030_0 → Tr l K 1 mX12_never 148 [(0, (2, 120)), (1, (0, r8)), (2, (0, p48_2)), (3, (0, p48_3)), (4, (0, (p48_3 + 200))), (5, (1, p125_5))] [(0, q148_0)] M (q_X12_never_120_w1 M0) := by
                        intro M q148_0 hS bq148_0 k148_136_1 k148_137_p48_31200 k148_190_p48_310 k148_9030_0
                        clear k125_136_1 k125_137_p48_31200 k125_190_p48_310 k125_9030_0
                        refine Tr.istore (pc := 148) (i := 7) (ls2 := [(7, (0, q148_0)), (0, (2, 120)), (1, (0, r8)), (2, (0, p48_2)), (3, (0, p48_3)), (4, (0, (p48_3 + 200))), (5, (1, p125_5))]) d_X12_never_148 (by decide) rfl ?_
                        refine Tr.aload_n (pc := 150) (i := 0) d_X12_never_150 rfl rfl ?_
                        refine Tr.getf (pc := 151) d_X12_never_151 f_12_97 (by decide) (by decide) (ty_120 hS.1.1) ?_
                        refine Tr.tp 137 (fx_120_28 hS.1.1) ?_
                        refine Tr.iload (pc := 154) (i := 4) d_X12_never_154 rfl ?_
                        refine Tr.iald (pc := 156) d_X12_never_156 (ty_137 hS.1.1) (by omega) (by omega) ?_
                        refine Tr.tp r79 k148_137_p48_31200 ?_
                        refine Tr.bipush (pc := 157) d_X12_never_157 rfl (by decide) ?_
                        have J174 : ∀ (M : Mem) (q174_0 : Int), St Tru ws_X12_never_120_w1 as_X12_never_120_w1 M0 M → (0 ≤ q174_0 ∧ q174_0 ≤ 200) → rd M 136 1 = r8 → rd M 137 (p48_3 + 200) = r79 → rd M 190 p48_3 = r70 → cmv M = u48_9030_0 → Tr l K 1 mX12_never 174 [(0, (2, 120)), (1, (0, r8)), (2, (0, p48_2)), (3, (0, p48_3)), (5, (1, p125_5)), (7, (0, q148_0))] [(0, q174_0)] M (q_X12_never_120_w1 M0) := by
                          intro M q174_0 hS bq174_0 k174_136_1 k174_137_p48_31200 k174_190_p48_310 k174_9030_0
                          clear k148_136_1 k148_137_p48_31200 k148_190_p48_310 k148_9030_0
                          refine Tr.istore (pc := 174) (i := 8) (ls2 := [(8, (0, q174_0)), (0, (2, 120)), (1, (0, r8)), (2, (0, p48_2)), (3, (0, p48_3)), (5, (1, p125_5)), (7, (0, q148_0))]) d_X12_never_174 (by decide) rfl ?_
                          refine Tr.iload_n (pc := 176) (i := 2) d_X12_never_176 rfl rfl ?_
                          have J227 : ∀ (M : Mem) (q227_0 : Int), St Tru ws_X12_never_120_w1 as_X12_never_120_w1 M0 M → (0 ≤ q227_0 ∧ q227_0 ≤ 1) → rd M 136 1 = r8 → rd M 137 (p48_3 + 200) = r79 → rd M 190 p48_3 = r70 → cmv M = u48_9030_0 → (q227_0 = 0 ∨ p48_2 ≠ 0 ∨ Nv M q148_0 q174_0 p125_5) → Tr l K 1 mX12_never 227 [(0, (2, 120)), (1, (0, r8)), (3, (0, p48_3)), (5, (1, p125_5)), (7, (0, q148_0)), (8, (0, q174_0))] [(0, q227_0)] M (q_X12_never_120_w1 M0) := by
                            intro M q227_0 hS bq227_0 k227_136_1 k227_137_p48_31200 k227_190_p48_310 k227_9030_0 tp227_0
                            clear k174_136_1 k174_137_p48_31200 k174_190_p48_310 k174_9030_0
                            refine Tr.istore_n (pc := 227) (i := 2) (ls2 := [(2, (0, q227_0)), (0, (2, 120)), (1, (0, r8)), (3, (0, p48_3)), (5, (1, p125_5)), (7, (0, q148_0)), (8, (0, q174_0))]) d_X12_never_227 rfl (by decide) rfl ?_
                            refine Tr.aload_n (pc := 228) (i := 0) d_X12_never_228 rfl rfl ?_
                            refine Tr.getf (pc := 229) d_X12_never_229 f_12_375 (by decide) (by decide) (ty_120 hS.1.1) ?_
                            refine Tr.tp 190 (fx_120_120 hS.1.1) ?_
                            refine Tr.iload (pc := 232) (i := 7) d_X12_never_232 rfl ?_
                            refine Tr.dup2 (pc := 234) d_X12_never_234 ne01 ne21 ?_
                            refine Tr.lald (pc := 235) d_X12_never_235 (ty_190 hS.1.1) (by omega) (by omega) ?_
                            refine Tr.gen (P := fun v => (-9223372036854775808) ≤ v ∧ v ≤ 9223372036854775807) (ar_190 hS.1.2.1 _) (fun r235 er235 br235 => ?_)
                            refine Tr.lload (pc := 236) (i := 5) d_X12_never_236 rfl ?_
                            refine Tr.lor (pc := 238) d_X12_never_238 ?_
                            refine Tr.gen (P := fun v => (-9223372036854775808) ≤ v ∧ v ≤ 9223372036854775807) (i64_b _) (fun r238 er238 br238 => ?_)
                            have hV9 := hS.1.2.1
                            refine Tr.lastS (pc := 239) (P := St Tru ws_X12_never_120_w1 as_X12_never_120_w1 M0) d_X12_never_239 (ty_190 hS.1.1) (by omega) (by omega) (sa_190 hS (by decide) (by omega) trivial) (fun M239 hS w239 => ?_)
                            refine Tr.aload_n (pc := 240) (i := 0) d_X12_never_240 rfl rfl ?_
                            refine Tr.getf (pc := 241) d_X12_never_241 f_12_375 (by decide) (by decide) (ty_120 hS.1.1) ?_
                            refine Tr.tp 190 (fx_120_120 hS.1.1) ?_
                            refine Tr.iload (pc := 244) (i := 8) d_X12_never_244 rfl ?_
                            refine Tr.dup2 (pc := 246) d_X12_never_246 ne01 ne21 ?_
                            refine Tr.lald (pc := 247) d_X12_never_247 (ty_190 hS.1.1) (by omega) (by omega) ?_
                            refine Tr.gen (P := fun v => (-9223372036854775808) ≤ v ∧ v ≤ 9223372036854775807) (ar_190 hS.1.2.1 _) (fun r247 er247 br247 => ?_)
                            refine Tr.lload (pc := 248) (i := 5) d_X12_never_248 rfl ?_
                            refine Tr.lor (pc := 250) d_X12_never_250 ?_
                            refine Tr.gen (P := fun v => (-9223372036854775808) ≤ v ∧ v ≤ 9223372036854775807) (i64_b _) (fun r250 er250 br250 => ?_)
                            have hV8 := hS.1.2.1
                            refine Tr.lastS (pc := 251) (P := St Tru ws_X12_never_120_w1 as_X12_never_120_w1 M0) d_X12_never_251 (ty_190 hS.1.1) (by omega) (by omega) (sa_190 hS (by decide) (by omega) trivial) (fun M251 hS w251 => ?_)
                            obtain ⟨v251_9030, ev251_9030⟩ : ∃ v, cmv M251 = v := ⟨_, rfl⟩
                            have bv251_9030 : 0 ≤ v251_9030 ∧ v251_9030 ≤ 12864 := by rw [← ev251_9030]; exact cmv_b hS.1.2.1
                            have fv251_9030 := cm_two tp227_0 w239 w251 (by rw [er235]; exact er238) (by rw [er247]; exact er250) hV9 hV8 (by omega) (by omega) (by omega) (by omega)
                            rw [ev251_9030, show cmv M = u48_9030_0 from k227_9030_0] at fv251_9030
                            have fv251_9030d0 := hd_i fv251_9030.2
                            replace fv251_9030 := fv251_9030.1
                            refine Tr.iincV (pc := 252) (n2 := (p48_3 + 1)) (ls2 := [(3, (0, (p48_3 + 1))), (2, (0, q227_0)), (0, (2, 120)), (1, (0, r8)), (5, (1, p125_5)), (7, (0, q148_0)), (8, (0, q174_0))]) d_X12_never_252 rfl (by decide) ((w32_id (by and_intros <;> omega)).trans (by omega)) rfl ?_
                            refine Tr.goto (pc := 255) (tgt := 48) d_X12_never_255 rfl ?_
                            refine Tr.pick [2, 3, 1, 0] (ls2 := [(0, (2, 120)), (1, (0, r8)), (2, (0, q227_0)), (3, (0, (p48_3 + 1)))]) rfl ?_
                            exact J48 _ _ _ _ hS (by and_intros <;> omega) (by and_intros <;> omega) (by and_intros <;> omega) ((Wr.b w251 rfl).trans ((Wr.b w239 rfl).trans k227_136_1)) ev251_9030 (by omega) (by exact (hd_o fv251_9030d0).elim (fun h1 => by omega) (fun h1 => h1.elim (fun h1 => (ne_o h1).elim (fun h2 => by omega) (fun h2 => (hd_o t48_1).elim (fun h3 => by omega) (fun h3 => by omega))) (fun h1 => by omega))) (by omega) (me_lt hm48 (by omega) (by omega))
                          have J222 : ∀ (M : Mem), St Tru ws_X12_never_120_w1 as_X12_never_120_w1 M0 M → rd M 136 1 = r8 → rd M 137 (p48_3 + 200) = r79 → rd M 190 p48_3 = r70 → cmv M = u48_9030_0 → (p48_2 ≠ 0 ∨ Nv M q148_0 q174_0 p125_5) → Tr l K 1 mX12_never 222 [(0, (2, 120)), (1, (0, r8)), (3, (0, p48_3)), (5, (1, p125_5)), (7, (0, q148_0)), (8, (0, q174_0))] [] M (q_X12_never_120_w1 M0) := by
                            intro M  hS  k222_136_1 k222_137_p48_31200 k222_190_p48_310 k222_9030_0 tp222_0
                            clear k174_136_1 k174_137_p48_31200 k174_190_p48_310 k174_9030_0
                            refine Tr.iconst (pc := 222) d_X12_never_222 (by decide) ?_
                            refine Tr.goto (pc := 223) (tgt := 227) d_X12_never_223 rfl ?_
                            refine Tr.pick [0, 1, 2, 3, 4, 5] (ls2 := [(0, (2, 120)), (1, (0, r8)), (3, (0, p48_3)), (5, (1, p125_5)), (7, (0, q148_0)), (8, (0, q174_0))]) rfl ?_
                            exact J227 _ _ hS (by omega) k222_136_1 k222_137_p48_31200 k222_190_p48_310 k222_9030_0 (Or.inr tp222_0)
                          refine Tr.if_ne (pc := 177) (tgt := 222) d_X12_never_177 rfl (fun c177 => ?_) (fun c177 => ?_)
                          · have c177b : 1 ≤ p48_2 ∧ p48_2 ≤ 1 := by omega
                            replace c177 := hd_i c177
                            refine Tr.pick [1, 2, 4, 5, 6, 0] (ls2 := [(0, (2, 120)), (1, (0, r8)), (3, (0, p48_3)), (5, (1, p125_5)), (7, (0, q148_0)), (8, (0, q174_0))]) rfl ?_
                            exact J222 _ hS k174_136_1 k174_137_p48_31200 k174_190_p48_310 k174_9030_0 (Or.inl (by omega))
                          · refine Tr.aload_n (pc := 180) (i := 0) d_X12_never_180 rfl rfl ?_
                            refine Tr.getf (pc := 181) d_X12_never_181 f_12_375 (by decide) (by decide) (ty_120 hS.1.1) ?_
                            refine Tr.tp 190 (fx_120_120 hS.1.1) ?_
                            refine Tr.iload (pc := 184) (i := 7) d_X12_never_184 rfl ?_
                            refine Tr.lald (pc := 186) d_X12_never_186 (ty_190 hS.1.1) (by omega) (by omega) ?_
                            refine Tr.gen (P := fun v => (-9223372036854775808) ≤ v ∧ v ≤ 9223372036854775807) (ar_190 hS.1.2.1 _) (fun r186 er186 br186 => ?_)
                            refine Tr.lload (pc := 187) (i := 5) d_X12_never_187 rfl ?_
                            refine Tr.lor (pc := 189) d_X12_never_189 ?_
                            refine Tr.gen (P := fun v => (-9223372036854775808) ≤ v ∧ v ≤ 9223372036854775807) (i64_b _) (fun r189 er189 br189 => ?_)
                            refine Tr.aload_n (pc := 190) (i := 0) d_X12_never_190 rfl rfl ?_
                            refine Tr.getf (pc := 191) d_X12_never_191 f_12_375 (by decide) (by decide) (ty_120 hS.1.1) ?_
                            refine Tr.tp 190 (fx_120_120 hS.1.1) ?_
                            refine Tr.iload (pc := 194) (i := 7) d_X12_never_194 rfl ?_
                            refine Tr.lald (pc := 196) d_X12_never_196 (ty_190 hS.1.1) (by omega) (by omega) ?_
                            refine Tr.tp r186 er186 ?_
                            refine Tr.lcmp (pc := 197) d_X12_never_197 ?_
                            refine Tr.gen (P := fun v => (v = 1 ∧ r186 < r189) ∨ (v = 0 ∧ r189 = r186) ∨ (v = -1 ∧ r189 < r186)) (f_lcmp_c _ _) (fun r197 er197 br197 => ?_)
                            replace br197 := hd_i br197
                            refine Tr.if_ne (pc := 198) (tgt := 222) d_X12_never_198 rfl (fun c198 => ?_) (fun c198 => ?_)
                            · replace c198 := hd_i c198
                              refine Tr.pick [1, 2, 4, 5, 6, 0] (ls2 := [(0, (2, 120)), (1, (0, r8)), (3, (0, p48_3)), (5, (1, p125_5)), (7, (0, q148_0)), (8, (0, q174_0))]) rfl ?_
                              exact J222 _ hS k174_136_1 k174_137_p48_31200 k174_190_p48_310 k174_9030_0 (Or.inr (Or.inl (by rw [er186, er189]; exact (by exact (ne_o (hd_o c198)).elim (fun h1 => (hd_o br197).elim (fun h2 => by omega) (fun h2 => h2.elim (fun h2 => by omega) (fun h2 => by omega))) (fun h1 => (hd_o br197).elim (fun h2 => by omega) (fun h2 => h2.elim (fun h2 => by omega) (fun h2 => by omega)))))))
                            · refine Tr.aload_n (pc := 201) (i := 0) d_X12_never_201 rfl rfl ?_
                              refine Tr.getf (pc := 202) d_X12_never_202 f_12_375 (by decide) (by decide) (ty_120 hS.1.1) ?_
                              refine Tr.tp 190 (fx_120_120 hS.1.1) ?_
                              refine Tr.iload (pc := 205) (i := 8) d_X12_never_205 rfl ?_
                              refine Tr.lald (pc := 207) d_X12_never_207 (ty_190 hS.1.1) (by omega) (by omega) ?_
                              refine Tr.gen (P := fun v => (-9223372036854775808) ≤ v ∧ v ≤ 9223372036854775807) (ar_190 hS.1.2.1 _) (fun r207 er207 br207 => ?_)
                              refine Tr.lload (pc := 208) (i := 5) d_X12_never_208 rfl ?_
                              refine Tr.lor (pc := 210) d_X12_never_210 ?_
                              refine Tr.gen (P := fun v => (-9223372036854775808) ≤ v ∧ v ≤ 9223372036854775807) (i64_b _) (fun r210 er210 br210 => ?_)
                              refine Tr.aload_n (pc := 211) (i := 0) d_X12_never_211 rfl rfl ?_
                              refine Tr.getf (pc := 212) d_X12_never_212 f_12_375 (by decide) (by decide) (ty_120 hS.1.1) ?_
                              refine Tr.tp 190 (fx_120_120 hS.1.1) ?_
                              refine Tr.iload (pc := 215) (i := 8) d_X12_never_215 rfl ?_
                              refine Tr.lald (pc := 217) d_X12_never_217 (ty_190 hS.1.1) (by omega) (by omega) ?_
                              refine Tr.tp r207 er207 ?_
                              refine Tr.lcmp (pc := 218) d_X12_never_218 ?_
                              refine Tr.gen (P := fun v => (v = 1 ∧ r207 < r210) ∨ (v = 0 ∧ r210 = r207) ∨ (v = -1 ∧ r210 < r207)) (f_lcmp_c _ _) (fun r218 er218 br218 => ?_)
                              replace br218 := hd_i br218
                              refine Tr.if_eq (pc := 219) (tgt := 226) d_X12_never_219 rfl (fun c219 => ?_) (fun c219 => ?_)
                              · refine Tr.iconst (pc := 226) d_X12_never_226 (by decide) ?_
                                refine Tr.pick [1, 2, 4, 5, 6, 0] (ls2 := [(0, (2, 120)), (1, (0, r8)), (3, (0, p48_3)), (5, (1, p125_5)), (7, (0, q148_0)), (8, (0, q174_0))]) rfl ?_
                                exact J227 _ _ hS (by omega) k174_136_1 k174_137_p48_31200 k174_190_p48_310 k174_9030_0 (Or.inl rfl)
                              · replace c219 := hd_i c219
                                refine Tr.pick [1, 2, 4, 5, 6, 0] (ls2 := [(0, (2, 120)), (1, (0, r8)), (3, (0, p48_3)), (5, (1, p125_5)), (7, (0, q148_0)), (8, (0, q174_0))]) rfl ?_
                                exact J222 _ hS k174_136_1 k174_137_p48_31200 k174_190_p48_310 k174_9030_0 (Or.inr (Or.inr (by rw [show rd M 190 q174_0 = r207 from er207, er210]; exact (by exact (ne_o (hd_o c219)).elim (fun h1 => (hd_o br218).elim (fun h2 => by omega) (fun h2 => h2.elim (fun h2 => by omega) (fun h2 => by omega))) (fun h1 => (hd_o br218).elim (fun h2 => by omega) (fun h2 => h2.elim (fun h2 => by omega) (fun h2 => by omega)))))))
                        refine Tr.icmp_lt (pc := 159) (tgt := 172) d_X12_never_159 rfl (fun c159 => ?_) (fun c159 => ?_)
                        · refine Tr.iload (pc := 172) (i := 7) d_X12_never_172 rfl ?_
                          refine Tr.pick [1, 2, 3, 4, 6, 0] (ls2 := [(0, (2, 120)), (1, (0, r8)), (2, (0, p48_2)), (3, (0, p48_3)), (5, (1, p125_5)), (7, (0, q148_0))]) rfl ?_
                          exact J174 _ _ hS (by and_intros <;> omega) k148_136_1 k148_137_p48_31200 k148_190_p48_310 k148_9030_0
                        · refine Tr.aload_n (pc := 162) (i := 0) d_X12_never_162 rfl rfl ?_
                          refine Tr.getf (pc := 163) d_X12_never_163 f_12_112 (by decide) (by decide) (ty_120 hS.1.1) ?_
                          refine Tr.tp 142 (fx_120_33 hS.1.1) ?_
                          refine Tr.iload (pc := 166) (i := 4) d_X12_never_166 rfl ?_
                          refine Tr.iald (pc := 168) d_X12_never_168 (ty_142 hS.1.1) (by omega) (by omega) ?_
                          refine Tr.gen (P := fun v => 0 ≤ v ∧ v ≤ 200) (ar_142 hS.1.2.1 _) (fun r168 er168 br168 => ?_)
                          refine Tr.goto (pc := 169) (tgt := 174) d_X12_never_169 rfl ?_
                          refine Tr.pick [1, 2, 3, 4, 6, 0] (ls2 := [(0, (2, 120)), (1, (0, r8)), (2, (0, p48_2)), (3, (0, p48_3)), (5, (1, p125_5)), (7, (0, q148_0))]) rfl ?_
                          exact J174 _ _ hS (by and_intros <;> omega) k148_136_1 k148_137_p48_31200 k148_190_p48_310 k148_9030_0
                      refine Tr.if_ne (pc := 132) (tgt := 145) d_X12_never_132 rfl (fun c132 => ?_) (fun c132 => ?_)
                      · have c132b : 1 ≤ r79 ∧ r79 ≤ 8 := by omega
                        replace c132 := hd_i c132
                        refine Tr.iload_n (pc := 145) (i := 3) d_X12_never_145 rfl rfl ?_
                        refine Tr.iconst (pc := 146) d_X12_never_146 (by decide) ?_
                        refine Tr.iadd (pc := 147) d_X12_never_147 ?_
                        refine Tr.tp (p48_3 + 1) ((w32_id (by and_intros <;> omega)).trans (by omega)) ?_
                        refine Tr.pick [0, 1, 2, 3, 4, 5] (ls2 := [(0, (2, 120)), (1, (0, r8)), (2, (0, p48_2)), (3, (0, p48_3)), (4, (0, (p48_3 + 200))), (5, (1, p125_5))]) rfl ?_
                        exact J148 _ _ hS (by and_intros <;> omega) k125_136_1 k125_137_p48_31200 k125_190_p48_310 k125_9030_0
                      · refine Tr.aload_n (pc := 135) (i := 0) d_X12_never_135 rfl rfl ?_
                        refine Tr.getf (pc := 136) d_X12_never_136 f_12_112 (by decide) (by decide) (ty_120 hS.1.1) ?_
                        refine Tr.tp 142 (fx_120_33 hS.1.1) ?_
                        refine Tr.iload (pc := 139) (i := 4) d_X12_never_139 rfl ?_
                        refine Tr.iald (pc := 141) d_X12_never_141 (ty_142 hS.1.1) (by omega) (by omega) ?_
                        refine Tr.gen (P := fun v => 0 ≤ v ∧ v ≤ 200) (ar_142 hS.1.2.1 _) (fun r141 er141 br141 => ?_)
                        refine Tr.goto (pc := 142) (tgt := 148) d_X12_never_142 rfl ?_
                        refine Tr.pick [0, 1, 2, 3, 4, 5] (ls2 := [(0, (2, 120)), (1, (0, r8)), (2, (0, p48_2)), (3, (0, p48_3)), (4, (0, (p48_3 + 200))), (5, (1, p125_5))]) rfl ?_
                        exact J148 _ _ hS (by and_intros <;> omega) k125_136_1 k125_137_p48_31200 k125_190_p48_310 k125_9030_0
                    have J95 : ∀ (M : Mem), St Tru ws_X12_never_120_w1 as_X12_never_120_w1 M0 M → (3 ≤ r79 ∧ r79 ≤ 4) → rd M 136 1 = r8 → rd M 137 (p48_3 + 200) = r79 → rd M 190 p48_3 = r70 → cmv M = u48_9030_0 → Tr l K 1 mX12_never 95 [(0, (2, 120)), (1, (0, r8)), (2, (0, p48_2)), (3, (0, p48_3)), (4, (0, (p48_3 + 200))), (5, (1, r70))] [] M (q_X12_never_120_w1 M0) := by
                      intro M  hS z95r79 k95_136_1 k95_137_p48_31200 k95_190_p48_310 k95_9030_0
                      clear k48_136_1 k48_9030_0 er70 er79
                      refine Tr.lload (pc := 95) (i := 5) d_X12_never_95 rfl ?_
                      refine Tr.aload_n (pc := 97) (i := 0) d_X12_never_97 rfl rfl ?_
                      refine Tr.getf (pc := 98) d_X12_never_98 f_12_103 (by decide) (by decide) (ty_120 hS.1.1) ?_
                      refine Tr.tp 139 (fx_120_30 hS.1.1) ?_
                      refine Tr.iload (pc := 101) (i := 4) d_X12_never_101 rfl ?_
                      refine Tr.iald (pc := 103) d_X12_never_103 (ty_139 hS.1.1) (by omega) (by omega) ?_
                      refine Tr.gen (P := fun v => (-1) ≤ v ∧ v ≤ 5) (ar_139 hS.1.2.1 _) (fun r103 er103 br103 => ?_)
                      refine Tr.aload_n (pc := 104) (i := 0) d_X12_never_104 rfl rfl ?_
                      refine Tr.getf (pc := 105) d_X12_never_105 f_12_97 (by decide) (by decide) (ty_120 hS.1.1) ?_
                      refine Tr.tp 137 (fx_120_28 hS.1.1) ?_
                      refine Tr.iload (pc := 108) (i := 4) d_X12_never_108 rfl ?_
                      refine Tr.iald (pc := 110) d_X12_never_110 (ty_137 hS.1.1) (by omega) (by omega) ?_
                      refine Tr.tp r79 k95_137_p48_31200 ?_
                      refine Tr.iconst (pc := 111) d_X12_never_111 (by decide) ?_
                      have J120 : ∀ (M : Mem) (q120_2 : Int), St Tru ws_X12_never_120_w1 as_X12_never_120_w1 M0 M → (0 ≤ q120_2 ∧ q120_2 ≤ 1) → rd M 136 1 = r8 → rd M 137 (p48_3 + 200) = r79 → rd M 139 (p48_3 + 200) = r103 → rd M 190 p48_3 = r70 → cmv M = u48_9030_0 → Tr l K 1 mX12_never 120 [(0, (2, 120)), (1, (0, r8)), (2, (0, p48_2)), (3, (0, p48_3)), (4, (0, (p48_3 + 200)))] [(0, q120_2), (0, r103), (1, r70)] M (q_X12_never_120_w1 M0) := by
                        intro M q120_2 hS bq120_2 k120_136_1 k120_137_p48_31200 k120_139_p48_31200 k120_190_p48_310 k120_9030_0
                        clear k95_136_1 k95_137_p48_31200 k95_190_p48_310 k95_9030_0 er103
                        refine Tr.callS (pc := 120) (as := [_, _, _]) d_X12_never_120 s_12_692 ok_X12_moved rfl rfl (Nat.le_of_ble_eq_true rfl) (Nat.le_of_ble_eq_true rfl) ?_
                        refine Tr.imp (Tr.deep (by decide) (sp_X12_moved hS.1 r70 (by omega) r103 (by and_intros <;> omega) q120_2 (by and_intros <;> omega))) ?_
                        rintro M120 _ ⟨h120, r120, rfl, lr120, ur120⟩
                        have hS := St.tr hS h120 (by decide) (by decide)
                        refine Tr.sc [(1, r120)] rfl ?_
                        refine Tr.lstore (pc := 123) (i := 5) (ls2 := [(5, (1, r120)), (0, (2, 120)), (1, (0, r8)), (2, (0, p48_2)), (3, (0, p48_3)), (4, (0, (p48_3 + 200)))]) d_X12_never_123 (by decide) rfl ?_
                        refine Tr.pick [1, 2, 3, 4, 5, 0] (ls2 := [(0, (2, 120)), (1, (0, r8)), (2, (0, p48_2)), (3, (0, p48_3)), (4, (0, (p48_3 + 200))), (5, (1, r120))]) rfl ?_
                        exact J125 _ _ hS (by omega) ((kp_X12_moved_136_1 h120).trans k120_136_1) ((ka_X12_moved_137 h120 _).trans k120_137_p48_31200) ((ka_X12_moved_190 h120 _).trans k120_190_p48_310) ((cmv_of (fun j => ((ka_X12_moved_190 h120 _).trans rfl))).trans k120_9030_0)
                      refine Tr.icmp_ne (pc := 112) (tgt := 119) d_X12_never_112 rfl (fun c112 => ?_) (fun c112 => ?_)
                      · have c112b : 4 ≤ r79 ∧ r79 ≤ 4 := by omega
                        replace c112 := hd_i c112
                        refine Tr.iconst (pc := 119) d_X12_never_119 (by decide) ?_
                        refine Tr.pick [0, 1, 2, 3, 4] (ls2 := [(0, (2, 120)), (1, (0, r8)), (2, (0, p48_2)), (3, (0, p48_3)), (4, (0, (p48_3 + 200)))]) rfl ?_
                        exact J120 _ _ hS (by omega) k95_136_1 k95_137_p48_31200 er103 k95_190_p48_310 k95_9030_0
                      · refine Tr.iconst (pc := 115) d_X12_never_115 (by decide) ?_
                        refine Tr.goto (pc := 116) (tgt := 120) d_X12_never_116 rfl ?_
                        refine Tr.pick [0, 1, 2, 3, 4] (ls2 := [(0, (2, 120)), (1, (0, r8)), (2, (0, p48_2)), (3, (0, p48_3)), (4, (0, (p48_3 + 200)))]) rfl ?_
                        exact J120 _ _ hS (by omega) k95_136_1 k95_137_p48_31200 er103 k95_190_p48_310 k95_9030_0
                    refine Tr.icmp_eq (pc := 81) (tgt := 95) d_X12_never_81 rfl (fun c81 => ?_) (fun c81 => ?_)
                    · refine Tr.pick [2, 3, 4, 5, 1, 0] (ls2 := [(0, (2, 120)), (1, (0, r8)), (2, (0, p48_2)), (3, (0, p48_3)), (4, (0, (p48_3 + 200))), (5, (1, r70))]) rfl ?_
                      exact J95 _ hS (by and_intros <;> omega) k48_136_1 er79 er70 k48_9030_0
                    · replace c81 := hd_i c81
                      refine Tr.aload_n (pc := 84) (i := 0) d_X12_never_84 rfl rfl ?_
                      refine Tr.getf (pc := 85) d_X12_never_85 f_12_97 (by decide) (by decide) (ty_120 hS.1.1) ?_
                      refine Tr.tp 137 (fx_120_28 hS.1.1) ?_
                      refine Tr.iload (pc := 88) (i := 4) d_X12_never_88 rfl ?_
                      refine Tr.iald (pc := 90) d_X12_never_90 (ty_137 hS.1.1) (by omega) (by omega) ?_
                      refine Tr.tp r79 er79 ?_
                      refine Tr.iconst (pc := 91) d_X12_never_91 (by decide) ?_
                      refine Tr.icmp_ne (pc := 92) (tgt := 125) d_X12_never_92 rfl (fun c92 => ?_) (fun c92 => ?_)
                      · replace c92 := hd_i c92
                        refine Tr.pick [2, 3, 4, 5, 1, 0] (ls2 := [(0, (2, 120)), (1, (0, r8)), (2, (0, p48_2)), (3, (0, p48_3)), (4, (0, (p48_3 + 200))), (5, (1, r70))]) rfl ?_
                        exact J125 _ _ hS (by omega) k48_136_1 er79 er70 k48_9030_0
                      · refine Tr.pick [2, 3, 4, 5, 1, 0] (ls2 := [(0, (2, 120)), (1, (0, r8)), (2, (0, p48_2)), (3, (0, p48_3)), (4, (0, (p48_3 + 200))), (5, (1, r70))]) rfl ?_
                        exact J95 _ hS (by and_intros <;> omega) k48_136_1 er79 er70 k48_9030_0
              refine Tr.pick [2, 3, 1, 0] (ls2 := [(0, (2, 120)), (1, (0, r8)), (2, (0, 0)), (3, (0, 0))]) rfl ?_
              exact J48 _ _ _ _ _ hS (by omega) (by omega) (by and_intros <;> omega) k40_136_1 k40_9030_0 (by omega) (by omega) (by omega) (Nat.lt_succ_self _)
        refine Tr.pick [1, 2, 0] (ls2 := [(0, (2, 120)), (1, (0, r8)), (2, (0, 1))]) rfl ?_
        exact J40 _ _ _ _ hS (by omega) (by and_intros <;> omega) k12_136_1 k12_9030_0 (by omega) (Nat.lt_succ_self _)
      · refine Tr.aload_n (pc := 17) (i := 0) d_X12_never_17 rfl rfl ?_
        refine Tr.getf (pc := 18) d_X12_never_18 f_12_375 (by decide) (by decide) (ty_120 hS.1.1) ?_
        refine Tr.tp 190 (fx_120_120 hS.1.1) ?_
        refine Tr.iload_n (pc := 21) (i := 2) d_X12_never_21 rfl rfl ?_
        refine Tr.iload_n (pc := 22) (i := 2) d_X12_never_22 rfl rfl ?_
        have J31 : ∀ (M : Mem) (q31_2 : Int), St Tru ws_X12_never_120_w1 as_X12_never_120_w1 M0 M → (0 ≤ q31_2 ∧ q31_2 ≤ 1) → rd M 136 1 = r8 → cmv M = u12_9030_0 → Tr l K 1 mX12_never 31 [(0, (2, 120)), (1, (0, r8)), (2, (0, p12_2))] [(1, q31_2), (0, p12_2), (2, 190)] M (q_X12_never_120_w1 M0) := by
          intro M q31_2 hS bq31_2 k31_136_1 k31_9030_0
          clear k12_136_1 k12_9030_0
          refine Tr.lastS (pc := 31) (P := St Tru ws_X12_never_120_w1 as_X12_never_120_w1 M0) d_X12_never_31 (ty_190 hS.1.1) (by omega) (by omega) (sa_190 hS (by decide) (by omega) trivial) (fun M31 hS w31 => ?_)
          refine Tr.iincV (pc := 32) (n2 := (p12_2 + 1)) (ls2 := [(2, (0, (p12_2 + 1))), (0, (2, 120)), (1, (0, r8))]) d_X12_never_32 rfl (by decide) ((w32_id (by and_intros <;> omega)).trans (by omega)) rfl ?_
          refine Tr.goto (pc := 35) (tgt := 12) d_X12_never_35 rfl ?_
          refine Tr.pick [1, 2, 0] (ls2 := [(0, (2, 120)), (1, (0, r8)), (2, (0, (p12_2 + 1)))]) rfl ?_
          obtain ⟨w12p35_9030_0, ew12p35_9030_0⟩ : ∃ v, cmv M31 = v := ⟨_, rfl⟩
          have bw12p35_9030_0 : 0 ≤ w12p35_9030_0 ∧ w12p35_9030_0 ≤ 12864 := by rw [← ew12p35_9030_0]; exact (cmv_b hS.1.2.1)
          exact J12 _ _ _ hS (by and_intros <;> omega) (by and_intros <;> omega) ((Wr.b w31 rfl).trans k31_136_1) ew12p35_9030_0 (me_lt hm12 (by omega) (by omega))
        refine Tr.if_ne (pc := 23) (tgt := 30) d_X12_never_23 rfl (fun c23 => ?_) (fun c23 => ?_)
        · have c23b : 1 ≤ p12_2 ∧ p12_2 ≤ 200 := by omega
          replace c23 := hd_i c23
          refine Tr.lconst (pc := 30) (v := 0) d_X12_never_30 rfl (by decide) ?_
          refine Tr.pick [0, 1, 2] (ls2 := [(0, (2, 120)), (1, (0, r8)), (2, (0, p12_2))]) rfl ?_
          exact J31 _ _ hS (by omega) k12_136_1 k12_9030_0
        · refine Tr.lconst (pc := 26) (v := 1) d_X12_never_26 rfl (by decide) ?_
          refine Tr.goto (pc := 27) (tgt := 31) d_X12_never_27 rfl ?_
          refine Tr.pick [0, 1, 2] (ls2 := [(0, (2, 120)), (1, (0, r8)), (2, (0, p12_2))]) rfl ?_
          exact J31 _ _ hS (by omega) k12_136_1 k12_9030_0
  refine Tr.pick [2, 1, 0] (ls2 := [(0, (2, 120)), (1, (0, r8)), (2, (0, 0))]) rfl ?_
  exact J12 _ _ _ _ hS (by omega) (by and_intros <;> omega) er8 eg9030_0 (Nat.lt_succ_self _)
