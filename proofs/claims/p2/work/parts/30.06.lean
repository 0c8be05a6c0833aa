def ws_X2_add_107_74 : List (Int × Int) := [(107, 0)]
def as_X2_add_107_74 : List Int := [109, 110, 111]
def q_X2_add_107_74 (M0 M' : Mem) (r : Option PV) : Prop := St ws_X2_add_107_74 as_X2_add_107_74 M0 M' ∧ r = none
set_option maxRecDepth 100000 in
set_option maxHeartbeats 4000000 in
theorem sp_X2_add_107_74 {l : Launch} {K : EC} {M0 : Mem} (hI : In M0)  (a1 : Int) (ha1 : 0 ≤ a1 ∧ a1 ≤ 10000000)  : Tr l K 1 mX2_add 0 [(0, (2, 107)), (1, (0, a1)), (2, (2, 74))] [] M0 (q_X2_add_107_74 M0) := by
  have hS : St ws_X2_add_107_74 as_X2_add_107_74 M0 M0 := St.rf hI
  refine Tr.aload_n (pc := 0) (i := 0) d_X2_add_0 rfl rfl ?_
  refine Tr.getf (pc := 1) d_X2_add_1 f_2_27 (by decide) (by decide) (ty_107 hS.1.1) ?_
  refine Tr.gen (P := fun v => 0 ≤ v ∧ v ≤ 12) (ir_107_0 hS.1.2.1) (fun r1 er1 br1 => ?_)
  refine Tr.bipush (pc := 4) d_X2_add_4 rfl (by decide) ?_
  refine Tr.icmp_lt (pc := 6) (tgt := 10) d_X2_add_6 rfl (fun c6 => ?_) (fun c6 => ?_)
  · refine Tr.aload_n (pc := 10) (i := 0) d_X2_add_10 rfl rfl ?_
    refine Tr.getf (pc := 11) d_X2_add_11 f_2_15 (by decide) (by decide) (ty_107 hS.1.1) ?_
    refine Tr.tp 109 (fx_107_3 hS.1.1) ?_
    refine Tr.aload_n (pc := 14) (i := 0) d_X2_add_14 rfl rfl ?_
    refine Tr.getf (pc := 15) d_X2_add_15 f_2_27 (by decide) (by decide) (ty_107 hS.1.1) ?_
    refine Tr.tp r1 er1 ?_
    refine Tr.iload_n (pc := 18) (i := 1) d_X2_add_18 rfl rfl ?_
    refine Tr.iastS (pc := 19) (P := St ws_X2_add_107_74 as_X2_add_107_74 M0) d_X2_add_19 (ty_109 hS.1.1) (by omega) (by omega) (sa_109 hS (by decide) (by omega)) (fun hS => ?_)
    refine Tr.aload_n (pc := 20) (i := 0) d_X2_add_20 rfl rfl ?_
    refine Tr.getf (pc := 21) d_X2_add_21 f_2_18 (by decide) (by decide) (ty_107 hS.1.1) ?_
    refine Tr.tp 110 (fx_107_4 hS.1.1) ?_
    refine Tr.aload_n (pc := 24) (i := 0) d_X2_add_24 rfl rfl ?_
    refine Tr.getf (pc := 25) d_X2_add_25 f_2_27 (by decide) (by decide) (ty_107 hS.1.1) ?_
    refine Tr.tp r1 ((rd_wb _ rfl).trans er1) ?_
    refine Tr.aload_n (pc := 28) (i := 2) d_X2_add_28 rfl rfl ?_
    refine Tr.getf (pc := 29) d_X2_add_29 f_2_35 (by decide) (by decide) (ty_74 hS.1.1) ?_
    refine Tr.gen (P := fun v => (-2147483648) ≤ v ∧ v ≤ 2147483647) (ir_74_10 hS.1.2.1) (fun r29 er29 br29 => ?_)
    refine Tr.iastS (pc := 32) (P := St ws_X2_add_107_74 as_X2_add_107_74 M0) d_X2_add_32 (ty_110 hS.1.1) (by omega) (by omega) (sa_110 hS (by decide) (by omega)) (fun hS => ?_)
    refine Tr.aload_n (pc := 33) (i := 2) d_X2_add_33 rfl rfl ?_
    refine Tr.getf (pc := 34) d_X2_add_34 f_2_39 (by decide) (by decide) (ty_74 hS.1.1) ?_
    refine Tr.tp 82 (fx_74_0 hS.1.1) ?_
    refine Tr.getf (pc := 37) d_X2_add_37 f_2_43 (by decide) (by decide) (ty_82 hS.1.1) ?_
    refine Tr.tp 83 (fx_82_2 hS.1.1) ?_
    refine Tr.iconst (pc := 40) d_X2_add_40 (by decide) ?_
    refine Tr.aload_n (pc := 41) (i := 0) d_X2_add_41 rfl rfl ?_
    refine Tr.getf (pc := 42) d_X2_add_42 f_2_21 (by decide) (by decide) (ty_107 hS.1.1) ?_
    refine Tr.tp 111 (fx_107_5 hS.1.1) ?_
    refine Tr.aload_n (pc := 45) (i := 0) d_X2_add_45 rfl rfl ?_
    refine Tr.getf (pc := 46) d_X2_add_46 f_2_27 (by decide) (by decide) (ty_107 hS.1.1) ?_
    refine Tr.tp r1 ((rd_wb _ rfl).trans ((rd_wb _ rfl).trans er1)) ?_
    refine Tr.bipush (pc := 49) d_X2_add_49 rfl (by decide) ?_
    refine Tr.imul (pc := 51) d_X2_add_51 ?_
    refine Tr.tp (24 * r1) ((w32_id (by omega)).trans (by omega)) ?_
    refine Tr.bipush (pc := 52) d_X2_add_52 rfl (by decide) ?_
    refine Tr.acopyS (pc := 54) (x := 83) (y := 111) (P := St ws_X2_add_107_74 as_X2_add_107_74 M0) d_X2_add_54 ac_2_48 acw.1 acw.2.1 acw.2.2 (ty_83 hS.1.1) (ty_111 hS.1.1) (by omega) (by omega) (by omega) (by omega) (by omega) (Nat.le_of_ble_eq_true rfl) (sw_111 hS (by decide) rfl rfl (fun z i hz => by rw [rd_cpy, if_neg (fun c => hz c.1)]) (fun i => by rw [rd_cpy]; split; exact And.intro (by have := ar_83 hS.1.2.1 (0 + (i - (24 * r1))); omega) (by have := ar_83 hS.1.2.1 (0 + (i - (24 * r1))); omega); exact ar_111 hS.1.2.1 i)) (fun hS => ?_)
    refine Tr.aload_n (pc := 57) (i := 0) d_X2_add_57 rfl rfl ?_
    refine Tr.dup (pc := 58) d_X2_add_58 ne21 ?_
    refine Tr.getf (pc := 59) d_X2_add_59 f_2_27 (by decide) (by decide) (ty_107 hS.1.1) ?_
    refine Tr.tp r1 ((rd_cb _ rfl).trans ((rd_wb _ rfl).trans ((rd_wb _ rfl).trans er1))) ?_
    refine Tr.iconst (pc := 62) d_X2_add_62 (by decide) ?_
    refine Tr.iadd (pc := 63) d_X2_add_63 ?_
    refine Tr.tp (r1 + 1) ((w32_id (by omega)).trans (by omega)) ?_
    refine Tr.putfS (pc := 64) (P := St ws_X2_add_107_74 as_X2_add_107_74 M0) d_X2_add_64 f_2_27 (by decide) (by decide) (ty_107 hS.1.1) (st_107_0 hS (by decide) (by omega)) (fun hS => ?_)
    exact Tr.vret (pc := 67) d_X2_add_67 rfl ⟨hS, rfl⟩
  · exact Tr.vret (pc := 9) d_X2_add_9 rfl ⟨hS, rfl⟩

def ws_X10_count_7 : List (Int × Int) := []
def as_X10_count_7 : List Int := []
def q_X10_count_7 (M0 M' : Mem) (r : Option PV) : Prop := St ws_X10_count_7 as_X10_count_7 M0 M' ∧ ∃ v : Int, r = some (0, v) ∧ (-2147483648) ≤ v ∧ v ≤ 2147483647
set_option maxRecDepth 100000 in
set_option maxHeartbeats 4000000 in
theorem sp_X10_count_7 {l : Launch} {K : EC} {M0 : Mem} (hI : In M0)    : Tr l K 0 mX10_count 0 [(0, (2, 7))] [] M0 (q_X10_count_7 M0) := by
  have hS : St ws_X10_count_7 as_X10_count_7 M0 M0 := St.rf hI
  refine Tr.iconst (pc := 0) d_X10_count_0 (by decide) ?_
  refine Tr.istore_n (pc := 1) (i := 1) (ls2 := [(1, (0, 1)), (0, (2, 7))]) d_X10_count_1 rfl (by decide) rfl ?_
  refine Tr.iconst (pc := 2) d_X10_count_2 (by decide) ?_
  refine Tr.istore_n (pc := 3) (i := 2) (ls2 := [(2, (0, 0)), (1, (0, 1)), (0, (2, 7))]) d_X10_count_3 rfl (by decide) rfl ?_
  have J4 : ∀ (n4 : Nat) (M : Mem) (p4_1 p4_2 : Int), St ws_X10_count_7 as_X10_count_7 M0 M → ((-2147483648) ≤ p4_1 ∧ p4_1 ≤ 2147483647) → (0 ≤ p4_2 ∧ p4_2 ≤ 3) → (3 - p4_2).toNat < n4 → Tr l K 0 mX10_count 4 [(0, (2, 7)), (1, (0, p4_1)), (2, (0, p4_2))] [] M (q_X10_count_7 M0) := by
    intro n4
    induction n4 with
    | zero => intro M p4_1 p4_2 hS bp4_1 bp4_2  hm4; exact absurd hm4 (Nat.not_lt_zero _)
    | succ n4 J4 =>
      intro M p4_1 p4_2 hS bp4_1 bp4_2  hm4
      refine Tr.iload_n (pc := 4) (i := 2) d_X10_count_4 rfl rfl ?_
      refine Tr.aload_n (pc := 5) (i := 0) d_X10_count_5 rfl rfl ?_
      refine Tr.getf (pc := 6) d_X10_count_6 f_10_25 (by decide) (by decide) (ty_7 hS.1.1) ?_
      refine Tr.tp 8 (fx_7_4 hS.1.1) ?_
      refine Tr.iconst (pc := 9) d_X10_count_9 (by decide) ?_
      refine Tr.iald (pc := 10) d_X10_count_10 (ty_8 hS.1.1) (by omega) (by omega) ?_
      refine Tr.gen (P := fun v => 0 ≤ v ∧ v ≤ 3) (ir_8_1 hS.1.2.1) (fun r10 er10 br10 => ?_)
      refine Tr.icmp_ge (pc := 11) (tgt := 38) d_X10_count_11 rfl (fun c11 => ?_) (fun c11 => ?_)
      · refine Tr.iload_n (pc := 38) (i := 1) d_X10_count_38 rfl rfl ?_
        exact Tr.iret (pc := 39) d_X10_count_39 rfl ⟨hS, _, rfl, by omega, by omega⟩
      · refine Tr.iload_n (pc := 14) (i := 1) d_X10_count_14 rfl rfl ?_
        refine Tr.aload_n (pc := 15) (i := 0) d_X10_count_15 rfl rfl ?_
        refine Tr.getf (pc := 16) d_X10_count_16 f_10_30 (by decide) (by decide) (ty_7 hS.1.1) ?_
        refine Tr.tp 13 (fx_7_9 hS.1.1) ?_
        refine Tr.iload_n (pc := 19) (i := 2) d_X10_count_19 rfl rfl ?_
        refine Tr.iald (pc := 20) d_X10_count_20 (ty_13 hS.1.1) (by omega) (by omega) ?_
        refine Tr.gen (P := fun v => 0 ≤ v ∧ v ≤ 99) (ar_13 hS.1.2.1 _) (fun r20 er20 br20 => ?_)
        refine Tr.aload_n (pc := 21) (i := 0) d_X10_count_21 rfl rfl ?_
        refine Tr.getf (pc := 22) d_X10_count_22 f_10_33 (by decide) (by decide) (ty_7 hS.1.1) ?_
        refine Tr.tp 12 (fx_7_8 hS.1.1) ?_
        refine Tr.iload_n (pc := 25) (i := 2) d_X10_count_25 rfl rfl ?_
        refine Tr.iald (pc := 26) d_X10_count_26 (ty_12 hS.1.1) (by omega) (by omega) ?_
        refine Tr.gen (P := fun v => 0 ≤ v ∧ v ≤ 99) (ar_12 hS.1.2.1 _) (fun r26 er26 br26 => ?_)
        refine Tr.isub (pc := 27) d_X10_count_27 ?_
        refine Tr.tp (r20 - r26) ((w32_id (by omega)).trans (by omega)) ?_
        refine Tr.iconst (pc := 28) d_X10_count_28 (by decide) ?_
        refine Tr.iadd (pc := 29) d_X10_count_29 ?_
        refine Tr.tp (r20 - r26 + 1) ((w32_id (by omega)).trans (by omega)) ?_
        refine Tr.imul (pc := 30) d_X10_count_30 ?_
        refine Tr.gen (P := fun v => (-2147483648) ≤ v ∧ v ≤ 2147483647) (w32_b _) (fun r30 er30 br30 => ?_)
        refine Tr.istore_n (pc := 31) (i := 1) (ls2 := [(1, (0, r30)), (0, (2, 7)), (2, (0, p4_2))]) d_X10_count_31 rfl (by decide) rfl ?_
        refine Tr.iincV (pc := 32) (n2 := (p4_2 + 1)) (ls2 := [(2, (0, (p4_2 + 1))), (1, (0, r30)), (0, (2, 7))]) d_X10_count_32 rfl (by decide) ((w32_id (by omega)).trans (by omega)) rfl ?_
        refine Tr.goto (pc := 35) (tgt := 4) d_X10_count_35 rfl ?_
        refine Tr.pick [2, 1, 0] (ls2 := [(0, (2, 7)), (1, (0, r30)), (2, (0, (p4_2 + 1)))]) rfl ?_
        exact J4 _ _ _ hS (by omega) (by omega) (by omega)
  refine Tr.pick [2, 1, 0] (ls2 := [(0, (2, 7)), (1, (0, 1)), (2, (0, 0))]) rfl ?_
  exact J4 _ _ _ _ hS (by omega) (by omega) (Nat.lt_succ_self _)

def ws_X10_begin_103_7 : List (Int × Int) := []
def as_X10_begin_103_7 : List Int := [104]
def q_X10_begin_103_7 (M0 M' : Mem) (r : Option PV) : Prop := St ws_X10_begin_103_7 as_X10_begin_103_7 M0 M' ∧ ∃ v : Int, r = some (0, v) ∧ (-2147483648) ≤ v ∧ v ≤ 2147483647
set_option maxRecDepth 100000 in
set_option maxHeartbeats 4000000 in
theorem sp_X10_begin_103_7 {l : Launch} {K : EC} {M0 : Mem} (hI : In M0)    : Tr l K 1 mX10_begin 0 [(0, (2, 103)), (1, (2, 7))] [] M0 (q_X10_begin_103_7 M0) := by
  have hS : St ws_X10_begin_103_7 as_X10_begin_103_7 M0 M0 := St.rf hI
  refine Tr.aload_n (pc := 0) (i := 1) d_X10_begin_0 rfl rfl ?_
  refine Tr.getf (pc := 1) d_X10_begin_1 f_10_33 (by decide) (by decide) (ty_7 hS.1.1) ?_
  refine Tr.tp 12 (fx_7_8 hS.1.1) ?_
  refine Tr.iconst (pc := 4) d_X10_begin_4 (by decide) ?_
  refine Tr.aload_n (pc := 5) (i := 0) d_X10_begin_5 rfl rfl ?_
  refine Tr.getf (pc := 6) d_X10_begin_6 f_10_9 (by decide) (by decide) (ty_103 hS.1.1) ?_
  refine Tr.tp 104 (fx_103_4 hS.1.1) ?_
  refine Tr.iconst (pc := 9) d_X10_begin_9 (by decide) ?_
  refine Tr.iconst (pc := 10) d_X10_begin_10 (by decide) ?_
  refine Tr.acopyS (pc := 11) (x := 12) (y := 104) (P := St ws_X10_begin_103_7 as_X10_begin_103_7 M0) d_X10_begin_11 ac_10_36 acw.1 acw.2.1 acw.2.2 (ty_12 hS.1.1) (ty_104 hS.1.1) (by omega) (by omega) (by omega) (by omega) (by omega) (Nat.le_of_ble_eq_true rfl) (sw_104 hS (by decide) rfl rfl (fun z i hz => by rw [rd_cpy, if_neg (fun c => hz c.1)]) (fun i => by rw [rd_cpy]; split; exact And.intro (by have := ar_12 hS.1.2.1 (0 + (i - 0)); omega) (by have := ar_12 hS.1.2.1 (0 + (i - 0)); omega); exact ar_104 hS.1.2.1 i)) (fun hS => ?_)
  refine Tr.aload_n (pc := 14) (i := 0) d_X10_begin_14 rfl rfl ?_
  refine Tr.getz (pc := 15) d_X10_begin_15 f_10_21 (by decide) (ty_103 hS.1.1) ?_
  refine Tr.gen (P := fun v => 0 ≤ v ∧ v ≤ 1) (ir_103_0 hS.1.2.1) (fun r15 er15 br15 => ?_)
  refine Tr.if_eq (pc := 18) (tgt := 25) d_X10_begin_18 rfl (fun c18 => ?_) (fun c18 => ?_)
  · refine Tr.aload_n (pc := 25) (i := 1) d_X10_begin_25 rfl rfl ?_
    refine Tr.callS (pc := 26) (as := [_]) d_X10_begin_26 s_10_42 ok_X10_count rfl rfl (Nat.le_of_ble_eq_true rfl) (Nat.le_of_ble_eq_true rfl) ?_
    refine Tr.imp (Tr.deep (by decide) (sp_X10_count_7 hS.1 )) ?_
    rintro M26 _ ⟨h26, r26, rfl, lr26, ur26⟩
    have hS := St.tr hS h26 (by decide) (by decide)
    refine Tr.sc [(0, r26)] rfl ?_
    exact Tr.iret (pc := 29) d_X10_begin_29 rfl ⟨hS, _, rfl, by omega, by omega⟩
  · refine Tr.iconst (pc := 21) d_X10_begin_21 (by decide) ?_
    refine Tr.goto (pc := 22) (tgt := 29) d_X10_begin_22 rfl ?_
    exact Tr.iret (pc := 29) d_X10_begin_29 rfl ⟨hS, _, rfl, by omega, by omega⟩

def ws_X10_choose_103 : List (Int × Int) := [(103, 0), (103, 1)]
def as_X10_choose_103 : List Int := []
def q_X10_choose_103 (M0 M' : Mem) (r : Option PV) : Prop := St ws_X10_choose_103 as_X10_choose_103 M0 M' ∧ ∃ v : Int, r = some (0, v) ∧ (-2147483648) ≤ v ∧ v ≤ 2147483647
set_option maxRecDepth 100000 in
set_option maxHeartbeats 4000000 in
theorem sp_X10_choose_103 {l : Launch} {K : EC} {M0 : Mem} (hI : In M0)  (a1 : Int) (ha1 : 0 ≤ a1 ∧ a1 ≤ 1)  : Tr l K 0 mX10_choose 0 [(0, (2, 103)), (1, (0, a1))] [] M0 (q_X10_choose_103 M0) := by
  have hS : St ws_X10_choose_103 as_X10_choose_103 M0 M0 := St.rf hI
  refine Tr.aload_n (pc := 0) (i := 0) d_X10_choose_0 rfl rfl ?_
  refine Tr.iconst (pc := 1) d_X10_choose_1 (by decide) ?_
  refine Tr.putzS (pc := 2) (P := St ws_X10_choose_103 as_X10_choose_103 M0) d_X10_choose_2 f_10_21 (by decide) (ty_103 hS.1.1) (by omega) (st_103_0 hS (by decide) (by omega)) (fun hS => ?_)
  refine Tr.aload_n (pc := 5) (i := 0) d_X10_choose_5 rfl rfl ?_
  refine Tr.iload_n (pc := 6) (i := 1) d_X10_choose_6 rfl rfl ?_
  refine Tr.putzS (pc := 7) (P := St ws_X10_choose_103 as_X10_choose_103 M0) d_X10_choose_7 f_10_52 (by decide) (ty_103 hS.1.1) (by omega) (st_103_1 hS (by decide) (by omega)) (fun hS => ?_)
  refine Tr.iload_n (pc := 10) (i := 1) d_X10_choose_10 rfl rfl ?_
  refine Tr.if_eq (pc := 11) (tgt := 21) d_X10_choose_11 rfl (fun c11 => ?_) (fun c11 => ?_)
  · refine Tr.aload_n (pc := 21) (i := 0) d_X10_choose_21 rfl rfl ?_
    refine Tr.getf (pc := 22) d_X10_choose_22 f_10_50 (by decide) (by decide) (ty_103 hS.1.1) ?_
    refine Tr.gen (P := fun v => (-2147483648) ≤ v ∧ v ≤ 2147483647) (ir_103_3 hS.1.2.1) (fun r22 er22 br22 => ?_)
    exact Tr.iret (pc := 25) d_X10_choose_25 rfl ⟨hS, _, rfl, by omega, by omega⟩
  · refine Tr.aload_n (pc := 14) (i := 0) d_X10_choose_14 rfl rfl ?_
    refine Tr.getf (pc := 15) d_X10_choose_15 f_10_46 (by decide) (by decide) (ty_103 hS.1.1) ?_
    refine Tr.gen (P := fun v => (-2147483648) ≤ v ∧ v ≤ 2147483647) (ir_103_2 hS.1.2.1) (fun r15 er15 br15 => ?_)
    refine Tr.goto (pc := 18) (tgt := 25) d_X10_choose_18 rfl ?_
    exact Tr.iret (pc := 25) d_X10_choose_25 rfl ⟨hS, _, rfl, by omega, by omega⟩

def ws_X6_begin_74_7_104 : List (Int × Int) := [(74, 1), (74, 9), (74, 11), (74, 12), (74, 13), (74, 14), (74, 15), (74, 16), (74, 17), (82, 1)]
def as_X6_begin_74_7_104 : List Int := [75, 76, 78, 79, 80, 81, 83]
def q_X6_begin_74_7_104 (M0 M' : Mem) (r : Option PV) : Prop := St ws_X6_begin_74_7_104 as_X6_begin_74_7_104 M0 M' ∧ rd M' 74 1 = 7 ∧ rd M' 82 1 = 7 ∧ r = none
set_option maxRecDepth 100000 in
set_option maxHeartbeats 4000000 in
theorem sp_X6_begin_74_7_104 {l : Launch} {K : EC} {M0 : Mem} (hI : In M0)  (a3 : Int) (ha3 : (-1) ≤ a3 ∧ a3 ≤ (-1))  : Tr l K 2 mX6_begin 0 [(0, (2, 74)), (1, (2, 7)), (2, (2, 104)), (3, (0, a3))] [] M0 (q_X6_begin_74_7_104 M0) := by
  have hS : St ws_X6_begin_74_7_104 as_X6_begin_74_7_104 M0 M0 := St.rf hI
  refine Tr.aload_n (pc := 0) (i := 0) d_X6_begin_0 rfl rfl ?_
  refine Tr.aload_n (pc := 1) (i := 1) d_X6_begin_1 rfl rfl ?_
  refine Tr.putfS (pc := 2) (P := St ws_X6_begin_74_7_104 as_X6_begin_74_7_104 M0) d_X6_begin_2 f_6_46 (by decide) (by decide) (ty_74 hS.1.1) (st_74_1 hS (by decide) (by omega)) (fun hS => ?_)
  refine Tr.aload_n (pc := 5) (i := 2) d_X6_begin_5 rfl rfl ?_
  refine Tr.iconst (pc := 6) d_X6_begin_6 (by decide) ?_
  refine Tr.aload_n (pc := 7) (i := 0) d_X6_begin_7 rfl rfl ?_
  refine Tr.getf (pc := 8) d_X6_begin_8 f_6_9 (by decide) (by decide) (ty_74 hS.1.1) ?_
  refine Tr.tp 75 (fx_74_2 hS.1.1) ?_
  refine Tr.iconst (pc := 11) d_X6_begin_11 (by decide) ?_
  refine Tr.iconst (pc := 12) d_X6_begin_12 (by decide) ?_
  refine Tr.acopyS (pc := 13) (x := 104) (y := 75) (P := St ws_X6_begin_74_7_104 as_X6_begin_74_7_104 M0) d_X6_begin_13 ac_6_85 acw.1 acw.2.1 acw.2.2 (ty_104 hS.1.1) (ty_75 hS.1.1) (by omega) (by omega) (by omega) (by omega) (by omega) (Nat.le_of_ble_eq_true rfl) (sw_75 hS (by decide) rfl rfl (fun z i hz => by rw [rd_cpy, if_neg (fun c => hz c.1)]) (fun i => by rw [rd_cpy]; split; exact And.intro (by have := ar_104 hS.1.2.1 (0 + (i - 0)); omega) (by have := ar_104 hS.1.2.1 (0 + (i - 0)); omega); exact ar_75 hS.1.2.1 i)) (fun hS => ?_)
  refine Tr.aload_n (pc := 16) (i := 0) d_X6_begin_16 rfl rfl ?_
  refine Tr.getf (pc := 17) d_X6_begin_17 f_6_15 (by decide) (by decide) (ty_74 hS.1.1) ?_
  refine Tr.tp 76 (fx_74_3 hS.1.1) ?_
  refine Tr.iconst (pc := 20) d_X6_begin_20 (by decide) ?_
  refine Tr.callS (pc := 21) (as := [_, _]) d_X6_begin_21 s_6_91 ok_J7_fill_53178 rfl rfl (Nat.le_of_ble_eq_true rfl) (Nat.le_of_ble_eq_true rfl) ?_
  refine Tr.imp (sp_fill (N := 6) (ty_76 hS.1.1) (by decide)) ?_
  rintro _ _ ⟨rfl, rfl⟩
  have hS := sf_76 (v := 0) 6 hS (by decide) (by omega)
  refine Tr.sc [] rfl ?_
  refine Tr.aload_n (pc := 24) (i := 0) d_X6_begin_24 rfl rfl ?_
  refine Tr.getf (pc := 25) d_X6_begin_25 f_6_21 (by decide) (by decide) (ty_74 hS.1.1) ?_
  refine Tr.tp 78 (fx_74_5 hS.1.1) ?_
  refine Tr.iconst (pc := 28) d_X6_begin_28 (by decide) ?_
  refine Tr.callS (pc := 29) (as := [_, _]) d_X6_begin_29 s_6_91 ok_J7_fill_53178 rfl rfl (Nat.le_of_ble_eq_true rfl) (Nat.le_of_ble_eq_true rfl) ?_
  refine Tr.imp (sp_fill (N := 8) (ty_78 hS.1.1) (by decide)) ?_
  rintro _ _ ⟨rfl, rfl⟩
  have hS := sf_78 (v := (-1)) 8 hS (by decide) (by omega)
  refine Tr.sc [] rfl ?_
  refine Tr.aload_n (pc := 32) (i := 0) d_X6_begin_32 rfl rfl ?_
  refine Tr.getf (pc := 33) d_X6_begin_33 f_6_24 (by decide) (by decide) (ty_74 hS.1.1) ?_
  refine Tr.tp 79 (fx_74_6 hS.1.1) ?_
  refine Tr.iconst (pc := 36) d_X6_begin_36 (by decide) ?_
  refine Tr.callS (pc := 37) (as := [_, _]) d_X6_begin_37 s_6_91 ok_J7_fill_53178 rfl rfl (Nat.le_of_ble_eq_true rfl) (Nat.le_of_ble_eq_true rfl) ?_
  refine Tr.imp (sp_fill (N := 6) (ty_79 hS.1.1) (by decide)) ?_
  rintro _ _ ⟨rfl, rfl⟩
  have hS := sf_79 (v := 0) 6 hS (by decide) (by omega)
  refine Tr.sc [] rfl ?_
  refine Tr.aload_n (pc := 40) (i := 0) d_X6_begin_40 rfl rfl ?_
  refine Tr.getf (pc := 41) d_X6_begin_41 f_6_27 (by decide) (by decide) (ty_74 hS.1.1) ?_
  refine Tr.tp 80 (fx_74_7 hS.1.1) ?_
  refine Tr.iconst (pc := 44) d_X6_begin_44 (by decide) ?_
  refine Tr.callS (pc := 45) (as := [_, _]) d_X6_begin_45 s_6_91 ok_J7_fill_53178 rfl rfl (Nat.le_of_ble_eq_true rfl) (Nat.le_of_ble_eq_true rfl) ?_
  refine Tr.imp (sp_fill (N := 6) (ty_80 hS.1.1) (by decide)) ?_
  rintro _ _ ⟨rfl, rfl⟩
  have hS := sf_80 (v := 0) 6 hS (by decide) (by omega)
  refine Tr.sc [] rfl ?_
  refine Tr.aload_n (pc := 48) (i := 0) d_X6_begin_48 rfl rfl ?_
  refine Tr.getf (pc := 49) d_X6_begin_49 f_6_30 (by decide) (by decide) (ty_74 hS.1.1) ?_
  refine Tr.tp 81 (fx_74_8 hS.1.1) ?_
  refine Tr.iconst (pc := 52) d_X6_begin_52 (by decide) ?_
  refine Tr.callS (pc := 53) (as := [_, _]) d_X6_begin_53 s_6_91 ok_J7_fill_53178 rfl rfl (Nat.le_of_ble_eq_true rfl) (Nat.le_of_ble_eq_true rfl) ?_
  refine Tr.imp (sp_fill (N := 6) (ty_81 hS.1.1) (by decide)) ?_
  rintro _ _ ⟨rfl, rfl⟩
  have hS := sf_81 (v := 0) 6 hS (by decide) (by omega)
  refine Tr.sc [] rfl ?_
  refine Tr.aload_n (pc := 56) (i := 0) d_X6_begin_56 rfl rfl ?_
  refine Tr.iconst (pc := 57) d_X6_begin_57 (by decide) ?_
  refine Tr.putfS (pc := 58) (P := St ws_X6_begin_74_7_104 as_X6_begin_74_7_104 M0) d_X6_begin_58 f_6_68 (by decide) (by decide) (ty_74 hS.1.1) (st_74_9 hS (by decide) (by omega)) (fun hS => ?_)
  refine Tr.aload_n (pc := 61) (i := 0) d_X6_begin_61 rfl rfl ?_
  refine Tr.iconst (pc := 62) d_X6_begin_62 (by decide) ?_
  refine Tr.putfS (pc := 63) (P := St ws_X6_begin_74_7_104 as_X6_begin_74_7_104 M0) d_X6_begin_63 f_6_97 (by decide) (by decide) (ty_74 hS.1.1) (st_74_11 hS (by decide) (by omega)) (fun hS => ?_)
  refine Tr.aload_n (pc := 66) (i := 0) d_X6_begin_66 rfl rfl ?_
  refine Tr.iconst (pc := 67) d_X6_begin_67 (by decide) ?_
  refine Tr.putfS (pc := 68) (P := St ws_X6_begin_74_7_104 as_X6_begin_74_7_104 M0) d_X6_begin_68 f_6_100 (by decide) (by decide) (ty_74 hS.1.1) (st_74_12 hS (by decide) (by omega)) (fun hS => ?_)
  refine Tr.aload_n (pc := 71) (i := 0) d_X6_begin_71 rfl rfl ?_
  refine Tr.iconst (pc := 72) d_X6_begin_72 (by decide) ?_
  refine Tr.putfS (pc := 73) (P := St ws_X6_begin_74_7_104 as_X6_begin_74_7_104 M0) d_X6_begin_73 f_6_103 (by decide) (by decide) (ty_74 hS.1.1) (st_74_13 hS (by decide) (by omega)) (fun hS => ?_)
  refine Tr.aload_n (pc := 76) (i := 0) d_X6_begin_76 rfl rfl ?_
  refine Tr.iconst (pc := 77) d_X6_begin_77 (by decide) ?_
  refine Tr.putfS (pc := 78) (P := St ws_X6_begin_74_7_104 as_X6_begin_74_7_104 M0) d_X6_begin_78 f_6_62 (by decide) (by decide) (ty_74 hS.1.1) (st_74_14 hS (by decide) (by omega)) (fun hS => ?_)
  refine Tr.aload_n (pc := 81) (i := 0) d_X6_begin_81 rfl rfl ?_
  refine Tr.iconst (pc := 82) d_X6_begin_82 (by decide) ?_
  refine Tr.putfS (pc := 83) (P := St ws_X6_begin_74_7_104 as_X6_begin_74_7_104 M0) d_X6_begin_83 f_6_79 (by decide) (by decide) (ty_74 hS.1.1) (st_74_15 hS (by decide) (by omega)) (fun hS => ?_)
  refine Tr.aload_n (pc := 86) (i := 0) d_X6_begin_86 rfl rfl ?_
  refine Tr.iload_n (pc := 87) (i := 3) d_X6_begin_87 rfl rfl ?_
  refine Tr.tp (-1) (by omega) ?_
  have J96 : ∀ (M : Mem), St ws_X6_begin_74_7_104 as_X6_begin_74_7_104 M0 M → rd M 74 1 = 7 → rd M 74 11 = 0 → rd M 74 12 = 0 → rd M 74 13 = 0 → rd M 74 14 = 0 → rd M 74 15 = (-1) → rd M 74 9 = 0 → Tr l K 2 mX6_begin 96 [(0, (2, 74)), (1, (2, 7)), (3, (0, a3))] [(0, 0), (2, 74)] M (q_X6_begin_74_7_104 M0) := by
    intro M  hS  k96_74_1 k96_74_11 k96_74_12 k96_74_13 k96_74_14 k96_74_15 k96_74_9
    refine Tr.putzS (pc := 96) (P := St ws_X6_begin_74_7_104 as_X6_begin_74_7_104 M0) d_X6_begin_96 f_6_106 (by decide) (ty_74 hS.1.1) (by omega) (st_74_16 hS (by decide) (by omega)) (fun hS => ?_)
    refine Tr.aload_n (pc := 99) (i := 0) d_X6_begin_99 rfl rfl ?_
    refine Tr.iload_n (pc := 100) (i := 3) d_X6_begin_100 rfl rfl ?_
    refine Tr.tp (-1) (by omega) ?_
    refine Tr.putfS (pc := 101) (P := St ws_X6_begin_74_7_104 as_X6_begin_74_7_104 M0) d_X6_begin_101 f_6_110 (by decide) (by decide) (ty_74 hS.1.1) (st_74_17 hS (by decide) (by omega)) (fun hS => ?_)
    refine Tr.aload_n (pc := 104) (i := 0) d_X6_begin_104 rfl rfl ?_
    refine Tr.getf (pc := 105) d_X6_begin_105 f_6_38 (by decide) (by decide) (ty_74 hS.1.1) ?_
    refine Tr.tp 82 (fx_74_0 hS.1.1) ?_
    refine Tr.aload_n (pc := 108) (i := 1) d_X6_begin_108 rfl rfl ?_
    refine Tr.callV (pc := 109) (as := [_]) d_X6_begin_109 s_6_113 ok_X1_begin rfl rfl (Nat.le_of_ble_eq_true rfl) (Nat.le_of_ble_eq_true rfl) (by decide) (ty_82 hS.1.1) ?_
    refine Tr.imp (Tr.deep (by decide) (sp_X1_begin_82_7 hS.1 )) ?_
    rintro M109 _ ⟨h109, o109_82_1, rfl⟩
    have hS := St.tr hS h109 (by decide) (by decide)
    refine Tr.sc [] rfl ?_
    exact Tr.vret (pc := 112) d_X6_begin_112 rfl ⟨hS, ((St.kp h109 (by decide) (by decide)).trans ((rd_wb _ rfl).trans ((rd_wb _ rfl).trans k96_74_1))), o109_82_1, rfl⟩
  refine Tr.if_lt (pc := 88) (tgt := 95) d_X6_begin_88 rfl (fun _ => ?_) (fun hc => absurd (by omega) hc)
  refine Tr.iconst (pc := 95) d_X6_begin_95 (by decide) ?_
  refine Tr.pick [0, 1, 3] (ls2 := [(0, (2, 74)), (1, (2, 7)), (3, (0, a3))]) rfl ?_
  exact J96 _ hS ((rd_wb _ rfl).trans ((rd_wb _ rfl).trans ((rd_wb _ rfl).trans ((rd_wb _ rfl).trans ((rd_wb _ rfl).trans ((rd_wb _ rfl).trans ((rd_fb _ rfl).trans ((rd_fb _ rfl).trans ((rd_fb _ rfl).trans ((rd_fb _ rfl).trans ((rd_fb _ rfl).trans ((rd_cb _ rfl).trans (rd_ws _ _ _ _))))))))))))) ((rd_wb _ rfl).trans ((rd_wb _ rfl).trans ((rd_wb _ rfl).trans ((rd_wb _ rfl).trans (rd_ws _ _ _ _))))) ((rd_wb _ rfl).trans ((rd_wb _ rfl).trans ((rd_wb _ rfl).trans (rd_ws _ _ _ _)))) ((rd_wb _ rfl).trans ((rd_wb _ rfl).trans (rd_ws _ _ _ _))) ((rd_wb _ rfl).trans (rd_ws _ _ _ _)) (rd_ws _ _ _ _) ((rd_wb _ rfl).trans ((rd_wb _ rfl).trans ((rd_wb _ rfl).trans ((rd_wb _ rfl).trans ((rd_wb _ rfl).trans (rd_ws _ _ _ _))))))

def ws_X10_turnOn_103_7 : List (Int × Int) := []
def as_X10_turnOn_103_7 : List Int := [104]
def q_X10_turnOn_103_7 (M0 M' : Mem) (r : Option PV) : Prop := St ws_X10_turnOn_103_7 as_X10_turnOn_103_7 M0 M' ∧ r = none
set_option maxRecDepth 100000 in
set_option maxHeartbeats 4000000 in
theorem sp_X10_turnOn_103_7 {l : Launch} {K : EC} {M0 : Mem} (hI : In M0)    : Tr l K 0 mX10_turnOn 0 [(0, (2, 103)), (1, (2, 7))] [] M0 (q_X10_turnOn_103_7 M0) := by
  have hS : St ws_X10_turnOn_103_7 as_X10_turnOn_103_7 M0 M0 := St.rf hI
  refine Tr.aload_n (pc := 0) (i := 1) d_X10_turnOn_0 rfl rfl ?_
  refine Tr.getf (pc := 1) d_X10_turnOn_1 f_10_25 (by decide) (by decide) (ty_7 hS.1.1) ?_
  refine Tr.tp 8 (fx_7_4 hS.1.1) ?_
  refine Tr.iconst (pc := 4) d_X10_turnOn_4 (by decide) ?_
  refine Tr.iald (pc := 5) d_X10_turnOn_5 (ty_8 hS.1.1) (by omega) (by omega) ?_
  refine Tr.gen (P := fun v => 0 ≤ v ∧ v ≤ 3) (ir_8_1 hS.1.2.1) (fun r5 er5 br5 => ?_)
  refine Tr.iconst (pc := 6) d_X10_turnOn_6 (by decide) ?_
  refine Tr.isub (pc := 7) d_X10_turnOn_7 ?_
  refine Tr.tp (r5 - 1) ((w32_id (by omega)).trans (by omega)) ?_
  refine Tr.istore_n (pc := 8) (i := 2) (ls2 := [(2, (0, (r5 - 1))), (0, (2, 103)), (1, (2, 7))]) d_X10_turnOn_8 rfl (by decide) rfl ?_
  have J9 : ∀ (n9 : Nat) (M : Mem) (p9_2 : Int), St ws_X10_turnOn_103_7 as_X10_turnOn_103_7 M0 M → ((-1) ≤ p9_2 ∧ p9_2 ≤ 2) → rd M 8 1 = r5 → (p9_2 - (-1)).toNat < n9 → Tr l K 0 mX10_turnOn 9 [(0, (2, 103)), (1, (2, 7)), (2, (0, p9_2))] [] M (q_X10_turnOn_103_7 M0) := by
    intro n9
    induction n9 with
    | zero => intro M p9_2 hS bp9_2 k9_8_1 hm9; exact absurd hm9 (Nat.not_lt_zero _)
    | succ n9 J9 =>
      intro M p9_2 hS bp9_2 k9_8_1 hm9
      refine Tr.iload_n (pc := 9) (i := 2) d_X10_turnOn_9 rfl rfl ?_
      refine Tr.if_lt (pc := 10) (tgt := 57) d_X10_turnOn_10 rfl (fun c10 => ?_) (fun c10 => ?_)
      · exact Tr.vret (pc := 57) d_X10_turnOn_57 rfl ⟨hS, rfl⟩
      · refine Tr.aload_n (pc := 13) (i := 0) d_X10_turnOn_13 rfl rfl ?_
        refine Tr.getf (pc := 14) d_X10_turnOn_14 f_10_9 (by decide) (by decide) (ty_103 hS.1.1) ?_
        refine Tr.tp 104 (fx_103_4 hS.1.1) ?_
        refine Tr.iload_n (pc := 17) (i := 2) d_X10_turnOn_17 rfl rfl ?_
        refine Tr.iald (pc := 18) d_X10_turnOn_18 (ty_104 hS.1.1) (by omega) (by omega) ?_
        refine Tr.gen (P := fun v => (-2147483648) ≤ v ∧ v ≤ 2147483647) (ar_104 hS.1.2.1 _) (fun r18 er18 br18 => ?_)
        refine Tr.aload_n (pc := 19) (i := 1) d_X10_turnOn_19 rfl rfl ?_
        refine Tr.getf (pc := 20) d_X10_turnOn_20 f_10_30 (by decide) (by decide) (ty_7 hS.1.1) ?_
        refine Tr.tp 13 (fx_7_9 hS.1.1) ?_
        refine Tr.iload_n (pc := 23) (i := 2) d_X10_turnOn_23 rfl rfl ?_
        refine Tr.iald (pc := 24) d_X10_turnOn_24 (ty_13 hS.1.1) (by omega) (by omega) ?_
        refine Tr.gen (P := fun v => 0 ≤ v ∧ v ≤ 99) (ar_13 hS.1.2.1 _) (fun r24 er24 br24 => ?_)
        refine Tr.icmp_ge (pc := 25) (tgt := 39) d_X10_turnOn_25 rfl (fun c25 => ?_) (fun c25 => ?_)
        · refine Tr.aload_n (pc := 39) (i := 0) d_X10_turnOn_39 rfl rfl ?_
          refine Tr.getf (pc := 40) d_X10_turnOn_40 f_10_9 (by decide) (by decide) (ty_103 hS.1.1) ?_
          refine Tr.tp 104 (fx_103_4 hS.1.1) ?_
          refine Tr.iload_n (pc := 43) (i := 2) d_X10_turnOn_43 rfl rfl ?_
          refine Tr.aload_n (pc := 44) (i := 1) d_X10_turnOn_44 rfl rfl ?_
          refine Tr.getf (pc := 45) d_X10_turnOn_45 f_10_33 (by decide) (by decide) (ty_7 hS.1.1) ?_
          refine Tr.tp 12 (fx_7_8 hS.1.1) ?_
          refine Tr.iload_n (pc := 48) (i := 2) d_X10_turnOn_48 rfl rfl ?_
          refine Tr.iald (pc := 49) d_X10_turnOn_49 (ty_12 hS.1.1) (by omega) (by omega) ?_
          refine Tr.gen (P := fun v => 0 ≤ v ∧ v ≤ 99) (ar_12 hS.1.2.1 _) (fun r49 er49 br49 => ?_)
          refine Tr.iastS (pc := 50) (P := St ws_X10_turnOn_103_7 as_X10_turnOn_103_7 M0) d_X10_turnOn_50 (ty_104 hS.1.1) (by omega) (by omega) (sa_104 hS (by decide) (by omega)) (fun hS => ?_)
          refine Tr.iincV (pc := 51) (n2 := (p9_2 - 1)) (ls2 := [(2, (0, (p9_2 - 1))), (0, (2, 103)), (1, (2, 7))]) d_X10_turnOn_51 rfl (by decide) ((w32_id (by omega)).trans (by omega)) rfl ?_
          refine Tr.goto (pc := 54) (tgt := 9) d_X10_turnOn_54 rfl ?_
          refine Tr.pick [1, 2, 0] (ls2 := [(0, (2, 103)), (1, (2, 7)), (2, (0, (p9_2 - 1)))]) rfl ?_
          exact J9 _ _ hS (by omega) ((rd_wb _ rfl).trans k9_8_1) (by omega)
        · refine Tr.aload_n (pc := 28) (i := 0) d_X10_turnOn_28 rfl rfl ?_
          refine Tr.getf (pc := 29) d_X10_turnOn_29 f_10_9 (by decide) (by decide) (ty_103 hS.1.1) ?_
          refine Tr.tp 104 (fx_103_4 hS.1.1) ?_
          refine Tr.iload_n (pc := 32) (i := 2) d_X10_turnOn_32 rfl rfl ?_
          refine Tr.dup2 (pc := 33) d_X10_turnOn_33 ne01 ne21 ?_
          refine Tr.iald (pc := 34) d_X10_turnOn_34 (ty_104 hS.1.1) (by omega) (by omega) ?_
          refine Tr.tp r18 er18 ?_
          refine Tr.iconst (pc := 35) d_X10_turnOn_35 (by decide) ?_
          refine Tr.iadd (pc := 36) d_X10_turnOn_36 ?_
          refine Tr.tp (r18 + 1) ((w32_id (by omega)).trans (by omega)) ?_
          refine Tr.iastS (pc := 37) (P := St ws_X10_turnOn_103_7 as_X10_turnOn_103_7 M0) d_X10_turnOn_37 (ty_104 hS.1.1) (by omega) (by omega) (sa_104 hS (by decide) (by omega)) (fun hS => ?_)
          exact Tr.vret (pc := 38) d_X10_turnOn_38 rfl ⟨hS, rfl⟩
  refine Tr.pick [1, 2, 0] (ls2 := [(0, (2, 103)), (1, (2, 7)), (2, (0, (r5 - 1)))]) rfl ?_
  exact J9 _ _ _ hS (by omega) er5 (Nat.lt_succ_self _)

def ws_X10_compare_103_w1 : List (Int × Int) := [(103, 2), (103, 3)]
def as_X10_compare_103_w1 : List Int := [105, 106]
def q_X10_compare_103_w1 (M0 M' : Mem) (r : Option PV) : Prop := St ws_X10_compare_103_w1 as_X10_compare_103_w1 M0 M' ∧ r = none
set_option maxRecDepth 100000 in
set_option maxHeartbeats 4000000 in
theorem sp_X10_compare_103_w1 {l : Launch} {K : EC} {M0 : Mem} (hI : In M0)  (a1 : Int) (ha1 : (-2147483648) ≤ a1 ∧ a1 ≤ 2147483647) (a2 : Int) (ha2 : 0 ≤ a2 ∧ a2 ≤ 1)  : Tr l K 1 mX10_compare 0 [(0, (2, 103)), (1, (0, a1)), (2, (0, a2))] [] M0 (q_X10_compare_103_w1 M0) := by
  have hS : St ws_X10_compare_103_w1 as_X10_compare_103_w1 M0 M0 := St.rf hI
  refine Tr.iload_n (pc := 0) (i := 2) d_X10_compare_0 rfl rfl ?_
  have J31 : ∀ (M : Mem), St ws_X10_compare_103_w1 as_X10_compare_103_w1 M0 M → Tr l K 1 mX10_compare 31 [(0, (2, 103)), (1, (0, a1)), (2, (0, a2))] [] M (q_X10_compare_103_w1 M0) := by
    intro M  hS  
    refine Tr.iload_n (pc := 31) (i := 2) d_X10_compare_31 rfl rfl ?_
    have J43 : ∀ (M : Mem), St ws_X10_compare_103_w1 as_X10_compare_103_w1 M0 M → Tr l K 1 mX10_compare 43 [(0, (2, 103)), (1, (0, a1))] [] M (q_X10_compare_103_w1 M0) := by
      intro M  hS  
      refine Tr.aload_n (pc := 43) (i := 0) d_X10_compare_43 rfl rfl ?_
      refine Tr.iload_n (pc := 44) (i := 1) d_X10_compare_44 rfl rfl ?_
      refine Tr.putfS (pc := 45) (P := St ws_X10_compare_103_w1 as_X10_compare_103_w1 M0) d_X10_compare_45 f_10_50 (by decide) (by decide) (ty_103 hS.1.1) (st_103_3 hS (by decide) (by omega)) (fun hS => ?_)
      refine Tr.aload_n (pc := 48) (i := 0) d_X10_compare_48 rfl rfl ?_
      refine Tr.getf (pc := 49) d_X10_compare_49 f_10_9 (by decide) (by decide) (ty_103 hS.1.1) ?_
      refine Tr.tp 104 (fx_103_4 hS.1.1) ?_
      refine Tr.iconst (pc := 52) d_X10_compare_52 (by decide) ?_
      refine Tr.aload_n (pc := 53) (i := 0) d_X10_compare_53 rfl rfl ?_
      refine Tr.getf (pc := 54) d_X10_compare_54 f_10_18 (by decide) (by decide) (ty_103 hS.1.1) ?_
      refine Tr.tp 106 (fx_103_6 hS.1.1) ?_
      refine Tr.iconst (pc := 57) d_X10_compare_57 (by decide) ?_
      refine Tr.iconst (pc := 58) d_X10_compare_58 (by decide) ?_
      refine Tr.acopyS (pc := 59) (x := 104) (y := 106) (P := St ws_X10_compare_103_w1 as_X10_compare_103_w1 M0) d_X10_compare_59 ac_10_36 acw.1 acw.2.1 acw.2.2 (ty_104 hS.1.1) (ty_106 hS.1.1) (by omega) (by omega) (by omega) (by omega) (by omega) (Nat.le_of_ble_eq_true rfl) (sw_106 hS (by decide) rfl rfl (fun z i hz => by rw [rd_cpy, if_neg (fun c => hz c.1)]) (fun i => by rw [rd_cpy]; split; exact And.intro (by have := ar_104 hS.1.2.1 (0 + (i - 0)); omega) (by have := ar_104 hS.1.2.1 (0 + (i - 0)); omega); exact ar_106 hS.1.2.1 i)) (fun hS => ?_)
      exact Tr.vret (pc := 62) d_X10_compare_62 rfl ⟨hS, rfl⟩
    refine Tr.if_ne (pc := 32) (tgt := 43) d_X10_compare_32 rfl (fun c32 => ?_) (fun c32 => ?_)
    · refine Tr.pick [0, 1] (ls2 := [(0, (2, 103)), (1, (0, a1))]) rfl ?_
      exact J43 _ hS 
    · refine Tr.iload_n (pc := 35) (i := 1) d_X10_compare_35 rfl rfl ?_
      refine Tr.aload_n (pc := 36) (i := 0) d_X10_compare_36 rfl rfl ?_
      refine Tr.getf (pc := 37) d_X10_compare_37 f_10_50 (by decide) (by decide) (ty_103 hS.1.1) ?_
      refine Tr.gen (P := fun v => (-2147483648) ≤ v ∧ v ≤ 2147483647) (ir_103_3 hS.1.2.1) (fun r37 er37 br37 => ?_)
      refine Tr.icmp_ge (pc := 40) (tgt := 62) d_X10_compare_40 rfl (fun c40 => ?_) (fun c40 => ?_)
      · exact Tr.vret (pc := 62) d_X10_compare_62 rfl ⟨hS, rfl⟩
      · refine Tr.pick [0, 1] (ls2 := [(0, (2, 103)), (1, (0, a1))]) rfl ?_
        exact J43 _ hS 
  have J12 : ∀ (M : Mem), St ws_X10_compare_103_w1 as_X10_compare_103_w1 M0 M → Tr l K 1 mX10_compare 12 [(0, (2, 103)), (1, (0, a1)), (2, (0, a2))] [] M (q_X10_compare_103_w1 M0) := by
    intro M  hS  
    refine Tr.aload_n (pc := 12) (i := 0) d_X10_compare_12 rfl rfl ?_
    refine Tr.iload_n (pc := 13) (i := 1) d_X10_compare_13 rfl rfl ?_
    refine Tr.putfS (pc := 14) (P := St ws_X10_compare_103_w1 as_X10_compare_103_w1 M0) d_X10_compare_14 f_10_46 (by decide) (by decide) (ty_103 hS.1.1) (st_103_2 hS (by decide) (by omega)) (fun hS => ?_)
    refine Tr.aload_n (pc := 17) (i := 0) d_X10_compare_17 rfl rfl ?_
    refine Tr.getf (pc := 18) d_X10_compare_18 f_10_9 (by decide) (by decide) (ty_103 hS.1.1) ?_
    refine Tr.tp 104 (fx_103_4 hS.1.1) ?_
    refine Tr.iconst (pc := 21) d_X10_compare_21 (by decide) ?_
    refine Tr.aload_n (pc := 22) (i := 0) d_X10_compare_22 rfl rfl ?_
    refine Tr.getf (pc := 23) d_X10_compare_23 f_10_15 (by decide) (by decide) (ty_103 hS.1.1) ?_
    refine Tr.tp 105 (fx_103_5 hS.1.1) ?_
    refine Tr.iconst (pc := 26) d_X10_compare_26 (by decide) ?_
    refine Tr.iconst (pc := 27) d_X10_compare_27 (by decide) ?_
    refine Tr.acopyS (pc := 28) (x := 104) (y := 105) (P := St ws_X10_compare_103_w1 as_X10_compare_103_w1 M0) d_X10_compare_28 ac_10_36 acw.1 acw.2.1 acw.2.2 (ty_104 hS.1.1) (ty_105 hS.1.1) (by omega) (by omega) (by omega) (by omega) (by omega) (Nat.le_of_ble_eq_true rfl) (sw_105 hS (by decide) rfl rfl (fun z i hz => by rw [rd_cpy, if_neg (fun c => hz c.1)]) (fun i => by rw [rd_cpy]; split; exact And.intro (by have := ar_104 hS.1.2.1 (0 + (i - 0)); omega) (by have := ar_104 hS.1.2.1 (0 + (i - 0)); omega); exact ar_105 hS.1.2.1 i)) (fun hS => ?_)
    refine Tr.pick [0, 1, 2] (ls2 := [(0, (2, 103)), (1, (0, a1)), (2, (0, a2))]) rfl ?_
    exact J31 _ hS 
  refine Tr.if_ne (pc := 1) (tgt := 12) d_X10_compare_1 rfl (fun c1 => ?_) (fun c1 => ?_)
  · refine Tr.pick [0, 1, 2] (ls2 := [(0, (2, 103)), (1, (0, a1)), (2, (0, a2))]) rfl ?_
    exact J12 _ hS 
  · refine Tr.iload_n (pc := 4) (i := 1) d_X10_compare_4 rfl rfl ?_
    refine Tr.aload_n (pc := 5) (i := 0) d_X10_compare_5 rfl rfl ?_
    refine Tr.getf (pc := 6) d_X10_compare_6 f_10_46 (by decide) (by decide) (ty_103 hS.1.1) ?_
    refine Tr.gen (P := fun v => (-2147483648) ≤ v ∧ v ≤ 2147483647) (ir_103_2 hS.1.2.1) (fun r6 er6 br6 => ?_)
    refine Tr.icmp_le (pc := 9) (tgt := 31) d_X10_compare_9 rfl (fun c9 => ?_) (fun c9 => ?_)
    · refine Tr.pick [0, 1, 2] (ls2 := [(0, (2, 103)), (1, (0, a1)), (2, (0, a2))]) rfl ?_
      exact J31 _ hS 
    · refine Tr.pick [0, 1, 2] (ls2 := [(0, (2, 103)), (1, (0, a1)), (2, (0, a2))]) rfl ?_
      exact J12 _ hS 

def ws_X7_isLetter : List (Int × Int) := []
def as_X7_isLetter : List Int := []
def q_X7_isLetter (M0 M' : Mem) (r : Option PV) : Prop := St ws_X7_isLetter as_X7_isLetter M0 M' ∧ ∃ v : Int, r = some (0, v) ∧ 0 ≤ v ∧ v ≤ 1
set_option maxRecDepth 100000 in
set_option maxHeartbeats 4000000 in
theorem sp_X7_isLetter {l : Launch} {K : EC} {M0 : Mem} (hI : In M0)  (a0 : Int) (ha0 : (-1000) ≤ a0 ∧ a0 ≤ 161)  : Tr l K 0 mX7_isLetter 0 [(0, (0, a0))] [] M0 (q_X7_isLetter M0) := by
  have hS : St ws_X7_isLetter as_X7_isLetter M0 M0 := St.rf hI
  refine Tr.iload_n (pc := 0) (i := 0) d_X7_isLetter_0 rfl rfl ?_
  refine Tr.bipush (pc := 1) d_X7_isLetter_1 rfl (by decide) ?_
  refine Tr.icmp_lt (pc := 3) (tgt := 16) d_X7_isLetter_3 rfl (fun c3 => ?_) (fun c3 => ?_)
  · refine Tr.iconst (pc := 16) d_X7_isLetter_16 (by decide) ?_
    exact Tr.zret (pc := 17) d_X7_isLetter_17 rfl (by omega) ⟨hS, _, rfl, by omega, by omega⟩
  · refine Tr.iload_n (pc := 6) (i := 0) d_X7_isLetter_6 rfl rfl ?_
    refine Tr.bipush (pc := 7) d_X7_isLetter_7 rfl (by decide) ?_
    refine Tr.icmp_gt (pc := 9) (tgt := 16) d_X7_isLetter_9 rfl (fun c9 => ?_) (fun c9 => ?_)
    · refine Tr.iconst (pc := 16) d_X7_isLetter_16 (by decide) ?_
      exact Tr.zret (pc := 17) d_X7_isLetter_17 rfl (by omega) ⟨hS, _, rfl, by omega, by omega⟩
    · refine Tr.iconst (pc := 12) d_X7_isLetter_12 (by decide) ?_
      refine Tr.goto (pc := 13) (tgt := 17) d_X7_isLetter_13 rfl ?_
      exact Tr.zret (pc := 17) d_X7_isLetter_17 rfl (by omega) ⟨hS, _, rfl, by omega, by omega⟩

def ws_X7_isDigit : List (Int × Int) := []
def as_X7_isDigit : List Int := []
def q_X7_isDigit (M0 M' : Mem) (r : Option PV) : Prop := St ws_X7_isDigit as_X7_isDigit M0 M' ∧ ∃ v : Int, r = some (0, v) ∧ 0 ≤ v ∧ v ≤ 1
set_option maxRecDepth 100000 in
set_option maxHeartbeats 4000000 in
theorem sp_X7_isDigit {l : Launch} {K : EC} {M0 : Mem} (hI : In M0)  (a0 : Int) (ha0 : (-1000) ≤ a0 ∧ a0 ≤ 161)  : Tr l K 0 mX7_isDigit 0 [(0, (0, a0))] [] M0 (q_X7_isDigit M0) := by
  have hS : St ws_X7_isDigit as_X7_isDigit M0 M0 := St.rf hI
  refine Tr.iload_n (pc := 0) (i := 0) d_X7_isDigit_0 rfl rfl ?_
  refine Tr.bipush (pc := 1) d_X7_isDigit_1 rfl (by decide) ?_
  refine Tr.icmp_lt (pc := 3) (tgt := 16) d_X7_isDigit_3 rfl (fun c3 => ?_) (fun c3 => ?_)
  · refine Tr.iconst (pc := 16) d_X7_isDigit_16 (by decide) ?_
    exact Tr.zret (pc := 17) d_X7_isDigit_17 rfl (by omega) ⟨hS, _, rfl, by omega, by omega⟩
  · refine Tr.iload_n (pc := 6) (i := 0) d_X7_isDigit_6 rfl rfl ?_
    refine Tr.bipush (pc := 7) d_X7_isDigit_7 rfl (by decide) ?_
    refine Tr.icmp_gt (pc := 9) (tgt := 16) d_X7_isDigit_9 rfl (fun c9 => ?_) (fun c9 => ?_)
    · refine Tr.iconst (pc := 16) d_X7_isDigit_16 (by decide) ?_
      exact Tr.zret (pc := 17) d_X7_isDigit_17 rfl (by omega) ⟨hS, _, rfl, by omega, by omega⟩
    · refine Tr.iconst (pc := 12) d_X7_isDigit_12 (by decide) ?_
      refine Tr.goto (pc := 13) (tgt := 17) d_X7_isDigit_13 rfl ?_
      exact Tr.zret (pc := 17) d_X7_isDigit_17 rfl (by omega) ⟨hS, _, rfl, by omega, by omega⟩

def ws_J1_canEncode_9a6ad : List (Int × Int) := []
def as_J1_canEncode_9a6ad : List Int := []
def q_J1_canEncode_9a6ad (M0 M' : Mem) (r : Option PV) : Prop := St ws_J1_canEncode_9a6ad as_J1_canEncode_9a6ad M0 M' ∧ ∃ v : Int, r = some (0, v) ∧ 1 ≤ v ∧ v ≤ 1
set_option maxRecDepth 100000 in
set_option maxHeartbeats 4000000 in
theorem sp_J1_canEncode_9a6ad {l : Launch} {K : EC} {M0 : Mem} (hI : In M0)  (a0 : Int) (ha0 : 1 ≤ a0 ∧ a0 ≤ 161)  : Tr l K 0 mJ1_canEncode_9a6ad 0 [(0, (0, a0))] [] M0 (q_J1_canEncode_9a6ad M0) := by
  have hS : St ws_J1_canEncode_9a6ad as_J1_canEncode_9a6ad M0 M0 := St.rf hI
  refine Tr.iload_n (pc := 0) (i := 0) d_J1_canEncode_9a6ad_0 rfl rfl ?_
  refine Tr.if_lt (pc := 1) (tgt := 15) d_J1_canEncode_9a6ad_1 rfl (fun hc => absurd hc (by omega)) (fun _ => ?_)
  refine Tr.iload_n (pc := 4) (i := 0) d_J1_canEncode_9a6ad_4 rfl rfl ?_
  refine Tr.sipush (pc := 5) d_J1_canEncode_9a6ad_5 rfl (by decide) ?_
  refine Tr.icmp_gt (pc := 8) (tgt := 15) d_J1_canEncode_9a6ad_8 rfl (fun hc => absurd hc (by omega)) (fun _ => ?_)
  refine Tr.iconst (pc := 11) d_J1_canEncode_9a6ad_11 (by decide) ?_
  refine Tr.goto (pc := 12) (tgt := 16) d_J1_canEncode_9a6ad_12 rfl ?_
  exact Tr.zret (pc := 16) d_J1_canEncode_9a6ad_16 rfl (by omega) ⟨hS, _, rfl, by omega, by omega⟩

def ws_X7_add_2 : List (Int × Int) := [(2, 3)]
def as_X7_add_2 : List Int := [3, 4, 5]
def q_X7_add_2 (M0 M' : Mem) (r : Option PV) : Prop := St ws_X7_add_2 as_X7_add_2 M0 M' ∧ ∃ v : Int, r = some (0, v) ∧ 1 ≤ v ∧ v ≤ 900
set_option maxRecDepth 100000 in
set_option maxHeartbeats 4000000 in
theorem sp_X7_add_2 {l : Launch} {K : EC} {M0 : Mem} (hI : In M0)  (a1 : Int) (ha1 : 5 ≤ a1 ∧ a1 ≤ 5) (a2 : Int) (ha2 : 0 ≤ a2 ∧ a2 ≤ 899) (a3 : Int) (ha3 : 1 ≤ a3 ∧ a3 ≤ 161) (a4 : Int) (ha4 : 1 ≤ a4 ∧ a4 ≤ 900)  : Tr l K 0 mX7_add 0 [(0, (2, 2)), (1, (0, a1)), (2, (0, a2)), (3, (0, a3)), (4, (0, a4))] [] M0 (q_X7_add_2 M0) := by
  have hS : St ws_X7_add_2 as_X7_add_2 M0 M0 := St.rf hI
  refine Tr.aload_n (pc := 0) (i := 0) d_X7_add_0 rfl rfl ?_
  refine Tr.getf (pc := 1) d_X7_add_1 f_7_29 (by decide) (by decide) (ty_2 hS.1.1) ?_
  refine Tr.gen (P := fun v => 0 ≤ v ∧ v ≤ 901) (ir_2_3 hS.1.2.1) (fun r1 er1 br1 => ?_)
  refine Tr.aload_n (pc := 4) (i := 0) d_X7_add_4 rfl rfl ?_
  refine Tr.getf (pc := 5) d_X7_add_5 f_7_9 (by decide) (by decide) (ty_2 hS.1.1) ?_
  refine Tr.tp 3 (fx_2_0 hS.1.1) ?_
  refine Tr.alen (pc := 8) d_X7_add_8 (ty_3 hS.1.1) (by decide) (by decide) ?_
  refine Tr.tp 901 rfl ?_
  refine Tr.icmp_ge (pc := 9) (tgt := 52) d_X7_add_9 rfl (fun c9 => ?_) (fun c9 => ?_)
  · refine Tr.iload (pc := 52) (i := 4) d_X7_add_52 rfl ?_
    exact Tr.iret (pc := 54) d_X7_add_54 rfl ⟨hS, _, rfl, by omega, by omega⟩
  · refine Tr.aload_n (pc := 12) (i := 0) d_X7_add_12 rfl rfl ?_
    refine Tr.getf (pc := 13) d_X7_add_13 f_7_9 (by decide) (by decide) (ty_2 hS.1.1) ?_
    refine Tr.tp 3 (fx_2_0 hS.1.1) ?_
    refine Tr.aload_n (pc := 16) (i := 0) d_X7_add_16 rfl rfl ?_
    refine Tr.getf (pc := 17) d_X7_add_17 f_7_29 (by decide) (by decide) (ty_2 hS.1.1) ?_
    refine Tr.tp r1 er1 ?_
    refine Tr.iload_n (pc := 20) (i := 1) d_X7_add_20 rfl rfl ?_
    refine Tr.tp 5 (by omega) ?_
    refine Tr.iastS (pc := 21) (P := St ws_X7_add_2 as_X7_add_2 M0) d_X7_add_21 (ty_3 hS.1.1) (by omega) (by omega) (sa_3 hS (by decide) (by omega)) (fun hS => ?_)
    refine Tr.aload_n (pc := 22) (i := 0) d_X7_add_22 rfl rfl ?_
    refine Tr.getf (pc := 23) d_X7_add_23 f_7_15 (by decide) (by decide) (ty_2 hS.1.1) ?_
    refine Tr.tp 4 (fx_2_1 hS.1.1) ?_
    refine Tr.aload_n (pc := 26) (i := 0) d_X7_add_26 rfl rfl ?_
    refine Tr.getf (pc := 27) d_X7_add_27 f_7_29 (by decide) (by decide) (ty_2 hS.1.1) ?_
    refine Tr.tp r1 ((rd_wb _ rfl).trans er1) ?_
    refine Tr.iload_n (pc := 30) (i := 2) d_X7_add_30 rfl rfl ?_
    refine Tr.iastS (pc := 31) (P := St ws_X7_add_2 as_X7_add_2 M0) d_X7_add_31 (ty_4 hS.1.1) (by omega) (by omega) (sa_4 hS (by decide) (by omega)) (fun hS => ?_)
    refine Tr.aload_n (pc := 32) (i := 0) d_X7_add_32 rfl rfl ?_
    refine Tr.getf (pc := 33) d_X7_add_33 f_7_18 (by decide) (by decide) (ty_2 hS.1.1) ?_
    refine Tr.tp 5 (fx_2_2 hS.1.1) ?_
    refine Tr.aload_n (pc := 36) (i := 0) d_X7_add_36 rfl rfl ?_
    refine Tr.getf (pc := 37) d_X7_add_37 f_7_29 (by decide) (by decide) (ty_2 hS.1.1) ?_
    refine Tr.tp r1 ((rd_wb _ rfl).trans ((rd_wb _ rfl).trans er1)) ?_
    refine Tr.iload_n (pc := 40) (i := 3) d_X7_add_40 rfl rfl ?_
    refine Tr.iastS (pc := 41) (P := St ws_X7_add_2 as_X7_add_2 M0) d_X7_add_41 (ty_5 hS.1.1) (by omega) (by omega) (sa_5 hS (by decide) (by omega)) (fun hS => ?_)
    refine Tr.aload_n (pc := 42) (i := 0) d_X7_add_42 rfl rfl ?_
    refine Tr.dup (pc := 43) d_X7_add_43 ne21 ?_
    refine Tr.getf (pc := 44) d_X7_add_44 f_7_29 (by decide) (by decide) (ty_2 hS.1.1) ?_
    refine Tr.tp r1 ((rd_wb _ rfl).trans ((rd_wb _ rfl).trans ((rd_wb _ rfl).trans er1))) ?_
    refine Tr.iconst (pc := 47) d_X7_add_47 (by decide) ?_
    refine Tr.iadd (pc := 48) d_X7_add_48 ?_
    refine Tr.tp (r1 + 1) ((w32_id (by omega)).trans (by omega)) ?_
    refine Tr.putfS (pc := 49) (P := St ws_X7_add_2 as_X7_add_2 M0) d_X7_add_49 f_7_29 (by decide) (by decide) (ty_2 hS.1.1) (st_2_3 hS (by decide) (by omega)) (fun hS => ?_)
    refine Tr.iload (pc := 52) (i := 4) d_X7_add_52 rfl ?_
    exact Tr.iret (pc := 54) d_X7_add_54 rfl ⟨hS, _, rfl, by omega, by omega⟩

def ws_X7_add_2_w1 : List (Int × Int) := [(2, 3)]
def as_X7_add_2_w1 : List Int := [3, 4, 5]
def q_X7_add_2_w1 (M0 M' : Mem) (r : Option PV) : Prop := St ws_X7_add_2_w1 as_X7_add_2_w1 M0 M' ∧ ∃ v : Int, r = some (0, v) ∧ (-1) ≤ v ∧ v ≤ (-1)
set_option maxRecDepth 100000 in
set_option maxHeartbeats 4000000 in
theorem sp_X7_add_2_w1 {l : Launch} {K : EC} {M0 : Mem} (hI : In M0)  (a1 : Int) (ha1 : 0 ≤ a1 ∧ a1 ≤ 0) (a2 : Int) (ha2 : 0 ≤ a2 ∧ a2 ≤ 900) (a3 : Int) (ha3 : 0 ≤ a3 ∧ a3 ≤ 0) (a4 : Int) (ha4 : (-1) ≤ a4 ∧ a4 ≤ (-1))  : Tr l K 0 mX7_add 0 [(0, (2, 2)), (1, (0, a1)), (2, (0, a2)), (3, (0, a3)), (4, (0, a4))] [] M0 (q_X7_add_2_w1 M0) := by
  have hS : St ws_X7_add_2_w1 as_X7_add_2_w1 M0 M0 := St.rf hI
  refine Tr.aload_n (pc := 0) (i := 0) d_X7_add_0 rfl rfl ?_
  refine Tr.getf (pc := 1) d_X7_add_1 f_7_29 (by decide) (by decide) (ty_2 hS.1.1) ?_
  refine Tr.gen (P := fun v => 0 ≤ v ∧ v ≤ 901) (ir_2_3 hS.1.2.1) (fun r1 er1 br1 => ?_)
  refine Tr.aload_n (pc := 4) (i := 0) d_X7_add_4 rfl rfl ?_
  refine Tr.getf (pc := 5) d_X7_add_5 f_7_9 (by decide) (by decide) (ty_2 hS.1.1) ?_
  refine Tr.tp 3 (fx_2_0 hS.1.1) ?_
  refine Tr.alen (pc := 8) d_X7_add_8 (ty_3 hS.1.1) (by decide) (by decide) ?_
  refine Tr.tp 901 rfl ?_
  refine Tr.icmp_ge (pc := 9) (tgt := 52) d_X7_add_9 rfl (fun c9 => ?_) (fun c9 => ?_)
  · refine Tr.iload (pc := 52) (i := 4) d_X7_add_52 rfl ?_
    refine Tr.tp (-1) (by omega) ?_
    exact Tr.iret (pc := 54) d_X7_add_54 rfl ⟨hS, _, rfl, by omega, by omega⟩
  · refine Tr.aload_n (pc := 12) (i := 0) d_X7_add_12 rfl rfl ?_
    refine Tr.getf (pc := 13) d_X7_add_13 f_7_9 (by decide) (by decide) (ty_2 hS.1.1) ?_
    refine Tr.tp 3 (fx_2_0 hS.1.1) ?_
    refine Tr.aload_n (pc := 16) (i := 0) d_X7_add_16 rfl rfl ?_
    refine Tr.getf (pc := 17) d_X7_add_17 f_7_29 (by decide) (by decide) (ty_2 hS.1.1) ?_
    refine Tr.tp r1 er1 ?_
    refine Tr.iload_n (pc := 20) (i := 1) d_X7_add_20 rfl rfl ?_
    refine Tr.tp 0 (by omega) ?_
    refine Tr.iastS (pc := 21) (P := St ws_X7_add_2_w1 as_X7_add_2_w1 M0) d_X7_add_21 (ty_3 hS.1.1) (by omega) (by omega) (sa_3 hS (by decide) (by omega)) (fun hS => ?_)
    refine Tr.aload_n (pc := 22) (i := 0) d_X7_add_22 rfl rfl ?_
    refine Tr.getf (pc := 23) d_X7_add_23 f_7_15 (by decide) (by decide) (ty_2 hS.1.1) ?_
    refine Tr.tp 4 (fx_2_1 hS.1.1) ?_
    refine Tr.aload_n (pc := 26) (i := 0) d_X7_add_26 rfl rfl ?_
    refine Tr.getf (pc := 27) d_X7_add_27 f_7_29 (by decide) (by decide) (ty_2 hS.1.1) ?_
    refine Tr.tp r1 ((rd_wb _ rfl).trans er1) ?_
    refine Tr.iload_n (pc := 30) (i := 2) d_X7_add_30 rfl rfl ?_
    refine Tr.iastS (pc := 31) (P := St ws_X7_add_2_w1 as_X7_add_2_w1 M0) d_X7_add_31 (ty_4 hS.1.1) (by omega) (by omega) (sa_4 hS (by decide) (by omega)) (fun hS => ?_)
    refine Tr.aload_n (pc := 32) (i := 0) d_X7_add_32 rfl rfl ?_
    refine Tr.getf (pc := 33) d_X7_add_33 f_7_18 (by decide) (by decide) (ty_2 hS.1.1) ?_
    refine Tr.tp 5 (fx_2_2 hS.1.1) ?_
    refine Tr.aload_n (pc := 36) (i := 0) d_X7_add_36 rfl rfl ?_
    refine Tr.getf (pc := 37) d_X7_add_37 f_7_29 (by decide) (by decide) (ty_2 hS.1.1) ?_
    refine Tr.tp r1 ((rd_wb _ rfl).trans ((rd_wb _ rfl).trans er1)) ?_
    refine Tr.iload_n (pc := 40) (i := 3) d_X7_add_40 rfl rfl ?_
    refine Tr.tp 0 (by omega) ?_
    refine Tr.iastS (pc := 41) (P := St ws_X7_add_2_w1 as_X7_add_2_w1 M0) d_X7_add_41 (ty_5 hS.1.1) (by omega) (by omega) (sa_5 hS (by decide) (by omega)) (fun hS => ?_)
    refine Tr.aload_n (pc := 42) (i := 0) d_X7_add_42 rfl rfl ?_
    refine Tr.dup (pc := 43) d_X7_add_43 ne21 ?_
    refine Tr.getf (pc := 44) d_X7_add_44 f_7_29 (by decide) (by decide) (ty_2 hS.1.1) ?_
    refine Tr.tp r1 ((rd_wb _ rfl).trans ((rd_wb _ rfl).trans ((rd_wb _ rfl).trans er1))) ?_
    refine Tr.iconst (pc := 47) d_X7_add_47 (by decide) ?_
    refine Tr.iadd (pc := 48) d_X7_add_48 ?_
    refine Tr.tp (r1 + 1) ((w32_id (by omega)).trans (by omega)) ?_
    refine Tr.putfS (pc := 49) (P := St ws_X7_add_2_w1 as_X7_add_2_w1 M0) d_X7_add_49 f_7_29 (by decide) (by decide) (ty_2 hS.1.1) (st_2_3 hS (by decide) (by omega)) (fun hS => ?_)
    refine Tr.iload (pc := 52) (i := 4) d_X7_add_52 rfl ?_
    refine Tr.tp (-1) (by omega) ?_
    exact Tr.iret (pc := 54) d_X7_add_54 rfl ⟨hS, _, rfl, by omega, by omega⟩

def ws_X7_add_2_w2 : List (Int × Int) := [(2, 3)]
def as_X7_add_2_w2 : List Int := [3, 4, 5]
def q_X7_add_2_w2 (M0 M' : Mem) (r : Option PV) : Prop := St ws_X7_add_2_w2 as_X7_add_2_w2 M0 M' ∧ ∃ v : Int, r = some (0, v) ∧ (-1) ≤ v ∧ v ≤ (-1)
set_option maxRecDepth 100000 in
set_option maxHeartbeats 4000000 in
theorem sp_X7_add_2_w2 {l : Launch} {K : EC} {M0 : Mem} (hI : In M0)  (a1 : Int) (ha1 : 1 ≤ a1 ∧ a1 ≤ 1) (a2 : Int) (ha2 : 0 ≤ a2 ∧ a2 ≤ 899) (a3 : Int) (ha3 : 0 ≤ a3 ∧ a3 ≤ 0) (a4 : Int) (ha4 : (-1) ≤ a4 ∧ a4 ≤ (-1))  : Tr l K 0 mX7_add 0 [(0, (2, 2)), (1, (0, a1)), (2, (0, a2)), (3, (0, a3)), (4, (0, a4))] [] M0 (q_X7_add_2_w2 M0) := by
  have hS : St ws_X7_add_2_w2 as_X7_add_2_w2 M0 M0 := St.rf hI
  refine Tr.aload_n (pc := 0) (i := 0) d_X7_add_0 rfl rfl ?_
  refine Tr.getf (pc := 1) d_X7_add_1 f_7_29 (by decide) (by decide) (ty_2 hS.1.1) ?_
  refine Tr.gen (P := fun v => 0 ≤ v ∧ v ≤ 901) (ir_2_3 hS.1.2.1) (fun r1 er1 br1 => ?_)
  refine Tr.aload_n (pc := 4) (i := 0) d_X7_add_4 rfl rfl ?_
  refine Tr.getf (pc := 5) d_X7_add_5 f_7_9 (by decide) (by decide) (ty_2 hS.1.1) ?_
  refine Tr.tp 3 (fx_2_0 hS.1.1) ?_
  refine Tr.alen (pc := 8) d_X7_add_8 (ty_3 hS.1.1) (by decide) (by decide) ?_
  refine Tr.tp 901 rfl ?_
  refine Tr.icmp_ge (pc := 9) (tgt := 52) d_X7_add_9 rfl (fun c9 => ?_) (fun c9 => ?_)
  · refine Tr.iload (pc := 52) (i := 4) d_X7_add_52 rfl ?_
    refine Tr.tp (-1) (by omega) ?_
    exact Tr.iret (pc := 54) d_X7_add_54 rfl ⟨hS, _, rfl, by omega, by omega⟩
  · refine Tr.aload_n (pc := 12) (i := 0) d_X7_add_12 rfl rfl ?_
    refine Tr.getf (pc := 13) d_X7_add_13 f_7_9 (by decide) (by decide) (ty_2 hS.1.1) ?_
    refine Tr.tp 3 (fx_2_0 hS.1.1) ?_
    refine Tr.aload_n (pc := 16) (i := 0) d_X7_add_16 rfl rfl ?_
    refine Tr.getf (pc := 17) d_X7_add_17 f_7_29 (by decide) (by decide) (ty_2 hS.1.1) ?_
    refine Tr.tp r1 er1 ?_
    refine Tr.iload_n (pc := 20) (i := 1) d_X7_add_20 rfl rfl ?_
    refine Tr.tp 1 (by omega) ?_
    refine Tr.iastS (pc := 21) (P := St ws_X7_add_2_w2 as_X7_add_2_w2 M0) d_X7_add_21 (ty_3 hS.1.1) (by omega) (by omega) (sa_3 hS (by decide) (by omega)) (fun hS => ?_)
    refine Tr.aload_n (pc := 22) (i := 0) d_X7_add_22 rfl rfl ?_
    refine Tr.getf (pc := 23) d_X7_add_23 f_7_15 (by decide) (by decide) (ty_2 hS.1.1) ?_
    refine Tr.tp 4 (fx_2_1 hS.1.1) ?_
    refine Tr.aload_n (pc := 26) (i := 0) d_X7_add_26 rfl rfl ?_
    refine Tr.getf (pc := 27) d_X7_add_27 f_7_29 (by decide) (by decide) (ty_2 hS.1.1) ?_
    refine Tr.tp r1 ((rd_wb _ rfl).trans er1) ?_
    refine Tr.iload_n (pc := 30) (i := 2) d_X7_add_30 rfl rfl ?_
    refine Tr.iastS (pc := 31) (P := St ws_X7_add_2_w2 as_X7_add_2_w2 M0) d_X7_add_31 (ty_4 hS.1.1) (by omega) (by omega) (sa_4 hS (by decide) (by omega)) (fun hS => ?_)
    refine Tr.aload_n (pc := 32) (i := 0) d_X7_add_32 rfl rfl ?_
    refine Tr.getf (pc := 33) d_X7_add_33 f_7_18 (by decide) (by decide) (ty_2 hS.1.1) ?_
    refine Tr.tp 5 (fx_2_2 hS.1.1) ?_
    refine Tr.aload_n (pc := 36) (i := 0) d_X7_add_36 rfl rfl ?_
    refine Tr.getf (pc := 37) d_X7_add_37 f_7_29 (by decide) (by decide) (ty_2 hS.1.1) ?_
    refine Tr.tp r1 ((rd_wb _ rfl).trans ((rd_wb _ rfl).trans er1)) ?_
    refine Tr.iload_n (pc := 40) (i := 3) d_X7_add_40 rfl rfl ?_
    refine Tr.tp 0 (by omega) ?_
    refine Tr.iastS (pc := 41) (P := St ws_X7_add_2_w2 as_X7_add_2_w2 M0) d_X7_add_41 (ty_5 hS.1.1) (by omega) (by omega) (sa_5 hS (by decide) (by omega)) (fun hS => ?_)
    refine Tr.aload_n (pc := 42) (i := 0) d_X7_add_42 rfl rfl ?_
    refine Tr.dup (pc := 43) d_X7_add_43 ne21 ?_
    refine Tr.getf (pc := 44) d_X7_add_44 f_7_29 (by decide) (by decide) (ty_2 hS.1.1) ?_
    refine Tr.tp r1 ((rd_wb _ rfl).trans ((rd_wb _ rfl).trans ((rd_wb _ rfl).trans er1))) ?_
    refine Tr.iconst (pc := 47) d_X7_add_47 (by decide) ?_
    refine Tr.iadd (pc := 48) d_X7_add_48 ?_
    refine Tr.tp (r1 + 1) ((w32_id (by omega)).trans (by omega)) ?_
    refine Tr.putfS (pc := 49) (P := St ws_X7_add_2_w2 as_X7_add_2_w2 M0) d_X7_add_49 f_7_29 (by decide) (by decide) (ty_2 hS.1.1) (st_2_3 hS (by decide) (by omega)) (fun hS => ?_)
    refine Tr.iload (pc := 52) (i := 4) d_X7_add_52 rfl ?_
    refine Tr.tp (-1) (by omega) ?_
    exact Tr.iret (pc := 54) d_X7_add_54 rfl ⟨hS, _, rfl, by omega, by omega⟩

def ws_X7_add_2_w3 : List (Int × Int) := [(2, 3)]
def as_X7_add_2_w3 : List Int := [3, 4, 5]
def q_X7_add_2_w3 (M0 M' : Mem) (r : Option PV) : Prop := St ws_X7_add_2_w3 as_X7_add_2_w3 M0 M' ∧ ∃ v : Int, r = some (0, v) ∧ 0 ≤ v ∧ v ≤ 900
set_option maxRecDepth 100000 in
set_option maxHeartbeats 4000000 in
theorem sp_X7_add_2_w3 {l : Launch} {K : EC} {M0 : Mem} (hI : In M0)  (a1 : Int) (ha1 : 3 ≤ a1 ∧ a1 ≤ 5) (a2 : Int) (ha2 : 0 ≤ a2 ∧ a2 ≤ 899) (a3 : Int) (ha3 : (-2147483648) ≤ a3 ∧ a3 ≤ 2147483647) (a4 : Int) (ha4 : 0 ≤ a4 ∧ a4 ≤ 900)  : Tr l K 0 mX7_add 0 [(0, (2, 2)), (1, (0, a1)), (2, (0, a2)), (3, (0, a3)), (4, (0, a4))] [] M0 (q_X7_add_2_w3 M0) := by
  have hS : St ws_X7_add_2_w3 as_X7_add_2_w3 M0 M0 := St.rf hI
  refine Tr.aload_n (pc := 0) (i := 0) d_X7_add_0 rfl rfl ?_
  refine Tr.getf (pc := 1) d_X7_add_1 f_7_29 (by decide) (by decide) (ty_2 hS.1.1) ?_
  refine Tr.gen (P := fun v => 0 ≤ v ∧ v ≤ 901) (ir_2_3 hS.1.2.1) (fun r1 er1 br1 => ?_)
  refine Tr.aload_n (pc := 4) (i := 0) d_X7_add_4 rfl rfl ?_
  refine Tr.getf (pc := 5) d_X7_add_5 f_7_9 (by decide) (by decide) (ty_2 hS.1.1) ?_
  refine Tr.tp 3 (fx_2_0 hS.1.1) ?_
  refine Tr.alen (pc := 8) d_X7_add_8 (ty_3 hS.1.1) (by decide) (by decide) ?_
  refine Tr.tp 901 rfl ?_
  refine Tr.icmp_ge (pc := 9) (tgt := 52) d_X7_add_9 rfl (fun c9 => ?_) (fun c9 => ?_)
  · refine Tr.iload (pc := 52) (i := 4) d_X7_add_52 rfl ?_
    exact Tr.iret (pc := 54) d_X7_add_54 rfl ⟨hS, _, rfl, by omega, by omega⟩
  · refine Tr.aload_n (pc := 12) (i := 0) d_X7_add_12 rfl rfl ?_
    refine Tr.getf (pc := 13) d_X7_add_13 f_7_9 (by decide) (by decide) (ty_2 hS.1.1) ?_
    refine Tr.tp 3 (fx_2_0 hS.1.1) ?_
    refine Tr.aload_n (pc := 16) (i := 0) d_X7_add_16 rfl rfl ?_
    refine Tr.getf (pc := 17) d_X7_add_17 f_7_29 (by decide) (by decide) (ty_2 hS.1.1) ?_
    refine Tr.tp r1 er1 ?_
    refine Tr.iload_n (pc := 20) (i := 1) d_X7_add_20 rfl rfl ?_
    refine Tr.iastS (pc := 21) (P := St ws_X7_add_2_w3 as_X7_add_2_w3 M0) d_X7_add_21 (ty_3 hS.1.1) (by omega) (by omega) (sa_3 hS (by decide) (by omega)) (fun hS => ?_)
    refine Tr.aload_n (pc := 22) (i := 0) d_X7_add_22 rfl rfl ?_
    refine Tr.getf (pc := 23) d_X7_add_23 f_7_15 (by decide) (by decide) (ty_2 hS.1.1) ?_
    refine Tr.tp 4 (fx_2_1 hS.1.1) ?_
    refine Tr.aload_n (pc := 26) (i := 0) d_X7_add_26 rfl rfl ?_
    refine Tr.getf (pc := 27) d_X7_add_27 f_7_29 (by decide) (by decide) (ty_2 hS.1.1) ?_
    refine Tr.tp r1 ((rd_wb _ rfl).trans er1) ?_
    refine Tr.iload_n (pc := 30) (i := 2) d_X7_add_30 rfl rfl ?_
    refine Tr.iastS (pc := 31) (P := St ws_X7_add_2_w3 as_X7_add_2_w3 M0) d_X7_add_31 (ty_4 hS.1.1) (by omega) (by omega) (sa_4 hS (by decide) (by omega)) (fun hS => ?_)
    refine Tr.aload_n (pc := 32) (i := 0) d_X7_add_32 rfl rfl ?_
    refine Tr.getf (pc := 33) d_X7_add_33 f_7_18 (by decide) (by decide) (ty_2 hS.1.1) ?_
    refine Tr.tp 5 (fx_2_2 hS.1.1) ?_
    refine Tr.aload_n (pc := 36) (i := 0) d_X7_add_36 rfl rfl ?_
    refine Tr.getf (pc := 37) d_X7_add_37 f_7_29 (by decide) (by decide) (ty_2 hS.1.1) ?_
    refine Tr.tp r1 ((rd_wb _ rfl).trans ((rd_wb _ rfl).trans er1)) ?_
    refine Tr.iload_n (pc := 40) (i := 3) d_X7_add_40 rfl rfl ?_
    refine Tr.iastS (pc := 41) (P := St ws_X7_add_2_w3 as_X7_add_2_w3 M0) d_X7_add_41 (ty_5 hS.1.1) (by omega) (by omega) (sa_5 hS (by decide) (by omega)) (fun hS => ?_)
    refine Tr.aload_n (pc := 42) (i := 0) d_X7_add_42 rfl rfl ?_
    refine Tr.dup (pc := 43) d_X7_add_43 ne21 ?_
    refine Tr.getf (pc := 44) d_X7_add_44 f_7_29 (by decide) (by decide) (ty_2 hS.1.1) ?_
    refine Tr.tp r1 ((rd_wb _ rfl).trans ((rd_wb _ rfl).trans ((rd_wb _ rfl).trans er1))) ?_
    refine Tr.iconst (pc := 47) d_X7_add_47 (by decide) ?_
    refine Tr.iadd (pc := 48) d_X7_add_48 ?_
    refine Tr.tp (r1 + 1) ((w32_id (by omega)).trans (by omega)) ?_
    refine Tr.putfS (pc := 49) (P := St ws_X7_add_2_w3 as_X7_add_2_w3 M0) d_X7_add_49 f_7_29 (by decide) (by decide) (ty_2 hS.1.1) (st_2_3 hS (by decide) (by omega)) (fun hS => ?_)
    refine Tr.iload (pc := 52) (i := 4) d_X7_add_52 rfl ?_
    exact Tr.iret (pc := 54) d_X7_add_54 rfl ⟨hS, _, rfl, by omega, by omega⟩

def ws_X7_takeNumber_2 : List (Int × Int) := [(2, 3)]
def as_X7_takeNumber_2 : List Int := [3, 4, 5]
def q_X7_takeNumber_2 (M0 M' : Mem) (r : Option PV) : Prop := St ws_X7_takeNumber_2 as_X7_takeNumber_2 M0 M' ∧ ∃ v : Int, r = some (0, v) ∧ (-1) ≤ v ∧ v ≤ 900
set_option maxRecDepth 100000 in
set_option maxHeartbeats 4000000 in
theorem sp_X7_takeNumber_2 {l : Launch} {K : EC} {M0 : Mem} (hI : In M0) (en_2_4 : rd M0 2 4 = 1) (a1 : Int) (ha1 : 0 ≤ a1 ∧ a1 ≤ 899)  : Tr l K 1 mX7_takeNumber 0 [(0, (2, 2)), (1, (0, a1))] [] M0 (q_X7_takeNumber_2 M0) := by
  have hS : St ws_X7_takeNumber_2 as_X7_takeNumber_2 M0 M0 := St.rf hI
  refine Tr.iload_n (pc := 0) (i := 1) d_X7_takeNumber_0 rfl rfl ?_
  refine Tr.istore_n (pc := 1) (i := 2) (ls2 := [(2, (0, a1)), (0, (2, 2)), (1, (0, a1))]) d_X7_takeNumber_1 rfl (by decide) rfl ?_
  refine Tr.iconst (pc := 2) d_X7_takeNumber_2 (by decide) ?_
  refine Tr.istore_n (pc := 3) (i := 3) (ls2 := [(3, (0, 0)), (2, (0, a1)), (0, (2, 2)), (1, (0, a1))]) d_X7_takeNumber_3 rfl (by decide) rfl ?_
  have J4 : ∀ (n4 : Nat) (M : Mem) (p4_2 p4_3 : Int), St ws_X7_takeNumber_2 as_X7_takeNumber_2 M0 M → (0 ≤ p4_2 ∧ p4_2 ≤ 900) → ((-2147483648) ≤ p4_3 ∧ p4_3 ≤ 2147483647) → (900 - p4_2).toNat < n4 → Tr l K 1 mX7_takeNumber 4 [(0, (2, 2)), (1, (0, a1)), (2, (0, p4_2)), (3, (0, p4_3))] [] M (q_X7_takeNumber_2 M0) := by
    intro n4
    induction n4 with
    | zero => intro M p4_2 p4_3 hS bp4_2 bp4_3  hm4; exact absurd hm4 (Nat.not_lt_zero _)
    | succ n4 J4 =>
      intro M p4_2 p4_3 hS bp4_2 bp4_3  hm4
      refine Tr.iload_n (pc := 4) (i := 2) d_X7_takeNumber_4 rfl rfl ?_
      refine Tr.aload_n (pc := 5) (i := 0) d_X7_takeNumber_5 rfl rfl ?_
      refine Tr.getf (pc := 6) d_X7_takeNumber_6 f_7_25 (by decide) (by decide) (ty_2 hS.1.1) ?_
      refine Tr.gen (P := fun v => 0 ≤ v ∧ v ≤ 900) (ir_2_5 hS.1.2.1) (fun r6 er6 br6 => ?_)
      have J52 : ∀ (M : Mem), St ws_X7_takeNumber_2 as_X7_takeNumber_2 M0 M → rd M 2 5 = r6 → Tr l K 1 mX7_takeNumber 52 [(0, (2, 2)), (1, (0, a1)), (2, (0, p4_2)), (3, (0, p4_3))] [] M (q_X7_takeNumber_2 M0) := by
        intro M  hS  k52_2_5
        refine Tr.iload_n (pc := 52) (i := 2) d_X7_takeNumber_52 rfl rfl ?_
        refine Tr.iload_n (pc := 53) (i := 1) d_X7_takeNumber_53 rfl rfl ?_
        refine Tr.isub (pc := 54) d_X7_takeNumber_54 ?_
        refine Tr.tp (-a1 + p4_2) ((w32_id (by omega)).trans (by omega)) ?_
        refine Tr.iconst (pc := 55) d_X7_takeNumber_55 (by decide) ?_
        refine Tr.icmp_le (pc := 56) (tgt := 70) d_X7_takeNumber_56 rfl (fun c56 => ?_) (fun c56 => ?_)
        · refine Tr.aload_n (pc := 70) (i := 0) d_X7_takeNumber_70 rfl rfl ?_
          refine Tr.iconst (pc := 71) d_X7_takeNumber_71 (by decide) ?_
          refine Tr.iload_n (pc := 72) (i := 1) d_X7_takeNumber_72 rfl rfl ?_
          refine Tr.iload_n (pc := 73) (i := 3) d_X7_takeNumber_73 rfl rfl ?_
          refine Tr.iload_n (pc := 74) (i := 2) d_X7_takeNumber_74 rfl rfl ?_
          refine Tr.callV (pc := 75) (as := [_, _, _, _]) d_X7_takeNumber_75 s_7_40 ok_X7_add rfl rfl (Nat.le_of_ble_eq_true rfl) (Nat.le_of_ble_eq_true rfl) (by decide) (ty_2 hS.1.1) ?_
          refine Tr.imp (Tr.deep (by decide) (sp_X7_add_2_w3 hS.1 4 (by omega) a1 (by omega) p4_3 (by omega) p4_2 (by omega))) ?_
          rintro M75 _ ⟨h75, r75, rfl, lr75, ur75⟩
          have hS := St.tr hS h75 (by decide) (by decide)
          refine Tr.sc [(0, r75)] rfl ?_
          exact Tr.iret (pc := 78) d_X7_takeNumber_78 rfl ⟨hS, _, rfl, by omega, by omega⟩
        · refine Tr.aload_n (pc := 59) (i := 0) d_X7_takeNumber_59 rfl rfl ?_
          refine Tr.iconst (pc := 60) d_X7_takeNumber_60 (by decide) ?_
          refine Tr.iload_n (pc := 61) (i := 1) d_X7_takeNumber_61 rfl rfl ?_
          refine Tr.iconst (pc := 62) d_X7_takeNumber_62 (by decide) ?_
          refine Tr.iadd (pc := 63) d_X7_takeNumber_63 ?_
          refine Tr.tp (a1 + 4) ((w32_id (by omega)).trans (by omega)) ?_
          refine Tr.iconst (pc := 64) d_X7_takeNumber_64 (by decide) ?_
          refine Tr.iconst (pc := 65) d_X7_takeNumber_65 (by decide) ?_
          refine Tr.callV (pc := 66) (as := [_, _, _, _]) d_X7_takeNumber_66 s_7_40 ok_X7_add rfl rfl (Nat.le_of_ble_eq_true rfl) (Nat.le_of_ble_eq_true rfl) (by decide) (ty_2 hS.1.1) ?_
          refine Tr.imp (Tr.deep (by decide) (sp_X7_add_2_w2 hS.1 1 (by omega) (a1 + 4) (by omega) 0 (by omega) (-1) (by omega))) ?_
          rintro M66 _ ⟨h66, r66, rfl, lr66, ur66⟩
          have hS := St.tr hS h66 (by decide) (by decide)
          refine Tr.sc [(0, r66)] rfl ?_
          exact Tr.iret (pc := 69) d_X7_takeNumber_69 rfl ⟨hS, _, rfl, by omega, by omega⟩
      refine Tr.icmp_ge (pc := 9) (tgt := 52) d_X7_takeNumber_9 rfl (fun c9 => ?_) (fun c9 => ?_)
      · refine Tr.pick [0, 1, 2, 3] (ls2 := [(0, (2, 2)), (1, (0, a1)), (2, (0, p4_2)), (3, (0, p4_3))]) rfl ?_
        exact J52 _ hS er6
      · refine Tr.iload_n (pc := 12) (i := 2) d_X7_takeNumber_12 rfl rfl ?_
        refine Tr.iload_n (pc := 13) (i := 1) d_X7_takeNumber_13 rfl rfl ?_
        refine Tr.iconst (pc := 14) d_X7_takeNumber_14 (by decide) ?_
        refine Tr.iadd (pc := 15) d_X7_takeNumber_15 ?_
        refine Tr.tp (a1 + 4) ((w32_id (by omega)).trans (by omega)) ?_
        refine Tr.icmp_gt (pc := 16) (tgt := 52) d_X7_takeNumber_16 rfl (fun c16 => ?_) (fun c16 => ?_)
        · refine Tr.pick [0, 1, 2, 3] (ls2 := [(0, (2, 2)), (1, (0, a1)), (2, (0, p4_2)), (3, (0, p4_3))]) rfl ?_
          exact J52 _ hS er6
        · refine Tr.aload_n (pc := 19) (i := 0) d_X7_takeNumber_19 rfl rfl ?_
          refine Tr.getf (pc := 20) d_X7_takeNumber_20 f_7_21 (by decide) (by decide) (ty_2 hS.1.1) ?_
          refine Tr.tp 1 ((St.kp hS (by decide) (by decide)).trans en_2_4) ?_
          refine Tr.iload_n (pc := 23) (i := 2) d_X7_takeNumber_23 rfl rfl ?_
          refine Tr.bald (pc := 24) d_X7_takeNumber_24 (ty_1 hS.1.1) (by omega) (by omega) ?_
          refine Tr.gen (P := fun v => (-128) ≤ v ∧ v ≤ 127) (ar_1 hS.1.2.1 _) (fun r24 er24 br24 => ?_)
          refine Tr.callS (pc := 25) (as := [_]) d_X7_takeNumber_25 s_7_48 ok_X7_isDigit rfl rfl (Nat.le_of_ble_eq_true rfl) (Nat.le_of_ble_eq_true rfl) ?_
          refine Tr.imp (Tr.deep (by decide) (sp_X7_isDigit hS.1 r24 (by omega))) ?_
          rintro M25 _ ⟨h25, r25, rfl, lr25, ur25⟩
          have hS := St.tr hS h25 (by decide) (by decide)
          refine Tr.sc [(0, r25)] rfl ?_
          refine Tr.if_eq (pc := 28) (tgt := 52) d_X7_takeNumber_28 rfl (fun c28 => ?_) (fun c28 => ?_)
          · refine Tr.pick [0, 1, 2, 3] (ls2 := [(0, (2, 2)), (1, (0, a1)), (2, (0, p4_2)), (3, (0, p4_3))]) rfl ?_
            exact J52 _ hS ((St.kp h25 (by decide) (by decide)).trans er6)
          · refine Tr.iload_n (pc := 31) (i := 3) d_X7_takeNumber_31 rfl rfl ?_
            refine Tr.bipush (pc := 32) d_X7_takeNumber_32 rfl (by decide) ?_
            refine Tr.imul (pc := 34) d_X7_takeNumber_34 ?_
            refine Tr.gen (P := fun v => (-2147483648) ≤ v ∧ v ≤ 2147483647) (w32_b _) (fun r34 er34 br34 => ?_)
            refine Tr.aload_n (pc := 35) (i := 0) d_X7_takeNumber_35 rfl rfl ?_
            refine Tr.getf (pc := 36) d_X7_takeNumber_36 f_7_21 (by decide) (by decide) (ty_2 hS.1.1) ?_
            refine Tr.tp 1 ((St.kp hS (by decide) (by decide)).trans en_2_4) ?_
            refine Tr.iload_n (pc := 39) (i := 2) d_X7_takeNumber_39 rfl rfl ?_
            refine Tr.bald (pc := 40) d_X7_takeNumber_40 (ty_1 hS.1.1) (by omega) (by omega) ?_
            refine Tr.tp r24 ((St.ka h25 (by decide) (by decide)).trans er24) ?_
            refine Tr.iadd (pc := 41) d_X7_takeNumber_41 ?_
            refine Tr.gen (P := fun v => (-2147483648) ≤ v ∧ v ≤ 2147483647) (w32_b _) (fun r41 er41 br41 => ?_)
            refine Tr.bipush (pc := 42) d_X7_takeNumber_42 rfl (by decide) ?_
            refine Tr.isub (pc := 44) d_X7_takeNumber_44 ?_
            refine Tr.gen (P := fun v => (-2147483648) ≤ v ∧ v ≤ 2147483647) (w32_b _) (fun r44 er44 br44 => ?_)
            refine Tr.istore_n (pc := 45) (i := 3) (ls2 := [(3, (0, r44)), (0, (2, 2)), (1, (0, a1)), (2, (0, p4_2))]) d_X7_takeNumber_45 rfl (by decide) rfl ?_
            refine Tr.iincV (pc := 46) (n2 := (p4_2 + 1)) (ls2 := [(2, (0, (p4_2 + 1))), (3, (0, r44)), (0, (2, 2)), (1, (0, a1))]) d_X7_takeNumber_46 rfl (by decide) ((w32_id (by omega)).trans (by omega)) rfl ?_
            refine Tr.goto (pc := 49) (tgt := 4) d_X7_takeNumber_49 rfl ?_
            refine Tr.pick [2, 3, 0, 1] (ls2 := [(0, (2, 2)), (1, (0, a1)), (2, (0, (p4_2 + 1))), (3, (0, r44))]) rfl ?_
            exact J4 _ _ _ hS (by omega) (by omega) (by omega)
  refine Tr.pick [2, 3, 1, 0] (ls2 := [(0, (2, 2)), (1, (0, a1)), (2, (0, a1)), (3, (0, 0))]) rfl ?_
  exact J4 _ _ _ _ hS (by omega) (by omega) (Nat.lt_succ_self _)
