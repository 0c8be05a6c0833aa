def ws_X6_pass_74_w4 : List (Int × Int) := [(74, 9), (74, 14), (74, 17)]
def as_X6_pass_74_w4 : List Int := []
def q_X6_pass_74_w4 (M0 M' : Mem) (r : Option PV) : Prop := St ws_X6_pass_74_w4 as_X6_pass_74_w4 M0 M' ∧ ∃ v : Int, r = some (0, v) ∧ (-2147483648) ≤ v ∧ v ≤ 50
set_option maxRecDepth 100000 in
set_option maxHeartbeats 4000000 in
theorem sp_X6_pass_74_w4 {l : Launch} {K : EC} {M0 : Mem} (hI : In M0) (en_74_1 : rd M0 74 1 = 7) (a1 : Int) (ha1 : 0 ≤ a1 ∧ a1 ≤ 50) (a2 : Int) (ha2 : 0 ≤ a2 ∧ a2 ≤ 5) (a3 : Int) (ha3 : 3 ≤ a3 ∧ a3 ≤ 3)  : Tr l K 2 mX6_pass 0 [(0, (2, 74)), (1, (0, a1)), (2, (0, a2)), (3, (0, a3))] [] M0 (q_X6_pass_74_w4 M0) := by
  have hS : St ws_X6_pass_74_w4 as_X6_pass_74_w4 M0 M0 := St.rf hI
  refine Tr.iload_n (pc := 0) (i := 1) d_X6_pass_0 rfl rfl ?_
  refine Tr.sipush (pc := 1) d_X6_pass_1 rfl (by decide) ?_
  refine Tr.aload_n (pc := 4) (i := 0) d_X6_pass_4 rfl rfl ?_
  refine Tr.getf (pc := 5) d_X6_pass_5 f_6_68 (by decide) (by decide) (ty_74 hS.1.1) ?_
  refine Tr.gen (P := fun v => (-2147483648) ≤ v ∧ v ≤ 2147483647) (ir_74_9 hS.1.2.1) (fun r5 er5 br5 => ?_)
  refine Tr.isub (pc := 8) d_X6_pass_8 ?_
  refine Tr.gen (P := fun v => (-2147483648) ≤ v ∧ v ≤ 2147483647) (w32_b _) (fun r8 er8 br8 => ?_)
  refine Tr.mmin (pc := 9) d_X6_pass_9 ml_6_158 mw_mmin (Nat.le_of_ble_eq_true rfl) ?_
  refine Tr.gen (P := fun v => (v = a1 ∧ a1 ≤ r8) ∨ (v = r8 ∧ r8 ≤ a1)) (f_min_p _ _) (fun r9 er9 br9 => ?_)
  refine Tr.istore (pc := 12) (i := 4) (ls2 := [(4, (0, r9)), (0, (2, 74)), (1, (0, a1)), (2, (0, a2)), (3, (0, a3))]) d_X6_pass_12 (by decide) rfl ?_
  refine Tr.aload_n (pc := 14) (i := 0) d_X6_pass_14 rfl rfl ?_
  refine Tr.getz (pc := 15) d_X6_pass_15 f_6_106 (by decide) (ty_74 hS.1.1) ?_
  refine Tr.gen (P := fun v => 0 ≤ v ∧ v ≤ 1) (ir_74_16 hS.1.2.1) (fun r15 er15 br15 => ?_)
  have J34 : ∀ (M : Mem) (q34_0 : Int), St ws_X6_pass_74_w4 as_X6_pass_74_w4 M0 M → ((-2147483648) ≤ q34_0 ∧ q34_0 ≤ 50) → rd M 74 16 = r15 → rd M 74 9 = r5 → Tr l K 2 mX6_pass 34 [(0, (2, 74)), (1, (0, a1)), (4, (0, r9))] [(0, q34_0)] M (q_X6_pass_74_w4 M0) := by
    intro M q34_0 hS bq34_0 k34_74_16 k34_74_9
    refine Tr.istore (pc := 34) (i := 5) (ls2 := [(5, (0, q34_0)), (0, (2, 74)), (1, (0, a1)), (4, (0, r9))]) d_X6_pass_34 (by decide) rfl ?_
    refine Tr.aload_n (pc := 36) (i := 0) d_X6_pass_36 rfl rfl ?_
    refine Tr.dup (pc := 37) d_X6_pass_37 ne21 ?_
    refine Tr.getf (pc := 38) d_X6_pass_38 f_6_68 (by decide) (by decide) (ty_74 hS.1.1) ?_
    refine Tr.tp r5 k34_74_9 ?_
    refine Tr.iload (pc := 41) (i := 5) d_X6_pass_41 rfl ?_
    refine Tr.iadd (pc := 43) d_X6_pass_43 ?_
    refine Tr.gen (P := fun v => (-2147483648) ≤ v ∧ v ≤ 2147483647) (w32_b _) (fun r43 er43 br43 => ?_)
    refine Tr.putfS (pc := 44) (P := St ws_X6_pass_74_w4 as_X6_pass_74_w4 M0) d_X6_pass_44 f_6_68 (by decide) (by decide) (ty_74 hS.1.1) (st_74_9 hS (by decide) (by omega)) (fun hS => ?_)
    refine Tr.iload (pc := 47) (i := 5) d_X6_pass_47 rfl ?_
    refine Tr.iload_n (pc := 49) (i := 1) d_X6_pass_49 rfl rfl ?_
    refine Tr.icmp_ge (pc := 50) (tgt := 69) d_X6_pass_50 rfl (fun c50 => ?_) (fun c50 => ?_)
    · refine Tr.iload (pc := 69) (i := 5) d_X6_pass_69 rfl ?_
      exact Tr.iret (pc := 71) d_X6_pass_71 rfl ⟨hS, _, rfl, by omega, by omega⟩
    · refine Tr.aload_n (pc := 53) (i := 0) d_X6_pass_53 rfl rfl ?_
      refine Tr.iload (pc := 54) (i := 5) d_X6_pass_54 rfl ?_
      refine Tr.iload (pc := 56) (i := 4) d_X6_pass_56 rfl ?_
      refine Tr.icmp_ne (pc := 58) (tgt := 65) d_X6_pass_58 rfl (fun c58 => ?_) (fun c58 => ?_)
      · refine Tr.iconst (pc := 65) d_X6_pass_65 (by decide) ?_
        refine Tr.putfS (pc := 66) (P := St ws_X6_pass_74_w4 as_X6_pass_74_w4 M0) d_X6_pass_66 f_6_62 (by decide) (by decide) (ty_74 hS.1.1) (st_74_14 hS (by decide) (by omega)) (fun hS => ?_)
        refine Tr.iload (pc := 69) (i := 5) d_X6_pass_69 rfl ?_
        exact Tr.iret (pc := 71) d_X6_pass_71 rfl ⟨hS, _, rfl, by omega, by omega⟩
      · refine Tr.iconst (pc := 61) d_X6_pass_61 (by decide) ?_
        refine Tr.goto (pc := 62) (tgt := 66) d_X6_pass_62 rfl ?_
        refine Tr.putfS (pc := 66) (P := St ws_X6_pass_74_w4 as_X6_pass_74_w4 M0) d_X6_pass_66 f_6_62 (by decide) (by decide) (ty_74 hS.1.1) (st_74_14 hS (by decide) (by omega)) (fun hS => ?_)
        refine Tr.iload (pc := 69) (i := 5) d_X6_pass_69 rfl ?_
        exact Tr.iret (pc := 71) d_X6_pass_71 rfl ⟨hS, _, rfl, by omega, by omega⟩
  refine Tr.if_eq (pc := 18) (tgt := 32) d_X6_pass_18 rfl (fun c18 => ?_) (fun c18 => ?_)
  · refine Tr.iload (pc := 32) (i := 4) d_X6_pass_32 rfl ?_
    refine Tr.pick [1, 2, 0] (ls2 := [(0, (2, 74)), (1, (0, a1)), (4, (0, r9))]) rfl ?_
    exact J34 _ _ hS (by omega) er15 er5
  · refine Tr.aload_n (pc := 21) (i := 0) d_X6_pass_21 rfl rfl ?_
    refine Tr.iload (pc := 22) (i := 4) d_X6_pass_22 rfl ?_
    refine Tr.iload_n (pc := 24) (i := 2) d_X6_pass_24 rfl rfl ?_
    refine Tr.iload_n (pc := 25) (i := 3) d_X6_pass_25 rfl rfl ?_
    refine Tr.tp 3 (by omega) ?_
    refine Tr.callV (pc := 26) (as := [_, _, _]) d_X6_pass_26 s_6_183 ok_X6_afforded rfl rfl (Nat.le_of_ble_eq_true rfl) (Nat.le_of_ble_eq_true rfl) (by decide) (ty_74 hS.1.1) ?_
    refine Tr.imp (Tr.deep (by decide) (sp_X6_afforded_74_w4 hS.1 ((St.kp hS (by decide) (by decide)).trans en_74_1) r9 (by omega) a2 (by omega) 3 (by omega))) ?_
    rintro M26 _ ⟨h26, r26, rfl, lr26, ur26⟩
    have hS := St.tr hS h26 (by decide) (by decide)
    refine Tr.sc [(0, r26)] rfl ?_
    refine Tr.goto (pc := 29) (tgt := 34) d_X6_pass_29 rfl ?_
    refine Tr.pick [1, 2, 0] (ls2 := [(0, (2, 74)), (1, (0, a1)), (4, (0, r9))]) rfl ?_
    exact J34 _ _ hS (by omega) ((St.kp h26 (by decide) (by decide)).trans er15) ((St.kp h26 (by decide) (by decide)).trans er5)

def ws_X1_sippedByParts_82 : List (Int × Int) := []
def as_X1_sippedByParts_82 : List Int := []
def q_X1_sippedByParts_82 (M0 M' : Mem) (r : Option PV) : Prop := St ws_X1_sippedByParts_82 as_X1_sippedByParts_82 M0 M' ∧ ∃ v : Int, r = some (0, v) ∧ (-2147483648) ≤ v ∧ v ≤ 2147483647
set_option maxRecDepth 100000 in
set_option maxHeartbeats 4000000 in
theorem sp_X1_sippedByParts_82 {l : Launch} {K : EC} {M0 : Mem} (hI : In M0) (en_82_1 : rd M0 82 1 = 7)   : Tr l K 0 mX1_sippedByParts 0 [(0, (2, 82))] [] M0 (q_X1_sippedByParts_82 M0) := by
  have hS : St ws_X1_sippedByParts_82 as_X1_sippedByParts_82 M0 M0 := St.rf hI
  refine Tr.iconst (pc := 0) d_X1_sippedByParts_0 (by decide) ?_
  refine Tr.istore_n (pc := 1) (i := 1) (ls2 := [(1, (0, 0)), (0, (2, 82))]) d_X1_sippedByParts_1 rfl (by decide) rfl ?_
  refine Tr.iconst (pc := 2) d_X1_sippedByParts_2 (by decide) ?_
  refine Tr.istore_n (pc := 3) (i := 2) (ls2 := [(2, (0, 0)), (1, (0, 0)), (0, (2, 82))]) d_X1_sippedByParts_3 rfl (by decide) rfl ?_
  have J4 : ∀ (n4 : Nat) (M : Mem) (p4_1 p4_2 : Int), St ws_X1_sippedByParts_82 as_X1_sippedByParts_82 M0 M → ((-2147483648) ≤ p4_1 ∧ p4_1 ≤ 2147483647) → (0 ≤ p4_2 ∧ p4_2 ≤ 24) → (24 - p4_2).toNat < n4 → Tr l K 0 mX1_sippedByParts 4 [(0, (2, 82)), (1, (0, p4_1)), (2, (0, p4_2))] [] M (q_X1_sippedByParts_82 M0) := by
    intro n4
    induction n4 with
    | zero => intro M p4_1 p4_2 hS bp4_1 bp4_2  hm4; exact absurd hm4 (Nat.not_lt_zero _)
    | succ n4 J4 =>
      intro M p4_1 p4_2 hS bp4_1 bp4_2  hm4
      refine Tr.iload_n (pc := 4) (i := 2) d_X1_sippedByParts_4 rfl rfl ?_
      refine Tr.aload_n (pc := 5) (i := 0) d_X1_sippedByParts_5 rfl rfl ?_
      refine Tr.getf (pc := 6) d_X1_sippedByParts_6 f_1_41 (by decide) (by decide) (ty_82 hS.1.1) ?_
      refine Tr.tp 7 ((St.kp hS (by decide) (by decide)).trans en_82_1) ?_
      refine Tr.getf (pc := 9) d_X1_sippedByParts_9 f_1_91 (by decide) (by decide) (ty_7 hS.1.1) ?_
      refine Tr.tp 8 (fx_7_4 hS.1.1) ?_
      refine Tr.iconst (pc := 12) d_X1_sippedByParts_12 (by decide) ?_
      refine Tr.iald (pc := 13) d_X1_sippedByParts_13 (ty_8 hS.1.1) (by omega) (by omega) ?_
      refine Tr.gen (P := fun v => 0 ≤ v ∧ v ≤ 6) (ir_8_0 hS.1.2.1) (fun r13 er13 br13 => ?_)
      refine Tr.iconst (pc := 14) d_X1_sippedByParts_14 (by decide) ?_
      refine Tr.imul (pc := 15) d_X1_sippedByParts_15 ?_
      refine Tr.tp (4 * r13) ((w32_id (by omega)).trans (by omega)) ?_
      refine Tr.icmp_ge (pc := 16) (tgt := 44) d_X1_sippedByParts_16 rfl (fun c16 => ?_) (fun c16 => ?_)
      · refine Tr.iload_n (pc := 44) (i := 1) d_X1_sippedByParts_44 rfl rfl ?_
        exact Tr.iret (pc := 45) d_X1_sippedByParts_45 rfl ⟨hS, _, rfl, by omega, by omega⟩
      · refine Tr.iload_n (pc := 19) (i := 1) d_X1_sippedByParts_19 rfl rfl ?_
        refine Tr.aload_n (pc := 20) (i := 0) d_X1_sippedByParts_20 rfl rfl ?_
        refine Tr.getf (pc := 21) d_X1_sippedByParts_21 f_1_9 (by decide) (by decide) (ty_82 hS.1.1) ?_
        refine Tr.tp 83 (fx_82_2 hS.1.1) ?_
        refine Tr.iload_n (pc := 24) (i := 2) d_X1_sippedByParts_24 rfl rfl ?_
        refine Tr.iald (pc := 25) d_X1_sippedByParts_25 (ty_83 hS.1.1) (by omega) (by omega) ?_
        refine Tr.gen (P := fun v => (-2147483648) ≤ v ∧ v ≤ 2147483647) (ar_83 hS.1.2.1 _) (fun r25 er25 br25 => ?_)
        refine Tr.aload_n (pc := 26) (i := 0) d_X1_sippedByParts_26 rfl rfl ?_
        refine Tr.getf (pc := 27) d_X1_sippedByParts_27 f_1_41 (by decide) (by decide) (ty_82 hS.1.1) ?_
        refine Tr.tp 7 ((St.kp hS (by decide) (by decide)).trans en_82_1) ?_
        refine Tr.getf (pc := 30) d_X1_sippedByParts_30 f_1_71 (by decide) (by decide) (ty_7 hS.1.1) ?_
        refine Tr.tp 9 (fx_7_5 hS.1.1) ?_
        refine Tr.iload_n (pc := 33) (i := 2) d_X1_sippedByParts_33 rfl rfl ?_
        refine Tr.iald (pc := 34) d_X1_sippedByParts_34 (ty_9 hS.1.1) (by omega) (by omega) ?_
        refine Tr.gen (P := fun v => (-1) ≤ v ∧ v ≤ 999) (ar_9 hS.1.2.1 _) (fun r34 er34 br34 => ?_)
        refine Tr.imul (pc := 35) d_X1_sippedByParts_35 ?_
        refine Tr.gen (P := fun v => (-2147483648) ≤ v ∧ v ≤ 2147483647) (w32_b _) (fun r35 er35 br35 => ?_)
        refine Tr.iadd (pc := 36) d_X1_sippedByParts_36 ?_
        refine Tr.gen (P := fun v => (-2147483648) ≤ v ∧ v ≤ 2147483647) (w32_b _) (fun r36 er36 br36 => ?_)
        refine Tr.istore_n (pc := 37) (i := 1) (ls2 := [(1, (0, r36)), (0, (2, 82)), (2, (0, p4_2))]) d_X1_sippedByParts_37 rfl (by decide) rfl ?_
        refine Tr.iincV (pc := 38) (n2 := (p4_2 + 1)) (ls2 := [(2, (0, (p4_2 + 1))), (1, (0, r36)), (0, (2, 82))]) d_X1_sippedByParts_38 rfl (by decide) ((w32_id (by omega)).trans (by omega)) rfl ?_
        refine Tr.goto (pc := 41) (tgt := 4) d_X1_sippedByParts_41 rfl ?_
        refine Tr.pick [2, 1, 0] (ls2 := [(0, (2, 82)), (1, (0, r36)), (2, (0, (p4_2 + 1)))]) rfl ?_
        exact J4 _ _ _ hS (by omega) (by omega) (by omega)
  refine Tr.pick [2, 1, 0] (ls2 := [(0, (2, 82)), (1, (0, 0)), (2, (0, 0))]) rfl ?_
  exact J4 _ _ _ _ hS (by omega) (by omega) (Nat.lt_succ_self _)

def ws_X1_fallAsleep_82_w4 : List (Int × Int) := []
def as_X1_fallAsleep_82_w4 : List Int := []
def q_X1_fallAsleep_82_w4 (M0 M' : Mem) (r : Option PV) : Prop := St ws_X1_fallAsleep_82_w4 as_X1_fallAsleep_82_w4 M0 M' ∧ r = none
set_option maxRecDepth 100000 in
set_option maxHeartbeats 4000000 in
theorem sp_X1_fallAsleep_82_w4 {l : Launch} {K : EC} {M0 : Mem} (hI : In M0)  (a1 : Int) (ha1 : 0 ≤ a1 ∧ a1 ≤ 5)  : Tr l K 0 mX1_fallAsleep 0 [(0, (2, 82)), (1, (0, a1))] [] M0 (q_X1_fallAsleep_82_w4 M0) := by
  have hS : St ws_X1_fallAsleep_82_w4 as_X1_fallAsleep_82_w4 M0 M0 := St.rf hI
  refine Tr.aload_n (pc := 0) (i := 0) d_X1_fallAsleep_0 rfl rfl ?_
  refine Tr.getz (pc := 1) d_X1_fallAsleep_1 f_1_37 (by decide) (ty_82 hS.1.1) ?_
  refine Tr.tp 0 (fx_82_0 hS.1.1) ?_
  refine Tr.if_eq (pc := 4) (tgt := 75) d_X1_fallAsleep_4 rfl (fun _ => ?_) (fun hc => absurd (by omega) hc)
  exact Tr.vret (pc := 75) d_X1_fallAsleep_75 rfl ⟨hS, rfl⟩

def ws_X6_finish_74 : List (Int × Int) := [(74, 9), (74, 10)]
def as_X6_finish_74 : List Int := [81, 83]
def q_X6_finish_74 (M0 M' : Mem) (r : Option PV) : Prop := St ws_X6_finish_74 as_X6_finish_74 M0 M' ∧ r = none
set_option maxRecDepth 100000 in
set_option maxHeartbeats 4000000 in
theorem sp_X6_finish_74 {l : Launch} {K : EC} {M0 : Mem} (hI : In M0) (en_74_1 : rd M0 74 1 = 7) (en_82_1 : rd M0 82 1 = 7)   : Tr l K 2 mX6_finish 0 [(0, (2, 74))] [] M0 (q_X6_finish_74 M0) := by
  have hS : St ws_X6_finish_74 as_X6_finish_74 M0 M0 := St.rf hI
  refine Tr.aload_n (pc := 0) (i := 0) d_X6_finish_0 rfl rfl ?_
  refine Tr.getf (pc := 1) d_X6_finish_1 f_6_68 (by decide) (by decide) (ty_74 hS.1.1) ?_
  refine Tr.gen (P := fun v => (-2147483648) ≤ v ∧ v ≤ 2147483647) (ir_74_9 hS.1.2.1) (fun r1 er1 br1 => ?_)
  refine Tr.istore_n (pc := 4) (i := 1) (ls2 := [(1, (0, r1)), (0, (2, 74))]) d_X6_finish_4 rfl (by decide) rfl ?_
  refine Tr.aload_n (pc := 5) (i := 0) d_X6_finish_5 rfl rfl ?_
  refine Tr.getf (pc := 6) d_X6_finish_6 f_6_46 (by decide) (by decide) (ty_74 hS.1.1) ?_
  refine Tr.tp 7 ((St.kp hS (by decide) (by decide)).trans en_74_1) ?_
  refine Tr.getf (pc := 9) d_X6_finish_9 f_6_116 (by decide) (by decide) (ty_7 hS.1.1) ?_
  refine Tr.tp 8 (fx_7_4 hS.1.1) ?_
  refine Tr.iconst (pc := 12) d_X6_finish_12 (by decide) ?_
  refine Tr.iald (pc := 13) d_X6_finish_13 (ty_8 hS.1.1) (by omega) (by omega) ?_
  refine Tr.gen (P := fun v => 0 ≤ v ∧ v ≤ 6) (ir_8_0 hS.1.2.1) (fun r13 er13 br13 => ?_)
  refine Tr.istore_n (pc := 14) (i := 2) (ls2 := [(2, (0, r13)), (1, (0, r1)), (0, (2, 74))]) d_X6_finish_14 rfl (by decide) rfl ?_
  refine Tr.iconst (pc := 15) d_X6_finish_15 (by decide) ?_
  refine Tr.istore_n (pc := 16) (i := 3) (ls2 := [(3, (0, 0)), (2, (0, r13)), (1, (0, r1)), (0, (2, 74))]) d_X6_finish_16 rfl (by decide) rfl ?_
  have J17 : ∀ (n17 : Nat) (M : Mem) (p17_3 : Int), St ws_X6_finish_74 as_X6_finish_74 M0 M → (0 ≤ p17_3 ∧ p17_3 ≤ 6) → rd M 8 0 = r13 → (6 - p17_3).toNat < n17 → Tr l K 2 mX6_finish 17 [(0, (2, 74)), (1, (0, r1)), (2, (0, r13)), (3, (0, p17_3))] [] M (q_X6_finish_74 M0) := by
    intro n17
    induction n17 with
    | zero => intro M p17_3 hS bp17_3 k17_8_0 hm17; exact absurd hm17 (Nat.not_lt_zero _)
    | succ n17 J17 =>
      intro M p17_3 hS bp17_3 k17_8_0 hm17
      refine Tr.iload_n (pc := 17) (i := 3) d_X6_finish_17 rfl rfl ?_
      refine Tr.iload_n (pc := 18) (i := 2) d_X6_finish_18 rfl rfl ?_
      have J61 : ∀ (M : Mem), St ws_X6_finish_74 as_X6_finish_74 M0 M → rd M 8 0 = r13 → Tr l K 2 mX6_finish 61 [(0, (2, 74)), (1, (0, r1)), (2, (0, r13))] [] M (q_X6_finish_74 M0) := by
        intro M  hS  k61_8_0
        refine Tr.iconst (pc := 61) d_X6_finish_61 (by decide) ?_
        refine Tr.istore_n (pc := 62) (i := 3) (ls2 := [(3, (0, 0)), (0, (2, 74)), (1, (0, r1)), (2, (0, r13))]) d_X6_finish_62 rfl (by decide) rfl ?_
        have J63 : ∀ (n63 : Nat) (M : Mem) (p63_3 : Int), St ws_X6_finish_74 as_X6_finish_74 M0 M → (0 ≤ p63_3 ∧ p63_3 ≤ 6) → rd M 8 0 = r13 → (6 - p63_3).toNat < n63 → Tr l K 2 mX6_finish 63 [(0, (2, 74)), (1, (0, r1)), (2, (0, r13)), (3, (0, p63_3))] [] M (q_X6_finish_74 M0) := by
          intro n63
          induction n63 with
          | zero => intro M p63_3 hS bp63_3 k63_8_0 hm63; exact absurd hm63 (Nat.not_lt_zero _)
          | succ n63 J63 =>
            intro M p63_3 hS bp63_3 k63_8_0 hm63
            refine Tr.iload_n (pc := 63) (i := 3) d_X6_finish_63 rfl rfl ?_
            refine Tr.iload_n (pc := 64) (i := 2) d_X6_finish_64 rfl rfl ?_
            refine Tr.icmp_ge (pc := 65) (tgt := 129) d_X6_finish_65 rfl (fun c65 => ?_) (fun c65 => ?_)
            · refine Tr.aload_n (pc := 129) (i := 0) d_X6_finish_129 rfl rfl ?_
              refine Tr.iload_n (pc := 130) (i := 1) d_X6_finish_130 rfl rfl ?_
              refine Tr.aload_n (pc := 131) (i := 0) d_X6_finish_131 rfl rfl ?_
              refine Tr.getf (pc := 132) d_X6_finish_132 f_6_46 (by decide) (by decide) (ty_74 hS.1.1) ?_
              refine Tr.tp 7 ((St.kp hS (by decide) (by decide)).trans en_74_1) ?_
              refine Tr.getf (pc := 135) d_X6_finish_135 f_6_135 (by decide) (by decide) (ty_7 hS.1.1) ?_
              refine Tr.gen (P := fun v => (-1) ≤ v ∧ v ≤ 999) (ir_7_0 hS.1.2.1) (fun r135 er135 br135 => ?_)
              refine Tr.imul (pc := 138) d_X6_finish_138 ?_
              refine Tr.gen (P := fun v => (-2147483648) ≤ v ∧ v ≤ 2147483647) (w32_b _) (fun r138 er138 br138 => ?_)
              refine Tr.aload_n (pc := 139) (i := 0) d_X6_finish_139 rfl rfl ?_
              refine Tr.getf (pc := 140) d_X6_finish_140 f_6_38 (by decide) (by decide) (ty_74 hS.1.1) ?_
              refine Tr.tp 82 (fx_74_0 hS.1.1) ?_
              refine Tr.callV (pc := 143) (as := []) d_X6_finish_143 s_6_138 ok_X1_sippedByParts rfl rfl (Nat.le_of_ble_eq_true rfl) (Nat.le_of_ble_eq_true rfl) (by decide) (ty_82 hS.1.1) ?_
              refine Tr.imp (Tr.deep (by decide) (sp_X1_sippedByParts_82 hS.1 ((St.kp hS (by decide) (by decide)).trans en_82_1))) ?_
              rintro M143 _ ⟨h143, r143, rfl, lr143, ur143⟩
              have hS := St.tr hS h143 (by decide) (by decide)
              refine Tr.sc [(0, r143), (0, r138), (2, 74)] rfl ?_
              refine Tr.iadd (pc := 146) d_X6_finish_146 ?_
              refine Tr.gen (P := fun v => (-2147483648) ≤ v ∧ v ≤ 2147483647) (w32_b _) (fun r146 er146 br146 => ?_)
              refine Tr.putfS (pc := 147) (P := St ws_X6_finish_74 as_X6_finish_74 M0) d_X6_finish_147 f_6_142 (by decide) (by decide) (ty_74 hS.1.1) (st_74_10 hS (by decide) (by omega)) (fun hS => ?_)
              exact Tr.vret (pc := 150) d_X6_finish_150 rfl ⟨hS, rfl⟩
            · refine Tr.aload_n (pc := 68) (i := 0) d_X6_finish_68 rfl rfl ?_
              refine Tr.iload_n (pc := 69) (i := 3) d_X6_finish_69 rfl rfl ?_
              refine Tr.aload_n (pc := 70) (i := 0) d_X6_finish_70 rfl rfl ?_
              refine Tr.getf (pc := 71) d_X6_finish_71 f_6_68 (by decide) (by decide) (ty_74 hS.1.1) ?_
              refine Tr.gen (P := fun v => (-2147483648) ≤ v ∧ v ≤ 2147483647) (ir_74_9 hS.1.2.1) (fun r71 er71 br71 => ?_)
              refine Tr.callV (pc := 74) (as := [_, _]) d_X6_finish_74 s_6_125 ok_X6_settle rfl rfl (Nat.le_of_ble_eq_true rfl) (Nat.le_of_ble_eq_true rfl) (by decide) (ty_74 hS.1.1) ?_
              refine Tr.imp (Tr.deep (by decide) (sp_X6_settle_74 hS.1 p63_3 (by omega) r71 (by omega))) ?_
              rintro M74 _ ⟨h74, rfl⟩
              have hS := St.tr hS h74 (by decide) (by decide)
              refine Tr.sc [] rfl ?_
              refine Tr.aload_n (pc := 77) (i := 0) d_X6_finish_77 rfl rfl ?_
              refine Tr.getf (pc := 78) d_X6_finish_78 f_6_24 (by decide) (by decide) (ty_74 hS.1.1) ?_
              refine Tr.tp 79 (fx_74_6 hS.1.1) ?_
              refine Tr.iload_n (pc := 81) (i := 3) d_X6_finish_81 rfl rfl ?_
              refine Tr.iald (pc := 82) d_X6_finish_82 (ty_79 hS.1.1) (by omega) (by omega) ?_
              refine Tr.gen (P := fun v => (-2147483648) ≤ v ∧ v ≤ 2147483647) (ar_79 hS.1.2.1 _) (fun r82 er82 br82 => ?_)
              refine Tr.iconst (pc := 83) d_X6_finish_83 (by decide) ?_
              have J123 : ∀ (M : Mem), St ws_X6_finish_74 as_X6_finish_74 M0 M → rd M 74 9 = r71 → rd M 8 0 = r13 → Tr l K 2 mX6_finish 123 [(0, (2, 74)), (1, (0, r1)), (2, (0, r13)), (3, (0, p63_3))] [] M (q_X6_finish_74 M0) := by
                intro M  hS  k123_74_9 k123_8_0
                refine Tr.iincV (pc := 123) (n2 := (p63_3 + 1)) (ls2 := [(3, (0, (p63_3 + 1))), (0, (2, 74)), (1, (0, r1)), (2, (0, r13))]) d_X6_finish_123 rfl (by decide) ((w32_id (by omega)).trans (by omega)) rfl ?_
                refine Tr.goto (pc := 126) (tgt := 63) d_X6_finish_126 rfl ?_
                refine Tr.pick [1, 2, 3, 0] (ls2 := [(0, (2, 74)), (1, (0, r1)), (2, (0, r13)), (3, (0, (p63_3 + 1)))]) rfl ?_
                exact J63 _ _ hS (by omega) k123_8_0 (by omega)
              refine Tr.icmp_ne (pc := 84) (tgt := 102) d_X6_finish_84 rfl (fun c84 => ?_) (fun c84 => ?_)
              · refine Tr.aload_n (pc := 102) (i := 0) d_X6_finish_102 rfl rfl ?_
                refine Tr.getf (pc := 103) d_X6_finish_103 f_6_27 (by decide) (by decide) (ty_74 hS.1.1) ?_
                refine Tr.tp 80 (fx_74_7 hS.1.1) ?_
                refine Tr.iload_n (pc := 106) (i := 3) d_X6_finish_106 rfl rfl ?_
                refine Tr.iald (pc := 107) d_X6_finish_107 (ty_80 hS.1.1) (by omega) (by omega) ?_
                refine Tr.gen (P := fun v => (-2147483648) ≤ v ∧ v ≤ 2147483647) (ar_80 hS.1.2.1 _) (fun r107 er107 br107 => ?_)
                refine Tr.aload_n (pc := 108) (i := 0) d_X6_finish_108 rfl rfl ?_
                refine Tr.getf (pc := 109) d_X6_finish_109 f_6_68 (by decide) (by decide) (ty_74 hS.1.1) ?_
                refine Tr.tp r71 ((St.kp h74 (by decide) (by decide)).trans er71) ?_
                refine Tr.icmp_gt (pc := 112) (tgt := 123) d_X6_finish_112 rfl (fun c112 => ?_) (fun c112 => ?_)
                · refine Tr.pick [0, 1, 2, 3] (ls2 := [(0, (2, 74)), (1, (0, r1)), (2, (0, r13)), (3, (0, p63_3))]) rfl ?_
                  exact J123 _ hS ((St.kp h74 (by decide) (by decide)).trans er71) ((St.kp h74 (by decide) (by decide)).trans k63_8_0)
                · refine Tr.aload_n (pc := 115) (i := 0) d_X6_finish_115 rfl rfl ?_
                  refine Tr.getf (pc := 116) d_X6_finish_116 f_6_38 (by decide) (by decide) (ty_74 hS.1.1) ?_
                  refine Tr.tp 82 (fx_74_0 hS.1.1) ?_
                  refine Tr.iload_n (pc := 119) (i := 3) d_X6_finish_119 rfl rfl ?_
                  refine Tr.callV (pc := 120) (as := [_]) d_X6_finish_120 s_6_131 ok_X1_fallAsleep rfl rfl (Nat.le_of_ble_eq_true rfl) (Nat.le_of_ble_eq_true rfl) (by decide) (ty_82 hS.1.1) ?_
                  refine Tr.imp (Tr.deep (by decide) (sp_X1_fallAsleep_82_w4 hS.1 p63_3 (by omega))) ?_
                  rintro M120 _ ⟨h120, rfl⟩
                  have hS := St.tr hS h120 (by decide) (by decide)
                  refine Tr.sc [] rfl ?_
                  refine Tr.pick [0, 1, 2, 3] (ls2 := [(0, (2, 74)), (1, (0, r1)), (2, (0, r13)), (3, (0, p63_3))]) rfl ?_
                  exact J123 _ hS ((St.kp h120 (by decide) (by decide)).trans ((St.kp h74 (by decide) (by decide)).trans er71)) ((St.kp h120 (by decide) (by decide)).trans ((St.kp h74 (by decide) (by decide)).trans k63_8_0))
              · refine Tr.aload_n (pc := 87) (i := 0) d_X6_finish_87 rfl rfl ?_
                refine Tr.getf (pc := 88) d_X6_finish_88 f_6_38 (by decide) (by decide) (ty_74 hS.1.1) ?_
                refine Tr.tp 82 (fx_74_0 hS.1.1) ?_
                refine Tr.iload_n (pc := 91) (i := 3) d_X6_finish_91 rfl rfl ?_
                refine Tr.aload_n (pc := 92) (i := 0) d_X6_finish_92 rfl rfl ?_
                refine Tr.getf (pc := 93) d_X6_finish_93 f_6_68 (by decide) (by decide) (ty_74 hS.1.1) ?_
                refine Tr.tp r71 ((St.kp h74 (by decide) (by decide)).trans er71) ?_
                refine Tr.callV (pc := 96) (as := [_, _]) d_X6_finish_96 s_6_128 ok_X1_letGo rfl rfl (Nat.le_of_ble_eq_true rfl) (Nat.le_of_ble_eq_true rfl) (by decide) (ty_82 hS.1.1) ?_
                refine Tr.imp (Tr.deep (by decide) (sp_X1_letGo_82 hS.1 p63_3 (by omega) r71 (by omega))) ?_
                rintro M96 _ ⟨h96, rfl⟩
                have hS := St.tr hS h96 (by decide) (by decide)
                refine Tr.sc [] rfl ?_
                refine Tr.goto (pc := 99) (tgt := 123) d_X6_finish_99 rfl ?_
                refine Tr.pick [0, 1, 2, 3] (ls2 := [(0, (2, 74)), (1, (0, r1)), (2, (0, r13)), (3, (0, p63_3))]) rfl ?_
                exact J123 _ hS ((St.kp h96 (by decide) (by decide)).trans ((St.kp h74 (by decide) (by decide)).trans er71)) ((St.kp h96 (by decide) (by decide)).trans ((St.kp h74 (by decide) (by decide)).trans k63_8_0))
        refine Tr.pick [1, 2, 3, 0] (ls2 := [(0, (2, 74)), (1, (0, r1)), (2, (0, r13)), (3, (0, 0))]) rfl ?_
        exact J63 _ _ _ hS (by omega) k61_8_0 (Nat.lt_succ_self _)
      refine Tr.icmp_ge (pc := 19) (tgt := 61) d_X6_finish_19 rfl (fun c19 => ?_) (fun c19 => ?_)
      · refine Tr.pick [0, 1, 2] (ls2 := [(0, (2, 74)), (1, (0, r1)), (2, (0, r13))]) rfl ?_
        exact J61 _ hS k17_8_0
      · refine Tr.aload_n (pc := 22) (i := 0) d_X6_finish_22 rfl rfl ?_
        refine Tr.getf (pc := 23) d_X6_finish_23 f_6_62 (by decide) (by decide) (ty_74 hS.1.1) ?_
        refine Tr.gen (P := fun v => (-2147483648) ≤ v ∧ v ≤ 2147483647) (ir_74_14 hS.1.2.1) (fun r23 er23 br23 => ?_)
        refine Tr.if_ne (pc := 26) (tgt := 61) d_X6_finish_26 rfl (fun c26 => ?_) (fun c26 => ?_)
        · refine Tr.pick [0, 1, 2] (ls2 := [(0, (2, 74)), (1, (0, r1)), (2, (0, r13))]) rfl ?_
          exact J61 _ hS k17_8_0
        · refine Tr.aload_n (pc := 29) (i := 0) d_X6_finish_29 rfl rfl ?_
          refine Tr.getf (pc := 30) d_X6_finish_30 f_6_24 (by decide) (by decide) (ty_74 hS.1.1) ?_
          refine Tr.tp 79 (fx_74_6 hS.1.1) ?_
          refine Tr.iload_n (pc := 33) (i := 3) d_X6_finish_33 rfl rfl ?_
          refine Tr.iald (pc := 34) d_X6_finish_34 (ty_79 hS.1.1) (by omega) (by omega) ?_
          refine Tr.gen (P := fun v => (-2147483648) ≤ v ∧ v ≤ 2147483647) (ar_79 hS.1.2.1 _) (fun r34 er34 br34 => ?_)
          have J55 : ∀ (M : Mem), St ws_X6_finish_74 as_X6_finish_74 M0 M → rd M 74 14 = r23 → rd M 8 0 = r13 → Tr l K 2 mX6_finish 55 [(0, (2, 74)), (1, (0, r1)), (2, (0, r13)), (3, (0, p17_3))] [] M (q_X6_finish_74 M0) := by
            intro M  hS  k55_74_14 k55_8_0
            refine Tr.iincV (pc := 55) (n2 := (p17_3 + 1)) (ls2 := [(3, (0, (p17_3 + 1))), (0, (2, 74)), (1, (0, r1)), (2, (0, r13))]) d_X6_finish_55 rfl (by decide) ((w32_id (by omega)).trans (by omega)) rfl ?_
            refine Tr.goto (pc := 58) (tgt := 17) d_X6_finish_58 rfl ?_
            refine Tr.pick [1, 2, 3, 0] (ls2 := [(0, (2, 74)), (1, (0, r1)), (2, (0, r13)), (3, (0, (p17_3 + 1)))]) rfl ?_
            exact J17 _ _ hS (by omega) k55_8_0 (by omega)
          refine Tr.if_ne (pc := 35) (tgt := 55) d_X6_finish_35 rfl (fun c35 => ?_) (fun c35 => ?_)
          · refine Tr.pick [0, 1, 2, 3] (ls2 := [(0, (2, 74)), (1, (0, r1)), (2, (0, r13)), (3, (0, p17_3))]) rfl ?_
            exact J55 _ hS er23 k17_8_0
          · refine Tr.aload_n (pc := 38) (i := 0) d_X6_finish_38 rfl rfl ?_
            refine Tr.aload_n (pc := 39) (i := 0) d_X6_finish_39 rfl rfl ?_
            refine Tr.getf (pc := 40) d_X6_finish_40 f_6_68 (by decide) (by decide) (ty_74 hS.1.1) ?_
            refine Tr.gen (P := fun v => (-2147483648) ≤ v ∧ v ≤ 2147483647) (ir_74_9 hS.1.2.1) (fun r40 er40 br40 => ?_)
            refine Tr.aload_n (pc := 43) (i := 0) d_X6_finish_43 rfl rfl ?_
            refine Tr.getf (pc := 44) d_X6_finish_44 f_6_27 (by decide) (by decide) (ty_74 hS.1.1) ?_
            refine Tr.tp 80 (fx_74_7 hS.1.1) ?_
            refine Tr.iload_n (pc := 47) (i := 3) d_X6_finish_47 rfl rfl ?_
            refine Tr.iald (pc := 48) d_X6_finish_48 (ty_80 hS.1.1) (by omega) (by omega) ?_
            refine Tr.gen (P := fun v => (-2147483648) ≤ v ∧ v ≤ 2147483647) (ar_80 hS.1.2.1 _) (fun r48 er48 br48 => ?_)
            refine Tr.mmax (pc := 49) d_X6_finish_49 ml_6_119 mw_mmax (Nat.le_of_ble_eq_true rfl) ?_
            refine Tr.gen (P := fun v => (v = r40 ∧ r48 ≤ r40) ∨ (v = r48 ∧ r40 ≤ r48)) (f_max_p _ _) (fun r49 er49 br49 => ?_)
            refine Tr.putfS (pc := 52) (P := St ws_X6_finish_74 as_X6_finish_74 M0) d_X6_finish_52 f_6_68 (by decide) (by decide) (ty_74 hS.1.1) (st_74_9 hS (by decide) (by omega)) (fun hS => ?_)
            refine Tr.pick [0, 1, 2, 3] (ls2 := [(0, (2, 74)), (1, (0, r1)), (2, (0, r13)), (3, (0, p17_3))]) rfl ?_
            exact J55 _ hS ((rd_wb _ rfl).trans er23) ((rd_wb _ rfl).trans k17_8_0)
  refine Tr.pick [3, 2, 1, 0] (ls2 := [(0, (2, 74)), (1, (0, r1)), (2, (0, r13)), (3, (0, 0))]) rfl ?_
  exact J17 _ _ _ hS (by omega) er13 (Nat.lt_succ_self _)

def ws_X1_act_82_w1 : List (Int × Int) := []
def as_X1_act_82_w1 : List Int := []
def q_X1_act_82_w1 (M0 M' : Mem) (r : Option PV) : Prop := St ws_X1_act_82_w1 as_X1_act_82_w1 M0 M' ∧ r = none
set_option maxRecDepth 100000 in
set_option maxHeartbeats 4000000 in
theorem sp_X1_act_82_w1 {l : Launch} {K : EC} {M0 : Mem} (hI : In M0)  (a1 : Int) (ha1 : 0 ≤ a1 ∧ a1 ≤ 5) (a2 : Int) (ha2 : (-2147483648) ≤ a2 ∧ a2 ≤ 59)  : Tr l K 0 mX1_act 0 [(0, (2, 82)), (1, (0, a1)), (2, (0, a2))] [] M0 (q_X1_act_82_w1 M0) := by
  have hS : St ws_X1_act_82_w1 as_X1_act_82_w1 M0 M0 := St.rf hI
  refine Tr.aload_n (pc := 0) (i := 0) d_X1_act_0 rfl rfl ?_
  refine Tr.getz (pc := 1) d_X1_act_1 f_1_37 (by decide) (ty_82 hS.1.1) ?_
  refine Tr.tp 0 (fx_82_0 hS.1.1) ?_
  refine Tr.if_ne (pc := 4) (tgt := 8) d_X1_act_4 rfl (fun hc => absurd (by omega) hc) (fun _ => ?_)
  exact Tr.vret (pc := 7) d_X1_act_7 rfl ⟨hS, rfl⟩

def ws_X6_free_74_w1 : List (Int × Int) := []
def as_X6_free_74_w1 : List Int := [79, 80, 81, 83]
def q_X6_free_74_w1 (M0 M' : Mem) (r : Option PV) : Prop := St ws_X6_free_74_w1 as_X6_free_74_w1 M0 M' ∧ r = none
set_option maxRecDepth 100000 in
set_option maxHeartbeats 4000000 in
theorem sp_X6_free_74_w1 {l : Launch} {K : EC} {M0 : Mem} (hI : In M0) (en_74_1 : rd M0 74 1 = 7) (a1 : Int) (ha1 : (-2147483648) ≤ a1 ∧ a1 ≤ 59) (a2 : Int) (ha2 : 0 ≤ a2 ∧ a2 ≤ 5)  : Tr l K 2 mX6_free 0 [(0, (2, 74)), (1, (0, a1)), (2, (0, a2))] [] M0 (q_X6_free_74_w1 M0) := by
  have hS : St ws_X6_free_74_w1 as_X6_free_74_w1 M0 M0 := St.rf hI
  refine Tr.aload_n (pc := 0) (i := 0) d_X6_free_0 rfl rfl ?_
  refine Tr.getf (pc := 1) d_X6_free_1 f_6_24 (by decide) (by decide) (ty_74 hS.1.1) ?_
  refine Tr.tp 79 (fx_74_6 hS.1.1) ?_
  refine Tr.iload_n (pc := 4) (i := 2) d_X6_free_4 rfl rfl ?_
  refine Tr.iald (pc := 5) d_X6_free_5 (ty_79 hS.1.1) (by omega) (by omega) ?_
  refine Tr.gen (P := fun v => (-2147483648) ≤ v ∧ v ≤ 2147483647) (ar_79 hS.1.2.1 _) (fun r5 er5 br5 => ?_)
  refine Tr.if_ne (pc := 6) (tgt := 10) d_X6_free_6 rfl (fun c6 => ?_) (fun c6 => ?_)
  · refine Tr.aload_n (pc := 10) (i := 0) d_X6_free_10 rfl rfl ?_
    refine Tr.iload_n (pc := 11) (i := 2) d_X6_free_11 rfl rfl ?_
    refine Tr.aload_n (pc := 12) (i := 0) d_X6_free_12 rfl rfl ?_
    refine Tr.getf (pc := 13) d_X6_free_13 f_6_68 (by decide) (by decide) (ty_74 hS.1.1) ?_
    refine Tr.gen (P := fun v => (-2147483648) ≤ v ∧ v ≤ 2147483647) (ir_74_9 hS.1.2.1) (fun r13 er13 br13 => ?_)
    refine Tr.callV (pc := 16) (as := [_, _]) d_X6_free_16 s_6_125 ok_X6_settle rfl rfl (Nat.le_of_ble_eq_true rfl) (Nat.le_of_ble_eq_true rfl) (by decide) (ty_74 hS.1.1) ?_
    refine Tr.imp (Tr.deep (by decide) (sp_X6_settle_74 hS.1 a2 (by omega) r13 (by omega))) ?_
    rintro M16 _ ⟨h16, rfl⟩
    have hS := St.tr hS h16 (by decide) (by decide)
    refine Tr.sc [] rfl ?_
    refine Tr.aload_n (pc := 19) (i := 0) d_X6_free_19 rfl rfl ?_
    refine Tr.getf (pc := 20) d_X6_free_20 f_6_38 (by decide) (by decide) (ty_74 hS.1.1) ?_
    refine Tr.tp 82 (fx_74_0 hS.1.1) ?_
    refine Tr.iload_n (pc := 23) (i := 2) d_X6_free_23 rfl rfl ?_
    refine Tr.aload_n (pc := 24) (i := 0) d_X6_free_24 rfl rfl ?_
    refine Tr.getf (pc := 25) d_X6_free_25 f_6_68 (by decide) (by decide) (ty_74 hS.1.1) ?_
    refine Tr.tp r13 ((St.kp h16 (by decide) (by decide)).trans er13) ?_
    refine Tr.callV (pc := 28) (as := [_, _]) d_X6_free_28 s_6_128 ok_X1_letGo rfl rfl (Nat.le_of_ble_eq_true rfl) (Nat.le_of_ble_eq_true rfl) (by decide) (ty_82 hS.1.1) ?_
    refine Tr.imp (Tr.deep (by decide) (sp_X1_letGo_82 hS.1 a2 (by omega) r13 (by omega))) ?_
    rintro M28 _ ⟨h28, rfl⟩
    have hS := St.tr hS h28 (by decide) (by decide)
    refine Tr.sc [] rfl ?_
    refine Tr.aload_n (pc := 31) (i := 0) d_X6_free_31 rfl rfl ?_
    refine Tr.getf (pc := 32) d_X6_free_32 f_6_38 (by decide) (by decide) (ty_74 hS.1.1) ?_
    refine Tr.tp 82 (fx_74_0 hS.1.1) ?_
    refine Tr.iload_n (pc := 35) (i := 2) d_X6_free_35 rfl rfl ?_
    refine Tr.iload_n (pc := 36) (i := 1) d_X6_free_36 rfl rfl ?_
    refine Tr.callV (pc := 37) (as := [_, _]) d_X6_free_37 s_6_214 ok_X1_act rfl rfl (Nat.le_of_ble_eq_true rfl) (Nat.le_of_ble_eq_true rfl) (by decide) (ty_82 hS.1.1) ?_
    refine Tr.imp (Tr.deep (by decide) (sp_X1_act_82_w1 hS.1 a2 (by omega) a1 (by omega))) ?_
    rintro M37 _ ⟨h37, rfl⟩
    have hS := St.tr hS h37 (by decide) (by decide)
    refine Tr.sc [] rfl ?_
    refine Tr.aload_n (pc := 40) (i := 0) d_X6_free_40 rfl rfl ?_
    refine Tr.getf (pc := 41) d_X6_free_41 f_6_24 (by decide) (by decide) (ty_74 hS.1.1) ?_
    refine Tr.tp 79 (fx_74_6 hS.1.1) ?_
    refine Tr.iload_n (pc := 44) (i := 2) d_X6_free_44 rfl rfl ?_
    refine Tr.iconst (pc := 45) d_X6_free_45 (by decide) ?_
    refine Tr.iastS (pc := 46) (P := St ws_X6_free_74_w1 as_X6_free_74_w1 M0) d_X6_free_46 (ty_79 hS.1.1) (by omega) (by omega) (sa_79 hS (by decide) (by omega)) (fun hS => ?_)
    refine Tr.aload_n (pc := 47) (i := 0) d_X6_free_47 rfl rfl ?_
    refine Tr.getf (pc := 48) d_X6_free_48 f_6_27 (by decide) (by decide) (ty_74 hS.1.1) ?_
    refine Tr.tp 80 (fx_74_7 hS.1.1) ?_
    refine Tr.iload_n (pc := 51) (i := 2) d_X6_free_51 rfl rfl ?_
    refine Tr.aload_n (pc := 52) (i := 0) d_X6_free_52 rfl rfl ?_
    refine Tr.getf (pc := 53) d_X6_free_53 f_6_68 (by decide) (by decide) (ty_74 hS.1.1) ?_
    refine Tr.tp r13 ((rd_wb _ rfl).trans ((St.kp h37 (by decide) (by decide)).trans ((St.kp h28 (by decide) (by decide)).trans ((St.kp h16 (by decide) (by decide)).trans er13)))) ?_
    refine Tr.aload_n (pc := 56) (i := 0) d_X6_free_56 rfl rfl ?_
    refine Tr.getf (pc := 57) d_X6_free_57 f_6_46 (by decide) (by decide) (ty_74 hS.1.1) ?_
    refine Tr.tp 7 ((St.kp hS (by decide) (by decide)).trans en_74_1) ?_
    refine Tr.getf (pc := 60) d_X6_free_60 f_6_208 (by decide) (by decide) (ty_7 hS.1.1) ?_
    refine Tr.tp 11 (fx_7_7 hS.1.1) ?_
    refine Tr.iload_n (pc := 63) (i := 2) d_X6_free_63 rfl rfl ?_
    refine Tr.iald (pc := 64) d_X6_free_64 (ty_11 hS.1.1) (by omega) (by omega) ?_
    refine Tr.gen (P := fun v => 0 ≤ v ∧ v ≤ 50) (ar_11 hS.1.2.1 _) (fun r64 er64 br64 => ?_)
    refine Tr.iadd (pc := 65) d_X6_free_65 ?_
    refine Tr.gen (P := fun v => (-2147483648) ≤ v ∧ v ≤ 2147483647) (w32_b _) (fun r65 er65 br65 => ?_)
    refine Tr.iastS (pc := 66) (P := St ws_X6_free_74_w1 as_X6_free_74_w1 M0) d_X6_free_66 (ty_80 hS.1.1) (by omega) (by omega) (sa_80 hS (by decide) (by omega)) (fun hS => ?_)
    exact Tr.vret (pc := 67) d_X6_free_67 rfl ⟨hS, rfl⟩
  · exact Tr.vret (pc := 9) d_X6_free_9 rfl ⟨hS, rfl⟩

def ws_X6_bookBusy_74_w1 : List (Int × Int) := []
def as_X6_bookBusy_74_w1 : List Int := [81, 83]
def q_X6_bookBusy_74_w1 (M0 M' : Mem) (r : Option PV) : Prop := St ws_X6_bookBusy_74_w1 as_X6_bookBusy_74_w1 M0 M' ∧ r = none
set_option maxRecDepth 100000 in
set_option maxHeartbeats 4000000 in
theorem sp_X6_bookBusy_74_w1 {l : Launch} {K : EC} {M0 : Mem} (hI : In M0)  (a1 : Int) (ha1 : (-2147483648) ≤ a1 ∧ a1 ≤ 59) (a2 : Int) (ha2 : 0 ≤ a2 ∧ a2 ≤ 5) (a3 : Int) (ha3 : (-2147483648) ≤ a3 ∧ a3 ≤ 2147483647) (a4 : Int) (ha4 : (-2147483648) ≤ a4 ∧ a4 ≤ 2147483647)  : Tr l K 1 mX6_bookBusy 0 [(0, (2, 74)), (1, (0, a1)), (2, (0, a2)), (3, (0, a3)), (4, (0, a4))] [] M0 (q_X6_bookBusy_74_w1 M0) := by
  have hS : St ws_X6_bookBusy_74_w1 as_X6_bookBusy_74_w1 M0 M0 := St.rf hI
  refine Tr.aload_n (pc := 0) (i := 0) d_X6_bookBusy_0 rfl rfl ?_
  refine Tr.getf (pc := 1) d_X6_bookBusy_1 f_6_38 (by decide) (by decide) (ty_74 hS.1.1) ?_
  refine Tr.tp 82 (fx_74_0 hS.1.1) ?_
  refine Tr.iload_n (pc := 4) (i := 2) d_X6_bookBusy_4 rfl rfl ?_
  refine Tr.iload_n (pc := 5) (i := 1) d_X6_bookBusy_5 rfl rfl ?_
  refine Tr.callV (pc := 6) (as := [_, _]) d_X6_bookBusy_6 s_6_214 ok_X1_act rfl rfl (Nat.le_of_ble_eq_true rfl) (Nat.le_of_ble_eq_true rfl) (by decide) (ty_82 hS.1.1) ?_
  refine Tr.imp (Tr.deep (by decide) (sp_X1_act_82_w1 hS.1 a2 (by omega) a1 (by omega))) ?_
  rintro M6 _ ⟨h6, rfl⟩
  have hS := St.tr hS h6 (by decide) (by decide)
  refine Tr.sc [] rfl ?_
  refine Tr.aload_n (pc := 9) (i := 0) d_X6_bookBusy_9 rfl rfl ?_
  refine Tr.getf (pc := 10) d_X6_bookBusy_10 f_6_38 (by decide) (by decide) (ty_74 hS.1.1) ?_
  refine Tr.tp 82 (fx_74_0 hS.1.1) ?_
  refine Tr.iload_n (pc := 13) (i := 2) d_X6_bookBusy_13 rfl rfl ?_
  refine Tr.iconst (pc := 14) d_X6_bookBusy_14 (by decide) ?_
  refine Tr.iload_n (pc := 15) (i := 3) d_X6_bookBusy_15 rfl rfl ?_
  refine Tr.iload (pc := 16) (i := 4) d_X6_bookBusy_16 rfl ?_
  refine Tr.callV (pc := 18) (as := [_, _, _, _]) d_X6_bookBusy_18 s_6_192 ok_X1_note rfl rfl (Nat.le_of_ble_eq_true rfl) (Nat.le_of_ble_eq_true rfl) (by decide) (ty_82 hS.1.1) ?_
  refine Tr.imp (Tr.deep (by decide) (sp_X1_note_82_w2 hS.1 a2 (by omega) 1 (by omega) a3 (by omega) a4 (by omega))) ?_
  rintro M18 _ ⟨h18, rfl⟩
  have hS := St.tr hS h18 (by decide) (by decide)
  refine Tr.sc [] rfl ?_
  refine Tr.aload_n (pc := 21) (i := 0) d_X6_bookBusy_21 rfl rfl ?_
  refine Tr.getf (pc := 22) d_X6_bookBusy_22 f_6_38 (by decide) (by decide) (ty_74 hS.1.1) ?_
  refine Tr.tp 82 (fx_74_0 hS.1.1) ?_
  refine Tr.iload_n (pc := 25) (i := 2) d_X6_bookBusy_25 rfl rfl ?_
  refine Tr.iconst (pc := 26) d_X6_bookBusy_26 (by decide) ?_
  refine Tr.iload (pc := 27) (i := 4) d_X6_bookBusy_27 rfl ?_
  refine Tr.aload_n (pc := 29) (i := 0) d_X6_bookBusy_29 rfl rfl ?_
  refine Tr.getf (pc := 30) d_X6_bookBusy_30 f_6_68 (by decide) (by decide) (ty_74 hS.1.1) ?_
  refine Tr.gen (P := fun v => (-2147483648) ≤ v ∧ v ≤ 2147483647) (ir_74_9 hS.1.2.1) (fun r30 er30 br30 => ?_)
  refine Tr.callV (pc := 33) (as := [_, _, _, _]) d_X6_bookBusy_33 s_6_192 ok_X1_note rfl rfl (Nat.le_of_ble_eq_true rfl) (Nat.le_of_ble_eq_true rfl) (by decide) (ty_82 hS.1.1) ?_
  refine Tr.imp (Tr.deep (by decide) (sp_X1_note_82_w3 hS.1 a2 (by omega) 3 (by omega) a4 (by omega) r30 (by omega))) ?_
  rintro M33 _ ⟨h33, rfl⟩
  have hS := St.tr hS h33 (by decide) (by decide)
  refine Tr.sc [] rfl ?_
  refine Tr.aload_n (pc := 36) (i := 0) d_X6_bookBusy_36 rfl rfl ?_
  refine Tr.getf (pc := 37) d_X6_bookBusy_37 f_6_30 (by decide) (by decide) (ty_74 hS.1.1) ?_
  refine Tr.tp 81 (fx_74_8 hS.1.1) ?_
  refine Tr.iload_n (pc := 40) (i := 2) d_X6_bookBusy_40 rfl rfl ?_
  refine Tr.aload_n (pc := 41) (i := 0) d_X6_bookBusy_41 rfl rfl ?_
  refine Tr.getf (pc := 42) d_X6_bookBusy_42 f_6_68 (by decide) (by decide) (ty_74 hS.1.1) ?_
  refine Tr.tp r30 ((St.kp h33 (by decide) (by decide)).trans er30) ?_
  refine Tr.iastS (pc := 45) (P := St ws_X6_bookBusy_74_w1 as_X6_bookBusy_74_w1 M0) d_X6_bookBusy_45 (ty_81 hS.1.1) (by omega) (by omega) (sa_81 hS (by decide) (by omega)) (fun hS => ?_)
  exact Tr.vret (pc := 46) d_X6_bookBusy_46 rfl ⟨hS, rfl⟩

def ws_X1_holdFor_82_w1 : List (Int × Int) := []
def as_X1_holdFor_82_w1 : List Int := []
def q_X1_holdFor_82_w1 (M0 M' : Mem) (r : Option PV) : Prop := St ws_X1_holdFor_82_w1 as_X1_holdFor_82_w1 M0 M' ∧ r = none
set_option maxRecDepth 100000 in
set_option maxHeartbeats 4000000 in
theorem sp_X1_holdFor_82_w1 {l : Launch} {K : EC} {M0 : Mem} (hI : In M0)  (a1 : Int) (ha1 : 0 ≤ a1 ∧ a1 ≤ 5) (a2 : Int) (ha2 : (-2147483648) ≤ a2 ∧ a2 ≤ 59) (a3 : Int) (ha3 : (-2147483648) ≤ a3 ∧ a3 ≤ 2147483647)  : Tr l K 0 mX1_holdFor 0 [(0, (2, 82)), (1, (0, a1)), (2, (0, a2)), (3, (0, a3))] [] M0 (q_X1_holdFor_82_w1 M0) := by
  have hS : St ws_X1_holdFor_82_w1 as_X1_holdFor_82_w1 M0 M0 := St.rf hI
  refine Tr.aload_n (pc := 0) (i := 0) d_X1_holdFor_0 rfl rfl ?_
  refine Tr.getz (pc := 1) d_X1_holdFor_1 f_1_37 (by decide) (ty_82 hS.1.1) ?_
  refine Tr.tp 0 (fx_82_0 hS.1.1) ?_
  refine Tr.if_eq (pc := 4) (tgt := 24) d_X1_holdFor_4 rfl (fun _ => ?_) (fun hc => absurd (by omega) hc)
  exact Tr.vret (pc := 24) d_X1_holdFor_24 rfl ⟨hS, rfl⟩

def ws_X6_hold_74_w1 : List (Int × Int) := [(74, 9), (74, 14), (74, 17)]
def as_X6_hold_74_w1 : List Int := [79, 80, 81, 83]
def q_X6_hold_74_w1 (M0 M' : Mem) (r : Option PV) : Prop := St ws_X6_hold_74_w1 as_X6_hold_74_w1 M0 M' ∧ r = none
set_option maxRecDepth 100000 in
set_option maxHeartbeats 4000000 in
theorem sp_X6_hold_74_w1 {l : Launch} {K : EC} {M0 : Mem} (hI : In M0) (en_74_1 : rd M0 74 1 = 7) (a1 : Int) (ha1 : (-2147483648) ≤ a1 ∧ a1 ≤ 59) (a2 : Int) (ha2 : 0 ≤ a2 ∧ a2 ≤ 5)  : Tr l K 3 mX6_hold 0 [(0, (2, 74)), (1, (0, a1)), (2, (0, a2))] [] M0 (q_X6_hold_74_w1 M0) := by
  have hS : St ws_X6_hold_74_w1 as_X6_hold_74_w1 M0 M0 := St.rf hI
  refine Tr.aload_n (pc := 0) (i := 0) d_X6_hold_0 rfl rfl ?_
  refine Tr.getf (pc := 1) d_X6_hold_1 f_6_24 (by decide) (by decide) (ty_74 hS.1.1) ?_
  refine Tr.tp 79 (fx_74_6 hS.1.1) ?_
  refine Tr.iload_n (pc := 4) (i := 2) d_X6_hold_4 rfl rfl ?_
  refine Tr.iald (pc := 5) d_X6_hold_5 (ty_79 hS.1.1) (by omega) (by omega) ?_
  refine Tr.gen (P := fun v => (-2147483648) ≤ v ∧ v ≤ 2147483647) (ar_79 hS.1.2.1 _) (fun r5 er5 br5 => ?_)
  refine Tr.iconst (pc := 6) d_X6_hold_6 (by decide) ?_
  refine Tr.icmp_ne (pc := 7) (tgt := 11) d_X6_hold_7 rfl (fun c7 => ?_) (fun c7 => ?_)
  · refine Tr.aload_n (pc := 11) (i := 0) d_X6_hold_11 rfl rfl ?_
    refine Tr.getf (pc := 12) d_X6_hold_12 f_6_68 (by decide) (by decide) (ty_74 hS.1.1) ?_
    refine Tr.gen (P := fun v => (-2147483648) ≤ v ∧ v ≤ 2147483647) (ir_74_9 hS.1.2.1) (fun r12 er12 br12 => ?_)
    refine Tr.istore_n (pc := 15) (i := 3) (ls2 := [(3, (0, r12)), (0, (2, 74)), (1, (0, a1)), (2, (0, a2))]) d_X6_hold_15 rfl (by decide) rfl ?_
    refine Tr.aload_n (pc := 16) (i := 0) d_X6_hold_16 rfl rfl ?_
    refine Tr.aload_n (pc := 17) (i := 0) d_X6_hold_17 rfl rfl ?_
    refine Tr.iload_n (pc := 18) (i := 2) d_X6_hold_18 rfl rfl ?_
    refine Tr.callV (pc := 19) (as := [_]) d_X6_hold_19 s_6_199 ok_X6_wakeOf rfl rfl (Nat.le_of_ble_eq_true rfl) (Nat.le_of_ble_eq_true rfl) (by decide) (ty_74 hS.1.1) ?_
    refine Tr.imp (Tr.deep (by decide) (sp_X6_wakeOf_74 hS.1 ((St.kp hS (by decide) (by decide)).trans en_74_1) a2 (by omega))) ?_
    rintro M19 _ ⟨h19, r19, rfl, lr19, ur19⟩
    have hS := St.tr hS h19 (by decide) (by decide)
    refine Tr.sc [(0, r19), (2, 74)] rfl ?_
    refine Tr.iload_n (pc := 22) (i := 2) d_X6_hold_22 rfl rfl ?_
    refine Tr.iconst (pc := 23) d_X6_hold_23 (by decide) ?_
    refine Tr.callV (pc := 24) (as := [_, _, _]) d_X6_hold_24 s_6_145 ok_X6_pass rfl rfl (Nat.le_of_ble_eq_true rfl) (Nat.le_of_ble_eq_true rfl) (by decide) (ty_74 hS.1.1) ?_
    refine Tr.imp (Tr.deep (by decide) (sp_X6_pass_74_w3 hS.1 ((St.kp hS (by decide) (by decide)).trans en_74_1) r19 (by omega) a2 (by omega) 1 (by omega))) ?_
    rintro M24 _ ⟨h24, r24, rfl, lr24, ur24⟩
    have hS := St.tr hS h24 (by decide) (by decide)
    refine Tr.sc [(0, r24)] rfl ?_
    refine Tr.pop (pc := 27) d_X6_hold_27 ne01 ?_
    refine Tr.aload_n (pc := 28) (i := 0) d_X6_hold_28 rfl rfl ?_
    refine Tr.getf (pc := 29) d_X6_hold_29 f_6_62 (by decide) (by decide) (ty_74 hS.1.1) ?_
    refine Tr.gen (P := fun v => (-2147483648) ≤ v ∧ v ≤ 2147483647) (ir_74_14 hS.1.2.1) (fun r29 er29 br29 => ?_)
    have J44 : ∀ (M : Mem), St ws_X6_hold_74_w1 as_X6_hold_74_w1 M0 M → rd M 74 14 = r29 → rd M 79 a2 = r5 → Tr l K 3 mX6_hold 44 [(0, (2, 74)), (1, (0, a1)), (2, (0, a2)), (3, (0, r12))] [] M (q_X6_hold_74_w1 M0) := by
      intro M  hS  k44_74_14 k44_79_a210
      refine Tr.aload_n (pc := 44) (i := 0) d_X6_hold_44 rfl rfl ?_
      refine Tr.iload_n (pc := 45) (i := 2) d_X6_hold_45 rfl rfl ?_
      refine Tr.iload_n (pc := 46) (i := 3) d_X6_hold_46 rfl rfl ?_
      refine Tr.callV (pc := 47) (as := [_, _]) d_X6_hold_47 s_6_125 ok_X6_settle rfl rfl (Nat.le_of_ble_eq_true rfl) (Nat.le_of_ble_eq_true rfl) (by decide) (ty_74 hS.1.1) ?_
      refine Tr.imp (Tr.deep (by decide) (sp_X6_settle_74 hS.1 a2 (by omega) r12 (by omega))) ?_
      rintro M47 _ ⟨h47, rfl⟩
      have hS := St.tr hS h47 (by decide) (by decide)
      refine Tr.sc [] rfl ?_
      refine Tr.aload_n (pc := 50) (i := 0) d_X6_hold_50 rfl rfl ?_
      refine Tr.iload_n (pc := 51) (i := 1) d_X6_hold_51 rfl rfl ?_
      refine Tr.iload_n (pc := 52) (i := 2) d_X6_hold_52 rfl rfl ?_
      refine Tr.iload_n (pc := 53) (i := 3) d_X6_hold_53 rfl rfl ?_
      refine Tr.aload_n (pc := 54) (i := 0) d_X6_hold_54 rfl rfl ?_
      refine Tr.getf (pc := 55) d_X6_hold_55 f_6_68 (by decide) (by decide) (ty_74 hS.1.1) ?_
      refine Tr.gen (P := fun v => (-2147483648) ≤ v ∧ v ≤ 2147483647) (ir_74_9 hS.1.2.1) (fun r55 er55 br55 => ?_)
      refine Tr.callV (pc := 58) (as := [_, _, _, _]) d_X6_hold_58 s_6_202 ok_X6_bookBusy rfl rfl (Nat.le_of_ble_eq_true rfl) (Nat.le_of_ble_eq_true rfl) (by decide) (ty_74 hS.1.1) ?_
      refine Tr.imp (Tr.deep (by decide) (sp_X6_bookBusy_74_w1 hS.1 a1 (by omega) a2 (by omega) r12 (by omega) r55 (by omega))) ?_
      rintro M58 _ ⟨h58, rfl⟩
      have hS := St.tr hS h58 (by decide) (by decide)
      refine Tr.sc [] rfl ?_
      refine Tr.aload_n (pc := 61) (i := 0) d_X6_hold_61 rfl rfl ?_
      refine Tr.getf (pc := 62) d_X6_hold_62 f_6_38 (by decide) (by decide) (ty_74 hS.1.1) ?_
      refine Tr.tp 82 (fx_74_0 hS.1.1) ?_
      refine Tr.iload_n (pc := 65) (i := 2) d_X6_hold_65 rfl rfl ?_
      refine Tr.iload_n (pc := 66) (i := 1) d_X6_hold_66 rfl rfl ?_
      refine Tr.aload_n (pc := 67) (i := 0) d_X6_hold_67 rfl rfl ?_
      refine Tr.getf (pc := 68) d_X6_hold_68 f_6_68 (by decide) (by decide) (ty_74 hS.1.1) ?_
      refine Tr.tp r55 ((St.kp h58 (by decide) (by decide)).trans er55) ?_
      refine Tr.callV (pc := 71) (as := [_, _, _]) d_X6_hold_71 s_6_211 ok_X1_holdFor rfl rfl (Nat.le_of_ble_eq_true rfl) (Nat.le_of_ble_eq_true rfl) (by decide) (ty_82 hS.1.1) ?_
      refine Tr.imp (Tr.deep (by decide) (sp_X1_holdFor_82_w1 hS.1 a2 (by omega) a1 (by omega) r55 (by omega))) ?_
      rintro M71 _ ⟨h71, rfl⟩
      have hS := St.tr hS h71 (by decide) (by decide)
      refine Tr.sc [] rfl ?_
      refine Tr.aload_n (pc := 74) (i := 0) d_X6_hold_74 rfl rfl ?_
      refine Tr.getf (pc := 75) d_X6_hold_75 f_6_62 (by decide) (by decide) (ty_74 hS.1.1) ?_
      refine Tr.tp r29 ((St.kp h71 (by decide) (by decide)).trans ((St.kp h58 (by decide) (by decide)).trans ((St.kp h47 (by decide) (by decide)).trans k44_74_14))) ?_
      refine Tr.if_ne (pc := 78) (tgt := 91) d_X6_hold_78 rfl (fun c78 => ?_) (fun c78 => ?_)
      · refine Tr.aload_n (pc := 91) (i := 0) d_X6_hold_91 rfl rfl ?_
        refine Tr.getf (pc := 92) d_X6_hold_92 f_6_27 (by decide) (by decide) (ty_74 hS.1.1) ?_
        refine Tr.tp 80 (fx_74_7 hS.1.1) ?_
        refine Tr.iload_n (pc := 95) (i := 2) d_X6_hold_95 rfl rfl ?_
        refine Tr.aload_n (pc := 96) (i := 0) d_X6_hold_96 rfl rfl ?_
        refine Tr.getf (pc := 97) d_X6_hold_97 f_6_68 (by decide) (by decide) (ty_74 hS.1.1) ?_
        refine Tr.tp r55 ((St.kp h71 (by decide) (by decide)).trans ((St.kp h58 (by decide) (by decide)).trans er55)) ?_
        refine Tr.iconst (pc := 100) d_X6_hold_100 (by decide) ?_
        refine Tr.iadd (pc := 101) d_X6_hold_101 ?_
        refine Tr.gen (P := fun v => (-2147483648) ≤ v ∧ v ≤ 2147483647) (w32_b _) (fun r101 er101 br101 => ?_)
        refine Tr.iastS (pc := 102) (P := St ws_X6_hold_74_w1 as_X6_hold_74_w1 M0) d_X6_hold_102 (ty_80 hS.1.1) (by omega) (by omega) (sa_80 hS (by decide) (by omega)) (fun hS => ?_)
        exact Tr.vret (pc := 103) d_X6_hold_103 rfl ⟨hS, rfl⟩
      · refine Tr.aload_n (pc := 81) (i := 0) d_X6_hold_81 rfl rfl ?_
        refine Tr.getf (pc := 82) d_X6_hold_82 f_6_24 (by decide) (by decide) (ty_74 hS.1.1) ?_
        refine Tr.tp 79 (fx_74_6 hS.1.1) ?_
        refine Tr.iload_n (pc := 85) (i := 2) d_X6_hold_85 rfl rfl ?_
        refine Tr.iconst (pc := 86) d_X6_hold_86 (by decide) ?_
        refine Tr.iastS (pc := 87) (P := St ws_X6_hold_74_w1 as_X6_hold_74_w1 M0) d_X6_hold_87 (ty_79 hS.1.1) (by omega) (by omega) (sa_79 hS (by decide) (by omega)) (fun hS => ?_)
        refine Tr.goto (pc := 88) (tgt := 103) d_X6_hold_88 rfl ?_
        exact Tr.vret (pc := 103) d_X6_hold_103 rfl ⟨hS, rfl⟩
    refine Tr.if_eq (pc := 32) (tgt := 44) d_X6_hold_32 rfl (fun c32 => ?_) (fun c32 => ?_)
    · refine Tr.pick [1, 2, 3, 0] (ls2 := [(0, (2, 74)), (1, (0, a1)), (2, (0, a2)), (3, (0, r12))]) rfl ?_
      exact J44 _ hS er29 ((St.ka h24 (by decide) (by decide)).trans ((St.ka h19 (by decide) (by decide)).trans er5))
    · refine Tr.aload_n (pc := 35) (i := 0) d_X6_hold_35 rfl rfl ?_
      refine Tr.getf (pc := 36) d_X6_hold_36 f_6_68 (by decide) (by decide) (ty_74 hS.1.1) ?_
      refine Tr.gen (P := fun v => (-2147483648) ≤ v ∧ v ≤ 2147483647) (ir_74_9 hS.1.2.1) (fun r36 er36 br36 => ?_)
      refine Tr.iload_n (pc := 39) (i := 3) d_X6_hold_39 rfl rfl ?_
      refine Tr.icmp_ne (pc := 40) (tgt := 44) d_X6_hold_40 rfl (fun c40 => ?_) (fun c40 => ?_)
      · refine Tr.pick [1, 2, 3, 0] (ls2 := [(0, (2, 74)), (1, (0, a1)), (2, (0, a2)), (3, (0, r12))]) rfl ?_
        exact J44 _ hS er29 ((St.ka h24 (by decide) (by decide)).trans ((St.ka h19 (by decide) (by decide)).trans er5))
      · exact Tr.vret (pc := 43) d_X6_hold_43 rfl ⟨hS, rfl⟩
  · exact Tr.vret (pc := 10) d_X6_hold_10 rfl ⟨hS, rfl⟩

def ws_X1_workFor_82_w1 : List (Int × Int) := []
def as_X1_workFor_82_w1 : List Int := []
def q_X1_workFor_82_w1 (M0 M' : Mem) (r : Option PV) : Prop := St ws_X1_workFor_82_w1 as_X1_workFor_82_w1 M0 M' ∧ r = none
set_option maxRecDepth 100000 in
set_option maxHeartbeats 4000000 in
theorem sp_X1_workFor_82_w1 {l : Launch} {K : EC} {M0 : Mem} (hI : In M0)  (a1 : Int) (ha1 : 0 ≤ a1 ∧ a1 ≤ 5) (a2 : Int) (ha2 : (-2147483648) ≤ a2 ∧ a2 ≤ 59) (a3 : Int) (ha3 : (-2147483648) ≤ a3 ∧ a3 ≤ 2147483647) (a4 : Int) (ha4 : (-2147483648) ≤ a4 ∧ a4 ≤ 2147483647)  : Tr l K 0 mX1_workFor 0 [(0, (2, 82)), (1, (0, a1)), (2, (0, a2)), (3, (0, a3)), (4, (0, a4))] [] M0 (q_X1_workFor_82_w1 M0) := by
  have hS : St ws_X1_workFor_82_w1 as_X1_workFor_82_w1 M0 M0 := St.rf hI
  refine Tr.aload_n (pc := 0) (i := 0) d_X1_workFor_0 rfl rfl ?_
  refine Tr.getz (pc := 1) d_X1_workFor_1 f_1_37 (by decide) (ty_82 hS.1.1) ?_
  refine Tr.tp 0 (fx_82_0 hS.1.1) ?_
  refine Tr.if_eq (pc := 4) (tgt := 20) d_X1_workFor_4 rfl (fun _ => ?_) (fun hc => absurd (by omega) hc)
  exact Tr.vret (pc := 20) d_X1_workFor_20 rfl ⟨hS, rfl⟩

def ws_X6_use_74_w1 : List (Int × Int) := [(74, 9), (74, 14), (74, 17)]
def as_X6_use_74_w1 : List Int := [80, 81, 83]
def q_X6_use_74_w1 (M0 M' : Mem) (r : Option PV) : Prop := St ws_X6_use_74_w1 as_X6_use_74_w1 M0 M' ∧ r = none
set_option maxRecDepth 100000 in
set_option maxHeartbeats 4000000 in
theorem sp_X6_use_74_w1 {l : Launch} {K : EC} {M0 : Mem} (hI : In M0) (en_74_1 : rd M0 74 1 = 7) (a1 : Int) (ha1 : (-2147483648) ≤ a1 ∧ a1 ≤ 59) (a2 : Int) (ha2 : 0 ≤ a2 ∧ a2 ≤ 5) (a3 : Int) (ha3 : 0 ≤ a3 ∧ a3 ≤ 50)  : Tr l K 3 mX6_use 0 [(0, (2, 74)), (1, (0, a1)), (2, (0, a2)), (3, (0, a3))] [] M0 (q_X6_use_74_w1 M0) := by
  have hS : St ws_X6_use_74_w1 as_X6_use_74_w1 M0 M0 := St.rf hI
  refine Tr.aload_n (pc := 0) (i := 0) d_X6_use_0 rfl rfl ?_
  refine Tr.getf (pc := 1) d_X6_use_1 f_6_68 (by decide) (by decide) (ty_74 hS.1.1) ?_
  refine Tr.gen (P := fun v => (-2147483648) ≤ v ∧ v ≤ 2147483647) (ir_74_9 hS.1.2.1) (fun r1 er1 br1 => ?_)
  refine Tr.istore (pc := 4) (i := 4) (ls2 := [(4, (0, r1)), (0, (2, 74)), (1, (0, a1)), (2, (0, a2)), (3, (0, a3))]) d_X6_use_4 (by decide) rfl ?_
  refine Tr.aload_n (pc := 6) (i := 0) d_X6_use_6 rfl rfl ?_
  refine Tr.aload_n (pc := 7) (i := 0) d_X6_use_7 rfl rfl ?_
  refine Tr.iload_n (pc := 8) (i := 2) d_X6_use_8 rfl rfl ?_
  refine Tr.callV (pc := 9) (as := [_]) d_X6_use_9 s_6_199 ok_X6_wakeOf rfl rfl (Nat.le_of_ble_eq_true rfl) (Nat.le_of_ble_eq_true rfl) (by decide) (ty_74 hS.1.1) ?_
  refine Tr.imp (Tr.deep (by decide) (sp_X6_wakeOf_74 hS.1 ((St.kp hS (by decide) (by decide)).trans en_74_1) a2 (by omega))) ?_
  rintro M9 _ ⟨h9, r9, rfl, lr9, ur9⟩
  have hS := St.tr hS h9 (by decide) (by decide)
  refine Tr.sc [(0, r9), (2, 74)] rfl ?_
  refine Tr.iload_n (pc := 12) (i := 2) d_X6_use_12 rfl rfl ?_
  refine Tr.iconst (pc := 13) d_X6_use_13 (by decide) ?_
  refine Tr.callV (pc := 14) (as := [_, _, _]) d_X6_use_14 s_6_145 ok_X6_pass rfl rfl (Nat.le_of_ble_eq_true rfl) (Nat.le_of_ble_eq_true rfl) (by decide) (ty_74 hS.1.1) ?_
  refine Tr.imp (Tr.deep (by decide) (sp_X6_pass_74_w3 hS.1 ((St.kp hS (by decide) (by decide)).trans en_74_1) r9 (by omega) a2 (by omega) 1 (by omega))) ?_
  rintro M14 _ ⟨h14, r14, rfl, lr14, ur14⟩
  have hS := St.tr hS h14 (by decide) (by decide)
  refine Tr.sc [(0, r14)] rfl ?_
  refine Tr.pop (pc := 17) d_X6_use_17 ne01 ?_
  refine Tr.aload_n (pc := 18) (i := 0) d_X6_use_18 rfl rfl ?_
  refine Tr.getf (pc := 19) d_X6_use_19 f_6_68 (by decide) (by decide) (ty_74 hS.1.1) ?_
  refine Tr.gen (P := fun v => (-2147483648) ≤ v ∧ v ≤ 2147483647) (ir_74_9 hS.1.2.1) (fun r19 er19 br19 => ?_)
  refine Tr.istore (pc := 22) (i := 5) (ls2 := [(5, (0, r19)), (4, (0, r1)), (0, (2, 74)), (1, (0, a1)), (2, (0, a2)), (3, (0, a3))]) d_X6_use_22 (by decide) rfl ?_
  refine Tr.aload_n (pc := 24) (i := 0) d_X6_use_24 rfl rfl ?_
  refine Tr.getf (pc := 25) d_X6_use_25 f_6_62 (by decide) (by decide) (ty_74 hS.1.1) ?_
  refine Tr.gen (P := fun v => (-2147483648) ≤ v ∧ v ≤ 2147483647) (ir_74_14 hS.1.2.1) (fun r25 er25 br25 => ?_)
  have J39 : ∀ (M : Mem), St ws_X6_use_74_w1 as_X6_use_74_w1 M0 M → Tr l K 3 mX6_use 39 [(0, (2, 74)), (1, (0, a1)), (2, (0, a2)), (4, (0, r1)), (5, (0, r19))] [] M (q_X6_use_74_w1 M0) := by
    intro M  hS  
    refine Tr.aload_n (pc := 39) (i := 0) d_X6_use_39 rfl rfl ?_
    refine Tr.getf (pc := 40) d_X6_use_40 f_6_62 (by decide) (by decide) (ty_74 hS.1.1) ?_
    refine Tr.gen (P := fun v => (-2147483648) ≤ v ∧ v ≤ 2147483647) (ir_74_14 hS.1.2.1) (fun r40 er40 br40 => ?_)
    have J56 : ∀ (M : Mem), St ws_X6_use_74_w1 as_X6_use_74_w1 M0 M → rd M 74 14 = r40 → Tr l K 3 mX6_use 56 [(0, (2, 74)), (1, (0, a1)), (2, (0, a2)), (4, (0, r1)), (5, (0, r19))] [] M (q_X6_use_74_w1 M0) := by
      intro M  hS  k56_74_14
      refine Tr.aload_n (pc := 56) (i := 0) d_X6_use_56 rfl rfl ?_
      refine Tr.iload_n (pc := 57) (i := 2) d_X6_use_57 rfl rfl ?_
      refine Tr.iload (pc := 58) (i := 4) d_X6_use_58 rfl ?_
      refine Tr.callV (pc := 60) (as := [_, _]) d_X6_use_60 s_6_125 ok_X6_settle rfl rfl (Nat.le_of_ble_eq_true rfl) (Nat.le_of_ble_eq_true rfl) (by decide) (ty_74 hS.1.1) ?_
      refine Tr.imp (Tr.deep (by decide) (sp_X6_settle_74 hS.1 a2 (by omega) r1 (by omega))) ?_
      rintro M60 _ ⟨h60, rfl⟩
      have hS := St.tr hS h60 (by decide) (by decide)
      refine Tr.sc [] rfl ?_
      refine Tr.aload_n (pc := 63) (i := 0) d_X6_use_63 rfl rfl ?_
      refine Tr.iload_n (pc := 64) (i := 1) d_X6_use_64 rfl rfl ?_
      refine Tr.iload_n (pc := 65) (i := 2) d_X6_use_65 rfl rfl ?_
      refine Tr.iload (pc := 66) (i := 4) d_X6_use_66 rfl ?_
      refine Tr.iload (pc := 68) (i := 5) d_X6_use_68 rfl ?_
      refine Tr.callV (pc := 70) (as := [_, _, _, _]) d_X6_use_70 s_6_202 ok_X6_bookBusy rfl rfl (Nat.le_of_ble_eq_true rfl) (Nat.le_of_ble_eq_true rfl) (by decide) (ty_74 hS.1.1) ?_
      refine Tr.imp (Tr.deep (by decide) (sp_X6_bookBusy_74_w1 hS.1 a1 (by omega) a2 (by omega) r1 (by omega) r19 (by omega))) ?_
      rintro M70 _ ⟨h70, rfl⟩
      have hS := St.tr hS h70 (by decide) (by decide)
      refine Tr.sc [] rfl ?_
      refine Tr.aload_n (pc := 73) (i := 0) d_X6_use_73 rfl rfl ?_
      refine Tr.getf (pc := 74) d_X6_use_74 f_6_38 (by decide) (by decide) (ty_74 hS.1.1) ?_
      refine Tr.tp 82 (fx_74_0 hS.1.1) ?_
      refine Tr.iload_n (pc := 77) (i := 2) d_X6_use_77 rfl rfl ?_
      refine Tr.iload_n (pc := 78) (i := 1) d_X6_use_78 rfl rfl ?_
      refine Tr.iload (pc := 79) (i := 5) d_X6_use_79 rfl ?_
      refine Tr.aload_n (pc := 81) (i := 0) d_X6_use_81 rfl rfl ?_
      refine Tr.getf (pc := 82) d_X6_use_82 f_6_68 (by decide) (by decide) (ty_74 hS.1.1) ?_
      refine Tr.gen (P := fun v => (-2147483648) ≤ v ∧ v ≤ 2147483647) (ir_74_9 hS.1.2.1) (fun r82 er82 br82 => ?_)
      refine Tr.callV (pc := 85) (as := [_, _, _, _]) d_X6_use_85 s_6_205 ok_X1_workFor rfl rfl (Nat.le_of_ble_eq_true rfl) (Nat.le_of_ble_eq_true rfl) (by decide) (ty_82 hS.1.1) ?_
      refine Tr.imp (Tr.deep (by decide) (sp_X1_workFor_82_w1 hS.1 a2 (by omega) a1 (by omega) r19 (by omega) r82 (by omega))) ?_
      rintro M85 _ ⟨h85, rfl⟩
      have hS := St.tr hS h85 (by decide) (by decide)
      refine Tr.sc [] rfl ?_
      refine Tr.aload_n (pc := 88) (i := 0) d_X6_use_88 rfl rfl ?_
      refine Tr.getf (pc := 89) d_X6_use_89 f_6_27 (by decide) (by decide) (ty_74 hS.1.1) ?_
      refine Tr.tp 80 (fx_74_7 hS.1.1) ?_
      refine Tr.iload_n (pc := 92) (i := 2) d_X6_use_92 rfl rfl ?_
      refine Tr.aload_n (pc := 93) (i := 0) d_X6_use_93 rfl rfl ?_
      refine Tr.getf (pc := 94) d_X6_use_94 f_6_62 (by decide) (by decide) (ty_74 hS.1.1) ?_
      refine Tr.tp r40 ((St.kp h85 (by decide) (by decide)).trans ((St.kp h70 (by decide) (by decide)).trans ((St.kp h60 (by decide) (by decide)).trans k56_74_14))) ?_
      refine Tr.if_ne (pc := 97) (tgt := 117) d_X6_use_97 rfl (fun c97 => ?_) (fun c97 => ?_)
      · refine Tr.aload_n (pc := 117) (i := 0) d_X6_use_117 rfl rfl ?_
        refine Tr.getf (pc := 118) d_X6_use_118 f_6_68 (by decide) (by decide) (ty_74 hS.1.1) ?_
        refine Tr.tp r82 ((St.kp h85 (by decide) (by decide)).trans er82) ?_
        refine Tr.iconst (pc := 121) d_X6_use_121 (by decide) ?_
        refine Tr.iadd (pc := 122) d_X6_use_122 ?_
        refine Tr.gen (P := fun v => (-2147483648) ≤ v ∧ v ≤ 2147483647) (w32_b _) (fun r122 er122 br122 => ?_)
        refine Tr.iastS (pc := 123) (P := St ws_X6_use_74_w1 as_X6_use_74_w1 M0) d_X6_use_123 (ty_80 hS.1.1) (by omega) (by omega) (sa_80 hS (by decide) (by omega)) (fun hS => ?_)
        exact Tr.vret (pc := 124) d_X6_use_124 rfl ⟨hS, rfl⟩
      · refine Tr.aload_n (pc := 100) (i := 0) d_X6_use_100 rfl rfl ?_
        refine Tr.getf (pc := 101) d_X6_use_101 f_6_68 (by decide) (by decide) (ty_74 hS.1.1) ?_
        refine Tr.tp r82 ((St.kp h85 (by decide) (by decide)).trans er82) ?_
        refine Tr.aload_n (pc := 104) (i := 0) d_X6_use_104 rfl rfl ?_
        refine Tr.getf (pc := 105) d_X6_use_105 f_6_46 (by decide) (by decide) (ty_74 hS.1.1) ?_
        refine Tr.tp 7 ((St.kp hS (by decide) (by decide)).trans en_74_1) ?_
        refine Tr.getf (pc := 108) d_X6_use_108 f_6_208 (by decide) (by decide) (ty_7 hS.1.1) ?_
        refine Tr.tp 11 (fx_7_7 hS.1.1) ?_
        refine Tr.iload_n (pc := 111) (i := 2) d_X6_use_111 rfl rfl ?_
        refine Tr.iald (pc := 112) d_X6_use_112 (ty_11 hS.1.1) (by omega) (by omega) ?_
        refine Tr.gen (P := fun v => 0 ≤ v ∧ v ≤ 50) (ar_11 hS.1.2.1 _) (fun r112 er112 br112 => ?_)
        refine Tr.iadd (pc := 113) d_X6_use_113 ?_
        refine Tr.gen (P := fun v => (-2147483648) ≤ v ∧ v ≤ 2147483647) (w32_b _) (fun r113 er113 br113 => ?_)
        refine Tr.goto (pc := 114) (tgt := 123) d_X6_use_114 rfl ?_
        refine Tr.iastS (pc := 123) (P := St ws_X6_use_74_w1 as_X6_use_74_w1 M0) d_X6_use_123 (ty_80 hS.1.1) (by omega) (by omega) (sa_80 hS (by decide) (by omega)) (fun hS => ?_)
        exact Tr.vret (pc := 124) d_X6_use_124 rfl ⟨hS, rfl⟩
    refine Tr.if_eq (pc := 43) (tgt := 56) d_X6_use_43 rfl (fun c43 => ?_) (fun c43 => ?_)
    · refine Tr.pick [0, 1, 2, 3, 4] (ls2 := [(0, (2, 74)), (1, (0, a1)), (2, (0, a2)), (4, (0, r1)), (5, (0, r19))]) rfl ?_
      exact J56 _ hS er40
    · refine Tr.aload_n (pc := 46) (i := 0) d_X6_use_46 rfl rfl ?_
      refine Tr.getf (pc := 47) d_X6_use_47 f_6_68 (by decide) (by decide) (ty_74 hS.1.1) ?_
      refine Tr.gen (P := fun v => (-2147483648) ≤ v ∧ v ≤ 2147483647) (ir_74_9 hS.1.2.1) (fun r47 er47 br47 => ?_)
      refine Tr.iload (pc := 50) (i := 4) d_X6_use_50 rfl ?_
      refine Tr.icmp_ne (pc := 52) (tgt := 56) d_X6_use_52 rfl (fun c52 => ?_) (fun c52 => ?_)
      · refine Tr.pick [0, 1, 2, 3, 4] (ls2 := [(0, (2, 74)), (1, (0, a1)), (2, (0, a2)), (4, (0, r1)), (5, (0, r19))]) rfl ?_
        exact J56 _ hS er40
      · exact Tr.vret (pc := 55) d_X6_use_55 rfl ⟨hS, rfl⟩
  refine Tr.if_ne (pc := 28) (tgt := 39) d_X6_use_28 rfl (fun c28 => ?_) (fun c28 => ?_)
  · refine Tr.pick [2, 3, 4, 1, 0] (ls2 := [(0, (2, 74)), (1, (0, a1)), (2, (0, a2)), (4, (0, r1)), (5, (0, r19))]) rfl ?_
    exact J39 _ hS 
  · refine Tr.aload_n (pc := 31) (i := 0) d_X6_use_31 rfl rfl ?_
    refine Tr.iload_n (pc := 32) (i := 3) d_X6_use_32 rfl rfl ?_
    refine Tr.iload_n (pc := 33) (i := 2) d_X6_use_33 rfl rfl ?_
    refine Tr.iconst (pc := 34) d_X6_use_34 (by decide) ?_
    refine Tr.callV (pc := 35) (as := [_, _, _]) d_X6_use_35 s_6_145 ok_X6_pass rfl rfl (Nat.le_of_ble_eq_true rfl) (Nat.le_of_ble_eq_true rfl) (by decide) (ty_74 hS.1.1) ?_
    refine Tr.imp (Tr.deep (by decide) (sp_X6_pass_74_w4 hS.1 ((St.kp hS (by decide) (by decide)).trans en_74_1) a3 (by omega) a2 (by omega) 3 (by omega))) ?_
    rintro M35 _ ⟨h35, r35, rfl, lr35, ur35⟩
    have hS := St.tr hS h35 (by decide) (by decide)
    refine Tr.sc [(0, r35)] rfl ?_
    refine Tr.pop (pc := 38) d_X6_use_38 ne01 ?_
    refine Tr.pick [2, 3, 4, 1, 0] (ls2 := [(0, (2, 74)), (1, (0, a1)), (2, (0, a2)), (4, (0, r1)), (5, (0, r19))]) rfl ?_
    exact J39 _ hS 

def ws_X1_payHeart_82_w1 : List (Int × Int) := []
def as_X1_payHeart_82_w1 : List Int := []
def q_X1_payHeart_82_w1 (M0 M' : Mem) (r : Option PV) : Prop := St ws_X1_payHeart_82_w1 as_X1_payHeart_82_w1 M0 M' ∧ r = none
set_option maxRecDepth 100000 in
set_option maxHeartbeats 4000000 in
theorem sp_X1_payHeart_82_w1 {l : Launch} {K : EC} {M0 : Mem} (hI : In M0)  (a1 : Int) (ha1 : (-2147483648) ≤ a1 ∧ a1 ≤ 59) (a2 : Int) (ha2 : (-2147483648) ≤ a2 ∧ a2 ≤ 2147483647)  : Tr l K 0 mX1_payHeart 0 [(0, (2, 82)), (1, (0, a1)), (2, (0, a2))] [] M0 (q_X1_payHeart_82_w1 M0) := by
  have hS : St ws_X1_payHeart_82_w1 as_X1_payHeart_82_w1 M0 M0 := St.rf hI
  refine Tr.aload_n (pc := 0) (i := 0) d_X1_payHeart_0 rfl rfl ?_
  refine Tr.getz (pc := 1) d_X1_payHeart_1 f_1_37 (by decide) (ty_82 hS.1.1) ?_
  refine Tr.tp 0 (fx_82_0 hS.1.1) ?_
  refine Tr.if_eq (pc := 4) (tgt := 25) d_X1_payHeart_4 rfl (fun _ => ?_) (fun hc => absurd (by omega) hc)
  exact Tr.vret (pc := 25) d_X1_payHeart_25 rfl ⟨hS, rfl⟩
