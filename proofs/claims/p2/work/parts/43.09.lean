def ws_X6_afforded_48_w8 : List (Int × Int) := [(48, 17)]
def as_X6_afforded_48_w8 : List Int := []
def q_X6_afforded_48_w8 (M0 M' : Mem) (r : Option PV) : Prop := St Tru ws_X6_afforded_48_w8 as_X6_afforded_48_w8 M0 M' ∧ ∃ v : Int, r = some (0, v) ∧ (-2147483648) ≤ v ∧ v ≤ 20
set_option maxRecDepth 100000 in
set_option maxHeartbeats 4000000 in
theorem sp_X6_afforded_48_w8 {l : Launch} {K : EC} {M0 : Mem} (hI : In Tru M0) (en_48_1 : rd M0 48 1 = 27) (a1 : Int) (ha1 : (-2147483648) ≤ a1 ∧ a1 ≤ 20) (a2 : Int) (ha2 : 0 ≤ a2 ∧ a2 ≤ 5) (a3 : Int) (ha3 : 1 ≤ a3 ∧ a3 ≤ 1)  : Tr l K 1 mX6_afforded 0 [(0, (2, 48)), (1, (0, a1)), (2, (0, a2)), (3, (0, a3))] [] M0 (q_X6_afforded_48_w8 M0) := by
  have hS : St Tru ws_X6_afforded_48_w8 as_X6_afforded_48_w8 M0 M0 := St.rf hI
  refine Tr.iconst (pc := 0) d_X6_afforded_0 (by decide) ?_
  refine Tr.istore (pc := 1) (i := 4) (ls2 := [(4, (0, 0)), (0, (2, 48)), (1, (0, a1)), (2, (0, a2)), (3, (0, a3))]) d_X6_afforded_1 (by decide) rfl ?_
  have J3 : ∀ (n3 : Nat) (M : Mem) (p3_4 : Int), St Tru ws_X6_afforded_48_w8 as_X6_afforded_48_w8 M0 M → (0 ≤ p3_4 ∧ p3_4 ≤ 20) → (20 - p3_4).toNat < n3 → Tr l K 1 mX6_afforded 3 [(0, (2, 48)), (1, (0, a1)), (2, (0, a2)), (3, (0, a3)), (4, (0, p3_4))] [] M (q_X6_afforded_48_w8 M0) := by
    intro n3
    induction n3 with
    | zero => intro M p3_4 hS bp3_4  hm3; exact absurd hm3 (Nat.not_lt_zero _)
    | succ n3 J3 =>
      intro M p3_4 hS bp3_4  hm3
      refine Tr.iload (pc := 3) (i := 4) d_X6_afforded_3 rfl ?_
      refine Tr.iload_n (pc := 5) (i := 1) d_X6_afforded_5 rfl rfl ?_
      refine Tr.icmp_ge (pc := 6) (tgt := 53) d_X6_afforded_6 rfl (fun c6 => ?_) (fun c6 => ?_)
      · refine Tr.iload_n (pc := 53) (i := 1) d_X6_afforded_53 rfl rfl ?_
        exact Tr.iret (pc := 54) d_X6_afforded_54 rfl ⟨hS, _, rfl, by omega, by omega⟩
      · refine Tr.aload_n (pc := 9) (i := 0) d_X6_afforded_9 rfl rfl ?_
        refine Tr.aload_n (pc := 10) (i := 0) d_X6_afforded_10 rfl rfl ?_
        refine Tr.getf (pc := 11) d_X6_afforded_11 f_6_68 (by decide) (by decide) (ty_48 hS.1.1) ?_
        refine Tr.gen (P := fun v => (-2147483648) ≤ v ∧ v ≤ 2147483647) (ir_48_9 hS.1.2.1) (fun r11 er11 br11 => ?_)
        refine Tr.iload (pc := 14) (i := 4) d_X6_afforded_14 rfl ?_
        refine Tr.iadd (pc := 16) d_X6_afforded_16 ?_
        refine Tr.gen (P := fun v => (-2147483648) ≤ v ∧ v ≤ 2147483647) (w32_b _) (fun r16 er16 br16 => ?_)
        refine Tr.iload_n (pc := 17) (i := 2) d_X6_afforded_17 rfl rfl ?_
        refine Tr.iload_n (pc := 18) (i := 3) d_X6_afforded_18 rfl rfl ?_
        refine Tr.tp 1 (by omega) ?_
        refine Tr.callV (pc := 19) (as := [_, _, _]) d_X6_afforded_19 s_6_186 ok_X6_sipsAt rfl rfl (Nat.le_of_ble_eq_true rfl) (Nat.le_of_ble_eq_true rfl) (by decide) (ty_48 hS.1.1) ?_
        refine Tr.imp (Tr.deep (by decide) (sp_X6_sipsAt_48_w4 hS.1 ((St.kp hS (by decide) (by decide) (by decide)).trans en_48_1) r16 (by omega) a2 (by omega) 1 (by omega))) ?_
        rintro M19 _ ⟨h19, r19, rfl, lr19, ur19⟩
        have hS := St.tr hS h19 (by decide) (by decide)
        refine Tr.sc [(0, r19)] rfl ?_
        refine Tr.istore (pc := 22) (i := 5) (ls2 := [(5, (0, r19)), (0, (2, 48)), (1, (0, a1)), (2, (0, a2)), (3, (0, a3)), (4, (0, p3_4))]) d_X6_afforded_22 (by decide) rfl ?_
        refine Tr.iload (pc := 24) (i := 5) d_X6_afforded_24 rfl ?_
        refine Tr.aload_n (pc := 26) (i := 0) d_X6_afforded_26 rfl rfl ?_
        refine Tr.getf (pc := 27) d_X6_afforded_27 f_6_110 (by decide) (by decide) (ty_48 hS.1.1) ?_
        refine Tr.gen (P := fun v => (-2147483648) ≤ v ∧ v ≤ 2147483647) (ir_48_17 hS.1.2.1) (fun r27 er27 br27 => ?_)
        refine Tr.icmp_le (pc := 30) (tgt := 36) d_X6_afforded_30 rfl (fun c30 => ?_) (fun c30 => ?_)
        · refine Tr.aload_n (pc := 36) (i := 0) d_X6_afforded_36 rfl rfl ?_
          refine Tr.dup (pc := 37) d_X6_afforded_37 ne21 ?_
          refine Tr.getf (pc := 38) d_X6_afforded_38 f_6_110 (by decide) (by decide) (ty_48 hS.1.1) ?_
          refine Tr.tp r27 er27 ?_
          refine Tr.iload (pc := 41) (i := 5) d_X6_afforded_41 rfl ?_
          refine Tr.isub (pc := 43) d_X6_afforded_43 ?_
          refine Tr.gen (P := fun v => (-2147483648) ≤ v ∧ v ≤ 2147483647) (w32_b _) (fun r43 er43 br43 => ?_)
          refine Tr.putfS (pc := 44) (P := St Tru ws_X6_afforded_48_w8 as_X6_afforded_48_w8 M0) d_X6_afforded_44 f_6_110 (by decide) (by decide) (ty_48 hS.1.1) (st_48_17 hS (by decide) (by omega) trivial) (fun M44 hS w44 => ?_)
          refine Tr.iincV (pc := 47) (n2 := (p3_4 + 1)) (ls2 := [(4, (0, (p3_4 + 1))), (5, (0, r19)), (0, (2, 48)), (1, (0, a1)), (2, (0, a2)), (3, (0, a3))]) d_X6_afforded_47 rfl (by decide) ((w32_id (by omega)).trans (by omega)) rfl ?_
          refine Tr.goto (pc := 50) (tgt := 3) d_X6_afforded_50 rfl ?_
          refine Tr.pick [2, 3, 4, 5, 0] (ls2 := [(0, (2, 48)), (1, (0, a1)), (2, (0, a2)), (3, (0, a3)), (4, (0, (p3_4 + 1)))]) rfl ?_
          exact J3 _ _ hS (by omega) (by omega)
        · refine Tr.iload (pc := 33) (i := 4) d_X6_afforded_33 rfl ?_
          exact Tr.iret (pc := 35) d_X6_afforded_35 rfl ⟨hS, _, rfl, by omega, by omega⟩
  refine Tr.pick [1, 2, 3, 4, 0] (ls2 := [(0, (2, 48)), (1, (0, a1)), (2, (0, a2)), (3, (0, a3)), (4, (0, 0))]) rfl ?_
  exact J3 _ _ _ hS (by omega) (Nat.lt_succ_self _)

def ws_X6_pass_48_w8 : List (Int × Int) := [(48, 9), (48, 14), (48, 17)]
def as_X6_pass_48_w8 : List Int := []
def q_X6_pass_48_w8 (M0 M' : Mem) (r : Option PV) : Prop := St Tru ws_X6_pass_48_w8 as_X6_pass_48_w8 M0 M' ∧ ∃ v : Int, r = some (0, v) ∧ (-2147483648) ≤ v ∧ v ≤ 20
set_option maxRecDepth 100000 in
set_option maxHeartbeats 4000000 in
theorem sp_X6_pass_48_w8 {l : Launch} {K : EC} {M0 : Mem} (hI : In Tru M0) (en_48_1 : rd M0 48 1 = 27) (a1 : Int) (ha1 : (-1) ≤ a1 ∧ a1 ≤ 20) (a2 : Int) (ha2 : 0 ≤ a2 ∧ a2 ≤ 5) (a3 : Int) (ha3 : 1 ≤ a3 ∧ a3 ≤ 1)  : Tr l K 2 mX6_pass 0 [(0, (2, 48)), (1, (0, a1)), (2, (0, a2)), (3, (0, a3))] [] M0 (q_X6_pass_48_w8 M0) := by
  have hS : St Tru ws_X6_pass_48_w8 as_X6_pass_48_w8 M0 M0 := St.rf hI
  refine Tr.iload_n (pc := 0) (i := 1) d_X6_pass_0 rfl rfl ?_
  refine Tr.sipush (pc := 1) d_X6_pass_1 rfl (by decide) ?_
  refine Tr.aload_n (pc := 4) (i := 0) d_X6_pass_4 rfl rfl ?_
  refine Tr.getf (pc := 5) d_X6_pass_5 f_6_68 (by decide) (by decide) (ty_48 hS.1.1) ?_
  refine Tr.gen (P := fun v => (-2147483648) ≤ v ∧ v ≤ 2147483647) (ir_48_9 hS.1.2.1) (fun r5 er5 br5 => ?_)
  refine Tr.isub (pc := 8) d_X6_pass_8 ?_
  refine Tr.gen (P := fun v => (-2147483648) ≤ v ∧ v ≤ 2147483647) (w32_b _) (fun r8 er8 br8 => ?_)
  refine Tr.mmin (pc := 9) d_X6_pass_9 ml_6_158 mw_mmin (Nat.le_of_ble_eq_true rfl) ?_
  refine Tr.gen (P := fun v => (v = a1 ∧ a1 ≤ r8) ∨ (v = r8 ∧ r8 ≤ a1)) (f_min_p _ _) (fun r9 er9 br9 => ?_)
  refine Tr.istore (pc := 12) (i := 4) (ls2 := [(4, (0, r9)), (0, (2, 48)), (1, (0, a1)), (2, (0, a2)), (3, (0, a3))]) d_X6_pass_12 (by decide) rfl ?_
  refine Tr.aload_n (pc := 14) (i := 0) d_X6_pass_14 rfl rfl ?_
  refine Tr.getz (pc := 15) d_X6_pass_15 f_6_106 (by decide) (ty_48 hS.1.1) ?_
  refine Tr.gen (P := fun v => 0 ≤ v ∧ v ≤ 1) (ir_48_16 hS.1.2.1) (fun r15 er15 br15 => ?_)
  have J34 : ∀ (M : Mem) (q34_0 : Int), St Tru ws_X6_pass_48_w8 as_X6_pass_48_w8 M0 M → ((-2147483648) ≤ q34_0 ∧ q34_0 ≤ 20) → rd M 48 16 = r15 → rd M 48 9 = r5 → Tr l K 2 mX6_pass 34 [(0, (2, 48)), (1, (0, a1)), (4, (0, r9))] [(0, q34_0)] M (q_X6_pass_48_w8 M0) := by
    intro M q34_0 hS bq34_0 k34_48_16 k34_48_9
    refine Tr.istore (pc := 34) (i := 5) (ls2 := [(5, (0, q34_0)), (0, (2, 48)), (1, (0, a1)), (4, (0, r9))]) d_X6_pass_34 (by decide) rfl ?_
    refine Tr.aload_n (pc := 36) (i := 0) d_X6_pass_36 rfl rfl ?_
    refine Tr.dup (pc := 37) d_X6_pass_37 ne21 ?_
    refine Tr.getf (pc := 38) d_X6_pass_38 f_6_68 (by decide) (by decide) (ty_48 hS.1.1) ?_
    refine Tr.tp r5 k34_48_9 ?_
    refine Tr.iload (pc := 41) (i := 5) d_X6_pass_41 rfl ?_
    refine Tr.iadd (pc := 43) d_X6_pass_43 ?_
    refine Tr.gen (P := fun v => (-2147483648) ≤ v ∧ v ≤ 2147483647) (w32_b _) (fun r43 er43 br43 => ?_)
    refine Tr.putfS (pc := 44) (P := St Tru ws_X6_pass_48_w8 as_X6_pass_48_w8 M0) d_X6_pass_44 f_6_68 (by decide) (by decide) (ty_48 hS.1.1) (st_48_9 hS (by decide) (by omega) trivial) (fun M44 hS w44 => ?_)
    refine Tr.iload (pc := 47) (i := 5) d_X6_pass_47 rfl ?_
    refine Tr.iload_n (pc := 49) (i := 1) d_X6_pass_49 rfl rfl ?_
    refine Tr.icmp_ge (pc := 50) (tgt := 69) d_X6_pass_50 rfl (fun c50 => ?_) (fun c50 => ?_)
    · refine Tr.iload (pc := 69) (i := 5) d_X6_pass_69 rfl ?_
      exact Tr.iret (pc := 71) d_X6_pass_71 rfl ⟨hS, _, rfl, by omega, by omega⟩
    · refine Tr.aload_n (pc := 53) (i := 0) d_X6_pass_53 rfl rfl ?_
      refine Tr.iload (pc := 54) (i := 5) d_X6_pass_54 rfl ?_
      refine Tr.iload (pc := 56) (i := 4) d_X6_pass_56 rfl ?_
      refine Tr.icmp_ne (pc := 58) (tgt := 65) d_X6_pass_58 rfl (fun c58 => ?_) (fun c58 => ?_)
      · refine Tr.iconst (pc := 65) d_X6_pass_65 (by decide) ?_
        refine Tr.putfS (pc := 66) (P := St Tru ws_X6_pass_48_w8 as_X6_pass_48_w8 M0) d_X6_pass_66 f_6_62 (by decide) (by decide) (ty_48 hS.1.1) (st_48_14 hS (by decide) (by omega) trivial) (fun M66 hS w66 => ?_)
        refine Tr.iload (pc := 69) (i := 5) d_X6_pass_69 rfl ?_
        exact Tr.iret (pc := 71) d_X6_pass_71 rfl ⟨hS, _, rfl, by omega, by omega⟩
      · refine Tr.iconst (pc := 61) d_X6_pass_61 (by decide) ?_
        refine Tr.goto (pc := 62) (tgt := 66) d_X6_pass_62 rfl ?_
        refine Tr.putfS (pc := 66) (P := St Tru ws_X6_pass_48_w8 as_X6_pass_48_w8 M0) d_X6_pass_66 f_6_62 (by decide) (by decide) (ty_48 hS.1.1) (st_48_14 hS (by decide) (by omega) trivial) (fun M66 hS w66 => ?_)
        refine Tr.iload (pc := 69) (i := 5) d_X6_pass_69 rfl ?_
        exact Tr.iret (pc := 71) d_X6_pass_71 rfl ⟨hS, _, rfl, by omega, by omega⟩
  refine Tr.if_eq (pc := 18) (tgt := 32) d_X6_pass_18 rfl (fun c18 => ?_) (fun c18 => ?_)
  · refine Tr.iload (pc := 32) (i := 4) d_X6_pass_32 rfl ?_
    refine Tr.pick [1, 2, 0] (ls2 := [(0, (2, 48)), (1, (0, a1)), (4, (0, r9))]) rfl ?_
    exact J34 _ _ hS (by omega) er15 er5
  · refine Tr.aload_n (pc := 21) (i := 0) d_X6_pass_21 rfl rfl ?_
    refine Tr.iload (pc := 22) (i := 4) d_X6_pass_22 rfl ?_
    refine Tr.iload_n (pc := 24) (i := 2) d_X6_pass_24 rfl rfl ?_
    refine Tr.iload_n (pc := 25) (i := 3) d_X6_pass_25 rfl rfl ?_
    refine Tr.tp 1 (by omega) ?_
    refine Tr.callV (pc := 26) (as := [_, _, _]) d_X6_pass_26 s_6_183 ok_X6_afforded rfl rfl (Nat.le_of_ble_eq_true rfl) (Nat.le_of_ble_eq_true rfl) (by decide) (ty_48 hS.1.1) ?_
    refine Tr.imp (Tr.deep (by decide) (sp_X6_afforded_48_w8 hS.1 ((St.kp hS (by decide) (by decide) (by decide)).trans en_48_1) r9 (by omega) a2 (by omega) 1 (by omega))) ?_
    rintro M26 _ ⟨h26, r26, rfl, lr26, ur26⟩
    have hS := St.tr hS h26 (by decide) (by decide)
    refine Tr.sc [(0, r26)] rfl ?_
    refine Tr.goto (pc := 29) (tgt := 34) d_X6_pass_29 rfl ?_
    refine Tr.pick [1, 2, 0] (ls2 := [(0, (2, 48)), (1, (0, a1)), (4, (0, r9))]) rfl ?_
    exact J34 _ _ hS (by omega) ((St.kp h26 (by decide) (by decide) (by decide)).trans er15) ((St.kp h26 (by decide) (by decide) (by decide)).trans er5)

def ws_X1_note_56_w6 : List (Int × Int) := [(63, 0)]
def as_X1_note_56_w6 : List Int := [57, 60, 61, 69, 191]
def q_X1_note_56_w6 (M0 M' : Mem) (r : Option PV) : Prop := St Rn ws_X1_note_56_w6 as_X1_note_56_w6 M0 M' ∧ r = none
set_option maxRecDepth 100000 in
set_option maxHeartbeats 4000000 in
theorem sp_X1_note_56_w6 {l : Launch} {K : EC} {M0 : Mem} (hI : In Rn M0) (en_56_1 : rd M0 56 1 = 27) (a1 : Int) (ha1 : 0 ≤ a1 ∧ a1 ≤ 5) (a2 : Int) (ha2 : 1 ≤ a2 ∧ a2 ≤ 1) (a3 : Int) (ha3 : (-2147483648) ≤ a3 ∧ a3 ≤ 2147483647) (a4 : Int) (ha4 : (-2147483648) ≤ a4 ∧ a4 ≤ 2147483647)  : Tr l K 1 mX1_note 0 [(0, (2, 56)), (1, (0, a1)), (2, (0, a2)), (3, (0, a3)), (4, (0, a4))] [] M0 (q_X1_note_56_w6 M0) := by
  have hS : St Rn ws_X1_note_56_w6 as_X1_note_56_w6 M0 M0 := St.rf hI
  refine Tr.iload_n (pc := 0) (i := 3) d_X1_note_0 rfl rfl ?_
  refine Tr.iload (pc := 1) (i := 4) d_X1_note_1 rfl ?_
  refine Tr.icmp_lt (pc := 3) (tgt := 7) d_X1_note_3 rfl (fun c3 => ?_) (fun c3 => ?_)
  · refine Tr.aload_n (pc := 7) (i := 0) d_X1_note_7 rfl rfl ?_
    refine Tr.getf (pc := 8) d_X1_note_8 f_1_9 (by decide) (by decide) (ty_56 hS.1.1) ?_
    refine Tr.tp 57 (fx_56_2 hS.1.1) ?_
    refine Tr.iload_n (pc := 11) (i := 1) d_X1_note_11 rfl rfl ?_
    refine Tr.iconst (pc := 12) d_X1_note_12 (by decide) ?_
    refine Tr.imul (pc := 13) d_X1_note_13 ?_
    refine Tr.tp (4 * a1) ((w32_id (by omega)).trans (by omega)) ?_
    refine Tr.iload_n (pc := 14) (i := 2) d_X1_note_14 rfl rfl ?_
    refine Tr.tp 1 (by omega) ?_
    refine Tr.iadd (pc := 15) d_X1_note_15 ?_
    refine Tr.tp (4 * a1 + 1) ((w32_id (by omega)).trans (by omega)) ?_
    refine Tr.dup2 (pc := 16) d_X1_note_16 ne01 ne21 ?_
    refine Tr.iald (pc := 17) d_X1_note_17 (ty_57 hS.1.1) (by omega) (by omega) ?_
    refine Tr.gen (P := fun v => (-2147483648) ≤ v ∧ v ≤ 2147483647) (ar_57 hS.1.2.1 _) (fun r17 er17 br17 => ?_)
    refine Tr.iload (pc := 18) (i := 4) d_X1_note_18 rfl ?_
    refine Tr.iload_n (pc := 20) (i := 3) d_X1_note_20 rfl rfl ?_
    refine Tr.isub (pc := 21) d_X1_note_21 ?_
    refine Tr.gen (P := fun v => (-2147483648) ≤ v ∧ v ≤ 2147483647) (w32_b _) (fun r21 er21 br21 => ?_)
    refine Tr.iadd (pc := 22) d_X1_note_22 ?_
    refine Tr.gen (P := fun v => (-2147483648) ≤ v ∧ v ≤ 2147483647) (w32_b _) (fun r22 er22 br22 => ?_)
    refine Tr.iastS (pc := 23) (P := St Rn ws_X1_note_56_w6 as_X1_note_56_w6 M0) d_X1_note_23 (ty_57 hS.1.1) (by omega) (by omega) (sa_57 hS (by decide) (by omega) (Rn.of hS.1.2.2.2.2 (fun _ => rd_wb _ rfl) (rd_wb _ rfl))) (fun M23 hS w23 => ?_)
    refine Tr.aload_n (pc := 24) (i := 0) d_X1_note_24 rfl rfl ?_
    refine Tr.getz (pc := 25) d_X1_note_25 f_1_37 (by decide) (ty_56 hS.1.1) ?_
    refine Tr.tp 1 (fx_56_0 hS.1.1) ?_
    refine Tr.if_ne (pc := 28) (tgt := 32) d_X1_note_28 rfl (fun _ => ?_) (fun hc => absurd hc (by omega))
    refine Tr.aload_n (pc := 32) (i := 0) d_X1_note_32 rfl rfl ?_
    refine Tr.getf (pc := 33) d_X1_note_33 f_1_15 (by decide) (by decide) (ty_56 hS.1.1) ?_
    refine Tr.tp 58 (fx_56_3 hS.1.1) ?_
    refine Tr.iload_n (pc := 36) (i := 1) d_X1_note_36 rfl rfl ?_
    refine Tr.iald (pc := 37) d_X1_note_37 (ty_58 hS.1.1) (by omega) (by omega) ?_
    refine Tr.gen (P := fun v => (-1) ≤ v ∧ v ≤ 59) (ar_58 hS.1.2.1 _) (fun r37 er37 br37 => ?_)
    refine Tr.istore (pc := 38) (i := 5) (ls2 := [(5, (0, r37)), (0, (2, 56)), (1, (0, a1)), (2, (0, a2)), (3, (0, a3)), (4, (0, a4))]) d_X1_note_38 (by decide) rfl ?_
    refine Tr.iload_n (pc := 40) (i := 2) d_X1_note_40 rfl rfl ?_
    refine Tr.tp 1 (by omega) ?_
    refine Tr.if_ne (pc := 41) (tgt := 52) d_X1_note_41 rfl (fun _ => ?_) (fun hc => absurd hc (by omega))
    refine Tr.iload (pc := 52) (i := 5) d_X1_note_52 rfl ?_
    refine Tr.if_lt (pc := 54) (tgt := 142) d_X1_note_54 rfl (fun c54 => ?_) (fun c54 => ?_)
    · exact Tr.vret (pc := 142) d_X1_note_142 rfl ⟨hS, rfl⟩
    · refine Tr.iload (pc := 57) (i := 4) d_X1_note_57 rfl ?_
      refine Tr.iload_n (pc := 59) (i := 3) d_X1_note_59 rfl rfl ?_
      refine Tr.isub (pc := 60) d_X1_note_60 ?_
      refine Tr.gen (P := fun v => (-2147483648) ≤ v ∧ v ≤ 2147483647) (w32_b _) (fun r60 er60 br60 => ?_)
      refine Tr.aload_n (pc := 61) (i := 0) d_X1_note_61 rfl rfl ?_
      refine Tr.getf (pc := 62) d_X1_note_62 f_1_41 (by decide) (by decide) (ty_56 hS.1.1) ?_
      refine Tr.tp 27 ((St.kp hS (by decide) (by decide) (by decide)).trans en_56_1) ?_
      refine Tr.getf (pc := 65) d_X1_note_65 f_1_71 (by decide) (by decide) (ty_27 hS.1.1) ?_
      refine Tr.tp 29 (fx_27_5 hS.1.1) ?_
      refine Tr.iload_n (pc := 68) (i := 1) d_X1_note_68 rfl rfl ?_
      refine Tr.iconst (pc := 69) d_X1_note_69 (by decide) ?_
      refine Tr.imul (pc := 70) d_X1_note_70 ?_
      refine Tr.tp (4 * a1) ((w32_id (by omega)).trans (by omega)) ?_
      refine Tr.iload_n (pc := 71) (i := 2) d_X1_note_71 rfl rfl ?_
      refine Tr.tp 1 (by omega) ?_
      refine Tr.iadd (pc := 72) d_X1_note_72 ?_
      refine Tr.tp (4 * a1 + 1) ((w32_id (by omega)).trans (by omega)) ?_
      refine Tr.iald (pc := 73) d_X1_note_73 (ty_29 hS.1.1) (by omega) (by omega) ?_
      refine Tr.gen (P := fun v => (-1) ≤ v ∧ v ≤ 999) (ar_29 hS.1.2.1 _) (fun r73 er73 br73 => ?_)
      refine Tr.imul (pc := 74) d_X1_note_74 ?_
      refine Tr.gen (P := fun v => (-2147483648) ≤ v ∧ v ≤ 2147483647) (w32_b _) (fun r74 er74 br74 => ?_)
      refine Tr.istore (pc := 75) (i := 6) (ls2 := [(6, (0, r74)), (5, (0, r37)), (0, (2, 56)), (1, (0, a1)), (2, (0, a2)), (3, (0, a3)), (4, (0, a4))]) d_X1_note_75 (by decide) rfl ?_
      refine Tr.aload_n (pc := 77) (i := 0) d_X1_note_77 rfl rfl ?_
      refine Tr.getf (pc := 78) d_X1_note_78 f_1_24 (by decide) (by decide) (ty_56 hS.1.1) ?_
      refine Tr.tp 61 (fx_56_6 hS.1.1) ?_
      refine Tr.iload (pc := 81) (i := 5) d_X1_note_81 rfl ?_
      refine Tr.dup2 (pc := 83) d_X1_note_83 ne01 ne21 ?_
      refine Tr.iald (pc := 84) d_X1_note_84 (ty_61 hS.1.1) (by omega) (by omega) ?_
      refine Tr.gen (P := fun v => (-2147483648) ≤ v ∧ v ≤ 2147483647) (ar_61 hS.1.2.1 _) (fun r84 er84 br84 => ?_)
      refine Tr.iload_n (pc := 85) (i := 2) d_X1_note_85 rfl rfl ?_
      refine Tr.tp 1 (by omega) ?_
      refine Tr.iconst (pc := 86) d_X1_note_86 (by decide) ?_
      refine Tr.icmp_ne (pc := 87) (tgt := 95) d_X1_note_87 rfl (fun _ => ?_) (fun hc => absurd hc (by omega))
      refine Tr.iconst (pc := 95) d_X1_note_95 (by decide) ?_
      refine Tr.iadd (pc := 96) d_X1_note_96 ?_
      refine Tr.tp r84 ((w32_id (by omega)).trans (by omega)) ?_
      refine Tr.iastS (pc := 97) (P := St Rn ws_X1_note_56_w6 as_X1_note_56_w6 M0) d_X1_note_97 (ty_61 hS.1.1) (by omega) (by omega) (sa_61 hS (by decide) (by omega) (Rn.of hS.1.2.2.2.2 (fun _ => rd_wb _ rfl) (rd_wb _ rfl))) (fun M97 hS w97 => ?_)
      refine Tr.aload_n (pc := 98) (i := 0) d_X1_note_98 rfl rfl ?_
      refine Tr.getf (pc := 99) d_X1_note_99 f_1_21 (by decide) (by decide) (ty_56 hS.1.1) ?_
      refine Tr.tp 60 (fx_56_5 hS.1.1) ?_
      refine Tr.iload (pc := 102) (i := 5) d_X1_note_102 rfl ?_
      refine Tr.dup2 (pc := 104) d_X1_note_104 ne01 ne21 ?_
      refine Tr.iald (pc := 105) d_X1_note_105 (ty_60 hS.1.1) (by omega) (by omega) ?_
      refine Tr.gen (P := fun v => (-2147483648) ≤ v ∧ v ≤ 2147483647) (ar_60 hS.1.2.1 _) (fun r105 er105 br105 => ?_)
      refine Tr.iload_n (pc := 106) (i := 2) d_X1_note_106 rfl rfl ?_
      refine Tr.tp 1 (by omega) ?_
      refine Tr.iconst (pc := 107) d_X1_note_107 (by decide) ?_
      refine Tr.icmp_ne (pc := 108) (tgt := 115) d_X1_note_108 rfl (fun _ => ?_) (fun hc => absurd hc (by omega))
      refine Tr.iload (pc := 115) (i := 6) d_X1_note_115 rfl ?_
      refine Tr.iadd (pc := 117) d_X1_note_117 ?_
      refine Tr.gen (P := fun v => (-2147483648) ≤ v ∧ v ≤ 2147483647) (w32_b _) (fun r117 er117 br117 => ?_)
      refine Tr.iastS (pc := 118) (P := St Rn ws_X1_note_56_w6 as_X1_note_56_w6 M0) d_X1_note_118 (ty_60 hS.1.1) (by omega) (by omega) (sa_60 hS (by decide) (by omega) (Rn.of hS.1.2.2.2.2 (fun _ => rd_wb _ rfl) (rd_wb _ rfl))) (fun M118 hS w118 => ?_)
      refine Tr.aload_n (pc := 119) (i := 0) d_X1_note_119 rfl rfl ?_
      refine Tr.getf (pc := 120) d_X1_note_120 f_1_33 (by decide) (by decide) (ty_56 hS.1.1) ?_
      refine Tr.tp 63 (fx_56_8 hS.1.1) ?_
      refine Tr.iload_n (pc := 123) (i := 1) d_X1_note_123 rfl rfl ?_
      refine Tr.iload (pc := 124) (i := 5) d_X1_note_124 rfl ?_
      refine Tr.iload_n (pc := 126) (i := 3) d_X1_note_126 rfl rfl ?_
      refine Tr.iload (pc := 127) (i := 4) d_X1_note_127 rfl ?_
      refine Tr.iload_n (pc := 129) (i := 2) d_X1_note_129 rfl rfl ?_
      refine Tr.tp 1 (by omega) ?_
      refine Tr.iconst (pc := 130) d_X1_note_130 (by decide) ?_
      refine Tr.icmp_ne (pc := 131) (tgt := 138) d_X1_note_131 rfl (fun _ => ?_) (fun hc => absurd hc (by omega))
      refine Tr.iconst (pc := 138) d_X1_note_138 (by decide) ?_
      refine Tr.callV (pc := 139) (as := [_, _, _, _, _]) d_X1_note_139 s_1_74 ok_X8_stayUp rfl rfl (Nat.le_of_ble_eq_true rfl) (Nat.le_of_ble_eq_true rfl) (by decide) (ty_63 hS.1.1) ?_
      refine Tr.imp (Tr.deep (by decide) (sp_X8_stayUp_63_w1 hS.1 a1 (by omega) r37 (by omega) a3 (by omega) a4 (by omega) 0 (by omega))) ?_
      rintro M139 _ ⟨h139, rfl⟩
      have hS := St.tr hS h139 (by decide) (by decide)
      refine Tr.sc [] rfl ?_
      exact Tr.vret (pc := 142) d_X1_note_142 rfl ⟨hS, rfl⟩
  · exact Tr.vret (pc := 6) d_X1_note_6 rfl ⟨hS, rfl⟩

def ws_X1_note_56_w7 : List (Int × Int) := [(63, 0)]
def as_X1_note_56_w7 : List Int := [57, 60, 61, 69, 191]
def q_X1_note_56_w7 (M0 M' : Mem) (r : Option PV) : Prop := St Rn ws_X1_note_56_w7 as_X1_note_56_w7 M0 M' ∧ r = none
set_option maxRecDepth 100000 in
set_option maxHeartbeats 4000000 in
theorem sp_X1_note_56_w7 {l : Launch} {K : EC} {M0 : Mem} (hI : In Rn M0) (en_56_1 : rd M0 56 1 = 27) (a1 : Int) (ha1 : 0 ≤ a1 ∧ a1 ≤ 5) (a2 : Int) (ha2 : 3 ≤ a2 ∧ a2 ≤ 3) (a3 : Int) (ha3 : (-2147483648) ≤ a3 ∧ a3 ≤ 2147483647) (a4 : Int) (ha4 : (-2147483648) ≤ a4 ∧ a4 ≤ 2147483647)  : Tr l K 1 mX1_note 0 [(0, (2, 56)), (1, (0, a1)), (2, (0, a2)), (3, (0, a3)), (4, (0, a4))] [] M0 (q_X1_note_56_w7 M0) := by
  have hS : St Rn ws_X1_note_56_w7 as_X1_note_56_w7 M0 M0 := St.rf hI
  refine Tr.iload_n (pc := 0) (i := 3) d_X1_note_0 rfl rfl ?_
  refine Tr.iload (pc := 1) (i := 4) d_X1_note_1 rfl ?_
  refine Tr.icmp_lt (pc := 3) (tgt := 7) d_X1_note_3 rfl (fun c3 => ?_) (fun c3 => ?_)
  · refine Tr.aload_n (pc := 7) (i := 0) d_X1_note_7 rfl rfl ?_
    refine Tr.getf (pc := 8) d_X1_note_8 f_1_9 (by decide) (by decide) (ty_56 hS.1.1) ?_
    refine Tr.tp 57 (fx_56_2 hS.1.1) ?_
    refine Tr.iload_n (pc := 11) (i := 1) d_X1_note_11 rfl rfl ?_
    refine Tr.iconst (pc := 12) d_X1_note_12 (by decide) ?_
    refine Tr.imul (pc := 13) d_X1_note_13 ?_
    refine Tr.tp (4 * a1) ((w32_id (by omega)).trans (by omega)) ?_
    refine Tr.iload_n (pc := 14) (i := 2) d_X1_note_14 rfl rfl ?_
    refine Tr.tp 3 (by omega) ?_
    refine Tr.iadd (pc := 15) d_X1_note_15 ?_
    refine Tr.tp (4 * a1 + 3) ((w32_id (by omega)).trans (by omega)) ?_
    refine Tr.dup2 (pc := 16) d_X1_note_16 ne01 ne21 ?_
    refine Tr.iald (pc := 17) d_X1_note_17 (ty_57 hS.1.1) (by omega) (by omega) ?_
    refine Tr.gen (P := fun v => (-2147483648) ≤ v ∧ v ≤ 2147483647) (ar_57 hS.1.2.1 _) (fun r17 er17 br17 => ?_)
    refine Tr.iload (pc := 18) (i := 4) d_X1_note_18 rfl ?_
    refine Tr.iload_n (pc := 20) (i := 3) d_X1_note_20 rfl rfl ?_
    refine Tr.isub (pc := 21) d_X1_note_21 ?_
    refine Tr.gen (P := fun v => (-2147483648) ≤ v ∧ v ≤ 2147483647) (w32_b _) (fun r21 er21 br21 => ?_)
    refine Tr.iadd (pc := 22) d_X1_note_22 ?_
    refine Tr.gen (P := fun v => (-2147483648) ≤ v ∧ v ≤ 2147483647) (w32_b _) (fun r22 er22 br22 => ?_)
    refine Tr.iastS (pc := 23) (P := St Rn ws_X1_note_56_w7 as_X1_note_56_w7 M0) d_X1_note_23 (ty_57 hS.1.1) (by omega) (by omega) (sa_57 hS (by decide) (by omega) (Rn.of hS.1.2.2.2.2 (fun _ => rd_wb _ rfl) (rd_wb _ rfl))) (fun M23 hS w23 => ?_)
    refine Tr.aload_n (pc := 24) (i := 0) d_X1_note_24 rfl rfl ?_
    refine Tr.getz (pc := 25) d_X1_note_25 f_1_37 (by decide) (ty_56 hS.1.1) ?_
    refine Tr.tp 1 (fx_56_0 hS.1.1) ?_
    refine Tr.if_ne (pc := 28) (tgt := 32) d_X1_note_28 rfl (fun _ => ?_) (fun hc => absurd hc (by omega))
    refine Tr.aload_n (pc := 32) (i := 0) d_X1_note_32 rfl rfl ?_
    refine Tr.getf (pc := 33) d_X1_note_33 f_1_15 (by decide) (by decide) (ty_56 hS.1.1) ?_
    refine Tr.tp 58 (fx_56_3 hS.1.1) ?_
    refine Tr.iload_n (pc := 36) (i := 1) d_X1_note_36 rfl rfl ?_
    refine Tr.iald (pc := 37) d_X1_note_37 (ty_58 hS.1.1) (by omega) (by omega) ?_
    refine Tr.gen (P := fun v => (-1) ≤ v ∧ v ≤ 59) (ar_58 hS.1.2.1 _) (fun r37 er37 br37 => ?_)
    refine Tr.istore (pc := 38) (i := 5) (ls2 := [(5, (0, r37)), (0, (2, 56)), (1, (0, a1)), (2, (0, a2)), (3, (0, a3)), (4, (0, a4))]) d_X1_note_38 (by decide) rfl ?_
    refine Tr.iload_n (pc := 40) (i := 2) d_X1_note_40 rfl rfl ?_
    refine Tr.tp 3 (by omega) ?_
    refine Tr.if_ne (pc := 41) (tgt := 52) d_X1_note_41 rfl (fun _ => ?_) (fun hc => absurd hc (by omega))
    refine Tr.iload (pc := 52) (i := 5) d_X1_note_52 rfl ?_
    refine Tr.if_lt (pc := 54) (tgt := 142) d_X1_note_54 rfl (fun c54 => ?_) (fun c54 => ?_)
    · exact Tr.vret (pc := 142) d_X1_note_142 rfl ⟨hS, rfl⟩
    · refine Tr.iload (pc := 57) (i := 4) d_X1_note_57 rfl ?_
      refine Tr.iload_n (pc := 59) (i := 3) d_X1_note_59 rfl rfl ?_
      refine Tr.isub (pc := 60) d_X1_note_60 ?_
      refine Tr.gen (P := fun v => (-2147483648) ≤ v ∧ v ≤ 2147483647) (w32_b _) (fun r60 er60 br60 => ?_)
      refine Tr.aload_n (pc := 61) (i := 0) d_X1_note_61 rfl rfl ?_
      refine Tr.getf (pc := 62) d_X1_note_62 f_1_41 (by decide) (by decide) (ty_56 hS.1.1) ?_
      refine Tr.tp 27 ((St.kp hS (by decide) (by decide) (by decide)).trans en_56_1) ?_
      refine Tr.getf (pc := 65) d_X1_note_65 f_1_71 (by decide) (by decide) (ty_27 hS.1.1) ?_
      refine Tr.tp 29 (fx_27_5 hS.1.1) ?_
      refine Tr.iload_n (pc := 68) (i := 1) d_X1_note_68 rfl rfl ?_
      refine Tr.iconst (pc := 69) d_X1_note_69 (by decide) ?_
      refine Tr.imul (pc := 70) d_X1_note_70 ?_
      refine Tr.tp (4 * a1) ((w32_id (by omega)).trans (by omega)) ?_
      refine Tr.iload_n (pc := 71) (i := 2) d_X1_note_71 rfl rfl ?_
      refine Tr.tp 3 (by omega) ?_
      refine Tr.iadd (pc := 72) d_X1_note_72 ?_
      refine Tr.tp (4 * a1 + 3) ((w32_id (by omega)).trans (by omega)) ?_
      refine Tr.iald (pc := 73) d_X1_note_73 (ty_29 hS.1.1) (by omega) (by omega) ?_
      refine Tr.gen (P := fun v => (-1) ≤ v ∧ v ≤ 999) (ar_29 hS.1.2.1 _) (fun r73 er73 br73 => ?_)
      refine Tr.imul (pc := 74) d_X1_note_74 ?_
      refine Tr.gen (P := fun v => (-2147483648) ≤ v ∧ v ≤ 2147483647) (w32_b _) (fun r74 er74 br74 => ?_)
      refine Tr.istore (pc := 75) (i := 6) (ls2 := [(6, (0, r74)), (5, (0, r37)), (0, (2, 56)), (1, (0, a1)), (2, (0, a2)), (3, (0, a3)), (4, (0, a4))]) d_X1_note_75 (by decide) rfl ?_
      refine Tr.aload_n (pc := 77) (i := 0) d_X1_note_77 rfl rfl ?_
      refine Tr.getf (pc := 78) d_X1_note_78 f_1_24 (by decide) (by decide) (ty_56 hS.1.1) ?_
      refine Tr.tp 61 (fx_56_6 hS.1.1) ?_
      refine Tr.iload (pc := 81) (i := 5) d_X1_note_81 rfl ?_
      refine Tr.dup2 (pc := 83) d_X1_note_83 ne01 ne21 ?_
      refine Tr.iald (pc := 84) d_X1_note_84 (ty_61 hS.1.1) (by omega) (by omega) ?_
      refine Tr.gen (P := fun v => (-2147483648) ≤ v ∧ v ≤ 2147483647) (ar_61 hS.1.2.1 _) (fun r84 er84 br84 => ?_)
      refine Tr.iload_n (pc := 85) (i := 2) d_X1_note_85 rfl rfl ?_
      refine Tr.tp 3 (by omega) ?_
      refine Tr.iconst (pc := 86) d_X1_note_86 (by decide) ?_
      refine Tr.icmp_ne (pc := 87) (tgt := 95) d_X1_note_87 rfl (fun _ => ?_) (fun hc => absurd hc (by omega))
      refine Tr.iconst (pc := 95) d_X1_note_95 (by decide) ?_
      refine Tr.iadd (pc := 96) d_X1_note_96 ?_
      refine Tr.tp r84 ((w32_id (by omega)).trans (by omega)) ?_
      refine Tr.iastS (pc := 97) (P := St Rn ws_X1_note_56_w7 as_X1_note_56_w7 M0) d_X1_note_97 (ty_61 hS.1.1) (by omega) (by omega) (sa_61 hS (by decide) (by omega) (Rn.of hS.1.2.2.2.2 (fun _ => rd_wb _ rfl) (rd_wb _ rfl))) (fun M97 hS w97 => ?_)
      refine Tr.aload_n (pc := 98) (i := 0) d_X1_note_98 rfl rfl ?_
      refine Tr.getf (pc := 99) d_X1_note_99 f_1_21 (by decide) (by decide) (ty_56 hS.1.1) ?_
      refine Tr.tp 60 (fx_56_5 hS.1.1) ?_
      refine Tr.iload (pc := 102) (i := 5) d_X1_note_102 rfl ?_
      refine Tr.dup2 (pc := 104) d_X1_note_104 ne01 ne21 ?_
      refine Tr.iald (pc := 105) d_X1_note_105 (ty_60 hS.1.1) (by omega) (by omega) ?_
      refine Tr.gen (P := fun v => (-2147483648) ≤ v ∧ v ≤ 2147483647) (ar_60 hS.1.2.1 _) (fun r105 er105 br105 => ?_)
      refine Tr.iload_n (pc := 106) (i := 2) d_X1_note_106 rfl rfl ?_
      refine Tr.tp 3 (by omega) ?_
      refine Tr.iconst (pc := 107) d_X1_note_107 (by decide) ?_
      refine Tr.icmp_ne (pc := 108) (tgt := 115) d_X1_note_108 rfl (fun _ => ?_) (fun hc => absurd hc (by omega))
      refine Tr.iload (pc := 115) (i := 6) d_X1_note_115 rfl ?_
      refine Tr.iadd (pc := 117) d_X1_note_117 ?_
      refine Tr.gen (P := fun v => (-2147483648) ≤ v ∧ v ≤ 2147483647) (w32_b _) (fun r117 er117 br117 => ?_)
      refine Tr.iastS (pc := 118) (P := St Rn ws_X1_note_56_w7 as_X1_note_56_w7 M0) d_X1_note_118 (ty_60 hS.1.1) (by omega) (by omega) (sa_60 hS (by decide) (by omega) (Rn.of hS.1.2.2.2.2 (fun _ => rd_wb _ rfl) (rd_wb _ rfl))) (fun M118 hS w118 => ?_)
      refine Tr.aload_n (pc := 119) (i := 0) d_X1_note_119 rfl rfl ?_
      refine Tr.getf (pc := 120) d_X1_note_120 f_1_33 (by decide) (by decide) (ty_56 hS.1.1) ?_
      refine Tr.tp 63 (fx_56_8 hS.1.1) ?_
      refine Tr.iload_n (pc := 123) (i := 1) d_X1_note_123 rfl rfl ?_
      refine Tr.iload (pc := 124) (i := 5) d_X1_note_124 rfl ?_
      refine Tr.iload_n (pc := 126) (i := 3) d_X1_note_126 rfl rfl ?_
      refine Tr.iload (pc := 127) (i := 4) d_X1_note_127 rfl ?_
      refine Tr.iload_n (pc := 129) (i := 2) d_X1_note_129 rfl rfl ?_
      refine Tr.tp 3 (by omega) ?_
      refine Tr.iconst (pc := 130) d_X1_note_130 (by decide) ?_
      refine Tr.icmp_ne (pc := 131) (tgt := 138) d_X1_note_131 rfl (fun _ => ?_) (fun hc => absurd hc (by omega))
      refine Tr.iconst (pc := 138) d_X1_note_138 (by decide) ?_
      refine Tr.callV (pc := 139) (as := [_, _, _, _, _]) d_X1_note_139 s_1_74 ok_X8_stayUp rfl rfl (Nat.le_of_ble_eq_true rfl) (Nat.le_of_ble_eq_true rfl) (by decide) (ty_63 hS.1.1) ?_
      refine Tr.imp (Tr.deep (by decide) (sp_X8_stayUp_63_w1 hS.1 a1 (by omega) r37 (by omega) a3 (by omega) a4 (by omega) 0 (by omega))) ?_
      rintro M139 _ ⟨h139, rfl⟩
      have hS := St.tr hS h139 (by decide) (by decide)
      refine Tr.sc [] rfl ?_
      exact Tr.vret (pc := 142) d_X1_note_142 rfl ⟨hS, rfl⟩
  · exact Tr.vret (pc := 6) d_X1_note_6 rfl ⟨hS, rfl⟩

def ws_X6_sipsAt_48_w5 : List (Int × Int) := []
def as_X6_sipsAt_48_w5 : List Int := []
def q_X6_sipsAt_48_w5 (M0 M' : Mem) (r : Option PV) : Prop := St Tru ws_X6_sipsAt_48_w5 as_X6_sipsAt_48_w5 M0 M' ∧ ∃ v : Int, r = some (0, v) ∧ (-2147483648) ≤ v ∧ v ≤ 2147483647
set_option maxRecDepth 100000 in
set_option maxHeartbeats 4000000 in
theorem sp_X6_sipsAt_48_w5 {l : Launch} {K : EC} {M0 : Mem} (hI : In Tru M0) (en_48_1 : rd M0 48 1 = 27) (a1 : Int) (ha1 : (-2147483648) ≤ a1 ∧ a1 ≤ 2147483647) (a2 : Int) (ha2 : 0 ≤ a2 ∧ a2 ≤ 5) (a3 : Int) (ha3 : 3 ≤ a3 ∧ a3 ≤ 3)  : Tr l K 0 mX6_sipsAt 0 [(0, (2, 48)), (1, (0, a1)), (2, (0, a2)), (3, (0, a3))] [] M0 (q_X6_sipsAt_48_w5 M0) := by
  have hS : St Tru ws_X6_sipsAt_48_w5 as_X6_sipsAt_48_w5 M0 M0 := St.rf hI
  refine Tr.aload_n (pc := 0) (i := 0) d_X6_sipsAt_0 rfl rfl ?_
  refine Tr.getf (pc := 1) d_X6_sipsAt_1 f_6_46 (by decide) (by decide) (ty_48 hS.1.1) ?_
  refine Tr.tp 27 ((St.kp hS (by decide) (by decide) (by decide)).trans en_48_1) ?_
  refine Tr.getf (pc := 4) d_X6_sipsAt_4 f_6_135 (by decide) (by decide) (ty_27 hS.1.1) ?_
  refine Tr.gen (P := fun v => (-1) ≤ v ∧ v ≤ 999) (ir_27_0 hS.1.2.1) (fun r4 er4 br4 => ?_)
  refine Tr.istore (pc := 7) (i := 4) (ls2 := [(4, (0, r4)), (0, (2, 48)), (1, (0, a1)), (2, (0, a2)), (3, (0, a3))]) d_X6_sipsAt_7 (by decide) rfl ?_
  refine Tr.iconst (pc := 9) d_X6_sipsAt_9 (by decide) ?_
  refine Tr.istore (pc := 10) (i := 5) (ls2 := [(5, (0, 0)), (4, (0, r4)), (0, (2, 48)), (1, (0, a1)), (2, (0, a2)), (3, (0, a3))]) d_X6_sipsAt_10 (by decide) rfl ?_
  have J12 : ∀ (n12 : Nat) (M : Mem) (p12_4 p12_5 : Int), St Tru ws_X6_sipsAt_48_w5 as_X6_sipsAt_48_w5 M0 M → ((-2147483648) ≤ p12_4 ∧ p12_4 ≤ 2147483647) → (0 ≤ p12_5 ∧ p12_5 ≤ 6) → rd M 27 0 = r4 → (6 - p12_5).toNat < n12 → Tr l K 0 mX6_sipsAt 12 [(0, (2, 48)), (1, (0, a1)), (2, (0, a2)), (3, (0, a3)), (4, (0, p12_4)), (5, (0, p12_5))] [] M (q_X6_sipsAt_48_w5 M0) := by
    intro n12
    induction n12 with
    | zero => intro M p12_4 p12_5 hS bp12_4 bp12_5 k12_27_0 hm12; exact absurd hm12 (Nat.not_lt_zero _)
    | succ n12 J12 =>
      intro M p12_4 p12_5 hS bp12_4 bp12_5 k12_27_0 hm12
      refine Tr.iload (pc := 12) (i := 5) d_X6_sipsAt_12 rfl ?_
      refine Tr.aload_n (pc := 14) (i := 0) d_X6_sipsAt_14 rfl rfl ?_
      refine Tr.getf (pc := 15) d_X6_sipsAt_15 f_6_46 (by decide) (by decide) (ty_48 hS.1.1) ?_
      refine Tr.tp 27 ((St.kp hS (by decide) (by decide) (by decide)).trans en_48_1) ?_
      refine Tr.getf (pc := 18) d_X6_sipsAt_18 f_6_116 (by decide) (by decide) (ty_27 hS.1.1) ?_
      refine Tr.tp 28 (fx_27_4 hS.1.1) ?_
      refine Tr.iconst (pc := 21) d_X6_sipsAt_21 (by decide) ?_
      refine Tr.iald (pc := 22) d_X6_sipsAt_22 (ty_28 hS.1.1) (by omega) (by omega) ?_
      refine Tr.gen (P := fun v => 0 ≤ v ∧ v ≤ 6) (ir_28_0 hS.1.2.1) (fun r22 er22 br22 => ?_)
      refine Tr.icmp_ge (pc := 23) (tgt := 91) d_X6_sipsAt_23 rfl (fun c23 => ?_) (fun c23 => ?_)
      · refine Tr.iload (pc := 91) (i := 4) d_X6_sipsAt_91 rfl ?_
        exact Tr.iret (pc := 93) d_X6_sipsAt_93 rfl ⟨hS, _, rfl, by omega, by omega⟩
      · refine Tr.aload_n (pc := 26) (i := 0) d_X6_sipsAt_26 rfl rfl ?_
        refine Tr.getf (pc := 27) d_X6_sipsAt_27 f_6_24 (by decide) (by decide) (ty_48 hS.1.1) ?_
        refine Tr.tp 53 (fx_48_6 hS.1.1) ?_
        refine Tr.iload (pc := 30) (i := 5) d_X6_sipsAt_30 rfl ?_
        refine Tr.iald (pc := 32) d_X6_sipsAt_32 (ty_53 hS.1.1) (by omega) (by omega) ?_
        refine Tr.gen (P := fun v => 0 ≤ v ∧ v ≤ 1) (ar_53 hS.1.2.1 _) (fun r32 er32 br32 => ?_)
        refine Tr.iconst (pc := 33) d_X6_sipsAt_33 (by decide) ?_
        have J53 : ∀ (M : Mem) (q53_0 : Int), St Tru ws_X6_sipsAt_48_w5 as_X6_sipsAt_48_w5 M0 M → (0 ≤ q53_0 ∧ q53_0 ≤ 2) → rd M 27 0 = r4 → rd M 28 0 = r22 → rd M 53 p12_5 = r32 → Tr l K 0 mX6_sipsAt 53 [(0, (2, 48)), (1, (0, a1)), (2, (0, a2)), (3, (0, a3)), (4, (0, p12_4)), (5, (0, p12_5))] [(0, q53_0)] M (q_X6_sipsAt_48_w5 M0) := by
          intro M q53_0 hS bq53_0 k53_27_0 k53_28_0 k53_53_p12_510
          refine Tr.istore (pc := 53) (i := 6) (ls2 := [(6, (0, q53_0)), (0, (2, 48)), (1, (0, a1)), (2, (0, a2)), (3, (0, a3)), (4, (0, p12_4)), (5, (0, p12_5))]) d_X6_sipsAt_53 (by decide) rfl ?_
          refine Tr.iload (pc := 55) (i := 4) d_X6_sipsAt_55 rfl ?_
          refine Tr.aload_n (pc := 57) (i := 0) d_X6_sipsAt_57 rfl rfl ?_
          refine Tr.getf (pc := 58) d_X6_sipsAt_58 f_6_46 (by decide) (by decide) (ty_48 hS.1.1) ?_
          refine Tr.tp 27 ((St.kp hS (by decide) (by decide) (by decide)).trans en_48_1) ?_
          refine Tr.getf (pc := 61) d_X6_sipsAt_61 f_6_189 (by decide) (by decide) (ty_27 hS.1.1) ?_
          refine Tr.tp 29 (fx_27_5 hS.1.1) ?_
          refine Tr.iload (pc := 64) (i := 5) d_X6_sipsAt_64 rfl ?_
          refine Tr.iconst (pc := 66) d_X6_sipsAt_66 (by decide) ?_
          refine Tr.imul (pc := 67) d_X6_sipsAt_67 ?_
          refine Tr.tp (4 * p12_5) ((w32_id (by omega)).trans (by omega)) ?_
          refine Tr.iload (pc := 68) (i := 5) d_X6_sipsAt_68 rfl ?_
          refine Tr.iload_n (pc := 70) (i := 2) d_X6_sipsAt_70 rfl rfl ?_
          have J80 : ∀ (M : Mem) (q80_3 : Int), St Tru ws_X6_sipsAt_48_w5 as_X6_sipsAt_48_w5 M0 M → (0 ≤ q80_3 ∧ q80_3 ≤ 3) → rd M 27 0 = r4 → rd M 28 0 = r22 → rd M 53 p12_5 = r32 → Tr l K 0 mX6_sipsAt 80 [(0, (2, 48)), (1, (0, a1)), (2, (0, a2)), (3, (0, a3)), (5, (0, p12_5))] [(0, q80_3), (0, (4 * p12_5)), (2, 29), (0, p12_4)] M (q_X6_sipsAt_48_w5 M0) := by
            intro M q80_3 hS bq80_3 k80_27_0 k80_28_0 k80_53_p12_510
            refine Tr.iadd (pc := 80) d_X6_sipsAt_80 ?_
            refine Tr.tp (4 * p12_5 + q80_3) ((w32_id (by omega)).trans (by omega)) ?_
            refine Tr.iald (pc := 81) d_X6_sipsAt_81 (ty_29 hS.1.1) (by omega) (by omega) ?_
            refine Tr.gen (P := fun v => (-1) ≤ v ∧ v ≤ 999) (ar_29 hS.1.2.1 _) (fun r81 er81 br81 => ?_)
            refine Tr.iadd (pc := 82) d_X6_sipsAt_82 ?_
            refine Tr.gen (P := fun v => (-2147483648) ≤ v ∧ v ≤ 2147483647) (w32_b _) (fun r82 er82 br82 => ?_)
            refine Tr.istore (pc := 83) (i := 4) (ls2 := [(4, (0, r82)), (0, (2, 48)), (1, (0, a1)), (2, (0, a2)), (3, (0, a3)), (5, (0, p12_5))]) d_X6_sipsAt_83 (by decide) rfl ?_
            refine Tr.iincV (pc := 85) (n2 := (p12_5 + 1)) (ls2 := [(5, (0, (p12_5 + 1))), (4, (0, r82)), (0, (2, 48)), (1, (0, a1)), (2, (0, a2)), (3, (0, a3))]) d_X6_sipsAt_85 rfl (by decide) ((w32_id (by omega)).trans (by omega)) rfl ?_
            refine Tr.goto (pc := 88) (tgt := 12) d_X6_sipsAt_88 rfl ?_
            refine Tr.pick [2, 3, 4, 5, 1, 0] (ls2 := [(0, (2, 48)), (1, (0, a1)), (2, (0, a2)), (3, (0, a3)), (4, (0, r82)), (5, (0, (p12_5 + 1)))]) rfl ?_
            exact J12 _ _ _ hS (by omega) (by omega) k80_27_0 (by omega)
          refine Tr.icmp_ne (pc := 71) (tgt := 78) d_X6_sipsAt_71 rfl (fun c71 => ?_) (fun c71 => ?_)
          · refine Tr.iload (pc := 78) (i := 6) d_X6_sipsAt_78 rfl ?_
            refine Tr.pick [1, 2, 3, 4, 6] (ls2 := [(0, (2, 48)), (1, (0, a1)), (2, (0, a2)), (3, (0, a3)), (5, (0, p12_5))]) rfl ?_
            exact J80 _ _ hS (by omega) k53_27_0 k53_28_0 k53_53_p12_510
          · refine Tr.iload_n (pc := 74) (i := 3) d_X6_sipsAt_74 rfl rfl ?_
            refine Tr.tp 3 (by omega) ?_
            refine Tr.goto (pc := 75) (tgt := 80) d_X6_sipsAt_75 rfl ?_
            refine Tr.pick [1, 2, 3, 4, 6] (ls2 := [(0, (2, 48)), (1, (0, a1)), (2, (0, a2)), (3, (0, a3)), (5, (0, p12_5))]) rfl ?_
            exact J80 _ _ hS (by omega) k53_27_0 k53_28_0 k53_53_p12_510
        have J48 : ∀ (M : Mem), St Tru ws_X6_sipsAt_48_w5 as_X6_sipsAt_48_w5 M0 M → rd M 27 0 = r4 → rd M 28 0 = r22 → rd M 53 p12_5 = r32 → Tr l K 0 mX6_sipsAt 48 [(0, (2, 48)), (1, (0, a1)), (2, (0, a2)), (3, (0, a3)), (4, (0, p12_4)), (5, (0, p12_5))] [] M (q_X6_sipsAt_48_w5 M0) := by
          intro M  hS  k48_27_0 k48_28_0 k48_53_p12_510
          refine Tr.iconst (pc := 48) d_X6_sipsAt_48 (by decide) ?_
          refine Tr.goto (pc := 49) (tgt := 53) d_X6_sipsAt_49 rfl ?_
          refine Tr.pick [0, 1, 2, 3, 4, 5] (ls2 := [(0, (2, 48)), (1, (0, a1)), (2, (0, a2)), (3, (0, a3)), (4, (0, p12_4)), (5, (0, p12_5))]) rfl ?_
          exact J53 _ _ hS (by omega) k48_27_0 k48_28_0 k48_53_p12_510
        refine Tr.icmp_eq (pc := 34) (tgt := 48) d_X6_sipsAt_34 rfl (fun c34 => ?_) (fun c34 => ?_)
        · refine Tr.pick [0, 1, 2, 3, 4, 5] (ls2 := [(0, (2, 48)), (1, (0, a1)), (2, (0, a2)), (3, (0, a3)), (4, (0, p12_4)), (5, (0, p12_5))]) rfl ?_
          exact J48 _ hS k12_27_0 er22 er32
        · refine Tr.iload_n (pc := 37) (i := 1) d_X6_sipsAt_37 rfl rfl ?_
          refine Tr.aload_n (pc := 38) (i := 0) d_X6_sipsAt_38 rfl rfl ?_
          refine Tr.getf (pc := 39) d_X6_sipsAt_39 f_6_27 (by decide) (by decide) (ty_48 hS.1.1) ?_
          refine Tr.tp 54 (fx_48_7 hS.1.1) ?_
          refine Tr.iload (pc := 42) (i := 5) d_X6_sipsAt_42 rfl ?_
          refine Tr.iald (pc := 44) d_X6_sipsAt_44 (ty_54 hS.1.1) (by omega) (by omega) ?_
          refine Tr.gen (P := fun v => (-2147483648) ≤ v ∧ v ≤ 2147483647) (ar_54 hS.1.2.1 _) (fun r44 er44 br44 => ?_)
          refine Tr.icmp_ge (pc := 45) (tgt := 52) d_X6_sipsAt_45 rfl (fun c45 => ?_) (fun c45 => ?_)
          · refine Tr.iconst (pc := 52) d_X6_sipsAt_52 (by decide) ?_
            refine Tr.pick [0, 1, 2, 3, 4, 5] (ls2 := [(0, (2, 48)), (1, (0, a1)), (2, (0, a2)), (3, (0, a3)), (4, (0, p12_4)), (5, (0, p12_5))]) rfl ?_
            exact J53 _ _ hS (by omega) k12_27_0 er22 er32
          · refine Tr.pick [0, 1, 2, 3, 4, 5] (ls2 := [(0, (2, 48)), (1, (0, a1)), (2, (0, a2)), (3, (0, a3)), (4, (0, p12_4)), (5, (0, p12_5))]) rfl ?_
            exact J48 _ hS k12_27_0 er22 er32
  refine Tr.pick [2, 3, 4, 5, 1, 0] (ls2 := [(0, (2, 48)), (1, (0, a1)), (2, (0, a2)), (3, (0, a3)), (4, (0, r4)), (5, (0, 0))]) rfl ?_
  exact J12 _ _ _ _ hS (by omega) (by omega) er4 (Nat.lt_succ_self _)

def ws_X6_afforded_48_w9 : List (Int × Int) := [(48, 17)]
def as_X6_afforded_48_w9 : List Int := []
def q_X6_afforded_48_w9 (M0 M' : Mem) (r : Option PV) : Prop := St Tru ws_X6_afforded_48_w9 as_X6_afforded_48_w9 M0 M' ∧ ∃ v : Int, r = some (0, v) ∧ (-2147483648) ≤ v ∧ v ≤ 50
set_option maxRecDepth 100000 in
set_option maxHeartbeats 4000000 in
theorem sp_X6_afforded_48_w9 {l : Launch} {K : EC} {M0 : Mem} (hI : In Tru M0) (en_48_1 : rd M0 48 1 = 27) (a1 : Int) (ha1 : (-2147483648) ≤ a1 ∧ a1 ≤ 50) (a2 : Int) (ha2 : 0 ≤ a2 ∧ a2 ≤ 5) (a3 : Int) (ha3 : 3 ≤ a3 ∧ a3 ≤ 3)  : Tr l K 1 mX6_afforded 0 [(0, (2, 48)), (1, (0, a1)), (2, (0, a2)), (3, (0, a3))] [] M0 (q_X6_afforded_48_w9 M0) := by
  have hS : St Tru ws_X6_afforded_48_w9 as_X6_afforded_48_w9 M0 M0 := St.rf hI
  refine Tr.iconst (pc := 0) d_X6_afforded_0 (by decide) ?_
  refine Tr.istore (pc := 1) (i := 4) (ls2 := [(4, (0, 0)), (0, (2, 48)), (1, (0, a1)), (2, (0, a2)), (3, (0, a3))]) d_X6_afforded_1 (by decide) rfl ?_
  have J3 : ∀ (n3 : Nat) (M : Mem) (p3_4 : Int), St Tru ws_X6_afforded_48_w9 as_X6_afforded_48_w9 M0 M → (0 ≤ p3_4 ∧ p3_4 ≤ 50) → (50 - p3_4).toNat < n3 → Tr l K 1 mX6_afforded 3 [(0, (2, 48)), (1, (0, a1)), (2, (0, a2)), (3, (0, a3)), (4, (0, p3_4))] [] M (q_X6_afforded_48_w9 M0) := by
    intro n3
    induction n3 with
    | zero => intro M p3_4 hS bp3_4  hm3; exact absurd hm3 (Nat.not_lt_zero _)
    | succ n3 J3 =>
      intro M p3_4 hS bp3_4  hm3
      refine Tr.iload (pc := 3) (i := 4) d_X6_afforded_3 rfl ?_
      refine Tr.iload_n (pc := 5) (i := 1) d_X6_afforded_5 rfl rfl ?_
      refine Tr.icmp_ge (pc := 6) (tgt := 53) d_X6_afforded_6 rfl (fun c6 => ?_) (fun c6 => ?_)
      · refine Tr.iload_n (pc := 53) (i := 1) d_X6_afforded_53 rfl rfl ?_
        exact Tr.iret (pc := 54) d_X6_afforded_54 rfl ⟨hS, _, rfl, by omega, by omega⟩
      · refine Tr.aload_n (pc := 9) (i := 0) d_X6_afforded_9 rfl rfl ?_
        refine Tr.aload_n (pc := 10) (i := 0) d_X6_afforded_10 rfl rfl ?_
        refine Tr.getf (pc := 11) d_X6_afforded_11 f_6_68 (by decide) (by decide) (ty_48 hS.1.1) ?_
        refine Tr.gen (P := fun v => (-2147483648) ≤ v ∧ v ≤ 2147483647) (ir_48_9 hS.1.2.1) (fun r11 er11 br11 => ?_)
        refine Tr.iload (pc := 14) (i := 4) d_X6_afforded_14 rfl ?_
        refine Tr.iadd (pc := 16) d_X6_afforded_16 ?_
        refine Tr.gen (P := fun v => (-2147483648) ≤ v ∧ v ≤ 2147483647) (w32_b _) (fun r16 er16 br16 => ?_)
        refine Tr.iload_n (pc := 17) (i := 2) d_X6_afforded_17 rfl rfl ?_
        refine Tr.iload_n (pc := 18) (i := 3) d_X6_afforded_18 rfl rfl ?_
        refine Tr.tp 3 (by omega) ?_
        refine Tr.callV (pc := 19) (as := [_, _, _]) d_X6_afforded_19 s_6_186 ok_X6_sipsAt rfl rfl (Nat.le_of_ble_eq_true rfl) (Nat.le_of_ble_eq_true rfl) (by decide) (ty_48 hS.1.1) ?_
        refine Tr.imp (Tr.deep (by decide) (sp_X6_sipsAt_48_w5 hS.1 ((St.kp hS (by decide) (by decide) (by decide)).trans en_48_1) r16 (by omega) a2 (by omega) 3 (by omega))) ?_
        rintro M19 _ ⟨h19, r19, rfl, lr19, ur19⟩
        have hS := St.tr hS h19 (by decide) (by decide)
        refine Tr.sc [(0, r19)] rfl ?_
        refine Tr.istore (pc := 22) (i := 5) (ls2 := [(5, (0, r19)), (0, (2, 48)), (1, (0, a1)), (2, (0, a2)), (3, (0, a3)), (4, (0, p3_4))]) d_X6_afforded_22 (by decide) rfl ?_
        refine Tr.iload (pc := 24) (i := 5) d_X6_afforded_24 rfl ?_
        refine Tr.aload_n (pc := 26) (i := 0) d_X6_afforded_26 rfl rfl ?_
        refine Tr.getf (pc := 27) d_X6_afforded_27 f_6_110 (by decide) (by decide) (ty_48 hS.1.1) ?_
        refine Tr.gen (P := fun v => (-2147483648) ≤ v ∧ v ≤ 2147483647) (ir_48_17 hS.1.2.1) (fun r27 er27 br27 => ?_)
        refine Tr.icmp_le (pc := 30) (tgt := 36) d_X6_afforded_30 rfl (fun c30 => ?_) (fun c30 => ?_)
        · refine Tr.aload_n (pc := 36) (i := 0) d_X6_afforded_36 rfl rfl ?_
          refine Tr.dup (pc := 37) d_X6_afforded_37 ne21 ?_
          refine Tr.getf (pc := 38) d_X6_afforded_38 f_6_110 (by decide) (by decide) (ty_48 hS.1.1) ?_
          refine Tr.tp r27 er27 ?_
          refine Tr.iload (pc := 41) (i := 5) d_X6_afforded_41 rfl ?_
          refine Tr.isub (pc := 43) d_X6_afforded_43 ?_
          refine Tr.gen (P := fun v => (-2147483648) ≤ v ∧ v ≤ 2147483647) (w32_b _) (fun r43 er43 br43 => ?_)
          refine Tr.putfS (pc := 44) (P := St Tru ws_X6_afforded_48_w9 as_X6_afforded_48_w9 M0) d_X6_afforded_44 f_6_110 (by decide) (by decide) (ty_48 hS.1.1) (st_48_17 hS (by decide) (by omega) trivial) (fun M44 hS w44 => ?_)
          refine Tr.iincV (pc := 47) (n2 := (p3_4 + 1)) (ls2 := [(4, (0, (p3_4 + 1))), (5, (0, r19)), (0, (2, 48)), (1, (0, a1)), (2, (0, a2)), (3, (0, a3))]) d_X6_afforded_47 rfl (by decide) ((w32_id (by omega)).trans (by omega)) rfl ?_
          refine Tr.goto (pc := 50) (tgt := 3) d_X6_afforded_50 rfl ?_
          refine Tr.pick [2, 3, 4, 5, 0] (ls2 := [(0, (2, 48)), (1, (0, a1)), (2, (0, a2)), (3, (0, a3)), (4, (0, (p3_4 + 1)))]) rfl ?_
          exact J3 _ _ hS (by omega) (by omega)
        · refine Tr.iload (pc := 33) (i := 4) d_X6_afforded_33 rfl ?_
          exact Tr.iret (pc := 35) d_X6_afforded_35 rfl ⟨hS, _, rfl, by omega, by omega⟩
  refine Tr.pick [1, 2, 3, 4, 0] (ls2 := [(0, (2, 48)), (1, (0, a1)), (2, (0, a2)), (3, (0, a3)), (4, (0, 0))]) rfl ?_
  exact J3 _ _ _ hS (by omega) (Nat.lt_succ_self _)

def ws_X6_pass_48_w9 : List (Int × Int) := [(48, 9), (48, 14), (48, 17)]
def as_X6_pass_48_w9 : List Int := []
def q_X6_pass_48_w9 (M0 M' : Mem) (r : Option PV) : Prop := St Tru ws_X6_pass_48_w9 as_X6_pass_48_w9 M0 M' ∧ ∃ v : Int, r = some (0, v) ∧ (-2147483648) ≤ v ∧ v ≤ 50
set_option maxRecDepth 100000 in
set_option maxHeartbeats 4000000 in
theorem sp_X6_pass_48_w9 {l : Launch} {K : EC} {M0 : Mem} (hI : In Tru M0) (en_48_1 : rd M0 48 1 = 27) (a1 : Int) (ha1 : 0 ≤ a1 ∧ a1 ≤ 50) (a2 : Int) (ha2 : 0 ≤ a2 ∧ a2 ≤ 5) (a3 : Int) (ha3 : 3 ≤ a3 ∧ a3 ≤ 3)  : Tr l K 2 mX6_pass 0 [(0, (2, 48)), (1, (0, a1)), (2, (0, a2)), (3, (0, a3))] [] M0 (q_X6_pass_48_w9 M0) := by
  have hS : St Tru ws_X6_pass_48_w9 as_X6_pass_48_w9 M0 M0 := St.rf hI
  refine Tr.iload_n (pc := 0) (i := 1) d_X6_pass_0 rfl rfl ?_
  refine Tr.sipush (pc := 1) d_X6_pass_1 rfl (by decide) ?_
  refine Tr.aload_n (pc := 4) (i := 0) d_X6_pass_4 rfl rfl ?_
  refine Tr.getf (pc := 5) d_X6_pass_5 f_6_68 (by decide) (by decide) (ty_48 hS.1.1) ?_
  refine Tr.gen (P := fun v => (-2147483648) ≤ v ∧ v ≤ 2147483647) (ir_48_9 hS.1.2.1) (fun r5 er5 br5 => ?_)
  refine Tr.isub (pc := 8) d_X6_pass_8 ?_
  refine Tr.gen (P := fun v => (-2147483648) ≤ v ∧ v ≤ 2147483647) (w32_b _) (fun r8 er8 br8 => ?_)
  refine Tr.mmin (pc := 9) d_X6_pass_9 ml_6_158 mw_mmin (Nat.le_of_ble_eq_true rfl) ?_
  refine Tr.gen (P := fun v => (v = a1 ∧ a1 ≤ r8) ∨ (v = r8 ∧ r8 ≤ a1)) (f_min_p _ _) (fun r9 er9 br9 => ?_)
  refine Tr.istore (pc := 12) (i := 4) (ls2 := [(4, (0, r9)), (0, (2, 48)), (1, (0, a1)), (2, (0, a2)), (3, (0, a3))]) d_X6_pass_12 (by decide) rfl ?_
  refine Tr.aload_n (pc := 14) (i := 0) d_X6_pass_14 rfl rfl ?_
  refine Tr.getz (pc := 15) d_X6_pass_15 f_6_106 (by decide) (ty_48 hS.1.1) ?_
  refine Tr.gen (P := fun v => 0 ≤ v ∧ v ≤ 1) (ir_48_16 hS.1.2.1) (fun r15 er15 br15 => ?_)
  have J34 : ∀ (M : Mem) (q34_0 : Int), St Tru ws_X6_pass_48_w9 as_X6_pass_48_w9 M0 M → ((-2147483648) ≤ q34_0 ∧ q34_0 ≤ 50) → rd M 48 16 = r15 → rd M 48 9 = r5 → Tr l K 2 mX6_pass 34 [(0, (2, 48)), (1, (0, a1)), (4, (0, r9))] [(0, q34_0)] M (q_X6_pass_48_w9 M0) := by
    intro M q34_0 hS bq34_0 k34_48_16 k34_48_9
    refine Tr.istore (pc := 34) (i := 5) (ls2 := [(5, (0, q34_0)), (0, (2, 48)), (1, (0, a1)), (4, (0, r9))]) d_X6_pass_34 (by decide) rfl ?_
    refine Tr.aload_n (pc := 36) (i := 0) d_X6_pass_36 rfl rfl ?_
    refine Tr.dup (pc := 37) d_X6_pass_37 ne21 ?_
    refine Tr.getf (pc := 38) d_X6_pass_38 f_6_68 (by decide) (by decide) (ty_48 hS.1.1) ?_
    refine Tr.tp r5 k34_48_9 ?_
    refine Tr.iload (pc := 41) (i := 5) d_X6_pass_41 rfl ?_
    refine Tr.iadd (pc := 43) d_X6_pass_43 ?_
    refine Tr.gen (P := fun v => (-2147483648) ≤ v ∧ v ≤ 2147483647) (w32_b _) (fun r43 er43 br43 => ?_)
    refine Tr.putfS (pc := 44) (P := St Tru ws_X6_pass_48_w9 as_X6_pass_48_w9 M0) d_X6_pass_44 f_6_68 (by decide) (by decide) (ty_48 hS.1.1) (st_48_9 hS (by decide) (by omega) trivial) (fun M44 hS w44 => ?_)
    refine Tr.iload (pc := 47) (i := 5) d_X6_pass_47 rfl ?_
    refine Tr.iload_n (pc := 49) (i := 1) d_X6_pass_49 rfl rfl ?_
    refine Tr.icmp_ge (pc := 50) (tgt := 69) d_X6_pass_50 rfl (fun c50 => ?_) (fun c50 => ?_)
    · refine Tr.iload (pc := 69) (i := 5) d_X6_pass_69 rfl ?_
      exact Tr.iret (pc := 71) d_X6_pass_71 rfl ⟨hS, _, rfl, by omega, by omega⟩
    · refine Tr.aload_n (pc := 53) (i := 0) d_X6_pass_53 rfl rfl ?_
      refine Tr.iload (pc := 54) (i := 5) d_X6_pass_54 rfl ?_
      refine Tr.iload (pc := 56) (i := 4) d_X6_pass_56 rfl ?_
      refine Tr.icmp_ne (pc := 58) (tgt := 65) d_X6_pass_58 rfl (fun c58 => ?_) (fun c58 => ?_)
      · refine Tr.iconst (pc := 65) d_X6_pass_65 (by decide) ?_
        refine Tr.putfS (pc := 66) (P := St Tru ws_X6_pass_48_w9 as_X6_pass_48_w9 M0) d_X6_pass_66 f_6_62 (by decide) (by decide) (ty_48 hS.1.1) (st_48_14 hS (by decide) (by omega) trivial) (fun M66 hS w66 => ?_)
        refine Tr.iload (pc := 69) (i := 5) d_X6_pass_69 rfl ?_
        exact Tr.iret (pc := 71) d_X6_pass_71 rfl ⟨hS, _, rfl, by omega, by omega⟩
      · refine Tr.iconst (pc := 61) d_X6_pass_61 (by decide) ?_
        refine Tr.goto (pc := 62) (tgt := 66) d_X6_pass_62 rfl ?_
        refine Tr.putfS (pc := 66) (P := St Tru ws_X6_pass_48_w9 as_X6_pass_48_w9 M0) d_X6_pass_66 f_6_62 (by decide) (by decide) (ty_48 hS.1.1) (st_48_14 hS (by decide) (by omega) trivial) (fun M66 hS w66 => ?_)
        refine Tr.iload (pc := 69) (i := 5) d_X6_pass_69 rfl ?_
        exact Tr.iret (pc := 71) d_X6_pass_71 rfl ⟨hS, _, rfl, by omega, by omega⟩
  refine Tr.if_eq (pc := 18) (tgt := 32) d_X6_pass_18 rfl (fun c18 => ?_) (fun c18 => ?_)
  · refine Tr.iload (pc := 32) (i := 4) d_X6_pass_32 rfl ?_
    refine Tr.pick [1, 2, 0] (ls2 := [(0, (2, 48)), (1, (0, a1)), (4, (0, r9))]) rfl ?_
    exact J34 _ _ hS (by omega) er15 er5
  · refine Tr.aload_n (pc := 21) (i := 0) d_X6_pass_21 rfl rfl ?_
    refine Tr.iload (pc := 22) (i := 4) d_X6_pass_22 rfl ?_
    refine Tr.iload_n (pc := 24) (i := 2) d_X6_pass_24 rfl rfl ?_
    refine Tr.iload_n (pc := 25) (i := 3) d_X6_pass_25 rfl rfl ?_
    refine Tr.tp 3 (by omega) ?_
    refine Tr.callV (pc := 26) (as := [_, _, _]) d_X6_pass_26 s_6_183 ok_X6_afforded rfl rfl (Nat.le_of_ble_eq_true rfl) (Nat.le_of_ble_eq_true rfl) (by decide) (ty_48 hS.1.1) ?_
    refine Tr.imp (Tr.deep (by decide) (sp_X6_afforded_48_w9 hS.1 ((St.kp hS (by decide) (by decide) (by decide)).trans en_48_1) r9 (by omega) a2 (by omega) 3 (by omega))) ?_
    rintro M26 _ ⟨h26, r26, rfl, lr26, ur26⟩
    have hS := St.tr hS h26 (by decide) (by decide)
    refine Tr.sc [(0, r26)] rfl ?_
    refine Tr.goto (pc := 29) (tgt := 34) d_X6_pass_29 rfl ?_
    refine Tr.pick [1, 2, 0] (ls2 := [(0, (2, 48)), (1, (0, a1)), (4, (0, r9))]) rfl ?_
    exact J34 _ _ hS (by omega) ((St.kp h26 (by decide) (by decide) (by decide)).trans er15) ((St.kp h26 (by decide) (by decide) (by decide)).trans er5)

def ws_X1_sippedByParts_56_w1 : List (Int × Int) := []
def as_X1_sippedByParts_56_w1 : List Int := []
def q_X1_sippedByParts_56_w1 (M0 M' : Mem) (r : Option PV) : Prop := St Tru ws_X1_sippedByParts_56_w1 as_X1_sippedByParts_56_w1 M0 M' ∧ ∃ v : Int, r = some (0, v) ∧ (-2147483648) ≤ v ∧ v ≤ 2147483647
set_option maxRecDepth 100000 in
set_option maxHeartbeats 4000000 in
theorem sp_X1_sippedByParts_56_w1 {l : Launch} {K : EC} {M0 : Mem} (hI : In Tru M0) (en_56_1 : rd M0 56 1 = 27)   : Tr l K 0 mX1_sippedByParts 0 [(0, (2, 56))] [] M0 (q_X1_sippedByParts_56_w1 M0) := by
  have hS : St Tru ws_X1_sippedByParts_56_w1 as_X1_sippedByParts_56_w1 M0 M0 := St.rf hI
  refine Tr.iconst (pc := 0) d_X1_sippedByParts_0 (by decide) ?_
  refine Tr.istore_n (pc := 1) (i := 1) (ls2 := [(1, (0, 0)), (0, (2, 56))]) d_X1_sippedByParts_1 rfl (by decide) rfl ?_
  refine Tr.iconst (pc := 2) d_X1_sippedByParts_2 (by decide) ?_
  refine Tr.istore_n (pc := 3) (i := 2) (ls2 := [(2, (0, 0)), (1, (0, 0)), (0, (2, 56))]) d_X1_sippedByParts_3 rfl (by decide) rfl ?_
  have J4 : ∀ (n4 : Nat) (M : Mem) (p4_1 p4_2 : Int), St Tru ws_X1_sippedByParts_56_w1 as_X1_sippedByParts_56_w1 M0 M → ((-2147483648) ≤ p4_1 ∧ p4_1 ≤ 2147483647) → (0 ≤ p4_2 ∧ p4_2 ≤ 24) → (24 - p4_2).toNat < n4 → Tr l K 0 mX1_sippedByParts 4 [(0, (2, 56)), (1, (0, p4_1)), (2, (0, p4_2))] [] M (q_X1_sippedByParts_56_w1 M0) := by
    intro n4
    induction n4 with
    | zero => intro M p4_1 p4_2 hS bp4_1 bp4_2  hm4; exact absurd hm4 (Nat.not_lt_zero _)
    | succ n4 J4 =>
      intro M p4_1 p4_2 hS bp4_1 bp4_2  hm4
      refine Tr.iload_n (pc := 4) (i := 2) d_X1_sippedByParts_4 rfl rfl ?_
      refine Tr.aload_n (pc := 5) (i := 0) d_X1_sippedByParts_5 rfl rfl ?_
      refine Tr.getf (pc := 6) d_X1_sippedByParts_6 f_1_41 (by decide) (by decide) (ty_56 hS.1.1) ?_
      refine Tr.tp 27 ((St.kp hS (by decide) (by decide) (by decide)).trans en_56_1) ?_
      refine Tr.getf (pc := 9) d_X1_sippedByParts_9 f_1_91 (by decide) (by decide) (ty_27 hS.1.1) ?_
      refine Tr.tp 28 (fx_27_4 hS.1.1) ?_
      refine Tr.iconst (pc := 12) d_X1_sippedByParts_12 (by decide) ?_
      refine Tr.iald (pc := 13) d_X1_sippedByParts_13 (ty_28 hS.1.1) (by omega) (by omega) ?_
      refine Tr.gen (P := fun v => 0 ≤ v ∧ v ≤ 6) (ir_28_0 hS.1.2.1) (fun r13 er13 br13 => ?_)
      refine Tr.iconst (pc := 14) d_X1_sippedByParts_14 (by decide) ?_
      refine Tr.imul (pc := 15) d_X1_sippedByParts_15 ?_
      refine Tr.tp (4 * r13) ((w32_id (by omega)).trans (by omega)) ?_
      refine Tr.icmp_ge (pc := 16) (tgt := 44) d_X1_sippedByParts_16 rfl (fun c16 => ?_) (fun c16 => ?_)
      · refine Tr.iload_n (pc := 44) (i := 1) d_X1_sippedByParts_44 rfl rfl ?_
        exact Tr.iret (pc := 45) d_X1_sippedByParts_45 rfl ⟨hS, _, rfl, by omega, by omega⟩
      · refine Tr.iload_n (pc := 19) (i := 1) d_X1_sippedByParts_19 rfl rfl ?_
        refine Tr.aload_n (pc := 20) (i := 0) d_X1_sippedByParts_20 rfl rfl ?_
        refine Tr.getf (pc := 21) d_X1_sippedByParts_21 f_1_9 (by decide) (by decide) (ty_56 hS.1.1) ?_
        refine Tr.tp 57 (fx_56_2 hS.1.1) ?_
        refine Tr.iload_n (pc := 24) (i := 2) d_X1_sippedByParts_24 rfl rfl ?_
        refine Tr.iald (pc := 25) d_X1_sippedByParts_25 (ty_57 hS.1.1) (by omega) (by omega) ?_
        refine Tr.gen (P := fun v => (-2147483648) ≤ v ∧ v ≤ 2147483647) (ar_57 hS.1.2.1 _) (fun r25 er25 br25 => ?_)
        refine Tr.aload_n (pc := 26) (i := 0) d_X1_sippedByParts_26 rfl rfl ?_
        refine Tr.getf (pc := 27) d_X1_sippedByParts_27 f_1_41 (by decide) (by decide) (ty_56 hS.1.1) ?_
        refine Tr.tp 27 ((St.kp hS (by decide) (by decide) (by decide)).trans en_56_1) ?_
        refine Tr.getf (pc := 30) d_X1_sippedByParts_30 f_1_71 (by decide) (by decide) (ty_27 hS.1.1) ?_
        refine Tr.tp 29 (fx_27_5 hS.1.1) ?_
        refine Tr.iload_n (pc := 33) (i := 2) d_X1_sippedByParts_33 rfl rfl ?_
        refine Tr.iald (pc := 34) d_X1_sippedByParts_34 (ty_29 hS.1.1) (by omega) (by omega) ?_
        refine Tr.gen (P := fun v => (-1) ≤ v ∧ v ≤ 999) (ar_29 hS.1.2.1 _) (fun r34 er34 br34 => ?_)
        refine Tr.imul (pc := 35) d_X1_sippedByParts_35 ?_
        refine Tr.gen (P := fun v => (-2147483648) ≤ v ∧ v ≤ 2147483647) (w32_b _) (fun r35 er35 br35 => ?_)
        refine Tr.iadd (pc := 36) d_X1_sippedByParts_36 ?_
        refine Tr.gen (P := fun v => (-2147483648) ≤ v ∧ v ≤ 2147483647) (w32_b _) (fun r36 er36 br36 => ?_)
        refine Tr.istore_n (pc := 37) (i := 1) (ls2 := [(1, (0, r36)), (0, (2, 56)), (2, (0, p4_2))]) d_X1_sippedByParts_37 rfl (by decide) rfl ?_
        refine Tr.iincV (pc := 38) (n2 := (p4_2 + 1)) (ls2 := [(2, (0, (p4_2 + 1))), (1, (0, r36)), (0, (2, 56))]) d_X1_sippedByParts_38 rfl (by decide) ((w32_id (by omega)).trans (by omega)) rfl ?_
        refine Tr.goto (pc := 41) (tgt := 4) d_X1_sippedByParts_41 rfl ?_
        refine Tr.pick [2, 1, 0] (ls2 := [(0, (2, 56)), (1, (0, r36)), (2, (0, (p4_2 + 1)))]) rfl ?_
        exact J4 _ _ _ hS (by omega) (by omega) (by omega)
  refine Tr.pick [2, 1, 0] (ls2 := [(0, (2, 56)), (1, (0, 0)), (2, (0, 0))]) rfl ?_
  exact J4 _ _ _ _ hS (by omega) (by omega) (Nat.lt_succ_self _)

def ws_X6_finish_48_w1 : List (Int × Int) := [(48, 9), (48, 10), (63, 0)]
def as_X6_finish_48_w1 : List Int := [55, 57, 60, 61, 62, 69, 191]
def q_X6_finish_48_w1 (M0 M' : Mem) (r : Option PV) : Prop := St Rn ws_X6_finish_48_w1 as_X6_finish_48_w1 M0 M' ∧ r = none
set_option maxRecDepth 100000 in
set_option maxHeartbeats 4000000 in
theorem sp_X6_finish_48_w1 {l : Launch} {K : EC} {M0 : Mem} (hI : In Rn M0) (en_48_1 : rd M0 48 1 = 27) (en_56_1 : rd M0 56 1 = 27)   : Tr l K 3 mX6_finish 0 [(0, (2, 48))] [] M0 (q_X6_finish_48_w1 M0) := by
  have hS : St Rn ws_X6_finish_48_w1 as_X6_finish_48_w1 M0 M0 := St.rf hI
  refine Tr.aload_n (pc := 0) (i := 0) d_X6_finish_0 rfl rfl ?_
  refine Tr.getf (pc := 1) d_X6_finish_1 f_6_68 (by decide) (by decide) (ty_48 hS.1.1) ?_
  refine Tr.gen (P := fun v => (-2147483648) ≤ v ∧ v ≤ 2147483647) (ir_48_9 hS.1.2.1) (fun r1 er1 br1 => ?_)
  refine Tr.istore_n (pc := 4) (i := 1) (ls2 := [(1, (0, r1)), (0, (2, 48))]) d_X6_finish_4 rfl (by decide) rfl ?_
  refine Tr.aload_n (pc := 5) (i := 0) d_X6_finish_5 rfl rfl ?_
  refine Tr.getf (pc := 6) d_X6_finish_6 f_6_46 (by decide) (by decide) (ty_48 hS.1.1) ?_
  refine Tr.tp 27 ((St.kp hS (by decide) (by decide) (by decide)).trans en_48_1) ?_
  refine Tr.getf (pc := 9) d_X6_finish_9 f_6_116 (by decide) (by decide) (ty_27 hS.1.1) ?_
  refine Tr.tp 28 (fx_27_4 hS.1.1) ?_
  refine Tr.iconst (pc := 12) d_X6_finish_12 (by decide) ?_
  refine Tr.iald (pc := 13) d_X6_finish_13 (ty_28 hS.1.1) (by omega) (by omega) ?_
  refine Tr.gen (P := fun v => 0 ≤ v ∧ v ≤ 6) (ir_28_0 hS.1.2.1) (fun r13 er13 br13 => ?_)
  refine Tr.istore_n (pc := 14) (i := 2) (ls2 := [(2, (0, r13)), (1, (0, r1)), (0, (2, 48))]) d_X6_finish_14 rfl (by decide) rfl ?_
  refine Tr.iconst (pc := 15) d_X6_finish_15 (by decide) ?_
  refine Tr.istore_n (pc := 16) (i := 3) (ls2 := [(3, (0, 0)), (2, (0, r13)), (1, (0, r1)), (0, (2, 48))]) d_X6_finish_16 rfl (by decide) rfl ?_
  have J17 : ∀ (n17 : Nat) (M : Mem) (p17_3 : Int), St Rn ws_X6_finish_48_w1 as_X6_finish_48_w1 M0 M → (0 ≤ p17_3 ∧ p17_3 ≤ 6) → rd M 28 0 = r13 → (6 - p17_3).toNat < n17 → Tr l K 3 mX6_finish 17 [(0, (2, 48)), (1, (0, r1)), (2, (0, r13)), (3, (0, p17_3))] [] M (q_X6_finish_48_w1 M0) := by
    intro n17
    induction n17 with
    | zero => intro M p17_3 hS bp17_3 k17_28_0 hm17; exact absurd hm17 (Nat.not_lt_zero _)
    | succ n17 J17 =>
      intro M p17_3 hS bp17_3 k17_28_0 hm17
      refine Tr.iload_n (pc := 17) (i := 3) d_X6_finish_17 rfl rfl ?_
      refine Tr.iload_n (pc := 18) (i := 2) d_X6_finish_18 rfl rfl ?_
      have J61 : ∀ (M : Mem), St Rn ws_X6_finish_48_w1 as_X6_finish_48_w1 M0 M → rd M 28 0 = r13 → Tr l K 3 mX6_finish 61 [(0, (2, 48)), (1, (0, r1)), (2, (0, r13))] [] M (q_X6_finish_48_w1 M0) := by
        intro M  hS  k61_28_0
        refine Tr.iconst (pc := 61) d_X6_finish_61 (by decide) ?_
        refine Tr.istore_n (pc := 62) (i := 3) (ls2 := [(3, (0, 0)), (0, (2, 48)), (1, (0, r1)), (2, (0, r13))]) d_X6_finish_62 rfl (by decide) rfl ?_
        have J63 : ∀ (n63 : Nat) (M : Mem) (p63_3 : Int), St Rn ws_X6_finish_48_w1 as_X6_finish_48_w1 M0 M → (0 ≤ p63_3 ∧ p63_3 ≤ 6) → rd M 28 0 = r13 → (6 - p63_3).toNat < n63 → Tr l K 3 mX6_finish 63 [(0, (2, 48)), (1, (0, r1)), (2, (0, r13)), (3, (0, p63_3))] [] M (q_X6_finish_48_w1 M0) := by
          intro n63
          induction n63 with
          | zero => intro M p63_3 hS bp63_3 k63_28_0 hm63; exact absurd hm63 (Nat.not_lt_zero _)
          | succ n63 J63 =>
            intro M p63_3 hS bp63_3 k63_28_0 hm63
            refine Tr.iload_n (pc := 63) (i := 3) d_X6_finish_63 rfl rfl ?_
            refine Tr.iload_n (pc := 64) (i := 2) d_X6_finish_64 rfl rfl ?_
            refine Tr.icmp_ge (pc := 65) (tgt := 129) d_X6_finish_65 rfl (fun c65 => ?_) (fun c65 => ?_)
            · refine Tr.aload_n (pc := 129) (i := 0) d_X6_finish_129 rfl rfl ?_
              refine Tr.iload_n (pc := 130) (i := 1) d_X6_finish_130 rfl rfl ?_
              refine Tr.aload_n (pc := 131) (i := 0) d_X6_finish_131 rfl rfl ?_
              refine Tr.getf (pc := 132) d_X6_finish_132 f_6_46 (by decide) (by decide) (ty_48 hS.1.1) ?_
              refine Tr.tp 27 ((St.kp hS (by decide) (by decide) (by decide)).trans en_48_1) ?_
              refine Tr.getf (pc := 135) d_X6_finish_135 f_6_135 (by decide) (by decide) (ty_27 hS.1.1) ?_
              refine Tr.gen (P := fun v => (-1) ≤ v ∧ v ≤ 999) (ir_27_0 hS.1.2.1) (fun r135 er135 br135 => ?_)
              refine Tr.imul (pc := 138) d_X6_finish_138 ?_
              refine Tr.gen (P := fun v => (-2147483648) ≤ v ∧ v ≤ 2147483647) (w32_b _) (fun r138 er138 br138 => ?_)
              refine Tr.aload_n (pc := 139) (i := 0) d_X6_finish_139 rfl rfl ?_
              refine Tr.getf (pc := 140) d_X6_finish_140 f_6_38 (by decide) (by decide) (ty_48 hS.1.1) ?_
              refine Tr.tp 56 (fx_48_0 hS.1.1) ?_
              refine Tr.callV (pc := 143) (as := []) d_X6_finish_143 s_6_138 ok_X1_sippedByParts rfl rfl (Nat.le_of_ble_eq_true rfl) (Nat.le_of_ble_eq_true rfl) (by decide) (ty_56 hS.1.1) ?_
              refine Tr.imp (Tr.deep (by decide) (sp_X1_sippedByParts_56_w1 hS.1.wk ((St.kp hS (by decide) (by decide) (by decide)).trans en_56_1))) ?_
              rintro M143 _ ⟨h143, r143, rfl, lr143, ur143⟩
              have h143 := St.rn h143 (Rn.of hS.1.2.2.2.2 (fun _ => (St.ka h143 (by decide) (by decide) (by decide))) (St.kp h143 (by decide) (by decide) (by decide)))
              have hS := St.tr hS h143 (by decide) (by decide)
              refine Tr.sc [(0, r143), (0, r138), (2, 48)] rfl ?_
              refine Tr.iadd (pc := 146) d_X6_finish_146 ?_
              refine Tr.gen (P := fun v => (-2147483648) ≤ v ∧ v ≤ 2147483647) (w32_b _) (fun r146 er146 br146 => ?_)
              refine Tr.putfS (pc := 147) (P := St Rn ws_X6_finish_48_w1 as_X6_finish_48_w1 M0) d_X6_finish_147 f_6_142 (by decide) (by decide) (ty_48 hS.1.1) (st_48_10 hS (by decide) (by omega) (Rn.of hS.1.2.2.2.2 (fun _ => rd_wb _ rfl) (rd_wb _ rfl))) (fun M147 hS w147 => ?_)
              exact Tr.vret (pc := 150) d_X6_finish_150 rfl ⟨hS, rfl⟩
            · refine Tr.aload_n (pc := 68) (i := 0) d_X6_finish_68 rfl rfl ?_
              refine Tr.iload_n (pc := 69) (i := 3) d_X6_finish_69 rfl rfl ?_
              refine Tr.aload_n (pc := 70) (i := 0) d_X6_finish_70 rfl rfl ?_
              refine Tr.getf (pc := 71) d_X6_finish_71 f_6_68 (by decide) (by decide) (ty_48 hS.1.1) ?_
              refine Tr.gen (P := fun v => (-2147483648) ≤ v ∧ v ≤ 2147483647) (ir_48_9 hS.1.2.1) (fun r71 er71 br71 => ?_)
              refine Tr.callV (pc := 74) (as := [_, _]) d_X6_finish_74 s_6_125 ok_X6_settle rfl rfl (Nat.le_of_ble_eq_true rfl) (Nat.le_of_ble_eq_true rfl) (by decide) (ty_48 hS.1.1) ?_
              refine Tr.imp (Tr.deep (by decide) (sp_X6_settle_48_w1 hS.1 ((St.kp hS (by decide) (by decide) (by decide)).trans en_56_1) p63_3 (by omega) r71 (by omega))) ?_
              rintro M74 _ ⟨h74, rfl⟩
              have hS := St.tr hS h74 (by decide) (by decide)
              refine Tr.sc [] rfl ?_
              refine Tr.aload_n (pc := 77) (i := 0) d_X6_finish_77 rfl rfl ?_
              refine Tr.getf (pc := 78) d_X6_finish_78 f_6_24 (by decide) (by decide) (ty_48 hS.1.1) ?_
              refine Tr.tp 53 (fx_48_6 hS.1.1) ?_
              refine Tr.iload_n (pc := 81) (i := 3) d_X6_finish_81 rfl rfl ?_
              refine Tr.iald (pc := 82) d_X6_finish_82 (ty_53 hS.1.1) (by omega) (by omega) ?_
              refine Tr.gen (P := fun v => 0 ≤ v ∧ v ≤ 1) (ar_53 hS.1.2.1 _) (fun r82 er82 br82 => ?_)
              refine Tr.iconst (pc := 83) d_X6_finish_83 (by decide) ?_
              have J123 : ∀ (M : Mem), St Rn ws_X6_finish_48_w1 as_X6_finish_48_w1 M0 M → rd M 28 0 = r13 → rd M 48 9 = r71 → rd M 53 p63_3 = r82 → Tr l K 3 mX6_finish 123 [(0, (2, 48)), (1, (0, r1)), (2, (0, r13)), (3, (0, p63_3))] [] M (q_X6_finish_48_w1 M0) := by
                intro M  hS  k123_28_0 k123_48_9 k123_53_p63_310
                refine Tr.iincV (pc := 123) (n2 := (p63_3 + 1)) (ls2 := [(3, (0, (p63_3 + 1))), (0, (2, 48)), (1, (0, r1)), (2, (0, r13))]) d_X6_finish_123 rfl (by decide) ((w32_id (by omega)).trans (by omega)) rfl ?_
                refine Tr.goto (pc := 126) (tgt := 63) d_X6_finish_126 rfl ?_
                refine Tr.pick [1, 2, 3, 0] (ls2 := [(0, (2, 48)), (1, (0, r1)), (2, (0, r13)), (3, (0, (p63_3 + 1)))]) rfl ?_
                exact J63 _ _ hS (by omega) k123_28_0 (by omega)
              refine Tr.icmp_ne (pc := 84) (tgt := 102) d_X6_finish_84 rfl (fun c84 => ?_) (fun c84 => ?_)
              · refine Tr.aload_n (pc := 102) (i := 0) d_X6_finish_102 rfl rfl ?_
                refine Tr.getf (pc := 103) d_X6_finish_103 f_6_27 (by decide) (by decide) (ty_48 hS.1.1) ?_
                refine Tr.tp 54 (fx_48_7 hS.1.1) ?_
                refine Tr.iload_n (pc := 106) (i := 3) d_X6_finish_106 rfl rfl ?_
                refine Tr.iald (pc := 107) d_X6_finish_107 (ty_54 hS.1.1) (by omega) (by omega) ?_
                refine Tr.gen (P := fun v => (-2147483648) ≤ v ∧ v ≤ 2147483647) (ar_54 hS.1.2.1 _) (fun r107 er107 br107 => ?_)
                refine Tr.aload_n (pc := 108) (i := 0) d_X6_finish_108 rfl rfl ?_
                refine Tr.getf (pc := 109) d_X6_finish_109 f_6_68 (by decide) (by decide) (ty_48 hS.1.1) ?_
                refine Tr.tp r71 ((St.kp h74 (by decide) (by decide) (by decide)).trans er71) ?_
                refine Tr.icmp_gt (pc := 112) (tgt := 123) d_X6_finish_112 rfl (fun c112 => ?_) (fun c112 => ?_)
                · refine Tr.pick [0, 1, 2, 3] (ls2 := [(0, (2, 48)), (1, (0, r1)), (2, (0, r13)), (3, (0, p63_3))]) rfl ?_
                  exact J123 _ hS ((St.kp h74 (by decide) (by decide) (by decide)).trans k63_28_0) ((St.kp h74 (by decide) (by decide) (by decide)).trans er71) er82
                · refine Tr.aload_n (pc := 115) (i := 0) d_X6_finish_115 rfl rfl ?_
                  refine Tr.getf (pc := 116) d_X6_finish_116 f_6_38 (by decide) (by decide) (ty_48 hS.1.1) ?_
                  refine Tr.tp 56 (fx_48_0 hS.1.1) ?_
                  refine Tr.iload_n (pc := 119) (i := 3) d_X6_finish_119 rfl rfl ?_
                  refine Tr.callV (pc := 120) (as := [_]) d_X6_finish_120 s_6_131 ok_X1_fallAsleep rfl rfl (Nat.le_of_ble_eq_true rfl) (Nat.le_of_ble_eq_true rfl) (by decide) (ty_56 hS.1.1) ?_
                  refine Tr.imp (Tr.deep (by decide) (sp_X1_fallAsleep_56_w1 hS.1 ((St.kp hS (by decide) (by decide) (by decide)).trans en_56_1) p63_3 (by omega))) ?_
                  rintro M120 _ ⟨h120, rfl⟩
                  have hS := St.tr hS h120 (by decide) (by decide)
                  refine Tr.sc [] rfl ?_
                  refine Tr.pick [0, 1, 2, 3] (ls2 := [(0, (2, 48)), (1, (0, r1)), (2, (0, r13)), (3, (0, p63_3))]) rfl ?_
                  exact J123 _ hS ((St.kp h120 (by decide) (by decide) (by decide)).trans ((St.kp h74 (by decide) (by decide) (by decide)).trans k63_28_0)) ((St.kp h120 (by decide) (by decide) (by decide)).trans ((St.kp h74 (by decide) (by decide) (by decide)).trans er71)) ((St.ka h120 (by decide) (by decide) (by decide)).trans er82)
              · refine Tr.aload_n (pc := 87) (i := 0) d_X6_finish_87 rfl rfl ?_
                refine Tr.getf (pc := 88) d_X6_finish_88 f_6_38 (by decide) (by decide) (ty_48 hS.1.1) ?_
                refine Tr.tp 56 (fx_48_0 hS.1.1) ?_
                refine Tr.iload_n (pc := 91) (i := 3) d_X6_finish_91 rfl rfl ?_
                refine Tr.aload_n (pc := 92) (i := 0) d_X6_finish_92 rfl rfl ?_
                refine Tr.getf (pc := 93) d_X6_finish_93 f_6_68 (by decide) (by decide) (ty_48 hS.1.1) ?_
                refine Tr.tp r71 ((St.kp h74 (by decide) (by decide) (by decide)).trans er71) ?_
                refine Tr.callV (pc := 96) (as := [_, _]) d_X6_finish_96 s_6_128 ok_X1_letGo rfl rfl (Nat.le_of_ble_eq_true rfl) (Nat.le_of_ble_eq_true rfl) (by decide) (ty_56 hS.1.1) ?_
                refine Tr.imp (Tr.deep (by decide) (sp_X1_letGo_56 hS.1.wk p63_3 (by omega) r71 (by omega))) ?_
                rintro M96 _ ⟨h96, rfl⟩
                have h96 := St.rn h96 (Rn.of hS.1.2.2.2.2 (fun _ => (St.ka h96 (by decide) (by decide) (by decide))) (St.kp h96 (by decide) (by decide) (by decide)))
                have hS := St.tr hS h96 (by decide) (by decide)
                refine Tr.sc [] rfl ?_
                refine Tr.goto (pc := 99) (tgt := 123) d_X6_finish_99 rfl ?_
                refine Tr.pick [0, 1, 2, 3] (ls2 := [(0, (2, 48)), (1, (0, r1)), (2, (0, r13)), (3, (0, p63_3))]) rfl ?_
                exact J123 _ hS ((St.kp h96 (by decide) (by decide) (by decide)).trans ((St.kp h74 (by decide) (by decide) (by decide)).trans k63_28_0)) ((St.kp h96 (by decide) (by decide) (by decide)).trans ((St.kp h74 (by decide) (by decide) (by decide)).trans er71)) ((St.ka h96 (by decide) (by decide) (by decide)).trans er82)
        refine Tr.pick [1, 2, 3, 0] (ls2 := [(0, (2, 48)), (1, (0, r1)), (2, (0, r13)), (3, (0, 0))]) rfl ?_
        exact J63 _ _ _ hS (by omega) k61_28_0 (Nat.lt_succ_self _)
      refine Tr.icmp_ge (pc := 19) (tgt := 61) d_X6_finish_19 rfl (fun c19 => ?_) (fun c19 => ?_)
      · refine Tr.pick [0, 1, 2] (ls2 := [(0, (2, 48)), (1, (0, r1)), (2, (0, r13))]) rfl ?_
        exact J61 _ hS k17_28_0
      · refine Tr.aload_n (pc := 22) (i := 0) d_X6_finish_22 rfl rfl ?_
        refine Tr.getf (pc := 23) d_X6_finish_23 f_6_62 (by decide) (by decide) (ty_48 hS.1.1) ?_
        refine Tr.gen (P := fun v => (-2147483648) ≤ v ∧ v ≤ 2147483647) (ir_48_14 hS.1.2.1) (fun r23 er23 br23 => ?_)
        refine Tr.if_ne (pc := 26) (tgt := 61) d_X6_finish_26 rfl (fun c26 => ?_) (fun c26 => ?_)
        · refine Tr.pick [0, 1, 2] (ls2 := [(0, (2, 48)), (1, (0, r1)), (2, (0, r13))]) rfl ?_
          exact J61 _ hS k17_28_0
        · refine Tr.aload_n (pc := 29) (i := 0) d_X6_finish_29 rfl rfl ?_
          refine Tr.getf (pc := 30) d_X6_finish_30 f_6_24 (by decide) (by decide) (ty_48 hS.1.1) ?_
          refine Tr.tp 53 (fx_48_6 hS.1.1) ?_
          refine Tr.iload_n (pc := 33) (i := 3) d_X6_finish_33 rfl rfl ?_
          refine Tr.iald (pc := 34) d_X6_finish_34 (ty_53 hS.1.1) (by omega) (by omega) ?_
          refine Tr.gen (P := fun v => 0 ≤ v ∧ v ≤ 1) (ar_53 hS.1.2.1 _) (fun r34 er34 br34 => ?_)
          have J55 : ∀ (M : Mem), St Rn ws_X6_finish_48_w1 as_X6_finish_48_w1 M0 M → rd M 28 0 = r13 → rd M 48 14 = r23 → rd M 53 p17_3 = r34 → Tr l K 3 mX6_finish 55 [(0, (2, 48)), (1, (0, r1)), (2, (0, r13)), (3, (0, p17_3))] [] M (q_X6_finish_48_w1 M0) := by
            intro M  hS  k55_28_0 k55_48_14 k55_53_p17_310
            refine Tr.iincV (pc := 55) (n2 := (p17_3 + 1)) (ls2 := [(3, (0, (p17_3 + 1))), (0, (2, 48)), (1, (0, r1)), (2, (0, r13))]) d_X6_finish_55 rfl (by decide) ((w32_id (by omega)).trans (by omega)) rfl ?_
            refine Tr.goto (pc := 58) (tgt := 17) d_X6_finish_58 rfl ?_
            refine Tr.pick [1, 2, 3, 0] (ls2 := [(0, (2, 48)), (1, (0, r1)), (2, (0, r13)), (3, (0, (p17_3 + 1)))]) rfl ?_
            exact J17 _ _ hS (by omega) k55_28_0 (by omega)
          refine Tr.if_ne (pc := 35) (tgt := 55) d_X6_finish_35 rfl (fun c35 => ?_) (fun c35 => ?_)
          · refine Tr.pick [0, 1, 2, 3] (ls2 := [(0, (2, 48)), (1, (0, r1)), (2, (0, r13)), (3, (0, p17_3))]) rfl ?_
            exact J55 _ hS k17_28_0 er23 er34
          · refine Tr.aload_n (pc := 38) (i := 0) d_X6_finish_38 rfl rfl ?_
            refine Tr.aload_n (pc := 39) (i := 0) d_X6_finish_39 rfl rfl ?_
            refine Tr.getf (pc := 40) d_X6_finish_40 f_6_68 (by decide) (by decide) (ty_48 hS.1.1) ?_
            refine Tr.gen (P := fun v => (-2147483648) ≤ v ∧ v ≤ 2147483647) (ir_48_9 hS.1.2.1) (fun r40 er40 br40 => ?_)
            refine Tr.aload_n (pc := 43) (i := 0) d_X6_finish_43 rfl rfl ?_
            refine Tr.getf (pc := 44) d_X6_finish_44 f_6_27 (by decide) (by decide) (ty_48 hS.1.1) ?_
            refine Tr.tp 54 (fx_48_7 hS.1.1) ?_
            refine Tr.iload_n (pc := 47) (i := 3) d_X6_finish_47 rfl rfl ?_
            refine Tr.iald (pc := 48) d_X6_finish_48 (ty_54 hS.1.1) (by omega) (by omega) ?_
            refine Tr.gen (P := fun v => (-2147483648) ≤ v ∧ v ≤ 2147483647) (ar_54 hS.1.2.1 _) (fun r48 er48 br48 => ?_)
            refine Tr.mmax (pc := 49) d_X6_finish_49 ml_6_119 mw_mmax (Nat.le_of_ble_eq_true rfl) ?_
            refine Tr.gen (P := fun v => (v = r40 ∧ r48 ≤ r40) ∨ (v = r48 ∧ r40 ≤ r48)) (f_max_p _ _) (fun r49 er49 br49 => ?_)
            refine Tr.putfS (pc := 52) (P := St Rn ws_X6_finish_48_w1 as_X6_finish_48_w1 M0) d_X6_finish_52 f_6_68 (by decide) (by decide) (ty_48 hS.1.1) (st_48_9 hS (by decide) (by omega) (Rn.of hS.1.2.2.2.2 (fun _ => rd_wb _ rfl) (rd_wb _ rfl))) (fun M52 hS w52 => ?_)
            refine Tr.pick [0, 1, 2, 3] (ls2 := [(0, (2, 48)), (1, (0, r1)), (2, (0, r13)), (3, (0, p17_3))]) rfl ?_
            exact J55 _ hS ((Wr.b w52 rfl).trans k17_28_0) ((Wr.b w52 rfl).trans er23) ((Wr.b w52 rfl).trans er34)
  refine Tr.pick [3, 2, 1, 0] (ls2 := [(0, (2, 48)), (1, (0, r1)), (2, (0, r13)), (3, (0, 0))]) rfl ?_
  exact J17 _ _ _ hS (by omega) er13 (Nat.lt_succ_self _)
