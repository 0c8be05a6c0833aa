def ws_X11_lay_0 : List (Int × Int) := [(0, 1)]
def as_X11_lay_0 : List Int := [1]
def q_X11_lay_0 (M0 M' : Mem) (r : Option PV) : Prop := St ws_X11_lay_0 as_X11_lay_0 M0 M' ∧ r = none
set_option maxRecDepth 100000 in
set_option maxHeartbeats 4000000 in
theorem sp_X11_lay_0 {l : Launch} {K : EC} {M0 : Mem} (hI : In M0)  (a1 : Int) (ha1 : (-2147483648) ≤ a1 ∧ a1 ≤ 2147483647)  : Tr l K 0 mX11_lay 0 [(0, (2, 0)), (1, (0, a1))] [] M0 (q_X11_lay_0 M0) := by
  have hS : St ws_X11_lay_0 as_X11_lay_0 M0 M0 := St.rf hI
  refine Tr.bipush (pc := 0) d_X11_lay_0 rfl (by decide) ?_
  refine Tr.istore_n (pc := 2) (i := 2) (ls2 := [(2, (0, 24)), (0, (2, 0)), (1, (0, a1))]) d_X11_lay_2 rfl (by decide) rfl ?_
  have J3 : ∀ (n3 : Nat) (M : Mem) (p3_2 : Int), St ws_X11_lay_0 as_X11_lay_0 M0 M → ((-8) ≤ p3_2 ∧ p3_2 ≤ 24) → (p3_2 - (-8)).toNat < n3 → Tr l K 0 mX11_lay 3 [(0, (2, 0)), (1, (0, a1)), (2, (0, p3_2))] [] M (q_X11_lay_0 M0) := by
    intro n3
    induction n3 with
    | zero => intro M p3_2 hS bp3_2  hm3; exact absurd hm3 (Nat.not_lt_zero _)
    | succ n3 J3 =>
      intro M p3_2 hS bp3_2  hm3
      refine Tr.iload_n (pc := 3) (i := 2) d_X11_lay_3 rfl rfl ?_
      refine Tr.if_lt (pc := 4) (tgt := 46) d_X11_lay_4 rfl (fun c4 => ?_) (fun c4 => ?_)
      · exact Tr.vret (pc := 46) d_X11_lay_46 rfl ⟨hS, rfl⟩
      · refine Tr.aload_n (pc := 7) (i := 0) d_X11_lay_7 rfl rfl ?_
        refine Tr.getf (pc := 8) d_X11_lay_8 f_11_84 (by decide) (by decide) (ty_0 hS.1.1) ?_
        refine Tr.gen (P := fun v => 0 ≤ v ∧ v ≤ 900) (ir_0_1 hS.1.2.1) (fun r8 er8 br8 => ?_)
        refine Tr.sipush (pc := 11) d_X11_lay_11 rfl (by decide) ?_
        refine Tr.icmp_ge (pc := 14) (tgt := 46) d_X11_lay_14 rfl (fun c14 => ?_) (fun c14 => ?_)
        · exact Tr.vret (pc := 46) d_X11_lay_46 rfl ⟨hS, rfl⟩
        · refine Tr.aload_n (pc := 17) (i := 0) d_X11_lay_17 rfl rfl ?_
          refine Tr.getf (pc := 18) d_X11_lay_18 f_11_9 (by decide) (by decide) (ty_0 hS.1.1) ?_
          refine Tr.tp 1 (fx_0_0 hS.1.1) ?_
          refine Tr.aload_n (pc := 21) (i := 0) d_X11_lay_21 rfl rfl ?_
          refine Tr.getf (pc := 22) d_X11_lay_22 f_11_84 (by decide) (by decide) (ty_0 hS.1.1) ?_
          refine Tr.tp r8 er8 ?_
          refine Tr.iload_n (pc := 25) (i := 1) d_X11_lay_25 rfl rfl ?_
          refine Tr.iload_n (pc := 26) (i := 2) d_X11_lay_26 rfl rfl ?_
          refine Tr.ishr (pc := 27) d_X11_lay_27 ?_
          refine Tr.gen (P := fun v => (-2147483648) ≤ v ∧ v ≤ 2147483647) (i32_b _) (fun r27 er27 br27 => ?_)
          refine Tr.i2b (pc := 28) d_X11_lay_28 ?_
          refine Tr.gen (P := fun v => (-128) ≤ v ∧ v ≤ 127) (w8_b _) (fun r28 er28 br28 => ?_)
          refine Tr.bastS (pc := 29) (P := St ws_X11_lay_0 as_X11_lay_0 M0) d_X11_lay_29 (ty_1 hS.1.1) (by omega) (by omega) (sa_1 hS (by decide) (w8_b _)) (fun hS => ?_)
          refine Tr.aload_n (pc := 30) (i := 0) d_X11_lay_30 rfl rfl ?_
          refine Tr.dup (pc := 31) d_X11_lay_31 ne21 ?_
          refine Tr.getf (pc := 32) d_X11_lay_32 f_11_84 (by decide) (by decide) (ty_0 hS.1.1) ?_
          refine Tr.tp r8 ((rd_wb _ rfl).trans er8) ?_
          refine Tr.iconst (pc := 35) d_X11_lay_35 (by decide) ?_
          refine Tr.iadd (pc := 36) d_X11_lay_36 ?_
          refine Tr.tp (r8 + 1) ((w32_id (by omega)).trans (by omega)) ?_
          refine Tr.putfS (pc := 37) (P := St ws_X11_lay_0 as_X11_lay_0 M0) d_X11_lay_37 f_11_84 (by decide) (by decide) (ty_0 hS.1.1) (st_0_1 hS (by decide) (by omega)) (fun hS => ?_)
          refine Tr.iincV (pc := 40) (n2 := (p3_2 - 8)) (ls2 := [(2, (0, (p3_2 - 8))), (0, (2, 0)), (1, (0, a1))]) d_X11_lay_40 rfl (by decide) ((w32_id (by omega)).trans (by omega)) rfl ?_
          refine Tr.goto (pc := 43) (tgt := 3) d_X11_lay_43 rfl ?_
          refine Tr.pick [1, 2, 0] (ls2 := [(0, (2, 0)), (1, (0, a1)), (2, (0, (p3_2 - 8)))]) rfl ?_
          exact J3 _ _ hS (by omega) (by omega)
  refine Tr.pick [1, 2, 0] (ls2 := [(0, (2, 0)), (1, (0, a1)), (2, (0, 24))]) rfl ?_
  exact J3 _ _ _ hS (by omega) (Nat.lt_succ_self _)

def ws_X11_feed_0 : List (Int × Int) := [(0, 1)]
def as_X11_feed_0 : List Int := [1]
def q_X11_feed_0 (M0 M' : Mem) (r : Option PV) : Prop := St ws_X11_feed_0 as_X11_feed_0 M0 M' ∧ ∃ v : Int, r = some (0, v) ∧ (-1) ≤ v ∧ v ≤ 900
set_option maxRecDepth 100000 in
set_option maxHeartbeats 4000000 in
theorem sp_X11_feed_0 {l : Launch} {K : EC} {M0 : Mem} (hI : In M0)  (a1 : Int) (ha1 : (-2147483648) ≤ a1 ∧ a1 ≤ 2147483647) (a2 : Int) (ha2 : (-2147483648) ≤ a2 ∧ a2 ≤ 2147483647) (a3 : Int) (ha3 : (-2147483648) ≤ a3 ∧ a3 ≤ 2147483647) (a4 : Int) (ha4 : (-2147483648) ≤ a4 ∧ a4 ≤ 2147483647) (a5 : Int) (ha5 : (-2147483648) ≤ a5 ∧ a5 ≤ 2147483647)  : Tr l K 1 mX11_feed 0 [(0, (2, 0)), (1, (0, a1)), (2, (0, a2)), (3, (0, a3)), (4, (0, a4)), (5, (0, a5))] [] M0 (q_X11_feed_0 M0) := by
  have hS : St ws_X11_feed_0 as_X11_feed_0 M0 M0 := St.rf hI
  refine Tr.aload_n (pc := 0) (i := 0) d_X11_feed_0 rfl rfl ?_
  refine Tr.getf (pc := 1) d_X11_feed_1 f_11_84 (by decide) (by decide) (ty_0 hS.1.1) ?_
  refine Tr.gen (P := fun v => 0 ≤ v ∧ v ≤ 900) (ir_0_1 hS.1.2.1) (fun r1 er1 br1 => ?_)
  refine Tr.bipush (pc := 4) d_X11_feed_4 rfl (by decide) ?_
  refine Tr.iadd (pc := 6) d_X11_feed_6 ?_
  refine Tr.tp (r1 + 20) ((w32_id (by omega)).trans (by omega)) ?_
  refine Tr.sipush (pc := 7) d_X11_feed_7 rfl (by decide) ?_
  refine Tr.icmp_le (pc := 10) (tgt := 15) d_X11_feed_10 rfl (fun c10 => ?_) (fun c10 => ?_)
  · refine Tr.aload_n (pc := 15) (i := 0) d_X11_feed_15 rfl rfl ?_
    refine Tr.iload_n (pc := 16) (i := 1) d_X11_feed_16 rfl rfl ?_
    refine Tr.callV (pc := 17) (as := [_]) d_X11_feed_17 s_11_88 ok_X11_lay rfl rfl (Nat.le_of_ble_eq_true rfl) (Nat.le_of_ble_eq_true rfl) (by decide) (ty_0 hS.1.1) ?_
    refine Tr.imp (Tr.deep (by decide) (sp_X11_lay_0 hS.1 a1 (by omega))) ?_
    rintro M17 _ ⟨h17, rfl⟩
    have hS := St.tr hS h17 (by decide) (by decide)
    refine Tr.sc [] rfl ?_
    refine Tr.aload_n (pc := 20) (i := 0) d_X11_feed_20 rfl rfl ?_
    refine Tr.iload_n (pc := 21) (i := 2) d_X11_feed_21 rfl rfl ?_
    refine Tr.callV (pc := 22) (as := [_]) d_X11_feed_22 s_11_88 ok_X11_lay rfl rfl (Nat.le_of_ble_eq_true rfl) (Nat.le_of_ble_eq_true rfl) (by decide) (ty_0 hS.1.1) ?_
    refine Tr.imp (Tr.deep (by decide) (sp_X11_lay_0 hS.1 a2 (by omega))) ?_
    rintro M22 _ ⟨h22, rfl⟩
    have hS := St.tr hS h22 (by decide) (by decide)
    refine Tr.sc [] rfl ?_
    refine Tr.aload_n (pc := 25) (i := 0) d_X11_feed_25 rfl rfl ?_
    refine Tr.iload_n (pc := 26) (i := 3) d_X11_feed_26 rfl rfl ?_
    refine Tr.callV (pc := 27) (as := [_]) d_X11_feed_27 s_11_88 ok_X11_lay rfl rfl (Nat.le_of_ble_eq_true rfl) (Nat.le_of_ble_eq_true rfl) (by decide) (ty_0 hS.1.1) ?_
    refine Tr.imp (Tr.deep (by decide) (sp_X11_lay_0 hS.1 a3 (by omega))) ?_
    rintro M27 _ ⟨h27, rfl⟩
    have hS := St.tr hS h27 (by decide) (by decide)
    refine Tr.sc [] rfl ?_
    refine Tr.aload_n (pc := 30) (i := 0) d_X11_feed_30 rfl rfl ?_
    refine Tr.iload (pc := 31) (i := 4) d_X11_feed_31 rfl ?_
    refine Tr.callV (pc := 33) (as := [_]) d_X11_feed_33 s_11_88 ok_X11_lay rfl rfl (Nat.le_of_ble_eq_true rfl) (Nat.le_of_ble_eq_true rfl) (by decide) (ty_0 hS.1.1) ?_
    refine Tr.imp (Tr.deep (by decide) (sp_X11_lay_0 hS.1 a4 (by omega))) ?_
    rintro M33 _ ⟨h33, rfl⟩
    have hS := St.tr hS h33 (by decide) (by decide)
    refine Tr.sc [] rfl ?_
    refine Tr.aload_n (pc := 36) (i := 0) d_X11_feed_36 rfl rfl ?_
    refine Tr.iload (pc := 37) (i := 5) d_X11_feed_37 rfl ?_
    refine Tr.callV (pc := 39) (as := [_]) d_X11_feed_39 s_11_88 ok_X11_lay rfl rfl (Nat.le_of_ble_eq_true rfl) (Nat.le_of_ble_eq_true rfl) (by decide) (ty_0 hS.1.1) ?_
    refine Tr.imp (Tr.deep (by decide) (sp_X11_lay_0 hS.1 a5 (by omega))) ?_
    rintro M39 _ ⟨h39, rfl⟩
    have hS := St.tr hS h39 (by decide) (by decide)
    refine Tr.sc [] rfl ?_
    refine Tr.aload_n (pc := 42) (i := 0) d_X11_feed_42 rfl rfl ?_
    refine Tr.getf (pc := 43) d_X11_feed_43 f_11_84 (by decide) (by decide) (ty_0 hS.1.1) ?_
    refine Tr.gen (P := fun v => 0 ≤ v ∧ v ≤ 900) (ir_0_1 hS.1.2.1) (fun r43 er43 br43 => ?_)
    exact Tr.iret (pc := 46) d_X11_feed_46 rfl ⟨hS, _, rfl, by omega, by omega⟩
  · refine Tr.iconst (pc := 13) d_X11_feed_13 (by decide) ?_
    exact Tr.iret (pc := 14) d_X11_feed_14 rfl ⟨hS, _, rfl, by omega, by omega⟩

def ws_X11_end_0 : List (Int × Int) := [(0, 1)]
def as_X11_end_0 : List Int := []
def q_X11_end_0 (M0 M' : Mem) (r : Option PV) : Prop := St ws_X11_end_0 as_X11_end_0 M0 M' ∧ ∃ v : Int, r = some (0, v) ∧ 0 ≤ v ∧ v ≤ 1
set_option maxRecDepth 100000 in
set_option maxHeartbeats 4000000 in
theorem sp_X11_end_0 {l : Launch} {K : EC} {M0 : Mem} (hI : In M0)  (a1 : Int) (ha1 : (-2147483648) ≤ a1 ∧ a1 ≤ 2147483647)  : Tr l K 0 mX11_end 0 [(0, (2, 0)), (1, (0, a1))] [] M0 (q_X11_end_0 M0) := by
  have hS : St ws_X11_end_0 as_X11_end_0 M0 M0 := St.rf hI
  refine Tr.iload_n (pc := 0) (i := 1) d_X11_end_0 rfl rfl ?_
  refine Tr.if_lt (pc := 1) (tgt := 12) d_X11_end_1 rfl (fun c1 => ?_) (fun c1 => ?_)
  · refine Tr.iconst (pc := 12) d_X11_end_12 (by decide) ?_
    exact Tr.zret (pc := 13) d_X11_end_13 rfl (by omega) ⟨hS, _, rfl, by omega, by omega⟩
  · refine Tr.iload_n (pc := 4) (i := 1) d_X11_end_4 rfl rfl ?_
    refine Tr.aload_n (pc := 5) (i := 0) d_X11_end_5 rfl rfl ?_
    refine Tr.getf (pc := 6) d_X11_end_6 f_11_84 (by decide) (by decide) (ty_0 hS.1.1) ?_
    refine Tr.gen (P := fun v => 0 ≤ v ∧ v ≤ 900) (ir_0_1 hS.1.2.1) (fun r6 er6 br6 => ?_)
    refine Tr.icmp_le (pc := 9) (tgt := 14) d_X11_end_9 rfl (fun c9 => ?_) (fun c9 => ?_)
    · refine Tr.aload_n (pc := 14) (i := 0) d_X11_end_14 rfl rfl ?_
      refine Tr.iload_n (pc := 15) (i := 1) d_X11_end_15 rfl rfl ?_
      refine Tr.putfS (pc := 16) (P := St ws_X11_end_0 as_X11_end_0 M0) d_X11_end_16 f_11_84 (by decide) (by decide) (ty_0 hS.1.1) (st_0_1 hS (by decide) (by omega)) (fun hS => ?_)
      refine Tr.iconst (pc := 19) d_X11_end_19 (by decide) ?_
      exact Tr.zret (pc := 20) d_X11_end_20 rfl (by omega) ⟨hS, _, rfl, by omega, by omega⟩
    · refine Tr.iconst (pc := 12) d_X11_end_12 (by decide) ?_
      exact Tr.zret (pc := 13) d_X11_end_13 rfl (by omega) ⟨hS, _, rfl, by omega, by omega⟩

def ws_X11_fault_0 : List (Int × Int) := []
def as_X11_fault_0 : List Int := []
def q_X11_fault_0 (M0 M' : Mem) (r : Option PV) : Prop := St ws_X11_fault_0 as_X11_fault_0 M0 M' ∧ ∃ v : Int, r = some (0, v) ∧ (-2147483648) ≤ v ∧ v ≤ 2147483647
set_option maxRecDepth 100000 in
set_option maxHeartbeats 4000000 in
theorem sp_X11_fault_0 {l : Launch} {K : EC} {M0 : Mem} (hI : In M0)  (a1 : Int) (ha1 : (-2147483648) ≤ a1 ∧ a1 ≤ 2147483647)  : Tr l K 0 mX11_fault 0 [(0, (2, 0)), (1, (0, a1))] [] M0 (q_X11_fault_0 M0) := by
  have hS : St ws_X11_fault_0 as_X11_fault_0 M0 M0 := St.rf hI
  refine Tr.iload_n (pc := 0) (i := 1) d_X11_fault_0 rfl rfl ?_
  refine Tr.if_ne (pc := 1) (tgt := 12) d_X11_fault_1 rfl (fun c1 => ?_) (fun c1 => ?_)
  · refine Tr.iload_n (pc := 12) (i := 1) d_X11_fault_12 rfl rfl ?_
    refine Tr.iconst (pc := 13) d_X11_fault_13 (by decide) ?_
    refine Tr.icmp_ne (pc := 14) (tgt := 27) d_X11_fault_14 rfl (fun c14 => ?_) (fun c14 => ?_)
    · refine Tr.iconst (pc := 27) d_X11_fault_27 (by decide) ?_
      exact Tr.iret (pc := 28) d_X11_fault_28 rfl ⟨hS, _, rfl, by omega, by omega⟩
    · refine Tr.aload_n (pc := 17) (i := 0) d_X11_fault_17 rfl rfl ?_
      refine Tr.getf (pc := 18) d_X11_fault_18 f_11_23 (by decide) (by decide) (ty_0 hS.1.1) ?_
      refine Tr.tp 6 (fx_0_3 hS.1.1) ?_
      refine Tr.getf (pc := 21) d_X11_fault_21 f_11_127 (by decide) (by decide) (ty_6 hS.1.1) ?_
      refine Tr.gen (P := fun v => (-2147483648) ≤ v ∧ v ≤ 2147483647) (ir_6_1 hS.1.2.1) (fun r21 er21 br21 => ?_)
      refine Tr.goto (pc := 24) (tgt := 28) d_X11_fault_24 rfl ?_
      exact Tr.iret (pc := 28) d_X11_fault_28 rfl ⟨hS, _, rfl, by omega, by omega⟩
  · refine Tr.aload_n (pc := 4) (i := 0) d_X11_fault_4 rfl rfl ?_
    refine Tr.getf (pc := 5) d_X11_fault_5 f_11_23 (by decide) (by decide) (ty_0 hS.1.1) ?_
    refine Tr.tp 6 (fx_0_3 hS.1.1) ?_
    refine Tr.getf (pc := 8) d_X11_fault_8 f_11_124 (by decide) (by decide) (ty_6 hS.1.1) ?_
    refine Tr.gen (P := fun v => (-2147483648) ≤ v ∧ v ≤ 2147483647) (ir_6_0 hS.1.2.1) (fun r8 er8 br8 => ?_)
    exact Tr.iret (pc := 11) d_X11_fault_11 rfl ⟨hS, _, rfl, by omega, by omega⟩

def ws_X11_has_0 : List (Int × Int) := []
def as_X11_has_0 : List Int := []
def q_X11_has_0 (M0 M' : Mem) (r : Option PV) : Prop := St ws_X11_has_0 as_X11_has_0 M0 M' ∧ ∃ v : Int, r = some (0, v) ∧ (-1) ≤ v ∧ v ≤ 60
set_option maxRecDepth 100000 in
set_option maxHeartbeats 4000000 in
theorem sp_X11_has_0 {l : Launch} {K : EC} {M0 : Mem} (hI : In M0) (en_0_4 : rd M0 0 4 = 7) (a1 : Int) (ha1 : (-2147483648) ≤ a1 ∧ a1 ≤ 2147483647)  : Tr l K 0 mX11_has 0 [(0, (2, 0)), (1, (0, a1))] [] M0 (q_X11_has_0 M0) := by
  have hS : St ws_X11_has_0 as_X11_has_0 M0 M0 := St.rf hI
  refine Tr.iload_n (pc := 0) (i := 1) d_X11_has_0 rfl rfl ?_
  rcases (show (a1 < 0 ∨ 5 < a1) ∨ a1 = 0 ∨ a1 = 1 ∨ a1 = 2 ∨ a1 = 3 ∨ a1 = 4 ∨ a1 = 5 by omega) with c1 | c1 | c1 | c1 | c1 | c1 | c1
  · refine Tr.tswOut (pc := 1) (tgt := 77) d_X11_has_1 c1 rfl ?_
    refine Tr.iconst (pc := 77) d_X11_has_77 (by decide) ?_
    exact Tr.iret (pc := 78) d_X11_has_78 rfl ⟨hS, _, rfl, by omega, by omega⟩
  · refine Tr.tp 0 c1 ?_
    refine Tr.tswIn (pc := 1) (off := 39) (tgt := 40) d_X11_has_1 (by decide) (by decide) rfl rfl ?_
    refine Tr.aload_n (pc := 40) (i := 0) d_X11_has_40 rfl rfl ?_
    refine Tr.getf (pc := 41) d_X11_has_41 f_11_30 (by decide) (by decide) (ty_0 hS.1.1) ?_
    refine Tr.tp 7 ((St.kp hS (by decide) (by decide)).trans en_0_4) ?_
    refine Tr.getf (pc := 44) d_X11_has_44 f_11_130 (by decide) (by decide) (ty_7 hS.1.1) ?_
    refine Tr.tp 8 (fx_7_4 hS.1.1) ?_
    refine Tr.iload_n (pc := 47) (i := 1) d_X11_has_47 rfl rfl ?_
    refine Tr.tp 0 (by omega) ?_
    refine Tr.iald (pc := 48) d_X11_has_48 (ty_8 hS.1.1) (by omega) (by omega) ?_
    refine Tr.gen (P := fun v => 0 ≤ v ∧ v ≤ 6) (ir_8_0 hS.1.2.1) (fun r48 er48 br48 => ?_)
    exact Tr.iret (pc := 49) d_X11_has_49 rfl ⟨hS, _, rfl, by omega, by omega⟩
  · refine Tr.tp 1 c1 ?_
    refine Tr.tswIn (pc := 1) (off := 39) (tgt := 40) d_X11_has_1 (by decide) (by decide) rfl rfl ?_
    refine Tr.aload_n (pc := 40) (i := 0) d_X11_has_40 rfl rfl ?_
    refine Tr.getf (pc := 41) d_X11_has_41 f_11_30 (by decide) (by decide) (ty_0 hS.1.1) ?_
    refine Tr.tp 7 ((St.kp hS (by decide) (by decide)).trans en_0_4) ?_
    refine Tr.getf (pc := 44) d_X11_has_44 f_11_130 (by decide) (by decide) (ty_7 hS.1.1) ?_
    refine Tr.tp 8 (fx_7_4 hS.1.1) ?_
    refine Tr.iload_n (pc := 47) (i := 1) d_X11_has_47 rfl rfl ?_
    refine Tr.tp 1 (by omega) ?_
    refine Tr.iald (pc := 48) d_X11_has_48 (ty_8 hS.1.1) (by omega) (by omega) ?_
    refine Tr.gen (P := fun v => 0 ≤ v ∧ v ≤ 3) (ir_8_1 hS.1.2.1) (fun r48 er48 br48 => ?_)
    exact Tr.iret (pc := 49) d_X11_has_49 rfl ⟨hS, _, rfl, by omega, by omega⟩
  · refine Tr.tp 2 c1 ?_
    refine Tr.tswIn (pc := 1) (off := 39) (tgt := 40) d_X11_has_1 (by decide) (by decide) rfl rfl ?_
    refine Tr.aload_n (pc := 40) (i := 0) d_X11_has_40 rfl rfl ?_
    refine Tr.getf (pc := 41) d_X11_has_41 f_11_30 (by decide) (by decide) (ty_0 hS.1.1) ?_
    refine Tr.tp 7 ((St.kp hS (by decide) (by decide)).trans en_0_4) ?_
    refine Tr.getf (pc := 44) d_X11_has_44 f_11_130 (by decide) (by decide) (ty_7 hS.1.1) ?_
    refine Tr.tp 8 (fx_7_4 hS.1.1) ?_
    refine Tr.iload_n (pc := 47) (i := 1) d_X11_has_47 rfl rfl ?_
    refine Tr.tp 2 (by omega) ?_
    refine Tr.iald (pc := 48) d_X11_has_48 (ty_8 hS.1.1) (by omega) (by omega) ?_
    refine Tr.gen (P := fun v => 0 ≤ v ∧ v ≤ 6) (ir_8_2 hS.1.2.1) (fun r48 er48 br48 => ?_)
    exact Tr.iret (pc := 49) d_X11_has_49 rfl ⟨hS, _, rfl, by omega, by omega⟩
  · refine Tr.tp 3 c1 ?_
    refine Tr.tswIn (pc := 1) (off := 49) (tgt := 50) d_X11_has_1 (by decide) (by decide) rfl rfl ?_
    refine Tr.aload_n (pc := 50) (i := 0) d_X11_has_50 rfl rfl ?_
    refine Tr.getf (pc := 51) d_X11_has_51 f_11_30 (by decide) (by decide) (ty_0 hS.1.1) ?_
    refine Tr.tp 7 ((St.kp hS (by decide) (by decide)).trans en_0_4) ?_
    refine Tr.getf (pc := 54) d_X11_has_54 f_11_115 (by decide) (by decide) (ty_7 hS.1.1) ?_
    refine Tr.tp 15 (fx_7_11 hS.1.1) ?_
    refine Tr.getf (pc := 57) d_X11_has_57 f_11_119 (by decide) (by decide) (ty_15 hS.1.1) ?_
    refine Tr.gen (P := fun v => 0 ≤ v ∧ v ≤ 60) (ir_15_0 hS.1.2.1) (fun r57 er57 br57 => ?_)
    exact Tr.iret (pc := 60) d_X11_has_60 rfl ⟨hS, _, rfl, by omega, by omega⟩
  · refine Tr.tp 4 c1 ?_
    refine Tr.tswIn (pc := 1) (off := 60) (tgt := 61) d_X11_has_1 (by decide) (by decide) rfl rfl ?_
    refine Tr.aload_n (pc := 61) (i := 0) d_X11_has_61 rfl rfl ?_
    refine Tr.getf (pc := 62) d_X11_has_62 f_11_70 (by decide) (by decide) (ty_0 hS.1.1) ?_
    refine Tr.tp 107 (fx_0_12 hS.1.1) ?_
    refine Tr.getf (pc := 65) d_X11_has_65 f_11_133 (by decide) (by decide) (ty_107 hS.1.1) ?_
    refine Tr.gen (P := fun v => 0 ≤ v ∧ v ≤ 12) (ir_107_0 hS.1.2.1) (fun r65 er65 br65 => ?_)
    exact Tr.iret (pc := 68) d_X11_has_68 rfl ⟨hS, _, rfl, by omega, by omega⟩
  · refine Tr.tp 5 c1 ?_
    refine Tr.tswIn (pc := 1) (off := 68) (tgt := 69) d_X11_has_1 (by decide) (by decide) rfl rfl ?_
    refine Tr.aload_n (pc := 69) (i := 0) d_X11_has_69 rfl rfl ?_
    refine Tr.getf (pc := 70) d_X11_has_70 f_11_77 (by decide) (by decide) (ty_0 hS.1.1) ?_
    refine Tr.tp 113 (fx_0_13 hS.1.1) ?_
    refine Tr.getf (pc := 73) d_X11_has_73 f_11_136 (by decide) (by decide) (ty_113 hS.1.1) ?_
    refine Tr.gen (P := fun v => 0 ≤ v ∧ v ≤ 6) (ir_113_0 hS.1.2.1) (fun r73 er73 br73 => ?_)
    exact Tr.iret (pc := 76) d_X11_has_76 rfl ⟨hS, _, rfl, by omega, by omega⟩

def ws_X11_put_0 : List (Int × Int) := []
def as_X11_put_0 : List Int := [47]
def q_X11_put_0 (M0 M' : Mem) (r : Option PV) : Prop := St ws_X11_put_0 as_X11_put_0 M0 M' ∧ ∃ v : Int, r = some (0, v) ∧ 0 ≤ v ∧ v ≤ 1
set_option maxRecDepth 100000 in
set_option maxHeartbeats 4000000 in
theorem sp_X11_put_0 {l : Launch} {K : EC} {M0 : Mem} (hI : In M0) (en_0_4 : rd M0 0 4 = 7) (a1 : Int) (ha1 : (-2147483648) ≤ a1 ∧ a1 ≤ 2147483647) (a2 : Int) (ha2 : (-2147483648) ≤ a2 ∧ a2 ≤ 2147483647)  : Tr l K 0 mX11_put 0 [(0, (2, 0)), (1, (0, a1)), (2, (0, a2))] [] M0 (q_X11_put_0 M0) := by
  have hS : St ws_X11_put_0 as_X11_put_0 M0 M0 := St.rf hI
  refine Tr.iload_n (pc := 0) (i := 1) d_X11_put_0 rfl rfl ?_
  refine Tr.if_lt (pc := 1) (tgt := 17) d_X11_put_1 rfl (fun c1 => ?_) (fun c1 => ?_)
  · refine Tr.iconst (pc := 17) d_X11_put_17 (by decide) ?_
    exact Tr.zret (pc := 18) d_X11_put_18 rfl (by omega) ⟨hS, _, rfl, by omega, by omega⟩
  · refine Tr.iload_n (pc := 4) (i := 1) d_X11_put_4 rfl rfl ?_
    refine Tr.aload_n (pc := 5) (i := 0) d_X11_put_5 rfl rfl ?_
    refine Tr.getf (pc := 6) d_X11_put_6 f_11_30 (by decide) (by decide) (ty_0 hS.1.1) ?_
    refine Tr.tp 7 ((St.kp hS (by decide) (by decide)).trans en_0_4) ?_
    refine Tr.getf (pc := 9) d_X11_put_9 f_11_130 (by decide) (by decide) (ty_7 hS.1.1) ?_
    refine Tr.tp 8 (fx_7_4 hS.1.1) ?_
    refine Tr.iconst (pc := 12) d_X11_put_12 (by decide) ?_
    refine Tr.iald (pc := 13) d_X11_put_13 (ty_8 hS.1.1) (by omega) (by omega) ?_
    refine Tr.gen (P := fun v => 0 ≤ v ∧ v ≤ 3) (ir_8_1 hS.1.2.1) (fun r13 er13 br13 => ?_)
    refine Tr.icmp_lt (pc := 14) (tgt := 19) d_X11_put_14 rfl (fun c14 => ?_) (fun c14 => ?_)
    · refine Tr.iload_n (pc := 19) (i := 2) d_X11_put_19 rfl rfl ?_
      refine Tr.aload_n (pc := 20) (i := 0) d_X11_put_20 rfl rfl ?_
      refine Tr.getf (pc := 21) d_X11_put_21 f_11_30 (by decide) (by decide) (ty_0 hS.1.1) ?_
      refine Tr.tp 7 ((St.kp hS (by decide) (by decide)).trans en_0_4) ?_
      refine Tr.getf (pc := 24) d_X11_put_24 f_11_100 (by decide) (by decide) (ty_7 hS.1.1) ?_
      refine Tr.tp 12 (fx_7_8 hS.1.1) ?_
      refine Tr.iload_n (pc := 27) (i := 1) d_X11_put_27 rfl rfl ?_
      refine Tr.iald (pc := 28) d_X11_put_28 (ty_12 hS.1.1) (by omega) (by omega) ?_
      refine Tr.gen (P := fun v => 0 ≤ v ∧ v ≤ 99) (ar_12 hS.1.2.1 _) (fun r28 er28 br28 => ?_)
      refine Tr.icmp_lt (pc := 29) (tgt := 45) d_X11_put_29 rfl (fun c29 => ?_) (fun c29 => ?_)
      · refine Tr.iconst (pc := 45) d_X11_put_45 (by decide) ?_
        exact Tr.zret (pc := 46) d_X11_put_46 rfl (by omega) ⟨hS, _, rfl, by omega, by omega⟩
      · refine Tr.iload_n (pc := 32) (i := 2) d_X11_put_32 rfl rfl ?_
        refine Tr.aload_n (pc := 33) (i := 0) d_X11_put_33 rfl rfl ?_
        refine Tr.getf (pc := 34) d_X11_put_34 f_11_30 (by decide) (by decide) (ty_0 hS.1.1) ?_
        refine Tr.tp 7 ((St.kp hS (by decide) (by decide)).trans en_0_4) ?_
        refine Tr.getf (pc := 37) d_X11_put_37 f_11_141 (by decide) (by decide) (ty_7 hS.1.1) ?_
        refine Tr.tp 13 (fx_7_9 hS.1.1) ?_
        refine Tr.iload_n (pc := 40) (i := 1) d_X11_put_40 rfl rfl ?_
        refine Tr.iald (pc := 41) d_X11_put_41 (ty_13 hS.1.1) (by omega) (by omega) ?_
        refine Tr.gen (P := fun v => 0 ≤ v ∧ v ≤ 99) (ar_13 hS.1.2.1 _) (fun r41 er41 br41 => ?_)
        refine Tr.icmp_le (pc := 42) (tgt := 47) d_X11_put_42 rfl (fun c42 => ?_) (fun c42 => ?_)
        · refine Tr.aload_n (pc := 47) (i := 0) d_X11_put_47 rfl rfl ?_
          refine Tr.getf (pc := 48) d_X11_put_48 f_11_37 (by decide) (by decide) (ty_0 hS.1.1) ?_
          refine Tr.tp 47 (fx_0_6 hS.1.1) ?_
          refine Tr.iload_n (pc := 51) (i := 1) d_X11_put_51 rfl rfl ?_
          refine Tr.iload_n (pc := 52) (i := 2) d_X11_put_52 rfl rfl ?_
          refine Tr.iastS (pc := 53) (P := St ws_X11_put_0 as_X11_put_0 M0) d_X11_put_53 (ty_47 hS.1.1) (by omega) (by omega) (sa_47 hS (by decide) (by omega)) (fun hS => ?_)
          refine Tr.iconst (pc := 54) d_X11_put_54 (by decide) ?_
          exact Tr.zret (pc := 55) d_X11_put_55 rfl (by omega) ⟨hS, _, rfl, by omega, by omega⟩
        · refine Tr.iconst (pc := 45) d_X11_put_45 (by decide) ?_
          exact Tr.zret (pc := 46) d_X11_put_46 rfl (by omega) ⟨hS, _, rfl, by omega, by omega⟩
    · refine Tr.iconst (pc := 17) d_X11_put_17 (by decide) ?_
      exact Tr.zret (pc := 18) d_X11_put_18 rfl (by omega) ⟨hS, _, rfl, by omega, by omega⟩

def ws_X11_ran_0 : List (Int × Int) := []
def as_X11_ran_0 : List Int := []
def q_X11_ran_0 (M0 M' : Mem) (r : Option PV) : Prop := St ws_X11_ran_0 as_X11_ran_0 M0 M' ∧ ∃ v : Int, r = some (0, v) ∧ (-2147483648) ≤ v ∧ v ≤ 2147483647
set_option maxRecDepth 100000 in
set_option maxHeartbeats 4000000 in
theorem sp_X11_ran_0 {l : Launch} {K : EC} {M0 : Mem} (hI : In M0)  (a1 : Int) (ha1 : (-2147483648) ≤ a1 ∧ a1 ≤ 2147483647)  : Tr l K 0 mX11_ran 0 [(0, (2, 0)), (1, (0, a1))] [] M0 (q_X11_ran_0 M0) := by
  have hS : St ws_X11_ran_0 as_X11_ran_0 M0 M0 := St.rf hI
  refine Tr.aload_n (pc := 0) (i := 0) d_X11_ran_0 rfl rfl ?_
  refine Tr.getz (pc := 1) d_X11_ran_1 f_11_109 (by decide) (ty_0 hS.1.1) ?_
  refine Tr.gen (P := fun v => 0 ≤ v ∧ v ≤ 1) (ir_0_9 hS.1.2.1) (fun r1 er1 br1 => ?_)
  refine Tr.if_ne (pc := 4) (tgt := 9) d_X11_ran_4 rfl (fun c4 => ?_) (fun c4 => ?_)
  · refine Tr.iload_n (pc := 9) (i := 1) d_X11_ran_9 rfl rfl ?_
    rcases (show (a1 < 0 ∨ 5 < a1) ∨ a1 = 0 ∨ a1 = 1 ∨ a1 = 2 ∨ a1 = 3 ∨ a1 = 4 ∨ a1 = 5 by omega) with c10 | c10 | c10 | c10 | c10 | c10 | c10
    · refine Tr.tswOut (pc := 10) (tgt := 96) d_X11_ran_10 c10 rfl ?_
      refine Tr.iconst (pc := 96) d_X11_ran_96 (by decide) ?_
      exact Tr.iret (pc := 97) d_X11_ran_97 rfl ⟨hS, _, rfl, by omega, by omega⟩
    · refine Tr.tp 0 c10 ?_
      refine Tr.tswIn (pc := 10) (off := 38) (tgt := 48) d_X11_ran_10 (by decide) (by decide) rfl rfl ?_
      refine Tr.aload_n (pc := 48) (i := 0) d_X11_ran_48 rfl rfl ?_
      refine Tr.getf (pc := 49) d_X11_ran_49 f_11_46 (by decide) (by decide) (ty_0 hS.1.1) ?_
      refine Tr.tp 48 (fx_0_7 hS.1.1) ?_
      refine Tr.getf (pc := 52) d_X11_ran_52 f_11_152 (by decide) (by decide) (ty_48 hS.1.1) ?_
      refine Tr.gen (P := fun v => (-2147483648) ≤ v ∧ v ≤ 2147483647) (ir_48_9 hS.1.2.1) (fun r52 er52 br52 => ?_)
      exact Tr.iret (pc := 55) d_X11_ran_55 rfl ⟨hS, _, rfl, by omega, by omega⟩
    · refine Tr.tp 1 c10 ?_
      refine Tr.tswIn (pc := 10) (off := 46) (tgt := 56) d_X11_ran_10 (by decide) (by decide) rfl rfl ?_
      refine Tr.aload_n (pc := 56) (i := 0) d_X11_ran_56 rfl rfl ?_
      refine Tr.getf (pc := 57) d_X11_ran_57 f_11_46 (by decide) (by decide) (ty_0 hS.1.1) ?_
      refine Tr.tp 48 (fx_0_7 hS.1.1) ?_
      refine Tr.getf (pc := 60) d_X11_ran_60 f_11_155 (by decide) (by decide) (ty_48 hS.1.1) ?_
      refine Tr.gen (P := fun v => (-2147483648) ≤ v ∧ v ≤ 2147483647) (ir_48_10 hS.1.2.1) (fun r60 er60 br60 => ?_)
      exact Tr.iret (pc := 63) d_X11_ran_63 rfl ⟨hS, _, rfl, by omega, by omega⟩
    · refine Tr.tp 2 c10 ?_
      refine Tr.tswIn (pc := 10) (off := 54) (tgt := 64) d_X11_ran_10 (by decide) (by decide) rfl rfl ?_
      refine Tr.aload_n (pc := 64) (i := 0) d_X11_ran_64 rfl rfl ?_
      refine Tr.getf (pc := 65) d_X11_ran_65 f_11_46 (by decide) (by decide) (ty_0 hS.1.1) ?_
      refine Tr.tp 48 (fx_0_7 hS.1.1) ?_
      refine Tr.getf (pc := 68) d_X11_ran_68 f_11_158 (by decide) (by decide) (ty_48 hS.1.1) ?_
      refine Tr.gen (P := fun v => (-2147483648) ≤ v ∧ v ≤ 2147483647) (ir_48_12 hS.1.2.1) (fun r68 er68 br68 => ?_)
      exact Tr.iret (pc := 71) d_X11_ran_71 rfl ⟨hS, _, rfl, by omega, by omega⟩
    · refine Tr.tp 3 c10 ?_
      refine Tr.tswIn (pc := 10) (off := 62) (tgt := 72) d_X11_ran_10 (by decide) (by decide) rfl rfl ?_
      refine Tr.aload_n (pc := 72) (i := 0) d_X11_ran_72 rfl rfl ?_
      refine Tr.getf (pc := 73) d_X11_ran_73 f_11_46 (by decide) (by decide) (ty_0 hS.1.1) ?_
      refine Tr.tp 48 (fx_0_7 hS.1.1) ?_
      refine Tr.getf (pc := 76) d_X11_ran_76 f_11_161 (by decide) (by decide) (ty_48 hS.1.1) ?_
      refine Tr.gen (P := fun v => (-2147483648) ≤ v ∧ v ≤ 2147483647) (ir_48_13 hS.1.2.1) (fun r76 er76 br76 => ?_)
      exact Tr.iret (pc := 79) d_X11_ran_79 rfl ⟨hS, _, rfl, by omega, by omega⟩
    · refine Tr.tp 4 c10 ?_
      refine Tr.tswIn (pc := 10) (off := 70) (tgt := 80) d_X11_ran_10 (by decide) (by decide) rfl rfl ?_
      refine Tr.aload_n (pc := 80) (i := 0) d_X11_ran_80 rfl rfl ?_
      refine Tr.getf (pc := 81) d_X11_ran_81 f_11_46 (by decide) (by decide) (ty_0 hS.1.1) ?_
      refine Tr.tp 48 (fx_0_7 hS.1.1) ?_
      refine Tr.getf (pc := 84) d_X11_ran_84 f_11_164 (by decide) (by decide) (ty_48 hS.1.1) ?_
      refine Tr.gen (P := fun v => (-2147483648) ≤ v ∧ v ≤ 2147483647) (ir_48_11 hS.1.2.1) (fun r84 er84 br84 => ?_)
      exact Tr.iret (pc := 87) d_X11_ran_87 rfl ⟨hS, _, rfl, by omega, by omega⟩
    · refine Tr.tp 5 c10 ?_
      refine Tr.tswIn (pc := 10) (off := 78) (tgt := 88) d_X11_ran_10 (by decide) (by decide) rfl rfl ?_
      refine Tr.aload_n (pc := 88) (i := 0) d_X11_ran_88 rfl rfl ?_
      refine Tr.getf (pc := 89) d_X11_ran_89 f_11_46 (by decide) (by decide) (ty_0 hS.1.1) ?_
      refine Tr.tp 48 (fx_0_7 hS.1.1) ?_
      refine Tr.getf (pc := 92) d_X11_ran_92 f_11_167 (by decide) (by decide) (ty_48 hS.1.1) ?_
      refine Tr.gen (P := fun v => (-2147483648) ≤ v ∧ v ≤ 2147483647) (ir_48_15 hS.1.2.1) (fun r92 er92 br92 => ?_)
      exact Tr.iret (pc := 95) d_X11_ran_95 rfl ⟨hS, _, rfl, by omega, by omega⟩
  · refine Tr.iconst (pc := 7) d_X11_ran_7 (by decide) ?_
    exact Tr.iret (pc := 8) d_X11_ran_8 rfl ⟨hS, _, rfl, by omega, by omega⟩

def ws_X11_value_0 : List (Int × Int) := []
def as_X11_value_0 : List Int := []
def q_X11_value_0 (M0 M' : Mem) (r : Option PV) : Prop := St ws_X11_value_0 as_X11_value_0 M0 M' ∧ ∃ v : Int, r = some (0, v) ∧ (-2147483648) ≤ v ∧ v ≤ 2147483647
set_option maxRecDepth 100000 in
set_option maxHeartbeats 4000000 in
theorem sp_X11_value_0 {l : Launch} {K : EC} {M0 : Mem} (hI : In M0) (en_0_4 : rd M0 0 4 = 7) (a1 : Int) (ha1 : (-2147483648) ≤ a1 ∧ a1 ≤ 2147483647)  : Tr l K 0 mX11_value 0 [(0, (2, 0)), (1, (0, a1))] [] M0 (q_X11_value_0 M0) := by
  have hS : St ws_X11_value_0 as_X11_value_0 M0 M0 := St.rf hI
  refine Tr.aload_n (pc := 0) (i := 0) d_X11_value_0 rfl rfl ?_
  refine Tr.getz (pc := 1) d_X11_value_1 f_11_109 (by decide) (ty_0 hS.1.1) ?_
  refine Tr.gen (P := fun v => 0 ≤ v ∧ v ≤ 1) (ir_0_9 hS.1.2.1) (fun r1 er1 br1 => ?_)
  refine Tr.if_eq (pc := 4) (tgt := 24) d_X11_value_4 rfl (fun c4 => ?_) (fun c4 => ?_)
  · refine Tr.ldc (pc := 24) d_X11_value_24 k_11_170 (by decide) ?_
    exact Tr.iret (pc := 26) d_X11_value_26 rfl ⟨hS, _, rfl, by omega, by omega⟩
  · refine Tr.iload_n (pc := 7) (i := 1) d_X11_value_7 rfl rfl ?_
    refine Tr.if_lt (pc := 8) (tgt := 24) d_X11_value_8 rfl (fun c8 => ?_) (fun c8 => ?_)
    · refine Tr.ldc (pc := 24) d_X11_value_24 k_11_170 (by decide) ?_
      exact Tr.iret (pc := 26) d_X11_value_26 rfl ⟨hS, _, rfl, by omega, by omega⟩
    · refine Tr.iload_n (pc := 11) (i := 1) d_X11_value_11 rfl rfl ?_
      refine Tr.aload_n (pc := 12) (i := 0) d_X11_value_12 rfl rfl ?_
      refine Tr.getf (pc := 13) d_X11_value_13 f_11_30 (by decide) (by decide) (ty_0 hS.1.1) ?_
      refine Tr.tp 7 ((St.kp hS (by decide) (by decide)).trans en_0_4) ?_
      refine Tr.getf (pc := 16) d_X11_value_16 f_11_130 (by decide) (by decide) (ty_7 hS.1.1) ?_
      refine Tr.tp 8 (fx_7_4 hS.1.1) ?_
      refine Tr.iconst (pc := 19) d_X11_value_19 (by decide) ?_
      refine Tr.iald (pc := 20) d_X11_value_20 (ty_8 hS.1.1) (by omega) (by omega) ?_
      refine Tr.gen (P := fun v => 0 ≤ v ∧ v ≤ 6) (ir_8_2 hS.1.2.1) (fun r20 er20 br20 => ?_)
      refine Tr.icmp_lt (pc := 21) (tgt := 27) d_X11_value_21 rfl (fun c21 => ?_) (fun c21 => ?_)
      · refine Tr.aload_n (pc := 27) (i := 0) d_X11_value_27 rfl rfl ?_
        refine Tr.getf (pc := 28) d_X11_value_28 f_11_46 (by decide) (by decide) (ty_0 hS.1.1) ?_
        refine Tr.tp 48 (fx_0_7 hS.1.1) ?_
        refine Tr.getf (pc := 31) d_X11_value_31 f_11_171 (by decide) (by decide) (ty_48 hS.1.1) ?_
        refine Tr.tp 50 (fx_48_3 hS.1.1) ?_
        refine Tr.iload_n (pc := 34) (i := 1) d_X11_value_34 rfl rfl ?_
        refine Tr.iald (pc := 35) d_X11_value_35 (ty_50 hS.1.1) (by omega) (by omega) ?_
        refine Tr.gen (P := fun v => (-2147483648) ≤ v ∧ v ≤ 2147483647) (ar_50 hS.1.2.1 _) (fun r35 er35 br35 => ?_)
        exact Tr.iret (pc := 36) d_X11_value_36 rfl ⟨hS, _, rfl, by omega, by omega⟩
      · refine Tr.ldc (pc := 24) d_X11_value_24 k_11_170 (by decide) ?_
        exact Tr.iret (pc := 26) d_X11_value_26 rfl ⟨hS, _, rfl, by omega, by omega⟩

def ws_X11_isPart_0 : List (Int × Int) := []
def as_X11_isPart_0 : List Int := []
def q_X11_isPart_0 (a1 : Int) (M0 M' : Mem) (r : Option PV) : Prop := St ws_X11_isPart_0 as_X11_isPart_0 M0 M' ∧ ∃ v : Int, r = some (0, v) ∧ 0 ≤ v ∧ v ≤ 1 ∧ (v = 1 → (0 ≤ a1 ∧ a1 ≤ 5))
set_option maxRecDepth 100000 in
set_option maxHeartbeats 4000000 in
theorem sp_X11_isPart_0 {l : Launch} {K : EC} {M0 : Mem} (hI : In M0) (en_0_4 : rd M0 0 4 = 7) (a1 : Int) (ha1 : (-2147483648) ≤ a1 ∧ a1 ≤ 2147483647)  : Tr l K 0 mX11_isPart 0 [(0, (2, 0)), (1, (0, a1))] [] M0 (q_X11_isPart_0 a1 M0) := by
  have hS : St ws_X11_isPart_0 as_X11_isPart_0 M0 M0 := St.rf hI
  refine Tr.iload_n (pc := 0) (i := 1) d_X11_isPart_0 rfl rfl ?_
  refine Tr.if_lt (pc := 1) (tgt := 21) d_X11_isPart_1 rfl (fun c1 => ?_) (fun c1 => ?_)
  · refine Tr.iconst (pc := 21) d_X11_isPart_21 (by decide) ?_
    exact Tr.zret (pc := 22) d_X11_isPart_22 rfl (by omega) ⟨hS, _, rfl, by omega, by omega, by omega⟩
  · refine Tr.iload_n (pc := 4) (i := 1) d_X11_isPart_4 rfl rfl ?_
    refine Tr.aload_n (pc := 5) (i := 0) d_X11_isPart_5 rfl rfl ?_
    refine Tr.getf (pc := 6) d_X11_isPart_6 f_11_30 (by decide) (by decide) (ty_0 hS.1.1) ?_
    refine Tr.tp 7 ((St.kp hS (by decide) (by decide)).trans en_0_4) ?_
    refine Tr.getf (pc := 9) d_X11_isPart_9 f_11_130 (by decide) (by decide) (ty_7 hS.1.1) ?_
    refine Tr.tp 8 (fx_7_4 hS.1.1) ?_
    refine Tr.iconst (pc := 12) d_X11_isPart_12 (by decide) ?_
    refine Tr.iald (pc := 13) d_X11_isPart_13 (ty_8 hS.1.1) (by omega) (by omega) ?_
    refine Tr.gen (P := fun v => 0 ≤ v ∧ v ≤ 6) (ir_8_0 hS.1.2.1) (fun r13 er13 br13 => ?_)
    refine Tr.icmp_ge (pc := 14) (tgt := 21) d_X11_isPart_14 rfl (fun c14 => ?_) (fun c14 => ?_)
    · refine Tr.iconst (pc := 21) d_X11_isPart_21 (by decide) ?_
      exact Tr.zret (pc := 22) d_X11_isPart_22 rfl (by omega) ⟨hS, _, rfl, by omega, by omega, by omega⟩
    · refine Tr.iconst (pc := 17) d_X11_isPart_17 (by decide) ?_
      refine Tr.goto (pc := 18) (tgt := 22) d_X11_isPart_18 rfl ?_
      exact Tr.zret (pc := 22) d_X11_isPart_22 rfl (by omega) ⟨hS, _, rfl, by omega, by omega, by omega⟩

def ws_X11_spent_0 : List (Int × Int) := []
def as_X11_spent_0 : List Int := []
def q_X11_spent_0 (M0 M' : Mem) (r : Option PV) : Prop := St ws_X11_spent_0 as_X11_spent_0 M0 M' ∧ ∃ v : Int, r = some (0, v) ∧ (-2147483648) ≤ v ∧ v ≤ 2147483647
set_option maxRecDepth 100000 in
set_option maxHeartbeats 4000000 in
theorem sp_X11_spent_0 {l : Launch} {K : EC} {M0 : Mem} (hI : In M0) (en_0_4 : rd M0 0 4 = 7) (a1 : Int) (ha1 : (-2147483648) ≤ a1 ∧ a1 ≤ 2147483647) (a2 : Int) (ha2 : (-2147483648) ≤ a2 ∧ a2 ≤ 2147483647)  : Tr l K 1 mX11_spent 0 [(0, (2, 0)), (1, (0, a1)), (2, (0, a2))] [] M0 (q_X11_spent_0 M0) := by
  have hS : St ws_X11_spent_0 as_X11_spent_0 M0 M0 := St.rf hI
  refine Tr.aload_n (pc := 0) (i := 0) d_X11_spent_0 rfl rfl ?_
  refine Tr.getz (pc := 1) d_X11_spent_1 f_11_109 (by decide) (ty_0 hS.1.1) ?_
  refine Tr.gen (P := fun v => 0 ≤ v ∧ v ≤ 1) (ir_0_9 hS.1.2.1) (fun r1 er1 br1 => ?_)
  refine Tr.if_eq (pc := 4) (tgt := 24) d_X11_spent_4 rfl (fun c4 => ?_) (fun c4 => ?_)
  · refine Tr.iconst (pc := 24) d_X11_spent_24 (by decide) ?_
    exact Tr.iret (pc := 25) d_X11_spent_25 rfl ⟨hS, _, rfl, by omega, by omega⟩
  · refine Tr.aload_n (pc := 7) (i := 0) d_X11_spent_7 rfl rfl ?_
    refine Tr.iload_n (pc := 8) (i := 1) d_X11_spent_8 rfl rfl ?_
    refine Tr.callV (pc := 9) (as := [_]) d_X11_spent_9 s_11_174 ok_X11_isPart rfl rfl (Nat.le_of_ble_eq_true rfl) (Nat.le_of_ble_eq_true rfl) (by decide) (ty_0 hS.1.1) ?_
    refine Tr.imp (Tr.deep (by decide) (sp_X11_isPart_0 hS.1 ((St.kp hS (by decide) (by decide)).trans en_0_4) a1 (by omega))) ?_
    rintro M9 _ ⟨h9, r9, rfl, lr9, ur9, wr9⟩
    have hS := St.tr hS h9 (by decide) (by decide)
    refine Tr.sc [(0, r9)] rfl ?_
    refine Tr.if_eq (pc := 12) (tgt := 24) d_X11_spent_12 rfl (fun c12 => ?_) (fun c12 => ?_)
    · refine Tr.iconst (pc := 24) d_X11_spent_24 (by decide) ?_
      exact Tr.iret (pc := 25) d_X11_spent_25 rfl ⟨hS, _, rfl, by omega, by omega⟩
    · refine Tr.iload_n (pc := 15) (i := 2) d_X11_spent_15 rfl rfl ?_
      refine Tr.if_lt (pc := 16) (tgt := 24) d_X11_spent_16 rfl (fun c16 => ?_) (fun c16 => ?_)
      · refine Tr.iconst (pc := 24) d_X11_spent_24 (by decide) ?_
        exact Tr.iret (pc := 25) d_X11_spent_25 rfl ⟨hS, _, rfl, by omega, by omega⟩
      · refine Tr.iload_n (pc := 19) (i := 2) d_X11_spent_19 rfl rfl ?_
        refine Tr.iconst (pc := 20) d_X11_spent_20 (by decide) ?_
        refine Tr.icmp_lt (pc := 21) (tgt := 26) d_X11_spent_21 rfl (fun c21 => ?_) (fun c21 => ?_)
        · refine Tr.aload_n (pc := 26) (i := 0) d_X11_spent_26 rfl rfl ?_
          refine Tr.getf (pc := 27) d_X11_spent_27 f_11_46 (by decide) (by decide) (ty_0 hS.1.1) ?_
          refine Tr.tp 48 (fx_0_7 hS.1.1) ?_
          refine Tr.getf (pc := 30) d_X11_spent_30 f_11_178 (by decide) (by decide) (ty_48 hS.1.1) ?_
          refine Tr.tp 56 (fx_48_0 hS.1.1) ?_
          refine Tr.getf (pc := 33) d_X11_spent_33 f_11_182 (by decide) (by decide) (ty_56 hS.1.1) ?_
          refine Tr.tp 57 (fx_56_2 hS.1.1) ?_
          refine Tr.iload_n (pc := 36) (i := 1) d_X11_spent_36 rfl rfl ?_
          refine Tr.iconst (pc := 37) d_X11_spent_37 (by decide) ?_
          refine Tr.imul (pc := 38) d_X11_spent_38 ?_
          refine Tr.tp (4 * a1) ((w32_id (by omega)).trans (by omega)) ?_
          refine Tr.iload_n (pc := 39) (i := 2) d_X11_spent_39 rfl rfl ?_
          refine Tr.iadd (pc := 40) d_X11_spent_40 ?_
          refine Tr.tp (4 * a1 + a2) ((w32_id (by omega)).trans (by omega)) ?_
          refine Tr.iald (pc := 41) d_X11_spent_41 (ty_57 hS.1.1) (by omega) (by omega) ?_
          refine Tr.gen (P := fun v => (-2147483648) ≤ v ∧ v ≤ 2147483647) (ar_57 hS.1.2.1 _) (fun r41 er41 br41 => ?_)
          exact Tr.iret (pc := 42) d_X11_spent_42 rfl ⟨hS, _, rfl, by omega, by omega⟩
        · refine Tr.iconst (pc := 24) d_X11_spent_24 (by decide) ?_
          exact Tr.iret (pc := 25) d_X11_spent_25 rfl ⟨hS, _, rfl, by omega, by omega⟩

def ws_X11_isLine_0 : List (Int × Int) := []
def as_X11_isLine_0 : List Int := []
def q_X11_isLine_0 (a1 : Int) (M0 M' : Mem) (r : Option PV) : Prop := St ws_X11_isLine_0 as_X11_isLine_0 M0 M' ∧ ∃ v : Int, r = some (0, v) ∧ 0 ≤ v ∧ v ≤ 1 ∧ (v = 1 → (0 ≤ a1 ∧ a1 ≤ 59))
set_option maxRecDepth 100000 in
set_option maxHeartbeats 4000000 in
theorem sp_X11_isLine_0 {l : Launch} {K : EC} {M0 : Mem} (hI : In M0) (en_0_4 : rd M0 0 4 = 7) (a1 : Int) (ha1 : (-2147483648) ≤ a1 ∧ a1 ≤ 2147483647)  : Tr l K 0 mX11_isLine 0 [(0, (2, 0)), (1, (0, a1))] [] M0 (q_X11_isLine_0 a1 M0) := by
  have hS : St ws_X11_isLine_0 as_X11_isLine_0 M0 M0 := St.rf hI
  refine Tr.iload_n (pc := 0) (i := 1) d_X11_isLine_0 rfl rfl ?_
  refine Tr.if_lt (pc := 1) (tgt := 22) d_X11_isLine_1 rfl (fun c1 => ?_) (fun c1 => ?_)
  · refine Tr.iconst (pc := 22) d_X11_isLine_22 (by decide) ?_
    exact Tr.zret (pc := 23) d_X11_isLine_23 rfl (by omega) ⟨hS, _, rfl, by omega, by omega, by omega⟩
  · refine Tr.iload_n (pc := 4) (i := 1) d_X11_isLine_4 rfl rfl ?_
    refine Tr.aload_n (pc := 5) (i := 0) d_X11_isLine_5 rfl rfl ?_
    refine Tr.getf (pc := 6) d_X11_isLine_6 f_11_30 (by decide) (by decide) (ty_0 hS.1.1) ?_
    refine Tr.tp 7 ((St.kp hS (by decide) (by decide)).trans en_0_4) ?_
    refine Tr.getf (pc := 9) d_X11_isLine_9 f_11_115 (by decide) (by decide) (ty_7 hS.1.1) ?_
    refine Tr.tp 15 (fx_7_11 hS.1.1) ?_
    refine Tr.getf (pc := 12) d_X11_isLine_12 f_11_119 (by decide) (by decide) (ty_15 hS.1.1) ?_
    refine Tr.gen (P := fun v => 0 ≤ v ∧ v ≤ 60) (ir_15_0 hS.1.2.1) (fun r12 er12 br12 => ?_)
    refine Tr.icmp_ge (pc := 15) (tgt := 22) d_X11_isLine_15 rfl (fun c15 => ?_) (fun c15 => ?_)
    · refine Tr.iconst (pc := 22) d_X11_isLine_22 (by decide) ?_
      exact Tr.zret (pc := 23) d_X11_isLine_23 rfl (by omega) ⟨hS, _, rfl, by omega, by omega, by omega⟩
    · refine Tr.iconst (pc := 18) d_X11_isLine_18 (by decide) ?_
      refine Tr.goto (pc := 19) (tgt := 23) d_X11_isLine_19 rfl ?_
      exact Tr.zret (pc := 23) d_X11_isLine_23 rfl (by omega) ⟨hS, _, rfl, by omega, by omega, by omega⟩

def ws_X11_wasted_0 : List (Int × Int) := []
def as_X11_wasted_0 : List Int := []
def q_X11_wasted_0 (M0 M' : Mem) (r : Option PV) : Prop := St ws_X11_wasted_0 as_X11_wasted_0 M0 M' ∧ ∃ v : Int, r = some (0, v) ∧ (-2147483648) ≤ v ∧ v ≤ 2147483647
set_option maxRecDepth 100000 in
set_option maxHeartbeats 4000000 in
theorem sp_X11_wasted_0 {l : Launch} {K : EC} {M0 : Mem} (hI : In M0) (en_0_4 : rd M0 0 4 = 7) (a1 : Int) (ha1 : (-2147483648) ≤ a1 ∧ a1 ≤ 2147483647)  : Tr l K 1 mX11_wasted 0 [(0, (2, 0)), (1, (0, a1))] [] M0 (q_X11_wasted_0 M0) := by
  have hS : St ws_X11_wasted_0 as_X11_wasted_0 M0 M0 := St.rf hI
  refine Tr.aload_n (pc := 0) (i := 0) d_X11_wasted_0 rfl rfl ?_
  refine Tr.getz (pc := 1) d_X11_wasted_1 f_11_109 (by decide) (ty_0 hS.1.1) ?_
  refine Tr.gen (P := fun v => 0 ≤ v ∧ v ≤ 1) (ir_0_9 hS.1.2.1) (fun r1 er1 br1 => ?_)
  refine Tr.if_eq (pc := 4) (tgt := 15) d_X11_wasted_4 rfl (fun c4 => ?_) (fun c4 => ?_)
  · refine Tr.iconst (pc := 15) d_X11_wasted_15 (by decide) ?_
    exact Tr.iret (pc := 16) d_X11_wasted_16 rfl ⟨hS, _, rfl, by omega, by omega⟩
  · refine Tr.aload_n (pc := 7) (i := 0) d_X11_wasted_7 rfl rfl ?_
    refine Tr.iload_n (pc := 8) (i := 1) d_X11_wasted_8 rfl rfl ?_
    refine Tr.callV (pc := 9) (as := [_]) d_X11_wasted_9 s_11_191 ok_X11_isLine rfl rfl (Nat.le_of_ble_eq_true rfl) (Nat.le_of_ble_eq_true rfl) (by decide) (ty_0 hS.1.1) ?_
    refine Tr.imp (Tr.deep (by decide) (sp_X11_isLine_0 hS.1 ((St.kp hS (by decide) (by decide)).trans en_0_4) a1 (by omega))) ?_
    rintro M9 _ ⟨h9, r9, rfl, lr9, ur9, wr9⟩
    have hS := St.tr hS h9 (by decide) (by decide)
    refine Tr.sc [(0, r9)] rfl ?_
    refine Tr.if_ne (pc := 12) (tgt := 17) d_X11_wasted_12 rfl (fun c12 => ?_) (fun c12 => ?_)
    · refine Tr.aload_n (pc := 17) (i := 0) d_X11_wasted_17 rfl rfl ?_
      refine Tr.getf (pc := 18) d_X11_wasted_18 f_11_46 (by decide) (by decide) (ty_0 hS.1.1) ?_
      refine Tr.tp 48 (fx_0_7 hS.1.1) ?_
      refine Tr.getf (pc := 21) d_X11_wasted_21 f_11_178 (by decide) (by decide) (ty_48 hS.1.1) ?_
      refine Tr.tp 56 (fx_48_0 hS.1.1) ?_
      refine Tr.getf (pc := 24) d_X11_wasted_24 f_11_246 (by decide) (by decide) (ty_56 hS.1.1) ?_
      refine Tr.tp 62 (fx_56_7 hS.1.1) ?_
      refine Tr.iload_n (pc := 27) (i := 1) d_X11_wasted_27 rfl rfl ?_
      refine Tr.iald (pc := 28) d_X11_wasted_28 (ty_62 hS.1.1) (by omega) (by omega) ?_
      refine Tr.gen (P := fun v => (-2147483648) ≤ v ∧ v ≤ 2147483647) (ar_62 hS.1.2.1 _) (fun r28 er28 br28 => ?_)
      exact Tr.iret (pc := 29) d_X11_wasted_29 rfl ⟨hS, _, rfl, by omega, by omega⟩
    · refine Tr.iconst (pc := 15) d_X11_wasted_15 (by decide) ?_
      exact Tr.iret (pc := 16) d_X11_wasted_16 rfl ⟨hS, _, rfl, by omega, by omega⟩

def ws_X10_chosenInput_103 : List (Int × Int) := []
def as_X10_chosenInput_103 : List Int := []
def q_X10_chosenInput_103 (M0 M' : Mem) (r : Option PV) : Prop := St ws_X10_chosenInput_103 as_X10_chosenInput_103 M0 M' ∧ ∃ v : Int, r = some (0, v) ∧ (-2147483648) ≤ v ∧ v ≤ 2147483647
set_option maxRecDepth 100000 in
set_option maxHeartbeats 4000000 in
theorem sp_X10_chosenInput_103 {l : Launch} {K : EC} {M0 : Mem} (hI : In M0)  (a1 : Int) (ha1 : 0 ≤ a1 ∧ a1 ≤ 2)  : Tr l K 0 mX10_chosenInput 0 [(0, (2, 103)), (1, (0, a1))] [] M0 (q_X10_chosenInput_103 M0) := by
  have hS : St ws_X10_chosenInput_103 as_X10_chosenInput_103 M0 M0 := St.rf hI
  refine Tr.aload_n (pc := 0) (i := 0) d_X10_chosenInput_0 rfl rfl ?_
  refine Tr.getz (pc := 1) d_X10_chosenInput_1 f_10_21 (by decide) (ty_103 hS.1.1) ?_
  refine Tr.gen (P := fun v => 0 ≤ v ∧ v ≤ 1) (ir_103_0 hS.1.2.1) (fun r1 er1 br1 => ?_)
  refine Tr.if_ne (pc := 4) (tgt := 9) d_X10_chosenInput_4 rfl (fun c4 => ?_) (fun c4 => ?_)
  · refine Tr.aload_n (pc := 9) (i := 0) d_X10_chosenInput_9 rfl rfl ?_
    refine Tr.getz (pc := 10) d_X10_chosenInput_10 f_10_52 (by decide) (ty_103 hS.1.1) ?_
    refine Tr.gen (P := fun v => 0 ≤ v ∧ v ≤ 1) (ir_103_1 hS.1.2.1) (fun r10 er10 br10 => ?_)
    refine Tr.if_eq (pc := 13) (tgt := 25) d_X10_chosenInput_13 rfl (fun c13 => ?_) (fun c13 => ?_)
    · refine Tr.aload_n (pc := 25) (i := 0) d_X10_chosenInput_25 rfl rfl ?_
      refine Tr.getf (pc := 26) d_X10_chosenInput_26 f_10_18 (by decide) (by decide) (ty_103 hS.1.1) ?_
      refine Tr.tp 106 (fx_103_6 hS.1.1) ?_
      refine Tr.iload_n (pc := 29) (i := 1) d_X10_chosenInput_29 rfl rfl ?_
      refine Tr.iald (pc := 30) d_X10_chosenInput_30 (ty_106 hS.1.1) (by omega) (by omega) ?_
      refine Tr.gen (P := fun v => (-2147483648) ≤ v ∧ v ≤ 2147483647) (ar_106 hS.1.2.1 _) (fun r30 er30 br30 => ?_)
      exact Tr.iret (pc := 31) d_X10_chosenInput_31 rfl ⟨hS, _, rfl, by omega, by omega⟩
    · refine Tr.aload_n (pc := 16) (i := 0) d_X10_chosenInput_16 rfl rfl ?_
      refine Tr.getf (pc := 17) d_X10_chosenInput_17 f_10_15 (by decide) (by decide) (ty_103 hS.1.1) ?_
      refine Tr.tp 105 (fx_103_5 hS.1.1) ?_
      refine Tr.iload_n (pc := 20) (i := 1) d_X10_chosenInput_20 rfl rfl ?_
      refine Tr.iald (pc := 21) d_X10_chosenInput_21 (ty_105 hS.1.1) (by omega) (by omega) ?_
      refine Tr.gen (P := fun v => (-2147483648) ≤ v ∧ v ≤ 2147483647) (ar_105 hS.1.2.1 _) (fun r21 er21 br21 => ?_)
      refine Tr.goto (pc := 22) (tgt := 31) d_X10_chosenInput_22 rfl ?_
      exact Tr.iret (pc := 31) d_X10_chosenInput_31 rfl ⟨hS, _, rfl, by omega, by omega⟩
  · refine Tr.iconst (pc := 7) d_X10_chosenInput_7 (by decide) ?_
    exact Tr.iret (pc := 8) d_X10_chosenInput_8 rfl ⟨hS, _, rfl, by omega, by omega⟩

def ws_X11_where_0 : List (Int × Int) := []
def as_X11_where_0 : List Int := []
def q_X11_where_0 (M0 M' : Mem) (r : Option PV) : Prop := St ws_X11_where_0 as_X11_where_0 M0 M' ∧ ∃ v : Int, r = some (0, v) ∧ (-2147483648) ≤ v ∧ v ≤ 2147483647
set_option maxRecDepth 100000 in
set_option maxHeartbeats 4000000 in
theorem sp_X11_where_0 {l : Launch} {K : EC} {M0 : Mem} (hI : In M0) (en_0_4 : rd M0 0 4 = 7) (a1 : Int) (ha1 : (-2147483648) ≤ a1 ∧ a1 ≤ 2147483647)  : Tr l K 1 mX11_where 0 [(0, (2, 0)), (1, (0, a1))] [] M0 (q_X11_where_0 M0) := by
  have hS : St ws_X11_where_0 as_X11_where_0 M0 M0 := St.rf hI
  refine Tr.iload_n (pc := 0) (i := 1) d_X11_where_0 rfl rfl ?_
  refine Tr.if_lt (pc := 1) (tgt := 17) d_X11_where_1 rfl (fun c1 => ?_) (fun c1 => ?_)
  · refine Tr.iconst (pc := 17) d_X11_where_17 (by decide) ?_
    exact Tr.iret (pc := 18) d_X11_where_18 rfl ⟨hS, _, rfl, by omega, by omega⟩
  · refine Tr.iload_n (pc := 4) (i := 1) d_X11_where_4 rfl rfl ?_
    refine Tr.aload_n (pc := 5) (i := 0) d_X11_where_5 rfl rfl ?_
    refine Tr.getf (pc := 6) d_X11_where_6 f_11_30 (by decide) (by decide) (ty_0 hS.1.1) ?_
    refine Tr.tp 7 ((St.kp hS (by decide) (by decide)).trans en_0_4) ?_
    refine Tr.getf (pc := 9) d_X11_where_9 f_11_130 (by decide) (by decide) (ty_7 hS.1.1) ?_
    refine Tr.tp 8 (fx_7_4 hS.1.1) ?_
    refine Tr.iconst (pc := 12) d_X11_where_12 (by decide) ?_
    refine Tr.iald (pc := 13) d_X11_where_13 (ty_8 hS.1.1) (by omega) (by omega) ?_
    refine Tr.gen (P := fun v => 0 ≤ v ∧ v ≤ 3) (ir_8_1 hS.1.2.1) (fun r13 er13 br13 => ?_)
    refine Tr.icmp_lt (pc := 14) (tgt := 19) d_X11_where_14 rfl (fun c14 => ?_) (fun c14 => ?_)
    · refine Tr.aload_n (pc := 19) (i := 0) d_X11_where_19 rfl rfl ?_
      refine Tr.getf (pc := 20) d_X11_where_20 f_11_63 (by decide) (by decide) (ty_0 hS.1.1) ?_
      refine Tr.tp 103 (fx_0_11 hS.1.1) ?_
      refine Tr.iload_n (pc := 23) (i := 1) d_X11_where_23 rfl rfl ?_
      refine Tr.callV (pc := 24) (as := [_]) d_X11_where_24 s_11_268 ok_X10_chosenInput rfl rfl (Nat.le_of_ble_eq_true rfl) (Nat.le_of_ble_eq_true rfl) (by decide) (ty_103 hS.1.1) ?_
      refine Tr.imp (Tr.deep (by decide) (sp_X10_chosenInput_103 hS.1 a1 (by omega))) ?_
      rintro M24 _ ⟨h24, r24, rfl, lr24, ur24⟩
      have hS := St.tr hS h24 (by decide) (by decide)
      refine Tr.sc [(0, r24)] rfl ?_
      exact Tr.iret (pc := 27) d_X11_where_27 rfl ⟨hS, _, rfl, by omega, by omega⟩
    · refine Tr.iconst (pc := 17) d_X11_where_17 (by decide) ?_
      exact Tr.iret (pc := 18) d_X11_where_18 rfl ⟨hS, _, rfl, by omega, by omega⟩

def ws_X2_ownSips_107_7 : List (Int × Int) := []
def as_X2_ownSips_107_7 : List Int := []
def q_X2_ownSips_107_7 (M0 M' : Mem) (r : Option PV) : Prop := St ws_X2_ownSips_107_7 as_X2_ownSips_107_7 M0 M' ∧ ∃ v : Int, r = some (0, v) ∧ (-2147483648) ≤ v ∧ v ≤ 2147483647
set_option maxRecDepth 100000 in
set_option maxHeartbeats 4000000 in
theorem sp_X2_ownSips_107_7 {l : Launch} {K : EC} {M0 : Mem} (hI : In M0)  (a2 : Int) (ha2 : 0 ≤ a2 ∧ a2 ≤ 5) (a3 : Int) (ha3 : 0 ≤ a3 ∧ a3 ≤ 11)  : Tr l K 0 mX2_ownSips 0 [(0, (2, 107)), (1, (2, 7)), (2, (0, a2)), (3, (0, a3))] [] M0 (q_X2_ownSips_107_7 M0) := by
  have hS : St ws_X2_ownSips_107_7 as_X2_ownSips_107_7 M0 M0 := St.rf hI
  refine Tr.iconst (pc := 0) d_X2_ownSips_0 (by decide) ?_
  refine Tr.istore (pc := 1) (i := 4) (ls2 := [(4, (0, 0)), (0, (2, 107)), (1, (2, 7)), (2, (0, a2)), (3, (0, a3))]) d_X2_ownSips_1 (by decide) rfl ?_
  refine Tr.iconst (pc := 3) d_X2_ownSips_3 (by decide) ?_
  refine Tr.istore (pc := 4) (i := 5) (ls2 := [(5, (0, 0)), (4, (0, 0)), (0, (2, 107)), (1, (2, 7)), (2, (0, a2)), (3, (0, a3))]) d_X2_ownSips_4 (by decide) rfl ?_
  have J6 : ∀ (n6 : Nat) (M : Mem) (p6_4 p6_5 : Int), St ws_X2_ownSips_107_7 as_X2_ownSips_107_7 M0 M → ((-2147483648) ≤ p6_4 ∧ p6_4 ≤ 2147483647) → (0 ≤ p6_5 ∧ p6_5 ≤ 4) → (4 - p6_5).toNat < n6 → Tr l K 0 mX2_ownSips 6 [(0, (2, 107)), (1, (2, 7)), (2, (0, a2)), (3, (0, a3)), (4, (0, p6_4)), (5, (0, p6_5))] [] M (q_X2_ownSips_107_7 M0) := by
    intro n6
    induction n6 with
    | zero => intro M p6_4 p6_5 hS bp6_4 bp6_5  hm6; exact absurd hm6 (Nat.not_lt_zero _)
    | succ n6 J6 =>
      intro M p6_4 p6_5 hS bp6_4 bp6_5  hm6
      refine Tr.iload (pc := 6) (i := 5) d_X2_ownSips_6 rfl ?_
      refine Tr.iconst (pc := 8) d_X2_ownSips_8 (by decide) ?_
      refine Tr.icmp_ge (pc := 9) (tgt := 57) d_X2_ownSips_9 rfl (fun c9 => ?_) (fun c9 => ?_)
      · refine Tr.iload (pc := 57) (i := 4) d_X2_ownSips_57 rfl ?_
        exact Tr.iret (pc := 59) d_X2_ownSips_59 rfl ⟨hS, _, rfl, by omega, by omega⟩
      · refine Tr.iload (pc := 12) (i := 5) d_X2_ownSips_12 rfl ?_
        refine Tr.iconst (pc := 14) d_X2_ownSips_14 (by decide) ?_
        have J51 : ∀ (M : Mem) (p51_4 : Int), St ws_X2_ownSips_107_7 as_X2_ownSips_107_7 M0 M → ((-2147483648) ≤ p51_4 ∧ p51_4 ≤ 2147483647) → Tr l K 0 mX2_ownSips 51 [(0, (2, 107)), (1, (2, 7)), (2, (0, a2)), (3, (0, a3)), (4, (0, p51_4)), (5, (0, p6_5))] [] M (q_X2_ownSips_107_7 M0) := by
          intro M p51_4 hS bp51_4 
          refine Tr.iincV (pc := 51) (n2 := (p6_5 + 1)) (ls2 := [(5, (0, (p6_5 + 1))), (0, (2, 107)), (1, (2, 7)), (2, (0, a2)), (3, (0, a3)), (4, (0, p51_4))]) d_X2_ownSips_51 rfl (by decide) ((w32_id (by omega)).trans (by omega)) rfl ?_
          refine Tr.goto (pc := 54) (tgt := 6) d_X2_ownSips_54 rfl ?_
          refine Tr.pick [1, 2, 3, 4, 5, 0] (ls2 := [(0, (2, 107)), (1, (2, 7)), (2, (0, a2)), (3, (0, a3)), (4, (0, p51_4)), (5, (0, (p6_5 + 1)))]) rfl ?_
          exact J6 _ _ _ hS (by omega) (by omega) (by omega)
        refine Tr.icmp_eq (pc := 15) (tgt := 51) d_X2_ownSips_15 rfl (fun c15 => ?_) (fun c15 => ?_)
        · refine Tr.pick [0, 1, 2, 3, 4, 5] (ls2 := [(0, (2, 107)), (1, (2, 7)), (2, (0, a2)), (3, (0, a3)), (4, (0, p6_4)), (5, (0, p6_5))]) rfl ?_
          exact J51 _ _ hS (by omega)
        · refine Tr.iload (pc := 18) (i := 4) d_X2_ownSips_18 rfl ?_
          refine Tr.aload_n (pc := 20) (i := 1) d_X2_ownSips_20 rfl rfl ?_
          refine Tr.getf (pc := 21) d_X2_ownSips_21 f_2_62 (by decide) (by decide) (ty_7 hS.1.1) ?_
          refine Tr.tp 9 (fx_7_5 hS.1.1) ?_
          refine Tr.iload_n (pc := 24) (i := 2) d_X2_ownSips_24 rfl rfl ?_
          refine Tr.iconst (pc := 25) d_X2_ownSips_25 (by decide) ?_
          refine Tr.imul (pc := 26) d_X2_ownSips_26 ?_
          refine Tr.tp (4 * a2) ((w32_id (by omega)).trans (by omega)) ?_
          refine Tr.iload (pc := 27) (i := 5) d_X2_ownSips_27 rfl ?_
          refine Tr.iadd (pc := 29) d_X2_ownSips_29 ?_
          refine Tr.tp (4 * a2 + p6_5) ((w32_id (by omega)).trans (by omega)) ?_
          refine Tr.iald (pc := 30) d_X2_ownSips_30 (ty_9 hS.1.1) (by omega) (by omega) ?_
          refine Tr.gen (P := fun v => (-1) ≤ v ∧ v ≤ 999) (ar_9 hS.1.2.1 _) (fun r30 er30 br30 => ?_)
          refine Tr.aload_n (pc := 31) (i := 0) d_X2_ownSips_31 rfl rfl ?_
          refine Tr.getf (pc := 32) d_X2_ownSips_32 f_2_21 (by decide) (by decide) (ty_107 hS.1.1) ?_
          refine Tr.tp 111 (fx_107_5 hS.1.1) ?_
          refine Tr.iload_n (pc := 35) (i := 3) d_X2_ownSips_35 rfl rfl ?_
          refine Tr.bipush (pc := 36) d_X2_ownSips_36 rfl (by decide) ?_
          refine Tr.imul (pc := 38) d_X2_ownSips_38 ?_
          refine Tr.tp (24 * a3) ((w32_id (by omega)).trans (by omega)) ?_
          refine Tr.iload_n (pc := 39) (i := 2) d_X2_ownSips_39 rfl rfl ?_
          refine Tr.iconst (pc := 40) d_X2_ownSips_40 (by decide) ?_
          refine Tr.imul (pc := 41) d_X2_ownSips_41 ?_
          refine Tr.tp (4 * a2) ((w32_id (by omega)).trans (by omega)) ?_
          refine Tr.iadd (pc := 42) d_X2_ownSips_42 ?_
          refine Tr.tp (4 * a2 + 24 * a3) ((w32_id (by omega)).trans (by omega)) ?_
          refine Tr.iload (pc := 43) (i := 5) d_X2_ownSips_43 rfl ?_
          refine Tr.iadd (pc := 45) d_X2_ownSips_45 ?_
          refine Tr.tp (4 * a2 + 24 * a3 + p6_5) ((w32_id (by omega)).trans (by omega)) ?_
          refine Tr.iald (pc := 46) d_X2_ownSips_46 (ty_111 hS.1.1) (by omega) (by omega) ?_
          refine Tr.gen (P := fun v => (-2147483648) ≤ v ∧ v ≤ 2147483647) (ar_111 hS.1.2.1 _) (fun r46 er46 br46 => ?_)
          refine Tr.imul (pc := 47) d_X2_ownSips_47 ?_
          refine Tr.gen (P := fun v => (-2147483648) ≤ v ∧ v ≤ 2147483647) (w32_b _) (fun r47 er47 br47 => ?_)
          refine Tr.iadd (pc := 48) d_X2_ownSips_48 ?_
          refine Tr.gen (P := fun v => (-2147483648) ≤ v ∧ v ≤ 2147483647) (w32_b _) (fun r48 er48 br48 => ?_)
          refine Tr.istore (pc := 49) (i := 4) (ls2 := [(4, (0, r48)), (0, (2, 107)), (1, (2, 7)), (2, (0, a2)), (3, (0, a3)), (5, (0, p6_5))]) d_X2_ownSips_49 (by decide) rfl ?_
          refine Tr.pick [1, 2, 3, 4, 0, 5] (ls2 := [(0, (2, 107)), (1, (2, 7)), (2, (0, a2)), (3, (0, a3)), (4, (0, r48)), (5, (0, p6_5))]) rfl ?_
          exact J51 _ _ hS (by omega)
  refine Tr.pick [2, 3, 4, 5, 1, 0] (ls2 := [(0, (2, 107)), (1, (2, 7)), (2, (0, a2)), (3, (0, a3)), (4, (0, 0)), (5, (0, 0))]) rfl ?_
  exact J6 _ _ _ _ hS (by omega) (by omega) (Nat.lt_succ_self _)

def ws_X2_differences_107_w20 : List (Int × Int) := []
def as_X2_differences_107_w20 : List Int := []
def q_X2_differences_107_w20 (M0 M' : Mem) (r : Option PV) : Prop := St ws_X2_differences_107_w20 as_X2_differences_107_w20 M0 M' ∧ ∃ v : Int, r = some (0, v) ∧ (-2147483648) ≤ v ∧ v ≤ 2147483647
set_option maxRecDepth 100000 in
set_option maxHeartbeats 4000000 in
theorem sp_X2_differences_107_w20 {l : Launch} {K : EC} {M0 : Mem} (hI : In M0)  (a1 : Int) (ha1 : 0 ≤ a1 ∧ a1 ≤ 5) (a2 : Int) (ha2 : 0 ≤ a2 ∧ a2 ≤ 15) (a3 : Int) (ha3 : 0 ≤ a3 ∧ a3 ≤ 15) (a4 : Int) (ha4 : 0 ≤ a4 ∧ a4 ≤ 15)  : Tr l K 1 mX2_differences 0 [(0, (2, 107)), (1, (0, a1)), (2, (0, a2)), (3, (0, a3)), (4, (0, a4))] [] M0 (q_X2_differences_107_w20 M0) := by
  have hS : St ws_X2_differences_107_w20 as_X2_differences_107_w20 M0 M0 := St.rf hI
  refine Tr.iconst (pc := 0) d_X2_differences_0 (by decide) ?_
  refine Tr.istore (pc := 1) (i := 5) (ls2 := [(5, (0, 0)), (0, (2, 107)), (1, (0, a1)), (2, (0, a2)), (3, (0, a3)), (4, (0, a4))]) d_X2_differences_1 (by decide) rfl ?_
  refine Tr.iconst (pc := 3) d_X2_differences_3 (by decide) ?_
  refine Tr.istore (pc := 4) (i := 6) (ls2 := [(6, (0, 0)), (5, (0, 0)), (0, (2, 107)), (1, (0, a1)), (2, (0, a2)), (3, (0, a3)), (4, (0, a4))]) d_X2_differences_4 (by decide) rfl ?_
  have J6 : ∀ (n6 : Nat) (M : Mem) (p6_5 p6_6 : Int), St ws_X2_differences_107_w20 as_X2_differences_107_w20 M0 M → ((-2147483648) ≤ p6_5 ∧ p6_5 ≤ 2147483647) → (0 ≤ p6_6 ∧ p6_6 ≤ 12) → (12 - p6_6).toNat < n6 → Tr l K 1 mX2_differences 6 [(0, (2, 107)), (1, (0, a1)), (2, (0, a2)), (3, (0, a3)), (4, (0, a4)), (5, (0, p6_5)), (6, (0, p6_6))] [] M (q_X2_differences_107_w20 M0) := by
    intro n6
    induction n6 with
    | zero => intro M p6_5 p6_6 hS bp6_5 bp6_6  hm6; exact absurd hm6 (Nat.not_lt_zero _)
    | succ n6 J6 =>
      intro M p6_5 p6_6 hS bp6_5 bp6_6  hm6
      refine Tr.iload (pc := 6) (i := 6) d_X2_differences_6 rfl ?_
      refine Tr.aload_n (pc := 8) (i := 0) d_X2_differences_8 rfl rfl ?_
      refine Tr.getf (pc := 9) d_X2_differences_9 f_2_27 (by decide) (by decide) (ty_107 hS.1.1) ?_
      refine Tr.gen (P := fun v => 0 ≤ v ∧ v ≤ 12) (ir_107_0 hS.1.2.1) (fun r9 er9 br9 => ?_)
      refine Tr.icmp_ge (pc := 12) (tgt := 84) d_X2_differences_12 rfl (fun c12 => ?_) (fun c12 => ?_)
      · refine Tr.iload (pc := 84) (i := 5) d_X2_differences_84 rfl ?_
        exact Tr.iret (pc := 86) d_X2_differences_86 rfl ⟨hS, _, rfl, by omega, by omega⟩
      · refine Tr.iload (pc := 15) (i := 6) d_X2_differences_15 rfl ?_
        refine Tr.bipush (pc := 17) d_X2_differences_17 rfl (by decide) ?_
        refine Tr.imul (pc := 19) d_X2_differences_19 ?_
        refine Tr.tp (24 * p6_6) ((w32_id (by omega)).trans (by omega)) ?_
        refine Tr.iload_n (pc := 20) (i := 1) d_X2_differences_20 rfl rfl ?_
        refine Tr.iconst (pc := 21) d_X2_differences_21 (by decide) ?_
        refine Tr.imul (pc := 22) d_X2_differences_22 ?_
        refine Tr.tp (4 * a1) ((w32_id (by omega)).trans (by omega)) ?_
        refine Tr.iadd (pc := 23) d_X2_differences_23 ?_
        refine Tr.tp (4 * a1 + 24 * p6_6) ((w32_id (by omega)).trans (by omega)) ?_
        refine Tr.istore (pc := 24) (i := 7) (ls2 := [(7, (0, (4 * a1 + 24 * p6_6))), (0, (2, 107)), (1, (0, a1)), (2, (0, a2)), (3, (0, a3)), (4, (0, a4)), (5, (0, p6_5)), (6, (0, p6_6))]) d_X2_differences_24 (by decide) rfl ?_
        refine Tr.iload (pc := 26) (i := 5) d_X2_differences_26 rfl ?_
        refine Tr.aload_n (pc := 28) (i := 0) d_X2_differences_28 rfl rfl ?_
        refine Tr.getf (pc := 29) d_X2_differences_29 f_2_24 (by decide) (by decide) (ty_107 hS.1.1) ?_
        refine Tr.tp 112 (fx_107_6 hS.1.1) ?_
        refine Tr.iload (pc := 32) (i := 6) d_X2_differences_32 rfl ?_
        refine Tr.iald (pc := 34) d_X2_differences_34 (ty_112 hS.1.1) (by omega) (by omega) ?_
        refine Tr.gen (P := fun v => (-2147483648) ≤ v ∧ v ≤ 2147483647) (ar_112 hS.1.2.1 _) (fun r34 er34 br34 => ?_)
        refine Tr.iload_n (pc := 35) (i := 2) d_X2_differences_35 rfl rfl ?_
        refine Tr.aload_n (pc := 36) (i := 0) d_X2_differences_36 rfl rfl ?_
        refine Tr.getf (pc := 37) d_X2_differences_37 f_2_21 (by decide) (by decide) (ty_107 hS.1.1) ?_
        refine Tr.tp 111 (fx_107_5 hS.1.1) ?_
        refine Tr.iload (pc := 40) (i := 7) d_X2_differences_40 rfl ?_
        refine Tr.iconst (pc := 42) d_X2_differences_42 (by decide) ?_
        refine Tr.iadd (pc := 43) d_X2_differences_43 ?_
        refine Tr.tp (4 * a1 + 24 * p6_6) ((w32_id (by omega)).trans (by omega)) ?_
        refine Tr.iald (pc := 44) d_X2_differences_44 (ty_111 hS.1.1) (by omega) (by omega) ?_
        refine Tr.gen (P := fun v => (-2147483648) ≤ v ∧ v ≤ 2147483647) (ar_111 hS.1.2.1 _) (fun r44 er44 br44 => ?_)
        refine Tr.imul (pc := 45) d_X2_differences_45 ?_
        refine Tr.gen (P := fun v => (-2147483648) ≤ v ∧ v ≤ 2147483647) (w32_b _) (fun r45 er45 br45 => ?_)
        refine Tr.iadd (pc := 46) d_X2_differences_46 ?_
        refine Tr.gen (P := fun v => (-2147483648) ≤ v ∧ v ≤ 2147483647) (w32_b _) (fun r46 er46 br46 => ?_)
        refine Tr.iload_n (pc := 47) (i := 3) d_X2_differences_47 rfl rfl ?_
        refine Tr.aload_n (pc := 48) (i := 0) d_X2_differences_48 rfl rfl ?_
        refine Tr.getf (pc := 49) d_X2_differences_49 f_2_21 (by decide) (by decide) (ty_107 hS.1.1) ?_
        refine Tr.tp 111 (fx_107_5 hS.1.1) ?_
        refine Tr.iload (pc := 52) (i := 7) d_X2_differences_52 rfl ?_
        refine Tr.iconst (pc := 54) d_X2_differences_54 (by decide) ?_
        refine Tr.iadd (pc := 55) d_X2_differences_55 ?_
        refine Tr.tp (4 * a1 + 24 * p6_6 + 2) ((w32_id (by omega)).trans (by omega)) ?_
        refine Tr.iald (pc := 56) d_X2_differences_56 (ty_111 hS.1.1) (by omega) (by omega) ?_
        refine Tr.gen (P := fun v => (-2147483648) ≤ v ∧ v ≤ 2147483647) (ar_111 hS.1.2.1 _) (fun r56 er56 br56 => ?_)
        refine Tr.imul (pc := 57) d_X2_differences_57 ?_
        refine Tr.gen (P := fun v => (-2147483648) ≤ v ∧ v ≤ 2147483647) (w32_b _) (fun r57 er57 br57 => ?_)
        refine Tr.iadd (pc := 58) d_X2_differences_58 ?_
        refine Tr.gen (P := fun v => (-2147483648) ≤ v ∧ v ≤ 2147483647) (w32_b _) (fun r58 er58 br58 => ?_)
        refine Tr.iload (pc := 59) (i := 4) d_X2_differences_59 rfl ?_
        refine Tr.aload_n (pc := 61) (i := 0) d_X2_differences_61 rfl rfl ?_
        refine Tr.getf (pc := 62) d_X2_differences_62 f_2_21 (by decide) (by decide) (ty_107 hS.1.1) ?_
        refine Tr.tp 111 (fx_107_5 hS.1.1) ?_
        refine Tr.iload (pc := 65) (i := 7) d_X2_differences_65 rfl ?_
        refine Tr.iconst (pc := 67) d_X2_differences_67 (by decide) ?_
        refine Tr.iadd (pc := 68) d_X2_differences_68 ?_
        refine Tr.tp (4 * a1 + 24 * p6_6 + 3) ((w32_id (by omega)).trans (by omega)) ?_
        refine Tr.iald (pc := 69) d_X2_differences_69 (ty_111 hS.1.1) (by omega) (by omega) ?_
        refine Tr.gen (P := fun v => (-2147483648) ≤ v ∧ v ≤ 2147483647) (ar_111 hS.1.2.1 _) (fun r69 er69 br69 => ?_)
        refine Tr.imul (pc := 70) d_X2_differences_70 ?_
        refine Tr.gen (P := fun v => (-2147483648) ≤ v ∧ v ≤ 2147483647) (w32_b _) (fun r70 er70 br70 => ?_)
        refine Tr.iadd (pc := 71) d_X2_differences_71 ?_
        refine Tr.gen (P := fun v => (-2147483648) ≤ v ∧ v ≤ 2147483647) (w32_b _) (fun r71 er71 br71 => ?_)
        refine Tr.mabs (pc := 72) d_X2_differences_72 ml_2_67 mw_mabs (Nat.le_of_ble_eq_true rfl) ?_
        refine Tr.gen (P := fun v => (-2147483648) ≤ v ∧ v ≤ 2147483647) (f_abs_b (by omega)) (fun r72 er72 br72 => ?_)
        refine Tr.iadd (pc := 75) d_X2_differences_75 ?_
        refine Tr.gen (P := fun v => (-2147483648) ≤ v ∧ v ≤ 2147483647) (w32_b _) (fun r75 er75 br75 => ?_)
        refine Tr.istore (pc := 76) (i := 5) (ls2 := [(5, (0, r75)), (7, (0, (4 * a1 + 24 * p6_6))), (0, (2, 107)), (1, (0, a1)), (2, (0, a2)), (3, (0, a3)), (4, (0, a4)), (6, (0, p6_6))]) d_X2_differences_76 (by decide) rfl ?_
        refine Tr.iincV (pc := 78) (n2 := (p6_6 + 1)) (ls2 := [(6, (0, (p6_6 + 1))), (5, (0, r75)), (7, (0, (4 * a1 + 24 * p6_6))), (0, (2, 107)), (1, (0, a1)), (2, (0, a2)), (3, (0, a3)), (4, (0, a4))]) d_X2_differences_78 rfl (by decide) ((w32_id (by omega)).trans (by omega)) rfl ?_
        refine Tr.goto (pc := 81) (tgt := 6) d_X2_differences_81 rfl ?_
        refine Tr.pick [3, 4, 5, 6, 7, 1, 0] (ls2 := [(0, (2, 107)), (1, (0, a1)), (2, (0, a2)), (3, (0, a3)), (4, (0, a4)), (5, (0, r75)), (6, (0, (p6_6 + 1)))]) rfl ?_
        exact J6 _ _ _ hS (by omega) (by omega) (by omega)
  refine Tr.pick [2, 3, 4, 5, 6, 1, 0] (ls2 := [(0, (2, 107)), (1, (0, a1)), (2, (0, a2)), (3, (0, a3)), (4, (0, a4)), (5, (0, 0)), (6, (0, 0))]) rfl ?_
  exact J6 _ _ _ _ hS (by omega) (by omega) (Nat.lt_succ_self _)
