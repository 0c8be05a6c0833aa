def ws_X11_lay_0 : List (Int × Int) := [(0, 1)]
def as_X11_lay_0 : List Int := [1]
def q_X11_lay_0 (a1 : Int) (M0 M' : Mem) (r : Option PV) : Prop := St Tru ws_X11_lay_0 as_X11_lay_0 M0 M' ∧ r = none ∧ (rd M' 0 1 = rd M0 0 1 + 4)
set_option maxRecDepth 100000 in
set_option maxHeartbeats 4000000 in
theorem sp_X11_lay_0 {l : Launch} {K : EC} {M0 : Mem} (hI : In Tru M0)  (a1 : Int) (ha1 : (-2147483648) ≤ a1 ∧ a1 ≤ 2147483647)  (hq0 : rd M0 0 1 ≤ 896) : Tr l K 0 mX11_lay 0 [(0, (2, 0)), (1, (0, a1))] [] M0 (q_X11_lay_0 a1 M0) := by
  have hS : St Tru ws_X11_lay_0 as_X11_lay_0 M0 M0 := St.rf hI
  obtain ⟨g0_1, eg0_1⟩ : ∃ v, rd M0 0 1 = v := ⟨_, rfl⟩
  have bg0_1 : 0 ≤ g0_1 ∧ g0_1 ≤ 900 := by rw [← eg0_1]; exact ir_0_1 hI.2.1
  refine Tr.bipush (pc := 0) d_X11_lay_0 rfl (by decide) ?_
  refine Tr.istore_n (pc := 2) (i := 2) (ls2 := [(2, (0, 24)), (0, (2, 0)), (1, (0, a1))]) d_X11_lay_2 rfl (by decide) rfl ?_
  have J3 : ∀ (n3 : Nat) (M : Mem) (p3_2 u3_0_1 : Int), St Tru ws_X11_lay_0 as_X11_lay_0 M0 M → ((-8) ≤ p3_2 ∧ p3_2 ≤ 24) → (0 ≤ u3_0_1 ∧ u3_0_1 ≤ 900) → rd M 0 1 = u3_0_1 → (8 * u3_0_1 + p3_2 = 8 * g0_1 + 24) → (p3_2 = 24 ∨ p3_2 = 16 ∨ p3_2 = 8 ∨ p3_2 = 0 ∨ p3_2 = -8) → (p3_2 - (-8)).toNat < n3 → Tr l K 0 mX11_lay 3 [(0, (2, 0)), (1, (0, a1)), (2, (0, p3_2))] [] M (q_X11_lay_0 a1 M0) := by
    intro n3
    induction n3 with
    | zero => intro M p3_2 u3_0_1 hS bp3_2 bu3_0_1 k3_0_1 t3_0 t3_1 hm3; exact absurd hm3 (Nat.not_lt_zero _)
    | succ n3 J3 =>
      intro M p3_2 u3_0_1 hS bp3_2 bu3_0_1 k3_0_1 t3_0 t3_1 hm3
      refine Tr.iload_n (pc := 3) (i := 2) d_X11_lay_3 rfl rfl ?_
      refine Tr.if_lt (pc := 4) (tgt := 46) d_X11_lay_4 rfl (fun c4 => ?_) (fun c4 => ?_)
      · have kr_0_1 : rd M 0 1 = u3_0_1 := k3_0_1
        exact Tr.vret (pc := 46) d_X11_lay_46 rfl ⟨hS, rfl, by omega⟩
      · refine Tr.aload_n (pc := 7) (i := 0) d_X11_lay_7 rfl rfl ?_
        refine Tr.getf (pc := 8) d_X11_lay_8 f_11_84 (by decide) (by decide) (ty_0 hS.1.1) ?_
        refine Tr.tp u3_0_1 k3_0_1 ?_
        refine Tr.sipush (pc := 11) d_X11_lay_11 rfl (by decide) ?_
        refine Tr.icmp_ge (pc := 14) (tgt := 46) d_X11_lay_14 rfl (fun c14 => ?_) (fun c14 => ?_)
        · have kr_0_1 : rd M 0 1 = u3_0_1 := k3_0_1
          exact Tr.vret (pc := 46) d_X11_lay_46 rfl ⟨hS, rfl, by omega⟩
        · refine Tr.aload_n (pc := 17) (i := 0) d_X11_lay_17 rfl rfl ?_
          refine Tr.getf (pc := 18) d_X11_lay_18 f_11_9 (by decide) (by decide) (ty_0 hS.1.1) ?_
          refine Tr.tp 1 (fx_0_0 hS.1.1) ?_
          refine Tr.aload_n (pc := 21) (i := 0) d_X11_lay_21 rfl rfl ?_
          refine Tr.getf (pc := 22) d_X11_lay_22 f_11_84 (by decide) (by decide) (ty_0 hS.1.1) ?_
          refine Tr.tp u3_0_1 k3_0_1 ?_
          refine Tr.iload_n (pc := 25) (i := 1) d_X11_lay_25 rfl rfl ?_
          refine Tr.iload_n (pc := 26) (i := 2) d_X11_lay_26 rfl rfl ?_
          refine Tr.ishr (pc := 27) d_X11_lay_27 ?_
          refine Tr.gen (P := fun v => (-2147483648) ≤ v ∧ v ≤ 2147483647) (i32_b _) (fun r27 er27 br27 => ?_)
          refine Tr.i2b (pc := 28) d_X11_lay_28 ?_
          refine Tr.gen (P := fun v => (-128) ≤ v ∧ v ≤ 127) (w8_b _) (fun r28 er28 br28 => ?_)
          refine Tr.bastS (pc := 29) (P := St Tru ws_X11_lay_0 as_X11_lay_0 M0) d_X11_lay_29 (ty_1 hS.1.1) (by omega) (by omega) (sa_1 hS (by decide) (w8_b _) trivial) (fun M29 hS w29 => ?_)
          refine Tr.aload_n (pc := 30) (i := 0) d_X11_lay_30 rfl rfl ?_
          refine Tr.dup (pc := 31) d_X11_lay_31 ne21 ?_
          refine Tr.getf (pc := 32) d_X11_lay_32 f_11_84 (by decide) (by decide) (ty_0 hS.1.1) ?_
          refine Tr.tp u3_0_1 ((Wr.b w29 rfl).trans k3_0_1) ?_
          refine Tr.iconst (pc := 35) d_X11_lay_35 (by decide) ?_
          refine Tr.iadd (pc := 36) d_X11_lay_36 ?_
          refine Tr.tp (u3_0_1 + 1) ((w32_id (by omega)).trans (by omega)) ?_
          refine Tr.putfS (pc := 37) (P := St Tru ws_X11_lay_0 as_X11_lay_0 M0) d_X11_lay_37 f_11_84 (by decide) (by decide) (ty_0 hS.1.1) (st_0_1 hS (by decide) (by omega) trivial) (fun M37 hS w37 => ?_)
          refine Tr.iincV (pc := 40) (n2 := (p3_2 - 8)) (ls2 := [(2, (0, (p3_2 - 8))), (0, (2, 0)), (1, (0, a1))]) d_X11_lay_40 rfl (by decide) ((w32_id (by omega)).trans (by omega)) rfl ?_
          refine Tr.goto (pc := 43) (tgt := 3) d_X11_lay_43 rfl ?_
          refine Tr.pick [1, 2, 0] (ls2 := [(0, (2, 0)), (1, (0, a1)), (2, (0, (p3_2 - 8)))]) rfl ?_
          exact J3 _ _ _ hS (by omega) (by omega) w37.1 (by omega) (by omega) (by omega)
  refine Tr.pick [1, 2, 0] (ls2 := [(0, (2, 0)), (1, (0, a1)), (2, (0, 24))]) rfl ?_
  exact J3 _ _ _ _ hS (by omega) (by omega) eg0_1 (by omega) (by omega) (Nat.lt_succ_self _)

def ws_X11_feed_0 : List (Int × Int) := [(0, 1)]
def as_X11_feed_0 : List Int := [1]
def q_X11_feed_0 (a1 : Int) (a2 : Int) (a3 : Int) (a4 : Int) (a5 : Int) (M0 M' : Mem) (r : Option PV) : Prop := St Tru ws_X11_feed_0 as_X11_feed_0 M0 M' ∧ ∃ v : Int, r = some (0, v) ∧ (-1) ≤ v ∧ v ≤ 900 ∧ ((v = -1 ∧ rd M' 0 1 = rd M0 0 1 ∧ 880 < rd M0 0 1) ∨ (v = rd M' 0 1 ∧ rd M' 0 1 = rd M0 0 1 + 20 ∧ rd M0 0 1 ≤ 880))
set_option maxRecDepth 100000 in
set_option maxHeartbeats 4000000 in
theorem sp_X11_feed_0 {l : Launch} {K : EC} {M0 : Mem} (hI : In Tru M0)  (a1 : Int) (ha1 : (-2147483648) ≤ a1 ∧ a1 ≤ 2147483647) (a2 : Int) (ha2 : (-2147483648) ≤ a2 ∧ a2 ≤ 2147483647) (a3 : Int) (ha3 : (-2147483648) ≤ a3 ∧ a3 ≤ 2147483647) (a4 : Int) (ha4 : (-2147483648) ≤ a4 ∧ a4 ≤ 2147483647) (a5 : Int) (ha5 : (-2147483648) ≤ a5 ∧ a5 ≤ 2147483647)  : Tr l K 1 mX11_feed 0 [(0, (2, 0)), (1, (0, a1)), (2, (0, a2)), (3, (0, a3)), (4, (0, a4)), (5, (0, a5))] [] M0 (q_X11_feed_0 a1 a2 a3 a4 a5 M0) := by
  have hS : St Tru ws_X11_feed_0 as_X11_feed_0 M0 M0 := St.rf hI
  obtain ⟨g0_1, eg0_1⟩ : ∃ v, rd M0 0 1 = v := ⟨_, rfl⟩
  have bg0_1 : 0 ≤ g0_1 ∧ g0_1 ≤ 900 := by rw [← eg0_1]; exact ir_0_1 hI.2.1
  refine Tr.aload_n (pc := 0) (i := 0) d_X11_feed_0 rfl rfl ?_
  refine Tr.getf (pc := 1) d_X11_feed_1 f_11_84 (by decide) (by decide) (ty_0 hS.1.1) ?_
  refine Tr.tp g0_1 eg0_1 ?_
  refine Tr.bipush (pc := 4) d_X11_feed_4 rfl (by decide) ?_
  refine Tr.iadd (pc := 6) d_X11_feed_6 ?_
  refine Tr.tp (g0_1 + 20) ((w32_id (by omega)).trans (by omega)) ?_
  refine Tr.sipush (pc := 7) d_X11_feed_7 rfl (by decide) ?_
  refine Tr.icmp_le (pc := 10) (tgt := 15) d_X11_feed_10 rfl (fun c10 => ?_) (fun c10 => ?_)
  · refine Tr.aload_n (pc := 15) (i := 0) d_X11_feed_15 rfl rfl ?_
    refine Tr.iload_n (pc := 16) (i := 1) d_X11_feed_16 rfl rfl ?_
    refine Tr.callV (pc := 17) (as := [_]) d_X11_feed_17 s_11_88 ok_X11_lay rfl rfl (Nat.le_of_ble_eq_true rfl) (Nat.le_of_ble_eq_true rfl) (by decide) (ty_0 hS.1.1) ?_
    have kb17_0_1 : rd M0 0 1 = g0_1 := eg0_1
    refine Tr.imp (Tr.deep (by decide) (sp_X11_lay_0 hS.1 a1 (by omega) (by omega))) ?_
    rintro M17 _ ⟨h17, rfl, z17_0⟩
    have hS := St.tr hS h17 (by decide) (by decide)
    obtain ⟨s17_0_1, es17_0_1⟩ : ∃ v, rd M17 0 1 = v := ⟨_, rfl⟩
    have bs17_0_1 : 0 ≤ s17_0_1 ∧ s17_0_1 ≤ 900 := by rw [← es17_0_1]; exact ir_0_1 hS.1.2.1
    refine Tr.sc [] rfl ?_
    refine Tr.aload_n (pc := 20) (i := 0) d_X11_feed_20 rfl rfl ?_
    refine Tr.iload_n (pc := 21) (i := 2) d_X11_feed_21 rfl rfl ?_
    refine Tr.callV (pc := 22) (as := [_]) d_X11_feed_22 s_11_88 ok_X11_lay rfl rfl (Nat.le_of_ble_eq_true rfl) (Nat.le_of_ble_eq_true rfl) (by decide) (ty_0 hS.1.1) ?_
    have kb22_0_1 : rd M17 0 1 = s17_0_1 := es17_0_1
    refine Tr.imp (Tr.deep (by decide) (sp_X11_lay_0 hS.1 a2 (by omega) (by omega))) ?_
    rintro M22 _ ⟨h22, rfl, z22_0⟩
    have hS := St.tr hS h22 (by decide) (by decide)
    obtain ⟨s22_0_1, es22_0_1⟩ : ∃ v, rd M22 0 1 = v := ⟨_, rfl⟩
    have bs22_0_1 : 0 ≤ s22_0_1 ∧ s22_0_1 ≤ 900 := by rw [← es22_0_1]; exact ir_0_1 hS.1.2.1
    refine Tr.sc [] rfl ?_
    refine Tr.aload_n (pc := 25) (i := 0) d_X11_feed_25 rfl rfl ?_
    refine Tr.iload_n (pc := 26) (i := 3) d_X11_feed_26 rfl rfl ?_
    refine Tr.callV (pc := 27) (as := [_]) d_X11_feed_27 s_11_88 ok_X11_lay rfl rfl (Nat.le_of_ble_eq_true rfl) (Nat.le_of_ble_eq_true rfl) (by decide) (ty_0 hS.1.1) ?_
    have kb27_0_1 : rd M22 0 1 = s22_0_1 := es22_0_1
    refine Tr.imp (Tr.deep (by decide) (sp_X11_lay_0 hS.1 a3 (by omega) (by omega))) ?_
    rintro M27 _ ⟨h27, rfl, z27_0⟩
    have hS := St.tr hS h27 (by decide) (by decide)
    obtain ⟨s27_0_1, es27_0_1⟩ : ∃ v, rd M27 0 1 = v := ⟨_, rfl⟩
    have bs27_0_1 : 0 ≤ s27_0_1 ∧ s27_0_1 ≤ 900 := by rw [← es27_0_1]; exact ir_0_1 hS.1.2.1
    refine Tr.sc [] rfl ?_
    refine Tr.aload_n (pc := 30) (i := 0) d_X11_feed_30 rfl rfl ?_
    refine Tr.iload (pc := 31) (i := 4) d_X11_feed_31 rfl ?_
    refine Tr.callV (pc := 33) (as := [_]) d_X11_feed_33 s_11_88 ok_X11_lay rfl rfl (Nat.le_of_ble_eq_true rfl) (Nat.le_of_ble_eq_true rfl) (by decide) (ty_0 hS.1.1) ?_
    have kb33_0_1 : rd M27 0 1 = s27_0_1 := es27_0_1
    refine Tr.imp (Tr.deep (by decide) (sp_X11_lay_0 hS.1 a4 (by omega) (by omega))) ?_
    rintro M33 _ ⟨h33, rfl, z33_0⟩
    have hS := St.tr hS h33 (by decide) (by decide)
    obtain ⟨s33_0_1, es33_0_1⟩ : ∃ v, rd M33 0 1 = v := ⟨_, rfl⟩
    have bs33_0_1 : 0 ≤ s33_0_1 ∧ s33_0_1 ≤ 900 := by rw [← es33_0_1]; exact ir_0_1 hS.1.2.1
    refine Tr.sc [] rfl ?_
    refine Tr.aload_n (pc := 36) (i := 0) d_X11_feed_36 rfl rfl ?_
    refine Tr.iload (pc := 37) (i := 5) d_X11_feed_37 rfl ?_
    refine Tr.callV (pc := 39) (as := [_]) d_X11_feed_39 s_11_88 ok_X11_lay rfl rfl (Nat.le_of_ble_eq_true rfl) (Nat.le_of_ble_eq_true rfl) (by decide) (ty_0 hS.1.1) ?_
    have kb39_0_1 : rd M33 0 1 = s33_0_1 := es33_0_1
    refine Tr.imp (Tr.deep (by decide) (sp_X11_lay_0 hS.1 a5 (by omega) (by omega))) ?_
    rintro M39 _ ⟨h39, rfl, z39_0⟩
    have hS := St.tr hS h39 (by decide) (by decide)
    obtain ⟨s39_0_1, es39_0_1⟩ : ∃ v, rd M39 0 1 = v := ⟨_, rfl⟩
    have bs39_0_1 : 0 ≤ s39_0_1 ∧ s39_0_1 ≤ 900 := by rw [← es39_0_1]; exact ir_0_1 hS.1.2.1
    refine Tr.sc [] rfl ?_
    refine Tr.aload_n (pc := 42) (i := 0) d_X11_feed_42 rfl rfl ?_
    refine Tr.getf (pc := 43) d_X11_feed_43 f_11_84 (by decide) (by decide) (ty_0 hS.1.1) ?_
    refine Tr.tp s39_0_1 es39_0_1 ?_
    have kr_0_1 : rd M39 0 1 = s39_0_1 := es39_0_1
    exact Tr.iret (pc := 46) d_X11_feed_46 rfl ⟨hS, _, rfl, by omega, by omega, by omega⟩
  · refine Tr.iconst (pc := 13) d_X11_feed_13 (by decide) ?_
    have kr_0_1 : rd M0 0 1 = g0_1 := eg0_1
    exact Tr.iret (pc := 14) d_X11_feed_14 rfl ⟨hS, _, rfl, by omega, by omega, by omega⟩

def ws_X11_end_0 : List (Int × Int) := [(0, 1)]
def as_X11_end_0 : List Int := []
def q_X11_end_0 (a1 : Int) (M0 M' : Mem) (r : Option PV) : Prop := St Tru ws_X11_end_0 as_X11_end_0 M0 M' ∧ ∃ v : Int, r = some (0, v) ∧ 0 ≤ v ∧ v ≤ 1 ∧ ((v = 1 ∧ rd M' 0 1 = a1 ∧ 0 ≤ a1 ∧ a1 ≤ rd M0 0 1) ∨ (v = 0 ∧ rd M' 0 1 = rd M0 0 1 ∧ (a1 < 0 ∨ rd M0 0 1 < a1)))
set_option maxRecDepth 100000 in
set_option maxHeartbeats 4000000 in
theorem sp_X11_end_0 {l : Launch} {K : EC} {M0 : Mem} (hI : In Tru M0)  (a1 : Int) (ha1 : (-2147483648) ≤ a1 ∧ a1 ≤ 2147483647)  : Tr l K 0 mX11_end 0 [(0, (2, 0)), (1, (0, a1))] [] M0 (q_X11_end_0 a1 M0) := by
  have hS : St Tru ws_X11_end_0 as_X11_end_0 M0 M0 := St.rf hI
  obtain ⟨g0_1, eg0_1⟩ : ∃ v, rd M0 0 1 = v := ⟨_, rfl⟩
  have bg0_1 : 0 ≤ g0_1 ∧ g0_1 ≤ 900 := by rw [← eg0_1]; exact ir_0_1 hI.2.1
  refine Tr.iload_n (pc := 0) (i := 1) d_X11_end_0 rfl rfl ?_
  refine Tr.if_lt (pc := 1) (tgt := 12) d_X11_end_1 rfl (fun c1 => ?_) (fun c1 => ?_)
  · refine Tr.iconst (pc := 12) d_X11_end_12 (by decide) ?_
    have kr_0_1 : rd M0 0 1 = g0_1 := eg0_1
    exact Tr.zret (pc := 13) d_X11_end_13 rfl (by omega) ⟨hS, _, rfl, by omega, by omega, by omega⟩
  · refine Tr.iload_n (pc := 4) (i := 1) d_X11_end_4 rfl rfl ?_
    refine Tr.aload_n (pc := 5) (i := 0) d_X11_end_5 rfl rfl ?_
    refine Tr.getf (pc := 6) d_X11_end_6 f_11_84 (by decide) (by decide) (ty_0 hS.1.1) ?_
    refine Tr.tp g0_1 eg0_1 ?_
    refine Tr.icmp_le (pc := 9) (tgt := 14) d_X11_end_9 rfl (fun c9 => ?_) (fun c9 => ?_)
    · refine Tr.aload_n (pc := 14) (i := 0) d_X11_end_14 rfl rfl ?_
      refine Tr.iload_n (pc := 15) (i := 1) d_X11_end_15 rfl rfl ?_
      refine Tr.putfS (pc := 16) (P := St Tru ws_X11_end_0 as_X11_end_0 M0) d_X11_end_16 f_11_84 (by decide) (by decide) (ty_0 hS.1.1) (st_0_1 hS (by decide) (by omega) trivial) (fun M16 hS w16 => ?_)
      refine Tr.iconst (pc := 19) d_X11_end_19 (by decide) ?_
      have kr_0_1 : rd M16 0 1 = a1 := w16.1
      exact Tr.zret (pc := 20) d_X11_end_20 rfl (by omega) ⟨hS, _, rfl, by omega, by omega, by omega⟩
    · refine Tr.iconst (pc := 12) d_X11_end_12 (by decide) ?_
      have kr_0_1 : rd M0 0 1 = g0_1 := eg0_1
      exact Tr.zret (pc := 13) d_X11_end_13 rfl (by omega) ⟨hS, _, rfl, by omega, by omega, by omega⟩

def ws_X11_fault_0 : List (Int × Int) := []
def as_X11_fault_0 : List Int := []
def q_X11_fault_0 (M0 M' : Mem) (r : Option PV) : Prop := St Tru ws_X11_fault_0 as_X11_fault_0 M0 M' ∧ ∃ v : Int, r = some (0, v) ∧ (-2147483648) ≤ v ∧ v ≤ 2147483647
set_option maxRecDepth 100000 in
set_option maxHeartbeats 4000000 in
theorem sp_X11_fault_0 {l : Launch} {K : EC} {M0 : Mem} (hI : In Tru M0)  (a1 : Int) (ha1 : (-2147483648) ≤ a1 ∧ a1 ≤ 2147483647)  : Tr l K 0 mX11_fault 0 [(0, (2, 0)), (1, (0, a1))] [] M0 (q_X11_fault_0 M0) := by
  have hS : St Tru ws_X11_fault_0 as_X11_fault_0 M0 M0 := St.rf hI
  refine Tr.iload_n (pc := 0) (i := 1) d_X11_fault_0 rfl rfl ?_
  refine Tr.if_ne (pc := 1) (tgt := 12) d_X11_fault_1 rfl (fun c1 => ?_) (fun c1 => ?_)
  · refine Tr.iload_n (pc := 12) (i := 1) d_X11_fault_12 rfl rfl ?_
    refine Tr.iconst (pc := 13) d_X11_fault_13 (by decide) ?_
    refine Tr.icmp_ne (pc := 14) (tgt := 27) d_X11_fault_14 rfl (fun c14 => ?_) (fun c14 => ?_)
    · refine Tr.iconst (pc := 27) d_X11_fault_27 (by decide) ?_
      exact Tr.iret (pc := 28) d_X11_fault_28 rfl ⟨hS, _, rfl, by omega, by omega⟩
    · refine Tr.aload_n (pc := 17) (i := 0) d_X11_fault_17 rfl rfl ?_
      refine Tr.getf (pc := 18) d_X11_fault_18 f_11_23 (by decide) (by decide) (ty_0 hS.1.1) ?_
      refine Tr.tp 6 (fx_0_3 hS.1.1) ?_
      refine Tr.getf (pc := 21) d_X11_fault_21 f_11_127 (by decide) (by decide) (ty_6 hS.1.1) ?_
      refine Tr.gen (P := fun v => (-2147483648) ≤ v ∧ v ≤ 2147483647) (ir_6_1 hS.1.2.1) (fun r21 er21 br21 => ?_)
      refine Tr.goto (pc := 24) (tgt := 28) d_X11_fault_24 rfl ?_
      exact Tr.iret (pc := 28) d_X11_fault_28 rfl ⟨hS, _, rfl, by omega, by omega⟩
  · refine Tr.aload_n (pc := 4) (i := 0) d_X11_fault_4 rfl rfl ?_
    refine Tr.getf (pc := 5) d_X11_fault_5 f_11_23 (by decide) (by decide) (ty_0 hS.1.1) ?_
    refine Tr.tp 6 (fx_0_3 hS.1.1) ?_
    refine Tr.getf (pc := 8) d_X11_fault_8 f_11_124 (by decide) (by decide) (ty_6 hS.1.1) ?_
    refine Tr.gen (P := fun v => (-2147483648) ≤ v ∧ v ≤ 2147483647) (ir_6_0 hS.1.2.1) (fun r8 er8 br8 => ?_)
    exact Tr.iret (pc := 11) d_X11_fault_11 rfl ⟨hS, _, rfl, by omega, by omega⟩

def ws_X11_has_0 : List (Int × Int) := []
def as_X11_has_0 : List Int := []
def q_X11_has_0 (M0 M' : Mem) (r : Option PV) : Prop := St Tru ws_X11_has_0 as_X11_has_0 M0 M' ∧ ∃ v : Int, r = some (0, v) ∧ (-1) ≤ v ∧ v ≤ 60
set_option maxRecDepth 100000 in
set_option maxHeartbeats 4000000 in
theorem sp_X11_has_0 {l : Launch} {K : EC} {M0 : Mem} (hI : In Tru M0) (en_0_4 : rd M0 0 4 = 7) (a1 : Int) (ha1 : (-2147483648) ≤ a1 ∧ a1 ≤ 2147483647)  : Tr l K 0 mX11_has 0 [(0, (2, 0)), (1, (0, a1))] [] M0 (q_X11_has_0 M0) := by
  have hS : St Tru ws_X11_has_0 as_X11_has_0 M0 M0 := St.rf hI
  refine Tr.iload_n (pc := 0) (i := 1) d_X11_has_0 rfl rfl ?_
  rcases (show (a1 < 0 ∨ 5 < a1) ∨ a1 = 0 ∨ a1 = 1 ∨ a1 = 2 ∨ a1 = 3 ∨ a1 = 4 ∨ a1 = 5 by omega) with c1 | c1 | c1 | c1 | c1 | c1 | c1
  · refine Tr.tswOut (pc := 1) (tgt := 77) d_X11_has_1 c1 rfl ?_
    refine Tr.iconst (pc := 77) d_X11_has_77 (by decide) ?_
    exact Tr.iret (pc := 78) d_X11_has_78 rfl ⟨hS, _, rfl, by omega, by omega⟩
  · refine Tr.tp 0 c1 ?_
    refine Tr.tswIn (pc := 1) (off := 39) (tgt := 40) d_X11_has_1 (by decide) (by decide) rfl rfl ?_
    refine Tr.aload_n (pc := 40) (i := 0) d_X11_has_40 rfl rfl ?_
    refine Tr.getf (pc := 41) d_X11_has_41 f_11_30 (by decide) (by decide) (ty_0 hS.1.1) ?_
    refine Tr.tp 7 ((St.kp hS (by decide) (by decide) (by decide)).trans en_0_4) ?_
    refine Tr.getf (pc := 44) d_X11_has_44 f_11_130 (by decide) (by decide) (ty_7 hS.1.1) ?_
    refine Tr.tp 8 (fx_7_4 hS.1.1) ?_
    refine Tr.iload_n (pc := 47) (i := 1) d_X11_has_47 rfl rfl ?_
    refine Tr.tp 0 (by omega) ?_
    refine Tr.iald (pc := 48) d_X11_has_48 (ty_8 hS.1.1) (by omega) (by omega) ?_
    refine Tr.gen (P := fun v => 0 ≤ v ∧ v ≤ 6) (ir_8_0 hS.1.2.1) (fun r48 er48 br48 => ?_)
    exact Tr.iret (pc := 49) d_X11_has_49 rfl ⟨hS, _, rfl, by omega, by omega⟩
  · refine Tr.tp 1 c1 ?_
    refine Tr.tswIn (pc := 1) (off := 39) (tgt := 40) d_X11_has_1 (by decide) (by decide) rfl rfl ?_
    refine Tr.aload_n (pc := 40) (i := 0) d_X11_has_40 rfl rfl ?_
    refine Tr.getf (pc := 41) d_X11_has_41 f_11_30 (by decide) (by decide) (ty_0 hS.1.1) ?_
    refine Tr.tp 7 ((St.kp hS (by decide) (by decide) (by decide)).trans en_0_4) ?_
    refine Tr.getf (pc := 44) d_X11_has_44 f_11_130 (by decide) (by decide) (ty_7 hS.1.1) ?_
    refine Tr.tp 8 (fx_7_4 hS.1.1) ?_
    refine Tr.iload_n (pc := 47) (i := 1) d_X11_has_47 rfl rfl ?_
    refine Tr.tp 1 (by omega) ?_
    refine Tr.iald (pc := 48) d_X11_has_48 (ty_8 hS.1.1) (by omega) (by omega) ?_
    refine Tr.gen (P := fun v => 0 ≤ v ∧ v ≤ 3) (ir_8_1 hS.1.2.1) (fun r48 er48 br48 => ?_)
    exact Tr.iret (pc := 49) d_X11_has_49 rfl ⟨hS, _, rfl, by omega, by omega⟩
  · refine Tr.tp 2 c1 ?_
    refine Tr.tswIn (pc := 1) (off := 39) (tgt := 40) d_X11_has_1 (by decide) (by decide) rfl rfl ?_
    refine Tr.aload_n (pc := 40) (i := 0) d_X11_has_40 rfl rfl ?_
    refine Tr.getf (pc := 41) d_X11_has_41 f_11_30 (by decide) (by decide) (ty_0 hS.1.1) ?_
    refine Tr.tp 7 ((St.kp hS (by decide) (by decide) (by decide)).trans en_0_4) ?_
    refine Tr.getf (pc := 44) d_X11_has_44 f_11_130 (by decide) (by decide) (ty_7 hS.1.1) ?_
    refine Tr.tp 8 (fx_7_4 hS.1.1) ?_
    refine Tr.iload_n (pc := 47) (i := 1) d_X11_has_47 rfl rfl ?_
    refine Tr.tp 2 (by omega) ?_
    refine Tr.iald (pc := 48) d_X11_has_48 (ty_8 hS.1.1) (by omega) (by omega) ?_
    refine Tr.gen (P := fun v => 0 ≤ v ∧ v ≤ 6) (ir_8_2 hS.1.2.1) (fun r48 er48 br48 => ?_)
    exact Tr.iret (pc := 49) d_X11_has_49 rfl ⟨hS, _, rfl, by omega, by omega⟩
  · refine Tr.tp 3 c1 ?_
    refine Tr.tswIn (pc := 1) (off := 49) (tgt := 50) d_X11_has_1 (by decide) (by decide) rfl rfl ?_
    refine Tr.aload_n (pc := 50) (i := 0) d_X11_has_50 rfl rfl ?_
    refine Tr.getf (pc := 51) d_X11_has_51 f_11_30 (by decide) (by decide) (ty_0 hS.1.1) ?_
    refine Tr.tp 7 ((St.kp hS (by decide) (by decide) (by decide)).trans en_0_4) ?_
    refine Tr.getf (pc := 54) d_X11_has_54 f_11_115 (by decide) (by decide) (ty_7 hS.1.1) ?_
    refine Tr.tp 15 (fx_7_11 hS.1.1) ?_
    refine Tr.getf (pc := 57) d_X11_has_57 f_11_119 (by decide) (by decide) (ty_15 hS.1.1) ?_
    refine Tr.gen (P := fun v => 0 ≤ v ∧ v ≤ 60) (ir_15_0 hS.1.2.1) (fun r57 er57 br57 => ?_)
    exact Tr.iret (pc := 60) d_X11_has_60 rfl ⟨hS, _, rfl, by omega, by omega⟩
  · refine Tr.tp 4 c1 ?_
    refine Tr.tswIn (pc := 1) (off := 60) (tgt := 61) d_X11_has_1 (by decide) (by decide) rfl rfl ?_
    refine Tr.aload_n (pc := 61) (i := 0) d_X11_has_61 rfl rfl ?_
    refine Tr.getf (pc := 62) d_X11_has_62 f_11_70 (by decide) (by decide) (ty_0 hS.1.1) ?_
    refine Tr.tp 107 (fx_0_12 hS.1.1) ?_
    refine Tr.getf (pc := 65) d_X11_has_65 f_11_133 (by decide) (by decide) (ty_107 hS.1.1) ?_
    refine Tr.gen (P := fun v => 0 ≤ v ∧ v ≤ 12) (ir_107_0 hS.1.2.1) (fun r65 er65 br65 => ?_)
    exact Tr.iret (pc := 68) d_X11_has_68 rfl ⟨hS, _, rfl, by omega, by omega⟩
  · refine Tr.tp 5 c1 ?_
    refine Tr.tswIn (pc := 1) (off := 68) (tgt := 69) d_X11_has_1 (by decide) (by decide) rfl rfl ?_
    refine Tr.aload_n (pc := 69) (i := 0) d_X11_has_69 rfl rfl ?_
    refine Tr.getf (pc := 70) d_X11_has_70 f_11_77 (by decide) (by decide) (ty_0 hS.1.1) ?_
    refine Tr.tp 113 (fx_0_13 hS.1.1) ?_
    refine Tr.getf (pc := 73) d_X11_has_73 f_11_136 (by decide) (by decide) (ty_113 hS.1.1) ?_
    refine Tr.gen (P := fun v => 0 ≤ v ∧ v ≤ 6) (ir_113_0 hS.1.2.1) (fun r73 er73 br73 => ?_)
    exact Tr.iret (pc := 76) d_X11_has_76 rfl ⟨hS, _, rfl, by omega, by omega⟩

def ws_X11_put_0 : List (Int × Int) := []
def as_X11_put_0 : List Int := [47]
def q_X11_put_0 (M0 M' : Mem) (r : Option PV) : Prop := St Tru ws_X11_put_0 as_X11_put_0 M0 M' ∧ ∃ v : Int, r = some (0, v) ∧ 0 ≤ v ∧ v ≤ 1
set_option maxRecDepth 100000 in
set_option maxHeartbeats 4000000 in
theorem sp_X11_put_0 {l : Launch} {K : EC} {M0 : Mem} (hI : In Tru M0) (en_0_4 : rd M0 0 4 = 7) (a1 : Int) (ha1 : (-2147483648) ≤ a1 ∧ a1 ≤ 2147483647) (a2 : Int) (ha2 : (-2147483648) ≤ a2 ∧ a2 ≤ 2147483647)  : Tr l K 0 mX11_put 0 [(0, (2, 0)), (1, (0, a1)), (2, (0, a2))] [] M0 (q_X11_put_0 M0) := by
  have hS : St Tru ws_X11_put_0 as_X11_put_0 M0 M0 := St.rf hI
  refine Tr.iload_n (pc := 0) (i := 1) d_X11_put_0 rfl rfl ?_
  refine Tr.if_lt (pc := 1) (tgt := 17) d_X11_put_1 rfl (fun c1 => ?_) (fun c1 => ?_)
  · refine Tr.iconst (pc := 17) d_X11_put_17 (by decide) ?_
    exact Tr.zret (pc := 18) d_X11_put_18 rfl (by omega) ⟨hS, _, rfl, by omega, by omega⟩
  · refine Tr.iload_n (pc := 4) (i := 1) d_X11_put_4 rfl rfl ?_
    refine Tr.aload_n (pc := 5) (i := 0) d_X11_put_5 rfl rfl ?_
    refine Tr.getf (pc := 6) d_X11_put_6 f_11_30 (by decide) (by decide) (ty_0 hS.1.1) ?_
    refine Tr.tp 7 ((St.kp hS (by decide) (by decide) (by decide)).trans en_0_4) ?_
    refine Tr.getf (pc := 9) d_X11_put_9 f_11_130 (by decide) (by decide) (ty_7 hS.1.1) ?_
    refine Tr.tp 8 (fx_7_4 hS.1.1) ?_
    refine Tr.iconst (pc := 12) d_X11_put_12 (by decide) ?_
    refine Tr.iald (pc := 13) d_X11_put_13 (ty_8 hS.1.1) (by omega) (by omega) ?_
    refine Tr.gen (P := fun v => 0 ≤ v ∧ v ≤ 3) (ir_8_1 hS.1.2.1) (fun r13 er13 br13 => ?_)
    refine Tr.icmp_lt (pc := 14) (tgt := 19) d_X11_put_14 rfl (fun c14 => ?_) (fun c14 => ?_)
    · refine Tr.iload_n (pc := 19) (i := 2) d_X11_put_19 rfl rfl ?_
      refine Tr.aload_n (pc := 20) (i := 0) d_X11_put_20 rfl rfl ?_
      refine Tr.getf (pc := 21) d_X11_put_21 f_11_30 (by decide) (by decide) (ty_0 hS.1.1) ?_
      refine Tr.tp 7 ((St.kp hS (by decide) (by decide) (by decide)).trans en_0_4) ?_
      refine Tr.getf (pc := 24) d_X11_put_24 f_11_100 (by decide) (by decide) (ty_7 hS.1.1) ?_
      refine Tr.tp 12 (fx_7_8 hS.1.1) ?_
      refine Tr.iload_n (pc := 27) (i := 1) d_X11_put_27 rfl rfl ?_
      refine Tr.iald (pc := 28) d_X11_put_28 (ty_12 hS.1.1) (by omega) (by omega) ?_
      refine Tr.gen (P := fun v => (-1) ≤ v ∧ v ≤ 99) (ar_12 hS.1.2.1 _) (fun r28 er28 br28 => ?_)
      refine Tr.icmp_lt (pc := 29) (tgt := 45) d_X11_put_29 rfl (fun c29 => ?_) (fun c29 => ?_)
      · refine Tr.iconst (pc := 45) d_X11_put_45 (by decide) ?_
        exact Tr.zret (pc := 46) d_X11_put_46 rfl (by omega) ⟨hS, _, rfl, by omega, by omega⟩
      · refine Tr.iload_n (pc := 32) (i := 2) d_X11_put_32 rfl rfl ?_
        refine Tr.aload_n (pc := 33) (i := 0) d_X11_put_33 rfl rfl ?_
        refine Tr.getf (pc := 34) d_X11_put_34 f_11_30 (by decide) (by decide) (ty_0 hS.1.1) ?_
        refine Tr.tp 7 ((St.kp hS (by decide) (by decide) (by decide)).trans en_0_4) ?_
        refine Tr.getf (pc := 37) d_X11_put_37 f_11_141 (by decide) (by decide) (ty_7 hS.1.1) ?_
        refine Tr.tp 13 (fx_7_9 hS.1.1) ?_
        refine Tr.iload_n (pc := 40) (i := 1) d_X11_put_40 rfl rfl ?_
        refine Tr.iald (pc := 41) d_X11_put_41 (ty_13 hS.1.1) (by omega) (by omega) ?_
        refine Tr.gen (P := fun v => (-1) ≤ v ∧ v ≤ 99) (ar_13 hS.1.2.1 _) (fun r41 er41 br41 => ?_)
        refine Tr.icmp_le (pc := 42) (tgt := 47) d_X11_put_42 rfl (fun c42 => ?_) (fun c42 => ?_)
        · refine Tr.aload_n (pc := 47) (i := 0) d_X11_put_47 rfl rfl ?_
          refine Tr.getf (pc := 48) d_X11_put_48 f_11_37 (by decide) (by decide) (ty_0 hS.1.1) ?_
          refine Tr.tp 47 (fx_0_6 hS.1.1) ?_
          refine Tr.iload_n (pc := 51) (i := 1) d_X11_put_51 rfl rfl ?_
          refine Tr.iload_n (pc := 52) (i := 2) d_X11_put_52 rfl rfl ?_
          refine Tr.iastS (pc := 53) (P := St Tru ws_X11_put_0 as_X11_put_0 M0) d_X11_put_53 (ty_47 hS.1.1) (by omega) (by omega) (sa_47 hS (by decide) (by omega) trivial) (fun M53 hS w53 => ?_)
          refine Tr.iconst (pc := 54) d_X11_put_54 (by decide) ?_
          exact Tr.zret (pc := 55) d_X11_put_55 rfl (by omega) ⟨hS, _, rfl, by omega, by omega⟩
        · refine Tr.iconst (pc := 45) d_X11_put_45 (by decide) ?_
          exact Tr.zret (pc := 46) d_X11_put_46 rfl (by omega) ⟨hS, _, rfl, by omega, by omega⟩
    · refine Tr.iconst (pc := 17) d_X11_put_17 (by decide) ?_
      exact Tr.zret (pc := 18) d_X11_put_18 rfl (by omega) ⟨hS, _, rfl, by omega, by omega⟩

def ws_X11_ran_0 : List (Int × Int) := []
def as_X11_ran_0 : List Int := []
def q_X11_ran_0 (M0 M' : Mem) (r : Option PV) : Prop := St Tru ws_X11_ran_0 as_X11_ran_0 M0 M' ∧ ∃ v : Int, r = some (0, v) ∧ (-1) ≤ v ∧ v ≤ (-1)
set_option maxRecDepth 100000 in
set_option maxHeartbeats 4000000 in
theorem sp_X11_ran_0 {l : Launch} {K : EC} {M0 : Mem} (hI : In Tru M0) (en_0_9 : rd M0 0 9 = 0) (a1 : Int) (ha1 : (-2147483648) ≤ a1 ∧ a1 ≤ 2147483647)  : Tr l K 0 mX11_ran 0 [(0, (2, 0)), (1, (0, a1))] [] M0 (q_X11_ran_0 M0) := by
  have hS : St Tru ws_X11_ran_0 as_X11_ran_0 M0 M0 := St.rf hI
  refine Tr.aload_n (pc := 0) (i := 0) d_X11_ran_0 rfl rfl ?_
  refine Tr.getz (pc := 1) d_X11_ran_1 f_11_109 (by decide) (ty_0 hS.1.1) ?_
  refine Tr.tp 0 ((St.kp hS (by decide) (by decide) (by decide)).trans en_0_9) ?_
  refine Tr.if_ne (pc := 4) (tgt := 9) d_X11_ran_4 rfl (fun hc => absurd (by omega) hc) (fun _ => ?_)
  refine Tr.iconst (pc := 7) d_X11_ran_7 (by decide) ?_
  exact Tr.iret (pc := 8) d_X11_ran_8 rfl ⟨hS, _, rfl, by omega, by omega⟩

def ws_X11_ran_0_w1 : List (Int × Int) := []
def as_X11_ran_0_w1 : List Int := []
def q_X11_ran_0_w1 (M0 M' : Mem) (r : Option PV) : Prop := St Tru ws_X11_ran_0_w1 as_X11_ran_0_w1 M0 M' ∧ ∃ v : Int, r = some (0, v) ∧ (-2147483648) ≤ v ∧ v ≤ 2147483647
set_option maxRecDepth 100000 in
set_option maxHeartbeats 4000000 in
theorem sp_X11_ran_0_w1 {l : Launch} {K : EC} {M0 : Mem} (hI : In Tru M0) (en_0_9 : rd M0 0 9 = 1) (a1 : Int) (ha1 : (-2147483648) ≤ a1 ∧ a1 ≤ 2147483647)  : Tr l K 0 mX11_ran 0 [(0, (2, 0)), (1, (0, a1))] [] M0 (q_X11_ran_0_w1 M0) := by
  have hS : St Tru ws_X11_ran_0_w1 as_X11_ran_0_w1 M0 M0 := St.rf hI
  refine Tr.aload_n (pc := 0) (i := 0) d_X11_ran_0 rfl rfl ?_
  refine Tr.getz (pc := 1) d_X11_ran_1 f_11_109 (by decide) (ty_0 hS.1.1) ?_
  refine Tr.tp 1 ((St.kp hS (by decide) (by decide) (by decide)).trans en_0_9) ?_
  refine Tr.if_ne (pc := 4) (tgt := 9) d_X11_ran_4 rfl (fun _ => ?_) (fun hc => absurd hc (by omega))
  refine Tr.iload_n (pc := 9) (i := 1) d_X11_ran_9 rfl rfl ?_
  rcases (show (a1 < 0 ∨ 5 < a1) ∨ a1 = 0 ∨ a1 = 1 ∨ a1 = 2 ∨ a1 = 3 ∨ a1 = 4 ∨ a1 = 5 by omega) with c10 | c10 | c10 | c10 | c10 | c10 | c10
  · refine Tr.tswOut (pc := 10) (tgt := 96) d_X11_ran_10 c10 rfl ?_
    refine Tr.iconst (pc := 96) d_X11_ran_96 (by decide) ?_
    exact Tr.iret (pc := 97) d_X11_ran_97 rfl ⟨hS, _, rfl, by omega, by omega⟩
  · refine Tr.tp 0 c10 ?_
    refine Tr.tswIn (pc := 10) (off := 38) (tgt := 48) d_X11_ran_10 (by decide) (by decide) rfl rfl ?_
    refine Tr.aload_n (pc := 48) (i := 0) d_X11_ran_48 rfl rfl ?_
    refine Tr.getf (pc := 49) d_X11_ran_49 f_11_46 (by decide) (by decide) (ty_0 hS.1.1) ?_
    refine Tr.tp 48 (fx_0_7 hS.1.1) ?_
    refine Tr.getf (pc := 52) d_X11_ran_52 f_11_152 (by decide) (by decide) (ty_48 hS.1.1) ?_
    refine Tr.gen (P := fun v => (-2147483648) ≤ v ∧ v ≤ 2147483647) (ir_48_9 hS.1.2.1) (fun r52 er52 br52 => ?_)
    exact Tr.iret (pc := 55) d_X11_ran_55 rfl ⟨hS, _, rfl, by omega, by omega⟩
  · refine Tr.tp 1 c10 ?_
    refine Tr.tswIn (pc := 10) (off := 46) (tgt := 56) d_X11_ran_10 (by decide) (by decide) rfl rfl ?_
    refine Tr.aload_n (pc := 56) (i := 0) d_X11_ran_56 rfl rfl ?_
    refine Tr.getf (pc := 57) d_X11_ran_57 f_11_46 (by decide) (by decide) (ty_0 hS.1.1) ?_
    refine Tr.tp 48 (fx_0_7 hS.1.1) ?_
    refine Tr.getf (pc := 60) d_X11_ran_60 f_11_155 (by decide) (by decide) (ty_48 hS.1.1) ?_
    refine Tr.gen (P := fun v => (-2147483648) ≤ v ∧ v ≤ 2147483647) (ir_48_10 hS.1.2.1) (fun r60 er60 br60 => ?_)
    exact Tr.iret (pc := 63) d_X11_ran_63 rfl ⟨hS, _, rfl, by omega, by omega⟩
  · refine Tr.tp 2 c10 ?_
    refine Tr.tswIn (pc := 10) (off := 54) (tgt := 64) d_X11_ran_10 (by decide) (by decide) rfl rfl ?_
    refine Tr.aload_n (pc := 64) (i := 0) d_X11_ran_64 rfl rfl ?_
    refine Tr.getf (pc := 65) d_X11_ran_65 f_11_46 (by decide) (by decide) (ty_0 hS.1.1) ?_
    refine Tr.tp 48 (fx_0_7 hS.1.1) ?_
    refine Tr.getf (pc := 68) d_X11_ran_68 f_11_158 (by decide) (by decide) (ty_48 hS.1.1) ?_
    refine Tr.gen (P := fun v => (-2147483648) ≤ v ∧ v ≤ 2147483647) (ir_48_12 hS.1.2.1) (fun r68 er68 br68 => ?_)
    exact Tr.iret (pc := 71) d_X11_ran_71 rfl ⟨hS, _, rfl, by omega, by omega⟩
  · refine Tr.tp 3 c10 ?_
    refine Tr.tswIn (pc := 10) (off := 62) (tgt := 72) d_X11_ran_10 (by decide) (by decide) rfl rfl ?_
    refine Tr.aload_n (pc := 72) (i := 0) d_X11_ran_72 rfl rfl ?_
    refine Tr.getf (pc := 73) d_X11_ran_73 f_11_46 (by decide) (by decide) (ty_0 hS.1.1) ?_
    refine Tr.tp 48 (fx_0_7 hS.1.1) ?_
    refine Tr.getf (pc := 76) d_X11_ran_76 f_11_161 (by decide) (by decide) (ty_48 hS.1.1) ?_
    refine Tr.gen (P := fun v => (-2147483648) ≤ v ∧ v ≤ 2147483647) (ir_48_13 hS.1.2.1) (fun r76 er76 br76 => ?_)
    exact Tr.iret (pc := 79) d_X11_ran_79 rfl ⟨hS, _, rfl, by omega, by omega⟩
  · refine Tr.tp 4 c10 ?_
    refine Tr.tswIn (pc := 10) (off := 70) (tgt := 80) d_X11_ran_10 (by decide) (by decide) rfl rfl ?_
    refine Tr.aload_n (pc := 80) (i := 0) d_X11_ran_80 rfl rfl ?_
    refine Tr.getf (pc := 81) d_X11_ran_81 f_11_46 (by decide) (by decide) (ty_0 hS.1.1) ?_
    refine Tr.tp 48 (fx_0_7 hS.1.1) ?_
    refine Tr.getf (pc := 84) d_X11_ran_84 f_11_164 (by decide) (by decide) (ty_48 hS.1.1) ?_
    refine Tr.gen (P := fun v => (-2147483648) ≤ v ∧ v ≤ 2147483647) (ir_48_11 hS.1.2.1) (fun r84 er84 br84 => ?_)
    exact Tr.iret (pc := 87) d_X11_ran_87 rfl ⟨hS, _, rfl, by omega, by omega⟩
  · refine Tr.tp 5 c10 ?_
    refine Tr.tswIn (pc := 10) (off := 78) (tgt := 88) d_X11_ran_10 (by decide) (by decide) rfl rfl ?_
    refine Tr.aload_n (pc := 88) (i := 0) d_X11_ran_88 rfl rfl ?_
    refine Tr.getf (pc := 89) d_X11_ran_89 f_11_46 (by decide) (by decide) (ty_0 hS.1.1) ?_
    refine Tr.tp 48 (fx_0_7 hS.1.1) ?_
    refine Tr.getf (pc := 92) d_X11_ran_92 f_11_167 (by decide) (by decide) (ty_48 hS.1.1) ?_
    refine Tr.gen (P := fun v => (-2147483648) ≤ v ∧ v ≤ 2147483647) (ir_48_15 hS.1.2.1) (fun r92 er92 br92 => ?_)
    exact Tr.iret (pc := 95) d_X11_ran_95 rfl ⟨hS, _, rfl, by omega, by omega⟩

def ws_X11_value_0 : List (Int × Int) := []
def as_X11_value_0 : List Int := []
def q_X11_value_0 (M0 M' : Mem) (r : Option PV) : Prop := St Tru ws_X11_value_0 as_X11_value_0 M0 M' ∧ ∃ v : Int, r = some (0, v) ∧ (-2000000000) ≤ v ∧ v ≤ (-2000000000)
set_option maxRecDepth 100000 in
set_option maxHeartbeats 4000000 in
theorem sp_X11_value_0 {l : Launch} {K : EC} {M0 : Mem} (hI : In Tru M0) (en_0_9 : rd M0 0 9 = 0) (a1 : Int) (ha1 : (-2147483648) ≤ a1 ∧ a1 ≤ 2147483647)  : Tr l K 0 mX11_value 0 [(0, (2, 0)), (1, (0, a1))] [] M0 (q_X11_value_0 M0) := by
  have hS : St Tru ws_X11_value_0 as_X11_value_0 M0 M0 := St.rf hI
  refine Tr.aload_n (pc := 0) (i := 0) d_X11_value_0 rfl rfl ?_
  refine Tr.getz (pc := 1) d_X11_value_1 f_11_109 (by decide) (ty_0 hS.1.1) ?_
  refine Tr.tp 0 ((St.kp hS (by decide) (by decide) (by decide)).trans en_0_9) ?_
  refine Tr.if_eq (pc := 4) (tgt := 24) d_X11_value_4 rfl (fun _ => ?_) (fun hc => absurd (by omega) hc)
  refine Tr.ldc (pc := 24) d_X11_value_24 k_11_170 (by decide) ?_
  exact Tr.iret (pc := 26) d_X11_value_26 rfl ⟨hS, _, rfl, by omega, by omega⟩

def ws_X11_value_0_w1 : List (Int × Int) := []
def as_X11_value_0_w1 : List Int := []
def q_X11_value_0_w1 (M0 M' : Mem) (r : Option PV) : Prop := St Tru ws_X11_value_0_w1 as_X11_value_0_w1 M0 M' ∧ ∃ v : Int, r = some (0, v) ∧ (-2147483648) ≤ v ∧ v ≤ 2147483647
set_option maxRecDepth 100000 in
set_option maxHeartbeats 4000000 in
theorem sp_X11_value_0_w1 {l : Launch} {K : EC} {M0 : Mem} (hI : In Tru M0) (en_0_4 : rd M0 0 4 = 7) (en_0_9 : rd M0 0 9 = 1) (a1 : Int) (ha1 : (-2147483648) ≤ a1 ∧ a1 ≤ 2147483647)  : Tr l K 0 mX11_value 0 [(0, (2, 0)), (1, (0, a1))] [] M0 (q_X11_value_0_w1 M0) := by
  have hS : St Tru ws_X11_value_0_w1 as_X11_value_0_w1 M0 M0 := St.rf hI
  refine Tr.aload_n (pc := 0) (i := 0) d_X11_value_0 rfl rfl ?_
  refine Tr.getz (pc := 1) d_X11_value_1 f_11_109 (by decide) (ty_0 hS.1.1) ?_
  refine Tr.tp 1 ((St.kp hS (by decide) (by decide) (by decide)).trans en_0_9) ?_
  refine Tr.if_eq (pc := 4) (tgt := 24) d_X11_value_4 rfl (fun hc => absurd hc (by omega)) (fun _ => ?_)
  refine Tr.iload_n (pc := 7) (i := 1) d_X11_value_7 rfl rfl ?_
  refine Tr.if_lt (pc := 8) (tgt := 24) d_X11_value_8 rfl (fun c8 => ?_) (fun c8 => ?_)
  · refine Tr.ldc (pc := 24) d_X11_value_24 k_11_170 (by decide) ?_
    exact Tr.iret (pc := 26) d_X11_value_26 rfl ⟨hS, _, rfl, by omega, by omega⟩
  · refine Tr.iload_n (pc := 11) (i := 1) d_X11_value_11 rfl rfl ?_
    refine Tr.aload_n (pc := 12) (i := 0) d_X11_value_12 rfl rfl ?_
    refine Tr.getf (pc := 13) d_X11_value_13 f_11_30 (by decide) (by decide) (ty_0 hS.1.1) ?_
    refine Tr.tp 7 ((St.kp hS (by decide) (by decide) (by decide)).trans en_0_4) ?_
    refine Tr.getf (pc := 16) d_X11_value_16 f_11_130 (by decide) (by decide) (ty_7 hS.1.1) ?_
    refine Tr.tp 8 (fx_7_4 hS.1.1) ?_
    refine Tr.iconst (pc := 19) d_X11_value_19 (by decide) ?_
    refine Tr.iald (pc := 20) d_X11_value_20 (ty_8 hS.1.1) (by omega) (by omega) ?_
    refine Tr.gen (P := fun v => 0 ≤ v ∧ v ≤ 6) (ir_8_2 hS.1.2.1) (fun r20 er20 br20 => ?_)
    refine Tr.icmp_lt (pc := 21) (tgt := 27) d_X11_value_21 rfl (fun c21 => ?_) (fun c21 => ?_)
    · refine Tr.aload_n (pc := 27) (i := 0) d_X11_value_27 rfl rfl ?_
      refine Tr.getf (pc := 28) d_X11_value_28 f_11_46 (by decide) (by decide) (ty_0 hS.1.1) ?_
      refine Tr.tp 48 (fx_0_7 hS.1.1) ?_
      refine Tr.getf (pc := 31) d_X11_value_31 f_11_171 (by decide) (by decide) (ty_48 hS.1.1) ?_
      refine Tr.tp 50 (fx_48_3 hS.1.1) ?_
      refine Tr.iload_n (pc := 34) (i := 1) d_X11_value_34 rfl rfl ?_
      refine Tr.iald (pc := 35) d_X11_value_35 (ty_50 hS.1.1) (by omega) (by omega) ?_
      refine Tr.gen (P := fun v => (-2147483648) ≤ v ∧ v ≤ 2147483647) (ar_50 hS.1.2.1 _) (fun r35 er35 br35 => ?_)
      exact Tr.iret (pc := 36) d_X11_value_36 rfl ⟨hS, _, rfl, by omega, by omega⟩
    · refine Tr.ldc (pc := 24) d_X11_value_24 k_11_170 (by decide) ?_
      exact Tr.iret (pc := 26) d_X11_value_26 rfl ⟨hS, _, rfl, by omega, by omega⟩

def ws_X11_spent_0 : List (Int × Int) := []
def as_X11_spent_0 : List Int := []
def q_X11_spent_0 (M0 M' : Mem) (r : Option PV) : Prop := St Tru ws_X11_spent_0 as_X11_spent_0 M0 M' ∧ ∃ v : Int, r = some (0, v) ∧ (-1) ≤ v ∧ v ≤ (-1)
set_option maxRecDepth 100000 in
set_option maxHeartbeats 4000000 in
theorem sp_X11_spent_0 {l : Launch} {K : EC} {M0 : Mem} (hI : In Tru M0) (en_0_9 : rd M0 0 9 = 0) (a1 : Int) (ha1 : (-2147483648) ≤ a1 ∧ a1 ≤ 2147483647) (a2 : Int) (ha2 : (-2147483648) ≤ a2 ∧ a2 ≤ 2147483647)  : Tr l K 0 mX11_spent 0 [(0, (2, 0)), (1, (0, a1)), (2, (0, a2))] [] M0 (q_X11_spent_0 M0) := by
  have hS : St Tru ws_X11_spent_0 as_X11_spent_0 M0 M0 := St.rf hI
  refine Tr.aload_n (pc := 0) (i := 0) d_X11_spent_0 rfl rfl ?_
  refine Tr.getz (pc := 1) d_X11_spent_1 f_11_109 (by decide) (ty_0 hS.1.1) ?_
  refine Tr.tp 0 ((St.kp hS (by decide) (by decide) (by decide)).trans en_0_9) ?_
  refine Tr.if_eq (pc := 4) (tgt := 24) d_X11_spent_4 rfl (fun _ => ?_) (fun hc => absurd (by omega) hc)
  refine Tr.iconst (pc := 24) d_X11_spent_24 (by decide) ?_
  exact Tr.iret (pc := 25) d_X11_spent_25 rfl ⟨hS, _, rfl, by omega, by omega⟩

def ws_X11_isPart_0 : List (Int × Int) := []
def as_X11_isPart_0 : List Int := []
def q_X11_isPart_0 (a1 : Int) (M0 M' : Mem) (r : Option PV) : Prop := St Tru ws_X11_isPart_0 as_X11_isPart_0 M0 M' ∧ ∃ v : Int, r = some (0, v) ∧ 0 ≤ v ∧ v ≤ 1 ∧ (v = 1 → (0 ≤ a1 ∧ a1 ≤ 5))
set_option maxRecDepth 100000 in
set_option maxHeartbeats 4000000 in
theorem sp_X11_isPart_0 {l : Launch} {K : EC} {M0 : Mem} (hI : In Tru M0) (en_0_4 : rd M0 0 4 = 7) (a1 : Int) (ha1 : (-2147483648) ≤ a1 ∧ a1 ≤ 2147483647)  : Tr l K 0 mX11_isPart 0 [(0, (2, 0)), (1, (0, a1))] [] M0 (q_X11_isPart_0 a1 M0) := by
  have hS : St Tru ws_X11_isPart_0 as_X11_isPart_0 M0 M0 := St.rf hI
  refine Tr.iload_n (pc := 0) (i := 1) d_X11_isPart_0 rfl rfl ?_
  refine Tr.if_lt (pc := 1) (tgt := 21) d_X11_isPart_1 rfl (fun c1 => ?_) (fun c1 => ?_)
  · refine Tr.iconst (pc := 21) d_X11_isPart_21 (by decide) ?_
    exact Tr.zret (pc := 22) d_X11_isPart_22 rfl (by omega) ⟨hS, _, rfl, by omega, by omega, by omega⟩
  · refine Tr.iload_n (pc := 4) (i := 1) d_X11_isPart_4 rfl rfl ?_
    refine Tr.aload_n (pc := 5) (i := 0) d_X11_isPart_5 rfl rfl ?_
    refine Tr.getf (pc := 6) d_X11_isPart_6 f_11_30 (by decide) (by decide) (ty_0 hS.1.1) ?_
    refine Tr.tp 7 ((St.kp hS (by decide) (by decide) (by decide)).trans en_0_4) ?_
    refine Tr.getf (pc := 9) d_X11_isPart_9 f_11_130 (by decide) (by decide) (ty_7 hS.1.1) ?_
    refine Tr.tp 8 (fx_7_4 hS.1.1) ?_
    refine Tr.iconst (pc := 12) d_X11_isPart_12 (by decide) ?_
    refine Tr.iald (pc := 13) d_X11_isPart_13 (ty_8 hS.1.1) (by omega) (by omega) ?_
    refine Tr.gen (P := fun v => 0 ≤ v ∧ v ≤ 6) (ir_8_0 hS.1.2.1) (fun r13 er13 br13 => ?_)
    refine Tr.icmp_ge (pc := 14) (tgt := 21) d_X11_isPart_14 rfl (fun c14 => ?_) (fun c14 => ?_)
    · refine Tr.iconst (pc := 21) d_X11_isPart_21 (by decide) ?_
      exact Tr.zret (pc := 22) d_X11_isPart_22 rfl (by omega) ⟨hS, _, rfl, by omega, by omega, by omega⟩
    · refine Tr.iconst (pc := 17) d_X11_isPart_17 (by decide) ?_
      refine Tr.goto (pc := 18) (tgt := 22) d_X11_isPart_18 rfl ?_
      exact Tr.zret (pc := 22) d_X11_isPart_22 rfl (by omega) ⟨hS, _, rfl, by omega, by omega, by omega⟩

def ws_X11_spent_0_w1 : List (Int × Int) := []
def as_X11_spent_0_w1 : List Int := []
def q_X11_spent_0_w1 (M0 M' : Mem) (r : Option PV) : Prop := St Tru ws_X11_spent_0_w1 as_X11_spent_0_w1 M0 M' ∧ ∃ v : Int, r = some (0, v) ∧ (-2147483648) ≤ v ∧ v ≤ 2147483647
set_option maxRecDepth 100000 in
set_option maxHeartbeats 4000000 in
theorem sp_X11_spent_0_w1 {l : Launch} {K : EC} {M0 : Mem} (hI : In Tru M0) (en_0_4 : rd M0 0 4 = 7) (en_0_9 : rd M0 0 9 = 1) (a1 : Int) (ha1 : (-2147483648) ≤ a1 ∧ a1 ≤ 2147483647) (a2 : Int) (ha2 : (-2147483648) ≤ a2 ∧ a2 ≤ 2147483647)  : Tr l K 1 mX11_spent 0 [(0, (2, 0)), (1, (0, a1)), (2, (0, a2))] [] M0 (q_X11_spent_0_w1 M0) := by
  have hS : St Tru ws_X11_spent_0_w1 as_X11_spent_0_w1 M0 M0 := St.rf hI
  refine Tr.aload_n (pc := 0) (i := 0) d_X11_spent_0 rfl rfl ?_
  refine Tr.getz (pc := 1) d_X11_spent_1 f_11_109 (by decide) (ty_0 hS.1.1) ?_
  refine Tr.tp 1 ((St.kp hS (by decide) (by decide) (by decide)).trans en_0_9) ?_
  refine Tr.if_eq (pc := 4) (tgt := 24) d_X11_spent_4 rfl (fun hc => absurd hc (by omega)) (fun _ => ?_)
  refine Tr.aload_n (pc := 7) (i := 0) d_X11_spent_7 rfl rfl ?_
  refine Tr.iload_n (pc := 8) (i := 1) d_X11_spent_8 rfl rfl ?_
  refine Tr.callV (pc := 9) (as := [_]) d_X11_spent_9 s_11_174 ok_X11_isPart rfl rfl (Nat.le_of_ble_eq_true rfl) (Nat.le_of_ble_eq_true rfl) (by decide) (ty_0 hS.1.1) ?_
  refine Tr.imp (Tr.deep (by decide) (sp_X11_isPart_0 hS.1 ((St.kp hS (by decide) (by decide) (by decide)).trans en_0_4) a1 (by omega))) ?_
  rintro M9 _ ⟨h9, r9, rfl, lr9, ur9, wr9⟩
  have hS := St.tr hS h9 (by decide) (by decide)
  refine Tr.sc [(0, r9)] rfl ?_
  refine Tr.if_eq (pc := 12) (tgt := 24) d_X11_spent_12 rfl (fun c12 => ?_) (fun c12 => ?_)
  · refine Tr.iconst (pc := 24) d_X11_spent_24 (by decide) ?_
    exact Tr.iret (pc := 25) d_X11_spent_25 rfl ⟨hS, _, rfl, by omega, by omega⟩
  · refine Tr.iload_n (pc := 15) (i := 2) d_X11_spent_15 rfl rfl ?_
    refine Tr.if_lt (pc := 16) (tgt := 24) d_X11_spent_16 rfl (fun c16 => ?_) (fun c16 => ?_)
    · refine Tr.iconst (pc := 24) d_X11_spent_24 (by decide) ?_
      exact Tr.iret (pc := 25) d_X11_spent_25 rfl ⟨hS, _, rfl, by omega, by omega⟩
    · refine Tr.iload_n (pc := 19) (i := 2) d_X11_spent_19 rfl rfl ?_
      refine Tr.iconst (pc := 20) d_X11_spent_20 (by decide) ?_
      refine Tr.icmp_lt (pc := 21) (tgt := 26) d_X11_spent_21 rfl (fun c21 => ?_) (fun c21 => ?_)
      · refine Tr.aload_n (pc := 26) (i := 0) d_X11_spent_26 rfl rfl ?_
        refine Tr.getf (pc := 27) d_X11_spent_27 f_11_46 (by decide) (by decide) (ty_0 hS.1.1) ?_
        refine Tr.tp 48 (fx_0_7 hS.1.1) ?_
        refine Tr.getf (pc := 30) d_X11_spent_30 f_11_178 (by decide) (by decide) (ty_48 hS.1.1) ?_
        refine Tr.tp 56 (fx_48_0 hS.1.1) ?_
        refine Tr.getf (pc := 33) d_X11_spent_33 f_11_182 (by decide) (by decide) (ty_56 hS.1.1) ?_
        refine Tr.tp 57 (fx_56_2 hS.1.1) ?_
        refine Tr.iload_n (pc := 36) (i := 1) d_X11_spent_36 rfl rfl ?_
        refine Tr.iconst (pc := 37) d_X11_spent_37 (by decide) ?_
        refine Tr.imul (pc := 38) d_X11_spent_38 ?_
        refine Tr.tp (4 * a1) ((w32_id (by omega)).trans (by omega)) ?_
        refine Tr.iload_n (pc := 39) (i := 2) d_X11_spent_39 rfl rfl ?_
        refine Tr.iadd (pc := 40) d_X11_spent_40 ?_
        refine Tr.tp (4 * a1 + a2) ((w32_id (by omega)).trans (by omega)) ?_
        refine Tr.iald (pc := 41) d_X11_spent_41 (ty_57 hS.1.1) (by omega) (by omega) ?_
        refine Tr.gen (P := fun v => (-2147483648) ≤ v ∧ v ≤ 2147483647) (ar_57 hS.1.2.1 _) (fun r41 er41 br41 => ?_)
        exact Tr.iret (pc := 42) d_X11_spent_42 rfl ⟨hS, _, rfl, by omega, by omega⟩
      · refine Tr.iconst (pc := 24) d_X11_spent_24 (by decide) ?_
        exact Tr.iret (pc := 25) d_X11_spent_25 rfl ⟨hS, _, rfl, by omega, by omega⟩

def ws_X11_pays_0 : List (Int × Int) := []
def as_X11_pays_0 : List Int := []
def q_X11_pays_0 (M0 M' : Mem) (r : Option PV) : Prop := St Tru ws_X11_pays_0 as_X11_pays_0 M0 M' ∧ ∃ v : Int, r = some (0, v) ∧ (-1) ≤ v ∧ v ≤ (-1)
set_option maxRecDepth 100000 in
set_option maxHeartbeats 4000000 in
theorem sp_X11_pays_0 {l : Launch} {K : EC} {M0 : Mem} (hI : In Tru M0) (en_0_9 : rd M0 0 9 = 0) (a1 : Int) (ha1 : (-2147483648) ≤ a1 ∧ a1 ≤ 2147483647) (a2 : Int) (ha2 : (-2147483648) ≤ a2 ∧ a2 ≤ 2147483647)  : Tr l K 0 mX11_pays 0 [(0, (2, 0)), (1, (0, a1)), (2, (0, a2))] [] M0 (q_X11_pays_0 M0) := by
  have hS : St Tru ws_X11_pays_0 as_X11_pays_0 M0 M0 := St.rf hI
  refine Tr.aload_n (pc := 0) (i := 0) d_X11_pays_0 rfl rfl ?_
  refine Tr.getz (pc := 1) d_X11_pays_1 f_11_109 (by decide) (ty_0 hS.1.1) ?_
  refine Tr.tp 0 ((St.kp hS (by decide) (by decide) (by decide)).trans en_0_9) ?_
  refine Tr.if_eq (pc := 4) (tgt := 16) d_X11_pays_4 rfl (fun _ => ?_) (fun hc => absurd (by omega) hc)
  refine Tr.iconst (pc := 16) d_X11_pays_16 (by decide) ?_
  exact Tr.iret (pc := 17) d_X11_pays_17 rfl ⟨hS, _, rfl, by omega, by omega⟩

def ws_X11_isLine_0 : List (Int × Int) := []
def as_X11_isLine_0 : List Int := []
def q_X11_isLine_0 (a1 : Int) (M0 M' : Mem) (r : Option PV) : Prop := St Tru ws_X11_isLine_0 as_X11_isLine_0 M0 M' ∧ ∃ v : Int, r = some (0, v) ∧ 0 ≤ v ∧ v ≤ 1 ∧ (v = 1 → (0 ≤ a1 ∧ a1 ≤ 59))
set_option maxRecDepth 100000 in
set_option maxHeartbeats 4000000 in
theorem sp_X11_isLine_0 {l : Launch} {K : EC} {M0 : Mem} (hI : In Tru M0) (en_0_4 : rd M0 0 4 = 7) (a1 : Int) (ha1 : (-2147483648) ≤ a1 ∧ a1 ≤ 2147483647)  : Tr l K 0 mX11_isLine 0 [(0, (2, 0)), (1, (0, a1))] [] M0 (q_X11_isLine_0 a1 M0) := by
  have hS : St Tru ws_X11_isLine_0 as_X11_isLine_0 M0 M0 := St.rf hI
  refine Tr.iload_n (pc := 0) (i := 1) d_X11_isLine_0 rfl rfl ?_
  refine Tr.if_lt (pc := 1) (tgt := 22) d_X11_isLine_1 rfl (fun c1 => ?_) (fun c1 => ?_)
  · refine Tr.iconst (pc := 22) d_X11_isLine_22 (by decide) ?_
    exact Tr.zret (pc := 23) d_X11_isLine_23 rfl (by omega) ⟨hS, _, rfl, by omega, by omega, by omega⟩
  · refine Tr.iload_n (pc := 4) (i := 1) d_X11_isLine_4 rfl rfl ?_
    refine Tr.aload_n (pc := 5) (i := 0) d_X11_isLine_5 rfl rfl ?_
    refine Tr.getf (pc := 6) d_X11_isLine_6 f_11_30 (by decide) (by decide) (ty_0 hS.1.1) ?_
    refine Tr.tp 7 ((St.kp hS (by decide) (by decide) (by decide)).trans en_0_4) ?_
    refine Tr.getf (pc := 9) d_X11_isLine_9 f_11_115 (by decide) (by decide) (ty_7 hS.1.1) ?_
    refine Tr.tp 15 (fx_7_11 hS.1.1) ?_
    refine Tr.getf (pc := 12) d_X11_isLine_12 f_11_119 (by decide) (by decide) (ty_15 hS.1.1) ?_
    refine Tr.gen (P := fun v => 0 ≤ v ∧ v ≤ 60) (ir_15_0 hS.1.2.1) (fun r12 er12 br12 => ?_)
    refine Tr.icmp_ge (pc := 15) (tgt := 22) d_X11_isLine_15 rfl (fun c15 => ?_) (fun c15 => ?_)
    · refine Tr.iconst (pc := 22) d_X11_isLine_22 (by decide) ?_
      exact Tr.zret (pc := 23) d_X11_isLine_23 rfl (by omega) ⟨hS, _, rfl, by omega, by omega, by omega⟩
    · refine Tr.iconst (pc := 18) d_X11_isLine_18 (by decide) ?_
      refine Tr.goto (pc := 19) (tgt := 23) d_X11_isLine_19 rfl ?_
      exact Tr.zret (pc := 23) d_X11_isLine_23 rfl (by omega) ⟨hS, _, rfl, by omega, by omega, by omega⟩

def ws_J13_bitCount_95d88 : List (Int × Int) := []
def as_J13_bitCount_95d88 : List Int := []
def q_J13_bitCount_95d88 (a0 : Int) (M0 M' : Mem) (r : Option PV) : Prop := St Tru ws_J13_bitCount_95d88 as_J13_bitCount_95d88 M0 M' ∧ ∃ v : Int, r = some (0, v) ∧ (-2147483648) ≤ v ∧ v ≤ 2147483647 ∧ (v = pop a0 ∧ 0 ≤ v ∧ v ≤ 64)
set_option maxRecDepth 100000 in
set_option maxHeartbeats 4000000 in
theorem sp_J13_bitCount_95d88 {l : Launch} {K : EC} {M0 : Mem} (hI : In Tru M0)  (a0 : Int) (ha0 : (-9223372036854775808) ≤ a0 ∧ a0 ≤ 9223372036854775807)  : Tr l K 0 mJ13_bitCount_95d88 0 [(0, (1, a0))] [] M0 (q_J13_bitCount_95d88 a0 M0) := by
  have hS : St Tru ws_J13_bitCount_95d88 as_J13_bitCount_95d88 M0 M0 := St.rf hI
  refine Tr.lload_n (pc := 0) (i := 0) d_J13_bitCount_95d88_0 rfl rfl ?_
  refine Tr.lload_n (pc := 1) (i := 0) d_J13_bitCount_95d88_1 rfl rfl ?_
  refine Tr.iconst (pc := 2) d_J13_bitCount_95d88_2 (by decide) ?_
  refine Tr.lushr (pc := 3) d_J13_bitCount_95d88_3 ?_
  refine Tr.gen (P := fun v => v = (a0 % 18446744073709551616) / 2 ∧ (0 ≤ v ∧ v ≤ 9223372036854775807)) ⟨(lushr_p1 _).2, (lushr_p1 _).1⟩ (fun r3 er3 br3 => ?_)
  refine Tr.ldc2 (pc := 4) d_J13_bitCount_95d88_4 kl_17_314 (by decide) ?_
  refine Tr.land (pc := 7) d_J13_bitCount_95d88_7 ?_
  refine Tr.gen (P := fun v => (-9223372036854775808) ≤ v ∧ v ≤ 9223372036854775807) (i64_b _) (fun r7 er7 br7 => ?_)
  refine Tr.lsub (pc := 8) d_J13_bitCount_95d88_8 ?_
  refine Tr.gen (P := fun v => (-9223372036854775808) ≤ v ∧ v ≤ 9223372036854775807) (w64_b _) (fun r8 er8 br8 => ?_)
  refine Tr.lstore_n (pc := 9) (i := 0) (ls2 := [(0, (1, r8))]) d_J13_bitCount_95d88_9 rfl (by decide) rfl ?_
  refine Tr.lload_n (pc := 10) (i := 0) d_J13_bitCount_95d88_10 rfl rfl ?_
  refine Tr.ldc2 (pc := 11) d_J13_bitCount_95d88_11 kl_17_316 (by decide) ?_
  refine Tr.land (pc := 14) d_J13_bitCount_95d88_14 ?_
  refine Tr.gen (P := fun v => (-9223372036854775808) ≤ v ∧ v ≤ 9223372036854775807) (i64_b _) (fun r14 er14 br14 => ?_)
  refine Tr.lload_n (pc := 15) (i := 0) d_J13_bitCount_95d88_15 rfl rfl ?_
  refine Tr.iconst (pc := 16) d_J13_bitCount_95d88_16 (by decide) ?_
  refine Tr.lushr (pc := 17) d_J13_bitCount_95d88_17 ?_
  refine Tr.gen (P := fun v => (-9223372036854775808) ≤ v ∧ v ≤ 9223372036854775807) (i64_b _) (fun r17 er17 br17 => ?_)
  refine Tr.ldc2 (pc := 18) d_J13_bitCount_95d88_18 kl_17_316 (by decide) ?_
  refine Tr.land (pc := 21) d_J13_bitCount_95d88_21 ?_
  refine Tr.gen (P := fun v => (-9223372036854775808) ≤ v ∧ v ≤ 9223372036854775807) (i64_b _) (fun r21 er21 br21 => ?_)
  refine Tr.ladd (pc := 22) d_J13_bitCount_95d88_22 ?_
  refine Tr.gen (P := fun v => (-9223372036854775808) ≤ v ∧ v ≤ 9223372036854775807) (w64_b _) (fun r22 er22 br22 => ?_)
  refine Tr.lstore_n (pc := 23) (i := 0) (ls2 := [(0, (1, r22))]) d_J13_bitCount_95d88_23 rfl (by decide) rfl ?_
  refine Tr.lload_n (pc := 24) (i := 0) d_J13_bitCount_95d88_24 rfl rfl ?_
  refine Tr.lload_n (pc := 25) (i := 0) d_J13_bitCount_95d88_25 rfl rfl ?_
  refine Tr.iconst (pc := 26) d_J13_bitCount_95d88_26 (by decide) ?_
  refine Tr.lushr (pc := 27) d_J13_bitCount_95d88_27 ?_
  refine Tr.gen (P := fun v => (-9223372036854775808) ≤ v ∧ v ≤ 9223372036854775807) (i64_b _) (fun r27 er27 br27 => ?_)
  refine Tr.ladd (pc := 28) d_J13_bitCount_95d88_28 ?_
  refine Tr.gen (P := fun v => (-9223372036854775808) ≤ v ∧ v ≤ 9223372036854775807) (w64_b _) (fun r28 er28 br28 => ?_)
  refine Tr.ldc2 (pc := 29) d_J13_bitCount_95d88_29 kl_17_318 (by decide) ?_
  refine Tr.land (pc := 32) d_J13_bitCount_95d88_32 ?_
  refine Tr.gen (P := fun v => (-9223372036854775808) ≤ v ∧ v ≤ 9223372036854775807) (i64_b _) (fun r32 er32 br32 => ?_)
  refine Tr.lstore_n (pc := 33) (i := 0) (ls2 := [(0, (1, r32))]) d_J13_bitCount_95d88_33 rfl (by decide) rfl ?_
  refine Tr.lload_n (pc := 34) (i := 0) d_J13_bitCount_95d88_34 rfl rfl ?_
  refine Tr.lload_n (pc := 35) (i := 0) d_J13_bitCount_95d88_35 rfl rfl ?_
  refine Tr.bipush (pc := 36) d_J13_bitCount_95d88_36 rfl (by decide) ?_
  refine Tr.lushr (pc := 38) d_J13_bitCount_95d88_38 ?_
  refine Tr.gen (P := fun v => v = (r32 % 18446744073709551616) / 256 ∧ (0 ≤ v ∧ v ≤ 72057594037927935)) ⟨(lushr_p8 _).2, (lushr_p8 _).1⟩ (fun r38 er38 br38 => ?_)
  refine Tr.ladd (pc := 39) d_J13_bitCount_95d88_39 ?_
  refine Tr.gen (P := fun v => (-9223372036854775808) ≤ v ∧ v ≤ 9223372036854775807) (w64_b _) (fun r39 er39 br39 => ?_)
  refine Tr.lstore_n (pc := 40) (i := 0) (ls2 := [(0, (1, r39))]) d_J13_bitCount_95d88_40 rfl (by decide) rfl ?_
  refine Tr.lload_n (pc := 41) (i := 0) d_J13_bitCount_95d88_41 rfl rfl ?_
  refine Tr.lload_n (pc := 42) (i := 0) d_J13_bitCount_95d88_42 rfl rfl ?_
  refine Tr.bipush (pc := 43) d_J13_bitCount_95d88_43 rfl (by decide) ?_
  refine Tr.lushr (pc := 45) d_J13_bitCount_95d88_45 ?_
  refine Tr.gen (P := fun v => (-9223372036854775808) ≤ v ∧ v ≤ 9223372036854775807) (i64_b _) (fun r45 er45 br45 => ?_)
  refine Tr.ladd (pc := 46) d_J13_bitCount_95d88_46 ?_
  refine Tr.gen (P := fun v => (-9223372036854775808) ≤ v ∧ v ≤ 9223372036854775807) (w64_b _) (fun r46 er46 br46 => ?_)
  refine Tr.lstore_n (pc := 47) (i := 0) (ls2 := [(0, (1, r46))]) d_J13_bitCount_95d88_47 rfl (by decide) rfl ?_
  refine Tr.lload_n (pc := 48) (i := 0) d_J13_bitCount_95d88_48 rfl rfl ?_
  refine Tr.lload_n (pc := 49) (i := 0) d_J13_bitCount_95d88_49 rfl rfl ?_
  refine Tr.bipush (pc := 50) d_J13_bitCount_95d88_50 rfl (by decide) ?_
  refine Tr.lushr (pc := 52) d_J13_bitCount_95d88_52 ?_
  refine Tr.gen (P := fun v => (-9223372036854775808) ≤ v ∧ v ≤ 9223372036854775807) (i64_b _) (fun r52 er52 br52 => ?_)
  refine Tr.ladd (pc := 53) d_J13_bitCount_95d88_53 ?_
  refine Tr.gen (P := fun v => (-9223372036854775808) ≤ v ∧ v ≤ 9223372036854775807) (w64_b _) (fun r53 er53 br53 => ?_)
  refine Tr.lstore_n (pc := 54) (i := 0) (ls2 := [(0, (1, r53))]) d_J13_bitCount_95d88_54 rfl (by decide) rfl ?_
  refine Tr.lload_n (pc := 55) (i := 0) d_J13_bitCount_95d88_55 rfl rfl ?_
  refine Tr.l2i (pc := 56) d_J13_bitCount_95d88_56 ?_
  refine Tr.gen (P := fun v => (-2147483648) ≤ v ∧ v ≤ 2147483647) (w32_b _) (fun r56 er56 br56 => ?_)
  refine Tr.bipush (pc := 57) d_J13_bitCount_95d88_57 rfl (by decide) ?_
  refine Tr.iand (pc := 59) d_J13_bitCount_95d88_59 ?_
  refine Tr.gen (P := fun v => (-2147483648) ≤ v ∧ v ≤ 2147483647) (i32_b _) (fun r59 er59 br59 => ?_)
  exact Tr.iret (pc := 60) d_J13_bitCount_95d88_60 rfl ⟨hS, _, rfl, by omega, by omega, (by have h8 := bc_fin (bc_J (a := a0) (e1 := r8) (e2 := r22) (e3 := r32) (e4 := r39) (e5 := r46) (e6 := r53) (by rw [er3, er7]; exact er8) (by rw [er14, er17, er21]; exact er22) (by rw [er27, er28]; exact er32) (by rw [er38]; exact er39) (by rw [er45]; exact er46) (by rw [er52]; exact er53)); rw [er56, er59] at h8; have h7 : (pop a0 : Int) ≤ 64 := (by have := pop_le a0; omega); have h6 : r59 = pop a0 := h8; omega)⟩

def ws_X1_part : List (Int × Int) := []
def as_X1_part : List Int := []
def q_X1_part (M0 M' : Mem) (r : Option PV) : Prop := St Tru ws_X1_part as_X1_part M0 M' ∧ ∃ v : Int, r = some (0, v) ∧ (-2147483648) ≤ v ∧ v ≤ 2147483647
set_option maxRecDepth 100000 in
set_option maxHeartbeats 4000000 in
theorem sp_X1_part {l : Launch} {K : EC} {M0 : Mem} (hI : In Tru M0)  (a0 : Int) (ha0 : (-2147483648) ≤ a0 ∧ a0 ≤ 2147483647) (a1 : Int) (ha1 : (-9223372036854775808) ≤ a1 ∧ a1 ≤ 9223372036854775807) (a3 : Int) (ha3 : 0 ≤ a3 ∧ a3 ≤ 59)  : Tr l K 1 mX1_part 0 [(0, (0, a0)), (1, (1, a1)), (3, (0, a3))] [] M0 (q_X1_part M0) := by
  have hS : St Tru ws_X1_part as_X1_part M0 M0 := St.rf hI
  refine Tr.lload_n (pc := 0) (i := 1) d_X1_part_0 rfl rfl ?_
  refine Tr.callS (pc := 1) (as := [_]) d_X1_part_1 s_1_111 ok_J13_bitCount_95d88 rfl rfl (Nat.le_of_ble_eq_true rfl) (Nat.le_of_ble_eq_true rfl) ?_
  refine Tr.imp (Tr.deep (by decide) (sp_J13_bitCount_95d88 hS.1 a1 (by omega))) ?_
  rintro M1 _ ⟨h1, r1, rfl, lr1, ur1, wr1⟩
  have hS := St.tr hS h1 (by decide) (by decide)
  refine Tr.sc [(0, r1)] rfl ?_
  refine Tr.istore (pc := 4) (i := 4) (ls2 := [(4, (0, r1)), (0, (0, a0)), (1, (1, a1)), (3, (0, a3))]) d_X1_part_4 (by decide) rfl ?_
  refine Tr.lload_n (pc := 6) (i := 1) d_X1_part_6 rfl rfl ?_
  refine Tr.lconst (pc := 7) (v := 1) d_X1_part_7 rfl (by decide) ?_
  refine Tr.iload_n (pc := 8) (i := 3) d_X1_part_8 rfl rfl ?_
  refine Tr.lshl (pc := 9) d_X1_part_9 ?_
  refine Tr.gen (P := fun v => (-9223372036854775808) ≤ v ∧ v ≤ 9223372036854775807) (i64_b _) (fun r9 er9 br9 => ?_)
  refine Tr.lconst (pc := 10) (v := 1) d_X1_part_10 rfl (by decide) ?_
  refine Tr.lsub (pc := 11) d_X1_part_11 ?_
  refine Tr.gen (P := fun v => (-9223372036854775808) ≤ v ∧ v ≤ 9223372036854775807) (w64_b _) (fun r11 er11 br11 => ?_)
  refine Tr.land (pc := 12) d_X1_part_12 ?_
  refine Tr.gen (P := fun v => (-9223372036854775808) ≤ v ∧ v ≤ 9223372036854775807) (i64_b _) (fun r12 er12 br12 => ?_)
  refine Tr.callS (pc := 13) (as := [_]) d_X1_part_13 s_1_111 ok_J13_bitCount_95d88 rfl rfl (Nat.le_of_ble_eq_true rfl) (Nat.le_of_ble_eq_true rfl) ?_
  refine Tr.imp (Tr.deep (by decide) (sp_J13_bitCount_95d88 hS.1 r12 (by omega))) ?_
  rintro M13 _ ⟨h13, r13, rfl, lr13, ur13, wr13⟩
  have hS := St.tr hS h13 (by decide) (by decide)
  refine Tr.sc [(0, r13)] rfl ?_
  refine Tr.istore (pc := 16) (i := 5) (ls2 := [(5, (0, r13)), (4, (0, r1)), (0, (0, a0)), (1, (1, a1)), (3, (0, a3))]) d_X1_part_16 (by decide) rfl ?_
  refine Tr.iload (pc := 18) (i := 4) d_X1_part_18 rfl ?_
  refine Tr.if_ne (pc := 20) (tgt := 25) d_X1_part_20 rfl (fun c20 => ?_) (fun c20 => ?_)
  · refine Tr.iload_n (pc := 25) (i := 0) d_X1_part_25 rfl rfl ?_
    refine Tr.iload (pc := 26) (i := 4) d_X1_part_26 rfl ?_
    refine Tr.idiv (pc := 28) d_X1_part_28 (by omega) ?_
    refine Tr.gen (P := fun v => (-2147483648) ≤ v ∧ v ≤ 2147483647) (w32_b _) (fun r28 er28 br28 => ?_)
    refine Tr.iload (pc := 29) (i := 5) d_X1_part_29 rfl ?_
    refine Tr.iload_n (pc := 31) (i := 0) d_X1_part_31 rfl rfl ?_
    refine Tr.iload (pc := 32) (i := 4) d_X1_part_32 rfl ?_
    refine Tr.irem (pc := 34) d_X1_part_34 (by omega) ?_
    refine Tr.gen (P := fun v => (-2147483648) ≤ v ∧ v ≤ 2147483647) (rem32_b _ _ (by omega)) (fun r34 er34 br34 => ?_)
    refine Tr.icmp_ge (pc := 35) (tgt := 42) d_X1_part_35 rfl (fun c35 => ?_) (fun c35 => ?_)
    · refine Tr.iconst (pc := 42) d_X1_part_42 (by decide) ?_
      refine Tr.iadd (pc := 43) d_X1_part_43 ?_
      refine Tr.tp r28 ((w32_id (by omega)).trans (by omega)) ?_
      exact Tr.iret (pc := 44) d_X1_part_44 rfl ⟨hS, _, rfl, by omega, by omega⟩
    · refine Tr.iconst (pc := 38) d_X1_part_38 (by decide) ?_
      refine Tr.goto (pc := 39) (tgt := 43) d_X1_part_39 rfl ?_
      refine Tr.iadd (pc := 43) d_X1_part_43 ?_
      refine Tr.gen (P := fun v => (-2147483648) ≤ v ∧ v ≤ 2147483647) (w32_b _) (fun r43 er43 br43 => ?_)
      exact Tr.iret (pc := 44) d_X1_part_44 rfl ⟨hS, _, rfl, by omega, by omega⟩
  · refine Tr.iconst (pc := 23) d_X1_part_23 (by decide) ?_
    exact Tr.iret (pc := 24) d_X1_part_24 rfl ⟨hS, _, rfl, by omega, by omega⟩

def ws_X1_paysInParts_56 : List (Int × Int) := []
def as_X1_paysInParts_56 : List Int := []
def q_X1_paysInParts_56 (M0 M' : Mem) (r : Option PV) : Prop := St Tru ws_X1_paysInParts_56 as_X1_paysInParts_56 M0 M' ∧ ∃ v : Int, r = some (0, v) ∧ (-2147483648) ≤ v ∧ v ≤ 2147483647
set_option maxRecDepth 100000 in
set_option maxHeartbeats 4000000 in
theorem sp_X1_paysInParts_56 {l : Launch} {K : EC} {M0 : Mem} (hI : In Tru M0) (en_56_1 : rd M0 56 1 = 7) (a1 : Int) (ha1 : 0 ≤ a1 ∧ a1 ≤ 59)  : Tr l K 2 mX1_paysInParts 0 [(0, (2, 56)), (1, (0, a1))] [] M0 (q_X1_paysInParts_56 M0) := by
  have hS : St Tru ws_X1_paysInParts_56 as_X1_paysInParts_56 M0 M0 := St.rf hI
  obtain ⟨g63_1, eg63_1⟩ : ∃ v, rd M0 63 1 = v := ⟨_, rfl⟩
  have bg63_1 : (-1000000000) ≤ g63_1 ∧ g63_1 ≤ 1000000000 := by rw [← eg63_1]; exact ir_63_1 hI.2.1
  obtain ⟨g63_0, eg63_0⟩ : ∃ v, rd M0 63 0 = v := ⟨_, rfl⟩
  have bg63_0 : (-2147483648) ≤ g63_0 ∧ g63_0 ≤ 2147483647 := by rw [← eg63_0]; exact ir_63_0 hI.2.1
  refine Tr.aload_n (pc := 0) (i := 0) d_X1_paysInParts_0 rfl rfl ?_
  refine Tr.getf (pc := 1) d_X1_paysInParts_1 f_1_21 (by decide) (by decide) (ty_56 hS.1.1) ?_
  refine Tr.tp 60 (fx_56_5 hS.1.1) ?_
  refine Tr.iload_n (pc := 4) (i := 1) d_X1_paysInParts_4 rfl rfl ?_
  refine Tr.iald (pc := 5) d_X1_paysInParts_5 (ty_60 hS.1.1) (by omega) (by omega) ?_
  refine Tr.gen (P := fun v => (-2147483648) ≤ v ∧ v ≤ 2147483647) (ar_60 hS.1.2.1 _) (fun r5 er5 br5 => ?_)
  refine Tr.istore_n (pc := 6) (i := 2) (ls2 := [(2, (0, r5)), (0, (2, 56)), (1, (0, a1))]) d_X1_paysInParts_6 rfl (by decide) rfl ?_
  refine Tr.iconst (pc := 7) d_X1_paysInParts_7 (by decide) ?_
  refine Tr.istore_n (pc := 8) (i := 3) (ls2 := [(3, (0, 0)), (2, (0, r5)), (0, (2, 56)), (1, (0, a1))]) d_X1_paysInParts_8 rfl (by decide) rfl ?_
  have J9 : ∀ (n9 : Nat) (M : Mem) (p9_2 p9_3 : Int), St Tru ws_X1_paysInParts_56 as_X1_paysInParts_56 M0 M → ((-2147483648) ≤ p9_2 ∧ p9_2 ≤ 2147483647) → (0 ≤ p9_3 ∧ p9_3 ≤ 2016) → rd M 60 a1 = r5 → rd M 63 0 = g63_0 → rd M 63 1 = g63_1 → (2016 - p9_3).toNat < n9 → Tr l K 2 mX1_paysInParts 9 [(0, (2, 56)), (1, (0, a1)), (2, (0, p9_2)), (3, (0, p9_3))] [] M (q_X1_paysInParts_56 M0) := by
    intro n9
    induction n9 with
    | zero => intro M p9_2 p9_3 hS bp9_2 bp9_3 k9_60_a110 k9_63_0 k9_63_1 hm9; exact absurd hm9 (Nat.not_lt_zero _)
    | succ n9 J9 =>
      intro M p9_2 p9_3 hS bp9_2 bp9_3 k9_60_a110 k9_63_0 k9_63_1 hm9
      refine Tr.iload_n (pc := 9) (i := 3) d_X1_paysInParts_9 rfl rfl ?_
      refine Tr.aload_n (pc := 10) (i := 0) d_X1_paysInParts_10 rfl rfl ?_
      refine Tr.getf (pc := 11) d_X1_paysInParts_11 f_1_33 (by decide) (by decide) (ty_56 hS.1.1) ?_
      refine Tr.tp 63 (fx_56_8 hS.1.1) ?_
      refine Tr.getf (pc := 14) d_X1_paysInParts_14 f_1_94 (by decide) (by decide) (ty_63 hS.1.1) ?_
      refine Tr.tp g63_0 k9_63_0 ?_
      refine Tr.icmp_ge (pc := 17) (tgt := 95) d_X1_paysInParts_17 rfl (fun c17 => ?_) (fun c17 => ?_)
      · refine Tr.iload_n (pc := 95) (i := 2) d_X1_paysInParts_95 rfl rfl ?_
        exact Tr.iret (pc := 96) d_X1_paysInParts_96 rfl ⟨hS, _, rfl, by omega, by omega⟩
      · refine Tr.aload_n (pc := 20) (i := 0) d_X1_paysInParts_20 rfl rfl ?_
        refine Tr.getf (pc := 21) d_X1_paysInParts_21 f_1_33 (by decide) (by decide) (ty_56 hS.1.1) ?_
        refine Tr.tp 63 (fx_56_8 hS.1.1) ?_
        refine Tr.getf (pc := 24) d_X1_paysInParts_24 f_1_97 (by decide) (by decide) (ty_63 hS.1.1) ?_
        refine Tr.gen (P := fun v => v = tref g63_1 5) (tl_ref hS k9_63_1 (by decide)) (fun t24 et24 bt24 => ?_)
        refine Tr.iload_n (pc := 27) (i := 3) d_X1_paysInParts_27 rfl rfl ?_
        have nk28_0 : rd M 63 0 = g63_0 := k9_63_0
        have nn28 := tl_n hS k9_63_1
        refine Tr.lald (pc := 28) d_X1_paysInParts_28 (tl_tyL hS k9_63_1 bt24) (by omega) (by omega) ?_
        refine Tr.gen (P := fun v => (-9223372036854775808) ≤ v ∧ v ≤ 9223372036854775807) (tl_eL hS k9_63_1 bt24 (by omega) (by omega)) (fun r28 er28 br28 => ?_)
        refine Tr.iload_n (pc := 29) (i := 1) d_X1_paysInParts_29 rfl rfl ?_
        refine Tr.lshr (pc := 30) d_X1_paysInParts_30 ?_
        refine Tr.gen (P := fun v => (-9223372036854775808) ≤ v ∧ v ≤ 9223372036854775807) (i64_b _) (fun r30 er30 br30 => ?_)
        refine Tr.lconst (pc := 31) (v := 1) d_X1_paysInParts_31 rfl (by decide) ?_
        refine Tr.land (pc := 32) d_X1_paysInParts_32 ?_
        refine Tr.gen (P := fun v => v = r30 % 2 ∧ (0 ≤ v ∧ v ≤ 1)) ⟨(f_land_1 _).1, (f_land_1 _).2⟩ (fun r32 er32 br32 => ?_)
        refine Tr.lconst (pc := 33) (v := 1) d_X1_paysInParts_33 rfl (by decide) ?_
        refine Tr.lcmp (pc := 34) d_X1_paysInParts_34 ?_
        refine Tr.gen (P := fun v => (v = 1 ∧ 1 < r32) ∨ (v = 0 ∧ r32 = 1) ∨ (v = -1 ∧ r32 < 1)) (f_lcmp_c _ _) (fun r34 er34 br34 => ?_)
        have J89 : ∀ (M : Mem) (p89_2 : Int), St Tru ws_X1_paysInParts_56 as_X1_paysInParts_56 M0 M → ((-2147483648) ≤ p89_2 ∧ p89_2 ≤ 2147483647) → rd M 60 a1 = r5 → rd M 63 0 = g63_0 → rd M 63 1 = g63_1 → Tr l K 2 mX1_paysInParts 89 [(0, (2, 56)), (1, (0, a1)), (2, (0, p89_2)), (3, (0, p9_3))] [] M (q_X1_paysInParts_56 M0) := by
          intro M p89_2 hS bp89_2 k89_60_a110 k89_63_0 k89_63_1
          refine Tr.iincV (pc := 89) (n2 := (p9_3 + 1)) (ls2 := [(3, (0, (p9_3 + 1))), (0, (2, 56)), (1, (0, a1)), (2, (0, p89_2))]) d_X1_paysInParts_89 rfl (by decide) ((w32_id (by omega)).trans (by omega)) rfl ?_
          refine Tr.goto (pc := 92) (tgt := 9) d_X1_paysInParts_92 rfl ?_
          refine Tr.pick [1, 2, 3, 0] (ls2 := [(0, (2, 56)), (1, (0, a1)), (2, (0, p89_2)), (3, (0, (p9_3 + 1)))]) rfl ?_
          exact J9 _ _ _ hS (by omega) (by omega) k89_60_a110 k89_63_0 k89_63_1 (by omega)
        refine Tr.if_ne (pc := 35) (tgt := 89) d_X1_paysInParts_35 rfl (fun c35 => ?_) (fun c35 => ?_)
        · refine Tr.pick [0, 1, 2, 3] (ls2 := [(0, (2, 56)), (1, (0, a1)), (2, (0, p9_2)), (3, (0, p9_3))]) rfl ?_
          exact J89 _ _ hS (by omega) k9_60_a110 k9_63_0 k9_63_1
        · refine Tr.aload_n (pc := 38) (i := 0) d_X1_paysInParts_38 rfl rfl ?_
          refine Tr.getf (pc := 39) d_X1_paysInParts_39 f_1_33 (by decide) (by decide) (ty_56 hS.1.1) ?_
          refine Tr.tp 63 (fx_56_8 hS.1.1) ?_
          refine Tr.getf (pc := 42) d_X1_paysInParts_42 f_1_101 (by decide) (by decide) (ty_63 hS.1.1) ?_
          refine Tr.gen (P := fun v => v = tref g63_1 4) (tl_ref hS k9_63_1 (by decide)) (fun t42 et42 bt42 => ?_)
          refine Tr.iload_n (pc := 45) (i := 3) d_X1_paysInParts_45 rfl rfl ?_
          have nk46_0 : rd M 63 0 = g63_0 := k9_63_0
          have nn46 := tl_n hS k9_63_1
          refine Tr.iald (pc := 46) d_X1_paysInParts_46 (tl_tyI hS k9_63_1 (j := 4) (by decide) (by decide) bt42) (by omega) (by omega) ?_
          refine Tr.gen (P := fun v => (-2147483648) ≤ v ∧ v ≤ 2147483647) (tl_eI hS k9_63_1 (j := 4) (by decide) (by decide) bt42 (by omega) (by omega)) (fun r46 er46 br46 => ?_)
          refine Tr.aload_n (pc := 47) (i := 0) d_X1_paysInParts_47 rfl rfl ?_
          refine Tr.getf (pc := 48) d_X1_paysInParts_48 f_1_41 (by decide) (by decide) (ty_56 hS.1.1) ?_
          refine Tr.tp 7 ((St.kp hS (by decide) (by decide) (by decide)).trans en_56_1) ?_
          refine Tr.getf (pc := 51) d_X1_paysInParts_51 f_1_71 (by decide) (by decide) (ty_7 hS.1.1) ?_
          refine Tr.tp 9 (fx_7_5 hS.1.1) ?_
          refine Tr.aload_n (pc := 54) (i := 0) d_X1_paysInParts_54 rfl rfl ?_
          refine Tr.getf (pc := 55) d_X1_paysInParts_55 f_1_33 (by decide) (by decide) (ty_56 hS.1.1) ?_
          refine Tr.tp 63 (fx_56_8 hS.1.1) ?_
          refine Tr.getf (pc := 58) d_X1_paysInParts_58 f_1_104 (by decide) (by decide) (ty_63 hS.1.1) ?_
          refine Tr.gen (P := fun v => v = tref g63_1 1) (tl_ref hS k9_63_1 (by decide)) (fun t58 et58 bt58 => ?_)
          refine Tr.iload_n (pc := 61) (i := 3) d_X1_paysInParts_61 rfl rfl ?_
          have nk62_0 : rd M 63 0 = g63_0 := k9_63_0
          have nn62 := tl_n hS k9_63_1
          refine Tr.iald (pc := 62) d_X1_paysInParts_62 (tl_tyI hS k9_63_1 (j := 1) (by decide) (by decide) bt58) (by omega) (by omega) ?_
          refine Tr.gen (P := fun v => 0 ≤ v ∧ v ≤ 5) (tl_eP hS k9_63_1 (j := 1) (by decide) (by decide) bt58 (by omega) (by omega)) (fun r62 er62 br62 => ?_)
          refine Tr.iconst (pc := 63) d_X1_paysInParts_63 (by decide) ?_
          refine Tr.imul (pc := 64) d_X1_paysInParts_64 ?_
          refine Tr.tp (4 * r62) ((w32_id (by omega)).trans (by omega)) ?_
          refine Tr.iconst (pc := 65) d_X1_paysInParts_65 (by decide) ?_
          refine Tr.iadd (pc := 66) d_X1_paysInParts_66 ?_
          refine Tr.tp (4 * r62 + 2) ((w32_id (by omega)).trans (by omega)) ?_
          refine Tr.iald (pc := 67) d_X1_paysInParts_67 (ty_9 hS.1.1) (by omega) (by omega) ?_
          refine Tr.gen (P := fun v => (-1) ≤ v ∧ v ≤ 999) (ar_9 hS.1.2.1 _) (fun r67 er67 br67 => ?_)
          refine Tr.imul (pc := 68) d_X1_paysInParts_68 ?_
          refine Tr.gen (P := fun v => (-2147483648) ≤ v ∧ v ≤ 2147483647) (w32_b _) (fun r68 er68 br68 => ?_)
          refine Tr.istore (pc := 69) (i := 4) (ls2 := [(4, (0, r68)), (0, (2, 56)), (1, (0, a1)), (2, (0, p9_2)), (3, (0, p9_3))]) d_X1_paysInParts_69 (by decide) rfl ?_
          refine Tr.iload_n (pc := 71) (i := 2) d_X1_paysInParts_71 rfl rfl ?_
          refine Tr.iload (pc := 72) (i := 4) d_X1_paysInParts_72 rfl ?_
          refine Tr.aload_n (pc := 74) (i := 0) d_X1_paysInParts_74 rfl rfl ?_
          refine Tr.getf (pc := 75) d_X1_paysInParts_75 f_1_33 (by decide) (by decide) (ty_56 hS.1.1) ?_
          refine Tr.tp 63 (fx_56_8 hS.1.1) ?_
          refine Tr.getf (pc := 78) d_X1_paysInParts_78 f_1_97 (by decide) (by decide) (ty_63 hS.1.1) ?_
          refine Tr.gen (P := fun v => v = tref g63_1 5) (tl_ref hS k9_63_1 (by decide)) (fun t78 et78 bt78 => ?_)
          refine Tr.iload_n (pc := 81) (i := 3) d_X1_paysInParts_81 rfl rfl ?_
          have nk82_0 : rd M 63 0 = g63_0 := k9_63_0
          have nn82 := tl_n hS k9_63_1
          refine Tr.lald (pc := 82) d_X1_paysInParts_82 (tl_tyL hS k9_63_1 bt78) (by omega) (by omega) ?_
          refine Tr.gen (P := fun v => (-9223372036854775808) ≤ v ∧ v ≤ 9223372036854775807) (tl_eL hS k9_63_1 bt78 (by omega) (by omega)) (fun r82 er82 br82 => ?_)
          refine Tr.iload_n (pc := 83) (i := 1) d_X1_paysInParts_83 rfl rfl ?_
          refine Tr.callS (pc := 84) (as := [_, _, _]) d_X1_paysInParts_84 s_1_107 ok_X1_part rfl rfl (Nat.le_of_ble_eq_true rfl) (Nat.le_of_ble_eq_true rfl) ?_
          refine Tr.imp (Tr.deep (by decide) (sp_X1_part hS.1 r68 (by omega) r82 (by omega) a1 (by omega))) ?_
          rintro M84 _ ⟨h84, r84, rfl, lr84, ur84⟩
          have hS := St.tr hS h84 (by decide) (by decide)
          refine Tr.sc [(0, r84), (0, p9_2)] rfl ?_
          refine Tr.iadd (pc := 87) d_X1_paysInParts_87 ?_
          refine Tr.gen (P := fun v => (-2147483648) ≤ v ∧ v ≤ 2147483647) (w32_b _) (fun r87 er87 br87 => ?_)
          refine Tr.istore_n (pc := 88) (i := 2) (ls2 := [(2, (0, r87)), (4, (0, r68)), (0, (2, 56)), (1, (0, a1)), (3, (0, p9_3))]) d_X1_paysInParts_88 rfl (by decide) rfl ?_
          refine Tr.pick [2, 3, 0, 4] (ls2 := [(0, (2, 56)), (1, (0, a1)), (2, (0, r87)), (3, (0, p9_3))]) rfl ?_
          exact J89 _ _ hS (by omega) ((St.ka h84 (by decide) (by decide) (by decide)).trans k9_60_a110) ((St.kp h84 (by decide) (by decide) (by decide)).trans k9_63_0) ((St.kp h84 (by decide) (by decide) (by decide)).trans k9_63_1)
  refine Tr.pick [2, 3, 1, 0] (ls2 := [(0, (2, 56)), (1, (0, a1)), (2, (0, r5)), (3, (0, 0))]) rfl ?_
  exact J9 _ _ _ _ hS (by omega) (by omega) er5 eg63_0 eg63_1 (Nat.lt_succ_self _)
