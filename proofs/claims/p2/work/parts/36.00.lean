def ws_X12_put_120 : List (Int × Int) := [(120, 1)]
def as_X12_put_120 : List Int := [121]
def q_X12_put_120 (a1 : Int) (M0 M' : Mem) (r : Option PV) : Prop := St Tru ws_X12_put_120 as_X12_put_120 M0 M' ∧ r = none ∧ (rd M' 120 1 = rd M0 120 1 + 4)
set_option maxRecDepth 100000 in
set_option maxHeartbeats 4000000 in
theorem sp_X12_put_120 {l : Launch} {K : EC} {M0 : Mem} (hI : In Tru M0)  (a1 : Int) (ha1 : (-2147483648) ≤ a1 ∧ a1 ≤ 2147483647)  (hq0 : rd M0 120 1 ≤ 896) : Tr l K 0 mX12_put 0 [(0, (2, 120)), (1, (0, a1))] [] M0 (q_X12_put_120 a1 M0) := by
  have hS : St Tru ws_X12_put_120 as_X12_put_120 M0 M0 := St.rf hI
  obtain ⟨g120_1, eg120_1⟩ : ∃ v, rd M0 120 1 = v := ⟨_, rfl⟩
  have bg120_1 : 0 ≤ g120_1 ∧ g120_1 ≤ 900 := by rw [← eg120_1]; exact ir_120_1 hI.2.1
  refine Tr.bipush (pc := 0) d_X12_put_0 rfl (by decide) ?_
  refine Tr.istore_n (pc := 2) (i := 2) (ls2 := [(2, (0, 24)), (0, (2, 120)), (1, (0, a1))]) d_X12_put_2 rfl (by decide) rfl ?_
  have J3 : ∀ (n3 : Nat) (M : Mem) (p3_2 u3_120_1 : Int), St Tru ws_X12_put_120 as_X12_put_120 M0 M → ((-8) ≤ p3_2 ∧ p3_2 ≤ 24) → (0 ≤ u3_120_1 ∧ u3_120_1 ≤ 900) → rd M 120 1 = u3_120_1 → (8 * u3_120_1 + p3_2 = 8 * g120_1 + 24) → (-8 ≤ p3_2 ∧ p3_2 ≤ 24) → (p3_2 = 24 ∨ p3_2 = 16 ∨ p3_2 = 8 ∨ p3_2 = 0 ∨ p3_2 = -8) → (p3_2 - (-8)).toNat < n3 → Tr l K 0 mX12_put 3 [(0, (2, 120)), (1, (0, a1)), (2, (0, p3_2))] [] M (q_X12_put_120 a1 M0) := by
    intro n3
    induction n3 with
    | zero => intro M p3_2 u3_120_1 hS bp3_2 bu3_120_1 k3_120_1 t3_0 t3_1 t3_2 hm3; exact absurd hm3 (Nat.not_lt_zero _)
    | succ n3 J3 =>
      intro M p3_2 u3_120_1 hS bp3_2 bu3_120_1 k3_120_1 t3_0 t3_1 t3_2 hm3
      refine Tr.iload_n (pc := 3) (i := 2) d_X12_put_3 rfl rfl ?_
      refine Tr.if_lt (pc := 4) (tgt := 39) d_X12_put_4 rfl (fun c4 => ?_) (fun c4 => ?_)
      · have kr_120_1 : rd M 120 1 = u3_120_1 := k3_120_1
        exact Tr.vret (pc := 39) d_X12_put_39 rfl ⟨hS, rfl, by omega⟩
      · refine Tr.aload_n (pc := 7) (i := 0) d_X12_put_7 rfl rfl ?_
        refine Tr.getf (pc := 8) d_X12_put_8 f_12_7 (by decide) (by decide) (ty_120 hS.1.1) ?_
        refine Tr.tp 121 (fx_120_0 hS.1.1) ?_
        refine Tr.aload_n (pc := 11) (i := 0) d_X12_put_11 rfl rfl ?_
        refine Tr.getf (pc := 12) d_X12_put_12 f_12_13 (by decide) (by decide) (ty_120 hS.1.1) ?_
        refine Tr.tp u3_120_1 k3_120_1 ?_
        refine Tr.iload_n (pc := 15) (i := 1) d_X12_put_15 rfl rfl ?_
        refine Tr.iload_n (pc := 16) (i := 2) d_X12_put_16 rfl rfl ?_
        refine Tr.ishr (pc := 17) d_X12_put_17 ?_
        refine Tr.gen (P := fun v => (-2147483648) ≤ v ∧ v ≤ 2147483647) (i32_b _) (fun r17 er17 br17 => ?_)
        refine Tr.sipush (pc := 18) d_X12_put_18 rfl (by decide) ?_
        refine Tr.iand (pc := 21) d_X12_put_21 ?_
        refine Tr.gen (P := fun v => 0 ≤ v ∧ v ≤ 255) (f_iand_m 8 (by decide +kernel) (by decide) (by decide +kernel)) (fun r21 er21 br21 => ?_)
        refine Tr.iastS (pc := 22) (P := St Tru ws_X12_put_120 as_X12_put_120 M0) d_X12_put_22 (ty_121 hS.1.1) (by omega) (by omega) (sa_121 hS (by decide) (by omega) trivial) (fun M22 hS w22 => ?_)
        refine Tr.aload_n (pc := 23) (i := 0) d_X12_put_23 rfl rfl ?_
        refine Tr.dup (pc := 24) d_X12_put_24 ne21 ?_
        refine Tr.getf (pc := 25) d_X12_put_25 f_12_13 (by decide) (by decide) (ty_120 hS.1.1) ?_
        refine Tr.tp u3_120_1 ((Wr.b w22 rfl).trans k3_120_1) ?_
        refine Tr.iconst (pc := 28) d_X12_put_28 (by decide) ?_
        refine Tr.iadd (pc := 29) d_X12_put_29 ?_
        refine Tr.tp (u3_120_1 + 1) ((w32_id (by omega)).trans (by omega)) ?_
        refine Tr.putfS (pc := 30) (P := St Tru ws_X12_put_120 as_X12_put_120 M0) d_X12_put_30 f_12_13 (by decide) (by decide) (ty_120 hS.1.1) (st_120_1 hS (by decide) (by omega) trivial) (fun M30 hS w30 => ?_)
        refine Tr.iincV (pc := 33) (n2 := (p3_2 - 8)) (ls2 := [(2, (0, (p3_2 - 8))), (0, (2, 120)), (1, (0, a1))]) d_X12_put_33 rfl (by decide) ((w32_id (by omega)).trans (by omega)) rfl ?_
        refine Tr.goto (pc := 36) (tgt := 3) d_X12_put_36 rfl ?_
        refine Tr.pick [1, 2, 0] (ls2 := [(0, (2, 120)), (1, (0, a1)), (2, (0, (p3_2 - 8)))]) rfl ?_
        exact J3 _ _ _ hS (by omega) (by omega) w30.1 (by omega) (by omega) (by first | assumption | omega) (by omega)
  refine Tr.pick [1, 2, 0] (ls2 := [(0, (2, 120)), (1, (0, a1)), (2, (0, 24))]) rfl ?_
  exact J3 _ _ _ _ hS (by omega) (by omega) eg120_1 (by omega) (by omega) (by first | assumption | omega) (Nat.lt_succ_self _)

def ws_X12_feed_120 : List (Int × Int) := [(120, 1)]
def as_X12_feed_120 : List Int := [121]
def q_X12_feed_120 (a1 : Int) (a2 : Int) (a3 : Int) (a4 : Int) (a5 : Int) (M0 M' : Mem) (r : Option PV) : Prop := St Tru ws_X12_feed_120 as_X12_feed_120 M0 M' ∧ ∃ v : Int, r = some (0, v) ∧ (-1) ≤ v ∧ v ≤ 900 ∧ ((v = -1 ∧ rd M' 120 1 = rd M0 120 1 ∧ 880 < rd M0 120 1) ∨ (v = rd M' 120 1 ∧ rd M' 120 1 = rd M0 120 1 + 20 ∧ rd M0 120 1 ≤ 880))
set_option maxRecDepth 100000 in
set_option maxHeartbeats 4000000 in
theorem sp_X12_feed_120 {l : Launch} {K : EC} {M0 : Mem} (hI : In Tru M0)  (a1 : Int) (ha1 : (-2147483648) ≤ a1 ∧ a1 ≤ 2147483647) (a2 : Int) (ha2 : (-2147483648) ≤ a2 ∧ a2 ≤ 2147483647) (a3 : Int) (ha3 : (-2147483648) ≤ a3 ∧ a3 ≤ 2147483647) (a4 : Int) (ha4 : (-2147483648) ≤ a4 ∧ a4 ≤ 2147483647) (a5 : Int) (ha5 : (-2147483648) ≤ a5 ∧ a5 ≤ 2147483647)  : Tr l K 1 mX12_feed 0 [(0, (2, 120)), (1, (0, a1)), (2, (0, a2)), (3, (0, a3)), (4, (0, a4)), (5, (0, a5))] [] M0 (q_X12_feed_120 a1 a2 a3 a4 a5 M0) := by
  have hS : St Tru ws_X12_feed_120 as_X12_feed_120 M0 M0 := St.rf hI
  obtain ⟨g120_1, eg120_1⟩ : ∃ v, rd M0 120 1 = v := ⟨_, rfl⟩
  have bg120_1 : 0 ≤ g120_1 ∧ g120_1 ≤ 900 := by rw [← eg120_1]; exact ir_120_1 hI.2.1
  refine Tr.aload_n (pc := 0) (i := 0) d_X12_feed_0 rfl rfl ?_
  refine Tr.getf (pc := 1) d_X12_feed_1 f_12_13 (by decide) (by decide) (ty_120 hS.1.1) ?_
  refine Tr.tp g120_1 eg120_1 ?_
  refine Tr.bipush (pc := 4) d_X12_feed_4 rfl (by decide) ?_
  refine Tr.iadd (pc := 6) d_X12_feed_6 ?_
  refine Tr.tp (g120_1 + 20) ((w32_id (by omega)).trans (by omega)) ?_
  refine Tr.sipush (pc := 7) d_X12_feed_7 rfl (by decide) ?_
  refine Tr.icmp_le (pc := 10) (tgt := 15) d_X12_feed_10 rfl (fun c10 => ?_) (fun c10 => ?_)
  · refine Tr.aload_n (pc := 15) (i := 0) d_X12_feed_15 rfl rfl ?_
    refine Tr.iload_n (pc := 16) (i := 1) d_X12_feed_16 rfl rfl ?_
    refine Tr.callV (pc := 17) (as := [_]) d_X12_feed_17 s_12_378 ok_X12_put rfl rfl (Nat.le_of_ble_eq_true rfl) (Nat.le_of_ble_eq_true rfl) (by decide) (ty_120 hS.1.1) ?_
    have kb17_120_1 : rd M0 120 1 = g120_1 := eg120_1
    refine Tr.imp (Tr.deep (by decide) (sp_X12_put_120 hS.1 a1 (by omega) (by omega))) ?_
    rintro M17 _ ⟨h17, rfl, z17_0⟩
    have hS := St.tr hS h17 (by decide) (by decide)
    obtain ⟨s17_120_1, es17_120_1⟩ : ∃ v, rd M17 120 1 = v := ⟨_, rfl⟩
    have bs17_120_1 : 0 ≤ s17_120_1 ∧ s17_120_1 ≤ 900 := by rw [← es17_120_1]; exact ir_120_1 hS.1.2.1
    refine Tr.sc [] rfl ?_
    refine Tr.aload_n (pc := 20) (i := 0) d_X12_feed_20 rfl rfl ?_
    refine Tr.iload_n (pc := 21) (i := 2) d_X12_feed_21 rfl rfl ?_
    refine Tr.callV (pc := 22) (as := [_]) d_X12_feed_22 s_12_378 ok_X12_put rfl rfl (Nat.le_of_ble_eq_true rfl) (Nat.le_of_ble_eq_true rfl) (by decide) (ty_120 hS.1.1) ?_
    have kb22_120_1 : rd M17 120 1 = s17_120_1 := es17_120_1
    refine Tr.imp (Tr.deep (by decide) (sp_X12_put_120 hS.1 a2 (by omega) (by omega))) ?_
    rintro M22 _ ⟨h22, rfl, z22_0⟩
    have hS := St.tr hS h22 (by decide) (by decide)
    obtain ⟨s22_120_1, es22_120_1⟩ : ∃ v, rd M22 120 1 = v := ⟨_, rfl⟩
    have bs22_120_1 : 0 ≤ s22_120_1 ∧ s22_120_1 ≤ 900 := by rw [← es22_120_1]; exact ir_120_1 hS.1.2.1
    refine Tr.sc [] rfl ?_
    refine Tr.aload_n (pc := 25) (i := 0) d_X12_feed_25 rfl rfl ?_
    refine Tr.iload_n (pc := 26) (i := 3) d_X12_feed_26 rfl rfl ?_
    refine Tr.callV (pc := 27) (as := [_]) d_X12_feed_27 s_12_378 ok_X12_put rfl rfl (Nat.le_of_ble_eq_true rfl) (Nat.le_of_ble_eq_true rfl) (by decide) (ty_120 hS.1.1) ?_
    have kb27_120_1 : rd M22 120 1 = s22_120_1 := es22_120_1
    refine Tr.imp (Tr.deep (by decide) (sp_X12_put_120 hS.1 a3 (by omega) (by omega))) ?_
    rintro M27 _ ⟨h27, rfl, z27_0⟩
    have hS := St.tr hS h27 (by decide) (by decide)
    obtain ⟨s27_120_1, es27_120_1⟩ : ∃ v, rd M27 120 1 = v := ⟨_, rfl⟩
    have bs27_120_1 : 0 ≤ s27_120_1 ∧ s27_120_1 ≤ 900 := by rw [← es27_120_1]; exact ir_120_1 hS.1.2.1
    refine Tr.sc [] rfl ?_
    refine Tr.aload_n (pc := 30) (i := 0) d_X12_feed_30 rfl rfl ?_
    refine Tr.iload (pc := 31) (i := 4) d_X12_feed_31 rfl ?_
    refine Tr.callV (pc := 33) (as := [_]) d_X12_feed_33 s_12_378 ok_X12_put rfl rfl (Nat.le_of_ble_eq_true rfl) (Nat.le_of_ble_eq_true rfl) (by decide) (ty_120 hS.1.1) ?_
    have kb33_120_1 : rd M27 120 1 = s27_120_1 := es27_120_1
    refine Tr.imp (Tr.deep (by decide) (sp_X12_put_120 hS.1 a4 (by omega) (by omega))) ?_
    rintro M33 _ ⟨h33, rfl, z33_0⟩
    have hS := St.tr hS h33 (by decide) (by decide)
    obtain ⟨s33_120_1, es33_120_1⟩ : ∃ v, rd M33 120 1 = v := ⟨_, rfl⟩
    have bs33_120_1 : 0 ≤ s33_120_1 ∧ s33_120_1 ≤ 900 := by rw [← es33_120_1]; exact ir_120_1 hS.1.2.1
    refine Tr.sc [] rfl ?_
    refine Tr.aload_n (pc := 36) (i := 0) d_X12_feed_36 rfl rfl ?_
    refine Tr.iload (pc := 37) (i := 5) d_X12_feed_37 rfl ?_
    refine Tr.callV (pc := 39) (as := [_]) d_X12_feed_39 s_12_378 ok_X12_put rfl rfl (Nat.le_of_ble_eq_true rfl) (Nat.le_of_ble_eq_true rfl) (by decide) (ty_120 hS.1.1) ?_
    have kb39_120_1 : rd M33 120 1 = s33_120_1 := es33_120_1
    refine Tr.imp (Tr.deep (by decide) (sp_X12_put_120 hS.1 a5 (by omega) (by omega))) ?_
    rintro M39 _ ⟨h39, rfl, z39_0⟩
    have hS := St.tr hS h39 (by decide) (by decide)
    obtain ⟨s39_120_1, es39_120_1⟩ : ∃ v, rd M39 120 1 = v := ⟨_, rfl⟩
    have bs39_120_1 : 0 ≤ s39_120_1 ∧ s39_120_1 ≤ 900 := by rw [← es39_120_1]; exact ir_120_1 hS.1.2.1
    refine Tr.sc [] rfl ?_
    refine Tr.aload_n (pc := 42) (i := 0) d_X12_feed_42 rfl rfl ?_
    refine Tr.getf (pc := 43) d_X12_feed_43 f_12_13 (by decide) (by decide) (ty_120 hS.1.1) ?_
    refine Tr.tp s39_120_1 es39_120_1 ?_
    have kr_120_1 : rd M39 120 1 = s39_120_1 := es39_120_1
    exact Tr.iret (pc := 46) d_X12_feed_46 rfl ⟨hS, _, rfl, by omega, by omega, by omega⟩
  · refine Tr.iconst (pc := 13) d_X12_feed_13 (by decide) ?_
    have kr_120_1 : rd M0 120 1 = g120_1 := eg120_1
    exact Tr.iret (pc := 14) d_X12_feed_14 rfl ⟨hS, _, rfl, by omega, by omega, by omega⟩

def ws_X12_end_120 : List (Int × Int) := [(120, 1)]
def as_X12_end_120 : List Int := []
def q_X12_end_120 (a1 : Int) (M0 M' : Mem) (r : Option PV) : Prop := St Tru ws_X12_end_120 as_X12_end_120 M0 M' ∧ ∃ v : Int, r = some (0, v) ∧ 0 ≤ v ∧ v ≤ 1 ∧ ((v = 1 ∧ rd M' 120 1 = a1 ∧ 0 ≤ a1 ∧ a1 ≤ rd M0 120 1) ∨ (v = 0 ∧ rd M' 120 1 = rd M0 120 1 ∧ (a1 < 0 ∨ rd M0 120 1 < a1)))
set_option maxRecDepth 100000 in
set_option maxHeartbeats 4000000 in
theorem sp_X12_end_120 {l : Launch} {K : EC} {M0 : Mem} (hI : In Tru M0)  (a1 : Int) (ha1 : (-2147483648) ≤ a1 ∧ a1 ≤ 2147483647)  : Tr l K 0 mX12_end 0 [(0, (2, 120)), (1, (0, a1))] [] M0 (q_X12_end_120 a1 M0) := by
  have hS : St Tru ws_X12_end_120 as_X12_end_120 M0 M0 := St.rf hI
  obtain ⟨g120_1, eg120_1⟩ : ∃ v, rd M0 120 1 = v := ⟨_, rfl⟩
  have bg120_1 : 0 ≤ g120_1 ∧ g120_1 ≤ 900 := by rw [← eg120_1]; exact ir_120_1 hI.2.1
  refine Tr.iload_n (pc := 0) (i := 1) d_X12_end_0 rfl rfl ?_
  refine Tr.if_lt (pc := 1) (tgt := 12) d_X12_end_1 rfl (fun c1 => ?_) (fun c1 => ?_)
  · refine Tr.iconst (pc := 12) d_X12_end_12 (by decide) ?_
    have kr_120_1 : rd M0 120 1 = g120_1 := eg120_1
    exact Tr.zret (pc := 13) d_X12_end_13 rfl (by omega) ⟨hS, _, rfl, by omega, by omega, by omega⟩
  · refine Tr.iload_n (pc := 4) (i := 1) d_X12_end_4 rfl rfl ?_
    refine Tr.aload_n (pc := 5) (i := 0) d_X12_end_5 rfl rfl ?_
    refine Tr.getf (pc := 6) d_X12_end_6 f_12_13 (by decide) (by decide) (ty_120 hS.1.1) ?_
    refine Tr.tp g120_1 eg120_1 ?_
    refine Tr.icmp_le (pc := 9) (tgt := 14) d_X12_end_9 rfl (fun c9 => ?_) (fun c9 => ?_)
    · refine Tr.aload_n (pc := 14) (i := 0) d_X12_end_14 rfl rfl ?_
      refine Tr.iload_n (pc := 15) (i := 1) d_X12_end_15 rfl rfl ?_
      refine Tr.putfS (pc := 16) (P := St Tru ws_X12_end_120 as_X12_end_120 M0) d_X12_end_16 f_12_13 (by decide) (by decide) (ty_120 hS.1.1) (st_120_1 hS (by decide) (by omega) trivial) (fun M16 hS w16 => ?_)
      refine Tr.iconst (pc := 19) d_X12_end_19 (by decide) ?_
      have kr_120_1 : rd M16 120 1 = a1 := w16.1
      exact Tr.zret (pc := 20) d_X12_end_20 rfl (by omega) ⟨hS, _, rfl, by omega, by omega, by omega⟩
    · refine Tr.iconst (pc := 12) d_X12_end_12 (by decide) ?_
      have kr_120_1 : rd M0 120 1 = g120_1 := eg120_1
      exact Tr.zret (pc := 13) d_X12_end_13 rfl (by omega) ⟨hS, _, rfl, by omega, by omega, by omega⟩

def ws_X12_fault_120 : List (Int × Int) := []
def as_X12_fault_120 : List Int := []
def q_X12_fault_120 (M0 M' : Mem) (r : Option PV) : Prop := St Tru ws_X12_fault_120 as_X12_fault_120 M0 M' ∧ ∃ v : Int, r = some (0, v) ∧ (-2147483648) ≤ v ∧ v ≤ 2147483647
set_option maxRecDepth 100000 in
set_option maxHeartbeats 4000000 in
theorem sp_X12_fault_120 {l : Launch} {K : EC} {M0 : Mem} (hI : In Tru M0)  (a1 : Int) (ha1 : (-2147483648) ≤ a1 ∧ a1 ≤ 2147483647)  : Tr l K 0 mX12_fault 0 [(0, (2, 120)), (1, (0, a1))] [] M0 (q_X12_fault_120 M0) := by
  have hS : St Tru ws_X12_fault_120 as_X12_fault_120 M0 M0 := St.rf hI
  refine Tr.iload_n (pc := 0) (i := 1) d_X12_fault_0 rfl rfl ?_
  refine Tr.if_ne (pc := 1) (tgt := 11) d_X12_fault_1 rfl (fun c1 => ?_) (fun c1 => ?_)
  · refine Tr.iload_n (pc := 11) (i := 1) d_X12_fault_11 rfl rfl ?_
    refine Tr.iconst (pc := 12) d_X12_fault_12 (by decide) ?_
    refine Tr.icmp_ne (pc := 13) (tgt := 23) d_X12_fault_13 rfl (fun c13 => ?_) (fun c13 => ?_)
    · refine Tr.iconst (pc := 23) d_X12_fault_23 (by decide) ?_
      exact Tr.iret (pc := 24) d_X12_fault_24 rfl ⟨hS, _, rfl, by omega, by omega⟩
    · refine Tr.aload_n (pc := 16) (i := 0) d_X12_fault_16 rfl rfl ?_
      refine Tr.getf (pc := 17) d_X12_fault_17 f_12_45 (by decide) (by decide) (ty_120 hS.1.1) ?_
      refine Tr.gen (P := fun v => (-2147483648) ≤ v ∧ v ≤ 2147483647) (ir_120_11 hS.1.2.1) (fun r17 er17 br17 => ?_)
      refine Tr.goto (pc := 20) (tgt := 24) d_X12_fault_20 rfl ?_
      exact Tr.iret (pc := 24) d_X12_fault_24 rfl ⟨hS, _, rfl, by omega, by omega⟩
  · refine Tr.aload_n (pc := 4) (i := 0) d_X12_fault_4 rfl rfl ?_
    refine Tr.getf (pc := 5) d_X12_fault_5 f_12_42 (by decide) (by decide) (ty_120 hS.1.1) ?_
    refine Tr.gen (P := fun v => (-2147483648) ≤ v ∧ v ≤ 2147483647) (ir_120_10 hS.1.2.1) (fun r5 er5 br5 => ?_)
    refine Tr.goto (pc := 8) (tgt := 24) d_X12_fault_8 rfl ?_
    exact Tr.iret (pc := 24) d_X12_fault_24 rfl ⟨hS, _, rfl, by omega, by omega⟩

def ws_X12_has_120 : List (Int × Int) := []
def as_X12_has_120 : List Int := []
def q_X12_has_120 (M0 M' : Mem) (r : Option PV) : Prop := St Tru ws_X12_has_120 as_X12_has_120 M0 M' ∧ ∃ v : Int, r = some (0, v) ∧ (-1) ≤ v ∧ v ≤ 60
set_option maxRecDepth 100000 in
set_option maxHeartbeats 4000000 in
theorem sp_X12_has_120 {l : Launch} {K : EC} {M0 : Mem} (hI : In Tru M0) (en_120_12 : rd M0 120 12 = 0) (a1 : Int) (ha1 : (-2147483648) ≤ a1 ∧ a1 ≤ 2147483647)  : Tr l K 0 mX12_has 0 [(0, (2, 120)), (1, (0, a1))] [] M0 (q_X12_has_120 M0) := by
  have hS : St Tru ws_X12_has_120 as_X12_has_120 M0 M0 := St.rf hI
  refine Tr.iload_n (pc := 0) (i := 1) d_X12_has_0 rfl rfl ?_
  rcases (show (a1 < 0 ∨ 5 < a1) ∨ a1 = 0 ∨ a1 = 1 ∨ a1 = 2 ∨ a1 = 3 ∨ a1 = 4 ∨ a1 = 5 by omega) with c1 | c1 | c1 | c1 | c1 | c1 | c1
  · refine Tr.tswOut (pc := 1) (tgt := 90) d_X12_has_1 c1 rfl ?_
    refine Tr.iconst (pc := 90) d_X12_has_90 (by decide) ?_
    exact Tr.iret (pc := 91) d_X12_has_91 rfl ⟨hS, _, rfl, by omega, by omega⟩
  · refine Tr.tp 0 c1 ?_
    refine Tr.tswIn (pc := 1) (off := 39) (tgt := 40) d_X12_has_1 (by decide) (by decide) rfl rfl ?_
    refine Tr.aload_n (pc := 40) (i := 0) d_X12_has_40 rfl rfl ?_
    refine Tr.getf (pc := 41) d_X12_has_41 f_12_63 (by decide) (by decide) (ty_120 hS.1.1) ?_
    refine Tr.tp 126 (fx_120_17 hS.1.1) ?_
    refine Tr.aload_n (pc := 44) (i := 0) d_X12_has_44 rfl rfl ?_
    refine Tr.getf (pc := 45) d_X12_has_45 f_12_48 (by decide) (by decide) (ty_120 hS.1.1) ?_
    refine Tr.tp 0 ((St.kp hS (by decide) (by decide) (by decide)).trans en_120_12) ?_
    refine Tr.iald (pc := 48) d_X12_has_48 (ty_126 hS.1.1) (by omega) (by omega) ?_
    refine Tr.gen (P := fun v => 0 ≤ v ∧ v ≤ 6) (ir_126_0 hS.1.2.1) (fun r48 er48 br48 => ?_)
    exact Tr.iret (pc := 49) d_X12_has_49 rfl ⟨hS, _, rfl, by omega, by omega⟩
  · refine Tr.tp 1 c1 ?_
    refine Tr.tswIn (pc := 1) (off := 49) (tgt := 50) d_X12_has_1 (by decide) (by decide) rfl rfl ?_
    refine Tr.aload_n (pc := 50) (i := 0) d_X12_has_50 rfl rfl ?_
    refine Tr.getf (pc := 51) d_X12_has_51 f_12_66 (by decide) (by decide) (ty_120 hS.1.1) ?_
    refine Tr.tp 127 (fx_120_18 hS.1.1) ?_
    refine Tr.aload_n (pc := 54) (i := 0) d_X12_has_54 rfl rfl ?_
    refine Tr.getf (pc := 55) d_X12_has_55 f_12_48 (by decide) (by decide) (ty_120 hS.1.1) ?_
    refine Tr.tp 0 ((St.kp hS (by decide) (by decide) (by decide)).trans en_120_12) ?_
    refine Tr.iald (pc := 58) d_X12_has_58 (ty_127 hS.1.1) (by omega) (by omega) ?_
    refine Tr.gen (P := fun v => 0 ≤ v ∧ v ≤ 3) (ir_127_0 hS.1.2.1) (fun r58 er58 br58 => ?_)
    exact Tr.iret (pc := 59) d_X12_has_59 rfl ⟨hS, _, rfl, by omega, by omega⟩
  · refine Tr.tp 2 c1 ?_
    refine Tr.tswIn (pc := 1) (off := 59) (tgt := 60) d_X12_has_1 (by decide) (by decide) rfl rfl ?_
    refine Tr.aload_n (pc := 60) (i := 0) d_X12_has_60 rfl rfl ?_
    refine Tr.getf (pc := 61) d_X12_has_61 f_12_69 (by decide) (by decide) (ty_120 hS.1.1) ?_
    refine Tr.tp 128 (fx_120_19 hS.1.1) ?_
    refine Tr.aload_n (pc := 64) (i := 0) d_X12_has_64 rfl rfl ?_
    refine Tr.getf (pc := 65) d_X12_has_65 f_12_48 (by decide) (by decide) (ty_120 hS.1.1) ?_
    refine Tr.tp 0 ((St.kp hS (by decide) (by decide) (by decide)).trans en_120_12) ?_
    refine Tr.iald (pc := 68) d_X12_has_68 (ty_128 hS.1.1) (by omega) (by omega) ?_
    refine Tr.gen (P := fun v => 0 ≤ v ∧ v ≤ 6) (ir_128_0 hS.1.2.1) (fun r68 er68 br68 => ?_)
    exact Tr.iret (pc := 69) d_X12_has_69 rfl ⟨hS, _, rfl, by omega, by omega⟩
  · refine Tr.tp 3 c1 ?_
    refine Tr.tswIn (pc := 1) (off := 69) (tgt := 70) d_X12_has_1 (by decide) (by decide) rfl rfl ?_
    refine Tr.aload_n (pc := 70) (i := 0) d_X12_has_70 rfl rfl ?_
    refine Tr.getf (pc := 71) d_X12_has_71 f_12_72 (by decide) (by decide) (ty_120 hS.1.1) ?_
    refine Tr.tp 129 (fx_120_20 hS.1.1) ?_
    refine Tr.aload_n (pc := 74) (i := 0) d_X12_has_74 rfl rfl ?_
    refine Tr.getf (pc := 75) d_X12_has_75 f_12_48 (by decide) (by decide) (ty_120 hS.1.1) ?_
    refine Tr.tp 0 ((St.kp hS (by decide) (by decide) (by decide)).trans en_120_12) ?_
    refine Tr.iald (pc := 78) d_X12_has_78 (ty_129 hS.1.1) (by omega) (by omega) ?_
    refine Tr.gen (P := fun v => 0 ≤ v ∧ v ≤ 60) (ir_129_0 hS.1.2.1) (fun r78 er78 br78 => ?_)
    exact Tr.iret (pc := 79) d_X12_has_79 rfl ⟨hS, _, rfl, by omega, by omega⟩
  · refine Tr.tp 4 c1 ?_
    refine Tr.tswIn (pc := 1) (off := 79) (tgt := 80) d_X12_has_1 (by decide) (by decide) rfl rfl ?_
    refine Tr.aload_n (pc := 80) (i := 0) d_X12_has_80 rfl rfl ?_
    refine Tr.getf (pc := 81) d_X12_has_81 f_12_333 (by decide) (by decide) (ty_120 hS.1.1) ?_
    refine Tr.gen (P := fun v => 0 ≤ v ∧ v ≤ 12) (ir_120_106 hS.1.2.1) (fun r81 er81 br81 => ?_)
    exact Tr.iret (pc := 84) d_X12_has_84 rfl ⟨hS, _, rfl, by omega, by omega⟩
  · refine Tr.tp 5 c1 ?_
    refine Tr.tswIn (pc := 1) (off := 84) (tgt := 85) d_X12_has_1 (by decide) (by decide) rfl rfl ?_
    refine Tr.aload_n (pc := 85) (i := 0) d_X12_has_85 rfl rfl ?_
    refine Tr.getf (pc := 86) d_X12_has_86 f_12_354 (by decide) (by decide) (ty_120 hS.1.1) ?_
    refine Tr.gen (P := fun v => 0 ≤ v ∧ v ≤ 6) (ir_120_113 hS.1.2.1) (fun r86 er86 br86 => ?_)
    exact Tr.iret (pc := 89) d_X12_has_89 rfl ⟨hS, _, rfl, by omega, by omega⟩

def ws_X12_is : List (Int × Int) := []
def as_X12_is : List Int := []
def q_X12_is (a0 : Int) (a1 : Int) (a2 : Int) (M0 M' : Mem) (r : Option PV) : Prop := St Tru ws_X12_is as_X12_is M0 M' ∧ ∃ v : Int, r = some (0, v) ∧ 0 ≤ v ∧ v ≤ 1 ∧ ((v = 1 ∧ a1 ≤ a0 ∧ a0 ≤ a2) ∨ (v = 0 ∧ (a0 < a1 ∨ a2 < a0)))
set_option maxRecDepth 100000 in
set_option maxHeartbeats 4000000 in
theorem sp_X12_is {l : Launch} {K : EC} {M0 : Mem} (hI : In Tru M0)  (a0 : Int) (ha0 : (-2147483648) ≤ a0 ∧ a0 ≤ 2147483647) (a1 : Int) (ha1 : (-2147483648) ≤ a1 ∧ a1 ≤ 2147483647) (a2 : Int) (ha2 : (-2147483648) ≤ a2 ∧ a2 ≤ 2147483647)  : Tr l K 0 mX12_is 0 [(0, (0, a0)), (1, (0, a1)), (2, (0, a2))] [] M0 (q_X12_is a0 a1 a2 M0) := by
  have hS : St Tru ws_X12_is as_X12_is M0 M0 := St.rf hI
  refine Tr.iload_n (pc := 0) (i := 0) d_X12_is_0 rfl rfl ?_
  refine Tr.iload_n (pc := 1) (i := 1) d_X12_is_1 rfl rfl ?_
  refine Tr.icmp_lt (pc := 2) (tgt := 14) d_X12_is_2 rfl (fun c2 => ?_) (fun c2 => ?_)
  · refine Tr.iconst (pc := 14) d_X12_is_14 (by decide) ?_
    exact Tr.zret (pc := 15) d_X12_is_15 rfl (by omega) ⟨hS, _, rfl, by omega, by omega, by omega⟩
  · refine Tr.iload_n (pc := 5) (i := 0) d_X12_is_5 rfl rfl ?_
    refine Tr.iload_n (pc := 6) (i := 2) d_X12_is_6 rfl rfl ?_
    refine Tr.icmp_gt (pc := 7) (tgt := 14) d_X12_is_7 rfl (fun c7 => ?_) (fun c7 => ?_)
    · refine Tr.iconst (pc := 14) d_X12_is_14 (by decide) ?_
      exact Tr.zret (pc := 15) d_X12_is_15 rfl (by omega) ⟨hS, _, rfl, by omega, by omega, by omega⟩
    · refine Tr.iconst (pc := 10) d_X12_is_10 (by decide) ?_
      refine Tr.goto (pc := 11) (tgt := 15) d_X12_is_11 rfl ?_
      exact Tr.zret (pc := 15) d_X12_is_15 rfl (by omega) ⟨hS, _, rfl, by omega, by omega, by omega⟩

def ws_X12_isPart_120 : List (Int × Int) := []
def as_X12_isPart_120 : List Int := []
def q_X12_isPart_120 (a1 : Int) (M0 M' : Mem) (r : Option PV) : Prop := St Tru ws_X12_isPart_120 as_X12_isPart_120 M0 M' ∧ ∃ v : Int, r = some (0, v) ∧ 0 ≤ v ∧ v ≤ 1 ∧ (v = 0 ∨ (0 ≤ a1 ∧ a1 < rd M' 126 0))
set_option maxRecDepth 100000 in
set_option maxHeartbeats 4000000 in
theorem sp_X12_isPart_120 {l : Launch} {K : EC} {M0 : Mem} (hI : In Tru M0) (en_120_12 : rd M0 120 12 = 0) (a1 : Int) (ha1 : (-2147483648) ≤ a1 ∧ a1 ≤ 2147483647)  : Tr l K 1 mX12_isPart 0 [(0, (2, 120)), (1, (0, a1))] [] M0 (q_X12_isPart_120 a1 M0) := by
  have hS : St Tru ws_X12_isPart_120 as_X12_isPart_120 M0 M0 := St.rf hI
  obtain ⟨g126_0, eg126_0⟩ : ∃ v, rd M0 126 0 = v := ⟨_, rfl⟩
  have bg126_0 : 0 ≤ g126_0 ∧ g126_0 ≤ 6 := by rw [← eg126_0]; exact ir_126_0 hI.2.1
  refine Tr.iload_n (pc := 0) (i := 1) d_X12_isPart_0 rfl rfl ?_
  refine Tr.iconst (pc := 1) d_X12_isPart_1 (by decide) ?_
  refine Tr.aload_n (pc := 2) (i := 0) d_X12_isPart_2 rfl rfl ?_
  refine Tr.getf (pc := 3) d_X12_isPart_3 f_12_63 (by decide) (by decide) (ty_120 hS.1.1) ?_
  refine Tr.tp 126 (fx_120_17 hS.1.1) ?_
  refine Tr.aload_n (pc := 6) (i := 0) d_X12_isPart_6 rfl rfl ?_
  refine Tr.getf (pc := 7) d_X12_isPart_7 f_12_48 (by decide) (by decide) (ty_120 hS.1.1) ?_
  refine Tr.tp 0 ((St.kp hS (by decide) (by decide) (by decide)).trans en_120_12) ?_
  refine Tr.iald (pc := 10) d_X12_isPart_10 (ty_126 hS.1.1) (by omega) (by omega) ?_
  refine Tr.tp g126_0 eg126_0 ?_
  refine Tr.iconst (pc := 11) d_X12_isPart_11 (by decide) ?_
  refine Tr.isub (pc := 12) d_X12_isPart_12 ?_
  refine Tr.tp (g126_0 - 1) ((w32_id (by omega)).trans (by omega)) ?_
  refine Tr.callS (pc := 13) (as := [_, _, _]) d_X12_isPart_13 s_12_467 ok_X12_is rfl rfl (Nat.le_of_ble_eq_true rfl) (Nat.le_of_ble_eq_true rfl) ?_
  refine Tr.imp (Tr.deep (by decide) (sp_X12_is hS.1 a1 (by omega) 0 (by omega) (g126_0 - 1) (by omega))) ?_
  rintro M13 _ ⟨h13, r13, rfl, lr13, ur13, wr13⟩
  have hS := St.tr hS h13 (by decide) (by decide)
  refine Tr.sc [(0, r13)] rfl ?_
  have kr_126_0 : rd M13 126 0 = g126_0 := ((St.kp h13 (by decide) (by decide) (by decide)).trans eg126_0)
  exact Tr.zret (pc := 16) d_X12_isPart_16 rfl (by omega) ⟨hS, _, rfl, by omega, by omega, by omega⟩

def ws_X12_letterOf : List (Int × Int) := []
def as_X12_letterOf : List Int := []
def q_X12_letterOf (M0 M' : Mem) (r : Option PV) : Prop := St Tru ws_X12_letterOf as_X12_letterOf M0 M' ∧ ∃ v : Int, r = some (0, v) ∧ (-1) ≤ v ∧ v ≤ 255
set_option maxRecDepth 100000 in
set_option maxHeartbeats 4000000 in
theorem sp_X12_letterOf {l : Launch} {K : EC} {M0 : Mem} (hI : In Tru M0)  (a0 : Int) (ha0 : (-9223372036854775808) ≤ a0 ∧ a0 ≤ 9223372036854775807) (a2 : Int) (ha2 : (-2147483648) ≤ a2 ∧ a2 ≤ 2147483647)  : Tr l K 0 mX12_letterOf 0 [(0, (1, a0)), (2, (0, a2))] [] M0 (q_X12_letterOf M0) := by
  have hS : St Tru ws_X12_letterOf as_X12_letterOf M0 M0 := St.rf hI
  refine Tr.iconst (pc := 0) d_X12_letterOf_0 (by decide) ?_
  refine Tr.istore_n (pc := 1) (i := 3) (ls2 := [(3, (0, 0)), (0, (1, a0)), (2, (0, a2))]) d_X12_letterOf_1 rfl (by decide) rfl ?_
  refine Tr.lload_n (pc := 2) (i := 0) d_X12_letterOf_2 rfl rfl ?_
  refine Tr.lstore (pc := 3) (i := 4) (ls2 := [(4, (1, a0)), (3, (0, 0)), (0, (1, a0)), (2, (0, a2))]) d_X12_letterOf_3 (by decide) rfl ?_
  have J5 : ∀ (n5 : Nat) (M : Mem) (p5_3 p5_4 : Int), St Tru ws_X12_letterOf as_X12_letterOf M0 M → ((-2147483648) ≤ p5_3 ∧ p5_3 ≤ 2147483647) → ((-9223372036854775808) ≤ p5_4 ∧ p5_4 ≤ 9223372036854775807) → (p5_4 % 18446744073709551616).toNat < n5 → Tr l K 0 mX12_letterOf 5 [(0, (1, a0)), (2, (0, a2)), (3, (0, p5_3)), (4, (1, p5_4))] [] M (q_X12_letterOf M0) := by
    intro n5
    induction n5 with
    | zero => intro M p5_3 p5_4 hS bp5_3 bp5_4  hm5; exact absurd hm5 (Nat.not_lt_zero _)
    | succ n5 J5 =>
      intro M p5_3 p5_4 hS bp5_3 bp5_4  hm5
      refine Tr.lload (pc := 5) (i := 4) d_X12_letterOf_5 rfl ?_
      refine Tr.lconst (pc := 7) (v := 0) d_X12_letterOf_7 rfl (by decide) ?_
      refine Tr.lcmp (pc := 8) d_X12_letterOf_8 ?_
      refine Tr.gen (P := fun v => (v = 1 ∧ 0 < p5_4) ∨ (v = 0 ∧ p5_4 = 0) ∨ (v = -1 ∧ p5_4 < 0)) (f_lcmp_c _ _) (fun r8 er8 br8 => ?_)
      refine Tr.if_eq (pc := 9) (tgt := 25) d_X12_letterOf_9 rfl (fun c9 => ?_) (fun c9 => ?_)
      · refine Tr.iload_n (pc := 25) (i := 2) d_X12_letterOf_25 rfl rfl ?_
        refine Tr.if_lt (pc := 26) (tgt := 34) d_X12_letterOf_26 rfl (fun c26 => ?_) (fun c26 => ?_)
        · refine Tr.iconst (pc := 34) d_X12_letterOf_34 (by decide) ?_
          refine Tr.goto (pc := 35) (tgt := 53) d_X12_letterOf_35 rfl ?_
          exact Tr.iret (pc := 53) d_X12_letterOf_53 rfl ⟨hS, _, rfl, by omega, by omega⟩
        · refine Tr.iload_n (pc := 29) (i := 2) d_X12_letterOf_29 rfl rfl ?_
          refine Tr.iload_n (pc := 30) (i := 3) d_X12_letterOf_30 rfl rfl ?_
          refine Tr.icmp_lt (pc := 31) (tgt := 38) d_X12_letterOf_31 rfl (fun c31 => ?_) (fun c31 => ?_)
          · refine Tr.lload_n (pc := 38) (i := 0) d_X12_letterOf_38 rfl rfl ?_
            refine Tr.bipush (pc := 39) d_X12_letterOf_39 rfl (by decide) ?_
            refine Tr.iload_n (pc := 41) (i := 3) d_X12_letterOf_41 rfl rfl ?_
            refine Tr.iconst (pc := 42) d_X12_letterOf_42 (by decide) ?_
            refine Tr.isub (pc := 43) d_X12_letterOf_43 ?_
            refine Tr.tp (p5_3 - 1) ((w32_id (by omega)).trans (by omega)) ?_
            refine Tr.iload_n (pc := 44) (i := 2) d_X12_letterOf_44 rfl rfl ?_
            refine Tr.isub (pc := 45) d_X12_letterOf_45 ?_
            refine Tr.tp (-a2 + p5_3 - 1) ((w32_id (by omega)).trans (by omega)) ?_
            refine Tr.imul (pc := 46) d_X12_letterOf_46 ?_
            refine Tr.gen (P := fun v => (-2147483648) ≤ v ∧ v ≤ 2147483647) (w32_b _) (fun r46 er46 br46 => ?_)
            refine Tr.lushr (pc := 47) d_X12_letterOf_47 ?_
            refine Tr.gen (P := fun v => (-9223372036854775808) ≤ v ∧ v ≤ 9223372036854775807) (i64_b _) (fun r47 er47 br47 => ?_)
            refine Tr.ldc2 (pc := 48) d_X12_letterOf_48 kl_12_553 (by decide) ?_
            refine Tr.land (pc := 51) d_X12_letterOf_51 ?_
            refine Tr.gen (P := fun v => 0 ≤ v ∧ v ≤ 255) (f_land_b 8 (by decide) (by decide +kernel) (by decide +kernel)) (fun r51 er51 br51 => ?_)
            refine Tr.l2i (pc := 52) d_X12_letterOf_52 ?_
            refine Tr.tp r51 (w32_id (by omega)) ?_
            exact Tr.iret (pc := 53) d_X12_letterOf_53 rfl ⟨hS, _, rfl, by omega, by omega⟩
          · refine Tr.iconst (pc := 34) d_X12_letterOf_34 (by decide) ?_
            refine Tr.goto (pc := 35) (tgt := 53) d_X12_letterOf_35 rfl ?_
            exact Tr.iret (pc := 53) d_X12_letterOf_53 rfl ⟨hS, _, rfl, by omega, by omega⟩
      · refine Tr.iincG (pc := 12) d_X12_letterOf_12 rfl (by decide) (fun r12 br12 => ?_)
        refine Tr.lc [(3, (0, r12)), (0, (1, a0)), (2, (0, a2)), (4, (1, p5_4))] rfl ?_
        refine Tr.lload (pc := 15) (i := 4) d_X12_letterOf_15 rfl ?_
        refine Tr.bipush (pc := 17) d_X12_letterOf_17 rfl (by decide) ?_
        refine Tr.lushr (pc := 19) d_X12_letterOf_19 ?_
        refine Tr.gen (P := fun v => v = (p5_4 % 18446744073709551616) / 256 ∧ (0 ≤ v ∧ v ≤ 72057594037927935)) ⟨(lushr_p8 _).2, (lushr_p8 _).1⟩ (fun r19 er19 br19 => ?_)
        refine Tr.lstore (pc := 20) (i := 4) (ls2 := [(4, (1, r19)), (3, (0, r12)), (0, (1, a0)), (2, (0, a2))]) d_X12_letterOf_20 (by decide) rfl ?_
        refine Tr.goto (pc := 22) (tgt := 5) d_X12_letterOf_22 rfl ?_
        refine Tr.pick [2, 3, 1, 0] (ls2 := [(0, (1, a0)), (2, (0, a2)), (3, (0, r12)), (4, (1, r19))]) rfl ?_
        exact J5 _ _ _ hS (by omega) (by omega) (by omega)
  refine Tr.pick [2, 3, 1, 0] (ls2 := [(0, (1, a0)), (2, (0, a2)), (3, (0, 0)), (4, (1, a0))]) rfl ?_
  exact J5 _ _ _ _ hS (by omega) (by omega) (Nat.lt_succ_self _)

def ws_X12_isInput_120 : List (Int × Int) := []
def as_X12_isInput_120 : List Int := []
def q_X12_isInput_120 (a1 : Int) (M0 M' : Mem) (r : Option PV) : Prop := St Tru ws_X12_isInput_120 as_X12_isInput_120 M0 M' ∧ ∃ v : Int, r = some (0, v) ∧ 0 ≤ v ∧ v ≤ 1 ∧ (v = 0 ∨ (0 ≤ a1 ∧ a1 < rd M' 127 0))
set_option maxRecDepth 100000 in
set_option maxHeartbeats 4000000 in
theorem sp_X12_isInput_120 {l : Launch} {K : EC} {M0 : Mem} (hI : In Tru M0) (en_120_12 : rd M0 120 12 = 0) (a1 : Int) (ha1 : (-2147483648) ≤ a1 ∧ a1 ≤ 2147483647)  : Tr l K 1 mX12_isInput 0 [(0, (2, 120)), (1, (0, a1))] [] M0 (q_X12_isInput_120 a1 M0) := by
  have hS : St Tru ws_X12_isInput_120 as_X12_isInput_120 M0 M0 := St.rf hI
  obtain ⟨g127_0, eg127_0⟩ : ∃ v, rd M0 127 0 = v := ⟨_, rfl⟩
  have bg127_0 : 0 ≤ g127_0 ∧ g127_0 ≤ 3 := by rw [← eg127_0]; exact ir_127_0 hI.2.1
  refine Tr.iload_n (pc := 0) (i := 1) d_X12_isInput_0 rfl rfl ?_
  refine Tr.iconst (pc := 1) d_X12_isInput_1 (by decide) ?_
  refine Tr.aload_n (pc := 2) (i := 0) d_X12_isInput_2 rfl rfl ?_
  refine Tr.getf (pc := 3) d_X12_isInput_3 f_12_66 (by decide) (by decide) (ty_120 hS.1.1) ?_
  refine Tr.tp 127 (fx_120_18 hS.1.1) ?_
  refine Tr.aload_n (pc := 6) (i := 0) d_X12_isInput_6 rfl rfl ?_
  refine Tr.getf (pc := 7) d_X12_isInput_7 f_12_48 (by decide) (by decide) (ty_120 hS.1.1) ?_
  refine Tr.tp 0 ((St.kp hS (by decide) (by decide) (by decide)).trans en_120_12) ?_
  refine Tr.iald (pc := 10) d_X12_isInput_10 (ty_127 hS.1.1) (by omega) (by omega) ?_
  refine Tr.tp g127_0 eg127_0 ?_
  refine Tr.iconst (pc := 11) d_X12_isInput_11 (by decide) ?_
  refine Tr.isub (pc := 12) d_X12_isInput_12 ?_
  refine Tr.tp (g127_0 - 1) ((w32_id (by omega)).trans (by omega)) ?_
  refine Tr.callS (pc := 13) (as := [_, _, _]) d_X12_isInput_13 s_12_467 ok_X12_is rfl rfl (Nat.le_of_ble_eq_true rfl) (Nat.le_of_ble_eq_true rfl) ?_
  refine Tr.imp (Tr.deep (by decide) (sp_X12_is hS.1 a1 (by omega) 0 (by omega) (g127_0 - 1) (by omega))) ?_
  rintro M13 _ ⟨h13, r13, rfl, lr13, ur13, wr13⟩
  have hS := St.tr hS h13 (by decide) (by decide)
  refine Tr.sc [(0, r13)] rfl ?_
  have kr_127_0 : rd M13 127 0 = g127_0 := ((St.kp h13 (by decide) (by decide) (by decide)).trans eg127_0)
  exact Tr.zret (pc := 16) d_X12_isInput_16 rfl (by omega) ⟨hS, _, rfl, by omega, by omega, by omega⟩

def ws_X12_letter_120 : List (Int × Int) := []
def as_X12_letter_120 : List Int := []
def q_X12_letter_120 (M0 M' : Mem) (r : Option PV) : Prop := St Tru ws_X12_letter_120 as_X12_letter_120 M0 M' ∧ ∃ v : Int, r = some (0, v) ∧ (-1) ≤ v ∧ v ≤ 255
set_option maxRecDepth 100000 in
set_option maxHeartbeats 4000000 in
theorem sp_X12_letter_120 {l : Launch} {K : EC} {M0 : Mem} (hI : In Tru M0) (en_120_12 : rd M0 120 12 = 0) (a1 : Int) (ha1 : (-2147483648) ≤ a1 ∧ a1 ≤ 2147483647) (a2 : Int) (ha2 : (-2147483648) ≤ a2 ∧ a2 ≤ 2147483647) (a3 : Int) (ha3 : (-2147483648) ≤ a3 ∧ a3 ≤ 2147483647)  : Tr l K 2 mX12_letter 0 [(0, (2, 120)), (1, (0, a1)), (2, (0, a2)), (3, (0, a3))] [] M0 (q_X12_letter_120 M0) := by
  have hS : St Tru ws_X12_letter_120 as_X12_letter_120 M0 M0 := St.rf hI
  refine Tr.iload_n (pc := 0) (i := 1) d_X12_letter_0 rfl rfl ?_
  have J31 : ∀ (M : Mem), St Tru ws_X12_letter_120 as_X12_letter_120 M0 M → Tr l K 2 mX12_letter 31 [(0, (2, 120)), (1, (0, a1)), (2, (0, a2)), (3, (0, a3))] [] M (q_X12_letter_120 M0) := by
    intro M  hS  
    refine Tr.iload_n (pc := 31) (i := 1) d_X12_letter_31 rfl rfl ?_
    refine Tr.iconst (pc := 32) d_X12_letter_32 (by decide) ?_
    have J62 : ∀ (M : Mem), St Tru ws_X12_letter_120 as_X12_letter_120 M0 M → Tr l K 2 mX12_letter 62 [(0, (2, 120)), (1, (0, a1)), (2, (0, a2)), (3, (0, a3))] [] M (q_X12_letter_120 M0) := by
      intro M  hS  
      refine Tr.iload_n (pc := 62) (i := 1) d_X12_letter_62 rfl rfl ?_
      refine Tr.iconst (pc := 63) d_X12_letter_63 (by decide) ?_
      refine Tr.icmp_ne (pc := 64) (tgt := 105) d_X12_letter_64 rfl (fun c64 => ?_) (fun c64 => ?_)
      · refine Tr.iconst (pc := 105) d_X12_letter_105 (by decide) ?_
        exact Tr.iret (pc := 106) d_X12_letter_106 rfl ⟨hS, _, rfl, by omega, by omega⟩
      · refine Tr.iload_n (pc := 67) (i := 2) d_X12_letter_67 rfl rfl ?_
        refine Tr.iconst (pc := 68) d_X12_letter_68 (by decide) ?_
        refine Tr.aload_n (pc := 69) (i := 0) d_X12_letter_69 rfl rfl ?_
        refine Tr.getf (pc := 70) d_X12_letter_70 f_12_69 (by decide) (by decide) (ty_120 hS.1.1) ?_
        refine Tr.tp 128 (fx_120_19 hS.1.1) ?_
        refine Tr.aload_n (pc := 73) (i := 0) d_X12_letter_73 rfl rfl ?_
        refine Tr.getf (pc := 74) d_X12_letter_74 f_12_48 (by decide) (by decide) (ty_120 hS.1.1) ?_
        refine Tr.tp 0 ((St.kp hS (by decide) (by decide) (by decide)).trans en_120_12) ?_
        refine Tr.iald (pc := 77) d_X12_letter_77 (ty_128 hS.1.1) (by omega) (by omega) ?_
        refine Tr.gen (P := fun v => 0 ≤ v ∧ v ≤ 6) (ir_128_0 hS.1.2.1) (fun r77 er77 br77 => ?_)
        refine Tr.iconst (pc := 78) d_X12_letter_78 (by decide) ?_
        refine Tr.isub (pc := 79) d_X12_letter_79 ?_
        refine Tr.tp (r77 - 1) ((w32_id (by omega)).trans (by omega)) ?_
        refine Tr.callS (pc := 80) (as := [_, _, _]) d_X12_letter_80 s_12_467 ok_X12_is rfl rfl (Nat.le_of_ble_eq_true rfl) (Nat.le_of_ble_eq_true rfl) ?_
        refine Tr.imp (Tr.deep (by decide) (sp_X12_is hS.1 a2 (by omega) 0 (by omega) (r77 - 1) (by omega))) ?_
        rintro M80 _ ⟨h80, r80, rfl, lr80, ur80, wr80⟩
        have hS := St.tr hS h80 (by decide) (by decide)
        refine Tr.sc [(0, r80)] rfl ?_
        refine Tr.if_eq (pc := 83) (tgt := 105) d_X12_letter_83 rfl (fun c83 => ?_) (fun c83 => ?_)
        · refine Tr.iconst (pc := 105) d_X12_letter_105 (by decide) ?_
          exact Tr.iret (pc := 106) d_X12_letter_106 rfl ⟨hS, _, rfl, by omega, by omega⟩
        · refine Tr.aload_n (pc := 86) (i := 0) d_X12_letter_86 rfl rfl ?_
          refine Tr.getf (pc := 87) d_X12_letter_87 f_12_91 (by decide) (by decide) (ty_120 hS.1.1) ?_
          refine Tr.tp 135 (fx_120_26 hS.1.1) ?_
          refine Tr.bipush (pc := 90) d_X12_letter_90 rfl (by decide) ?_
          refine Tr.aload_n (pc := 92) (i := 0) d_X12_letter_92 rfl rfl ?_
          refine Tr.getf (pc := 93) d_X12_letter_93 f_12_48 (by decide) (by decide) (ty_120 hS.1.1) ?_
          refine Tr.tp 0 ((St.kp hS (by decide) (by decide) (by decide)).trans en_120_12) ?_
          refine Tr.imul (pc := 96) d_X12_letter_96 ?_
          refine Tr.tp 0 (by decide) ?_
          refine Tr.iload_n (pc := 97) (i := 2) d_X12_letter_97 rfl rfl ?_
          refine Tr.iadd (pc := 98) d_X12_letter_98 ?_
          refine Tr.tp a2 ((w32_id (by omega)).trans (by omega)) ?_
          refine Tr.lald (pc := 99) d_X12_letter_99 (ty_135 hS.1.1) (by omega) (by omega) ?_
          refine Tr.gen (P := fun v => (-9223372036854775808) ≤ v ∧ v ≤ 9223372036854775807) (ar_135 hS.1.2.1 _) (fun r99 er99 br99 => ?_)
          refine Tr.iload_n (pc := 100) (i := 3) d_X12_letter_100 rfl rfl ?_
          refine Tr.callS (pc := 101) (as := [_, _]) d_X12_letter_101 s_12_558 ok_X12_letterOf rfl rfl (Nat.le_of_ble_eq_true rfl) (Nat.le_of_ble_eq_true rfl) ?_
          refine Tr.imp (Tr.deep (by decide) (sp_X12_letterOf hS.1 r99 (by omega) a3 (by omega))) ?_
          rintro M101 _ ⟨h101, r101, rfl, lr101, ur101⟩
          have hS := St.tr hS h101 (by decide) (by decide)
          refine Tr.sc [(0, r101)] rfl ?_
          exact Tr.iret (pc := 104) d_X12_letter_104 rfl ⟨hS, _, rfl, by omega, by omega⟩
    refine Tr.icmp_ne (pc := 33) (tgt := 62) d_X12_letter_33 rfl (fun c33 => ?_) (fun c33 => ?_)
    · refine Tr.pick [0, 1, 2, 3] (ls2 := [(0, (2, 120)), (1, (0, a1)), (2, (0, a2)), (3, (0, a3))]) rfl ?_
      exact J62 _ hS 
    · refine Tr.aload_n (pc := 36) (i := 0) d_X12_letter_36 rfl rfl ?_
      refine Tr.iload_n (pc := 37) (i := 2) d_X12_letter_37 rfl rfl ?_
      refine Tr.callV (pc := 38) (as := [_]) d_X12_letter_38 s_12_562 ok_X12_isInput rfl rfl (Nat.le_of_ble_eq_true rfl) (Nat.le_of_ble_eq_true rfl) (by decide) (ty_120 hS.1.1) ?_
      refine Tr.imp (Tr.deep (by decide) (sp_X12_isInput_120 hS.1 ((St.kp hS (by decide) (by decide) (by decide)).trans en_120_12) a2 (by omega))) ?_
      rintro M38 _ ⟨h38, r38, rfl, lr38, ur38, z38_0⟩
      have hS := St.tr hS h38 (by decide) (by decide)
      obtain ⟨w38_127_0, ew38_127_0⟩ : ∃ v, rd M38 127 0 = v := ⟨_, rfl⟩
      have bw38_127_0 : 0 ≤ w38_127_0 ∧ w38_127_0 ≤ 3 := by rw [← ew38_127_0]; exact ir_127_0 hS.1.2.1
      have ka38_127_0 : rd M38 127 0 = w38_127_0 := ew38_127_0
      refine Tr.sc [(0, r38)] rfl ?_
      refine Tr.if_eq (pc := 41) (tgt := 62) d_X12_letter_41 rfl (fun c41 => ?_) (fun c41 => ?_)
      · refine Tr.pick [0, 1, 2, 3] (ls2 := [(0, (2, 120)), (1, (0, a1)), (2, (0, a2)), (3, (0, a3))]) rfl ?_
        exact J62 _ hS 
      · refine Tr.aload_n (pc := 44) (i := 0) d_X12_letter_44 rfl rfl ?_
        refine Tr.getf (pc := 45) d_X12_letter_45 f_12_82 (by decide) (by decide) (ty_120 hS.1.1) ?_
        refine Tr.tp 132 (fx_120_23 hS.1.1) ?_
        refine Tr.iconst (pc := 48) d_X12_letter_48 (by decide) ?_
        refine Tr.aload_n (pc := 49) (i := 0) d_X12_letter_49 rfl rfl ?_
        refine Tr.getf (pc := 50) d_X12_letter_50 f_12_48 (by decide) (by decide) (ty_120 hS.1.1) ?_
        refine Tr.tp 0 ((St.kp hS (by decide) (by decide) (by decide)).trans en_120_12) ?_
        refine Tr.imul (pc := 53) d_X12_letter_53 ?_
        refine Tr.tp 0 (by decide) ?_
        refine Tr.iload_n (pc := 54) (i := 2) d_X12_letter_54 rfl rfl ?_
        refine Tr.iadd (pc := 55) d_X12_letter_55 ?_
        refine Tr.tp a2 ((w32_id (by omega)).trans (by omega)) ?_
        refine Tr.lald (pc := 56) d_X12_letter_56 (ty_132 hS.1.1) (by omega) (by omega) ?_
        refine Tr.gen (P := fun v => (-9223372036854775808) ≤ v ∧ v ≤ 9223372036854775807) (ar_132 hS.1.2.1 _) (fun r56 er56 br56 => ?_)
        refine Tr.iload_n (pc := 57) (i := 3) d_X12_letter_57 rfl rfl ?_
        refine Tr.callS (pc := 58) (as := [_, _]) d_X12_letter_58 s_12_558 ok_X12_letterOf rfl rfl (Nat.le_of_ble_eq_true rfl) (Nat.le_of_ble_eq_true rfl) ?_
        refine Tr.imp (Tr.deep (by decide) (sp_X12_letterOf hS.1 r56 (by omega) a3 (by omega))) ?_
        rintro M58 _ ⟨h58, r58, rfl, lr58, ur58⟩
        have hS := St.tr hS h58 (by decide) (by decide)
        refine Tr.sc [(0, r58)] rfl ?_
        exact Tr.iret (pc := 61) d_X12_letter_61 rfl ⟨hS, _, rfl, by omega, by omega⟩
  refine Tr.if_ne (pc := 1) (tgt := 31) d_X12_letter_1 rfl (fun c1 => ?_) (fun c1 => ?_)
  · refine Tr.pick [0, 1, 2, 3] (ls2 := [(0, (2, 120)), (1, (0, a1)), (2, (0, a2)), (3, (0, a3))]) rfl ?_
    exact J31 _ hS 
  · refine Tr.aload_n (pc := 4) (i := 0) d_X12_letter_4 rfl rfl ?_
    refine Tr.iload_n (pc := 5) (i := 2) d_X12_letter_5 rfl rfl ?_
    refine Tr.callV (pc := 6) (as := [_]) d_X12_letter_6 s_12_555 ok_X12_isPart rfl rfl (Nat.le_of_ble_eq_true rfl) (Nat.le_of_ble_eq_true rfl) (by decide) (ty_120 hS.1.1) ?_
    refine Tr.imp (Tr.deep (by decide) (sp_X12_isPart_120 hS.1 ((St.kp hS (by decide) (by decide) (by decide)).trans en_120_12) a2 (by omega))) ?_
    rintro M6 _ ⟨h6, r6, rfl, lr6, ur6, z6_0⟩
    have hS := St.tr hS h6 (by decide) (by decide)
    obtain ⟨w6_126_0, ew6_126_0⟩ : ∃ v, rd M6 126 0 = v := ⟨_, rfl⟩
    have bw6_126_0 : 0 ≤ w6_126_0 ∧ w6_126_0 ≤ 6 := by rw [← ew6_126_0]; exact ir_126_0 hS.1.2.1
    have ka6_126_0 : rd M6 126 0 = w6_126_0 := ew6_126_0
    refine Tr.sc [(0, r6)] rfl ?_
    refine Tr.if_eq (pc := 9) (tgt := 31) d_X12_letter_9 rfl (fun c9 => ?_) (fun c9 => ?_)
    · refine Tr.pick [0, 1, 2, 3] (ls2 := [(0, (2, 120)), (1, (0, a1)), (2, (0, a2)), (3, (0, a3))]) rfl ?_
      exact J31 _ hS 
    · refine Tr.aload_n (pc := 12) (i := 0) d_X12_letter_12 rfl rfl ?_
      refine Tr.getf (pc := 13) d_X12_letter_13 f_12_75 (by decide) (by decide) (ty_120 hS.1.1) ?_
      refine Tr.tp 130 (fx_120_21 hS.1.1) ?_
      refine Tr.bipush (pc := 16) d_X12_letter_16 rfl (by decide) ?_
      refine Tr.aload_n (pc := 18) (i := 0) d_X12_letter_18 rfl rfl ?_
      refine Tr.getf (pc := 19) d_X12_letter_19 f_12_48 (by decide) (by decide) (ty_120 hS.1.1) ?_
      refine Tr.tp 0 ((St.kp hS (by decide) (by decide) (by decide)).trans en_120_12) ?_
      refine Tr.imul (pc := 22) d_X12_letter_22 ?_
      refine Tr.tp 0 (by decide) ?_
      refine Tr.iload_n (pc := 23) (i := 2) d_X12_letter_23 rfl rfl ?_
      refine Tr.iadd (pc := 24) d_X12_letter_24 ?_
      refine Tr.tp a2 ((w32_id (by omega)).trans (by omega)) ?_
      refine Tr.lald (pc := 25) d_X12_letter_25 (ty_130 hS.1.1) (by omega) (by omega) ?_
      refine Tr.gen (P := fun v => (-9223372036854775808) ≤ v ∧ v ≤ 9223372036854775807) (ar_130 hS.1.2.1 _) (fun r25 er25 br25 => ?_)
      refine Tr.iload_n (pc := 26) (i := 3) d_X12_letter_26 rfl rfl ?_
      refine Tr.callS (pc := 27) (as := [_, _]) d_X12_letter_27 s_12_558 ok_X12_letterOf rfl rfl (Nat.le_of_ble_eq_true rfl) (Nat.le_of_ble_eq_true rfl) ?_
      refine Tr.imp (Tr.deep (by decide) (sp_X12_letterOf hS.1 r25 (by omega) a3 (by omega))) ?_
      rintro M27 _ ⟨h27, r27, rfl, lr27, ur27⟩
      have hS := St.tr hS h27 (by decide) (by decide)
      refine Tr.sc [(0, r27)] rfl ?_
      exact Tr.iret (pc := 30) d_X12_letter_30 rfl ⟨hS, _, rfl, by omega, by omega⟩

def ws_X12_put__120 : List (Int × Int) := []
def as_X12_put__120 : List Int := [153]
def q_X12_put__120 (M0 M' : Mem) (r : Option PV) : Prop := St Tru ws_X12_put__120 as_X12_put__120 M0 M' ∧ ∃ v : Int, r = some (0, v) ∧ 0 ≤ v ∧ v ≤ 1
set_option maxRecDepth 100000 in
set_option maxHeartbeats 4000000 in
theorem sp_X12_put__120 {l : Launch} {K : EC} {M0 : Mem} (hI : In Tru M0) (en_120_12 : rd M0 120 12 = 0) (a1 : Int) (ha1 : (-2147483648) ≤ a1 ∧ a1 ≤ 2147483647) (a2 : Int) (ha2 : (-2147483648) ≤ a2 ∧ a2 ≤ 2147483647)  : Tr l K 2 mX12_put_ 0 [(0, (2, 120)), (1, (0, a1)), (2, (0, a2))] [] M0 (q_X12_put__120 M0) := by
  have hS : St Tru ws_X12_put__120 as_X12_put__120 M0 M0 := St.rf hI
  refine Tr.aload_n (pc := 0) (i := 0) d_X12_put__0 rfl rfl ?_
  refine Tr.iload_n (pc := 1) (i := 1) d_X12_put__1 rfl rfl ?_
  refine Tr.callV (pc := 2) (as := [_]) d_X12_put__2 s_12_562 ok_X12_isInput rfl rfl (Nat.le_of_ble_eq_true rfl) (Nat.le_of_ble_eq_true rfl) (by decide) (ty_120 hS.1.1) ?_
  refine Tr.imp (Tr.deep (by decide) (sp_X12_isInput_120 hS.1 ((St.kp hS (by decide) (by decide) (by decide)).trans en_120_12) a1 (by omega))) ?_
  rintro M2 _ ⟨h2, r2, rfl, lr2, ur2, z2_0⟩
  have hS := St.tr hS h2 (by decide) (by decide)
  obtain ⟨w2_127_0, ew2_127_0⟩ : ∃ v, rd M2 127 0 = v := ⟨_, rfl⟩
  have bw2_127_0 : 0 ≤ w2_127_0 ∧ w2_127_0 ≤ 3 := by rw [← ew2_127_0]; exact ir_127_0 hS.1.2.1
  have ka2_127_0 : rd M2 127 0 = w2_127_0 := ew2_127_0
  refine Tr.sc [(0, r2)] rfl ?_
  refine Tr.if_eq (pc := 5) (tgt := 41) d_X12_put__5 rfl (fun c5 => ?_) (fun c5 => ?_)
  · refine Tr.iconst (pc := 41) d_X12_put__41 (by decide) ?_
    exact Tr.zret (pc := 42) d_X12_put__42 rfl (by omega) ⟨hS, _, rfl, by omega, by omega⟩
  · refine Tr.iload_n (pc := 8) (i := 2) d_X12_put__8 rfl rfl ?_
    refine Tr.aload_n (pc := 9) (i := 0) d_X12_put__9 rfl rfl ?_
    refine Tr.getf (pc := 10) d_X12_put__10 f_12_85 (by decide) (by decide) (ty_120 hS.1.1) ?_
    refine Tr.tp 133 (fx_120_24 hS.1.1) ?_
    refine Tr.iconst (pc := 13) d_X12_put__13 (by decide) ?_
    refine Tr.aload_n (pc := 14) (i := 0) d_X12_put__14 rfl rfl ?_
    refine Tr.getf (pc := 15) d_X12_put__15 f_12_48 (by decide) (by decide) (ty_120 hS.1.1) ?_
    refine Tr.tp 0 ((St.kp hS (by decide) (by decide) (by decide)).trans en_120_12) ?_
    refine Tr.imul (pc := 18) d_X12_put__18 ?_
    refine Tr.tp 0 (by decide) ?_
    refine Tr.iload_n (pc := 19) (i := 1) d_X12_put__19 rfl rfl ?_
    refine Tr.iadd (pc := 20) d_X12_put__20 ?_
    refine Tr.tp a1 ((w32_id (by omega)).trans (by omega)) ?_
    refine Tr.iald (pc := 21) d_X12_put__21 (ty_133 hS.1.1) (by omega) (by omega) ?_
    refine Tr.gen (P := fun v => (-2147483648) ≤ v ∧ v ≤ 2147483647) (ar_133 hS.1.2.1 _) (fun r21 er21 br21 => ?_)
    refine Tr.aload_n (pc := 22) (i := 0) d_X12_put__22 rfl rfl ?_
    refine Tr.getf (pc := 23) d_X12_put__23 f_12_88 (by decide) (by decide) (ty_120 hS.1.1) ?_
    refine Tr.tp 134 (fx_120_25 hS.1.1) ?_
    refine Tr.iconst (pc := 26) d_X12_put__26 (by decide) ?_
    refine Tr.aload_n (pc := 27) (i := 0) d_X12_put__27 rfl rfl ?_
    refine Tr.getf (pc := 28) d_X12_put__28 f_12_48 (by decide) (by decide) (ty_120 hS.1.1) ?_
    refine Tr.tp 0 ((St.kp hS (by decide) (by decide) (by decide)).trans en_120_12) ?_
    refine Tr.imul (pc := 31) d_X12_put__31 ?_
    refine Tr.tp 0 (by decide) ?_
    refine Tr.iload_n (pc := 32) (i := 1) d_X12_put__32 rfl rfl ?_
    refine Tr.iadd (pc := 33) d_X12_put__33 ?_
    refine Tr.tp a1 ((w32_id (by omega)).trans (by omega)) ?_
    refine Tr.iald (pc := 34) d_X12_put__34 (ty_134 hS.1.1) (by omega) (by omega) ?_
    refine Tr.gen (P := fun v => (-2147483648) ≤ v ∧ v ≤ 2147483647) (ar_134 hS.1.2.1 _) (fun r34 er34 br34 => ?_)
    refine Tr.callS (pc := 35) (as := [_, _, _]) d_X12_put__35 s_12_467 ok_X12_is rfl rfl (Nat.le_of_ble_eq_true rfl) (Nat.le_of_ble_eq_true rfl) ?_
    refine Tr.imp (Tr.deep (by decide) (sp_X12_is hS.1 a2 (by omega) r21 (by omega) r34 (by omega))) ?_
    rintro M35 _ ⟨h35, r35, rfl, lr35, ur35, wr35⟩
    have hS := St.tr hS h35 (by decide) (by decide)
    refine Tr.sc [(0, r35)] rfl ?_
    refine Tr.if_ne (pc := 38) (tgt := 43) d_X12_put__38 rfl (fun c38 => ?_) (fun c38 => ?_)
    · refine Tr.aload_n (pc := 43) (i := 0) d_X12_put__43 rfl rfl ?_
      refine Tr.getf (pc := 44) d_X12_put__44 f_12_168 (by decide) (by decide) (ty_120 hS.1.1) ?_
      refine Tr.tp 153 (fx_120_51 hS.1.1) ?_
      refine Tr.iload_n (pc := 47) (i := 1) d_X12_put__47 rfl rfl ?_
      refine Tr.iload_n (pc := 48) (i := 2) d_X12_put__48 rfl rfl ?_
      refine Tr.iastS (pc := 49) (P := St Tru ws_X12_put__120 as_X12_put__120 M0) d_X12_put__49 (ty_153 hS.1.1) (by omega) (by omega) (sa_153 hS (by decide) (by omega) trivial) (fun M49 hS w49 => ?_)
      refine Tr.iconst (pc := 50) d_X12_put__50 (by decide) ?_
      exact Tr.zret (pc := 51) d_X12_put__51 rfl (by omega) ⟨hS, _, rfl, by omega, by omega⟩
    · refine Tr.iconst (pc := 41) d_X12_put__41 (by decide) ?_
      exact Tr.zret (pc := 42) d_X12_put__42 rfl (by omega) ⟨hS, _, rfl, by omega, by omega⟩

def ws_X12_ran_120 : List (Int × Int) := []
def as_X12_ran_120 : List Int := []
def q_X12_ran_120 (M0 M' : Mem) (r : Option PV) : Prop := St Tru ws_X12_ran_120 as_X12_ran_120 M0 M' ∧ ∃ v : Int, r = some (0, v) ∧ (-2147483648) ≤ v ∧ v ≤ 2147483647
set_option maxRecDepth 100000 in
set_option maxHeartbeats 4000000 in
theorem sp_X12_ran_120 {l : Launch} {K : EC} {M0 : Mem} (hI : In Tru M0)  (a1 : Int) (ha1 : (-2147483648) ≤ a1 ∧ a1 ≤ 2147483647)  : Tr l K 0 mX12_ran 0 [(0, (2, 120)), (1, (0, a1))] [] M0 (q_X12_ran_120 M0) := by
  have hS : St Tru ws_X12_ran_120 as_X12_ran_120 M0 M0 := St.rf hI
  refine Tr.aload_n (pc := 0) (i := 0) d_X12_ran_0 rfl rfl ?_
  refine Tr.getz (pc := 1) d_X12_ran_1 f_12_270 (by decide) (ty_120 hS.1.1) ?_
  refine Tr.gen (P := fun v => 0 ≤ v ∧ v ≤ 1) (ir_120_85 hS.1.2.1) (fun r1 er1 br1 => ?_)
  refine Tr.if_ne (pc := 4) (tgt := 9) d_X12_ran_4 rfl (fun c4 => ?_) (fun c4 => ?_)
  · refine Tr.iload_n (pc := 9) (i := 1) d_X12_ran_9 rfl rfl ?_
    rcases (show (a1 < 0 ∨ 5 < a1) ∨ a1 = 0 ∨ a1 = 1 ∨ a1 = 2 ∨ a1 = 3 ∨ a1 = 4 ∨ a1 = 5 by omega) with c10 | c10 | c10 | c10 | c10 | c10 | c10
    · refine Tr.tswOut (pc := 10) (tgt := 79) d_X12_ran_10 c10 rfl ?_
      refine Tr.iconst (pc := 79) d_X12_ran_79 (by decide) ?_
      exact Tr.iret (pc := 80) d_X12_ran_80 rfl ⟨hS, _, rfl, by omega, by omega⟩
    · refine Tr.tp 0 c10 ?_
      refine Tr.tswIn (pc := 10) (off := 38) (tgt := 48) d_X12_ran_10 (by decide) (by decide) rfl rfl ?_
      refine Tr.aload_n (pc := 48) (i := 0) d_X12_ran_48 rfl rfl ?_
      refine Tr.getf (pc := 49) d_X12_ran_49 f_12_273 (by decide) (by decide) (ty_120 hS.1.1) ?_
      refine Tr.gen (P := fun v => 0 ≤ v ∧ v ≤ 2060) (ir_120_86 hS.1.2.1) (fun r49 er49 br49 => ?_)
      exact Tr.iret (pc := 52) d_X12_ran_52 rfl ⟨hS, _, rfl, by omega, by omega⟩
    · refine Tr.tp 1 c10 ?_
      refine Tr.tswIn (pc := 10) (off := 43) (tgt := 53) d_X12_ran_10 (by decide) (by decide) rfl rfl ?_
      refine Tr.aload_n (pc := 53) (i := 0) d_X12_ran_53 rfl rfl ?_
      refine Tr.getf (pc := 54) d_X12_ran_54 f_12_276 (by decide) (by decide) (ty_120 hS.1.1) ?_
      refine Tr.gen (P := fun v => (-9223372036854775808) ≤ v ∧ v ≤ 9223372036854775807) (ir_120_87 hS.1.2.1) (fun r54 er54 br54 => ?_)
      refine Tr.l2i (pc := 57) d_X12_ran_57 ?_
      refine Tr.gen (P := fun v => (-2147483648) ≤ v ∧ v ≤ 2147483647) (w32_b _) (fun r57 er57 br57 => ?_)
      exact Tr.iret (pc := 58) d_X12_ran_58 rfl ⟨hS, _, rfl, by omega, by omega⟩
    · refine Tr.tp 2 c10 ?_
      refine Tr.tswIn (pc := 10) (off := 49) (tgt := 59) d_X12_ran_10 (by decide) (by decide) rfl rfl ?_
      refine Tr.aload_n (pc := 59) (i := 0) d_X12_ran_59 rfl rfl ?_
      refine Tr.getf (pc := 60) d_X12_ran_60 f_12_279 (by decide) (by decide) (ty_120 hS.1.1) ?_
      refine Tr.gen (P := fun v => (-2147483648) ≤ v ∧ v ≤ 2147483647) (ir_120_88 hS.1.2.1) (fun r60 er60 br60 => ?_)
      exact Tr.iret (pc := 63) d_X12_ran_63 rfl ⟨hS, _, rfl, by omega, by omega⟩
    · refine Tr.tp 3 c10 ?_
      refine Tr.tswIn (pc := 10) (off := 54) (tgt := 64) d_X12_ran_10 (by decide) (by decide) rfl rfl ?_
      refine Tr.aload_n (pc := 64) (i := 0) d_X12_ran_64 rfl rfl ?_
      refine Tr.getf (pc := 65) d_X12_ran_65 f_12_282 (by decide) (by decide) (ty_120 hS.1.1) ?_
      refine Tr.gen (P := fun v => (-2147483648) ≤ v ∧ v ≤ 2147483647) (ir_120_89 hS.1.2.1) (fun r65 er65 br65 => ?_)
      exact Tr.iret (pc := 68) d_X12_ran_68 rfl ⟨hS, _, rfl, by omega, by omega⟩
    · refine Tr.tp 4 c10 ?_
      refine Tr.tswIn (pc := 10) (off := 59) (tgt := 69) d_X12_ran_10 (by decide) (by decide) rfl rfl ?_
      refine Tr.aload_n (pc := 69) (i := 0) d_X12_ran_69 rfl rfl ?_
      refine Tr.getf (pc := 70) d_X12_ran_70 f_12_285 (by decide) (by decide) (ty_120 hS.1.1) ?_
      refine Tr.gen (P := fun v => (-2147483648) ≤ v ∧ v ≤ 2147483647) (ir_120_90 hS.1.2.1) (fun r70 er70 br70 => ?_)
      exact Tr.iret (pc := 73) d_X12_ran_73 rfl ⟨hS, _, rfl, by omega, by omega⟩
    · refine Tr.tp 5 c10 ?_
      refine Tr.tswIn (pc := 10) (off := 64) (tgt := 74) d_X12_ran_10 (by decide) (by decide) rfl rfl ?_
      refine Tr.aload_n (pc := 74) (i := 0) d_X12_ran_74 rfl rfl ?_
      refine Tr.getf (pc := 75) d_X12_ran_75 f_12_288 (by decide) (by decide) (ty_120 hS.1.1) ?_
      refine Tr.gen (P := fun v => (-2147483648) ≤ v ∧ v ≤ 2147483647) (ir_120_91 hS.1.2.1) (fun r75 er75 br75 => ?_)
      exact Tr.iret (pc := 78) d_X12_ran_78 rfl ⟨hS, _, rfl, by omega, by omega⟩
  · refine Tr.iconst (pc := 7) d_X12_ran_7 (by decide) ?_
    exact Tr.iret (pc := 8) d_X12_ran_8 rfl ⟨hS, _, rfl, by omega, by omega⟩

def ws_X12_value_120 : List (Int × Int) := []
def as_X12_value_120 : List Int := []
def q_X12_value_120 (M0 M' : Mem) (r : Option PV) : Prop := St Tru ws_X12_value_120 as_X12_value_120 M0 M' ∧ ∃ v : Int, r = some (0, v) ∧ (-2147483648) ≤ v ∧ v ≤ 2147483647
set_option maxRecDepth 100000 in
set_option maxHeartbeats 4000000 in
theorem sp_X12_value_120 {l : Launch} {K : EC} {M0 : Mem} (hI : In Tru M0) (en_120_12 : rd M0 120 12 = 0) (a1 : Int) (ha1 : (-2147483648) ≤ a1 ∧ a1 ≤ 2147483647)  : Tr l K 1 mX12_value 0 [(0, (2, 120)), (1, (0, a1))] [] M0 (q_X12_value_120 M0) := by
  have hS : St Tru ws_X12_value_120 as_X12_value_120 M0 M0 := St.rf hI
  refine Tr.aload_n (pc := 0) (i := 0) d_X12_value_0 rfl rfl ?_
  refine Tr.getz (pc := 1) d_X12_value_1 f_12_270 (by decide) (ty_120 hS.1.1) ?_
  refine Tr.gen (P := fun v => 0 ≤ v ∧ v ≤ 1) (ir_120_85 hS.1.2.1) (fun r1 er1 br1 => ?_)
  refine Tr.if_eq (pc := 4) (tgt := 35) d_X12_value_4 rfl (fun c4 => ?_) (fun c4 => ?_)
  · refine Tr.ldcw (pc := 35) d_X12_value_35 k_12_640 (by decide) ?_
    exact Tr.iret (pc := 38) d_X12_value_38 rfl ⟨hS, _, rfl, by omega, by omega⟩
  · refine Tr.iload_n (pc := 7) (i := 1) d_X12_value_7 rfl rfl ?_
    refine Tr.iconst (pc := 8) d_X12_value_8 (by decide) ?_
    refine Tr.aload_n (pc := 9) (i := 0) d_X12_value_9 rfl rfl ?_
    refine Tr.getf (pc := 10) d_X12_value_10 f_12_69 (by decide) (by decide) (ty_120 hS.1.1) ?_
    refine Tr.tp 128 (fx_120_19 hS.1.1) ?_
    refine Tr.aload_n (pc := 13) (i := 0) d_X12_value_13 rfl rfl ?_
    refine Tr.getf (pc := 14) d_X12_value_14 f_12_48 (by decide) (by decide) (ty_120 hS.1.1) ?_
    refine Tr.tp 0 ((St.kp hS (by decide) (by decide) (by decide)).trans en_120_12) ?_
    refine Tr.iald (pc := 17) d_X12_value_17 (ty_128 hS.1.1) (by omega) (by omega) ?_
    refine Tr.gen (P := fun v => 0 ≤ v ∧ v ≤ 6) (ir_128_0 hS.1.2.1) (fun r17 er17 br17 => ?_)
    refine Tr.iconst (pc := 18) d_X12_value_18 (by decide) ?_
    refine Tr.isub (pc := 19) d_X12_value_19 ?_
    refine Tr.tp (r17 - 1) ((w32_id (by omega)).trans (by omega)) ?_
    refine Tr.callS (pc := 20) (as := [_, _, _]) d_X12_value_20 s_12_467 ok_X12_is rfl rfl (Nat.le_of_ble_eq_true rfl) (Nat.le_of_ble_eq_true rfl) ?_
    refine Tr.imp (Tr.deep (by decide) (sp_X12_is hS.1 a1 (by omega) 0 (by omega) (r17 - 1) (by omega))) ?_
    rintro M20 _ ⟨h20, r20, rfl, lr20, ur20, wr20⟩
    have hS := St.tr hS h20 (by decide) (by decide)
    refine Tr.sc [(0, r20)] rfl ?_
    refine Tr.if_eq (pc := 23) (tgt := 35) d_X12_value_23 rfl (fun c23 => ?_) (fun c23 => ?_)
    · refine Tr.ldcw (pc := 35) d_X12_value_35 k_12_640 (by decide) ?_
      exact Tr.iret (pc := 38) d_X12_value_38 rfl ⟨hS, _, rfl, by omega, by omega⟩
    · refine Tr.aload_n (pc := 26) (i := 0) d_X12_value_26 rfl rfl ?_
      refine Tr.getf (pc := 27) d_X12_value_27 f_12_291 (by decide) (by decide) (ty_120 hS.1.1) ?_
      refine Tr.tp 173 (fx_120_92 hS.1.1) ?_
      refine Tr.iload_n (pc := 30) (i := 1) d_X12_value_30 rfl rfl ?_
      refine Tr.iald (pc := 31) d_X12_value_31 (ty_173 hS.1.1) (by omega) (by omega) ?_
      refine Tr.gen (P := fun v => (-2147483648) ≤ v ∧ v ≤ 2147483647) (ar_173 hS.1.2.1 _) (fun r31 er31 br31 => ?_)
      refine Tr.goto (pc := 32) (tgt := 38) d_X12_value_32 rfl ?_
      exact Tr.iret (pc := 38) d_X12_value_38 rfl ⟨hS, _, rfl, by omega, by omega⟩

def ws_X12_spent_120 : List (Int × Int) := []
def as_X12_spent_120 : List Int := []
def q_X12_spent_120 (M0 M' : Mem) (r : Option PV) : Prop := St Tru ws_X12_spent_120 as_X12_spent_120 M0 M' ∧ ∃ v : Int, r = some (0, v) ∧ (-2147483648) ≤ v ∧ v ≤ 2147483647
set_option maxRecDepth 100000 in
set_option maxHeartbeats 4000000 in
theorem sp_X12_spent_120 {l : Launch} {K : EC} {M0 : Mem} (hI : In Tru M0) (en_120_12 : rd M0 120 12 = 0) (a1 : Int) (ha1 : (-2147483648) ≤ a1 ∧ a1 ≤ 2147483647) (a2 : Int) (ha2 : (-2147483648) ≤ a2 ∧ a2 ≤ 2147483647)  : Tr l K 2 mX12_spent 0 [(0, (2, 120)), (1, (0, a1)), (2, (0, a2))] [] M0 (q_X12_spent_120 M0) := by
  have hS : St Tru ws_X12_spent_120 as_X12_spent_120 M0 M0 := St.rf hI
  refine Tr.aload_n (pc := 0) (i := 0) d_X12_spent_0 rfl rfl ?_
  refine Tr.getz (pc := 1) d_X12_spent_1 f_12_270 (by decide) (ty_120 hS.1.1) ?_
  refine Tr.gen (P := fun v => 0 ≤ v ∧ v ≤ 1) (ir_120_85 hS.1.2.1) (fun r1 er1 br1 => ?_)
  refine Tr.if_eq (pc := 4) (tgt := 37) d_X12_spent_4 rfl (fun c4 => ?_) (fun c4 => ?_)
  · refine Tr.iconst (pc := 37) d_X12_spent_37 (by decide) ?_
    exact Tr.iret (pc := 38) d_X12_spent_38 rfl ⟨hS, _, rfl, by omega, by omega⟩
  · refine Tr.aload_n (pc := 7) (i := 0) d_X12_spent_7 rfl rfl ?_
    refine Tr.iload_n (pc := 8) (i := 1) d_X12_spent_8 rfl rfl ?_
    refine Tr.callV (pc := 9) (as := [_]) d_X12_spent_9 s_12_555 ok_X12_isPart rfl rfl (Nat.le_of_ble_eq_true rfl) (Nat.le_of_ble_eq_true rfl) (by decide) (ty_120 hS.1.1) ?_
    refine Tr.imp (Tr.deep (by decide) (sp_X12_isPart_120 hS.1 ((St.kp hS (by decide) (by decide) (by decide)).trans en_120_12) a1 (by omega))) ?_
    rintro M9 _ ⟨h9, r9, rfl, lr9, ur9, z9_0⟩
    have hS := St.tr hS h9 (by decide) (by decide)
    obtain ⟨w9_126_0, ew9_126_0⟩ : ∃ v, rd M9 126 0 = v := ⟨_, rfl⟩
    have bw9_126_0 : 0 ≤ w9_126_0 ∧ w9_126_0 ≤ 6 := by rw [← ew9_126_0]; exact ir_126_0 hS.1.2.1
    have ka9_126_0 : rd M9 126 0 = w9_126_0 := ew9_126_0
    refine Tr.sc [(0, r9)] rfl ?_
    refine Tr.if_eq (pc := 12) (tgt := 37) d_X12_spent_12 rfl (fun c12 => ?_) (fun c12 => ?_)
    · refine Tr.iconst (pc := 37) d_X12_spent_37 (by decide) ?_
      exact Tr.iret (pc := 38) d_X12_spent_38 rfl ⟨hS, _, rfl, by omega, by omega⟩
    · refine Tr.iload_n (pc := 15) (i := 2) d_X12_spent_15 rfl rfl ?_
      refine Tr.iconst (pc := 16) d_X12_spent_16 (by decide) ?_
      refine Tr.iconst (pc := 17) d_X12_spent_17 (by decide) ?_
      refine Tr.callS (pc := 18) (as := [_, _, _]) d_X12_spent_18 s_12_467 ok_X12_is rfl rfl (Nat.le_of_ble_eq_true rfl) (Nat.le_of_ble_eq_true rfl) ?_
      refine Tr.imp (Tr.deep (by decide) (sp_X12_is hS.1 a2 (by omega) 0 (by omega) 3 (by omega))) ?_
      rintro M18 _ ⟨h18, r18, rfl, lr18, ur18, wr18⟩
      have hS := St.tr hS h18 (by decide) (by decide)
      refine Tr.sc [(0, r18)] rfl ?_
      refine Tr.if_eq (pc := 21) (tgt := 37) d_X12_spent_21 rfl (fun c21 => ?_) (fun c21 => ?_)
      · refine Tr.iconst (pc := 37) d_X12_spent_37 (by decide) ?_
        exact Tr.iret (pc := 38) d_X12_spent_38 rfl ⟨hS, _, rfl, by omega, by omega⟩
      · refine Tr.aload_n (pc := 24) (i := 0) d_X12_spent_24 rfl rfl ?_
        refine Tr.getf (pc := 25) d_X12_spent_25 f_12_294 (by decide) (by decide) (ty_120 hS.1.1) ?_
        refine Tr.tp 174 (fx_120_93 hS.1.1) ?_
        refine Tr.iconst (pc := 28) d_X12_spent_28 (by decide) ?_
        refine Tr.iload_n (pc := 29) (i := 1) d_X12_spent_29 rfl rfl ?_
        refine Tr.imul (pc := 30) d_X12_spent_30 ?_
        refine Tr.tp (4 * a1) ((w32_id (by omega)).trans (by omega)) ?_
        refine Tr.iload_n (pc := 31) (i := 2) d_X12_spent_31 rfl rfl ?_
        refine Tr.iadd (pc := 32) d_X12_spent_32 ?_
        refine Tr.tp (4 * a1 + a2) ((w32_id (by omega)).trans (by omega)) ?_
        refine Tr.iald (pc := 33) d_X12_spent_33 (ty_174 hS.1.1) (by omega) (by omega) ?_
        refine Tr.gen (P := fun v => (-2147483648) ≤ v ∧ v ≤ 2147483647) (ar_174 hS.1.2.1 _) (fun r33 er33 br33 => ?_)
        refine Tr.goto (pc := 34) (tgt := 38) d_X12_spent_34 rfl ?_
        exact Tr.iret (pc := 38) d_X12_spent_38 rfl ⟨hS, _, rfl, by omega, by omega⟩
