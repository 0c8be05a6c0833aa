def ws_X11_fit_0_w1 : List (Int × Int) := [(107, 1)]
def as_X11_fit_0_w1 : List Int := [108, 112]
def q_X11_fit_0_w1 (M0 M' : Mem) (r : Option PV) : Prop := St Tru ws_X11_fit_0_w1 as_X11_fit_0_w1 M0 M' ∧ ∃ v : Int, r = some (0, v) ∧ (-2147483648) ≤ v ∧ v ≤ 2147483647
set_option maxRecDepth 100000 in
set_option maxHeartbeats 4000000 in
theorem sp_X11_fit_0_w1 {l : Launch} {K : EC} {M0 : Mem} (hI : In Tru M0) (en_0_4 : rd M0 0 4 = 27) (a1 : Int) (ha1 : (-2147483648) ≤ a1 ∧ a1 ≤ 2147483647)  : Tr l K 3 mX11_fit 0 [(0, (2, 0)), (1, (0, a1))] [] M0 (q_X11_fit_0_w1 M0) := by
  have hS : St Tru ws_X11_fit_0_w1 as_X11_fit_0_w1 M0 M0 := St.rf hI
  refine Tr.aload_n (pc := 0) (i := 0) d_X11_fit_0 rfl rfl ?_
  refine Tr.iload_n (pc := 1) (i := 1) d_X11_fit_1 rfl rfl ?_
  refine Tr.callV (pc := 2) (as := [_]) d_X11_fit_2 s_11_174 ok_X11_isPart rfl rfl (Nat.le_of_ble_eq_true rfl) (Nat.le_of_ble_eq_true rfl) (by decide) (ty_0 hS.1.1) ?_
  refine Tr.imp (Tr.deep (by decide) (sp_X11_isPart_0_w1 hS.1 ((St.kp hS (by decide) (by decide) (by decide)).trans en_0_4) a1 (by omega))) ?_
  rintro M2 _ ⟨h2, r2, rfl, lr2, ur2, wr2⟩
  have hS := St.tr hS h2 (by decide) (by decide)
  refine Tr.sc [(0, r2)] rfl ?_
  refine Tr.if_eq (pc := 5) (tgt := 18) d_X11_fit_5 rfl (fun c5 => ?_) (fun c5 => ?_)
  · refine Tr.iconst (pc := 18) d_X11_fit_18 (by decide) ?_
    exact Tr.iret (pc := 19) d_X11_fit_19 rfl ⟨hS, _, rfl, by omega, by omega⟩
  · refine Tr.aload_n (pc := 8) (i := 0) d_X11_fit_8 rfl rfl ?_
    refine Tr.getf (pc := 9) d_X11_fit_9 f_11_70 (by decide) (by decide) (ty_0 hS.1.1) ?_
    refine Tr.tp 107 (fx_0_12 hS.1.1) ?_
    refine Tr.getf (pc := 12) d_X11_fit_12 f_11_133 (by decide) (by decide) (ty_107 hS.1.1) ?_
    refine Tr.gen (P := fun v => 0 ≤ v ∧ v ≤ 12) (ir_107_0 hS.1.2.1) (fun r12 er12 br12 => ?_)
    refine Tr.if_ne (pc := 15) (tgt := 20) d_X11_fit_15 rfl (fun c15 => ?_) (fun c15 => ?_)
    · refine Tr.aload_n (pc := 20) (i := 0) d_X11_fit_20 rfl rfl ?_
      refine Tr.getf (pc := 21) d_X11_fit_21 f_11_70 (by decide) (by decide) (ty_0 hS.1.1) ?_
      refine Tr.tp 107 (fx_0_12 hS.1.1) ?_
      refine Tr.aload_n (pc := 24) (i := 0) d_X11_fit_24 rfl rfl ?_
      refine Tr.getf (pc := 25) d_X11_fit_25 f_11_30 (by decide) (by decide) (ty_0 hS.1.1) ?_
      refine Tr.tp 27 ((St.kp hS (by decide) (by decide) (by decide)).trans en_0_4) ?_
      refine Tr.iload_n (pc := 28) (i := 1) d_X11_fit_28 rfl rfl ?_
      refine Tr.callV (pc := 29) (as := [_, _]) d_X11_fit_29 s_11_276 ok_X2_search rfl rfl (Nat.le_of_ble_eq_true rfl) (Nat.le_of_ble_eq_true rfl) (by decide) (ty_107 hS.1.1) ?_
      refine Tr.imp (Tr.deep (by decide) (sp_X2_search_107_27 hS.1 a1 (by omega))) ?_
      rintro M29 _ ⟨h29, r29, rfl, lr29, ur29⟩
      have hS := St.tr hS h29 (by decide) (by decide)
      refine Tr.sc [(0, r29)] rfl ?_
      exact Tr.iret (pc := 32) d_X11_fit_32 rfl ⟨hS, _, rfl, by omega, by omega⟩
    · refine Tr.iconst (pc := 18) d_X11_fit_18 (by decide) ?_
      exact Tr.iret (pc := 19) d_X11_fit_19 rfl ⟨hS, _, rfl, by omega, by omega⟩

def ws_X11_together_0_w1 : List (Int × Int) := [(113, 7)]
def as_X11_together_0_w1 : List Int := [117, 118, 119]
def q_X11_together_0_w1 (M0 M' : Mem) (r : Option PV) : Prop := St Tru ws_X11_together_0_w1 as_X11_together_0_w1 M0 M' ∧ ∃ v : Int, r = some (0, v) ∧ (-2147483648) ≤ v ∧ v ≤ 2147483647
set_option maxRecDepth 100000 in
set_option maxHeartbeats 4000000 in
theorem sp_X11_together_0_w1 {l : Launch} {K : EC} {M0 : Mem} (hI : In Tru M0) (en_0_4 : rd M0 0 4 = 27) (a1 : Int) (ha1 : (-2147483648) ≤ a1 ∧ a1 ≤ 2147483647)  : Tr l K 3 mX11_together 0 [(0, (2, 0)), (1, (0, a1))] [] M0 (q_X11_together_0_w1 M0) := by
  have hS : St Tru ws_X11_together_0_w1 as_X11_together_0_w1 M0 M0 := St.rf hI
  refine Tr.aload_n (pc := 0) (i := 0) d_X11_together_0 rfl rfl ?_
  refine Tr.iload_n (pc := 1) (i := 1) d_X11_together_1 rfl rfl ?_
  refine Tr.callV (pc := 2) (as := [_]) d_X11_together_2 s_11_174 ok_X11_isPart rfl rfl (Nat.le_of_ble_eq_true rfl) (Nat.le_of_ble_eq_true rfl) (by decide) (ty_0 hS.1.1) ?_
  refine Tr.imp (Tr.deep (by decide) (sp_X11_isPart_0_w1 hS.1 ((St.kp hS (by decide) (by decide) (by decide)).trans en_0_4) a1 (by omega))) ?_
  rintro M2 _ ⟨h2, r2, rfl, lr2, ur2, wr2⟩
  have hS := St.tr hS h2 (by decide) (by decide)
  refine Tr.sc [(0, r2)] rfl ?_
  refine Tr.if_eq (pc := 5) (tgt := 18) d_X11_together_5 rfl (fun c5 => ?_) (fun c5 => ?_)
  · refine Tr.iconst (pc := 18) d_X11_together_18 (by decide) ?_
    exact Tr.iret (pc := 19) d_X11_together_19 rfl ⟨hS, _, rfl, by omega, by omega⟩
  · refine Tr.aload_n (pc := 8) (i := 0) d_X11_together_8 rfl rfl ?_
    refine Tr.getf (pc := 9) d_X11_together_9 f_11_77 (by decide) (by decide) (ty_0 hS.1.1) ?_
    refine Tr.tp 113 (fx_0_13 hS.1.1) ?_
    refine Tr.getf (pc := 12) d_X11_together_12 f_11_136 (by decide) (by decide) (ty_113 hS.1.1) ?_
    refine Tr.gen (P := fun v => 0 ≤ v ∧ v ≤ 6) (ir_113_0 hS.1.2.1) (fun r12 er12 br12 => ?_)
    refine Tr.if_ne (pc := 15) (tgt := 20) d_X11_together_15 rfl (fun c15 => ?_) (fun c15 => ?_)
    · refine Tr.aload_n (pc := 20) (i := 0) d_X11_together_20 rfl rfl ?_
      refine Tr.getf (pc := 21) d_X11_together_21 f_11_77 (by decide) (by decide) (ty_0 hS.1.1) ?_
      refine Tr.tp 113 (fx_0_13 hS.1.1) ?_
      refine Tr.aload_n (pc := 24) (i := 0) d_X11_together_24 rfl rfl ?_
      refine Tr.getf (pc := 25) d_X11_together_25 f_11_30 (by decide) (by decide) (ty_0 hS.1.1) ?_
      refine Tr.tp 27 ((St.kp hS (by decide) (by decide) (by decide)).trans en_0_4) ?_
      refine Tr.getf (pc := 28) d_X11_together_28 f_11_289 (by decide) (by decide) (ty_27 hS.1.1) ?_
      refine Tr.tp 29 (fx_27_5 hS.1.1) ?_
      refine Tr.iload_n (pc := 31) (i := 1) d_X11_together_31 rfl rfl ?_
      refine Tr.iconst (pc := 32) d_X11_together_32 (by decide) ?_
      refine Tr.imul (pc := 33) d_X11_together_33 ?_
      refine Tr.tp (4 * a1) ((w32_id (by omega)).trans (by omega)) ?_
      refine Tr.iconst (pc := 34) d_X11_together_34 (by decide) ?_
      refine Tr.iadd (pc := 35) d_X11_together_35 ?_
      refine Tr.tp (4 * a1 + 2) ((w32_id (by omega)).trans (by omega)) ?_
      refine Tr.iald (pc := 36) d_X11_together_36 (ty_29 hS.1.1) (by omega) (by omega) ?_
      refine Tr.gen (P := fun v => (-1) ≤ v ∧ v ≤ 999) (ar_29 hS.1.2.1 _) (fun r36 er36 br36 => ?_)
      refine Tr.aload_n (pc := 37) (i := 0) d_X11_together_37 rfl rfl ?_
      refine Tr.getf (pc := 38) d_X11_together_38 f_11_30 (by decide) (by decide) (ty_0 hS.1.1) ?_
      refine Tr.tp 27 ((St.kp hS (by decide) (by decide) (by decide)).trans en_0_4) ?_
      refine Tr.iload_n (pc := 41) (i := 1) d_X11_together_41 rfl rfl ?_
      refine Tr.callV (pc := 42) (as := [_]) d_X11_together_42 s_11_292 ok_X3_wakeCost rfl rfl (Nat.le_of_ble_eq_true rfl) (Nat.le_of_ble_eq_true rfl) (by decide) (ty_27 hS.1.1) ?_
      refine Tr.imp (Tr.deep (by decide) (sp_X3_wakeCost_27 hS.1 a1 (by omega))) ?_
      rintro M42 _ ⟨h42, r42, rfl, lr42, ur42⟩
      have hS := St.tr hS h42 (by decide) (by decide)
      refine Tr.sc [(0, r42), (0, r36), (2, 113)] rfl ?_
      refine Tr.aload_n (pc := 45) (i := 0) d_X11_together_45 rfl rfl ?_
      refine Tr.getf (pc := 46) d_X11_together_46 f_11_30 (by decide) (by decide) (ty_0 hS.1.1) ?_
      refine Tr.tp 27 ((St.kp hS (by decide) (by decide) (by decide)).trans en_0_4) ?_
      refine Tr.getf (pc := 49) d_X11_together_49 f_11_295 (by decide) (by decide) (ty_27 hS.1.1) ?_
      refine Tr.tp 31 (fx_27_7 hS.1.1) ?_
      refine Tr.iload_n (pc := 52) (i := 1) d_X11_together_52 rfl rfl ?_
      refine Tr.iald (pc := 53) d_X11_together_53 (ty_31 hS.1.1) (by omega) (by omega) ?_
      refine Tr.gen (P := fun v => 0 ≤ v ∧ v ≤ 50) (ar_31 hS.1.2.1 _) (fun r53 er53 br53 => ?_)
      refine Tr.callV (pc := 54) (as := [_, _, _]) d_X11_together_54 s_11_298 ok_X0_arrange rfl rfl (Nat.le_of_ble_eq_true rfl) (Nat.le_of_ble_eq_true rfl) (by decide) (ty_113 hS.1.1) ?_
      refine Tr.imp (Tr.deep (by decide) (sp_X0_arrange_113 hS.1 r36 (by omega) r42 (by omega) r53 (by omega))) ?_
      rintro M54 _ ⟨h54, r54, rfl, lr54, ur54⟩
      have hS := St.tr hS h54 (by decide) (by decide)
      refine Tr.sc [(0, r54)] rfl ?_
      exact Tr.iret (pc := 57) d_X11_together_57 rfl ⟨hS, _, rfl, by omega, by omega⟩
    · refine Tr.iconst (pc := 18) d_X11_together_18 (by decide) ?_
      exact Tr.iret (pc := 19) d_X11_together_19 rfl ⟨hS, _, rfl, by omega, by omega⟩

def ws_X4_spread_35 : List (Int × Int) := []
def as_X4_spread_35 : List Int := [46]
def q_X4_spread_35 (M0 M' : Mem) (r : Option PV) : Prop := St Tru ws_X4_spread_35 as_X4_spread_35 M0 M' ∧ ∃ v : Int, r = some (0, v) ∧ 0 ≤ v ∧ v ≤ 1
set_option maxRecDepth 100000 in
set_option maxHeartbeats 4000000 in
theorem sp_X4_spread_35 {l : Launch} {K : EC} {M0 : Mem} (hI : In Tru M0)  (a1 : Int) (ha1 : (-2147483648) ≤ a1 ∧ a1 ≤ 2147483647) (a2 : Int) (ha2 : (-2147483648) ≤ a2 ∧ a2 ≤ 2147483647)  : Tr l K 0 mX4_spread 0 [(0, (2, 35)), (1, (0, a1)), (2, (0, a2))] [] M0 (q_X4_spread_35 M0) := by
  have hS : St Tru ws_X4_spread_35 as_X4_spread_35 M0 M0 := St.rf hI
  refine Tr.iload_n (pc := 0) (i := 1) d_X4_spread_0 rfl rfl ?_
  refine Tr.if_lt (pc := 1) (tgt := 29) d_X4_spread_1 rfl (fun c1 => ?_) (fun c1 => ?_)
  · refine Tr.iconst (pc := 29) d_X4_spread_29 (by decide) ?_
    exact Tr.zret (pc := 30) d_X4_spread_30 rfl (by omega) ⟨hS, _, rfl, by omega, by omega⟩
  · refine Tr.iload_n (pc := 4) (i := 1) d_X4_spread_4 rfl rfl ?_
    refine Tr.aload_n (pc := 5) (i := 0) d_X4_spread_5 rfl rfl ?_
    refine Tr.getf (pc := 6) d_X4_spread_6 f_4_45 (by decide) (by decide) (ty_35 hS.1.1) ?_
    refine Tr.gen (P := fun v => 0 ≤ v ∧ v ≤ 60) (ir_35_0 hS.1.2.1) (fun r6 er6 br6 => ?_)
    refine Tr.icmp_gt (pc := 9) (tgt := 29) d_X4_spread_9 rfl (fun c9 => ?_) (fun c9 => ?_)
    · refine Tr.iconst (pc := 29) d_X4_spread_29 (by decide) ?_
      exact Tr.zret (pc := 30) d_X4_spread_30 rfl (by omega) ⟨hS, _, rfl, by omega, by omega⟩
    · refine Tr.aload_n (pc := 12) (i := 0) d_X4_spread_12 rfl rfl ?_
      refine Tr.getf (pc := 13) d_X4_spread_13 f_4_42 (by decide) (by decide) (ty_35 hS.1.1) ?_
      refine Tr.tp 46 (fx_35_12 hS.1.1) ?_
      refine Tr.iload_n (pc := 16) (i := 1) d_X4_spread_16 rfl rfl ?_
      refine Tr.iald (pc := 17) d_X4_spread_17 (ty_46 hS.1.1) (by omega) (by omega) ?_
      refine Tr.gen (P := fun v => (-2147483648) ≤ v ∧ v ≤ 2147483647) (ar_46 hS.1.2.1 _) (fun r17 er17 br17 => ?_)
      refine Tr.iload_n (pc := 18) (i := 2) d_X4_spread_18 rfl rfl ?_
      refine Tr.ior (pc := 19) d_X4_spread_19 ?_
      refine Tr.gen (P := fun v => (-2147483648) ≤ v ∧ v ≤ 2147483647) (i32_b _) (fun r19 er19 br19 => ?_)
      refine Tr.aload_n (pc := 20) (i := 0) d_X4_spread_20 rfl rfl ?_
      refine Tr.getf (pc := 21) d_X4_spread_21 f_4_42 (by decide) (by decide) (ty_35 hS.1.1) ?_
      refine Tr.tp 46 (fx_35_12 hS.1.1) ?_
      refine Tr.iload_n (pc := 24) (i := 1) d_X4_spread_24 rfl rfl ?_
      refine Tr.iald (pc := 25) d_X4_spread_25 (ty_46 hS.1.1) (by omega) (by omega) ?_
      refine Tr.tp r17 er17 ?_
      refine Tr.icmp_ne (pc := 26) (tgt := 31) d_X4_spread_26 rfl (fun c26 => ?_) (fun c26 => ?_)
      · refine Tr.aload_n (pc := 31) (i := 0) d_X4_spread_31 rfl rfl ?_
        refine Tr.getf (pc := 32) d_X4_spread_32 f_4_42 (by decide) (by decide) (ty_35 hS.1.1) ?_
        refine Tr.tp 46 (fx_35_12 hS.1.1) ?_
        refine Tr.iload_n (pc := 35) (i := 1) d_X4_spread_35 rfl rfl ?_
        refine Tr.dup2 (pc := 36) d_X4_spread_36 ne01 ne21 ?_
        refine Tr.iald (pc := 37) d_X4_spread_37 (ty_46 hS.1.1) (by omega) (by omega) ?_
        refine Tr.tp r17 er17 ?_
        refine Tr.iload_n (pc := 38) (i := 2) d_X4_spread_38 rfl rfl ?_
        refine Tr.ior (pc := 39) d_X4_spread_39 ?_
        refine Tr.gen (P := fun v => (-2147483648) ≤ v ∧ v ≤ 2147483647) (i32_b _) (fun r39 er39 br39 => ?_)
        refine Tr.iastS (pc := 40) (P := St Tru ws_X4_spread_35 as_X4_spread_35 M0) d_X4_spread_40 (ty_46 hS.1.1) (by omega) (by omega) (sa_46 hS (by decide) (by omega) trivial) (fun M40 hS w40 => ?_)
        refine Tr.iconst (pc := 41) d_X4_spread_41 (by decide) ?_
        exact Tr.zret (pc := 42) d_X4_spread_42 rfl (by omega) ⟨hS, _, rfl, by omega, by omega⟩
      · refine Tr.iconst (pc := 29) d_X4_spread_29 (by decide) ?_
        exact Tr.zret (pc := 30) d_X4_spread_30 rfl (by omega) ⟨hS, _, rfl, by omega, by omega⟩

def ws_X4_heldBehind_35_w13 : List (Int × Int) := []
def as_X4_heldBehind_35_w13 : List Int := []
def q_X4_heldBehind_35_w13 (M0 M' : Mem) (r : Option PV) : Prop := St Tru ws_X4_heldBehind_35_w13 as_X4_heldBehind_35_w13 M0 M' ∧ ∃ v : Int, r = some (0, v) ∧ (-2147483648) ≤ v ∧ v ≤ 2147483647
set_option maxRecDepth 100000 in
set_option maxHeartbeats 4000000 in
theorem sp_X4_heldBehind_35_w13 {l : Launch} {K : EC} {M0 : Mem} (hI : In Tru M0)  (a1 : Int) (ha1 : 0 ≤ a1 ∧ a1 ≤ 59)  : Tr l K 0 mX4_heldBehind 0 [(0, (2, 35)), (1, (0, a1))] [] M0 (q_X4_heldBehind_35_w13 M0) := by
  have hS : St Tru ws_X4_heldBehind_35_w13 as_X4_heldBehind_35_w13 M0 M0 := St.rf hI
  refine Tr.iconst (pc := 0) d_X4_heldBehind_0 (by decide) ?_
  refine Tr.aload_n (pc := 1) (i := 0) d_X4_heldBehind_1 rfl rfl ?_
  refine Tr.getf (pc := 2) d_X4_heldBehind_2 f_4_15 (by decide) (by decide) (ty_35 hS.1.1) ?_
  refine Tr.tp 37 (fx_35_2 hS.1.1) ?_
  refine Tr.iload_n (pc := 5) (i := 1) d_X4_heldBehind_5 rfl rfl ?_
  refine Tr.iald (pc := 6) d_X4_heldBehind_6 (ty_37 hS.1.1) (by omega) (by omega) ?_
  refine Tr.gen (P := fun v => 0 ≤ v ∧ v ≤ 5) (ar_37 hS.1.2.1 _) (fun r6 er6 br6 => ?_)
  refine Tr.ishl (pc := 7) d_X4_heldBehind_7 ?_
  refine Tr.gen (P := fun v => (-2147483648) ≤ v ∧ v ≤ 2147483647) (i32_b _) (fun r7 er7 br7 => ?_)
  refine Tr.istore_n (pc := 8) (i := 2) (ls2 := [(2, (0, r7)), (0, (2, 35)), (1, (0, a1))]) d_X4_heldBehind_8 rfl (by decide) rfl ?_
  refine Tr.aload_n (pc := 9) (i := 0) d_X4_heldBehind_9 rfl rfl ?_
  refine Tr.getf (pc := 10) d_X4_heldBehind_10 f_4_9 (by decide) (by decide) (ty_35 hS.1.1) ?_
  refine Tr.tp 36 (fx_35_1 hS.1.1) ?_
  refine Tr.iload_n (pc := 13) (i := 1) d_X4_heldBehind_13 rfl rfl ?_
  refine Tr.iald (pc := 14) d_X4_heldBehind_14 (ty_36 hS.1.1) (by omega) (by omega) ?_
  refine Tr.gen (P := fun v => (-2147483648) ≤ v ∧ v ≤ 2147483647) (ar_36 hS.1.2.1 _) (fun r14 er14 br14 => ?_)
  refine Tr.bipush (pc := 15) d_X4_heldBehind_15 rfl (by decide) ?_
  refine Tr.icmp_ne (pc := 17) (tgt := 29) d_X4_heldBehind_17 rfl (fun c17 => ?_) (fun c17 => ?_)
  · refine Tr.aload_n (pc := 29) (i := 0) d_X4_heldBehind_29 rfl rfl ?_
    refine Tr.getf (pc := 30) d_X4_heldBehind_30 f_4_9 (by decide) (by decide) (ty_35 hS.1.1) ?_
    refine Tr.tp 36 (fx_35_1 hS.1.1) ?_
    refine Tr.iload_n (pc := 33) (i := 1) d_X4_heldBehind_33 rfl rfl ?_
    refine Tr.iald (pc := 34) d_X4_heldBehind_34 (ty_36 hS.1.1) (by omega) (by omega) ?_
    refine Tr.tp r14 er14 ?_
    refine Tr.bipush (pc := 35) d_X4_heldBehind_35 rfl (by decide) ?_
    refine Tr.icmp_ne (pc := 37) (tgt := 53) d_X4_heldBehind_37 rfl (fun c37 => ?_) (fun c37 => ?_)
    · refine Tr.aload_n (pc := 53) (i := 0) d_X4_heldBehind_53 rfl rfl ?_
      refine Tr.getf (pc := 54) d_X4_heldBehind_54 f_4_42 (by decide) (by decide) (ty_35 hS.1.1) ?_
      refine Tr.tp 46 (fx_35_12 hS.1.1) ?_
      refine Tr.iload_n (pc := 57) (i := 1) d_X4_heldBehind_57 rfl rfl ?_
      refine Tr.iald (pc := 58) d_X4_heldBehind_58 (ty_46 hS.1.1) (by omega) (by omega) ?_
      refine Tr.gen (P := fun v => (-2147483648) ≤ v ∧ v ≤ 2147483647) (ar_46 hS.1.2.1 _) (fun r58 er58 br58 => ?_)
      exact Tr.iret (pc := 59) d_X4_heldBehind_59 rfl ⟨hS, _, rfl, by omega, by omega⟩
    · refine Tr.aload_n (pc := 40) (i := 0) d_X4_heldBehind_40 rfl rfl ?_
      refine Tr.getf (pc := 41) d_X4_heldBehind_41 f_4_42 (by decide) (by decide) (ty_35 hS.1.1) ?_
      refine Tr.tp 46 (fx_35_12 hS.1.1) ?_
      refine Tr.iload_n (pc := 44) (i := 1) d_X4_heldBehind_44 rfl rfl ?_
      refine Tr.iald (pc := 45) d_X4_heldBehind_45 (ty_46 hS.1.1) (by omega) (by omega) ?_
      refine Tr.gen (P := fun v => (-2147483648) ≤ v ∧ v ≤ 2147483647) (ar_46 hS.1.2.1 _) (fun r45 er45 br45 => ?_)
      refine Tr.iload_n (pc := 46) (i := 2) d_X4_heldBehind_46 rfl rfl ?_
      refine Tr.iconst (pc := 47) d_X4_heldBehind_47 (by decide) ?_
      refine Tr.ixor (pc := 48) d_X4_heldBehind_48 ?_
      refine Tr.gen (P := fun v => ((v < 0 ↔ ¬ (r7 < 0 ↔ (-1) < 0)) ∧ (-2147483648 ≤ v ∧ v ≤ 2147483647))) (f_ixor_s (by omega) (by omega)) (fun r48 er48 br48 => ?_)
      refine Tr.iand (pc := 49) d_X4_heldBehind_49 ?_
      refine Tr.gen (P := fun v => (-2147483648) ≤ v ∧ v ≤ 2147483647) (i32_b _) (fun r49 er49 br49 => ?_)
      refine Tr.goto (pc := 50) (tgt := 59) d_X4_heldBehind_50 rfl ?_
      exact Tr.iret (pc := 59) d_X4_heldBehind_59 rfl ⟨hS, _, rfl, by omega, by omega⟩
  · refine Tr.aload_n (pc := 20) (i := 0) d_X4_heldBehind_20 rfl rfl ?_
    refine Tr.getf (pc := 21) d_X4_heldBehind_21 f_4_42 (by decide) (by decide) (ty_35 hS.1.1) ?_
    refine Tr.tp 46 (fx_35_12 hS.1.1) ?_
    refine Tr.iload_n (pc := 24) (i := 1) d_X4_heldBehind_24 rfl rfl ?_
    refine Tr.iald (pc := 25) d_X4_heldBehind_25 (ty_46 hS.1.1) (by omega) (by omega) ?_
    refine Tr.gen (P := fun v => (-2147483648) ≤ v ∧ v ≤ 2147483647) (ar_46 hS.1.2.1 _) (fun r25 er25 br25 => ?_)
    refine Tr.iload_n (pc := 26) (i := 2) d_X4_heldBehind_26 rfl rfl ?_
    refine Tr.ior (pc := 27) d_X4_heldBehind_27 ?_
    refine Tr.gen (P := fun v => (-2147483648) ≤ v ∧ v ≤ 2147483647) (i32_b _) (fun r27 er27 br27 => ?_)
    exact Tr.iret (pc := 28) d_X4_heldBehind_28 rfl ⟨hS, _, rfl, by omega, by omega⟩

def ws_X4_heldAtEnd_35 : List (Int × Int) := []
def as_X4_heldAtEnd_35 : List Int := [46]
def q_X4_heldAtEnd_35 (M0 M' : Mem) (r : Option PV) : Prop := St Tru ws_X4_heldAtEnd_35 as_X4_heldAtEnd_35 M0 M' ∧ ∃ v : Int, r = some (0, v) ∧ (-2147483648) ≤ v ∧ v ≤ 2147483647
set_option maxRecDepth 100000 in
set_option maxHeartbeats 4000000 in
theorem sp_X4_heldAtEnd_35 {l : Launch} {K : EC} {M0 : Mem} (hI : In Tru M0)    : Tr l K 1 mX4_heldAtEnd 0 [(0, (2, 35))] [] M0 (q_X4_heldAtEnd_35 M0) := by
  have hS : St Tru ws_X4_heldAtEnd_35 as_X4_heldAtEnd_35 M0 M0 := St.rf hI
  refine Tr.aload_n (pc := 0) (i := 0) d_X4_heldAtEnd_0 rfl rfl ?_
  refine Tr.getf (pc := 1) d_X4_heldAtEnd_1 f_4_42 (by decide) (by decide) (ty_35 hS.1.1) ?_
  refine Tr.tp 46 (fx_35_12 hS.1.1) ?_
  refine Tr.iconst (pc := 4) d_X4_heldAtEnd_4 (by decide) ?_
  refine Tr.callS (pc := 5) (as := [_, _]) d_X4_heldAtEnd_5 s_4_58 ok_J7_fill_53178 rfl rfl (Nat.le_of_ble_eq_true rfl) (Nat.le_of_ble_eq_true rfl) ?_
  refine Tr.imp (sp_fill (N := 61) (ty_46 hS.1.1) (by decide)) ?_
  rintro _ _ ⟨rfl, rfl⟩
  refine Tr.nmA (P := St Tru ws_X4_heldAtEnd_35 as_X4_heldAtEnd_35 M0) (sf_46 (v := 0) 61 hS (by decide) (by omega) trivial) (fil_wa _ _ _ _) (fun M5 hS w5 => ?_)
  refine Tr.sc [] rfl ?_
  refine Tr.iconst (pc := 8) d_X4_heldAtEnd_8 (by decide) ?_
  refine Tr.istore_n (pc := 9) (i := 1) (ls2 := [(1, (0, 1)), (0, (2, 35))]) d_X4_heldAtEnd_9 rfl (by decide) rfl ?_
  refine Tr.iconst (pc := 10) d_X4_heldAtEnd_10 (by decide) ?_
  refine Tr.istore_n (pc := 11) (i := 2) (ls2 := [(2, (0, 0)), (1, (0, 1)), (0, (2, 35))]) d_X4_heldAtEnd_11 rfl (by decide) rfl ?_
  have J12 : ∀ (n12 : Nat) (M : Mem) (p12_1 p12_2 : Int), St Tru ws_X4_heldAtEnd_35 as_X4_heldAtEnd_35 M0 M → (0 ≤ p12_1 ∧ p12_1 ≤ 1) → (0 ≤ p12_2 ∧ p12_2 ≤ 400) → (400 - p12_2).toNat < n12 → Tr l K 1 mX4_heldAtEnd 12 [(0, (2, 35)), (1, (0, p12_1)), (2, (0, p12_2))] [] M (q_X4_heldAtEnd_35 M0) := by
    intro n12
    induction n12 with
    | zero => intro M p12_1 p12_2 hS bp12_1 bp12_2  hm12; exact absurd hm12 (Nat.not_lt_zero _)
    | succ n12 J12 =>
      intro M p12_1 p12_2 hS bp12_1 bp12_2  hm12
      refine Tr.iload_n (pc := 12) (i := 2) d_X4_heldAtEnd_12 rfl rfl ?_
      refine Tr.sipush (pc := 13) d_X4_heldAtEnd_13 rfl (by decide) ?_
      refine Tr.icmp_gt (pc := 16) (tgt := 102) d_X4_heldAtEnd_16 rfl (fun c16 => ?_) (fun c16 => ?_)
      · refine Tr.aload_n (pc := 102) (i := 0) d_X4_heldAtEnd_102 rfl rfl ?_
        refine Tr.getf (pc := 103) d_X4_heldAtEnd_103 f_4_42 (by decide) (by decide) (ty_35 hS.1.1) ?_
        refine Tr.tp 46 (fx_35_12 hS.1.1) ?_
        refine Tr.aload_n (pc := 106) (i := 0) d_X4_heldAtEnd_106 rfl rfl ?_
        refine Tr.getf (pc := 107) d_X4_heldAtEnd_107 f_4_45 (by decide) (by decide) (ty_35 hS.1.1) ?_
        refine Tr.gen (P := fun v => 0 ≤ v ∧ v ≤ 60) (ir_35_0 hS.1.2.1) (fun r107 er107 br107 => ?_)
        refine Tr.iald (pc := 110) d_X4_heldAtEnd_110 (ty_46 hS.1.1) (by omega) (by omega) ?_
        refine Tr.gen (P := fun v => (-2147483648) ≤ v ∧ v ≤ 2147483647) (ar_46 hS.1.2.1 _) (fun r110 er110 br110 => ?_)
        exact Tr.iret (pc := 111) d_X4_heldAtEnd_111 rfl ⟨hS, _, rfl, by omega, by omega⟩
      · refine Tr.iload_n (pc := 19) (i := 1) d_X4_heldAtEnd_19 rfl rfl ?_
        refine Tr.if_eq (pc := 20) (tgt := 102) d_X4_heldAtEnd_20 rfl (fun c20 => ?_) (fun c20 => ?_)
        · refine Tr.aload_n (pc := 102) (i := 0) d_X4_heldAtEnd_102 rfl rfl ?_
          refine Tr.getf (pc := 103) d_X4_heldAtEnd_103 f_4_42 (by decide) (by decide) (ty_35 hS.1.1) ?_
          refine Tr.tp 46 (fx_35_12 hS.1.1) ?_
          refine Tr.aload_n (pc := 106) (i := 0) d_X4_heldAtEnd_106 rfl rfl ?_
          refine Tr.getf (pc := 107) d_X4_heldAtEnd_107 f_4_45 (by decide) (by decide) (ty_35 hS.1.1) ?_
          refine Tr.gen (P := fun v => 0 ≤ v ∧ v ≤ 60) (ir_35_0 hS.1.2.1) (fun r107 er107 br107 => ?_)
          refine Tr.iald (pc := 110) d_X4_heldAtEnd_110 (ty_46 hS.1.1) (by omega) (by omega) ?_
          refine Tr.gen (P := fun v => (-2147483648) ≤ v ∧ v ≤ 2147483647) (ar_46 hS.1.2.1 _) (fun r110 er110 br110 => ?_)
          exact Tr.iret (pc := 111) d_X4_heldAtEnd_111 rfl ⟨hS, _, rfl, by omega, by omega⟩
        · refine Tr.iconst (pc := 23) d_X4_heldAtEnd_23 (by decide) ?_
          refine Tr.istore_n (pc := 24) (i := 1) (ls2 := [(1, (0, 0)), (0, (2, 35)), (2, (0, p12_2))]) d_X4_heldAtEnd_24 rfl (by decide) rfl ?_
          refine Tr.iconst (pc := 25) d_X4_heldAtEnd_25 (by decide) ?_
          refine Tr.istore_n (pc := 26) (i := 3) (ls2 := [(3, (0, 0)), (1, (0, 0)), (0, (2, 35)), (2, (0, p12_2))]) d_X4_heldAtEnd_26 rfl (by decide) rfl ?_
          have J27 : ∀ (n27 : Nat) (M : Mem) (p27_1 p27_3 : Int), St Tru ws_X4_heldAtEnd_35 as_X4_heldAtEnd_35 M0 M → (0 ≤ p27_1 ∧ p27_1 ≤ 1) → (0 ≤ p27_3 ∧ p27_3 ≤ 60) → (0 ≤ p12_2 ∧ p12_2 ≤ 399) → (60 - p27_3).toNat < n27 → Tr l K 1 mX4_heldAtEnd 27 [(0, (2, 35)), (1, (0, p27_1)), (2, (0, p12_2)), (3, (0, p27_3))] [] M (q_X4_heldAtEnd_35 M0) := by
            intro n27
            induction n27 with
            | zero => intro M p27_1 p27_3 hS bp27_1 bp27_3 z27p12_2  hm27; exact absurd hm27 (Nat.not_lt_zero _)
            | succ n27 J27 =>
              intro M p27_1 p27_3 hS bp27_1 bp27_3 z27p12_2  hm27
              refine Tr.iload_n (pc := 27) (i := 3) d_X4_heldAtEnd_27 rfl rfl ?_
              refine Tr.aload_n (pc := 28) (i := 0) d_X4_heldAtEnd_28 rfl rfl ?_
              refine Tr.getf (pc := 29) d_X4_heldAtEnd_29 f_4_45 (by decide) (by decide) (ty_35 hS.1.1) ?_
              refine Tr.gen (P := fun v => 0 ≤ v ∧ v ≤ 60) (ir_35_0 hS.1.2.1) (fun r29 er29 br29 => ?_)
              refine Tr.icmp_ge (pc := 32) (tgt := 96) d_X4_heldAtEnd_32 rfl (fun c32 => ?_) (fun c32 => ?_)
              · refine Tr.iincV (pc := 96) (n2 := (p12_2 + 1)) (ls2 := [(2, (0, (p12_2 + 1))), (0, (2, 35)), (1, (0, p27_1)), (3, (0, p27_3))]) d_X4_heldAtEnd_96 rfl (by decide) ((w32_id (by omega)).trans (by omega)) rfl ?_
                refine Tr.goto (pc := 99) (tgt := 12) d_X4_heldAtEnd_99 rfl ?_
                refine Tr.pick [1, 2, 0] (ls2 := [(0, (2, 35)), (1, (0, p27_1)), (2, (0, (p12_2 + 1)))]) rfl ?_
                exact J12 _ _ _ hS (by omega) (by omega) (by omega)
              · refine Tr.aload_n (pc := 35) (i := 0) d_X4_heldAtEnd_35 rfl rfl ?_
                refine Tr.iload_n (pc := 36) (i := 3) d_X4_heldAtEnd_36 rfl rfl ?_
                refine Tr.callV (pc := 37) (as := [_]) d_X4_heldAtEnd_37 s_4_64 ok_X4_heldBehind rfl rfl (Nat.le_of_ble_eq_true rfl) (Nat.le_of_ble_eq_true rfl) (by decide) (ty_35 hS.1.1) ?_
                refine Tr.imp (Tr.deep (by decide) (sp_X4_heldBehind_35_w13 hS.1 p27_3 (by omega))) ?_
                rintro M37 _ ⟨h37, r37, rfl, lr37, ur37⟩
                have hS := St.tr hS h37 (by decide) (by decide)
                refine Tr.sc [(0, r37)] rfl ?_
                refine Tr.istore (pc := 40) (i := 4) (ls2 := [(4, (0, r37)), (0, (2, 35)), (1, (0, p27_1)), (2, (0, p12_2)), (3, (0, p27_3))]) d_X4_heldAtEnd_40 (by decide) rfl ?_
                refine Tr.aload_n (pc := 42) (i := 0) d_X4_heldAtEnd_42 rfl rfl ?_
                refine Tr.aload_n (pc := 43) (i := 0) d_X4_heldAtEnd_43 rfl rfl ?_
                refine Tr.getf (pc := 44) d_X4_heldAtEnd_44 f_4_21 (by decide) (by decide) (ty_35 hS.1.1) ?_
                refine Tr.tp 39 (fx_35_4 hS.1.1) ?_
                refine Tr.iload_n (pc := 47) (i := 3) d_X4_heldAtEnd_47 rfl rfl ?_
                refine Tr.iald (pc := 48) d_X4_heldAtEnd_48 (ty_39 hS.1.1) (by omega) (by omega) ?_
                refine Tr.gen (P := fun v => (-2147483648) ≤ v ∧ v ≤ 2147483647) (ar_39 hS.1.2.1 _) (fun r48 er48 br48 => ?_)
                refine Tr.iload (pc := 49) (i := 4) d_X4_heldAtEnd_49 rfl ?_
                refine Tr.callV (pc := 51) (as := [_, _]) d_X4_heldAtEnd_51 s_4_67 ok_X4_spread rfl rfl (Nat.le_of_ble_eq_true rfl) (Nat.le_of_ble_eq_true rfl) (by decide) (ty_35 hS.1.1) ?_
                refine Tr.imp (Tr.deep (by decide) (sp_X4_spread_35 hS.1 r48 (by omega) r37 (by omega))) ?_
                rintro M51 _ ⟨h51, r51, rfl, lr51, ur51⟩
                have hS := St.tr hS h51 (by decide) (by decide)
                refine Tr.sc [(0, r51)] rfl ?_
                refine Tr.istore (pc := 54) (i := 5) (ls2 := [(5, (0, r51)), (4, (0, r37)), (0, (2, 35)), (1, (0, p27_1)), (2, (0, p12_2)), (3, (0, p27_3))]) d_X4_heldAtEnd_54 (by decide) rfl ?_
                refine Tr.aload_n (pc := 56) (i := 0) d_X4_heldAtEnd_56 rfl rfl ?_
                refine Tr.aload_n (pc := 57) (i := 0) d_X4_heldAtEnd_57 rfl rfl ?_
                refine Tr.getf (pc := 58) d_X4_heldAtEnd_58 f_4_24 (by decide) (by decide) (ty_35 hS.1.1) ?_
                refine Tr.tp 40 (fx_35_5 hS.1.1) ?_
                refine Tr.iload_n (pc := 61) (i := 3) d_X4_heldAtEnd_61 rfl rfl ?_
                refine Tr.iald (pc := 62) d_X4_heldAtEnd_62 (ty_40 hS.1.1) (by omega) (by omega) ?_
                refine Tr.gen (P := fun v => (-2147483648) ≤ v ∧ v ≤ 2147483647) (ar_40 hS.1.2.1 _) (fun r62 er62 br62 => ?_)
                refine Tr.iload (pc := 63) (i := 4) d_X4_heldAtEnd_63 rfl ?_
                refine Tr.callV (pc := 65) (as := [_, _]) d_X4_heldAtEnd_65 s_4_67 ok_X4_spread rfl rfl (Nat.le_of_ble_eq_true rfl) (Nat.le_of_ble_eq_true rfl) (by decide) (ty_35 hS.1.1) ?_
                refine Tr.imp (Tr.deep (by decide) (sp_X4_spread_35 hS.1 r62 (by omega) r37 (by omega))) ?_
                rintro M65 _ ⟨h65, r65, rfl, lr65, ur65⟩
                have hS := St.tr hS h65 (by decide) (by decide)
                refine Tr.sc [(0, r65)] rfl ?_
                refine Tr.istore (pc := 68) (i := 6) (ls2 := [(6, (0, r65)), (5, (0, r51)), (4, (0, r37)), (0, (2, 35)), (1, (0, p27_1)), (2, (0, p12_2)), (3, (0, p27_3))]) d_X4_heldAtEnd_68 (by decide) rfl ?_
                refine Tr.iload_n (pc := 70) (i := 1) d_X4_heldAtEnd_70 rfl rfl ?_
                have J89 : ∀ (M : Mem) (q89_0 : Int), St Tru ws_X4_heldAtEnd_35 as_X4_heldAtEnd_35 M0 M → (0 ≤ q89_0 ∧ q89_0 ≤ 1) → rd M 35 0 = r29 → rd M 39 p27_3 = r48 → rd M 40 p27_3 = r62 → Tr l K 1 mX4_heldAtEnd 89 [(0, (2, 35)), (2, (0, p12_2)), (3, (0, p27_3))] [(0, q89_0)] M (q_X4_heldAtEnd_35 M0) := by
                  intro M q89_0 hS bq89_0 k89_35_0 k89_39_p27_310 k89_40_p27_310
                  refine Tr.istore_n (pc := 89) (i := 1) (ls2 := [(1, (0, q89_0)), (0, (2, 35)), (2, (0, p12_2)), (3, (0, p27_3))]) d_X4_heldAtEnd_89 rfl (by decide) rfl ?_
                  refine Tr.iincV (pc := 90) (n2 := (p27_3 + 1)) (ls2 := [(3, (0, (p27_3 + 1))), (1, (0, q89_0)), (0, (2, 35)), (2, (0, p12_2))]) d_X4_heldAtEnd_90 rfl (by decide) ((w32_id (by omega)).trans (by omega)) rfl ?_
                  refine Tr.goto (pc := 93) (tgt := 27) d_X4_heldAtEnd_93 rfl ?_
                  refine Tr.pick [2, 1, 3, 0] (ls2 := [(0, (2, 35)), (1, (0, q89_0)), (2, (0, p12_2)), (3, (0, (p27_3 + 1)))]) rfl ?_
                  exact J27 _ _ _ hS (by omega) (by omega) (by omega) (by omega)
                have J84 : ∀ (M : Mem), St Tru ws_X4_heldAtEnd_35 as_X4_heldAtEnd_35 M0 M → rd M 35 0 = r29 → rd M 39 p27_3 = r48 → rd M 40 p27_3 = r62 → Tr l K 1 mX4_heldAtEnd 84 [(0, (2, 35)), (2, (0, p12_2)), (3, (0, p27_3))] [] M (q_X4_heldAtEnd_35 M0) := by
                  intro M  hS  k84_35_0 k84_39_p27_310 k84_40_p27_310
                  refine Tr.iconst (pc := 84) d_X4_heldAtEnd_84 (by decide) ?_
                  refine Tr.goto (pc := 85) (tgt := 89) d_X4_heldAtEnd_85 rfl ?_
                  refine Tr.pick [0, 1, 2] (ls2 := [(0, (2, 35)), (2, (0, p12_2)), (3, (0, p27_3))]) rfl ?_
                  exact J89 _ _ hS (by omega) k84_35_0 k84_39_p27_310 k84_40_p27_310
                refine Tr.if_ne (pc := 71) (tgt := 84) d_X4_heldAtEnd_71 rfl (fun c71 => ?_) (fun c71 => ?_)
                · refine Tr.pick [3, 5, 6] (ls2 := [(0, (2, 35)), (2, (0, p12_2)), (3, (0, p27_3))]) rfl ?_
                  exact J84 _ hS ((St.kp h65 (by decide) (by decide) (by decide)).trans ((St.kp h51 (by decide) (by decide) (by decide)).trans ((St.kp h37 (by decide) (by decide) (by decide)).trans er29))) ((St.ka h65 (by decide) (by decide) (by decide)).trans ((St.ka h51 (by decide) (by decide) (by decide)).trans er48)) ((St.ka h65 (by decide) (by decide) (by decide)).trans er62)
                · refine Tr.iload (pc := 74) (i := 5) d_X4_heldAtEnd_74 rfl ?_
                  refine Tr.if_ne (pc := 76) (tgt := 84) d_X4_heldAtEnd_76 rfl (fun c76 => ?_) (fun c76 => ?_)
                  · refine Tr.pick [3, 5, 6] (ls2 := [(0, (2, 35)), (2, (0, p12_2)), (3, (0, p27_3))]) rfl ?_
                    exact J84 _ hS ((St.kp h65 (by decide) (by decide) (by decide)).trans ((St.kp h51 (by decide) (by decide) (by decide)).trans ((St.kp h37 (by decide) (by decide) (by decide)).trans er29))) ((St.ka h65 (by decide) (by decide) (by decide)).trans ((St.ka h51 (by decide) (by decide) (by decide)).trans er48)) ((St.ka h65 (by decide) (by decide) (by decide)).trans er62)
                  · refine Tr.iload (pc := 79) (i := 6) d_X4_heldAtEnd_79 rfl ?_
                    refine Tr.if_eq (pc := 81) (tgt := 88) d_X4_heldAtEnd_81 rfl (fun c81 => ?_) (fun c81 => ?_)
                    · refine Tr.iconst (pc := 88) d_X4_heldAtEnd_88 (by decide) ?_
                      refine Tr.pick [3, 5, 6] (ls2 := [(0, (2, 35)), (2, (0, p12_2)), (3, (0, p27_3))]) rfl ?_
                      exact J89 _ _ hS (by omega) ((St.kp h65 (by decide) (by decide) (by decide)).trans ((St.kp h51 (by decide) (by decide) (by decide)).trans ((St.kp h37 (by decide) (by decide) (by decide)).trans er29))) ((St.ka h65 (by decide) (by decide) (by decide)).trans ((St.ka h51 (by decide) (by decide) (by decide)).trans er48)) ((St.ka h65 (by decide) (by decide) (by decide)).trans er62)
                    · refine Tr.pick [3, 5, 6] (ls2 := [(0, (2, 35)), (2, (0, p12_2)), (3, (0, p27_3))]) rfl ?_
                      exact J84 _ hS ((St.kp h65 (by decide) (by decide) (by decide)).trans ((St.kp h51 (by decide) (by decide) (by decide)).trans ((St.kp h37 (by decide) (by decide) (by decide)).trans er29))) ((St.ka h65 (by decide) (by decide) (by decide)).trans ((St.ka h51 (by decide) (by decide) (by decide)).trans er48)) ((St.ka h65 (by decide) (by decide) (by decide)).trans er62)
          refine Tr.pick [2, 1, 3, 0] (ls2 := [(0, (2, 35)), (1, (0, 0)), (2, (0, p12_2)), (3, (0, 0))]) rfl ?_
          exact J27 _ _ _ _ hS (by omega) (by omega) (by omega) (Nat.lt_succ_self _)
  refine Tr.pick [2, 1, 0] (ls2 := [(0, (2, 35)), (1, (0, 1)), (2, (0, 0))]) rfl ?_
  exact J12 _ _ _ _ hS (by omega) (by omega) (Nat.lt_succ_self _)

def ws_X11_never_0_w1 : List (Int × Int) := []
def as_X11_never_0_w1 : List Int := [46]
def q_X11_never_0_w1 (M0 M' : Mem) (r : Option PV) : Prop := St Tru ws_X11_never_0_w1 as_X11_never_0_w1 M0 M' ∧ ∃ v : Int, r = some (0, v) ∧ (-2147483648) ≤ v ∧ v ≤ 2147483647
set_option maxRecDepth 100000 in
set_option maxHeartbeats 4000000 in
theorem sp_X11_never_0_w1 {l : Launch} {K : EC} {M0 : Mem} (hI : In Tru M0) (en_0_4 : rd M0 0 4 = 27)   : Tr l K 2 mX11_never 0 [(0, (2, 0))] [] M0 (q_X11_never_0_w1 M0) := by
  have hS : St Tru ws_X11_never_0_w1 as_X11_never_0_w1 M0 M0 := St.rf hI
  refine Tr.aload_n (pc := 0) (i := 0) d_X11_never_0 rfl rfl ?_
  refine Tr.getf (pc := 1) d_X11_never_1 f_11_30 (by decide) (by decide) (ty_0 hS.1.1) ?_
  refine Tr.tp 27 ((St.kp hS (by decide) (by decide) (by decide)).trans en_0_4) ?_
  refine Tr.getf (pc := 4) d_X11_never_4 f_11_115 (by decide) (by decide) (ty_27 hS.1.1) ?_
  refine Tr.tp 35 (fx_27_11 hS.1.1) ?_
  refine Tr.callV (pc := 7) (as := []) d_X11_never_7 s_11_307 ok_X4_heldAtEnd rfl rfl (Nat.le_of_ble_eq_true rfl) (Nat.le_of_ble_eq_true rfl) (by decide) (ty_35 hS.1.1) ?_
  refine Tr.imp (Tr.deep (by decide) (sp_X4_heldAtEnd_35 hS.1 )) ?_
  rintro M7 _ ⟨h7, r7, rfl, lr7, ur7⟩
  have hS := St.tr hS h7 (by decide) (by decide)
  refine Tr.sc [(0, r7)] rfl ?_
  exact Tr.iret (pc := 10) d_X11_never_10 rfl ⟨hS, _, rfl, by omega, by omega⟩

def ws_X3_sleepOfAll_27 : List (Int × Int) := []
def as_X3_sleepOfAll_27 : List Int := []
def q_X3_sleepOfAll_27 (M0 M' : Mem) (r : Option PV) : Prop := St Tru ws_X3_sleepOfAll_27 as_X3_sleepOfAll_27 M0 M' ∧ ∃ v : Int, r = some (0, v) ∧ (-2147483648) ≤ v ∧ v ≤ 2147483647
set_option maxRecDepth 100000 in
set_option maxHeartbeats 4000000 in
theorem sp_X3_sleepOfAll_27 {l : Launch} {K : EC} {M0 : Mem} (hI : In Tru M0)    : Tr l K 0 mX3_sleepOfAll 0 [(0, (2, 27))] [] M0 (q_X3_sleepOfAll_27 M0) := by
  have hS : St Tru ws_X3_sleepOfAll_27 as_X3_sleepOfAll_27 M0 M0 := St.rf hI
  refine Tr.iconst (pc := 0) d_X3_sleepOfAll_0 (by decide) ?_
  refine Tr.istore_n (pc := 1) (i := 1) (ls2 := [(1, (0, 0)), (0, (2, 27))]) d_X3_sleepOfAll_1 rfl (by decide) rfl ?_
  refine Tr.iconst (pc := 2) d_X3_sleepOfAll_2 (by decide) ?_
  refine Tr.istore_n (pc := 3) (i := 2) (ls2 := [(2, (0, 0)), (1, (0, 0)), (0, (2, 27))]) d_X3_sleepOfAll_3 rfl (by decide) rfl ?_
  have J4 : ∀ (n4 : Nat) (M : Mem) (p4_1 p4_2 : Int), St Tru ws_X3_sleepOfAll_27 as_X3_sleepOfAll_27 M0 M → ((-2147483648) ≤ p4_1 ∧ p4_1 ≤ 2147483647) → (0 ≤ p4_2 ∧ p4_2 ≤ 6) → (6 - p4_2).toNat < n4 → Tr l K 0 mX3_sleepOfAll 4 [(0, (2, 27)), (1, (0, p4_1)), (2, (0, p4_2))] [] M (q_X3_sleepOfAll_27 M0) := by
    intro n4
    induction n4 with
    | zero => intro M p4_1 p4_2 hS bp4_1 bp4_2  hm4; exact absurd hm4 (Nat.not_lt_zero _)
    | succ n4 J4 =>
      intro M p4_1 p4_2 hS bp4_1 bp4_2  hm4
      refine Tr.iload_n (pc := 4) (i := 2) d_X3_sleepOfAll_4 rfl rfl ?_
      refine Tr.aload_n (pc := 5) (i := 0) d_X3_sleepOfAll_5 rfl rfl ?_
      refine Tr.getf (pc := 6) d_X3_sleepOfAll_6 f_3_11 (by decide) (by decide) (ty_27 hS.1.1) ?_
      refine Tr.tp 28 (fx_27_4 hS.1.1) ?_
      refine Tr.iconst (pc := 9) d_X3_sleepOfAll_9 (by decide) ?_
      refine Tr.iald (pc := 10) d_X3_sleepOfAll_10 (ty_28 hS.1.1) (by omega) (by omega) ?_
      refine Tr.gen (P := fun v => 0 ≤ v ∧ v ≤ 6) (ir_28_0 hS.1.2.1) (fun r10 er10 br10 => ?_)
      refine Tr.icmp_ge (pc := 11) (tgt := 33) d_X3_sleepOfAll_11 rfl (fun c11 => ?_) (fun c11 => ?_)
      · refine Tr.iload_n (pc := 33) (i := 1) d_X3_sleepOfAll_33 rfl rfl ?_
        exact Tr.iret (pc := 34) d_X3_sleepOfAll_34 rfl ⟨hS, _, rfl, by omega, by omega⟩
      · refine Tr.iload_n (pc := 14) (i := 1) d_X3_sleepOfAll_14 rfl rfl ?_
        refine Tr.aload_n (pc := 15) (i := 0) d_X3_sleepOfAll_15 rfl rfl ?_
        refine Tr.getf (pc := 16) d_X3_sleepOfAll_16 f_3_15 (by decide) (by decide) (ty_27 hS.1.1) ?_
        refine Tr.tp 29 (fx_27_5 hS.1.1) ?_
        refine Tr.iload_n (pc := 19) (i := 2) d_X3_sleepOfAll_19 rfl rfl ?_
        refine Tr.iconst (pc := 20) d_X3_sleepOfAll_20 (by decide) ?_
        refine Tr.imul (pc := 21) d_X3_sleepOfAll_21 ?_
        refine Tr.tp (4 * p4_2) ((w32_id (by omega)).trans (by omega)) ?_
        refine Tr.iconst (pc := 22) d_X3_sleepOfAll_22 (by decide) ?_
        refine Tr.iadd (pc := 23) d_X3_sleepOfAll_23 ?_
        refine Tr.tp (4 * p4_2) ((w32_id (by omega)).trans (by omega)) ?_
        refine Tr.iald (pc := 24) d_X3_sleepOfAll_24 (ty_29 hS.1.1) (by omega) (by omega) ?_
        refine Tr.gen (P := fun v => (-1) ≤ v ∧ v ≤ 999) (ar_29 hS.1.2.1 _) (fun r24 er24 br24 => ?_)
        refine Tr.iadd (pc := 25) d_X3_sleepOfAll_25 ?_
        refine Tr.gen (P := fun v => (-2147483648) ≤ v ∧ v ≤ 2147483647) (w32_b _) (fun r25 er25 br25 => ?_)
        refine Tr.istore_n (pc := 26) (i := 1) (ls2 := [(1, (0, r25)), (0, (2, 27)), (2, (0, p4_2))]) d_X3_sleepOfAll_26 rfl (by decide) rfl ?_
        refine Tr.iincV (pc := 27) (n2 := (p4_2 + 1)) (ls2 := [(2, (0, (p4_2 + 1))), (1, (0, r25)), (0, (2, 27))]) d_X3_sleepOfAll_27 rfl (by decide) ((w32_id (by omega)).trans (by omega)) rfl ?_
        refine Tr.goto (pc := 30) (tgt := 4) d_X3_sleepOfAll_30 rfl ?_
        refine Tr.pick [2, 1, 0] (ls2 := [(0, (2, 27)), (1, (0, r25)), (2, (0, (p4_2 + 1)))]) rfl ?_
        exact J4 _ _ _ hS (by omega) (by omega) (by omega)
  refine Tr.pick [2, 1, 0] (ls2 := [(0, (2, 27)), (1, (0, 0)), (2, (0, 0))]) rfl ?_
  exact J4 _ _ _ _ hS (by omega) (by omega) (Nat.lt_succ_self _)

def ws_X11_lasts_0_w2 : List (Int × Int) := []
def as_X11_lasts_0_w2 : List Int := []
def q_X11_lasts_0_w2 (M0 M' : Mem) (r : Option PV) : Prop := St Tru ws_X11_lasts_0_w2 as_X11_lasts_0_w2 M0 M' ∧ ∃ v : Int, r = some (0, v) ∧ (-2147483648) ≤ v ∧ v ≤ 2147483647
set_option maxRecDepth 100000 in
set_option maxHeartbeats 4000000 in
theorem sp_X11_lasts_0_w2 {l : Launch} {K : EC} {M0 : Mem} (hI : In Tru M0) (en_0_4 : rd M0 0 4 = 27) (en_0_9 : rd M0 0 9 = 1) (a1 : Int) (ha1 : (-2147483648) ≤ a1 ∧ a1 ≤ 2147483647) (a2 : Int) (ha2 : (-2147483648) ≤ a2 ∧ a2 ≤ 2147483647) (a3 : Int) (ha3 : (-2147483648) ≤ a3 ∧ a3 ≤ 2147483647)  : Tr l K 1 mX11_lasts 0 [(0, (2, 0)), (1, (0, a1)), (2, (0, a2)), (3, (0, a3))] [] M0 (q_X11_lasts_0_w2 M0) := by
  have hS : St Tru ws_X11_lasts_0_w2 as_X11_lasts_0_w2 M0 M0 := St.rf hI
  refine Tr.aload_n (pc := 0) (i := 0) d_X11_lasts_0 rfl rfl ?_
  refine Tr.getz (pc := 1) d_X11_lasts_1 f_11_109 (by decide) (ty_0 hS.1.1) ?_
  refine Tr.tp 1 ((St.kp hS (by decide) (by decide) (by decide)).trans en_0_9) ?_
  refine Tr.if_eq (pc := 4) (tgt := 18) d_X11_lasts_4 rfl (fun hc => absurd hc (by omega)) (fun _ => ?_)
  refine Tr.iload_n (pc := 7) (i := 1) d_X11_lasts_7 rfl rfl ?_
  refine Tr.if_lt (pc := 8) (tgt := 18) d_X11_lasts_8 rfl (fun c8 => ?_) (fun c8 => ?_)
  · refine Tr.iconst (pc := 18) d_X11_lasts_18 (by decide) ?_
    exact Tr.iret (pc := 19) d_X11_lasts_19 rfl ⟨hS, _, rfl, by omega, by omega⟩
  · refine Tr.iload_n (pc := 11) (i := 1) d_X11_lasts_11 rfl rfl ?_
    refine Tr.ldcw (pc := 12) d_X11_lasts_12 k_11_310 (by decide) ?_
    refine Tr.icmp_le (pc := 15) (tgt := 20) d_X11_lasts_15 rfl (fun c15 => ?_) (fun c15 => ?_)
    · refine Tr.iload_n (pc := 20) (i := 2) d_X11_lasts_20 rfl rfl ?_
      refine Tr.if_lt (pc := 21) (tgt := 42) d_X11_lasts_21 rfl (fun c21 => ?_) (fun c21 => ?_)
      · refine Tr.iconst (pc := 42) d_X11_lasts_42 (by decide) ?_
        exact Tr.iret (pc := 43) d_X11_lasts_43 rfl ⟨hS, _, rfl, by omega, by omega⟩
      · refine Tr.iload_n (pc := 24) (i := 2) d_X11_lasts_24 rfl rfl ?_
        refine Tr.sipush (pc := 25) d_X11_lasts_25 rfl (by decide) ?_
        refine Tr.icmp_gt (pc := 28) (tgt := 42) d_X11_lasts_28 rfl (fun c28 => ?_) (fun c28 => ?_)
        · refine Tr.iconst (pc := 42) d_X11_lasts_42 (by decide) ?_
          exact Tr.iret (pc := 43) d_X11_lasts_43 rfl ⟨hS, _, rfl, by omega, by omega⟩
        · refine Tr.iload_n (pc := 31) (i := 3) d_X11_lasts_31 rfl rfl ?_
          refine Tr.if_lt (pc := 32) (tgt := 42) d_X11_lasts_32 rfl (fun c32 => ?_) (fun c32 => ?_)
          · refine Tr.iconst (pc := 42) d_X11_lasts_42 (by decide) ?_
            exact Tr.iret (pc := 43) d_X11_lasts_43 rfl ⟨hS, _, rfl, by omega, by omega⟩
          · refine Tr.iload_n (pc := 35) (i := 3) d_X11_lasts_35 rfl rfl ?_
            refine Tr.ldcw (pc := 36) d_X11_lasts_36 k_11_311 (by decide) ?_
            refine Tr.icmp_le (pc := 39) (tgt := 44) d_X11_lasts_39 rfl (fun c39 => ?_) (fun c39 => ?_)
            · refine Tr.iload_n (pc := 44) (i := 2) d_X11_lasts_44 rfl rfl ?_
              refine Tr.i2l (pc := 45) d_X11_lasts_45 ?_
              refine Tr.aload_n (pc := 46) (i := 0) d_X11_lasts_46 rfl rfl ?_
              refine Tr.getf (pc := 47) d_X11_lasts_47 f_11_46 (by decide) (by decide) (ty_0 hS.1.1) ?_
              refine Tr.tp 48 (fx_0_7 hS.1.1) ?_
              refine Tr.getf (pc := 50) d_X11_lasts_50 f_11_155 (by decide) (by decide) (ty_48 hS.1.1) ?_
              refine Tr.gen (P := fun v => (-2147483648) ≤ v ∧ v ≤ 2147483647) (ir_48_10 hS.1.2.1) (fun r50 er50 br50 => ?_)
              refine Tr.i2l (pc := 53) d_X11_lasts_53 ?_
              refine Tr.lmul (pc := 54) d_X11_lasts_54 ?_
              refine Tr.gen (P := fun v => (-9223372036854775808) ≤ v ∧ v ≤ 9223372036854775807) (w64_b _) (fun r54 er54 br54 => ?_)
              refine Tr.iload_n (pc := 55) (i := 3) d_X11_lasts_55 rfl rfl ?_
              refine Tr.i2l (pc := 56) d_X11_lasts_56 ?_
              refine Tr.aload_n (pc := 57) (i := 0) d_X11_lasts_57 rfl rfl ?_
              refine Tr.getf (pc := 58) d_X11_lasts_58 f_11_30 (by decide) (by decide) (ty_0 hS.1.1) ?_
              refine Tr.tp 27 ((St.kp hS (by decide) (by decide) (by decide)).trans en_0_4) ?_
              refine Tr.callV (pc := 61) (as := []) d_X11_lasts_61 s_11_312 ok_X3_sleepOfAll rfl rfl (Nat.le_of_ble_eq_true rfl) (Nat.le_of_ble_eq_true rfl) (by decide) (ty_27 hS.1.1) ?_
              refine Tr.imp (Tr.deep (by decide) (sp_X3_sleepOfAll_27 hS.1 )) ?_
              rintro M61 _ ⟨h61, r61, rfl, lr61, ur61⟩
              have hS := St.tr hS h61 (by decide) (by decide)
              refine Tr.sc [(0, r61), (1, a3), (1, r54)] rfl ?_
              refine Tr.i2l (pc := 64) d_X11_lasts_64 ?_
              refine Tr.lmul (pc := 65) d_X11_lasts_65 ?_
              refine Tr.gen (P := fun v => (-9223372036854775808) ≤ v ∧ v ≤ 9223372036854775807) (w64_b _) (fun r65 er65 br65 => ?_)
              refine Tr.ladd (pc := 66) d_X11_lasts_66 ?_
              refine Tr.gen (P := fun v => (-9223372036854775808) ≤ v ∧ v ≤ 9223372036854775807) (w64_b _) (fun r66 er66 br66 => ?_)
              refine Tr.lstore (pc := 67) (i := 4) (ls2 := [(4, (1, r66)), (0, (2, 0)), (1, (0, a1)), (2, (0, a2)), (3, (0, a3))]) d_X11_lasts_67 (by decide) rfl ?_
              refine Tr.lload (pc := 69) (i := 4) d_X11_lasts_69 rfl ?_
              refine Tr.lconst (pc := 71) (v := 0) d_X11_lasts_71 rfl (by decide) ?_
              refine Tr.lcmp (pc := 72) d_X11_lasts_72 ?_
              refine Tr.gen (P := fun v => (v = 1 ∧ 0 < r66) ∨ (v = 0 ∧ r66 = 0) ∨ (v = -1 ∧ r66 < 0)) (f_lcmp_c _ _) (fun r72 er72 br72 => ?_)
              refine Tr.if_gt (pc := 73) (tgt := 80) d_X11_lasts_73 rfl (fun c73 => ?_) (fun c73 => ?_)
              · refine Tr.iload_n (pc := 80) (i := 1) d_X11_lasts_80 rfl rfl ?_
                refine Tr.i2l (pc := 81) d_X11_lasts_81 ?_
                refine Tr.lload (pc := 82) (i := 4) d_X11_lasts_82 rfl ?_
                refine Tr.ldiv (pc := 84) d_X11_lasts_84 (by omega) ?_
                refine Tr.gen (P := fun v => (-9223372036854775808) ≤ v ∧ v ≤ 9223372036854775807) (w64_b _) (fun r84 er84 br84 => ?_)
                refine Tr.l2i (pc := 85) d_X11_lasts_85 ?_
                refine Tr.gen (P := fun v => (-2147483648) ≤ v ∧ v ≤ 2147483647) (w32_b _) (fun r85 er85 br85 => ?_)
                exact Tr.iret (pc := 86) d_X11_lasts_86 rfl ⟨hS, _, rfl, by omega, by omega⟩
              · refine Tr.iconst (pc := 76) d_X11_lasts_76 (by decide) ?_
                refine Tr.goto (pc := 77) (tgt := 86) d_X11_lasts_77 rfl ?_
                exact Tr.iret (pc := 86) d_X11_lasts_86 rfl ⟨hS, _, rfl, by omega, by omega⟩
            · refine Tr.iconst (pc := 42) d_X11_lasts_42 (by decide) ?_
              exact Tr.iret (pc := 43) d_X11_lasts_43 rfl ⟨hS, _, rfl, by omega, by omega⟩
    · refine Tr.iconst (pc := 18) d_X11_lasts_18 (by decide) ?_
      exact Tr.iret (pc := 19) d_X11_lasts_19 rfl ⟨hS, _, rfl, by omega, by omega⟩

def ws_X1_begin_82_27 : List (Int × Int) := [(82, 1)]
def as_X1_begin_82_27 : List Int := [83]
def q_X1_begin_82_27 (M0 M' : Mem) (r : Option PV) : Prop := St Tru ws_X1_begin_82_27 as_X1_begin_82_27 M0 M' ∧ rd M' 82 1 = 27 ∧ r = none
set_option maxRecDepth 100000 in
set_option maxHeartbeats 4000000 in
theorem sp_X1_begin_82_27 {l : Launch} {K : EC} {M0 : Mem} (hI : In Tru M0)    : Tr l K 1 mX1_begin 0 [(0, (2, 82)), (1, (2, 27))] [] M0 (q_X1_begin_82_27 M0) := by
  have hS : St Tru ws_X1_begin_82_27 as_X1_begin_82_27 M0 M0 := St.rf hI
  refine Tr.aload_n (pc := 0) (i := 0) d_X1_begin_0 rfl rfl ?_
  refine Tr.aload_n (pc := 1) (i := 1) d_X1_begin_1 rfl rfl ?_
  refine Tr.putfS (pc := 2) (P := St Tru ws_X1_begin_82_27 as_X1_begin_82_27 M0) d_X1_begin_2 f_1_41 (by decide) (by decide) (ty_82 hS.1.1) (st_82_1 hS (by decide) (by omega) trivial) (fun M2 hS w2 => ?_)
  refine Tr.aload_n (pc := 5) (i := 0) d_X1_begin_5 rfl rfl ?_
  refine Tr.getf (pc := 6) d_X1_begin_6 f_1_9 (by decide) (by decide) (ty_82 hS.1.1) ?_
  refine Tr.tp 83 (fx_82_2 hS.1.1) ?_
  refine Tr.iconst (pc := 9) d_X1_begin_9 (by decide) ?_
  refine Tr.callS (pc := 10) (as := [_, _]) d_X1_begin_10 s_1_45 ok_J7_fill_53178 rfl rfl (Nat.le_of_ble_eq_true rfl) (Nat.le_of_ble_eq_true rfl) ?_
  refine Tr.imp (sp_fill (N := 24) (ty_83 hS.1.1) (by decide)) ?_
  rintro _ _ ⟨rfl, rfl⟩
  refine Tr.nmA (P := St Tru ws_X1_begin_82_27 as_X1_begin_82_27 M0) (sf_83 (v := 0) 24 hS (by decide) (by omega) trivial) (fil_wa _ _ _ _) (fun M10 hS w10 => ?_)
  refine Tr.sc [] rfl ?_
  refine Tr.aload_n (pc := 13) (i := 0) d_X1_begin_13 rfl rfl ?_
  refine Tr.getz (pc := 14) d_X1_begin_14 f_1_37 (by decide) (ty_82 hS.1.1) ?_
  refine Tr.tp 0 (fx_82_0 hS.1.1) ?_
  refine Tr.if_eq (pc := 17) (tgt := 67) d_X1_begin_17 rfl (fun _ => ?_) (fun hc => absurd (by omega) hc)
  exact Tr.vret (pc := 67) d_X1_begin_67 rfl ⟨hS, ((Wa.b w10 rfl).trans w2.1), rfl⟩

def ws_X6_begin_74_27_47 : List (Int × Int) := [(74, 1), (74, 9), (74, 11), (74, 12), (74, 13), (74, 14), (74, 15), (74, 16), (74, 17), (82, 1)]
def as_X6_begin_74_27_47 : List Int := [75, 76, 78, 79, 80, 81, 83]
def q_X6_begin_74_27_47 (a3 : Int) (M0 M' : Mem) (r : Option PV) : Prop := St Tru ws_X6_begin_74_27_47 as_X6_begin_74_27_47 M0 M' ∧ rd M' 74 1 = 27 ∧ rd M' 82 1 = 27 ∧ r = none
set_option maxRecDepth 100000 in
set_option maxHeartbeats 4000000 in
theorem sp_X6_begin_74_27_47 {l : Launch} {K : EC} {M0 : Mem} (hI : In Tru M0)  (a3 : Int) (ha3 : (-1) ≤ a3 ∧ a3 ≤ (-1))  : Tr l K 2 mX6_begin 0 [(0, (2, 74)), (1, (2, 27)), (2, (2, 47)), (3, (0, a3))] [] M0 (q_X6_begin_74_27_47 a3 M0) := by
  have hS : St Tru ws_X6_begin_74_27_47 as_X6_begin_74_27_47 M0 M0 := St.rf hI
  refine Tr.aload_n (pc := 0) (i := 0) d_X6_begin_0 rfl rfl ?_
  refine Tr.aload_n (pc := 1) (i := 1) d_X6_begin_1 rfl rfl ?_
  refine Tr.putfS (pc := 2) (P := St Tru ws_X6_begin_74_27_47 as_X6_begin_74_27_47 M0) d_X6_begin_2 f_6_46 (by decide) (by decide) (ty_74 hS.1.1) (st_74_1 hS (by decide) (by omega) trivial) (fun M2 hS w2 => ?_)
  refine Tr.aload_n (pc := 5) (i := 2) d_X6_begin_5 rfl rfl ?_
  refine Tr.iconst (pc := 6) d_X6_begin_6 (by decide) ?_
  refine Tr.aload_n (pc := 7) (i := 0) d_X6_begin_7 rfl rfl ?_
  refine Tr.getf (pc := 8) d_X6_begin_8 f_6_9 (by decide) (by decide) (ty_74 hS.1.1) ?_
  refine Tr.tp 75 (fx_74_2 hS.1.1) ?_
  refine Tr.iconst (pc := 11) d_X6_begin_11 (by decide) ?_
  refine Tr.iconst (pc := 12) d_X6_begin_12 (by decide) ?_
  refine Tr.acopyS (pc := 13) (x := 47) (y := 75) (P := St Tru ws_X6_begin_74_27_47 as_X6_begin_74_27_47 M0) d_X6_begin_13 ac_6_85 acw.1 acw.2.1 acw.2.2 (ty_47 hS.1.1) (ty_75 hS.1.1) (by omega) (by omega) (by omega) (by omega) (by omega) (Nat.le_of_ble_eq_true rfl) (sw_75 hS (by decide) rfl rfl rfl (fun z i hz => by rw [rd_cpy, if_neg (fun c => hz c.1)]) (fun i => by rw [rd_cpy]; split; exact And.intro (by have := ar_47 hS.1.2.1 (0 + (i - 0)); omega) (by have := ar_47 hS.1.2.1 (0 + (i - 0)); omega); exact ar_75 hS.1.2.1 i) trivial) (fun M13 hS w13 => ?_)
  refine Tr.aload_n (pc := 16) (i := 0) d_X6_begin_16 rfl rfl ?_
  refine Tr.getf (pc := 17) d_X6_begin_17 f_6_15 (by decide) (by decide) (ty_74 hS.1.1) ?_
  refine Tr.tp 76 (fx_74_3 hS.1.1) ?_
  refine Tr.iconst (pc := 20) d_X6_begin_20 (by decide) ?_
  refine Tr.callS (pc := 21) (as := [_, _]) d_X6_begin_21 s_6_91 ok_J7_fill_53178 rfl rfl (Nat.le_of_ble_eq_true rfl) (Nat.le_of_ble_eq_true rfl) ?_
  refine Tr.imp (sp_fill (N := 6) (ty_76 hS.1.1) (by decide)) ?_
  rintro _ _ ⟨rfl, rfl⟩
  refine Tr.nmA (P := St Tru ws_X6_begin_74_27_47 as_X6_begin_74_27_47 M0) (sf_76 (v := 0) 6 hS (by decide) (by omega) trivial) (fil_wa _ _ _ _) (fun M21 hS w21 => ?_)
  refine Tr.sc [] rfl ?_
  refine Tr.aload_n (pc := 24) (i := 0) d_X6_begin_24 rfl rfl ?_
  refine Tr.getf (pc := 25) d_X6_begin_25 f_6_21 (by decide) (by decide) (ty_74 hS.1.1) ?_
  refine Tr.tp 78 (fx_74_5 hS.1.1) ?_
  refine Tr.iconst (pc := 28) d_X6_begin_28 (by decide) ?_
  refine Tr.callS (pc := 29) (as := [_, _]) d_X6_begin_29 s_6_91 ok_J7_fill_53178 rfl rfl (Nat.le_of_ble_eq_true rfl) (Nat.le_of_ble_eq_true rfl) ?_
  refine Tr.imp (sp_fill (N := 8) (ty_78 hS.1.1) (by decide)) ?_
  rintro _ _ ⟨rfl, rfl⟩
  refine Tr.nmA (P := St Tru ws_X6_begin_74_27_47 as_X6_begin_74_27_47 M0) (sf_78 (v := (-1)) 8 hS (by decide) (by omega) trivial) (fil_wa _ _ _ _) (fun M29 hS w29 => ?_)
  refine Tr.sc [] rfl ?_
  refine Tr.aload_n (pc := 32) (i := 0) d_X6_begin_32 rfl rfl ?_
  refine Tr.getf (pc := 33) d_X6_begin_33 f_6_24 (by decide) (by decide) (ty_74 hS.1.1) ?_
  refine Tr.tp 79 (fx_74_6 hS.1.1) ?_
  refine Tr.iconst (pc := 36) d_X6_begin_36 (by decide) ?_
  refine Tr.callS (pc := 37) (as := [_, _]) d_X6_begin_37 s_6_91 ok_J7_fill_53178 rfl rfl (Nat.le_of_ble_eq_true rfl) (Nat.le_of_ble_eq_true rfl) ?_
  refine Tr.imp (sp_fill (N := 6) (ty_79 hS.1.1) (by decide)) ?_
  rintro _ _ ⟨rfl, rfl⟩
  refine Tr.nmA (P := St Tru ws_X6_begin_74_27_47 as_X6_begin_74_27_47 M0) (sf_79 (v := 0) 6 hS (by decide) (by omega) trivial) (fil_wa _ _ _ _) (fun M37 hS w37 => ?_)
  refine Tr.sc [] rfl ?_
  refine Tr.aload_n (pc := 40) (i := 0) d_X6_begin_40 rfl rfl ?_
  refine Tr.getf (pc := 41) d_X6_begin_41 f_6_27 (by decide) (by decide) (ty_74 hS.1.1) ?_
  refine Tr.tp 80 (fx_74_7 hS.1.1) ?_
  refine Tr.iconst (pc := 44) d_X6_begin_44 (by decide) ?_
  refine Tr.callS (pc := 45) (as := [_, _]) d_X6_begin_45 s_6_91 ok_J7_fill_53178 rfl rfl (Nat.le_of_ble_eq_true rfl) (Nat.le_of_ble_eq_true rfl) ?_
  refine Tr.imp (sp_fill (N := 6) (ty_80 hS.1.1) (by decide)) ?_
  rintro _ _ ⟨rfl, rfl⟩
  refine Tr.nmA (P := St Tru ws_X6_begin_74_27_47 as_X6_begin_74_27_47 M0) (sf_80 (v := 0) 6 hS (by decide) (by omega) trivial) (fil_wa _ _ _ _) (fun M45 hS w45 => ?_)
  refine Tr.sc [] rfl ?_
  refine Tr.aload_n (pc := 48) (i := 0) d_X6_begin_48 rfl rfl ?_
  refine Tr.getf (pc := 49) d_X6_begin_49 f_6_30 (by decide) (by decide) (ty_74 hS.1.1) ?_
  refine Tr.tp 81 (fx_74_8 hS.1.1) ?_
  refine Tr.iconst (pc := 52) d_X6_begin_52 (by decide) ?_
  refine Tr.callS (pc := 53) (as := [_, _]) d_X6_begin_53 s_6_91 ok_J7_fill_53178 rfl rfl (Nat.le_of_ble_eq_true rfl) (Nat.le_of_ble_eq_true rfl) ?_
  refine Tr.imp (sp_fill (N := 6) (ty_81 hS.1.1) (by decide)) ?_
  rintro _ _ ⟨rfl, rfl⟩
  refine Tr.nmA (P := St Tru ws_X6_begin_74_27_47 as_X6_begin_74_27_47 M0) (sf_81 (v := 0) 6 hS (by decide) (by omega) trivial) (fil_wa _ _ _ _) (fun M53 hS w53 => ?_)
  refine Tr.sc [] rfl ?_
  refine Tr.aload_n (pc := 56) (i := 0) d_X6_begin_56 rfl rfl ?_
  refine Tr.iconst (pc := 57) d_X6_begin_57 (by decide) ?_
  refine Tr.putfS (pc := 58) (P := St Tru ws_X6_begin_74_27_47 as_X6_begin_74_27_47 M0) d_X6_begin_58 f_6_68 (by decide) (by decide) (ty_74 hS.1.1) (st_74_9 hS (by decide) (by omega) trivial) (fun M58 hS w58 => ?_)
  refine Tr.aload_n (pc := 61) (i := 0) d_X6_begin_61 rfl rfl ?_
  refine Tr.iconst (pc := 62) d_X6_begin_62 (by decide) ?_
  refine Tr.putfS (pc := 63) (P := St Tru ws_X6_begin_74_27_47 as_X6_begin_74_27_47 M0) d_X6_begin_63 f_6_97 (by decide) (by decide) (ty_74 hS.1.1) (st_74_11 hS (by decide) (by omega) trivial) (fun M63 hS w63 => ?_)
  refine Tr.aload_n (pc := 66) (i := 0) d_X6_begin_66 rfl rfl ?_
  refine Tr.iconst (pc := 67) d_X6_begin_67 (by decide) ?_
  refine Tr.putfS (pc := 68) (P := St Tru ws_X6_begin_74_27_47 as_X6_begin_74_27_47 M0) d_X6_begin_68 f_6_100 (by decide) (by decide) (ty_74 hS.1.1) (st_74_12 hS (by decide) (by omega) trivial) (fun M68 hS w68 => ?_)
  refine Tr.aload_n (pc := 71) (i := 0) d_X6_begin_71 rfl rfl ?_
  refine Tr.iconst (pc := 72) d_X6_begin_72 (by decide) ?_
  refine Tr.putfS (pc := 73) (P := St Tru ws_X6_begin_74_27_47 as_X6_begin_74_27_47 M0) d_X6_begin_73 f_6_103 (by decide) (by decide) (ty_74 hS.1.1) (st_74_13 hS (by decide) (by omega) trivial) (fun M73 hS w73 => ?_)
  refine Tr.aload_n (pc := 76) (i := 0) d_X6_begin_76 rfl rfl ?_
  refine Tr.iconst (pc := 77) d_X6_begin_77 (by decide) ?_
  refine Tr.putfS (pc := 78) (P := St Tru ws_X6_begin_74_27_47 as_X6_begin_74_27_47 M0) d_X6_begin_78 f_6_62 (by decide) (by decide) (ty_74 hS.1.1) (st_74_14 hS (by decide) (by omega) trivial) (fun M78 hS w78 => ?_)
  refine Tr.aload_n (pc := 81) (i := 0) d_X6_begin_81 rfl rfl ?_
  refine Tr.iconst (pc := 82) d_X6_begin_82 (by decide) ?_
  refine Tr.putfS (pc := 83) (P := St Tru ws_X6_begin_74_27_47 as_X6_begin_74_27_47 M0) d_X6_begin_83 f_6_79 (by decide) (by decide) (ty_74 hS.1.1) (st_74_15 hS (by decide) (by omega) trivial) (fun M83 hS w83 => ?_)
  refine Tr.aload_n (pc := 86) (i := 0) d_X6_begin_86 rfl rfl ?_
  refine Tr.iload_n (pc := 87) (i := 3) d_X6_begin_87 rfl rfl ?_
  refine Tr.tp (-1) (by omega) ?_
  refine Tr.if_lt (pc := 88) (tgt := 95) d_X6_begin_88 rfl (fun _ => ?_) (fun hc => absurd (by omega) hc)
  refine Tr.iconst (pc := 95) d_X6_begin_95 (by decide) ?_
  refine Tr.putzS (pc := 96) (P := St Tru ws_X6_begin_74_27_47 as_X6_begin_74_27_47 M0) d_X6_begin_96 f_6_106 (by decide) (ty_74 hS.1.1) (by omega) (st_74_16 hS (by decide) (by omega) trivial) (fun M96 hS w96 => ?_)
  refine Tr.aload_n (pc := 99) (i := 0) d_X6_begin_99 rfl rfl ?_
  refine Tr.iload_n (pc := 100) (i := 3) d_X6_begin_100 rfl rfl ?_
  refine Tr.tp (-1) (by omega) ?_
  refine Tr.putfS (pc := 101) (P := St Tru ws_X6_begin_74_27_47 as_X6_begin_74_27_47 M0) d_X6_begin_101 f_6_110 (by decide) (by decide) (ty_74 hS.1.1) (st_74_17 hS (by decide) (by omega) trivial) (fun M101 hS w101 => ?_)
  refine Tr.aload_n (pc := 104) (i := 0) d_X6_begin_104 rfl rfl ?_
  refine Tr.getf (pc := 105) d_X6_begin_105 f_6_38 (by decide) (by decide) (ty_74 hS.1.1) ?_
  refine Tr.tp 82 (fx_74_0 hS.1.1) ?_
  refine Tr.aload_n (pc := 108) (i := 1) d_X6_begin_108 rfl rfl ?_
  refine Tr.callV (pc := 109) (as := [_]) d_X6_begin_109 s_6_113 ok_X1_begin rfl rfl (Nat.le_of_ble_eq_true rfl) (Nat.le_of_ble_eq_true rfl) (by decide) (ty_82 hS.1.1) ?_
  refine Tr.imp (Tr.deep (by decide) (sp_X1_begin_82_27 hS.1 )) ?_
  rintro M109 _ ⟨h109, o109_82_1, rfl⟩
  have hS := St.tr hS h109 (by decide) (by decide)
  refine Tr.sc [] rfl ?_
  exact Tr.vret (pc := 112) d_X6_begin_112 rfl ⟨hS, ((St.kp h109 (by decide) (by decide) (by decide)).trans ((Wr.b w101 rfl).trans ((Wr.b w96 rfl).trans ((Wr.b w83 rfl).trans ((Wr.b w78 rfl).trans ((Wr.b w73 rfl).trans ((Wr.b w68 rfl).trans ((Wr.b w63 rfl).trans ((Wr.b w58 rfl).trans ((Wa.b w53 rfl).trans ((Wa.b w45 rfl).trans ((Wa.b w37 rfl).trans ((Wa.b w29 rfl).trans ((Wa.b w21 rfl).trans ((Wa.b w13 rfl).trans w2.1))))))))))))))), o109_82_1, rfl⟩

def ws_X6_sipsAt_74_w3 : List (Int × Int) := []
def as_X6_sipsAt_74_w3 : List Int := []
def q_X6_sipsAt_74_w3 (M0 M' : Mem) (r : Option PV) : Prop := St Tru ws_X6_sipsAt_74_w3 as_X6_sipsAt_74_w3 M0 M' ∧ ∃ v : Int, r = some (0, v) ∧ (-2147483648) ≤ v ∧ v ≤ 2147483647
set_option maxRecDepth 100000 in
set_option maxHeartbeats 4000000 in
theorem sp_X6_sipsAt_74_w3 {l : Launch} {K : EC} {M0 : Mem} (hI : In Tru M0) (en_74_1 : rd M0 74 1 = 27) (a1 : Int) (ha1 : (-2147483648) ≤ a1 ∧ a1 ≤ 2147483647) (a2 : Int) (ha2 : (-1) ≤ a2 ∧ a2 ≤ (-1)) (a3 : Int) (ha3 : 0 ≤ a3 ∧ a3 ≤ 0)  : Tr l K 0 mX6_sipsAt 0 [(0, (2, 74)), (1, (0, a1)), (2, (0, a2)), (3, (0, a3))] [] M0 (q_X6_sipsAt_74_w3 M0) := by
  have hS : St Tru ws_X6_sipsAt_74_w3 as_X6_sipsAt_74_w3 M0 M0 := St.rf hI
  refine Tr.aload_n (pc := 0) (i := 0) d_X6_sipsAt_0 rfl rfl ?_
  refine Tr.getf (pc := 1) d_X6_sipsAt_1 f_6_46 (by decide) (by decide) (ty_74 hS.1.1) ?_
  refine Tr.tp 27 ((St.kp hS (by decide) (by decide) (by decide)).trans en_74_1) ?_
  refine Tr.getf (pc := 4) d_X6_sipsAt_4 f_6_135 (by decide) (by decide) (ty_27 hS.1.1) ?_
  refine Tr.gen (P := fun v => (-1) ≤ v ∧ v ≤ 999) (ir_27_0 hS.1.2.1) (fun r4 er4 br4 => ?_)
  refine Tr.istore (pc := 7) (i := 4) (ls2 := [(4, (0, r4)), (0, (2, 74)), (1, (0, a1)), (2, (0, a2)), (3, (0, a3))]) d_X6_sipsAt_7 (by decide) rfl ?_
  refine Tr.iconst (pc := 9) d_X6_sipsAt_9 (by decide) ?_
  refine Tr.istore (pc := 10) (i := 5) (ls2 := [(5, (0, 0)), (4, (0, r4)), (0, (2, 74)), (1, (0, a1)), (2, (0, a2)), (3, (0, a3))]) d_X6_sipsAt_10 (by decide) rfl ?_
  have J12 : ∀ (n12 : Nat) (M : Mem) (p12_4 p12_5 : Int), St Tru ws_X6_sipsAt_74_w3 as_X6_sipsAt_74_w3 M0 M → ((-2147483648) ≤ p12_4 ∧ p12_4 ≤ 2147483647) → (0 ≤ p12_5 ∧ p12_5 ≤ 6) → rd M 27 0 = r4 → (6 - p12_5).toNat < n12 → Tr l K 0 mX6_sipsAt 12 [(0, (2, 74)), (1, (0, a1)), (2, (0, a2)), (3, (0, a3)), (4, (0, p12_4)), (5, (0, p12_5))] [] M (q_X6_sipsAt_74_w3 M0) := by
    intro n12
    induction n12 with
    | zero => intro M p12_4 p12_5 hS bp12_4 bp12_5 k12_27_0 hm12; exact absurd hm12 (Nat.not_lt_zero _)
    | succ n12 J12 =>
      intro M p12_4 p12_5 hS bp12_4 bp12_5 k12_27_0 hm12
      refine Tr.iload (pc := 12) (i := 5) d_X6_sipsAt_12 rfl ?_
      refine Tr.aload_n (pc := 14) (i := 0) d_X6_sipsAt_14 rfl rfl ?_
      refine Tr.getf (pc := 15) d_X6_sipsAt_15 f_6_46 (by decide) (by decide) (ty_74 hS.1.1) ?_
      refine Tr.tp 27 ((St.kp hS (by decide) (by decide) (by decide)).trans en_74_1) ?_
      refine Tr.getf (pc := 18) d_X6_sipsAt_18 f_6_116 (by decide) (by decide) (ty_27 hS.1.1) ?_
      refine Tr.tp 28 (fx_27_4 hS.1.1) ?_
      refine Tr.iconst (pc := 21) d_X6_sipsAt_21 (by decide) ?_
      refine Tr.iald (pc := 22) d_X6_sipsAt_22 (ty_28 hS.1.1) (by omega) (by omega) ?_
      refine Tr.gen (P := fun v => 0 ≤ v ∧ v ≤ 6) (ir_28_0 hS.1.2.1) (fun r22 er22 br22 => ?_)
      refine Tr.icmp_ge (pc := 23) (tgt := 91) d_X6_sipsAt_23 rfl (fun c23 => ?_) (fun c23 => ?_)
      · refine Tr.iload (pc := 91) (i := 4) d_X6_sipsAt_91 rfl ?_
        exact Tr.iret (pc := 93) d_X6_sipsAt_93 rfl ⟨hS, _, rfl, by omega, by omega⟩
      · refine Tr.aload_n (pc := 26) (i := 0) d_X6_sipsAt_26 rfl rfl ?_
        refine Tr.getf (pc := 27) d_X6_sipsAt_27 f_6_24 (by decide) (by decide) (ty_74 hS.1.1) ?_
        refine Tr.tp 79 (fx_74_6 hS.1.1) ?_
        refine Tr.iload (pc := 30) (i := 5) d_X6_sipsAt_30 rfl ?_
        refine Tr.iald (pc := 32) d_X6_sipsAt_32 (ty_79 hS.1.1) (by omega) (by omega) ?_
        refine Tr.gen (P := fun v => 0 ≤ v ∧ v ≤ 1) (ar_79 hS.1.2.1 _) (fun r32 er32 br32 => ?_)
        refine Tr.iconst (pc := 33) d_X6_sipsAt_33 (by decide) ?_
        have J53 : ∀ (M : Mem) (q53_0 : Int), St Tru ws_X6_sipsAt_74_w3 as_X6_sipsAt_74_w3 M0 M → (0 ≤ q53_0 ∧ q53_0 ≤ 2) → rd M 27 0 = r4 → rd M 28 0 = r22 → rd M 79 p12_5 = r32 → Tr l K 0 mX6_sipsAt 53 [(0, (2, 74)), (1, (0, a1)), (2, (0, a2)), (3, (0, a3)), (4, (0, p12_4)), (5, (0, p12_5))] [(0, q53_0)] M (q_X6_sipsAt_74_w3 M0) := by
          intro M q53_0 hS bq53_0 k53_27_0 k53_28_0 k53_79_p12_510
          refine Tr.istore (pc := 53) (i := 6) (ls2 := [(6, (0, q53_0)), (0, (2, 74)), (1, (0, a1)), (2, (0, a2)), (3, (0, a3)), (4, (0, p12_4)), (5, (0, p12_5))]) d_X6_sipsAt_53 (by decide) rfl ?_
          refine Tr.iload (pc := 55) (i := 4) d_X6_sipsAt_55 rfl ?_
          refine Tr.aload_n (pc := 57) (i := 0) d_X6_sipsAt_57 rfl rfl ?_
          refine Tr.getf (pc := 58) d_X6_sipsAt_58 f_6_46 (by decide) (by decide) (ty_74 hS.1.1) ?_
          refine Tr.tp 27 ((St.kp hS (by decide) (by decide) (by decide)).trans en_74_1) ?_
          refine Tr.getf (pc := 61) d_X6_sipsAt_61 f_6_189 (by decide) (by decide) (ty_27 hS.1.1) ?_
          refine Tr.tp 29 (fx_27_5 hS.1.1) ?_
          refine Tr.iload (pc := 64) (i := 5) d_X6_sipsAt_64 rfl ?_
          refine Tr.iconst (pc := 66) d_X6_sipsAt_66 (by decide) ?_
          refine Tr.imul (pc := 67) d_X6_sipsAt_67 ?_
          refine Tr.tp (4 * p12_5) ((w32_id (by omega)).trans (by omega)) ?_
          refine Tr.iload (pc := 68) (i := 5) d_X6_sipsAt_68 rfl ?_
          refine Tr.iload_n (pc := 70) (i := 2) d_X6_sipsAt_70 rfl rfl ?_
          refine Tr.tp (-1) (by omega) ?_
          refine Tr.icmp_ne (pc := 71) (tgt := 78) d_X6_sipsAt_71 rfl (fun _ => ?_) (fun hc => absurd hc (by omega))
          refine Tr.iload (pc := 78) (i := 6) d_X6_sipsAt_78 rfl ?_
          refine Tr.iadd (pc := 80) d_X6_sipsAt_80 ?_
          refine Tr.tp (4 * p12_5 + q53_0) ((w32_id (by omega)).trans (by omega)) ?_
          refine Tr.iald (pc := 81) d_X6_sipsAt_81 (ty_29 hS.1.1) (by omega) (by omega) ?_
          refine Tr.gen (P := fun v => (-1) ≤ v ∧ v ≤ 999) (ar_29 hS.1.2.1 _) (fun r81 er81 br81 => ?_)
          refine Tr.iadd (pc := 82) d_X6_sipsAt_82 ?_
          refine Tr.gen (P := fun v => (-2147483648) ≤ v ∧ v ≤ 2147483647) (w32_b _) (fun r82 er82 br82 => ?_)
          refine Tr.istore (pc := 83) (i := 4) (ls2 := [(4, (0, r82)), (6, (0, q53_0)), (0, (2, 74)), (1, (0, a1)), (2, (0, a2)), (3, (0, a3)), (5, (0, p12_5))]) d_X6_sipsAt_83 (by decide) rfl ?_
          refine Tr.iincV (pc := 85) (n2 := (p12_5 + 1)) (ls2 := [(5, (0, (p12_5 + 1))), (4, (0, r82)), (6, (0, q53_0)), (0, (2, 74)), (1, (0, a1)), (2, (0, a2)), (3, (0, a3))]) d_X6_sipsAt_85 rfl (by decide) ((w32_id (by omega)).trans (by omega)) rfl ?_
          refine Tr.goto (pc := 88) (tgt := 12) d_X6_sipsAt_88 rfl ?_
          refine Tr.pick [3, 4, 5, 6, 1, 0] (ls2 := [(0, (2, 74)), (1, (0, a1)), (2, (0, a2)), (3, (0, a3)), (4, (0, r82)), (5, (0, (p12_5 + 1)))]) rfl ?_
          exact J12 _ _ _ hS (by omega) (by omega) k53_27_0 (by omega)
        have J48 : ∀ (M : Mem), St Tru ws_X6_sipsAt_74_w3 as_X6_sipsAt_74_w3 M0 M → rd M 27 0 = r4 → rd M 28 0 = r22 → rd M 79 p12_5 = r32 → Tr l K 0 mX6_sipsAt 48 [(0, (2, 74)), (1, (0, a1)), (2, (0, a2)), (3, (0, a3)), (4, (0, p12_4)), (5, (0, p12_5))] [] M (q_X6_sipsAt_74_w3 M0) := by
          intro M  hS  k48_27_0 k48_28_0 k48_79_p12_510
          refine Tr.iconst (pc := 48) d_X6_sipsAt_48 (by decide) ?_
          refine Tr.goto (pc := 49) (tgt := 53) d_X6_sipsAt_49 rfl ?_
          refine Tr.pick [0, 1, 2, 3, 4, 5] (ls2 := [(0, (2, 74)), (1, (0, a1)), (2, (0, a2)), (3, (0, a3)), (4, (0, p12_4)), (5, (0, p12_5))]) rfl ?_
          exact J53 _ _ hS (by omega) k48_27_0 k48_28_0 k48_79_p12_510
        refine Tr.icmp_eq (pc := 34) (tgt := 48) d_X6_sipsAt_34 rfl (fun c34 => ?_) (fun c34 => ?_)
        · refine Tr.pick [0, 1, 2, 3, 4, 5] (ls2 := [(0, (2, 74)), (1, (0, a1)), (2, (0, a2)), (3, (0, a3)), (4, (0, p12_4)), (5, (0, p12_5))]) rfl ?_
          exact J48 _ hS k12_27_0 er22 er32
        · refine Tr.iload_n (pc := 37) (i := 1) d_X6_sipsAt_37 rfl rfl ?_
          refine Tr.aload_n (pc := 38) (i := 0) d_X6_sipsAt_38 rfl rfl ?_
          refine Tr.getf (pc := 39) d_X6_sipsAt_39 f_6_27 (by decide) (by decide) (ty_74 hS.1.1) ?_
          refine Tr.tp 80 (fx_74_7 hS.1.1) ?_
          refine Tr.iload (pc := 42) (i := 5) d_X6_sipsAt_42 rfl ?_
          refine Tr.iald (pc := 44) d_X6_sipsAt_44 (ty_80 hS.1.1) (by omega) (by omega) ?_
          refine Tr.gen (P := fun v => (-2147483648) ≤ v ∧ v ≤ 2147483647) (ar_80 hS.1.2.1 _) (fun r44 er44 br44 => ?_)
          refine Tr.icmp_ge (pc := 45) (tgt := 52) d_X6_sipsAt_45 rfl (fun c45 => ?_) (fun c45 => ?_)
          · refine Tr.iconst (pc := 52) d_X6_sipsAt_52 (by decide) ?_
            refine Tr.pick [0, 1, 2, 3, 4, 5] (ls2 := [(0, (2, 74)), (1, (0, a1)), (2, (0, a2)), (3, (0, a3)), (4, (0, p12_4)), (5, (0, p12_5))]) rfl ?_
            exact J53 _ _ hS (by omega) k12_27_0 er22 er32
          · refine Tr.pick [0, 1, 2, 3, 4, 5] (ls2 := [(0, (2, 74)), (1, (0, a1)), (2, (0, a2)), (3, (0, a3)), (4, (0, p12_4)), (5, (0, p12_5))]) rfl ?_
            exact J48 _ hS k12_27_0 er22 er32
  refine Tr.pick [2, 3, 4, 5, 1, 0] (ls2 := [(0, (2, 74)), (1, (0, a1)), (2, (0, a2)), (3, (0, a3)), (4, (0, r4)), (5, (0, 0))]) rfl ?_
  exact J12 _ _ _ _ hS (by omega) (by omega) er4 (Nat.lt_succ_self _)
