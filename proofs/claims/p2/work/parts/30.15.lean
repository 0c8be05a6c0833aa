def ws_X5_isOwn_6_w1 : List (Int × Int) := []
def as_X5_isOwn_6_w1 : List Int := []
def q_X5_isOwn_6_w1 (M0 M' : Mem) (r : Option PV) : Prop := St Tru ws_X5_isOwn_6_w1 as_X5_isOwn_6_w1 M0 M' ∧ ∃ v : Int, r = some (0, v) ∧ 0 ≤ v ∧ v ≤ 1
set_option maxRecDepth 100000 in
set_option maxHeartbeats 4000000 in
theorem sp_X5_isOwn_6_w1 {l : Launch} {K : EC} {M0 : Mem} (hI : In Tru M0) (en_6_2 : rd M0 6 2 = 2) (a1 : Int) (ha1 : 16 ≤ a1 ∧ a1 ≤ 16)  : Tr l K 0 mX5_isOwn 0 [(0, (2, 6)), (1, (0, a1))] [] M0 (q_X5_isOwn_6_w1 M0) := by
  have hS : St Tru ws_X5_isOwn_6_w1 as_X5_isOwn_6_w1 M0 M0 := St.rf hI
  refine Tr.aload_n (pc := 0) (i := 0) d_X5_isOwn_0 rfl rfl ?_
  refine Tr.getf (pc := 1) d_X5_isOwn_1 f_5_18 (by decide) (by decide) (ty_6 hS.1.1) ?_
  refine Tr.tp 2 ((St.kp hS (by decide) (by decide) (by decide)).trans en_6_2) ?_
  refine Tr.getf (pc := 4) d_X5_isOwn_4 f_5_50 (by decide) (by decide) (ty_2 hS.1.1) ?_
  refine Tr.tp 3 (fx_2_0 hS.1.1) ?_
  refine Tr.aload_n (pc := 7) (i := 0) d_X5_isOwn_7 rfl rfl ?_
  refine Tr.getf (pc := 8) d_X5_isOwn_8 f_5_36 (by decide) (by decide) (ty_6 hS.1.1) ?_
  refine Tr.gen (P := fun v => 0 ≤ v ∧ v ≤ 900) (ir_6_5 hS.1.2.1) (fun r8 er8 br8 => ?_)
  refine Tr.iald (pc := 11) d_X5_isOwn_11 (ty_3 hS.1.1) (by omega) (by omega) ?_
  refine Tr.gen (P := fun v => (-2147483648) ≤ v ∧ v ≤ 2147483647) (ar_3 hS.1.2.1 _) (fun r11 er11 br11 => ?_)
  refine Tr.iconst (pc := 12) d_X5_isOwn_12 (by decide) ?_
  refine Tr.icmp_ne (pc := 13) (tgt := 36) d_X5_isOwn_13 rfl (fun c13 => ?_) (fun c13 => ?_)
  · refine Tr.iconst (pc := 36) d_X5_isOwn_36 (by decide) ?_
    exact Tr.zret (pc := 37) d_X5_isOwn_37 rfl (by omega) ⟨hS, _, rfl, by omega, by omega⟩
  · refine Tr.aload_n (pc := 16) (i := 0) d_X5_isOwn_16 rfl rfl ?_
    refine Tr.getf (pc := 17) d_X5_isOwn_17 f_5_18 (by decide) (by decide) (ty_6 hS.1.1) ?_
    refine Tr.tp 2 ((St.kp hS (by decide) (by decide) (by decide)).trans en_6_2) ?_
    refine Tr.getf (pc := 20) d_X5_isOwn_20 f_5_68 (by decide) (by decide) (ty_2 hS.1.1) ?_
    refine Tr.tp 5 (fx_2_2 hS.1.1) ?_
    refine Tr.aload_n (pc := 23) (i := 0) d_X5_isOwn_23 rfl rfl ?_
    refine Tr.getf (pc := 24) d_X5_isOwn_24 f_5_36 (by decide) (by decide) (ty_6 hS.1.1) ?_
    refine Tr.tp r8 er8 ?_
    refine Tr.iald (pc := 27) d_X5_isOwn_27 (ty_5 hS.1.1) (by omega) (by omega) ?_
    refine Tr.gen (P := fun v => (-2147483648) ≤ v ∧ v ≤ 2147483647) (ar_5 hS.1.2.1 _) (fun r27 er27 br27 => ?_)
    refine Tr.iload_n (pc := 28) (i := 1) d_X5_isOwn_28 rfl rfl ?_
    refine Tr.tp 16 (by omega) ?_
    refine Tr.icmp_ne (pc := 29) (tgt := 36) d_X5_isOwn_29 rfl (fun c29 => ?_) (fun c29 => ?_)
    · refine Tr.iconst (pc := 36) d_X5_isOwn_36 (by decide) ?_
      exact Tr.zret (pc := 37) d_X5_isOwn_37 rfl (by omega) ⟨hS, _, rfl, by omega, by omega⟩
    · refine Tr.iconst (pc := 32) d_X5_isOwn_32 (by decide) ?_
      refine Tr.goto (pc := 33) (tgt := 37) d_X5_isOwn_33 rfl ?_
      exact Tr.zret (pc := 37) d_X5_isOwn_37 rfl (by omega) ⟨hS, _, rfl, by omega, by omega⟩

def ws_X5_takeOwn_6_w1 : List (Int × Int) := [(6, 0), (6, 1), (6, 5)]
def as_X5_takeOwn_6_w1 : List Int := []
def q_X5_takeOwn_6_w1 (M0 M' : Mem) (r : Option PV) : Prop := St Tru ws_X5_takeOwn_6_w1 as_X5_takeOwn_6_w1 M0 M' ∧ ∃ v : Int, r = some (0, v) ∧ 0 ≤ v ∧ v ≤ 1
set_option maxRecDepth 100000 in
set_option maxHeartbeats 4000000 in
theorem sp_X5_takeOwn_6_w1 {l : Launch} {K : EC} {M0 : Mem} (hI : In Tru M0) (en_6_2 : rd M0 6 2 = 2) (a1 : Int) (ha1 : 16 ≤ a1 ∧ a1 ≤ 16)  : Tr l K 1 mX5_takeOwn 0 [(0, (2, 6)), (1, (0, a1))] [] M0 (q_X5_takeOwn_6_w1 M0) := by
  have hS : St Tru ws_X5_takeOwn_6_w1 as_X5_takeOwn_6_w1 M0 M0 := St.rf hI
  refine Tr.aload_n (pc := 0) (i := 0) d_X5_takeOwn_0 rfl rfl ?_
  refine Tr.iload_n (pc := 1) (i := 1) d_X5_takeOwn_1 rfl rfl ?_
  refine Tr.tp 16 (by omega) ?_
  refine Tr.callV (pc := 2) (as := [_]) d_X5_takeOwn_2 s_5_71 ok_X5_isOwn rfl rfl (Nat.le_of_ble_eq_true rfl) (Nat.le_of_ble_eq_true rfl) (by decide) (ty_6 hS.1.1) ?_
  refine Tr.imp (Tr.deep (by decide) (sp_X5_isOwn_6_w1 hS.1 ((St.kp hS (by decide) (by decide) (by decide)).trans en_6_2) 16 (by omega))) ?_
  rintro M2 _ ⟨h2, r2, rfl, lr2, ur2⟩
  have hS := St.tr hS h2 (by decide) (by decide)
  refine Tr.sc [(0, r2)] rfl ?_
  refine Tr.if_eq (pc := 5) (tgt := 15) d_X5_takeOwn_5 rfl (fun c5 => ?_) (fun c5 => ?_)
  · refine Tr.aload_n (pc := 15) (i := 0) d_X5_takeOwn_15 rfl rfl ?_
    refine Tr.iconst (pc := 16) d_X5_takeOwn_16 (by decide) ?_
    refine Tr.callV (pc := 17) (as := [_]) d_X5_takeOwn_17 s_5_56 ok_X5_refuse rfl rfl (Nat.le_of_ble_eq_true rfl) (Nat.le_of_ble_eq_true rfl) (by decide) (ty_6 hS.1.1) ?_
    refine Tr.imp (Tr.deep (by decide) (sp_X5_refuse_6_w1 hS.1 ((St.kp hS (by decide) (by decide) (by decide)).trans en_6_2) 1 (by omega))) ?_
    rintro M17 _ ⟨h17, r17, rfl, lr17, ur17⟩
    have hS := St.tr hS h17 (by decide) (by decide)
    refine Tr.sc [(0, r17)] rfl ?_
    exact Tr.zret (pc := 20) d_X5_takeOwn_20 rfl (by omega) ⟨hS, _, rfl, by omega, by omega⟩
  · refine Tr.aload_n (pc := 8) (i := 0) d_X5_takeOwn_8 rfl rfl ?_
    refine Tr.callV (pc := 9) (as := []) d_X5_takeOwn_9 s_5_74 ok_X5_goOn rfl rfl (Nat.le_of_ble_eq_true rfl) (Nat.le_of_ble_eq_true rfl) (by decide) (ty_6 hS.1.1) ?_
    refine Tr.imp (Tr.deep (by decide) (sp_X5_goOn_6 hS.1 )) ?_
    rintro M9 _ ⟨h9, r9, rfl, lr9, ur9⟩
    have hS := St.tr hS h9 (by decide) (by decide)
    refine Tr.sc [(0, r9)] rfl ?_
    refine Tr.goto (pc := 12) (tgt := 20) d_X5_takeOwn_12 rfl ?_
    exact Tr.zret (pc := 20) d_X5_takeOwn_20 rfl (by omega) ⟨hS, _, rfl, by omega, by omega⟩

def ws_X5_takeTold_6_w2 : List (Int × Int) := [(6, 0), (6, 1), (6, 5)]
def as_X5_takeTold_6_w2 : List Int := []
def q_X5_takeTold_6_w2 (M0 M' : Mem) (r : Option PV) : Prop := St Tru ws_X5_takeTold_6_w2 as_X5_takeTold_6_w2 M0 M' ∧ ∃ v : Int, r = some (0, v) ∧ (-1) ≤ v ∧ v ≤ 999
set_option maxRecDepth 100000 in
set_option maxHeartbeats 4000000 in
theorem sp_X5_takeTold_6_w2 {l : Launch} {K : EC} {M0 : Mem} (hI : In Tru M0) (en_6_2 : rd M0 6 2 = 2) (a1 : Int) (ha1 : 16 ≤ a1 ∧ a1 ≤ 16) (a2 : Int) (ha2 : 999 ≤ a2 ∧ a2 ≤ 999)  : Tr l K 2 mX5_takeTold 0 [(0, (2, 6)), (1, (0, a1)), (2, (0, a2))] [] M0 (q_X5_takeTold_6_w2 M0) := by
  have hS : St Tru ws_X5_takeTold_6_w2 as_X5_takeTold_6_w2 M0 M0 := St.rf hI
  refine Tr.aload_n (pc := 0) (i := 0) d_X5_takeTold_0 rfl rfl ?_
  refine Tr.iload_n (pc := 1) (i := 1) d_X5_takeTold_1 rfl rfl ?_
  refine Tr.tp 16 (by omega) ?_
  refine Tr.callV (pc := 2) (as := [_]) d_X5_takeTold_2 s_5_84 ok_X5_takeOwn rfl rfl (Nat.le_of_ble_eq_true rfl) (Nat.le_of_ble_eq_true rfl) (by decide) (ty_6 hS.1.1) ?_
  refine Tr.imp (Tr.deep (by decide) (sp_X5_takeOwn_6_w1 hS.1 ((St.kp hS (by decide) (by decide) (by decide)).trans en_6_2) 16 (by omega))) ?_
  rintro M2 _ ⟨h2, r2, rfl, lr2, ur2⟩
  have hS := St.tr hS h2 (by decide) (by decide)
  refine Tr.sc [(0, r2)] rfl ?_
  refine Tr.if_eq (pc := 5) (tgt := 17) d_X5_takeTold_5 rfl (fun c5 => ?_) (fun c5 => ?_)
  · refine Tr.iconst (pc := 17) d_X5_takeTold_17 (by decide) ?_
    exact Tr.iret (pc := 18) d_X5_takeTold_18 rfl ⟨hS, _, rfl, by omega, by omega⟩
  · refine Tr.aload_n (pc := 8) (i := 0) d_X5_takeTold_8 rfl rfl ?_
    refine Tr.iconst (pc := 9) d_X5_takeTold_9 (by decide) ?_
    refine Tr.iload_n (pc := 10) (i := 2) d_X5_takeTold_10 rfl rfl ?_
    refine Tr.tp 999 (by omega) ?_
    refine Tr.callV (pc := 11) (as := [_, _]) d_X5_takeTold_11 s_5_87 ok_X5_takeNumber rfl rfl (Nat.le_of_ble_eq_true rfl) (Nat.le_of_ble_eq_true rfl) (by decide) (ty_6 hS.1.1) ?_
    refine Tr.imp (Tr.deep (by decide) (sp_X5_takeNumber_6_w2 hS.1 ((St.kp hS (by decide) (by decide) (by decide)).trans en_6_2) 0 (by omega) 999 (by omega))) ?_
    rintro M11 _ ⟨h11, r11, rfl, lr11, ur11⟩
    have hS := St.tr hS h11 (by decide) (by decide)
    refine Tr.sc [(0, r11)] rfl ?_
    refine Tr.goto (pc := 14) (tgt := 18) d_X5_takeTold_14 rfl ?_
    exact Tr.iret (pc := 18) d_X5_takeTold_18 rfl ⟨hS, _, rfl, by omega, by omega⟩

def ws_X5_isOwn_6_w2 : List (Int × Int) := []
def as_X5_isOwn_6_w2 : List Int := []
def q_X5_isOwn_6_w2 (M0 M' : Mem) (r : Option PV) : Prop := St Tru ws_X5_isOwn_6_w2 as_X5_isOwn_6_w2 M0 M' ∧ ∃ v : Int, r = some (0, v) ∧ 0 ≤ v ∧ v ≤ 1
set_option maxRecDepth 100000 in
set_option maxHeartbeats 4000000 in
theorem sp_X5_isOwn_6_w2 {l : Launch} {K : EC} {M0 : Mem} (hI : In Tru M0) (en_6_2 : rd M0 6 2 = 2) (a1 : Int) (ha1 : 17 ≤ a1 ∧ a1 ≤ 17)  : Tr l K 0 mX5_isOwn 0 [(0, (2, 6)), (1, (0, a1))] [] M0 (q_X5_isOwn_6_w2 M0) := by
  have hS : St Tru ws_X5_isOwn_6_w2 as_X5_isOwn_6_w2 M0 M0 := St.rf hI
  refine Tr.aload_n (pc := 0) (i := 0) d_X5_isOwn_0 rfl rfl ?_
  refine Tr.getf (pc := 1) d_X5_isOwn_1 f_5_18 (by decide) (by decide) (ty_6 hS.1.1) ?_
  refine Tr.tp 2 ((St.kp hS (by decide) (by decide) (by decide)).trans en_6_2) ?_
  refine Tr.getf (pc := 4) d_X5_isOwn_4 f_5_50 (by decide) (by decide) (ty_2 hS.1.1) ?_
  refine Tr.tp 3 (fx_2_0 hS.1.1) ?_
  refine Tr.aload_n (pc := 7) (i := 0) d_X5_isOwn_7 rfl rfl ?_
  refine Tr.getf (pc := 8) d_X5_isOwn_8 f_5_36 (by decide) (by decide) (ty_6 hS.1.1) ?_
  refine Tr.gen (P := fun v => 0 ≤ v ∧ v ≤ 900) (ir_6_5 hS.1.2.1) (fun r8 er8 br8 => ?_)
  refine Tr.iald (pc := 11) d_X5_isOwn_11 (ty_3 hS.1.1) (by omega) (by omega) ?_
  refine Tr.gen (P := fun v => (-2147483648) ≤ v ∧ v ≤ 2147483647) (ar_3 hS.1.2.1 _) (fun r11 er11 br11 => ?_)
  refine Tr.iconst (pc := 12) d_X5_isOwn_12 (by decide) ?_
  refine Tr.icmp_ne (pc := 13) (tgt := 36) d_X5_isOwn_13 rfl (fun c13 => ?_) (fun c13 => ?_)
  · refine Tr.iconst (pc := 36) d_X5_isOwn_36 (by decide) ?_
    exact Tr.zret (pc := 37) d_X5_isOwn_37 rfl (by omega) ⟨hS, _, rfl, by omega, by omega⟩
  · refine Tr.aload_n (pc := 16) (i := 0) d_X5_isOwn_16 rfl rfl ?_
    refine Tr.getf (pc := 17) d_X5_isOwn_17 f_5_18 (by decide) (by decide) (ty_6 hS.1.1) ?_
    refine Tr.tp 2 ((St.kp hS (by decide) (by decide) (by decide)).trans en_6_2) ?_
    refine Tr.getf (pc := 20) d_X5_isOwn_20 f_5_68 (by decide) (by decide) (ty_2 hS.1.1) ?_
    refine Tr.tp 5 (fx_2_2 hS.1.1) ?_
    refine Tr.aload_n (pc := 23) (i := 0) d_X5_isOwn_23 rfl rfl ?_
    refine Tr.getf (pc := 24) d_X5_isOwn_24 f_5_36 (by decide) (by decide) (ty_6 hS.1.1) ?_
    refine Tr.tp r8 er8 ?_
    refine Tr.iald (pc := 27) d_X5_isOwn_27 (ty_5 hS.1.1) (by omega) (by omega) ?_
    refine Tr.gen (P := fun v => (-2147483648) ≤ v ∧ v ≤ 2147483647) (ar_5 hS.1.2.1 _) (fun r27 er27 br27 => ?_)
    refine Tr.iload_n (pc := 28) (i := 1) d_X5_isOwn_28 rfl rfl ?_
    refine Tr.tp 17 (by omega) ?_
    refine Tr.icmp_ne (pc := 29) (tgt := 36) d_X5_isOwn_29 rfl (fun c29 => ?_) (fun c29 => ?_)
    · refine Tr.iconst (pc := 36) d_X5_isOwn_36 (by decide) ?_
      exact Tr.zret (pc := 37) d_X5_isOwn_37 rfl (by omega) ⟨hS, _, rfl, by omega, by omega⟩
    · refine Tr.iconst (pc := 32) d_X5_isOwn_32 (by decide) ?_
      refine Tr.goto (pc := 33) (tgt := 37) d_X5_isOwn_33 rfl ?_
      exact Tr.zret (pc := 37) d_X5_isOwn_37 rfl (by omega) ⟨hS, _, rfl, by omega, by omega⟩

def ws_X5_takeOwn_6_w2 : List (Int × Int) := [(6, 0), (6, 1), (6, 5)]
def as_X5_takeOwn_6_w2 : List Int := []
def q_X5_takeOwn_6_w2 (M0 M' : Mem) (r : Option PV) : Prop := St Tru ws_X5_takeOwn_6_w2 as_X5_takeOwn_6_w2 M0 M' ∧ ∃ v : Int, r = some (0, v) ∧ 0 ≤ v ∧ v ≤ 1
set_option maxRecDepth 100000 in
set_option maxHeartbeats 4000000 in
theorem sp_X5_takeOwn_6_w2 {l : Launch} {K : EC} {M0 : Mem} (hI : In Tru M0) (en_6_2 : rd M0 6 2 = 2) (a1 : Int) (ha1 : 17 ≤ a1 ∧ a1 ≤ 17)  : Tr l K 1 mX5_takeOwn 0 [(0, (2, 6)), (1, (0, a1))] [] M0 (q_X5_takeOwn_6_w2 M0) := by
  have hS : St Tru ws_X5_takeOwn_6_w2 as_X5_takeOwn_6_w2 M0 M0 := St.rf hI
  refine Tr.aload_n (pc := 0) (i := 0) d_X5_takeOwn_0 rfl rfl ?_
  refine Tr.iload_n (pc := 1) (i := 1) d_X5_takeOwn_1 rfl rfl ?_
  refine Tr.tp 17 (by omega) ?_
  refine Tr.callV (pc := 2) (as := [_]) d_X5_takeOwn_2 s_5_71 ok_X5_isOwn rfl rfl (Nat.le_of_ble_eq_true rfl) (Nat.le_of_ble_eq_true rfl) (by decide) (ty_6 hS.1.1) ?_
  refine Tr.imp (Tr.deep (by decide) (sp_X5_isOwn_6_w2 hS.1 ((St.kp hS (by decide) (by decide) (by decide)).trans en_6_2) 17 (by omega))) ?_
  rintro M2 _ ⟨h2, r2, rfl, lr2, ur2⟩
  have hS := St.tr hS h2 (by decide) (by decide)
  refine Tr.sc [(0, r2)] rfl ?_
  refine Tr.if_eq (pc := 5) (tgt := 15) d_X5_takeOwn_5 rfl (fun c5 => ?_) (fun c5 => ?_)
  · refine Tr.aload_n (pc := 15) (i := 0) d_X5_takeOwn_15 rfl rfl ?_
    refine Tr.iconst (pc := 16) d_X5_takeOwn_16 (by decide) ?_
    refine Tr.callV (pc := 17) (as := [_]) d_X5_takeOwn_17 s_5_56 ok_X5_refuse rfl rfl (Nat.le_of_ble_eq_true rfl) (Nat.le_of_ble_eq_true rfl) (by decide) (ty_6 hS.1.1) ?_
    refine Tr.imp (Tr.deep (by decide) (sp_X5_refuse_6_w1 hS.1 ((St.kp hS (by decide) (by decide) (by decide)).trans en_6_2) 1 (by omega))) ?_
    rintro M17 _ ⟨h17, r17, rfl, lr17, ur17⟩
    have hS := St.tr hS h17 (by decide) (by decide)
    refine Tr.sc [(0, r17)] rfl ?_
    exact Tr.zret (pc := 20) d_X5_takeOwn_20 rfl (by omega) ⟨hS, _, rfl, by omega, by omega⟩
  · refine Tr.aload_n (pc := 8) (i := 0) d_X5_takeOwn_8 rfl rfl ?_
    refine Tr.callV (pc := 9) (as := []) d_X5_takeOwn_9 s_5_74 ok_X5_goOn rfl rfl (Nat.le_of_ble_eq_true rfl) (Nat.le_of_ble_eq_true rfl) (by decide) (ty_6 hS.1.1) ?_
    refine Tr.imp (Tr.deep (by decide) (sp_X5_goOn_6 hS.1 )) ?_
    rintro M9 _ ⟨h9, r9, rfl, lr9, ur9⟩
    have hS := St.tr hS h9 (by decide) (by decide)
    refine Tr.sc [(0, r9)] rfl ?_
    refine Tr.goto (pc := 12) (tgt := 20) d_X5_takeOwn_12 rfl ?_
    exact Tr.zret (pc := 20) d_X5_takeOwn_20 rfl (by omega) ⟨hS, _, rfl, by omega, by omega⟩

def ws_X5_takeTold_6_w3 : List (Int × Int) := [(6, 0), (6, 1), (6, 5)]
def as_X5_takeTold_6_w3 : List Int := []
def q_X5_takeTold_6_w3 (M0 M' : Mem) (r : Option PV) : Prop := St Tru ws_X5_takeTold_6_w3 as_X5_takeTold_6_w3 M0 M' ∧ ∃ v : Int, r = some (0, v) ∧ (-1) ≤ v ∧ v ≤ 999
set_option maxRecDepth 100000 in
set_option maxHeartbeats 4000000 in
theorem sp_X5_takeTold_6_w3 {l : Launch} {K : EC} {M0 : Mem} (hI : In Tru M0) (en_6_2 : rd M0 6 2 = 2) (a1 : Int) (ha1 : 17 ≤ a1 ∧ a1 ≤ 17) (a2 : Int) (ha2 : 999 ≤ a2 ∧ a2 ≤ 999)  : Tr l K 2 mX5_takeTold 0 [(0, (2, 6)), (1, (0, a1)), (2, (0, a2))] [] M0 (q_X5_takeTold_6_w3 M0) := by
  have hS : St Tru ws_X5_takeTold_6_w3 as_X5_takeTold_6_w3 M0 M0 := St.rf hI
  refine Tr.aload_n (pc := 0) (i := 0) d_X5_takeTold_0 rfl rfl ?_
  refine Tr.iload_n (pc := 1) (i := 1) d_X5_takeTold_1 rfl rfl ?_
  refine Tr.tp 17 (by omega) ?_
  refine Tr.callV (pc := 2) (as := [_]) d_X5_takeTold_2 s_5_84 ok_X5_takeOwn rfl rfl (Nat.le_of_ble_eq_true rfl) (Nat.le_of_ble_eq_true rfl) (by decide) (ty_6 hS.1.1) ?_
  refine Tr.imp (Tr.deep (by decide) (sp_X5_takeOwn_6_w2 hS.1 ((St.kp hS (by decide) (by decide) (by decide)).trans en_6_2) 17 (by omega))) ?_
  rintro M2 _ ⟨h2, r2, rfl, lr2, ur2⟩
  have hS := St.tr hS h2 (by decide) (by decide)
  refine Tr.sc [(0, r2)] rfl ?_
  refine Tr.if_eq (pc := 5) (tgt := 17) d_X5_takeTold_5 rfl (fun c5 => ?_) (fun c5 => ?_)
  · refine Tr.iconst (pc := 17) d_X5_takeTold_17 (by decide) ?_
    exact Tr.iret (pc := 18) d_X5_takeTold_18 rfl ⟨hS, _, rfl, by omega, by omega⟩
  · refine Tr.aload_n (pc := 8) (i := 0) d_X5_takeTold_8 rfl rfl ?_
    refine Tr.iconst (pc := 9) d_X5_takeTold_9 (by decide) ?_
    refine Tr.iload_n (pc := 10) (i := 2) d_X5_takeTold_10 rfl rfl ?_
    refine Tr.tp 999 (by omega) ?_
    refine Tr.callV (pc := 11) (as := [_, _]) d_X5_takeTold_11 s_5_87 ok_X5_takeNumber rfl rfl (Nat.le_of_ble_eq_true rfl) (Nat.le_of_ble_eq_true rfl) (by decide) (ty_6 hS.1.1) ?_
    refine Tr.imp (Tr.deep (by decide) (sp_X5_takeNumber_6_w2 hS.1 ((St.kp hS (by decide) (by decide) (by decide)).trans en_6_2) 0 (by omega) 999 (by omega))) ?_
    rintro M11 _ ⟨h11, r11, rfl, lr11, ur11⟩
    have hS := St.tr hS h11 (by decide) (by decide)
    refine Tr.sc [(0, r11)] rfl ?_
    refine Tr.goto (pc := 14) (tgt := 18) d_X5_takeTold_14 rfl ?_
    exact Tr.iret (pc := 18) d_X5_takeTold_18 rfl ⟨hS, _, rfl, by omega, by omega⟩

def ws_X5_isOwn_6_w3 : List (Int × Int) := []
def as_X5_isOwn_6_w3 : List Int := []
def q_X5_isOwn_6_w3 (M0 M' : Mem) (r : Option PV) : Prop := St Tru ws_X5_isOwn_6_w3 as_X5_isOwn_6_w3 M0 M' ∧ ∃ v : Int, r = some (0, v) ∧ 0 ≤ v ∧ v ≤ 1
set_option maxRecDepth 100000 in
set_option maxHeartbeats 4000000 in
theorem sp_X5_isOwn_6_w3 {l : Launch} {K : EC} {M0 : Mem} (hI : In Tru M0) (en_6_2 : rd M0 6 2 = 2) (a1 : Int) (ha1 : 17 ≤ a1 ∧ a1 ≤ 20)  : Tr l K 0 mX5_isOwn 0 [(0, (2, 6)), (1, (0, a1))] [] M0 (q_X5_isOwn_6_w3 M0) := by
  have hS : St Tru ws_X5_isOwn_6_w3 as_X5_isOwn_6_w3 M0 M0 := St.rf hI
  refine Tr.aload_n (pc := 0) (i := 0) d_X5_isOwn_0 rfl rfl ?_
  refine Tr.getf (pc := 1) d_X5_isOwn_1 f_5_18 (by decide) (by decide) (ty_6 hS.1.1) ?_
  refine Tr.tp 2 ((St.kp hS (by decide) (by decide) (by decide)).trans en_6_2) ?_
  refine Tr.getf (pc := 4) d_X5_isOwn_4 f_5_50 (by decide) (by decide) (ty_2 hS.1.1) ?_
  refine Tr.tp 3 (fx_2_0 hS.1.1) ?_
  refine Tr.aload_n (pc := 7) (i := 0) d_X5_isOwn_7 rfl rfl ?_
  refine Tr.getf (pc := 8) d_X5_isOwn_8 f_5_36 (by decide) (by decide) (ty_6 hS.1.1) ?_
  refine Tr.gen (P := fun v => 0 ≤ v ∧ v ≤ 900) (ir_6_5 hS.1.2.1) (fun r8 er8 br8 => ?_)
  refine Tr.iald (pc := 11) d_X5_isOwn_11 (ty_3 hS.1.1) (by omega) (by omega) ?_
  refine Tr.gen (P := fun v => (-2147483648) ≤ v ∧ v ≤ 2147483647) (ar_3 hS.1.2.1 _) (fun r11 er11 br11 => ?_)
  refine Tr.iconst (pc := 12) d_X5_isOwn_12 (by decide) ?_
  refine Tr.icmp_ne (pc := 13) (tgt := 36) d_X5_isOwn_13 rfl (fun c13 => ?_) (fun c13 => ?_)
  · refine Tr.iconst (pc := 36) d_X5_isOwn_36 (by decide) ?_
    exact Tr.zret (pc := 37) d_X5_isOwn_37 rfl (by omega) ⟨hS, _, rfl, by omega, by omega⟩
  · refine Tr.aload_n (pc := 16) (i := 0) d_X5_isOwn_16 rfl rfl ?_
    refine Tr.getf (pc := 17) d_X5_isOwn_17 f_5_18 (by decide) (by decide) (ty_6 hS.1.1) ?_
    refine Tr.tp 2 ((St.kp hS (by decide) (by decide) (by decide)).trans en_6_2) ?_
    refine Tr.getf (pc := 20) d_X5_isOwn_20 f_5_68 (by decide) (by decide) (ty_2 hS.1.1) ?_
    refine Tr.tp 5 (fx_2_2 hS.1.1) ?_
    refine Tr.aload_n (pc := 23) (i := 0) d_X5_isOwn_23 rfl rfl ?_
    refine Tr.getf (pc := 24) d_X5_isOwn_24 f_5_36 (by decide) (by decide) (ty_6 hS.1.1) ?_
    refine Tr.tp r8 er8 ?_
    refine Tr.iald (pc := 27) d_X5_isOwn_27 (ty_5 hS.1.1) (by omega) (by omega) ?_
    refine Tr.gen (P := fun v => (-2147483648) ≤ v ∧ v ≤ 2147483647) (ar_5 hS.1.2.1 _) (fun r27 er27 br27 => ?_)
    refine Tr.iload_n (pc := 28) (i := 1) d_X5_isOwn_28 rfl rfl ?_
    refine Tr.icmp_ne (pc := 29) (tgt := 36) d_X5_isOwn_29 rfl (fun c29 => ?_) (fun c29 => ?_)
    · refine Tr.iconst (pc := 36) d_X5_isOwn_36 (by decide) ?_
      exact Tr.zret (pc := 37) d_X5_isOwn_37 rfl (by omega) ⟨hS, _, rfl, by omega, by omega⟩
    · refine Tr.iconst (pc := 32) d_X5_isOwn_32 (by decide) ?_
      refine Tr.goto (pc := 33) (tgt := 37) d_X5_isOwn_33 rfl ?_
      exact Tr.zret (pc := 37) d_X5_isOwn_37 rfl (by omega) ⟨hS, _, rfl, by omega, by omega⟩

def ws_X5_takeOwn_6_w3 : List (Int × Int) := [(6, 0), (6, 1), (6, 5)]
def as_X5_takeOwn_6_w3 : List Int := []
def q_X5_takeOwn_6_w3 (M0 M' : Mem) (r : Option PV) : Prop := St Tru ws_X5_takeOwn_6_w3 as_X5_takeOwn_6_w3 M0 M' ∧ ∃ v : Int, r = some (0, v) ∧ 0 ≤ v ∧ v ≤ 1
set_option maxRecDepth 100000 in
set_option maxHeartbeats 4000000 in
theorem sp_X5_takeOwn_6_w3 {l : Launch} {K : EC} {M0 : Mem} (hI : In Tru M0) (en_6_2 : rd M0 6 2 = 2) (a1 : Int) (ha1 : 17 ≤ a1 ∧ a1 ≤ 20)  : Tr l K 1 mX5_takeOwn 0 [(0, (2, 6)), (1, (0, a1))] [] M0 (q_X5_takeOwn_6_w3 M0) := by
  have hS : St Tru ws_X5_takeOwn_6_w3 as_X5_takeOwn_6_w3 M0 M0 := St.rf hI
  refine Tr.aload_n (pc := 0) (i := 0) d_X5_takeOwn_0 rfl rfl ?_
  refine Tr.iload_n (pc := 1) (i := 1) d_X5_takeOwn_1 rfl rfl ?_
  refine Tr.callV (pc := 2) (as := [_]) d_X5_takeOwn_2 s_5_71 ok_X5_isOwn rfl rfl (Nat.le_of_ble_eq_true rfl) (Nat.le_of_ble_eq_true rfl) (by decide) (ty_6 hS.1.1) ?_
  refine Tr.imp (Tr.deep (by decide) (sp_X5_isOwn_6_w3 hS.1 ((St.kp hS (by decide) (by decide) (by decide)).trans en_6_2) a1 (by omega))) ?_
  rintro M2 _ ⟨h2, r2, rfl, lr2, ur2⟩
  have hS := St.tr hS h2 (by decide) (by decide)
  refine Tr.sc [(0, r2)] rfl ?_
  refine Tr.if_eq (pc := 5) (tgt := 15) d_X5_takeOwn_5 rfl (fun c5 => ?_) (fun c5 => ?_)
  · refine Tr.aload_n (pc := 15) (i := 0) d_X5_takeOwn_15 rfl rfl ?_
    refine Tr.iconst (pc := 16) d_X5_takeOwn_16 (by decide) ?_
    refine Tr.callV (pc := 17) (as := [_]) d_X5_takeOwn_17 s_5_56 ok_X5_refuse rfl rfl (Nat.le_of_ble_eq_true rfl) (Nat.le_of_ble_eq_true rfl) (by decide) (ty_6 hS.1.1) ?_
    refine Tr.imp (Tr.deep (by decide) (sp_X5_refuse_6_w1 hS.1 ((St.kp hS (by decide) (by decide) (by decide)).trans en_6_2) 1 (by omega))) ?_
    rintro M17 _ ⟨h17, r17, rfl, lr17, ur17⟩
    have hS := St.tr hS h17 (by decide) (by decide)
    refine Tr.sc [(0, r17)] rfl ?_
    exact Tr.zret (pc := 20) d_X5_takeOwn_20 rfl (by omega) ⟨hS, _, rfl, by omega, by omega⟩
  · refine Tr.aload_n (pc := 8) (i := 0) d_X5_takeOwn_8 rfl rfl ?_
    refine Tr.callV (pc := 9) (as := []) d_X5_takeOwn_9 s_5_74 ok_X5_goOn rfl rfl (Nat.le_of_ble_eq_true rfl) (Nat.le_of_ble_eq_true rfl) (by decide) (ty_6 hS.1.1) ?_
    refine Tr.imp (Tr.deep (by decide) (sp_X5_goOn_6 hS.1 )) ?_
    rintro M9 _ ⟨h9, r9, rfl, lr9, ur9⟩
    have hS := St.tr hS h9 (by decide) (by decide)
    refine Tr.sc [(0, r9)] rfl ?_
    refine Tr.goto (pc := 12) (tgt := 20) d_X5_takeOwn_12 rfl ?_
    exact Tr.zret (pc := 20) d_X5_takeOwn_20 rfl (by omega) ⟨hS, _, rfl, by omega, by omega⟩

def ws_X5_takeNumber_6_w4 : List (Int × Int) := [(6, 0), (6, 1), (6, 5)]
def as_X5_takeNumber_6_w4 : List Int := []
def q_X5_takeNumber_6_w4 (M0 M' : Mem) (r : Option PV) : Prop := St Tru ws_X5_takeNumber_6_w4 as_X5_takeNumber_6_w4 M0 M' ∧ ∃ v : Int, r = some (0, v) ∧ (-1) ≤ v ∧ v ≤ 50
set_option maxRecDepth 100000 in
set_option maxHeartbeats 4000000 in
theorem sp_X5_takeNumber_6_w4 {l : Launch} {K : EC} {M0 : Mem} (hI : In Tru M0) (en_6_2 : rd M0 6 2 = 2) (a1 : Int) (ha1 : 0 ≤ a1 ∧ a1 ≤ 0) (a2 : Int) (ha2 : 50 ≤ a2 ∧ a2 ≤ 50)  : Tr l K 1 mX5_takeNumber 0 [(0, (2, 6)), (1, (0, a1)), (2, (0, a2))] [] M0 (q_X5_takeNumber_6_w4 M0) := by
  have hS : St Tru ws_X5_takeNumber_6_w4 as_X5_takeNumber_6_w4 M0 M0 := St.rf hI
  refine Tr.aload_n (pc := 0) (i := 0) d_X5_takeNumber_0 rfl rfl ?_
  refine Tr.getf (pc := 1) d_X5_takeNumber_1 f_5_18 (by decide) (by decide) (ty_6 hS.1.1) ?_
  refine Tr.tp 2 ((St.kp hS (by decide) (by decide) (by decide)).trans en_6_2) ?_
  refine Tr.getf (pc := 4) d_X5_takeNumber_4 f_5_50 (by decide) (by decide) (ty_2 hS.1.1) ?_
  refine Tr.tp 3 (fx_2_0 hS.1.1) ?_
  refine Tr.aload_n (pc := 7) (i := 0) d_X5_takeNumber_7 rfl rfl ?_
  refine Tr.getf (pc := 8) d_X5_takeNumber_8 f_5_36 (by decide) (by decide) (ty_6 hS.1.1) ?_
  refine Tr.gen (P := fun v => 0 ≤ v ∧ v ≤ 900) (ir_6_5 hS.1.2.1) (fun r8 er8 br8 => ?_)
  refine Tr.iald (pc := 11) d_X5_takeNumber_11 (ty_3 hS.1.1) (by omega) (by omega) ?_
  refine Tr.gen (P := fun v => (-2147483648) ≤ v ∧ v ≤ 2147483647) (ar_3 hS.1.2.1 _) (fun r11 er11 br11 => ?_)
  refine Tr.iconst (pc := 12) d_X5_takeNumber_12 (by decide) ?_
  refine Tr.icmp_eq (pc := 13) (tgt := 24) d_X5_takeNumber_13 rfl (fun c13 => ?_) (fun c13 => ?_)
  · refine Tr.aload_n (pc := 24) (i := 0) d_X5_takeNumber_24 rfl rfl ?_
    refine Tr.getf (pc := 25) d_X5_takeNumber_25 f_5_18 (by decide) (by decide) (ty_6 hS.1.1) ?_
    refine Tr.tp 2 ((St.kp hS (by decide) (by decide) (by decide)).trans en_6_2) ?_
    refine Tr.getf (pc := 28) d_X5_takeNumber_28 f_5_68 (by decide) (by decide) (ty_2 hS.1.1) ?_
    refine Tr.tp 5 (fx_2_2 hS.1.1) ?_
    refine Tr.aload_n (pc := 31) (i := 0) d_X5_takeNumber_31 rfl rfl ?_
    refine Tr.getf (pc := 32) d_X5_takeNumber_32 f_5_36 (by decide) (by decide) (ty_6 hS.1.1) ?_
    refine Tr.tp r8 er8 ?_
    refine Tr.iald (pc := 35) d_X5_takeNumber_35 (ty_5 hS.1.1) (by omega) (by omega) ?_
    refine Tr.gen (P := fun v => (-2147483648) ≤ v ∧ v ≤ 2147483647) (ar_5 hS.1.2.1 _) (fun r35 er35 br35 => ?_)
    refine Tr.istore_n (pc := 36) (i := 3) (ls2 := [(3, (0, r35)), (0, (2, 6)), (1, (0, a1)), (2, (0, a2))]) d_X5_takeNumber_36 rfl (by decide) rfl ?_
    refine Tr.iload_n (pc := 37) (i := 3) d_X5_takeNumber_37 rfl rfl ?_
    refine Tr.iload_n (pc := 38) (i := 1) d_X5_takeNumber_38 rfl rfl ?_
    refine Tr.tp 0 (by omega) ?_
    have J47 : ∀ (M : Mem), St Tru ws_X5_takeNumber_6_w4 as_X5_takeNumber_6_w4 M0 M → rd M 3 r8 = r11 → rd M 5 r8 = r35 → rd M 6 5 = r8 → Tr l K 1 mX5_takeNumber 47 [(0, (2, 6))] [] M (q_X5_takeNumber_6_w4 M0) := by
      intro M  hS  k47_3_r810 k47_5_r810 k47_6_5
      refine Tr.aload_n (pc := 47) (i := 0) d_X5_takeNumber_47 rfl rfl ?_
      refine Tr.iconst (pc := 48) d_X5_takeNumber_48 (by decide) ?_
      refine Tr.callV (pc := 49) (as := [_]) d_X5_takeNumber_49 s_5_56 ok_X5_refuse rfl rfl (Nat.le_of_ble_eq_true rfl) (Nat.le_of_ble_eq_true rfl) (by decide) (ty_6 hS.1.1) ?_
      refine Tr.imp (Tr.deep (by decide) (sp_X5_refuse_6_w3 hS.1 ((St.kp hS (by decide) (by decide) (by decide)).trans en_6_2) 4 (by omega))) ?_
      rintro M49 _ ⟨h49, r49, rfl, lr49, ur49⟩
      have hS := St.tr hS h49 (by decide) (by decide)
      refine Tr.sc [(0, r49)] rfl ?_
      refine Tr.pop (pc := 52) d_X5_takeNumber_52 ne01 ?_
      refine Tr.iconst (pc := 53) d_X5_takeNumber_53 (by decide) ?_
      exact Tr.iret (pc := 54) d_X5_takeNumber_54 rfl ⟨hS, _, rfl, by omega, by omega⟩
    refine Tr.icmp_lt (pc := 39) (tgt := 47) d_X5_takeNumber_39 rfl (fun c39 => ?_) (fun c39 => ?_)
    · refine Tr.pick [1] (ls2 := [(0, (2, 6))]) rfl ?_
      exact J47 _ hS er11 er35 er8
    · refine Tr.iload_n (pc := 42) (i := 3) d_X5_takeNumber_42 rfl rfl ?_
      refine Tr.iload_n (pc := 43) (i := 2) d_X5_takeNumber_43 rfl rfl ?_
      refine Tr.tp 50 (by omega) ?_
      refine Tr.icmp_le (pc := 44) (tgt := 55) d_X5_takeNumber_44 rfl (fun c44 => ?_) (fun c44 => ?_)
      · refine Tr.aload_n (pc := 55) (i := 0) d_X5_takeNumber_55 rfl rfl ?_
        refine Tr.callV (pc := 56) (as := []) d_X5_takeNumber_56 s_5_74 ok_X5_goOn rfl rfl (Nat.le_of_ble_eq_true rfl) (Nat.le_of_ble_eq_true rfl) (by decide) (ty_6 hS.1.1) ?_
        refine Tr.imp (Tr.deep (by decide) (sp_X5_goOn_6 hS.1 )) ?_
        rintro M56 _ ⟨h56, r56, rfl, lr56, ur56⟩
        have hS := St.tr hS h56 (by decide) (by decide)
        refine Tr.sc [(0, r56)] rfl ?_
        refine Tr.pop (pc := 59) d_X5_takeNumber_59 ne01 ?_
        refine Tr.iload_n (pc := 60) (i := 3) d_X5_takeNumber_60 rfl rfl ?_
        exact Tr.iret (pc := 61) d_X5_takeNumber_61 rfl ⟨hS, _, rfl, by omega, by omega⟩
      · refine Tr.pick [1] (ls2 := [(0, (2, 6))]) rfl ?_
        exact J47 _ hS er11 er35 er8
  · refine Tr.aload_n (pc := 16) (i := 0) d_X5_takeNumber_16 rfl rfl ?_
    refine Tr.iconst (pc := 17) d_X5_takeNumber_17 (by decide) ?_
    refine Tr.callV (pc := 18) (as := [_]) d_X5_takeNumber_18 s_5_56 ok_X5_refuse rfl rfl (Nat.le_of_ble_eq_true rfl) (Nat.le_of_ble_eq_true rfl) (by decide) (ty_6 hS.1.1) ?_
    refine Tr.imp (Tr.deep (by decide) (sp_X5_refuse_6_w1 hS.1 ((St.kp hS (by decide) (by decide) (by decide)).trans en_6_2) 1 (by omega))) ?_
    rintro M18 _ ⟨h18, r18, rfl, lr18, ur18⟩
    have hS := St.tr hS h18 (by decide) (by decide)
    refine Tr.sc [(0, r18)] rfl ?_
    refine Tr.pop (pc := 21) d_X5_takeNumber_21 ne01 ?_
    refine Tr.iconst (pc := 22) d_X5_takeNumber_22 (by decide) ?_
    exact Tr.iret (pc := 23) d_X5_takeNumber_23 rfl ⟨hS, _, rfl, by omega, by omega⟩

def ws_X5_takeTold_6_w4 : List (Int × Int) := [(6, 0), (6, 1), (6, 5)]
def as_X5_takeTold_6_w4 : List Int := []
def q_X5_takeTold_6_w4 (M0 M' : Mem) (r : Option PV) : Prop := St Tru ws_X5_takeTold_6_w4 as_X5_takeTold_6_w4 M0 M' ∧ ∃ v : Int, r = some (0, v) ∧ (-1) ≤ v ∧ v ≤ 50
set_option maxRecDepth 100000 in
set_option maxHeartbeats 4000000 in
theorem sp_X5_takeTold_6_w4 {l : Launch} {K : EC} {M0 : Mem} (hI : In Tru M0) (en_6_2 : rd M0 6 2 = 2) (a1 : Int) (ha1 : 17 ≤ a1 ∧ a1 ≤ 20) (a2 : Int) (ha2 : 50 ≤ a2 ∧ a2 ≤ 50)  : Tr l K 2 mX5_takeTold 0 [(0, (2, 6)), (1, (0, a1)), (2, (0, a2))] [] M0 (q_X5_takeTold_6_w4 M0) := by
  have hS : St Tru ws_X5_takeTold_6_w4 as_X5_takeTold_6_w4 M0 M0 := St.rf hI
  refine Tr.aload_n (pc := 0) (i := 0) d_X5_takeTold_0 rfl rfl ?_
  refine Tr.iload_n (pc := 1) (i := 1) d_X5_takeTold_1 rfl rfl ?_
  refine Tr.callV (pc := 2) (as := [_]) d_X5_takeTold_2 s_5_84 ok_X5_takeOwn rfl rfl (Nat.le_of_ble_eq_true rfl) (Nat.le_of_ble_eq_true rfl) (by decide) (ty_6 hS.1.1) ?_
  refine Tr.imp (Tr.deep (by decide) (sp_X5_takeOwn_6_w3 hS.1 ((St.kp hS (by decide) (by decide) (by decide)).trans en_6_2) a1 (by omega))) ?_
  rintro M2 _ ⟨h2, r2, rfl, lr2, ur2⟩
  have hS := St.tr hS h2 (by decide) (by decide)
  refine Tr.sc [(0, r2)] rfl ?_
  refine Tr.if_eq (pc := 5) (tgt := 17) d_X5_takeTold_5 rfl (fun c5 => ?_) (fun c5 => ?_)
  · refine Tr.iconst (pc := 17) d_X5_takeTold_17 (by decide) ?_
    exact Tr.iret (pc := 18) d_X5_takeTold_18 rfl ⟨hS, _, rfl, by omega, by omega⟩
  · refine Tr.aload_n (pc := 8) (i := 0) d_X5_takeTold_8 rfl rfl ?_
    refine Tr.iconst (pc := 9) d_X5_takeTold_9 (by decide) ?_
    refine Tr.iload_n (pc := 10) (i := 2) d_X5_takeTold_10 rfl rfl ?_
    refine Tr.tp 50 (by omega) ?_
    refine Tr.callV (pc := 11) (as := [_, _]) d_X5_takeTold_11 s_5_87 ok_X5_takeNumber rfl rfl (Nat.le_of_ble_eq_true rfl) (Nat.le_of_ble_eq_true rfl) (by decide) (ty_6 hS.1.1) ?_
    refine Tr.imp (Tr.deep (by decide) (sp_X5_takeNumber_6_w4 hS.1 ((St.kp hS (by decide) (by decide) (by decide)).trans en_6_2) 0 (by omega) 50 (by omega))) ?_
    rintro M11 _ ⟨h11, r11, rfl, lr11, ur11⟩
    have hS := St.tr hS h11 (by decide) (by decide)
    refine Tr.sc [(0, r11)] rfl ?_
    refine Tr.goto (pc := 14) (tgt := 18) d_X5_takeTold_14 rfl ?_
    exact Tr.iret (pc := 18) d_X5_takeTold_18 rfl ⟨hS, _, rfl, by omega, by omega⟩

def ws_X5_takeNumber_6_w5 : List (Int × Int) := [(6, 0), (6, 1), (6, 5)]
def as_X5_takeNumber_6_w5 : List Int := []
def q_X5_takeNumber_6_w5 (M0 M' : Mem) (r : Option PV) : Prop := St Tru ws_X5_takeNumber_6_w5 as_X5_takeNumber_6_w5 M0 M' ∧ ∃ v : Int, r = some (0, v) ∧ (-1) ≤ v ∧ v ≤ 8
set_option maxRecDepth 100000 in
set_option maxHeartbeats 4000000 in
theorem sp_X5_takeNumber_6_w5 {l : Launch} {K : EC} {M0 : Mem} (hI : In Tru M0) (en_6_2 : rd M0 6 2 = 2) (a1 : Int) (ha1 : 1 ≤ a1 ∧ a1 ≤ 1) (a2 : Int) (ha2 : 8 ≤ a2 ∧ a2 ≤ 8)  : Tr l K 1 mX5_takeNumber 0 [(0, (2, 6)), (1, (0, a1)), (2, (0, a2))] [] M0 (q_X5_takeNumber_6_w5 M0) := by
  have hS : St Tru ws_X5_takeNumber_6_w5 as_X5_takeNumber_6_w5 M0 M0 := St.rf hI
  refine Tr.aload_n (pc := 0) (i := 0) d_X5_takeNumber_0 rfl rfl ?_
  refine Tr.getf (pc := 1) d_X5_takeNumber_1 f_5_18 (by decide) (by decide) (ty_6 hS.1.1) ?_
  refine Tr.tp 2 ((St.kp hS (by decide) (by decide) (by decide)).trans en_6_2) ?_
  refine Tr.getf (pc := 4) d_X5_takeNumber_4 f_5_50 (by decide) (by decide) (ty_2 hS.1.1) ?_
  refine Tr.tp 3 (fx_2_0 hS.1.1) ?_
  refine Tr.aload_n (pc := 7) (i := 0) d_X5_takeNumber_7 rfl rfl ?_
  refine Tr.getf (pc := 8) d_X5_takeNumber_8 f_5_36 (by decide) (by decide) (ty_6 hS.1.1) ?_
  refine Tr.gen (P := fun v => 0 ≤ v ∧ v ≤ 900) (ir_6_5 hS.1.2.1) (fun r8 er8 br8 => ?_)
  refine Tr.iald (pc := 11) d_X5_takeNumber_11 (ty_3 hS.1.1) (by omega) (by omega) ?_
  refine Tr.gen (P := fun v => (-2147483648) ≤ v ∧ v ≤ 2147483647) (ar_3 hS.1.2.1 _) (fun r11 er11 br11 => ?_)
  refine Tr.iconst (pc := 12) d_X5_takeNumber_12 (by decide) ?_
  refine Tr.icmp_eq (pc := 13) (tgt := 24) d_X5_takeNumber_13 rfl (fun c13 => ?_) (fun c13 => ?_)
  · refine Tr.aload_n (pc := 24) (i := 0) d_X5_takeNumber_24 rfl rfl ?_
    refine Tr.getf (pc := 25) d_X5_takeNumber_25 f_5_18 (by decide) (by decide) (ty_6 hS.1.1) ?_
    refine Tr.tp 2 ((St.kp hS (by decide) (by decide) (by decide)).trans en_6_2) ?_
    refine Tr.getf (pc := 28) d_X5_takeNumber_28 f_5_68 (by decide) (by decide) (ty_2 hS.1.1) ?_
    refine Tr.tp 5 (fx_2_2 hS.1.1) ?_
    refine Tr.aload_n (pc := 31) (i := 0) d_X5_takeNumber_31 rfl rfl ?_
    refine Tr.getf (pc := 32) d_X5_takeNumber_32 f_5_36 (by decide) (by decide) (ty_6 hS.1.1) ?_
    refine Tr.tp r8 er8 ?_
    refine Tr.iald (pc := 35) d_X5_takeNumber_35 (ty_5 hS.1.1) (by omega) (by omega) ?_
    refine Tr.gen (P := fun v => (-2147483648) ≤ v ∧ v ≤ 2147483647) (ar_5 hS.1.2.1 _) (fun r35 er35 br35 => ?_)
    refine Tr.istore_n (pc := 36) (i := 3) (ls2 := [(3, (0, r35)), (0, (2, 6)), (1, (0, a1)), (2, (0, a2))]) d_X5_takeNumber_36 rfl (by decide) rfl ?_
    refine Tr.iload_n (pc := 37) (i := 3) d_X5_takeNumber_37 rfl rfl ?_
    refine Tr.iload_n (pc := 38) (i := 1) d_X5_takeNumber_38 rfl rfl ?_
    refine Tr.tp 1 (by omega) ?_
    have J47 : ∀ (M : Mem), St Tru ws_X5_takeNumber_6_w5 as_X5_takeNumber_6_w5 M0 M → rd M 3 r8 = r11 → rd M 5 r8 = r35 → rd M 6 5 = r8 → Tr l K 1 mX5_takeNumber 47 [(0, (2, 6))] [] M (q_X5_takeNumber_6_w5 M0) := by
      intro M  hS  k47_3_r810 k47_5_r810 k47_6_5
      refine Tr.aload_n (pc := 47) (i := 0) d_X5_takeNumber_47 rfl rfl ?_
      refine Tr.iconst (pc := 48) d_X5_takeNumber_48 (by decide) ?_
      refine Tr.callV (pc := 49) (as := [_]) d_X5_takeNumber_49 s_5_56 ok_X5_refuse rfl rfl (Nat.le_of_ble_eq_true rfl) (Nat.le_of_ble_eq_true rfl) (by decide) (ty_6 hS.1.1) ?_
      refine Tr.imp (Tr.deep (by decide) (sp_X5_refuse_6_w3 hS.1 ((St.kp hS (by decide) (by decide) (by decide)).trans en_6_2) 4 (by omega))) ?_
      rintro M49 _ ⟨h49, r49, rfl, lr49, ur49⟩
      have hS := St.tr hS h49 (by decide) (by decide)
      refine Tr.sc [(0, r49)] rfl ?_
      refine Tr.pop (pc := 52) d_X5_takeNumber_52 ne01 ?_
      refine Tr.iconst (pc := 53) d_X5_takeNumber_53 (by decide) ?_
      exact Tr.iret (pc := 54) d_X5_takeNumber_54 rfl ⟨hS, _, rfl, by omega, by omega⟩
    refine Tr.icmp_lt (pc := 39) (tgt := 47) d_X5_takeNumber_39 rfl (fun c39 => ?_) (fun c39 => ?_)
    · refine Tr.pick [1] (ls2 := [(0, (2, 6))]) rfl ?_
      exact J47 _ hS er11 er35 er8
    · refine Tr.iload_n (pc := 42) (i := 3) d_X5_takeNumber_42 rfl rfl ?_
      refine Tr.iload_n (pc := 43) (i := 2) d_X5_takeNumber_43 rfl rfl ?_
      refine Tr.tp 8 (by omega) ?_
      refine Tr.icmp_le (pc := 44) (tgt := 55) d_X5_takeNumber_44 rfl (fun c44 => ?_) (fun c44 => ?_)
      · refine Tr.aload_n (pc := 55) (i := 0) d_X5_takeNumber_55 rfl rfl ?_
        refine Tr.callV (pc := 56) (as := []) d_X5_takeNumber_56 s_5_74 ok_X5_goOn rfl rfl (Nat.le_of_ble_eq_true rfl) (Nat.le_of_ble_eq_true rfl) (by decide) (ty_6 hS.1.1) ?_
        refine Tr.imp (Tr.deep (by decide) (sp_X5_goOn_6 hS.1 )) ?_
        rintro M56 _ ⟨h56, r56, rfl, lr56, ur56⟩
        have hS := St.tr hS h56 (by decide) (by decide)
        refine Tr.sc [(0, r56)] rfl ?_
        refine Tr.pop (pc := 59) d_X5_takeNumber_59 ne01 ?_
        refine Tr.iload_n (pc := 60) (i := 3) d_X5_takeNumber_60 rfl rfl ?_
        exact Tr.iret (pc := 61) d_X5_takeNumber_61 rfl ⟨hS, _, rfl, by omega, by omega⟩
      · refine Tr.pick [1] (ls2 := [(0, (2, 6))]) rfl ?_
        exact J47 _ hS er11 er35 er8
  · refine Tr.aload_n (pc := 16) (i := 0) d_X5_takeNumber_16 rfl rfl ?_
    refine Tr.iconst (pc := 17) d_X5_takeNumber_17 (by decide) ?_
    refine Tr.callV (pc := 18) (as := [_]) d_X5_takeNumber_18 s_5_56 ok_X5_refuse rfl rfl (Nat.le_of_ble_eq_true rfl) (Nat.le_of_ble_eq_true rfl) (by decide) (ty_6 hS.1.1) ?_
    refine Tr.imp (Tr.deep (by decide) (sp_X5_refuse_6_w1 hS.1 ((St.kp hS (by decide) (by decide) (by decide)).trans en_6_2) 1 (by omega))) ?_
    rintro M18 _ ⟨h18, r18, rfl, lr18, ur18⟩
    have hS := St.tr hS h18 (by decide) (by decide)
    refine Tr.sc [(0, r18)] rfl ?_
    refine Tr.pop (pc := 21) d_X5_takeNumber_21 ne01 ?_
    refine Tr.iconst (pc := 22) d_X5_takeNumber_22 (by decide) ?_
    exact Tr.iret (pc := 23) d_X5_takeNumber_23 rfl ⟨hS, _, rfl, by omega, by omega⟩

def ws_X5_cache_6 : List (Int × Int) := [(6, 0), (6, 1), (6, 5), (27, 1), (27, 2), (27, 3)]
def as_X5_cache_6 : List Int := []
def q_X5_cache_6 (M0 M' : Mem) (r : Option PV) : Prop := St Tru ws_X5_cache_6 as_X5_cache_6 M0 M' ∧ ∃ v : Int, r = some (0, v) ∧ 0 ≤ v ∧ v ≤ 1
set_option maxRecDepth 100000 in
set_option maxHeartbeats 4000000 in
theorem sp_X5_cache_6 {l : Launch} {K : EC} {M0 : Mem} (hI : In Tru M0) (en_6_2 : rd M0 6 2 = 2) (en_6_3 : rd M0 6 3 = 27)   : Tr l K 2 mX5_cache 0 [(0, (2, 6))] [] M0 (q_X5_cache_6 M0) := by
  have hS : St Tru ws_X5_cache_6 as_X5_cache_6 M0 M0 := St.rf hI
  refine Tr.aload_n (pc := 0) (i := 0) d_X5_cache_0 rfl rfl ?_
  refine Tr.callV (pc := 1) (as := []) d_X5_cache_1 s_5_74 ok_X5_goOn rfl rfl (Nat.le_of_ble_eq_true rfl) (Nat.le_of_ble_eq_true rfl) (by decide) (ty_6 hS.1.1) ?_
  refine Tr.imp (Tr.deep (by decide) (sp_X5_goOn_6 hS.1 )) ?_
  rintro M1 _ ⟨h1, r1, rfl, lr1, ur1⟩
  have hS := St.tr hS h1 (by decide) (by decide)
  refine Tr.sc [(0, r1)] rfl ?_
  refine Tr.pop (pc := 4) d_X5_cache_4 ne01 ?_
  refine Tr.aload_n (pc := 5) (i := 0) d_X5_cache_5 rfl rfl ?_
  refine Tr.iconst (pc := 6) d_X5_cache_6 (by decide) ?_
  refine Tr.bipush (pc := 7) d_X5_cache_7 rfl (by decide) ?_
  refine Tr.callV (pc := 9) (as := [_, _]) d_X5_cache_9 s_5_87 ok_X5_takeNumber rfl rfl (Nat.le_of_ble_eq_true rfl) (Nat.le_of_ble_eq_true rfl) (by decide) (ty_6 hS.1.1) ?_
  refine Tr.imp (Tr.deep (by decide) (sp_X5_takeNumber_6_w5 hS.1 ((St.kp hS (by decide) (by decide) (by decide)).trans en_6_2) 1 (by omega) 8 (by omega))) ?_
  rintro M9 _ ⟨h9, r9, rfl, lr9, ur9⟩
  have hS := St.tr hS h9 (by decide) (by decide)
  refine Tr.sc [(0, r9)] rfl ?_
  refine Tr.istore_n (pc := 12) (i := 1) (ls2 := [(1, (0, r9)), (0, (2, 6))]) d_X5_cache_12 rfl (by decide) rfl ?_
  refine Tr.iload_n (pc := 13) (i := 1) d_X5_cache_13 rfl rfl ?_
  have J28 : ∀ (M : Mem) (q28_0 : Int), St Tru ws_X5_cache_6 as_X5_cache_6 M0 M → ((-1) ≤ q28_0 ∧ q28_0 ≤ 8) → Tr l K 2 mX5_cache 28 [(0, (2, 6)), (1, (0, r9))] [(0, q28_0)] M (q_X5_cache_6 M0) := by
    intro M q28_0 hS bq28_0 
    refine Tr.istore_n (pc := 28) (i := 2) (ls2 := [(2, (0, q28_0)), (0, (2, 6)), (1, (0, r9))]) d_X5_cache_28 rfl (by decide) rfl ?_
    refine Tr.iload_n (pc := 29) (i := 2) d_X5_cache_29 rfl rfl ?_
    have J44 : ∀ (M : Mem) (q44_0 : Int), St Tru ws_X5_cache_6 as_X5_cache_6 M0 M → ((-1) ≤ q44_0 ∧ q44_0 ≤ 20) → Tr l K 2 mX5_cache 44 [(0, (2, 6)), (1, (0, r9)), (2, (0, q28_0))] [(0, q44_0)] M (q_X5_cache_6 M0) := by
      intro M q44_0 hS bq44_0 
      refine Tr.istore_n (pc := 44) (i := 3) (ls2 := [(3, (0, q44_0)), (0, (2, 6)), (1, (0, r9)), (2, (0, q28_0))]) d_X5_cache_44 rfl (by decide) rfl ?_
      refine Tr.aload_n (pc := 45) (i := 0) d_X5_cache_45 rfl rfl ?_
      refine Tr.getf (pc := 46) d_X5_cache_46 f_5_22 (by decide) (by decide) (ty_6 hS.1.1) ?_
      refine Tr.tp 27 ((St.kp hS (by decide) (by decide) (by decide)).trans en_6_3) ?_
      refine Tr.iload_n (pc := 49) (i := 1) d_X5_cache_49 rfl rfl ?_
      refine Tr.putfS (pc := 50) (P := St Tru ws_X5_cache_6 as_X5_cache_6 M0) d_X5_cache_50 f_5_117 (by decide) (by decide) (ty_27 hS.1.1) (st_27_1 hS (by decide) (by omega) trivial) (fun M50 hS w50 => ?_)
      refine Tr.aload_n (pc := 53) (i := 0) d_X5_cache_53 rfl rfl ?_
      refine Tr.getf (pc := 54) d_X5_cache_54 f_5_22 (by decide) (by decide) (ty_6 hS.1.1) ?_
      refine Tr.tp 27 ((St.kp hS (by decide) (by decide) (by decide)).trans en_6_3) ?_
      refine Tr.iload_n (pc := 57) (i := 2) d_X5_cache_57 rfl rfl ?_
      refine Tr.putfS (pc := 58) (P := St Tru ws_X5_cache_6 as_X5_cache_6 M0) d_X5_cache_58 f_5_120 (by decide) (by decide) (ty_27 hS.1.1) (st_27_2 hS (by decide) (by omega) trivial) (fun M58 hS w58 => ?_)
      refine Tr.aload_n (pc := 61) (i := 0) d_X5_cache_61 rfl rfl ?_
      refine Tr.getf (pc := 62) d_X5_cache_62 f_5_22 (by decide) (by decide) (ty_6 hS.1.1) ?_
      refine Tr.tp 27 ((St.kp hS (by decide) (by decide) (by decide)).trans en_6_3) ?_
      refine Tr.iload_n (pc := 65) (i := 3) d_X5_cache_65 rfl rfl ?_
      refine Tr.putfS (pc := 66) (P := St Tru ws_X5_cache_6 as_X5_cache_6 M0) d_X5_cache_66 f_5_123 (by decide) (by decide) (ty_27 hS.1.1) (st_27_3 hS (by decide) (by omega) trivial) (fun M66 hS w66 => ?_)
      refine Tr.iload_n (pc := 69) (i := 3) d_X5_cache_69 rfl rfl ?_
      refine Tr.if_lt (pc := 70) (tgt := 86) d_X5_cache_70 rfl (fun c70 => ?_) (fun c70 => ?_)
      · refine Tr.iconst (pc := 86) d_X5_cache_86 (by decide) ?_
        exact Tr.zret (pc := 87) d_X5_cache_87 rfl (by omega) ⟨hS, _, rfl, by omega, by omega⟩
      · refine Tr.aload_n (pc := 73) (i := 0) d_X5_cache_73 rfl rfl ?_
        refine Tr.bipush (pc := 74) d_X5_cache_74 rfl (by decide) ?_
        refine Tr.callV (pc := 76) (as := [_]) d_X5_cache_76 s_5_81 ok_X5_takeSign rfl rfl (Nat.le_of_ble_eq_true rfl) (Nat.le_of_ble_eq_true rfl) (by decide) (ty_6 hS.1.1) ?_
        refine Tr.imp (Tr.deep (by decide) (sp_X5_takeSign_6 hS.1 ((St.kp hS (by decide) (by decide) (by decide)).trans en_6_2) 59 (by omega))) ?_
        rintro M76 _ ⟨h76, r76, rfl, lr76, ur76⟩
        have hS := St.tr hS h76 (by decide) (by decide)
        refine Tr.sc [(0, r76)] rfl ?_
        refine Tr.if_eq (pc := 79) (tgt := 86) d_X5_cache_79 rfl (fun c79 => ?_) (fun c79 => ?_)
        · refine Tr.iconst (pc := 86) d_X5_cache_86 (by decide) ?_
          exact Tr.zret (pc := 87) d_X5_cache_87 rfl (by omega) ⟨hS, _, rfl, by omega, by omega⟩
        · refine Tr.iconst (pc := 82) d_X5_cache_82 (by decide) ?_
          refine Tr.goto (pc := 83) (tgt := 87) d_X5_cache_83 rfl ?_
          exact Tr.zret (pc := 87) d_X5_cache_87 rfl (by omega) ⟨hS, _, rfl, by omega, by omega⟩
    refine Tr.if_ge (pc := 30) (tgt := 37) d_X5_cache_30 rfl (fun c30 => ?_) (fun c30 => ?_)
    · refine Tr.aload_n (pc := 37) (i := 0) d_X5_cache_37 rfl rfl ?_
      refine Tr.iconst (pc := 38) d_X5_cache_38 (by decide) ?_
      refine Tr.bipush (pc := 39) d_X5_cache_39 rfl (by decide) ?_
      refine Tr.callV (pc := 41) (as := [_, _]) d_X5_cache_41 s_5_87 ok_X5_takeNumber rfl rfl (Nat.le_of_ble_eq_true rfl) (Nat.le_of_ble_eq_true rfl) (by decide) (ty_6 hS.1.1) ?_
      refine Tr.imp (Tr.deep (by decide) (sp_X5_takeNumber_6_w3 hS.1 ((St.kp hS (by decide) (by decide) (by decide)).trans en_6_2) 0 (by omega) 20 (by omega))) ?_
      rintro M41 _ ⟨h41, r41, rfl, lr41, ur41⟩
      have hS := St.tr hS h41 (by decide) (by decide)
      refine Tr.sc [(0, r41)] rfl ?_
      refine Tr.pick [1, 2, 0] (ls2 := [(0, (2, 6)), (1, (0, r9)), (2, (0, q28_0))]) rfl ?_
      exact J44 _ _ hS (by omega)
    · refine Tr.iconst (pc := 33) d_X5_cache_33 (by decide) ?_
      refine Tr.goto (pc := 34) (tgt := 44) d_X5_cache_34 rfl ?_
      refine Tr.pick [1, 2, 0] (ls2 := [(0, (2, 6)), (1, (0, r9)), (2, (0, q28_0))]) rfl ?_
      exact J44 _ _ hS (by omega)
  refine Tr.if_ge (pc := 14) (tgt := 21) d_X5_cache_14 rfl (fun c14 => ?_) (fun c14 => ?_)
  · refine Tr.aload_n (pc := 21) (i := 0) d_X5_cache_21 rfl rfl ?_
    refine Tr.iconst (pc := 22) d_X5_cache_22 (by decide) ?_
    refine Tr.bipush (pc := 23) d_X5_cache_23 rfl (by decide) ?_
    refine Tr.callV (pc := 25) (as := [_, _]) d_X5_cache_25 s_5_87 ok_X5_takeNumber rfl rfl (Nat.le_of_ble_eq_true rfl) (Nat.le_of_ble_eq_true rfl) (by decide) (ty_6 hS.1.1) ?_
    refine Tr.imp (Tr.deep (by decide) (sp_X5_takeNumber_6_w5 hS.1 ((St.kp hS (by decide) (by decide) (by decide)).trans en_6_2) 1 (by omega) 8 (by omega))) ?_
    rintro M25 _ ⟨h25, r25, rfl, lr25, ur25⟩
    have hS := St.tr hS h25 (by decide) (by decide)
    refine Tr.sc [(0, r25)] rfl ?_
    refine Tr.pick [1, 0] (ls2 := [(0, (2, 6)), (1, (0, r9))]) rfl ?_
    exact J28 _ _ hS (by omega)
  · refine Tr.iconst (pc := 17) d_X5_cache_17 (by decide) ?_
    refine Tr.goto (pc := 18) (tgt := 28) d_X5_cache_18 rfl ?_
    refine Tr.pick [1, 0] (ls2 := [(0, (2, 6)), (1, (0, r9))]) rfl ?_
    exact J28 _ _ hS (by omega)

def ws_X5_heart_6 : List (Int × Int) := [(6, 0), (6, 1), (6, 5), (27, 0)]
def as_X5_heart_6 : List Int := []
def q_X5_heart_6 (M0 M' : Mem) (r : Option PV) : Prop := St Tru ws_X5_heart_6 as_X5_heart_6 M0 M' ∧ ∃ v : Int, r = some (0, v) ∧ 0 ≤ v ∧ v ≤ 1
set_option maxRecDepth 100000 in
set_option maxHeartbeats 4000000 in
theorem sp_X5_heart_6 {l : Launch} {K : EC} {M0 : Mem} (hI : In Tru M0) (en_6_2 : rd M0 6 2 = 2) (en_6_3 : rd M0 6 3 = 27)   : Tr l K 2 mX5_heart 0 [(0, (2, 6))] [] M0 (q_X5_heart_6 M0) := by
  have hS : St Tru ws_X5_heart_6 as_X5_heart_6 M0 M0 := St.rf hI
  refine Tr.aload_n (pc := 0) (i := 0) d_X5_heart_0 rfl rfl ?_
  refine Tr.callV (pc := 1) (as := []) d_X5_heart_1 s_5_74 ok_X5_goOn rfl rfl (Nat.le_of_ble_eq_true rfl) (Nat.le_of_ble_eq_true rfl) (by decide) (ty_6 hS.1.1) ?_
  refine Tr.imp (Tr.deep (by decide) (sp_X5_goOn_6 hS.1 )) ?_
  rintro M1 _ ⟨h1, r1, rfl, lr1, ur1⟩
  have hS := St.tr hS h1 (by decide) (by decide)
  refine Tr.sc [(0, r1)] rfl ?_
  refine Tr.pop (pc := 4) d_X5_heart_4 ne01 ?_
  refine Tr.aload_n (pc := 5) (i := 0) d_X5_heart_5 rfl rfl ?_
  refine Tr.iconst (pc := 6) d_X5_heart_6 (by decide) ?_
  refine Tr.sipush (pc := 7) d_X5_heart_7 rfl (by decide) ?_
  refine Tr.callV (pc := 10) (as := [_, _]) d_X5_heart_10 s_5_87 ok_X5_takeNumber rfl rfl (Nat.le_of_ble_eq_true rfl) (Nat.le_of_ble_eq_true rfl) (by decide) (ty_6 hS.1.1) ?_
  refine Tr.imp (Tr.deep (by decide) (sp_X5_takeNumber_6_w2 hS.1 ((St.kp hS (by decide) (by decide) (by decide)).trans en_6_2) 0 (by omega) 999 (by omega))) ?_
  rintro M10 _ ⟨h10, r10, rfl, lr10, ur10⟩
  have hS := St.tr hS h10 (by decide) (by decide)
  refine Tr.sc [(0, r10)] rfl ?_
  refine Tr.istore_n (pc := 13) (i := 1) (ls2 := [(1, (0, r10)), (0, (2, 6))]) d_X5_heart_13 rfl (by decide) rfl ?_
  refine Tr.aload_n (pc := 14) (i := 0) d_X5_heart_14 rfl rfl ?_
  refine Tr.getf (pc := 15) d_X5_heart_15 f_5_22 (by decide) (by decide) (ty_6 hS.1.1) ?_
  refine Tr.tp 27 ((St.kp hS (by decide) (by decide) (by decide)).trans en_6_3) ?_
  refine Tr.iload_n (pc := 18) (i := 1) d_X5_heart_18 rfl rfl ?_
  refine Tr.putfS (pc := 19) (P := St Tru ws_X5_heart_6 as_X5_heart_6 M0) d_X5_heart_19 f_5_115 (by decide) (by decide) (ty_27 hS.1.1) (st_27_0 hS (by decide) (by omega) trivial) (fun M19 hS w19 => ?_)
  refine Tr.iload_n (pc := 22) (i := 1) d_X5_heart_22 rfl rfl ?_
  refine Tr.if_lt (pc := 23) (tgt := 39) d_X5_heart_23 rfl (fun c23 => ?_) (fun c23 => ?_)
  · refine Tr.iconst (pc := 39) d_X5_heart_39 (by decide) ?_
    exact Tr.zret (pc := 40) d_X5_heart_40 rfl (by omega) ⟨hS, _, rfl, by omega, by omega⟩
  · refine Tr.aload_n (pc := 26) (i := 0) d_X5_heart_26 rfl rfl ?_
    refine Tr.bipush (pc := 27) d_X5_heart_27 rfl (by decide) ?_
    refine Tr.callV (pc := 29) (as := [_]) d_X5_heart_29 s_5_81 ok_X5_takeSign rfl rfl (Nat.le_of_ble_eq_true rfl) (Nat.le_of_ble_eq_true rfl) (by decide) (ty_6 hS.1.1) ?_
    refine Tr.imp (Tr.deep (by decide) (sp_X5_takeSign_6 hS.1 ((St.kp hS (by decide) (by decide) (by decide)).trans en_6_2) 59 (by omega))) ?_
    rintro M29 _ ⟨h29, r29, rfl, lr29, ur29⟩
    have hS := St.tr hS h29 (by decide) (by decide)
    refine Tr.sc [(0, r29)] rfl ?_
    refine Tr.if_eq (pc := 32) (tgt := 39) d_X5_heart_32 rfl (fun c32 => ?_) (fun c32 => ?_)
    · refine Tr.iconst (pc := 39) d_X5_heart_39 (by decide) ?_
      exact Tr.zret (pc := 40) d_X5_heart_40 rfl (by omega) ⟨hS, _, rfl, by omega, by omega⟩
    · refine Tr.iconst (pc := 35) d_X5_heart_35 (by decide) ?_
      refine Tr.goto (pc := 36) (tgt := 40) d_X5_heart_36 rfl ?_
      exact Tr.zret (pc := 40) d_X5_heart_40 rfl (by omega) ⟨hS, _, rfl, by omega, by omega⟩

def ws_X5_isOrder_6 : List (Int × Int) := []
def as_X5_isOrder_6 : List Int := []
def q_X5_isOrder_6 (M0 M' : Mem) (r : Option PV) : Prop := St Tru ws_X5_isOrder_6 as_X5_isOrder_6 M0 M' ∧ ∃ v : Int, r = some (0, v) ∧ 0 ≤ v ∧ v ≤ 1
set_option maxRecDepth 100000 in
set_option maxHeartbeats 4000000 in
theorem sp_X5_isOrder_6 {l : Launch} {K : EC} {M0 : Mem} (hI : In Tru M0) (en_6_2 : rd M0 6 2 = 2)   : Tr l K 0 mX5_isOrder 0 [(0, (2, 6))] [] M0 (q_X5_isOrder_6 M0) := by
  have hS : St Tru ws_X5_isOrder_6 as_X5_isOrder_6 M0 M0 := St.rf hI
  refine Tr.aload_n (pc := 0) (i := 0) d_X5_isOrder_0 rfl rfl ?_
  refine Tr.getf (pc := 1) d_X5_isOrder_1 f_5_18 (by decide) (by decide) (ty_6 hS.1.1) ?_
  refine Tr.tp 2 ((St.kp hS (by decide) (by decide) (by decide)).trans en_6_2) ?_
  refine Tr.getf (pc := 4) d_X5_isOrder_4 f_5_68 (by decide) (by decide) (ty_2 hS.1.1) ?_
  refine Tr.tp 5 (fx_2_2 hS.1.1) ?_
  refine Tr.aload_n (pc := 7) (i := 0) d_X5_isOrder_7 rfl rfl ?_
  refine Tr.getf (pc := 8) d_X5_isOrder_8 f_5_36 (by decide) (by decide) (ty_6 hS.1.1) ?_
  refine Tr.gen (P := fun v => 0 ≤ v ∧ v ≤ 900) (ir_6_5 hS.1.2.1) (fun r8 er8 br8 => ?_)
  refine Tr.iald (pc := 11) d_X5_isOrder_11 (ty_5 hS.1.1) (by omega) (by omega) ?_
  refine Tr.gen (P := fun v => (-2147483648) ≤ v ∧ v ≤ 2147483647) (ar_5 hS.1.2.1 _) (fun r11 er11 br11 => ?_)
  refine Tr.istore_n (pc := 12) (i := 1) (ls2 := [(1, (0, r11)), (0, (2, 6))]) d_X5_isOrder_12 rfl (by decide) rfl ?_
  refine Tr.aload_n (pc := 13) (i := 0) d_X5_isOrder_13 rfl rfl ?_
  refine Tr.getf (pc := 14) d_X5_isOrder_14 f_5_18 (by decide) (by decide) (ty_6 hS.1.1) ?_
  refine Tr.tp 2 ((St.kp hS (by decide) (by decide) (by decide)).trans en_6_2) ?_
  refine Tr.getf (pc := 17) d_X5_isOrder_17 f_5_50 (by decide) (by decide) (ty_2 hS.1.1) ?_
  refine Tr.tp 3 (fx_2_0 hS.1.1) ?_
  refine Tr.aload_n (pc := 20) (i := 0) d_X5_isOrder_20 rfl rfl ?_
  refine Tr.getf (pc := 21) d_X5_isOrder_21 f_5_36 (by decide) (by decide) (ty_6 hS.1.1) ?_
  refine Tr.tp r8 er8 ?_
  refine Tr.iald (pc := 24) d_X5_isOrder_24 (ty_3 hS.1.1) (by omega) (by omega) ?_
  refine Tr.gen (P := fun v => (-2147483648) ≤ v ∧ v ≤ 2147483647) (ar_3 hS.1.2.1 _) (fun r24 er24 br24 => ?_)
  refine Tr.iconst (pc := 25) d_X5_isOrder_25 (by decide) ?_
  refine Tr.icmp_ne (pc := 26) (tgt := 44) d_X5_isOrder_26 rfl (fun c26 => ?_) (fun c26 => ?_)
  · refine Tr.iconst (pc := 44) d_X5_isOrder_44 (by decide) ?_
    exact Tr.zret (pc := 45) d_X5_isOrder_45 rfl (by omega) ⟨hS, _, rfl, by omega, by omega⟩
  · refine Tr.iload_n (pc := 29) (i := 1) d_X5_isOrder_29 rfl rfl ?_
    refine Tr.iconst (pc := 30) d_X5_isOrder_30 (by decide) ?_
    refine Tr.icmp_lt (pc := 31) (tgt := 44) d_X5_isOrder_31 rfl (fun c31 => ?_) (fun c31 => ?_)
    · refine Tr.iconst (pc := 44) d_X5_isOrder_44 (by decide) ?_
      exact Tr.zret (pc := 45) d_X5_isOrder_45 rfl (by omega) ⟨hS, _, rfl, by omega, by omega⟩
    · refine Tr.iload_n (pc := 34) (i := 1) d_X5_isOrder_34 rfl rfl ?_
      refine Tr.bipush (pc := 35) d_X5_isOrder_35 rfl (by decide) ?_
      refine Tr.icmp_gt (pc := 37) (tgt := 44) d_X5_isOrder_37 rfl (fun c37 => ?_) (fun c37 => ?_)
      · refine Tr.iconst (pc := 44) d_X5_isOrder_44 (by decide) ?_
        exact Tr.zret (pc := 45) d_X5_isOrder_45 rfl (by omega) ⟨hS, _, rfl, by omega, by omega⟩
      · refine Tr.iconst (pc := 40) d_X5_isOrder_40 (by decide) ?_
        refine Tr.goto (pc := 41) (tgt := 45) d_X5_isOrder_41 rfl ?_
        exact Tr.zret (pc := 45) d_X5_isOrder_45 rfl (by omega) ⟨hS, _, rfl, by omega, by omega⟩

def ws_X4_open_35 : List (Int × Int) := [(35, 0)]
def as_X4_open_35 : List Int := [36, 37, 38, 39, 40, 41, 42]
def q_X4_open_35 (M0 M' : Mem) (r : Option PV) : Prop := St Tru ws_X4_open_35 as_X4_open_35 M0 M' ∧ ∃ v : Int, r = some (0, v) ∧ 0 ≤ v ∧ v ≤ 59
set_option maxRecDepth 100000 in
set_option maxHeartbeats 4000000 in
theorem sp_X4_open_35 {l : Launch} {K : EC} {M0 : Mem} (hI : In Tru M0)  (a1 : Int) (ha1 : (-2147483648) ≤ a1 ∧ a1 ≤ 2147483647) (a2 : Int) (ha2 : (-1) ≤ a2 ∧ a2 ≤ (-1))  (hpm : rd M0 35 0 ≤ 59) : Tr l K 0 mX4_open 0 [(0, (2, 35)), (1, (0, a1)), (2, (0, a2))] [] M0 (q_X4_open_35 M0) := by
  have hS : St Tru ws_X4_open_35 as_X4_open_35 M0 M0 := St.rf hI
  refine Tr.aload_n (pc := 0) (i := 0) d_X4_open_0 rfl rfl ?_
  refine Tr.getf (pc := 1) d_X4_open_1 f_4_45 (by decide) (by decide) (ty_35 hS.1.1) ?_
  refine Tr.gen (P := fun v => 0 ≤ v ∧ v ≤ 59) (by have h8 := ir_35_0 hS.1.2.1; exact ⟨h8.1, hpm⟩) (fun r1 er1 br1 => ?_)
  refine Tr.istore_n (pc := 4) (i := 3) (ls2 := [(3, (0, r1)), (0, (2, 35)), (1, (0, a1)), (2, (0, a2))]) d_X4_open_4 rfl (by decide) rfl ?_
  refine Tr.aload_n (pc := 5) (i := 0) d_X4_open_5 rfl rfl ?_
  refine Tr.getf (pc := 6) d_X4_open_6 f_4_9 (by decide) (by decide) (ty_35 hS.1.1) ?_
  refine Tr.tp 36 (fx_35_1 hS.1.1) ?_
  refine Tr.iload_n (pc := 9) (i := 3) d_X4_open_9 rfl rfl ?_
  refine Tr.iload_n (pc := 10) (i := 1) d_X4_open_10 rfl rfl ?_
  refine Tr.iastS (pc := 11) (P := St Tru ws_X4_open_35 as_X4_open_35 M0) d_X4_open_11 (ty_36 hS.1.1) (by omega) (by omega) (sa_36 hS (by decide) (by omega) trivial) (fun M11 hS w11 => ?_)
  refine Tr.aload_n (pc := 12) (i := 0) d_X4_open_12 rfl rfl ?_
  refine Tr.getf (pc := 13) d_X4_open_13 f_4_15 (by decide) (by decide) (ty_35 hS.1.1) ?_
  refine Tr.tp 37 (fx_35_2 hS.1.1) ?_
  refine Tr.iload_n (pc := 16) (i := 3) d_X4_open_16 rfl rfl ?_
  refine Tr.iconst (pc := 17) d_X4_open_17 (by decide) ?_
  refine Tr.iastS (pc := 18) (P := St Tru ws_X4_open_35 as_X4_open_35 M0) d_X4_open_18 (ty_37 hS.1.1) (by omega) (by omega) (sa_37 hS (by decide) (by omega) trivial) (fun M18 hS w18 => ?_)
  refine Tr.aload_n (pc := 19) (i := 0) d_X4_open_19 rfl rfl ?_
  refine Tr.getf (pc := 20) d_X4_open_20 f_4_18 (by decide) (by decide) (ty_35 hS.1.1) ?_
  refine Tr.tp 38 (fx_35_3 hS.1.1) ?_
  refine Tr.iload_n (pc := 23) (i := 3) d_X4_open_23 rfl rfl ?_
  refine Tr.aload_n (pc := 24) (i := 0) d_X4_open_24 rfl rfl ?_
  refine Tr.getf (pc := 25) d_X4_open_25 f_4_49 (by decide) (by decide) (ty_35 hS.1.1) ?_
  refine Tr.gen (P := fun v => 0 ≤ v ∧ v ≤ 900) (ir_35_11 hS.1.2.1) (fun r25 er25 br25 => ?_)
  refine Tr.iastS (pc := 28) (P := St Tru ws_X4_open_35 as_X4_open_35 M0) d_X4_open_28 (ty_38 hS.1.1) (by omega) (by omega) (sa_38 hS (by decide) (by omega) trivial) (fun M28 hS w28 => ?_)
  refine Tr.aload_n (pc := 29) (i := 0) d_X4_open_29 rfl rfl ?_
  refine Tr.getf (pc := 30) d_X4_open_30 f_4_21 (by decide) (by decide) (ty_35 hS.1.1) ?_
  refine Tr.tp 39 (fx_35_4 hS.1.1) ?_
  refine Tr.iload_n (pc := 33) (i := 3) d_X4_open_33 rfl rfl ?_
  refine Tr.iconst (pc := 34) d_X4_open_34 (by decide) ?_
  refine Tr.iastS (pc := 35) (P := St Tru ws_X4_open_35 as_X4_open_35 M0) d_X4_open_35 (ty_39 hS.1.1) (by omega) (by omega) (sa_39 hS (by decide) (by omega) trivial) (fun M35 hS w35 => ?_)
  refine Tr.aload_n (pc := 36) (i := 0) d_X4_open_36 rfl rfl ?_
  refine Tr.getf (pc := 37) d_X4_open_37 f_4_24 (by decide) (by decide) (ty_35 hS.1.1) ?_
  refine Tr.tp 40 (fx_35_5 hS.1.1) ?_
  refine Tr.iload_n (pc := 40) (i := 3) d_X4_open_40 rfl rfl ?_
  refine Tr.iconst (pc := 41) d_X4_open_41 (by decide) ?_
  refine Tr.iastS (pc := 42) (P := St Tru ws_X4_open_35 as_X4_open_35 M0) d_X4_open_42 (ty_40 hS.1.1) (by omega) (by omega) (sa_40 hS (by decide) (by omega) trivial) (fun M42 hS w42 => ?_)
  refine Tr.aload_n (pc := 43) (i := 0) d_X4_open_43 rfl rfl ?_
  refine Tr.getf (pc := 44) d_X4_open_44 f_4_27 (by decide) (by decide) (ty_35 hS.1.1) ?_
  refine Tr.tp 41 (fx_35_6 hS.1.1) ?_
  refine Tr.iload_n (pc := 47) (i := 3) d_X4_open_47 rfl rfl ?_
  refine Tr.iconst (pc := 48) d_X4_open_48 (by decide) ?_
  refine Tr.iastS (pc := 49) (P := St Tru ws_X4_open_35 as_X4_open_35 M0) d_X4_open_49 (ty_41 hS.1.1) (by omega) (by omega) (sa_41 hS (by decide) (by omega) trivial) (fun M49 hS w49 => ?_)
  refine Tr.aload_n (pc := 50) (i := 0) d_X4_open_50 rfl rfl ?_
  refine Tr.getf (pc := 51) d_X4_open_51 f_4_30 (by decide) (by decide) (ty_35 hS.1.1) ?_
  refine Tr.tp 42 (fx_35_7 hS.1.1) ?_
  refine Tr.iload_n (pc := 54) (i := 3) d_X4_open_54 rfl rfl ?_
  refine Tr.iload_n (pc := 55) (i := 2) d_X4_open_55 rfl rfl ?_
  refine Tr.tp (-1) (by omega) ?_
  refine Tr.iastS (pc := 56) (P := St Tru ws_X4_open_35 as_X4_open_35 M0) d_X4_open_56 (ty_42 hS.1.1) (by omega) (by omega) (sa_42 hS (by decide) (by omega) trivial) (fun M56 hS w56 => ?_)
  refine Tr.aload_n (pc := 57) (i := 0) d_X4_open_57 rfl rfl ?_
  refine Tr.dup (pc := 58) d_X4_open_58 ne21 ?_
  refine Tr.getf (pc := 59) d_X4_open_59 f_4_45 (by decide) (by decide) (ty_35 hS.1.1) ?_
  refine Tr.tp r1 ((Wr.b w56 rfl).trans ((Wr.b w49 rfl).trans ((Wr.b w42 rfl).trans ((Wr.b w35 rfl).trans ((Wr.b w28 rfl).trans ((Wr.b w18 rfl).trans ((Wr.b w11 rfl).trans er1))))))) ?_
  refine Tr.iconst (pc := 62) d_X4_open_62 (by decide) ?_
  refine Tr.iadd (pc := 63) d_X4_open_63 ?_
  refine Tr.tp (r1 + 1) ((w32_id (by omega)).trans (by omega)) ?_
  refine Tr.putfS (pc := 64) (P := St Tru ws_X4_open_35 as_X4_open_35 M0) d_X4_open_64 f_4_45 (by decide) (by decide) (ty_35 hS.1.1) (st_35_0 hS (by decide) (by omega) trivial) (fun M64 hS w64 => ?_)
  refine Tr.iload_n (pc := 67) (i := 3) d_X4_open_67 rfl rfl ?_
  exact Tr.iret (pc := 68) d_X4_open_68 rfl ⟨hS, _, rfl, by omega, by omega⟩

def ws_X5_isOwn_6_w4 : List (Int × Int) := []
def as_X5_isOwn_6_w4 : List Int := []
def q_X5_isOwn_6_w4 (M0 M' : Mem) (r : Option PV) : Prop := St Tru ws_X5_isOwn_6_w4 as_X5_isOwn_6_w4 M0 M' ∧ ∃ v : Int, r = some (0, v) ∧ 0 ≤ v ∧ v ≤ 1
set_option maxRecDepth 100000 in
set_option maxHeartbeats 4000000 in
theorem sp_X5_isOwn_6_w4 {l : Launch} {K : EC} {M0 : Mem} (hI : In Tru M0) (en_6_2 : rd M0 6 2 = 2) (a1 : Int) (ha1 : 20 ≤ a1 ∧ a1 ≤ 50)  : Tr l K 0 mX5_isOwn 0 [(0, (2, 6)), (1, (0, a1))] [] M0 (q_X5_isOwn_6_w4 M0) := by
  have hS : St Tru ws_X5_isOwn_6_w4 as_X5_isOwn_6_w4 M0 M0 := St.rf hI
  refine Tr.aload_n (pc := 0) (i := 0) d_X5_isOwn_0 rfl rfl ?_
  refine Tr.getf (pc := 1) d_X5_isOwn_1 f_5_18 (by decide) (by decide) (ty_6 hS.1.1) ?_
  refine Tr.tp 2 ((St.kp hS (by decide) (by decide) (by decide)).trans en_6_2) ?_
  refine Tr.getf (pc := 4) d_X5_isOwn_4 f_5_50 (by decide) (by decide) (ty_2 hS.1.1) ?_
  refine Tr.tp 3 (fx_2_0 hS.1.1) ?_
  refine Tr.aload_n (pc := 7) (i := 0) d_X5_isOwn_7 rfl rfl ?_
  refine Tr.getf (pc := 8) d_X5_isOwn_8 f_5_36 (by decide) (by decide) (ty_6 hS.1.1) ?_
  refine Tr.gen (P := fun v => 0 ≤ v ∧ v ≤ 900) (ir_6_5 hS.1.2.1) (fun r8 er8 br8 => ?_)
  refine Tr.iald (pc := 11) d_X5_isOwn_11 (ty_3 hS.1.1) (by omega) (by omega) ?_
  refine Tr.gen (P := fun v => (-2147483648) ≤ v ∧ v ≤ 2147483647) (ar_3 hS.1.2.1 _) (fun r11 er11 br11 => ?_)
  refine Tr.iconst (pc := 12) d_X5_isOwn_12 (by decide) ?_
  refine Tr.icmp_ne (pc := 13) (tgt := 36) d_X5_isOwn_13 rfl (fun c13 => ?_) (fun c13 => ?_)
  · refine Tr.iconst (pc := 36) d_X5_isOwn_36 (by decide) ?_
    exact Tr.zret (pc := 37) d_X5_isOwn_37 rfl (by omega) ⟨hS, _, rfl, by omega, by omega⟩
  · refine Tr.aload_n (pc := 16) (i := 0) d_X5_isOwn_16 rfl rfl ?_
    refine Tr.getf (pc := 17) d_X5_isOwn_17 f_5_18 (by decide) (by decide) (ty_6 hS.1.1) ?_
    refine Tr.tp 2 ((St.kp hS (by decide) (by decide) (by decide)).trans en_6_2) ?_
    refine Tr.getf (pc := 20) d_X5_isOwn_20 f_5_68 (by decide) (by decide) (ty_2 hS.1.1) ?_
    refine Tr.tp 5 (fx_2_2 hS.1.1) ?_
    refine Tr.aload_n (pc := 23) (i := 0) d_X5_isOwn_23 rfl rfl ?_
    refine Tr.getf (pc := 24) d_X5_isOwn_24 f_5_36 (by decide) (by decide) (ty_6 hS.1.1) ?_
    refine Tr.tp r8 er8 ?_
    refine Tr.iald (pc := 27) d_X5_isOwn_27 (ty_5 hS.1.1) (by omega) (by omega) ?_
    refine Tr.gen (P := fun v => (-2147483648) ≤ v ∧ v ≤ 2147483647) (ar_5 hS.1.2.1 _) (fun r27 er27 br27 => ?_)
    refine Tr.iload_n (pc := 28) (i := 1) d_X5_isOwn_28 rfl rfl ?_
    refine Tr.icmp_ne (pc := 29) (tgt := 36) d_X5_isOwn_29 rfl (fun c29 => ?_) (fun c29 => ?_)
    · refine Tr.iconst (pc := 36) d_X5_isOwn_36 (by decide) ?_
      exact Tr.zret (pc := 37) d_X5_isOwn_37 rfl (by omega) ⟨hS, _, rfl, by omega, by omega⟩
    · refine Tr.iconst (pc := 32) d_X5_isOwn_32 (by decide) ?_
      refine Tr.goto (pc := 33) (tgt := 37) d_X5_isOwn_33 rfl ?_
      exact Tr.zret (pc := 37) d_X5_isOwn_37 rfl (by omega) ⟨hS, _, rfl, by omega, by omega⟩
