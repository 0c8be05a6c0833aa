def ws_X5_takeOpening_6_w19 : List (Int × Int) := [(6, 0), (6, 1), (6, 5), (6, 6)]
def as_X5_takeOpening_6_w19 : List Int := []
def q_X5_takeOpening_6_w19 (M0 M' : Mem) (r : Option PV) : Prop := St Tru ws_X5_takeOpening_6_w19 as_X5_takeOpening_6_w19 M0 M' ∧ ∃ v : Int, r = some (0, v) ∧ 0 ≤ v ∧ v ≤ 1 ∧ ((1 ≤ v ∧ v ≤ 1) → rd M' 6 6 = 2)
set_option maxRecDepth 100000 in
set_option maxHeartbeats 4000000 in
theorem sp_X5_takeOpening_6_w19 {l : Launch} {K : EC} {M0 : Mem} (hI : In Tru M0) (en_6_2 : rd M0 6 2 = 2) (en_6_6 : rd M0 6 6 = 1) (a1 : Int) (ha1 : 123 ≤ a1 ∧ a1 ≤ 123)  : Tr l K 1 mX5_takeOpening 0 [(0, (2, 6)), (1, (0, a1))] [] M0 (q_X5_takeOpening_6_w19 M0) := by
  have hS : St Tru ws_X5_takeOpening_6_w19 as_X5_takeOpening_6_w19 M0 M0 := St.rf hI
  refine Tr.aload_n (pc := 0) (i := 0) d_X5_takeOpening_0 rfl rfl ?_
  refine Tr.iload_n (pc := 1) (i := 1) d_X5_takeOpening_1 rfl rfl ?_
  refine Tr.tp 123 (by omega) ?_
  refine Tr.callV (pc := 2) (as := [_]) d_X5_takeOpening_2 s_5_77 ok_X5_isSign rfl rfl (Nat.le_of_ble_eq_true rfl) (Nat.le_of_ble_eq_true rfl) (by decide) (ty_6 hS.1.1) ?_
  refine Tr.imp (Tr.deep (by decide) (sp_X5_isSign_6_w5 hS.1 ((St.kp hS (by decide) (by decide) (by decide)).trans en_6_2) 123 (by omega))) ?_
  rintro M2 _ ⟨h2, r2, rfl, lr2, ur2⟩
  have hS := St.tr hS h2 (by decide) (by decide)
  refine Tr.sc [(0, r2)] rfl ?_
  refine Tr.if_ne (pc := 5) (tgt := 14) d_X5_takeOpening_5 rfl (fun c5 => ?_) (fun c5 => ?_)
  · refine Tr.aload_n (pc := 14) (i := 0) d_X5_takeOpening_14 rfl rfl ?_
    refine Tr.getf (pc := 15) d_X5_takeOpening_15 f_5_39 (by decide) (by decide) (ty_6 hS.1.1) ?_
    refine Tr.tp 1 ((St.kp h2 (by decide) (by decide) (by decide)).trans en_6_6) ?_
    refine Tr.bipush (pc := 18) d_X5_takeOpening_18 rfl (by decide) ?_
    refine Tr.icmp_ne (pc := 20) (tgt := 29) d_X5_takeOpening_20 rfl (fun _ => ?_) (fun hc => absurd hc (by omega))
    refine Tr.aload_n (pc := 29) (i := 0) d_X5_takeOpening_29 rfl rfl ?_
    refine Tr.dup (pc := 30) d_X5_takeOpening_30 ne21 ?_
    refine Tr.getf (pc := 31) d_X5_takeOpening_31 f_5_39 (by decide) (by decide) (ty_6 hS.1.1) ?_
    refine Tr.tp 1 ((St.kp h2 (by decide) (by decide) (by decide)).trans en_6_6) ?_
    refine Tr.iconst (pc := 34) d_X5_takeOpening_34 (by decide) ?_
    refine Tr.iadd (pc := 35) d_X5_takeOpening_35 ?_
    refine Tr.tp 2 (by decide) ?_
    refine Tr.putfS (pc := 36) (P := St Tru ws_X5_takeOpening_6_w19 as_X5_takeOpening_6_w19 M0) d_X5_takeOpening_36 f_5_39 (by decide) (by decide) (ty_6 hS.1.1) (st_6_6 hS (by decide) (by omega) trivial) (fun M36 hS w36 => ?_)
    refine Tr.aload_n (pc := 39) (i := 0) d_X5_takeOpening_39 rfl rfl ?_
    refine Tr.callV (pc := 40) (as := []) d_X5_takeOpening_40 s_5_74 ok_X5_goOn rfl rfl (Nat.le_of_ble_eq_true rfl) (Nat.le_of_ble_eq_true rfl) (by decide) (ty_6 hS.1.1) ?_
    refine Tr.imp (Tr.deep (by decide) (sp_X5_goOn_6 hS.1 )) ?_
    rintro M40 _ ⟨h40, r40, rfl, lr40, ur40⟩
    have hS := St.tr hS h40 (by decide) (by decide)
    refine Tr.sc [(0, r40)] rfl ?_
    exact Tr.zret (pc := 43) d_X5_takeOpening_43 rfl (by omega) ⟨hS, _, rfl, by omega, by omega, fun _ => ((St.kp h40 (by decide) (by decide) (by decide)).trans w36.1)⟩
  · refine Tr.aload_n (pc := 8) (i := 0) d_X5_takeOpening_8 rfl rfl ?_
    refine Tr.iconst (pc := 9) d_X5_takeOpening_9 (by decide) ?_
    refine Tr.callV (pc := 10) (as := [_]) d_X5_takeOpening_10 s_5_56 ok_X5_refuse rfl rfl (Nat.le_of_ble_eq_true rfl) (Nat.le_of_ble_eq_true rfl) (by decide) (ty_6 hS.1.1) ?_
    refine Tr.imp (Tr.deep (by decide) (sp_X5_refuse_6_w1 hS.1 ((St.kp hS (by decide) (by decide) (by decide)).trans en_6_2) 1 (by omega))) ?_
    rintro M10 _ ⟨h10, r10, rfl, lr10, ur10⟩
    have hS := St.tr hS h10 (by decide) (by decide)
    refine Tr.sc [(0, r10)] rfl ?_
    exact Tr.zret (pc := 13) d_X5_takeOpening_13 rfl (by omega) ⟨hS, _, rfl, by omega, by omega, fun hq => absurd hq (by omega)⟩

def ws_X5_takeOpening_6_w20 : List (Int × Int) := [(6, 0), (6, 1), (6, 5), (6, 6)]
def as_X5_takeOpening_6_w20 : List Int := []
def q_X5_takeOpening_6_w20 (M0 M' : Mem) (r : Option PV) : Prop := St Tru ws_X5_takeOpening_6_w20 as_X5_takeOpening_6_w20 M0 M' ∧ ∃ v : Int, r = some (0, v) ∧ 0 ≤ v ∧ v ≤ 1 ∧ ((1 ≤ v ∧ v ≤ 1) → rd M' 6 6 = 3)
set_option maxRecDepth 100000 in
set_option maxHeartbeats 4000000 in
theorem sp_X5_takeOpening_6_w20 {l : Launch} {K : EC} {M0 : Mem} (hI : In Tru M0) (en_6_2 : rd M0 6 2 = 2) (en_6_6 : rd M0 6 6 = 2) (a1 : Int) (ha1 : 123 ≤ a1 ∧ a1 ≤ 123)  : Tr l K 1 mX5_takeOpening 0 [(0, (2, 6)), (1, (0, a1))] [] M0 (q_X5_takeOpening_6_w20 M0) := by
  have hS : St Tru ws_X5_takeOpening_6_w20 as_X5_takeOpening_6_w20 M0 M0 := St.rf hI
  refine Tr.aload_n (pc := 0) (i := 0) d_X5_takeOpening_0 rfl rfl ?_
  refine Tr.iload_n (pc := 1) (i := 1) d_X5_takeOpening_1 rfl rfl ?_
  refine Tr.tp 123 (by omega) ?_
  refine Tr.callV (pc := 2) (as := [_]) d_X5_takeOpening_2 s_5_77 ok_X5_isSign rfl rfl (Nat.le_of_ble_eq_true rfl) (Nat.le_of_ble_eq_true rfl) (by decide) (ty_6 hS.1.1) ?_
  refine Tr.imp (Tr.deep (by decide) (sp_X5_isSign_6_w5 hS.1 ((St.kp hS (by decide) (by decide) (by decide)).trans en_6_2) 123 (by omega))) ?_
  rintro M2 _ ⟨h2, r2, rfl, lr2, ur2⟩
  have hS := St.tr hS h2 (by decide) (by decide)
  refine Tr.sc [(0, r2)] rfl ?_
  refine Tr.if_ne (pc := 5) (tgt := 14) d_X5_takeOpening_5 rfl (fun c5 => ?_) (fun c5 => ?_)
  · refine Tr.aload_n (pc := 14) (i := 0) d_X5_takeOpening_14 rfl rfl ?_
    refine Tr.getf (pc := 15) d_X5_takeOpening_15 f_5_39 (by decide) (by decide) (ty_6 hS.1.1) ?_
    refine Tr.tp 2 ((St.kp h2 (by decide) (by decide) (by decide)).trans en_6_6) ?_
    refine Tr.bipush (pc := 18) d_X5_takeOpening_18 rfl (by decide) ?_
    refine Tr.icmp_ne (pc := 20) (tgt := 29) d_X5_takeOpening_20 rfl (fun _ => ?_) (fun hc => absurd hc (by omega))
    refine Tr.aload_n (pc := 29) (i := 0) d_X5_takeOpening_29 rfl rfl ?_
    refine Tr.dup (pc := 30) d_X5_takeOpening_30 ne21 ?_
    refine Tr.getf (pc := 31) d_X5_takeOpening_31 f_5_39 (by decide) (by decide) (ty_6 hS.1.1) ?_
    refine Tr.tp 2 ((St.kp h2 (by decide) (by decide) (by decide)).trans en_6_6) ?_
    refine Tr.iconst (pc := 34) d_X5_takeOpening_34 (by decide) ?_
    refine Tr.iadd (pc := 35) d_X5_takeOpening_35 ?_
    refine Tr.tp 3 (by decide) ?_
    refine Tr.putfS (pc := 36) (P := St Tru ws_X5_takeOpening_6_w20 as_X5_takeOpening_6_w20 M0) d_X5_takeOpening_36 f_5_39 (by decide) (by decide) (ty_6 hS.1.1) (st_6_6 hS (by decide) (by omega) trivial) (fun M36 hS w36 => ?_)
    refine Tr.aload_n (pc := 39) (i := 0) d_X5_takeOpening_39 rfl rfl ?_
    refine Tr.callV (pc := 40) (as := []) d_X5_takeOpening_40 s_5_74 ok_X5_goOn rfl rfl (Nat.le_of_ble_eq_true rfl) (Nat.le_of_ble_eq_true rfl) (by decide) (ty_6 hS.1.1) ?_
    refine Tr.imp (Tr.deep (by decide) (sp_X5_goOn_6 hS.1 )) ?_
    rintro M40 _ ⟨h40, r40, rfl, lr40, ur40⟩
    have hS := St.tr hS h40 (by decide) (by decide)
    refine Tr.sc [(0, r40)] rfl ?_
    exact Tr.zret (pc := 43) d_X5_takeOpening_43 rfl (by omega) ⟨hS, _, rfl, by omega, by omega, fun _ => ((St.kp h40 (by decide) (by decide) (by decide)).trans w36.1)⟩
  · refine Tr.aload_n (pc := 8) (i := 0) d_X5_takeOpening_8 rfl rfl ?_
    refine Tr.iconst (pc := 9) d_X5_takeOpening_9 (by decide) ?_
    refine Tr.callV (pc := 10) (as := [_]) d_X5_takeOpening_10 s_5_56 ok_X5_refuse rfl rfl (Nat.le_of_ble_eq_true rfl) (Nat.le_of_ble_eq_true rfl) (by decide) (ty_6 hS.1.1) ?_
    refine Tr.imp (Tr.deep (by decide) (sp_X5_refuse_6_w1 hS.1 ((St.kp hS (by decide) (by decide) (by decide)).trans en_6_2) 1 (by omega))) ?_
    rintro M10 _ ⟨h10, r10, rfl, lr10, ur10⟩
    have hS := St.tr hS h10 (by decide) (by decide)
    refine Tr.sc [(0, r10)] rfl ?_
    exact Tr.zret (pc := 13) d_X5_takeOpening_13 rfl (by omega) ⟨hS, _, rfl, by omega, by omega, fun hq => absurd hq (by omega)⟩

def ws_X5_takeOpening_6_w21 : List (Int × Int) := [(6, 0), (6, 1), (6, 5), (6, 6)]
def as_X5_takeOpening_6_w21 : List Int := []
def q_X5_takeOpening_6_w21 (M0 M' : Mem) (r : Option PV) : Prop := St Tru ws_X5_takeOpening_6_w21 as_X5_takeOpening_6_w21 M0 M' ∧ ∃ v : Int, r = some (0, v) ∧ 0 ≤ v ∧ v ≤ 1 ∧ ((1 ≤ v ∧ v ≤ 1) → rd M' 6 6 = 4)
set_option maxRecDepth 100000 in
set_option maxHeartbeats 4000000 in
theorem sp_X5_takeOpening_6_w21 {l : Launch} {K : EC} {M0 : Mem} (hI : In Tru M0) (en_6_2 : rd M0 6 2 = 2) (en_6_6 : rd M0 6 6 = 3) (a1 : Int) (ha1 : 123 ≤ a1 ∧ a1 ≤ 123)  : Tr l K 1 mX5_takeOpening 0 [(0, (2, 6)), (1, (0, a1))] [] M0 (q_X5_takeOpening_6_w21 M0) := by
  have hS : St Tru ws_X5_takeOpening_6_w21 as_X5_takeOpening_6_w21 M0 M0 := St.rf hI
  refine Tr.aload_n (pc := 0) (i := 0) d_X5_takeOpening_0 rfl rfl ?_
  refine Tr.iload_n (pc := 1) (i := 1) d_X5_takeOpening_1 rfl rfl ?_
  refine Tr.tp 123 (by omega) ?_
  refine Tr.callV (pc := 2) (as := [_]) d_X5_takeOpening_2 s_5_77 ok_X5_isSign rfl rfl (Nat.le_of_ble_eq_true rfl) (Nat.le_of_ble_eq_true rfl) (by decide) (ty_6 hS.1.1) ?_
  refine Tr.imp (Tr.deep (by decide) (sp_X5_isSign_6_w5 hS.1 ((St.kp hS (by decide) (by decide) (by decide)).trans en_6_2) 123 (by omega))) ?_
  rintro M2 _ ⟨h2, r2, rfl, lr2, ur2⟩
  have hS := St.tr hS h2 (by decide) (by decide)
  refine Tr.sc [(0, r2)] rfl ?_
  refine Tr.if_ne (pc := 5) (tgt := 14) d_X5_takeOpening_5 rfl (fun c5 => ?_) (fun c5 => ?_)
  · refine Tr.aload_n (pc := 14) (i := 0) d_X5_takeOpening_14 rfl rfl ?_
    refine Tr.getf (pc := 15) d_X5_takeOpening_15 f_5_39 (by decide) (by decide) (ty_6 hS.1.1) ?_
    refine Tr.tp 3 ((St.kp h2 (by decide) (by decide) (by decide)).trans en_6_6) ?_
    refine Tr.bipush (pc := 18) d_X5_takeOpening_18 rfl (by decide) ?_
    refine Tr.icmp_ne (pc := 20) (tgt := 29) d_X5_takeOpening_20 rfl (fun _ => ?_) (fun hc => absurd hc (by omega))
    refine Tr.aload_n (pc := 29) (i := 0) d_X5_takeOpening_29 rfl rfl ?_
    refine Tr.dup (pc := 30) d_X5_takeOpening_30 ne21 ?_
    refine Tr.getf (pc := 31) d_X5_takeOpening_31 f_5_39 (by decide) (by decide) (ty_6 hS.1.1) ?_
    refine Tr.tp 3 ((St.kp h2 (by decide) (by decide) (by decide)).trans en_6_6) ?_
    refine Tr.iconst (pc := 34) d_X5_takeOpening_34 (by decide) ?_
    refine Tr.iadd (pc := 35) d_X5_takeOpening_35 ?_
    refine Tr.tp 4 (by decide) ?_
    refine Tr.putfS (pc := 36) (P := St Tru ws_X5_takeOpening_6_w21 as_X5_takeOpening_6_w21 M0) d_X5_takeOpening_36 f_5_39 (by decide) (by decide) (ty_6 hS.1.1) (st_6_6 hS (by decide) (by omega) trivial) (fun M36 hS w36 => ?_)
    refine Tr.aload_n (pc := 39) (i := 0) d_X5_takeOpening_39 rfl rfl ?_
    refine Tr.callV (pc := 40) (as := []) d_X5_takeOpening_40 s_5_74 ok_X5_goOn rfl rfl (Nat.le_of_ble_eq_true rfl) (Nat.le_of_ble_eq_true rfl) (by decide) (ty_6 hS.1.1) ?_
    refine Tr.imp (Tr.deep (by decide) (sp_X5_goOn_6 hS.1 )) ?_
    rintro M40 _ ⟨h40, r40, rfl, lr40, ur40⟩
    have hS := St.tr hS h40 (by decide) (by decide)
    refine Tr.sc [(0, r40)] rfl ?_
    exact Tr.zret (pc := 43) d_X5_takeOpening_43 rfl (by omega) ⟨hS, _, rfl, by omega, by omega, fun _ => ((St.kp h40 (by decide) (by decide) (by decide)).trans w36.1)⟩
  · refine Tr.aload_n (pc := 8) (i := 0) d_X5_takeOpening_8 rfl rfl ?_
    refine Tr.iconst (pc := 9) d_X5_takeOpening_9 (by decide) ?_
    refine Tr.callV (pc := 10) (as := [_]) d_X5_takeOpening_10 s_5_56 ok_X5_refuse rfl rfl (Nat.le_of_ble_eq_true rfl) (Nat.le_of_ble_eq_true rfl) (by decide) (ty_6 hS.1.1) ?_
    refine Tr.imp (Tr.deep (by decide) (sp_X5_refuse_6_w1 hS.1 ((St.kp hS (by decide) (by decide) (by decide)).trans en_6_2) 1 (by omega))) ?_
    rintro M10 _ ⟨h10, r10, rfl, lr10, ur10⟩
    have hS := St.tr hS h10 (by decide) (by decide)
    refine Tr.sc [(0, r10)] rfl ?_
    exact Tr.zret (pc := 13) d_X5_takeOpening_13 rfl (by omega) ⟨hS, _, rfl, by omega, by omega, fun hq => absurd hq (by omega)⟩

def ws_X5_takeOpening_6_w22 : List (Int × Int) := [(6, 0), (6, 1), (6, 5), (6, 6)]
def as_X5_takeOpening_6_w22 : List Int := []
def q_X5_takeOpening_6_w22 (M0 M' : Mem) (r : Option PV) : Prop := St Tru ws_X5_takeOpening_6_w22 as_X5_takeOpening_6_w22 M0 M' ∧ ∃ v : Int, r = some (0, v) ∧ 0 ≤ v ∧ v ≤ 1 ∧ ((1 ≤ v ∧ v ≤ 1) → rd M' 6 6 = 5)
set_option maxRecDepth 100000 in
set_option maxHeartbeats 4000000 in
theorem sp_X5_takeOpening_6_w22 {l : Launch} {K : EC} {M0 : Mem} (hI : In Tru M0) (en_6_2 : rd M0 6 2 = 2) (en_6_6 : rd M0 6 6 = 4) (a1 : Int) (ha1 : 123 ≤ a1 ∧ a1 ≤ 123)  : Tr l K 1 mX5_takeOpening 0 [(0, (2, 6)), (1, (0, a1))] [] M0 (q_X5_takeOpening_6_w22 M0) := by
  have hS : St Tru ws_X5_takeOpening_6_w22 as_X5_takeOpening_6_w22 M0 M0 := St.rf hI
  refine Tr.aload_n (pc := 0) (i := 0) d_X5_takeOpening_0 rfl rfl ?_
  refine Tr.iload_n (pc := 1) (i := 1) d_X5_takeOpening_1 rfl rfl ?_
  refine Tr.tp 123 (by omega) ?_
  refine Tr.callV (pc := 2) (as := [_]) d_X5_takeOpening_2 s_5_77 ok_X5_isSign rfl rfl (Nat.le_of_ble_eq_true rfl) (Nat.le_of_ble_eq_true rfl) (by decide) (ty_6 hS.1.1) ?_
  refine Tr.imp (Tr.deep (by decide) (sp_X5_isSign_6_w5 hS.1 ((St.kp hS (by decide) (by decide) (by decide)).trans en_6_2) 123 (by omega))) ?_
  rintro M2 _ ⟨h2, r2, rfl, lr2, ur2⟩
  have hS := St.tr hS h2 (by decide) (by decide)
  refine Tr.sc [(0, r2)] rfl ?_
  refine Tr.if_ne (pc := 5) (tgt := 14) d_X5_takeOpening_5 rfl (fun c5 => ?_) (fun c5 => ?_)
  · refine Tr.aload_n (pc := 14) (i := 0) d_X5_takeOpening_14 rfl rfl ?_
    refine Tr.getf (pc := 15) d_X5_takeOpening_15 f_5_39 (by decide) (by decide) (ty_6 hS.1.1) ?_
    refine Tr.tp 4 ((St.kp h2 (by decide) (by decide) (by decide)).trans en_6_6) ?_
    refine Tr.bipush (pc := 18) d_X5_takeOpening_18 rfl (by decide) ?_
    refine Tr.icmp_ne (pc := 20) (tgt := 29) d_X5_takeOpening_20 rfl (fun _ => ?_) (fun hc => absurd hc (by omega))
    refine Tr.aload_n (pc := 29) (i := 0) d_X5_takeOpening_29 rfl rfl ?_
    refine Tr.dup (pc := 30) d_X5_takeOpening_30 ne21 ?_
    refine Tr.getf (pc := 31) d_X5_takeOpening_31 f_5_39 (by decide) (by decide) (ty_6 hS.1.1) ?_
    refine Tr.tp 4 ((St.kp h2 (by decide) (by decide) (by decide)).trans en_6_6) ?_
    refine Tr.iconst (pc := 34) d_X5_takeOpening_34 (by decide) ?_
    refine Tr.iadd (pc := 35) d_X5_takeOpening_35 ?_
    refine Tr.tp 5 (by decide) ?_
    refine Tr.putfS (pc := 36) (P := St Tru ws_X5_takeOpening_6_w22 as_X5_takeOpening_6_w22 M0) d_X5_takeOpening_36 f_5_39 (by decide) (by decide) (ty_6 hS.1.1) (st_6_6 hS (by decide) (by omega) trivial) (fun M36 hS w36 => ?_)
    refine Tr.aload_n (pc := 39) (i := 0) d_X5_takeOpening_39 rfl rfl ?_
    refine Tr.callV (pc := 40) (as := []) d_X5_takeOpening_40 s_5_74 ok_X5_goOn rfl rfl (Nat.le_of_ble_eq_true rfl) (Nat.le_of_ble_eq_true rfl) (by decide) (ty_6 hS.1.1) ?_
    refine Tr.imp (Tr.deep (by decide) (sp_X5_goOn_6 hS.1 )) ?_
    rintro M40 _ ⟨h40, r40, rfl, lr40, ur40⟩
    have hS := St.tr hS h40 (by decide) (by decide)
    refine Tr.sc [(0, r40)] rfl ?_
    exact Tr.zret (pc := 43) d_X5_takeOpening_43 rfl (by omega) ⟨hS, _, rfl, by omega, by omega, fun _ => ((St.kp h40 (by decide) (by decide) (by decide)).trans w36.1)⟩
  · refine Tr.aload_n (pc := 8) (i := 0) d_X5_takeOpening_8 rfl rfl ?_
    refine Tr.iconst (pc := 9) d_X5_takeOpening_9 (by decide) ?_
    refine Tr.callV (pc := 10) (as := [_]) d_X5_takeOpening_10 s_5_56 ok_X5_refuse rfl rfl (Nat.le_of_ble_eq_true rfl) (Nat.le_of_ble_eq_true rfl) (by decide) (ty_6 hS.1.1) ?_
    refine Tr.imp (Tr.deep (by decide) (sp_X5_refuse_6_w1 hS.1 ((St.kp hS (by decide) (by decide) (by decide)).trans en_6_2) 1 (by omega))) ?_
    rintro M10 _ ⟨h10, r10, rfl, lr10, ur10⟩
    have hS := St.tr hS h10 (by decide) (by decide)
    refine Tr.sc [(0, r10)] rfl ?_
    exact Tr.zret (pc := 13) d_X5_takeOpening_13 rfl (by omega) ⟨hS, _, rfl, by omega, by omega, fun hq => absurd hq (by omega)⟩

def ws_X5_takeOpening_6_w23 : List (Int × Int) := [(6, 0), (6, 1), (6, 5), (6, 6)]
def as_X5_takeOpening_6_w23 : List Int := []
def q_X5_takeOpening_6_w23 (M0 M' : Mem) (r : Option PV) : Prop := St Tru ws_X5_takeOpening_6_w23 as_X5_takeOpening_6_w23 M0 M' ∧ ∃ v : Int, r = some (0, v) ∧ 0 ≤ v ∧ v ≤ 1 ∧ ((1 ≤ v ∧ v ≤ 1) → rd M' 6 6 = 6)
set_option maxRecDepth 100000 in
set_option maxHeartbeats 4000000 in
theorem sp_X5_takeOpening_6_w23 {l : Launch} {K : EC} {M0 : Mem} (hI : In Tru M0) (en_6_2 : rd M0 6 2 = 2) (en_6_6 : rd M0 6 6 = 5) (a1 : Int) (ha1 : 123 ≤ a1 ∧ a1 ≤ 123)  : Tr l K 1 mX5_takeOpening 0 [(0, (2, 6)), (1, (0, a1))] [] M0 (q_X5_takeOpening_6_w23 M0) := by
  have hS : St Tru ws_X5_takeOpening_6_w23 as_X5_takeOpening_6_w23 M0 M0 := St.rf hI
  refine Tr.aload_n (pc := 0) (i := 0) d_X5_takeOpening_0 rfl rfl ?_
  refine Tr.iload_n (pc := 1) (i := 1) d_X5_takeOpening_1 rfl rfl ?_
  refine Tr.tp 123 (by omega) ?_
  refine Tr.callV (pc := 2) (as := [_]) d_X5_takeOpening_2 s_5_77 ok_X5_isSign rfl rfl (Nat.le_of_ble_eq_true rfl) (Nat.le_of_ble_eq_true rfl) (by decide) (ty_6 hS.1.1) ?_
  refine Tr.imp (Tr.deep (by decide) (sp_X5_isSign_6_w5 hS.1 ((St.kp hS (by decide) (by decide) (by decide)).trans en_6_2) 123 (by omega))) ?_
  rintro M2 _ ⟨h2, r2, rfl, lr2, ur2⟩
  have hS := St.tr hS h2 (by decide) (by decide)
  refine Tr.sc [(0, r2)] rfl ?_
  refine Tr.if_ne (pc := 5) (tgt := 14) d_X5_takeOpening_5 rfl (fun c5 => ?_) (fun c5 => ?_)
  · refine Tr.aload_n (pc := 14) (i := 0) d_X5_takeOpening_14 rfl rfl ?_
    refine Tr.getf (pc := 15) d_X5_takeOpening_15 f_5_39 (by decide) (by decide) (ty_6 hS.1.1) ?_
    refine Tr.tp 5 ((St.kp h2 (by decide) (by decide) (by decide)).trans en_6_6) ?_
    refine Tr.bipush (pc := 18) d_X5_takeOpening_18 rfl (by decide) ?_
    refine Tr.icmp_ne (pc := 20) (tgt := 29) d_X5_takeOpening_20 rfl (fun _ => ?_) (fun hc => absurd hc (by omega))
    refine Tr.aload_n (pc := 29) (i := 0) d_X5_takeOpening_29 rfl rfl ?_
    refine Tr.dup (pc := 30) d_X5_takeOpening_30 ne21 ?_
    refine Tr.getf (pc := 31) d_X5_takeOpening_31 f_5_39 (by decide) (by decide) (ty_6 hS.1.1) ?_
    refine Tr.tp 5 ((St.kp h2 (by decide) (by decide) (by decide)).trans en_6_6) ?_
    refine Tr.iconst (pc := 34) d_X5_takeOpening_34 (by decide) ?_
    refine Tr.iadd (pc := 35) d_X5_takeOpening_35 ?_
    refine Tr.tp 6 (by decide) ?_
    refine Tr.putfS (pc := 36) (P := St Tru ws_X5_takeOpening_6_w23 as_X5_takeOpening_6_w23 M0) d_X5_takeOpening_36 f_5_39 (by decide) (by decide) (ty_6 hS.1.1) (st_6_6 hS (by decide) (by omega) trivial) (fun M36 hS w36 => ?_)
    refine Tr.aload_n (pc := 39) (i := 0) d_X5_takeOpening_39 rfl rfl ?_
    refine Tr.callV (pc := 40) (as := []) d_X5_takeOpening_40 s_5_74 ok_X5_goOn rfl rfl (Nat.le_of_ble_eq_true rfl) (Nat.le_of_ble_eq_true rfl) (by decide) (ty_6 hS.1.1) ?_
    refine Tr.imp (Tr.deep (by decide) (sp_X5_goOn_6 hS.1 )) ?_
    rintro M40 _ ⟨h40, r40, rfl, lr40, ur40⟩
    have hS := St.tr hS h40 (by decide) (by decide)
    refine Tr.sc [(0, r40)] rfl ?_
    exact Tr.zret (pc := 43) d_X5_takeOpening_43 rfl (by omega) ⟨hS, _, rfl, by omega, by omega, fun _ => ((St.kp h40 (by decide) (by decide) (by decide)).trans w36.1)⟩
  · refine Tr.aload_n (pc := 8) (i := 0) d_X5_takeOpening_8 rfl rfl ?_
    refine Tr.iconst (pc := 9) d_X5_takeOpening_9 (by decide) ?_
    refine Tr.callV (pc := 10) (as := [_]) d_X5_takeOpening_10 s_5_56 ok_X5_refuse rfl rfl (Nat.le_of_ble_eq_true rfl) (Nat.le_of_ble_eq_true rfl) (by decide) (ty_6 hS.1.1) ?_
    refine Tr.imp (Tr.deep (by decide) (sp_X5_refuse_6_w1 hS.1 ((St.kp hS (by decide) (by decide) (by decide)).trans en_6_2) 1 (by omega))) ?_
    rintro M10 _ ⟨h10, r10, rfl, lr10, ur10⟩
    have hS := St.tr hS h10 (by decide) (by decide)
    refine Tr.sc [(0, r10)] rfl ?_
    exact Tr.zret (pc := 13) d_X5_takeOpening_13 rfl (by omega) ⟨hS, _, rfl, by omega, by omega, fun hq => absurd hq (by omega)⟩

def ws_X5_takeOpening_6_w24 : List (Int × Int) := [(6, 0), (6, 1), (6, 5), (6, 6)]
def as_X5_takeOpening_6_w24 : List Int := []
def q_X5_takeOpening_6_w24 (M0 M' : Mem) (r : Option PV) : Prop := St Tru ws_X5_takeOpening_6_w24 as_X5_takeOpening_6_w24 M0 M' ∧ ∃ v : Int, r = some (0, v) ∧ 0 ≤ v ∧ v ≤ 1 ∧ ((1 ≤ v ∧ v ≤ 1) → rd M' 6 6 = 7)
set_option maxRecDepth 100000 in
set_option maxHeartbeats 4000000 in
theorem sp_X5_takeOpening_6_w24 {l : Launch} {K : EC} {M0 : Mem} (hI : In Tru M0) (en_6_2 : rd M0 6 2 = 2) (en_6_6 : rd M0 6 6 = 6) (a1 : Int) (ha1 : 123 ≤ a1 ∧ a1 ≤ 123)  : Tr l K 1 mX5_takeOpening 0 [(0, (2, 6)), (1, (0, a1))] [] M0 (q_X5_takeOpening_6_w24 M0) := by
  have hS : St Tru ws_X5_takeOpening_6_w24 as_X5_takeOpening_6_w24 M0 M0 := St.rf hI
  refine Tr.aload_n (pc := 0) (i := 0) d_X5_takeOpening_0 rfl rfl ?_
  refine Tr.iload_n (pc := 1) (i := 1) d_X5_takeOpening_1 rfl rfl ?_
  refine Tr.tp 123 (by omega) ?_
  refine Tr.callV (pc := 2) (as := [_]) d_X5_takeOpening_2 s_5_77 ok_X5_isSign rfl rfl (Nat.le_of_ble_eq_true rfl) (Nat.le_of_ble_eq_true rfl) (by decide) (ty_6 hS.1.1) ?_
  refine Tr.imp (Tr.deep (by decide) (sp_X5_isSign_6_w5 hS.1 ((St.kp hS (by decide) (by decide) (by decide)).trans en_6_2) 123 (by omega))) ?_
  rintro M2 _ ⟨h2, r2, rfl, lr2, ur2⟩
  have hS := St.tr hS h2 (by decide) (by decide)
  refine Tr.sc [(0, r2)] rfl ?_
  refine Tr.if_ne (pc := 5) (tgt := 14) d_X5_takeOpening_5 rfl (fun c5 => ?_) (fun c5 => ?_)
  · refine Tr.aload_n (pc := 14) (i := 0) d_X5_takeOpening_14 rfl rfl ?_
    refine Tr.getf (pc := 15) d_X5_takeOpening_15 f_5_39 (by decide) (by decide) (ty_6 hS.1.1) ?_
    refine Tr.tp 6 ((St.kp h2 (by decide) (by decide) (by decide)).trans en_6_6) ?_
    refine Tr.bipush (pc := 18) d_X5_takeOpening_18 rfl (by decide) ?_
    refine Tr.icmp_ne (pc := 20) (tgt := 29) d_X5_takeOpening_20 rfl (fun _ => ?_) (fun hc => absurd hc (by omega))
    refine Tr.aload_n (pc := 29) (i := 0) d_X5_takeOpening_29 rfl rfl ?_
    refine Tr.dup (pc := 30) d_X5_takeOpening_30 ne21 ?_
    refine Tr.getf (pc := 31) d_X5_takeOpening_31 f_5_39 (by decide) (by decide) (ty_6 hS.1.1) ?_
    refine Tr.tp 6 ((St.kp h2 (by decide) (by decide) (by decide)).trans en_6_6) ?_
    refine Tr.iconst (pc := 34) d_X5_takeOpening_34 (by decide) ?_
    refine Tr.iadd (pc := 35) d_X5_takeOpening_35 ?_
    refine Tr.tp 7 (by decide) ?_
    refine Tr.putfS (pc := 36) (P := St Tru ws_X5_takeOpening_6_w24 as_X5_takeOpening_6_w24 M0) d_X5_takeOpening_36 f_5_39 (by decide) (by decide) (ty_6 hS.1.1) (st_6_6 hS (by decide) (by omega) trivial) (fun M36 hS w36 => ?_)
    refine Tr.aload_n (pc := 39) (i := 0) d_X5_takeOpening_39 rfl rfl ?_
    refine Tr.callV (pc := 40) (as := []) d_X5_takeOpening_40 s_5_74 ok_X5_goOn rfl rfl (Nat.le_of_ble_eq_true rfl) (Nat.le_of_ble_eq_true rfl) (by decide) (ty_6 hS.1.1) ?_
    refine Tr.imp (Tr.deep (by decide) (sp_X5_goOn_6 hS.1 )) ?_
    rintro M40 _ ⟨h40, r40, rfl, lr40, ur40⟩
    have hS := St.tr hS h40 (by decide) (by decide)
    refine Tr.sc [(0, r40)] rfl ?_
    exact Tr.zret (pc := 43) d_X5_takeOpening_43 rfl (by omega) ⟨hS, _, rfl, by omega, by omega, fun _ => ((St.kp h40 (by decide) (by decide) (by decide)).trans w36.1)⟩
  · refine Tr.aload_n (pc := 8) (i := 0) d_X5_takeOpening_8 rfl rfl ?_
    refine Tr.iconst (pc := 9) d_X5_takeOpening_9 (by decide) ?_
    refine Tr.callV (pc := 10) (as := [_]) d_X5_takeOpening_10 s_5_56 ok_X5_refuse rfl rfl (Nat.le_of_ble_eq_true rfl) (Nat.le_of_ble_eq_true rfl) (by decide) (ty_6 hS.1.1) ?_
    refine Tr.imp (Tr.deep (by decide) (sp_X5_refuse_6_w1 hS.1 ((St.kp hS (by decide) (by decide) (by decide)).trans en_6_2) 1 (by omega))) ?_
    rintro M10 _ ⟨h10, r10, rfl, lr10, ur10⟩
    have hS := St.tr hS h10 (by decide) (by decide)
    refine Tr.sc [(0, r10)] rfl ?_
    exact Tr.zret (pc := 13) d_X5_takeOpening_13 rfl (by omega) ⟨hS, _, rfl, by omega, by omega, fun hq => absurd hq (by omega)⟩

def ws_X5_takeOpening_6_w25 : List (Int × Int) := [(6, 0), (6, 1), (6, 5), (6, 6)]
def as_X5_takeOpening_6_w25 : List Int := []
def q_X5_takeOpening_6_w25 (M0 M' : Mem) (r : Option PV) : Prop := St Tru ws_X5_takeOpening_6_w25 as_X5_takeOpening_6_w25 M0 M' ∧ ∃ v : Int, r = some (0, v) ∧ 0 ≤ v ∧ v ≤ 1 ∧ ((1 ≤ v ∧ v ≤ 1) → rd M' 6 6 = 8)
set_option maxRecDepth 100000 in
set_option maxHeartbeats 4000000 in
theorem sp_X5_takeOpening_6_w25 {l : Launch} {K : EC} {M0 : Mem} (hI : In Tru M0) (en_6_2 : rd M0 6 2 = 2) (en_6_6 : rd M0 6 6 = 7) (a1 : Int) (ha1 : 123 ≤ a1 ∧ a1 ≤ 123)  : Tr l K 1 mX5_takeOpening 0 [(0, (2, 6)), (1, (0, a1))] [] M0 (q_X5_takeOpening_6_w25 M0) := by
  have hS : St Tru ws_X5_takeOpening_6_w25 as_X5_takeOpening_6_w25 M0 M0 := St.rf hI
  refine Tr.aload_n (pc := 0) (i := 0) d_X5_takeOpening_0 rfl rfl ?_
  refine Tr.iload_n (pc := 1) (i := 1) d_X5_takeOpening_1 rfl rfl ?_
  refine Tr.tp 123 (by omega) ?_
  refine Tr.callV (pc := 2) (as := [_]) d_X5_takeOpening_2 s_5_77 ok_X5_isSign rfl rfl (Nat.le_of_ble_eq_true rfl) (Nat.le_of_ble_eq_true rfl) (by decide) (ty_6 hS.1.1) ?_
  refine Tr.imp (Tr.deep (by decide) (sp_X5_isSign_6_w5 hS.1 ((St.kp hS (by decide) (by decide) (by decide)).trans en_6_2) 123 (by omega))) ?_
  rintro M2 _ ⟨h2, r2, rfl, lr2, ur2⟩
  have hS := St.tr hS h2 (by decide) (by decide)
  refine Tr.sc [(0, r2)] rfl ?_
  refine Tr.if_ne (pc := 5) (tgt := 14) d_X5_takeOpening_5 rfl (fun c5 => ?_) (fun c5 => ?_)
  · refine Tr.aload_n (pc := 14) (i := 0) d_X5_takeOpening_14 rfl rfl ?_
    refine Tr.getf (pc := 15) d_X5_takeOpening_15 f_5_39 (by decide) (by decide) (ty_6 hS.1.1) ?_
    refine Tr.tp 7 ((St.kp h2 (by decide) (by decide) (by decide)).trans en_6_6) ?_
    refine Tr.bipush (pc := 18) d_X5_takeOpening_18 rfl (by decide) ?_
    refine Tr.icmp_ne (pc := 20) (tgt := 29) d_X5_takeOpening_20 rfl (fun _ => ?_) (fun hc => absurd hc (by omega))
    refine Tr.aload_n (pc := 29) (i := 0) d_X5_takeOpening_29 rfl rfl ?_
    refine Tr.dup (pc := 30) d_X5_takeOpening_30 ne21 ?_
    refine Tr.getf (pc := 31) d_X5_takeOpening_31 f_5_39 (by decide) (by decide) (ty_6 hS.1.1) ?_
    refine Tr.tp 7 ((St.kp h2 (by decide) (by decide) (by decide)).trans en_6_6) ?_
    refine Tr.iconst (pc := 34) d_X5_takeOpening_34 (by decide) ?_
    refine Tr.iadd (pc := 35) d_X5_takeOpening_35 ?_
    refine Tr.tp 8 (by decide) ?_
    refine Tr.putfS (pc := 36) (P := St Tru ws_X5_takeOpening_6_w25 as_X5_takeOpening_6_w25 M0) d_X5_takeOpening_36 f_5_39 (by decide) (by decide) (ty_6 hS.1.1) (st_6_6 hS (by decide) (by omega) trivial) (fun M36 hS w36 => ?_)
    refine Tr.aload_n (pc := 39) (i := 0) d_X5_takeOpening_39 rfl rfl ?_
    refine Tr.callV (pc := 40) (as := []) d_X5_takeOpening_40 s_5_74 ok_X5_goOn rfl rfl (Nat.le_of_ble_eq_true rfl) (Nat.le_of_ble_eq_true rfl) (by decide) (ty_6 hS.1.1) ?_
    refine Tr.imp (Tr.deep (by decide) (sp_X5_goOn_6 hS.1 )) ?_
    rintro M40 _ ⟨h40, r40, rfl, lr40, ur40⟩
    have hS := St.tr hS h40 (by decide) (by decide)
    refine Tr.sc [(0, r40)] rfl ?_
    exact Tr.zret (pc := 43) d_X5_takeOpening_43 rfl (by omega) ⟨hS, _, rfl, by omega, by omega, fun _ => ((St.kp h40 (by decide) (by decide) (by decide)).trans w36.1)⟩
  · refine Tr.aload_n (pc := 8) (i := 0) d_X5_takeOpening_8 rfl rfl ?_
    refine Tr.iconst (pc := 9) d_X5_takeOpening_9 (by decide) ?_
    refine Tr.callV (pc := 10) (as := [_]) d_X5_takeOpening_10 s_5_56 ok_X5_refuse rfl rfl (Nat.le_of_ble_eq_true rfl) (Nat.le_of_ble_eq_true rfl) (by decide) (ty_6 hS.1.1) ?_
    refine Tr.imp (Tr.deep (by decide) (sp_X5_refuse_6_w1 hS.1 ((St.kp hS (by decide) (by decide) (by decide)).trans en_6_2) 1 (by omega))) ?_
    rintro M10 _ ⟨h10, r10, rfl, lr10, ur10⟩
    have hS := St.tr hS h10 (by decide) (by decide)
    refine Tr.sc [(0, r10)] rfl ?_
    exact Tr.zret (pc := 13) d_X5_takeOpening_13 rfl (by omega) ⟨hS, _, rfl, by omega, by omega, fun hq => absurd hq (by omega)⟩

def ws_X5_takeOpening_6_w26 : List (Int × Int) := [(6, 0), (6, 1)]
def as_X5_takeOpening_6_w26 : List Int := []
def q_X5_takeOpening_6_w26 (M0 M' : Mem) (r : Option PV) : Prop := St Tru ws_X5_takeOpening_6_w26 as_X5_takeOpening_6_w26 M0 M' ∧ ∃ v : Int, r = some (0, v) ∧ 0 ≤ v ∧ v ≤ 0
set_option maxRecDepth 100000 in
set_option maxHeartbeats 4000000 in
theorem sp_X5_takeOpening_6_w26 {l : Launch} {K : EC} {M0 : Mem} (hI : In Tru M0) (en_6_2 : rd M0 6 2 = 2) (en_6_6 : rd M0 6 6 = 8) (a1 : Int) (ha1 : 123 ≤ a1 ∧ a1 ≤ 123)  : Tr l K 1 mX5_takeOpening 0 [(0, (2, 6)), (1, (0, a1))] [] M0 (q_X5_takeOpening_6_w26 M0) := by
  have hS : St Tru ws_X5_takeOpening_6_w26 as_X5_takeOpening_6_w26 M0 M0 := St.rf hI
  refine Tr.aload_n (pc := 0) (i := 0) d_X5_takeOpening_0 rfl rfl ?_
  refine Tr.iload_n (pc := 1) (i := 1) d_X5_takeOpening_1 rfl rfl ?_
  refine Tr.tp 123 (by omega) ?_
  refine Tr.callV (pc := 2) (as := [_]) d_X5_takeOpening_2 s_5_77 ok_X5_isSign rfl rfl (Nat.le_of_ble_eq_true rfl) (Nat.le_of_ble_eq_true rfl) (by decide) (ty_6 hS.1.1) ?_
  refine Tr.imp (Tr.deep (by decide) (sp_X5_isSign_6_w5 hS.1 ((St.kp hS (by decide) (by decide) (by decide)).trans en_6_2) 123 (by omega))) ?_
  rintro M2 _ ⟨h2, r2, rfl, lr2, ur2⟩
  have hS := St.tr hS h2 (by decide) (by decide)
  refine Tr.sc [(0, r2)] rfl ?_
  refine Tr.if_ne (pc := 5) (tgt := 14) d_X5_takeOpening_5 rfl (fun c5 => ?_) (fun c5 => ?_)
  · refine Tr.aload_n (pc := 14) (i := 0) d_X5_takeOpening_14 rfl rfl ?_
    refine Tr.getf (pc := 15) d_X5_takeOpening_15 f_5_39 (by decide) (by decide) (ty_6 hS.1.1) ?_
    refine Tr.tp 8 ((St.kp h2 (by decide) (by decide) (by decide)).trans en_6_6) ?_
    refine Tr.bipush (pc := 18) d_X5_takeOpening_18 rfl (by decide) ?_
    refine Tr.icmp_ne (pc := 20) (tgt := 29) d_X5_takeOpening_20 rfl (fun hc => absurd (by omega) hc) (fun _ => ?_)
    refine Tr.aload_n (pc := 23) (i := 0) d_X5_takeOpening_23 rfl rfl ?_
    refine Tr.iconst (pc := 24) d_X5_takeOpening_24 (by decide) ?_
    refine Tr.callV (pc := 25) (as := [_]) d_X5_takeOpening_25 s_5_56 ok_X5_refuse rfl rfl (Nat.le_of_ble_eq_true rfl) (Nat.le_of_ble_eq_true rfl) (by decide) (ty_6 hS.1.1) ?_
    refine Tr.imp (Tr.deep (by decide) (sp_X5_refuse_6_w2 hS.1 ((St.kp hS (by decide) (by decide) (by decide)).trans en_6_2) 5 (by omega))) ?_
    rintro M25 _ ⟨h25, r25, rfl, lr25, ur25⟩
    have hS := St.tr hS h25 (by decide) (by decide)
    refine Tr.sc [(0, r25)] rfl ?_
    exact Tr.zret (pc := 28) d_X5_takeOpening_28 rfl (by omega) ⟨hS, _, rfl, by omega, by omega⟩
  · refine Tr.aload_n (pc := 8) (i := 0) d_X5_takeOpening_8 rfl rfl ?_
    refine Tr.iconst (pc := 9) d_X5_takeOpening_9 (by decide) ?_
    refine Tr.callV (pc := 10) (as := [_]) d_X5_takeOpening_10 s_5_56 ok_X5_refuse rfl rfl (Nat.le_of_ble_eq_true rfl) (Nat.le_of_ble_eq_true rfl) (by decide) (ty_6 hS.1.1) ?_
    refine Tr.imp (Tr.deep (by decide) (sp_X5_refuse_6_w1 hS.1 ((St.kp hS (by decide) (by decide) (by decide)).trans en_6_2) 1 (by omega))) ?_
    rintro M10 _ ⟨h10, r10, rfl, lr10, ur10⟩
    have hS := St.tr hS h10 (by decide) (by decide)
    refine Tr.sc [(0, r10)] rfl ?_
    exact Tr.zret (pc := 13) d_X5_takeOpening_13 rfl (by omega) ⟨hS, _, rfl, by omega, by omega⟩

def ws_X5_block_6_w8 : List (Int × Int) := [(6, 0), (6, 1)]
def as_X5_block_6_w8 : List Int := []
def q_X5_block_6_w8 (M0 M' : Mem) (r : Option PV) : Prop := St Tru ws_X5_block_6_w8 as_X5_block_6_w8 M0 M' ∧ ∃ v : Int, r = some (0, v) ∧ (-2) ≤ v ∧ v ≤ (-2)
set_option maxRecDepth 100000 in
set_option maxHeartbeats 4000000 in
theorem sp_X5_block_6_w8 {l : Launch} {K : EC} {M0 : Mem} (hI : In Tru M0) (en_6_2 : rd M0 6 2 = 2) (en_6_6 : rd M0 6 6 = 8) (a1 : Int) (ha1 : 0 ≤ a1 ∧ a1 ≤ 59)  : Tr l K 2 mX5_block 0 [(0, (2, 6)), (1, (0, a1))] [] M0 (q_X5_block_6_w8 M0) := by
  have hS : St Tru ws_X5_block_6_w8 as_X5_block_6_w8 M0 M0 := St.rf hI
  refine Tr.aload_n (pc := 0) (i := 0) d_X5_block_0 rfl rfl ?_
  refine Tr.bipush (pc := 1) d_X5_block_1 rfl (by decide) ?_
  refine Tr.callV (pc := 3) (as := [_]) d_X5_block_3 s_5_206 ok_X5_takeOpening rfl rfl (Nat.le_of_ble_eq_true rfl) (Nat.le_of_ble_eq_true rfl) (by decide) (ty_6 hS.1.1) ?_
  refine Tr.imp (Tr.deep (by decide) (sp_X5_takeOpening_6_w26 hS.1 ((St.kp hS (by decide) (by decide) (by decide)).trans en_6_2) en_6_6 123 (by omega))) ?_
  rintro M3 _ ⟨h3, r3, rfl, lr3, ur3⟩
  have hS := St.tr hS h3 (by decide) (by decide)
  refine Tr.sc [(0, r3)] rfl ?_
  refine Tr.if_ne (pc := 6) (tgt := 12) d_X5_block_6 rfl (fun hc => absurd (by omega) hc) (fun _ => ?_)
  refine Tr.bipush (pc := 9) d_X5_block_9 rfl (by decide) ?_
  exact Tr.iret (pc := 11) d_X5_block_11 rfl ⟨hS, _, rfl, by omega, by omega⟩

def ws_X5_yesBlock_6_w8 : List (Int × Int) := [(6, 0), (6, 1)]
def as_X5_yesBlock_6_w8 : List Int := [39]
def q_X5_yesBlock_6_w8 (M0 M' : Mem) (r : Option PV) : Prop := St Tru ws_X5_yesBlock_6_w8 as_X5_yesBlock_6_w8 M0 M' ∧ ∃ v : Int, r = some (0, v) ∧ 0 ≤ v ∧ v ≤ 0
set_option maxRecDepth 100000 in
set_option maxHeartbeats 4000000 in
theorem sp_X5_yesBlock_6_w8 {l : Launch} {K : EC} {M0 : Mem} (hI : In Tru M0) (en_6_2 : rd M0 6 2 = 2) (en_6_4 : rd M0 6 4 = 35) (en_6_6 : rd M0 6 6 = 8) (a1 : Int) (ha1 : 0 ≤ a1 ∧ a1 ≤ 59)  : Tr l K 3 mX5_yesBlock 0 [(0, (2, 6)), (1, (0, a1))] [] M0 (q_X5_yesBlock_6_w8 M0) := by
  have hS : St Tru ws_X5_yesBlock_6_w8 as_X5_yesBlock_6_w8 M0 M0 := St.rf hI
  refine Tr.aload_n (pc := 0) (i := 0) d_X5_yesBlock_0 rfl rfl ?_
  refine Tr.iload_n (pc := 1) (i := 1) d_X5_yesBlock_1 rfl rfl ?_
  refine Tr.callV (pc := 2) (as := [_]) d_X5_yesBlock_2 s_5_197 ok_X5_block rfl rfl (Nat.le_of_ble_eq_true rfl) (Nat.le_of_ble_eq_true rfl) (by decide) (ty_6 hS.1.1) ?_
  refine Tr.imp (Tr.deep (by decide) (sp_X5_block_6_w8 hS.1 ((St.kp hS (by decide) (by decide) (by decide)).trans en_6_2) en_6_6 a1 (by omega))) ?_
  rintro M2 _ ⟨h2, r2, rfl, lr2, ur2⟩
  have hS := St.tr hS h2 (by decide) (by decide)
  refine Tr.sc [(0, r2)] rfl ?_
  refine Tr.istore_n (pc := 5) (i := 2) (ls2 := [(2, (0, r2)), (0, (2, 6)), (1, (0, a1))]) d_X5_yesBlock_5 rfl (by decide) rfl ?_
  refine Tr.aload_n (pc := 6) (i := 0) d_X5_yesBlock_6 rfl rfl ?_
  refine Tr.getf (pc := 7) d_X5_yesBlock_7 f_5_32 (by decide) (by decide) (ty_6 hS.1.1) ?_
  refine Tr.tp 35 ((St.kp hS (by decide) (by decide) (by decide)).trans en_6_4) ?_
  refine Tr.getf (pc := 10) d_X5_yesBlock_10 f_5_200 (by decide) (by decide) (ty_35 hS.1.1) ?_
  refine Tr.tp 39 (fx_35_4 hS.1.1) ?_
  refine Tr.iload_n (pc := 13) (i := 1) d_X5_yesBlock_13 rfl rfl ?_
  refine Tr.iload_n (pc := 14) (i := 2) d_X5_yesBlock_14 rfl rfl ?_
  refine Tr.tp (-2) (by omega) ?_
  refine Tr.iastS (pc := 15) (P := St Tru ws_X5_yesBlock_6_w8 as_X5_yesBlock_6_w8 M0) d_X5_yesBlock_15 (ty_39 hS.1.1) (by omega) (by omega) (sa_39 hS (by decide) (by omega) trivial) (fun M15 hS w15 => ?_)
  refine Tr.iload_n (pc := 16) (i := 2) d_X5_yesBlock_16 rfl rfl ?_
  refine Tr.tp (-2) (by omega) ?_
  refine Tr.bipush (pc := 17) d_X5_yesBlock_17 rfl (by decide) ?_
  refine Tr.icmp_eq (pc := 19) (tgt := 26) d_X5_yesBlock_19 rfl (fun _ => ?_) (fun hc => absurd (by omega) hc)
  refine Tr.iconst (pc := 26) d_X5_yesBlock_26 (by decide) ?_
  exact Tr.zret (pc := 27) d_X5_yesBlock_27 rfl (by omega) ⟨hS, _, rfl, by omega, by omega⟩

def ws_X5_takeSign_6_w3 : List (Int × Int) := [(6, 0), (6, 1), (6, 5)]
def as_X5_takeSign_6_w3 : List Int := []
def q_X5_takeSign_6_w3 (M0 M' : Mem) (r : Option PV) : Prop := St Tru ws_X5_takeSign_6_w3 as_X5_takeSign_6_w3 M0 M' ∧ ∃ v : Int, r = some (0, v) ∧ 0 ≤ v ∧ v ≤ 1
set_option maxRecDepth 100000 in
set_option maxHeartbeats 4000000 in
theorem sp_X5_takeSign_6_w3 {l : Launch} {K : EC} {M0 : Mem} (hI : In Tru M0) (en_6_2 : rd M0 6 2 = 2) (a1 : Int) (ha1 : 61 ≤ a1 ∧ a1 ≤ 61)  : Tr l K 1 mX5_takeSign 0 [(0, (2, 6)), (1, (0, a1))] [] M0 (q_X5_takeSign_6_w3 M0) := by
  have hS : St Tru ws_X5_takeSign_6_w3 as_X5_takeSign_6_w3 M0 M0 := St.rf hI
  refine Tr.aload_n (pc := 0) (i := 0) d_X5_takeSign_0 rfl rfl ?_
  refine Tr.iload_n (pc := 1) (i := 1) d_X5_takeSign_1 rfl rfl ?_
  refine Tr.tp 61 (by omega) ?_
  refine Tr.callV (pc := 2) (as := [_]) d_X5_takeSign_2 s_5_77 ok_X5_isSign rfl rfl (Nat.le_of_ble_eq_true rfl) (Nat.le_of_ble_eq_true rfl) (by decide) (ty_6 hS.1.1) ?_
  refine Tr.imp (Tr.deep (by decide) (sp_X5_isSign_6_w4 hS.1 ((St.kp hS (by decide) (by decide) (by decide)).trans en_6_2) 61 (by omega))) ?_
  rintro M2 _ ⟨h2, r2, rfl, lr2, ur2⟩
  have hS := St.tr hS h2 (by decide) (by decide)
  refine Tr.sc [(0, r2)] rfl ?_
  refine Tr.if_eq (pc := 5) (tgt := 15) d_X5_takeSign_5 rfl (fun c5 => ?_) (fun c5 => ?_)
  · refine Tr.aload_n (pc := 15) (i := 0) d_X5_takeSign_15 rfl rfl ?_
    refine Tr.iconst (pc := 16) d_X5_takeSign_16 (by decide) ?_
    refine Tr.callV (pc := 17) (as := [_]) d_X5_takeSign_17 s_5_56 ok_X5_refuse rfl rfl (Nat.le_of_ble_eq_true rfl) (Nat.le_of_ble_eq_true rfl) (by decide) (ty_6 hS.1.1) ?_
    refine Tr.imp (Tr.deep (by decide) (sp_X5_refuse_6_w1 hS.1 ((St.kp hS (by decide) (by decide) (by decide)).trans en_6_2) 1 (by omega))) ?_
    rintro M17 _ ⟨h17, r17, rfl, lr17, ur17⟩
    have hS := St.tr hS h17 (by decide) (by decide)
    refine Tr.sc [(0, r17)] rfl ?_
    exact Tr.zret (pc := 20) d_X5_takeSign_20 rfl (by omega) ⟨hS, _, rfl, by omega, by omega⟩
  · refine Tr.aload_n (pc := 8) (i := 0) d_X5_takeSign_8 rfl rfl ?_
    refine Tr.callV (pc := 9) (as := []) d_X5_takeSign_9 s_5_74 ok_X5_goOn rfl rfl (Nat.le_of_ble_eq_true rfl) (Nat.le_of_ble_eq_true rfl) (by decide) (ty_6 hS.1.1) ?_
    refine Tr.imp (Tr.deep (by decide) (sp_X5_goOn_6 hS.1 )) ?_
    rintro M9 _ ⟨h9, r9, rfl, lr9, ur9⟩
    have hS := St.tr hS h9 (by decide) (by decide)
    refine Tr.sc [(0, r9)] rfl ?_
    refine Tr.goto (pc := 12) (tgt := 20) d_X5_takeSign_12 rfl ?_
    exact Tr.zret (pc := 20) d_X5_takeSign_20 rfl (by omega) ⟨hS, _, rfl, by omega, by omega⟩

def ws_X5_isSign_6_w6 : List (Int × Int) := []
def as_X5_isSign_6_w6 : List Int := []
def q_X5_isSign_6_w6 (M0 M' : Mem) (r : Option PV) : Prop := St Tru ws_X5_isSign_6_w6 as_X5_isSign_6_w6 M0 M' ∧ ∃ v : Int, r = some (0, v) ∧ 0 ≤ v ∧ v ≤ 1
set_option maxRecDepth 100000 in
set_option maxHeartbeats 4000000 in
theorem sp_X5_isSign_6_w6 {l : Launch} {K : EC} {M0 : Mem} (hI : In Tru M0) (en_6_2 : rd M0 6 2 = 2) (a1 : Int) (ha1 : 123 ≤ a1 ∧ a1 ≤ 161)  : Tr l K 0 mX5_isSign 0 [(0, (2, 6)), (1, (0, a1))] [] M0 (q_X5_isSign_6_w6 M0) := by
  have hS : St Tru ws_X5_isSign_6_w6 as_X5_isSign_6_w6 M0 M0 := St.rf hI
  refine Tr.aload_n (pc := 0) (i := 0) d_X5_isSign_0 rfl rfl ?_
  refine Tr.getf (pc := 1) d_X5_isSign_1 f_5_18 (by decide) (by decide) (ty_6 hS.1.1) ?_
  refine Tr.tp 2 ((St.kp hS (by decide) (by decide) (by decide)).trans en_6_2) ?_
  refine Tr.getf (pc := 4) d_X5_isSign_4 f_5_50 (by decide) (by decide) (ty_2 hS.1.1) ?_
  refine Tr.tp 3 (fx_2_0 hS.1.1) ?_
  refine Tr.aload_n (pc := 7) (i := 0) d_X5_isSign_7 rfl rfl ?_
  refine Tr.getf (pc := 8) d_X5_isSign_8 f_5_36 (by decide) (by decide) (ty_6 hS.1.1) ?_
  refine Tr.gen (P := fun v => 0 ≤ v ∧ v ≤ 900) (ir_6_5 hS.1.2.1) (fun r8 er8 br8 => ?_)
  refine Tr.iald (pc := 11) d_X5_isSign_11 (ty_3 hS.1.1) (by omega) (by omega) ?_
  refine Tr.gen (P := fun v => (-2147483648) ≤ v ∧ v ≤ 2147483647) (ar_3 hS.1.2.1 _) (fun r11 er11 br11 => ?_)
  refine Tr.iconst (pc := 12) d_X5_isSign_12 (by decide) ?_
  refine Tr.icmp_ne (pc := 13) (tgt := 36) d_X5_isSign_13 rfl (fun c13 => ?_) (fun c13 => ?_)
  · refine Tr.iconst (pc := 36) d_X5_isSign_36 (by decide) ?_
    exact Tr.zret (pc := 37) d_X5_isSign_37 rfl (by omega) ⟨hS, _, rfl, by omega, by omega⟩
  · refine Tr.aload_n (pc := 16) (i := 0) d_X5_isSign_16 rfl rfl ?_
    refine Tr.getf (pc := 17) d_X5_isSign_17 f_5_18 (by decide) (by decide) (ty_6 hS.1.1) ?_
    refine Tr.tp 2 ((St.kp hS (by decide) (by decide) (by decide)).trans en_6_2) ?_
    refine Tr.getf (pc := 20) d_X5_isSign_20 f_5_68 (by decide) (by decide) (ty_2 hS.1.1) ?_
    refine Tr.tp 5 (fx_2_2 hS.1.1) ?_
    refine Tr.aload_n (pc := 23) (i := 0) d_X5_isSign_23 rfl rfl ?_
    refine Tr.getf (pc := 24) d_X5_isSign_24 f_5_36 (by decide) (by decide) (ty_6 hS.1.1) ?_
    refine Tr.tp r8 er8 ?_
    refine Tr.iald (pc := 27) d_X5_isSign_27 (ty_5 hS.1.1) (by omega) (by omega) ?_
    refine Tr.gen (P := fun v => (-2147483648) ≤ v ∧ v ≤ 2147483647) (ar_5 hS.1.2.1 _) (fun r27 er27 br27 => ?_)
    refine Tr.iload_n (pc := 28) (i := 1) d_X5_isSign_28 rfl rfl ?_
    refine Tr.icmp_ne (pc := 29) (tgt := 36) d_X5_isSign_29 rfl (fun c29 => ?_) (fun c29 => ?_)
    · refine Tr.iconst (pc := 36) d_X5_isSign_36 (by decide) ?_
      exact Tr.zret (pc := 37) d_X5_isSign_37 rfl (by omega) ⟨hS, _, rfl, by omega, by omega⟩
    · refine Tr.iconst (pc := 32) d_X5_isSign_32 (by decide) ?_
      refine Tr.goto (pc := 33) (tgt := 37) d_X5_isSign_33 rfl ?_
      exact Tr.zret (pc := 37) d_X5_isSign_37 rfl (by omega) ⟨hS, _, rfl, by omega, by omega⟩

def ws_X5_takeSign_6_w4 : List (Int × Int) := [(6, 0), (6, 1), (6, 5)]
def as_X5_takeSign_6_w4 : List Int := []
def q_X5_takeSign_6_w4 (M0 M' : Mem) (r : Option PV) : Prop := St Tru ws_X5_takeSign_6_w4 as_X5_takeSign_6_w4 M0 M' ∧ ∃ v : Int, r = some (0, v) ∧ 0 ≤ v ∧ v ≤ 1
set_option maxRecDepth 100000 in
set_option maxHeartbeats 4000000 in
theorem sp_X5_takeSign_6_w4 {l : Launch} {K : EC} {M0 : Mem} (hI : In Tru M0) (en_6_2 : rd M0 6 2 = 2) (a1 : Int) (ha1 : 123 ≤ a1 ∧ a1 ≤ 161)  : Tr l K 1 mX5_takeSign 0 [(0, (2, 6)), (1, (0, a1))] [] M0 (q_X5_takeSign_6_w4 M0) := by
  have hS : St Tru ws_X5_takeSign_6_w4 as_X5_takeSign_6_w4 M0 M0 := St.rf hI
  refine Tr.aload_n (pc := 0) (i := 0) d_X5_takeSign_0 rfl rfl ?_
  refine Tr.iload_n (pc := 1) (i := 1) d_X5_takeSign_1 rfl rfl ?_
  refine Tr.callV (pc := 2) (as := [_]) d_X5_takeSign_2 s_5_77 ok_X5_isSign rfl rfl (Nat.le_of_ble_eq_true rfl) (Nat.le_of_ble_eq_true rfl) (by decide) (ty_6 hS.1.1) ?_
  refine Tr.imp (Tr.deep (by decide) (sp_X5_isSign_6_w6 hS.1 ((St.kp hS (by decide) (by decide) (by decide)).trans en_6_2) a1 (by omega))) ?_
  rintro M2 _ ⟨h2, r2, rfl, lr2, ur2⟩
  have hS := St.tr hS h2 (by decide) (by decide)
  refine Tr.sc [(0, r2)] rfl ?_
  refine Tr.if_eq (pc := 5) (tgt := 15) d_X5_takeSign_5 rfl (fun c5 => ?_) (fun c5 => ?_)
  · refine Tr.aload_n (pc := 15) (i := 0) d_X5_takeSign_15 rfl rfl ?_
    refine Tr.iconst (pc := 16) d_X5_takeSign_16 (by decide) ?_
    refine Tr.callV (pc := 17) (as := [_]) d_X5_takeSign_17 s_5_56 ok_X5_refuse rfl rfl (Nat.le_of_ble_eq_true rfl) (Nat.le_of_ble_eq_true rfl) (by decide) (ty_6 hS.1.1) ?_
    refine Tr.imp (Tr.deep (by decide) (sp_X5_refuse_6_w1 hS.1 ((St.kp hS (by decide) (by decide) (by decide)).trans en_6_2) 1 (by omega))) ?_
    rintro M17 _ ⟨h17, r17, rfl, lr17, ur17⟩
    have hS := St.tr hS h17 (by decide) (by decide)
    refine Tr.sc [(0, r17)] rfl ?_
    exact Tr.zret (pc := 20) d_X5_takeSign_20 rfl (by omega) ⟨hS, _, rfl, by omega, by omega⟩
  · refine Tr.aload_n (pc := 8) (i := 0) d_X5_takeSign_8 rfl rfl ?_
    refine Tr.callV (pc := 9) (as := []) d_X5_takeSign_9 s_5_74 ok_X5_goOn rfl rfl (Nat.le_of_ble_eq_true rfl) (Nat.le_of_ble_eq_true rfl) (by decide) (ty_6 hS.1.1) ?_
    refine Tr.imp (Tr.deep (by decide) (sp_X5_goOn_6 hS.1 )) ?_
    rintro M9 _ ⟨h9, r9, rfl, lr9, ur9⟩
    have hS := St.tr hS h9 (by decide) (by decide)
    refine Tr.sc [(0, r9)] rfl ?_
    refine Tr.goto (pc := 12) (tgt := 20) d_X5_takeSign_12 rfl ?_
    exact Tr.zret (pc := 20) d_X5_takeSign_20 rfl (by omega) ⟨hS, _, rfl, by omega, by omega⟩

def ws_X5_takeClosing_6_w16 : List (Int × Int) := [(6, 0), (6, 1), (6, 5), (6, 6)]
def as_X5_takeClosing_6_w16 : List Int := []
def q_X5_takeClosing_6_w16 (M0 M' : Mem) (r : Option PV) : Prop := St Tru ws_X5_takeClosing_6_w16 as_X5_takeClosing_6_w16 M0 M' ∧ ∃ v : Int, r = some (0, v) ∧ 0 ≤ v ∧ v ≤ 1 ∧ ((1 ≤ v ∧ v ≤ 1) → rd M' 6 6 = 7)
set_option maxRecDepth 100000 in
set_option maxHeartbeats 4000000 in
theorem sp_X5_takeClosing_6_w16 {l : Launch} {K : EC} {M0 : Mem} (hI : In Tru M0) (en_6_2 : rd M0 6 2 = 2) (en_6_6 : rd M0 6 6 = 8) (a1 : Int) (ha1 : 123 ≤ a1 ∧ a1 ≤ 161)  : Tr l K 2 mX5_takeClosing 0 [(0, (2, 6)), (1, (0, a1))] [] M0 (q_X5_takeClosing_6_w16 M0) := by
  have hS : St Tru ws_X5_takeClosing_6_w16 as_X5_takeClosing_6_w16 M0 M0 := St.rf hI
  refine Tr.aload_n (pc := 0) (i := 0) d_X5_takeClosing_0 rfl rfl ?_
  refine Tr.iload_n (pc := 1) (i := 1) d_X5_takeClosing_1 rfl rfl ?_
  refine Tr.callV (pc := 2) (as := [_]) d_X5_takeClosing_2 s_5_81 ok_X5_takeSign rfl rfl (Nat.le_of_ble_eq_true rfl) (Nat.le_of_ble_eq_true rfl) (by decide) (ty_6 hS.1.1) ?_
  refine Tr.imp (Tr.deep (by decide) (sp_X5_takeSign_6_w4 hS.1 ((St.kp hS (by decide) (by decide) (by decide)).trans en_6_2) a1 (by omega))) ?_
  rintro M2 _ ⟨h2, r2, rfl, lr2, ur2⟩
  have hS := St.tr hS h2 (by decide) (by decide)
  refine Tr.sc [(0, r2)] rfl ?_
  refine Tr.if_ne (pc := 5) (tgt := 10) d_X5_takeClosing_5 rfl (fun c5 => ?_) (fun c5 => ?_)
  · refine Tr.aload_n (pc := 10) (i := 0) d_X5_takeClosing_10 rfl rfl ?_
    refine Tr.dup (pc := 11) d_X5_takeClosing_11 ne21 ?_
    refine Tr.getf (pc := 12) d_X5_takeClosing_12 f_5_39 (by decide) (by decide) (ty_6 hS.1.1) ?_
    refine Tr.tp 8 ((St.kp h2 (by decide) (by decide) (by decide)).trans en_6_6) ?_
    refine Tr.iconst (pc := 15) d_X5_takeClosing_15 (by decide) ?_
    refine Tr.isub (pc := 16) d_X5_takeClosing_16 ?_
    refine Tr.tp 7 (by decide) ?_
    refine Tr.putfS (pc := 17) (P := St Tru ws_X5_takeClosing_6_w16 as_X5_takeClosing_6_w16 M0) d_X5_takeClosing_17 f_5_39 (by decide) (by decide) (ty_6 hS.1.1) (st_6_6 hS (by decide) (by omega) trivial) (fun M17 hS w17 => ?_)
    refine Tr.iconst (pc := 20) d_X5_takeClosing_20 (by decide) ?_
    exact Tr.zret (pc := 21) d_X5_takeClosing_21 rfl (by omega) ⟨hS, _, rfl, by omega, by omega, fun _ => w17.1⟩
  · refine Tr.iconst (pc := 8) d_X5_takeClosing_8 (by decide) ?_
    exact Tr.zret (pc := 9) d_X5_takeClosing_9 rfl (by omega) ⟨hS, _, rfl, by omega, by omega, fun hq => absurd hq (by omega)⟩

def ws_X5_takeClosing_6_w17 : List (Int × Int) := [(6, 0), (6, 1), (6, 5), (6, 6)]
def as_X5_takeClosing_6_w17 : List Int := []
def q_X5_takeClosing_6_w17 (M0 M' : Mem) (r : Option PV) : Prop := St Tru ws_X5_takeClosing_6_w17 as_X5_takeClosing_6_w17 M0 M' ∧ ∃ v : Int, r = some (0, v) ∧ 0 ≤ v ∧ v ≤ 1 ∧ ((1 ≤ v ∧ v ≤ 1) → rd M' 6 6 = 6)
set_option maxRecDepth 100000 in
set_option maxHeartbeats 4000000 in
theorem sp_X5_takeClosing_6_w17 {l : Launch} {K : EC} {M0 : Mem} (hI : In Tru M0) (en_6_2 : rd M0 6 2 = 2) (en_6_6 : rd M0 6 6 = 7) (a1 : Int) (ha1 : 123 ≤ a1 ∧ a1 ≤ 161)  : Tr l K 2 mX5_takeClosing 0 [(0, (2, 6)), (1, (0, a1))] [] M0 (q_X5_takeClosing_6_w17 M0) := by
  have hS : St Tru ws_X5_takeClosing_6_w17 as_X5_takeClosing_6_w17 M0 M0 := St.rf hI
  refine Tr.aload_n (pc := 0) (i := 0) d_X5_takeClosing_0 rfl rfl ?_
  refine Tr.iload_n (pc := 1) (i := 1) d_X5_takeClosing_1 rfl rfl ?_
  refine Tr.callV (pc := 2) (as := [_]) d_X5_takeClosing_2 s_5_81 ok_X5_takeSign rfl rfl (Nat.le_of_ble_eq_true rfl) (Nat.le_of_ble_eq_true rfl) (by decide) (ty_6 hS.1.1) ?_
  refine Tr.imp (Tr.deep (by decide) (sp_X5_takeSign_6_w4 hS.1 ((St.kp hS (by decide) (by decide) (by decide)).trans en_6_2) a1 (by omega))) ?_
  rintro M2 _ ⟨h2, r2, rfl, lr2, ur2⟩
  have hS := St.tr hS h2 (by decide) (by decide)
  refine Tr.sc [(0, r2)] rfl ?_
  refine Tr.if_ne (pc := 5) (tgt := 10) d_X5_takeClosing_5 rfl (fun c5 => ?_) (fun c5 => ?_)
  · refine Tr.aload_n (pc := 10) (i := 0) d_X5_takeClosing_10 rfl rfl ?_
    refine Tr.dup (pc := 11) d_X5_takeClosing_11 ne21 ?_
    refine Tr.getf (pc := 12) d_X5_takeClosing_12 f_5_39 (by decide) (by decide) (ty_6 hS.1.1) ?_
    refine Tr.tp 7 ((St.kp h2 (by decide) (by decide) (by decide)).trans en_6_6) ?_
    refine Tr.iconst (pc := 15) d_X5_takeClosing_15 (by decide) ?_
    refine Tr.isub (pc := 16) d_X5_takeClosing_16 ?_
    refine Tr.tp 6 (by decide) ?_
    refine Tr.putfS (pc := 17) (P := St Tru ws_X5_takeClosing_6_w17 as_X5_takeClosing_6_w17 M0) d_X5_takeClosing_17 f_5_39 (by decide) (by decide) (ty_6 hS.1.1) (st_6_6 hS (by decide) (by omega) trivial) (fun M17 hS w17 => ?_)
    refine Tr.iconst (pc := 20) d_X5_takeClosing_20 (by decide) ?_
    exact Tr.zret (pc := 21) d_X5_takeClosing_21 rfl (by omega) ⟨hS, _, rfl, by omega, by omega, fun _ => w17.1⟩
  · refine Tr.iconst (pc := 8) d_X5_takeClosing_8 (by decide) ?_
    exact Tr.zret (pc := 9) d_X5_takeClosing_9 rfl (by omega) ⟨hS, _, rfl, by omega, by omega, fun hq => absurd hq (by omega)⟩

def ws_X5_takeClosing_6_w18 : List (Int × Int) := [(6, 0), (6, 1), (6, 5), (6, 6)]
def as_X5_takeClosing_6_w18 : List Int := []
def q_X5_takeClosing_6_w18 (M0 M' : Mem) (r : Option PV) : Prop := St Tru ws_X5_takeClosing_6_w18 as_X5_takeClosing_6_w18 M0 M' ∧ ∃ v : Int, r = some (0, v) ∧ 0 ≤ v ∧ v ≤ 1 ∧ ((1 ≤ v ∧ v ≤ 1) → rd M' 6 6 = 5)
set_option maxRecDepth 100000 in
set_option maxHeartbeats 4000000 in
theorem sp_X5_takeClosing_6_w18 {l : Launch} {K : EC} {M0 : Mem} (hI : In Tru M0) (en_6_2 : rd M0 6 2 = 2) (en_6_6 : rd M0 6 6 = 6) (a1 : Int) (ha1 : 123 ≤ a1 ∧ a1 ≤ 161)  : Tr l K 2 mX5_takeClosing 0 [(0, (2, 6)), (1, (0, a1))] [] M0 (q_X5_takeClosing_6_w18 M0) := by
  have hS : St Tru ws_X5_takeClosing_6_w18 as_X5_takeClosing_6_w18 M0 M0 := St.rf hI
  refine Tr.aload_n (pc := 0) (i := 0) d_X5_takeClosing_0 rfl rfl ?_
  refine Tr.iload_n (pc := 1) (i := 1) d_X5_takeClosing_1 rfl rfl ?_
  refine Tr.callV (pc := 2) (as := [_]) d_X5_takeClosing_2 s_5_81 ok_X5_takeSign rfl rfl (Nat.le_of_ble_eq_true rfl) (Nat.le_of_ble_eq_true rfl) (by decide) (ty_6 hS.1.1) ?_
  refine Tr.imp (Tr.deep (by decide) (sp_X5_takeSign_6_w4 hS.1 ((St.kp hS (by decide) (by decide) (by decide)).trans en_6_2) a1 (by omega))) ?_
  rintro M2 _ ⟨h2, r2, rfl, lr2, ur2⟩
  have hS := St.tr hS h2 (by decide) (by decide)
  refine Tr.sc [(0, r2)] rfl ?_
  refine Tr.if_ne (pc := 5) (tgt := 10) d_X5_takeClosing_5 rfl (fun c5 => ?_) (fun c5 => ?_)
  · refine Tr.aload_n (pc := 10) (i := 0) d_X5_takeClosing_10 rfl rfl ?_
    refine Tr.dup (pc := 11) d_X5_takeClosing_11 ne21 ?_
    refine Tr.getf (pc := 12) d_X5_takeClosing_12 f_5_39 (by decide) (by decide) (ty_6 hS.1.1) ?_
    refine Tr.tp 6 ((St.kp h2 (by decide) (by decide) (by decide)).trans en_6_6) ?_
    refine Tr.iconst (pc := 15) d_X5_takeClosing_15 (by decide) ?_
    refine Tr.isub (pc := 16) d_X5_takeClosing_16 ?_
    refine Tr.tp 5 (by decide) ?_
    refine Tr.putfS (pc := 17) (P := St Tru ws_X5_takeClosing_6_w18 as_X5_takeClosing_6_w18 M0) d_X5_takeClosing_17 f_5_39 (by decide) (by decide) (ty_6 hS.1.1) (st_6_6 hS (by decide) (by omega) trivial) (fun M17 hS w17 => ?_)
    refine Tr.iconst (pc := 20) d_X5_takeClosing_20 (by decide) ?_
    exact Tr.zret (pc := 21) d_X5_takeClosing_21 rfl (by omega) ⟨hS, _, rfl, by omega, by omega, fun _ => w17.1⟩
  · refine Tr.iconst (pc := 8) d_X5_takeClosing_8 (by decide) ?_
    exact Tr.zret (pc := 9) d_X5_takeClosing_9 rfl (by omega) ⟨hS, _, rfl, by omega, by omega, fun hq => absurd hq (by omega)⟩

def ws_X5_takeClosing_6_w19 : List (Int × Int) := [(6, 0), (6, 1), (6, 5), (6, 6)]
def as_X5_takeClosing_6_w19 : List Int := []
def q_X5_takeClosing_6_w19 (M0 M' : Mem) (r : Option PV) : Prop := St Tru ws_X5_takeClosing_6_w19 as_X5_takeClosing_6_w19 M0 M' ∧ ∃ v : Int, r = some (0, v) ∧ 0 ≤ v ∧ v ≤ 1 ∧ ((1 ≤ v ∧ v ≤ 1) → rd M' 6 6 = 4)
set_option maxRecDepth 100000 in
set_option maxHeartbeats 4000000 in
theorem sp_X5_takeClosing_6_w19 {l : Launch} {K : EC} {M0 : Mem} (hI : In Tru M0) (en_6_2 : rd M0 6 2 = 2) (en_6_6 : rd M0 6 6 = 5) (a1 : Int) (ha1 : 123 ≤ a1 ∧ a1 ≤ 161)  : Tr l K 2 mX5_takeClosing 0 [(0, (2, 6)), (1, (0, a1))] [] M0 (q_X5_takeClosing_6_w19 M0) := by
  have hS : St Tru ws_X5_takeClosing_6_w19 as_X5_takeClosing_6_w19 M0 M0 := St.rf hI
  refine Tr.aload_n (pc := 0) (i := 0) d_X5_takeClosing_0 rfl rfl ?_
  refine Tr.iload_n (pc := 1) (i := 1) d_X5_takeClosing_1 rfl rfl ?_
  refine Tr.callV (pc := 2) (as := [_]) d_X5_takeClosing_2 s_5_81 ok_X5_takeSign rfl rfl (Nat.le_of_ble_eq_true rfl) (Nat.le_of_ble_eq_true rfl) (by decide) (ty_6 hS.1.1) ?_
  refine Tr.imp (Tr.deep (by decide) (sp_X5_takeSign_6_w4 hS.1 ((St.kp hS (by decide) (by decide) (by decide)).trans en_6_2) a1 (by omega))) ?_
  rintro M2 _ ⟨h2, r2, rfl, lr2, ur2⟩
  have hS := St.tr hS h2 (by decide) (by decide)
  refine Tr.sc [(0, r2)] rfl ?_
  refine Tr.if_ne (pc := 5) (tgt := 10) d_X5_takeClosing_5 rfl (fun c5 => ?_) (fun c5 => ?_)
  · refine Tr.aload_n (pc := 10) (i := 0) d_X5_takeClosing_10 rfl rfl ?_
    refine Tr.dup (pc := 11) d_X5_takeClosing_11 ne21 ?_
    refine Tr.getf (pc := 12) d_X5_takeClosing_12 f_5_39 (by decide) (by decide) (ty_6 hS.1.1) ?_
    refine Tr.tp 5 ((St.kp h2 (by decide) (by decide) (by decide)).trans en_6_6) ?_
    refine Tr.iconst (pc := 15) d_X5_takeClosing_15 (by decide) ?_
    refine Tr.isub (pc := 16) d_X5_takeClosing_16 ?_
    refine Tr.tp 4 (by decide) ?_
    refine Tr.putfS (pc := 17) (P := St Tru ws_X5_takeClosing_6_w19 as_X5_takeClosing_6_w19 M0) d_X5_takeClosing_17 f_5_39 (by decide) (by decide) (ty_6 hS.1.1) (st_6_6 hS (by decide) (by omega) trivial) (fun M17 hS w17 => ?_)
    refine Tr.iconst (pc := 20) d_X5_takeClosing_20 (by decide) ?_
    exact Tr.zret (pc := 21) d_X5_takeClosing_21 rfl (by omega) ⟨hS, _, rfl, by omega, by omega, fun _ => w17.1⟩
  · refine Tr.iconst (pc := 8) d_X5_takeClosing_8 (by decide) ?_
    exact Tr.zret (pc := 9) d_X5_takeClosing_9 rfl (by omega) ⟨hS, _, rfl, by omega, by omega, fun hq => absurd hq (by omega)⟩

def ws_X5_takeClosing_6_w20 : List (Int × Int) := [(6, 0), (6, 1), (6, 5), (6, 6)]
def as_X5_takeClosing_6_w20 : List Int := []
def q_X5_takeClosing_6_w20 (M0 M' : Mem) (r : Option PV) : Prop := St Tru ws_X5_takeClosing_6_w20 as_X5_takeClosing_6_w20 M0 M' ∧ ∃ v : Int, r = some (0, v) ∧ 0 ≤ v ∧ v ≤ 1 ∧ ((1 ≤ v ∧ v ≤ 1) → rd M' 6 6 = 3)
set_option maxRecDepth 100000 in
set_option maxHeartbeats 4000000 in
theorem sp_X5_takeClosing_6_w20 {l : Launch} {K : EC} {M0 : Mem} (hI : In Tru M0) (en_6_2 : rd M0 6 2 = 2) (en_6_6 : rd M0 6 6 = 4) (a1 : Int) (ha1 : 123 ≤ a1 ∧ a1 ≤ 161)  : Tr l K 2 mX5_takeClosing 0 [(0, (2, 6)), (1, (0, a1))] [] M0 (q_X5_takeClosing_6_w20 M0) := by
  have hS : St Tru ws_X5_takeClosing_6_w20 as_X5_takeClosing_6_w20 M0 M0 := St.rf hI
  refine Tr.aload_n (pc := 0) (i := 0) d_X5_takeClosing_0 rfl rfl ?_
  refine Tr.iload_n (pc := 1) (i := 1) d_X5_takeClosing_1 rfl rfl ?_
  refine Tr.callV (pc := 2) (as := [_]) d_X5_takeClosing_2 s_5_81 ok_X5_takeSign rfl rfl (Nat.le_of_ble_eq_true rfl) (Nat.le_of_ble_eq_true rfl) (by decide) (ty_6 hS.1.1) ?_
  refine Tr.imp (Tr.deep (by decide) (sp_X5_takeSign_6_w4 hS.1 ((St.kp hS (by decide) (by decide) (by decide)).trans en_6_2) a1 (by omega))) ?_
  rintro M2 _ ⟨h2, r2, rfl, lr2, ur2⟩
  have hS := St.tr hS h2 (by decide) (by decide)
  refine Tr.sc [(0, r2)] rfl ?_
  refine Tr.if_ne (pc := 5) (tgt := 10) d_X5_takeClosing_5 rfl (fun c5 => ?_) (fun c5 => ?_)
  · refine Tr.aload_n (pc := 10) (i := 0) d_X5_takeClosing_10 rfl rfl ?_
    refine Tr.dup (pc := 11) d_X5_takeClosing_11 ne21 ?_
    refine Tr.getf (pc := 12) d_X5_takeClosing_12 f_5_39 (by decide) (by decide) (ty_6 hS.1.1) ?_
    refine Tr.tp 4 ((St.kp h2 (by decide) (by decide) (by decide)).trans en_6_6) ?_
    refine Tr.iconst (pc := 15) d_X5_takeClosing_15 (by decide) ?_
    refine Tr.isub (pc := 16) d_X5_takeClosing_16 ?_
    refine Tr.tp 3 (by decide) ?_
    refine Tr.putfS (pc := 17) (P := St Tru ws_X5_takeClosing_6_w20 as_X5_takeClosing_6_w20 M0) d_X5_takeClosing_17 f_5_39 (by decide) (by decide) (ty_6 hS.1.1) (st_6_6 hS (by decide) (by omega) trivial) (fun M17 hS w17 => ?_)
    refine Tr.iconst (pc := 20) d_X5_takeClosing_20 (by decide) ?_
    exact Tr.zret (pc := 21) d_X5_takeClosing_21 rfl (by omega) ⟨hS, _, rfl, by omega, by omega, fun _ => w17.1⟩
  · refine Tr.iconst (pc := 8) d_X5_takeClosing_8 (by decide) ?_
    exact Tr.zret (pc := 9) d_X5_takeClosing_9 rfl (by omega) ⟨hS, _, rfl, by omega, by omega, fun hq => absurd hq (by omega)⟩

def ws_X5_takeClosing_6_w21 : List (Int × Int) := [(6, 0), (6, 1), (6, 5), (6, 6)]
def as_X5_takeClosing_6_w21 : List Int := []
def q_X5_takeClosing_6_w21 (M0 M' : Mem) (r : Option PV) : Prop := St Tru ws_X5_takeClosing_6_w21 as_X5_takeClosing_6_w21 M0 M' ∧ ∃ v : Int, r = some (0, v) ∧ 0 ≤ v ∧ v ≤ 1 ∧ ((1 ≤ v ∧ v ≤ 1) → rd M' 6 6 = 2)
set_option maxRecDepth 100000 in
set_option maxHeartbeats 4000000 in
theorem sp_X5_takeClosing_6_w21 {l : Launch} {K : EC} {M0 : Mem} (hI : In Tru M0) (en_6_2 : rd M0 6 2 = 2) (en_6_6 : rd M0 6 6 = 3) (a1 : Int) (ha1 : 123 ≤ a1 ∧ a1 ≤ 161)  : Tr l K 2 mX5_takeClosing 0 [(0, (2, 6)), (1, (0, a1))] [] M0 (q_X5_takeClosing_6_w21 M0) := by
  have hS : St Tru ws_X5_takeClosing_6_w21 as_X5_takeClosing_6_w21 M0 M0 := St.rf hI
  refine Tr.aload_n (pc := 0) (i := 0) d_X5_takeClosing_0 rfl rfl ?_
  refine Tr.iload_n (pc := 1) (i := 1) d_X5_takeClosing_1 rfl rfl ?_
  refine Tr.callV (pc := 2) (as := [_]) d_X5_takeClosing_2 s_5_81 ok_X5_takeSign rfl rfl (Nat.le_of_ble_eq_true rfl) (Nat.le_of_ble_eq_true rfl) (by decide) (ty_6 hS.1.1) ?_
  refine Tr.imp (Tr.deep (by decide) (sp_X5_takeSign_6_w4 hS.1 ((St.kp hS (by decide) (by decide) (by decide)).trans en_6_2) a1 (by omega))) ?_
  rintro M2 _ ⟨h2, r2, rfl, lr2, ur2⟩
  have hS := St.tr hS h2 (by decide) (by decide)
  refine Tr.sc [(0, r2)] rfl ?_
  refine Tr.if_ne (pc := 5) (tgt := 10) d_X5_takeClosing_5 rfl (fun c5 => ?_) (fun c5 => ?_)
  · refine Tr.aload_n (pc := 10) (i := 0) d_X5_takeClosing_10 rfl rfl ?_
    refine Tr.dup (pc := 11) d_X5_takeClosing_11 ne21 ?_
    refine Tr.getf (pc := 12) d_X5_takeClosing_12 f_5_39 (by decide) (by decide) (ty_6 hS.1.1) ?_
    refine Tr.tp 3 ((St.kp h2 (by decide) (by decide) (by decide)).trans en_6_6) ?_
    refine Tr.iconst (pc := 15) d_X5_takeClosing_15 (by decide) ?_
    refine Tr.isub (pc := 16) d_X5_takeClosing_16 ?_
    refine Tr.tp 2 (by decide) ?_
    refine Tr.putfS (pc := 17) (P := St Tru ws_X5_takeClosing_6_w21 as_X5_takeClosing_6_w21 M0) d_X5_takeClosing_17 f_5_39 (by decide) (by decide) (ty_6 hS.1.1) (st_6_6 hS (by decide) (by omega) trivial) (fun M17 hS w17 => ?_)
    refine Tr.iconst (pc := 20) d_X5_takeClosing_20 (by decide) ?_
    exact Tr.zret (pc := 21) d_X5_takeClosing_21 rfl (by omega) ⟨hS, _, rfl, by omega, by omega, fun _ => w17.1⟩
  · refine Tr.iconst (pc := 8) d_X5_takeClosing_8 (by decide) ?_
    exact Tr.zret (pc := 9) d_X5_takeClosing_9 rfl (by omega) ⟨hS, _, rfl, by omega, by omega, fun hq => absurd hq (by omega)⟩

def ws_X5_takeClosing_6_w22 : List (Int × Int) := [(6, 0), (6, 1), (6, 5), (6, 6)]
def as_X5_takeClosing_6_w22 : List Int := []
def q_X5_takeClosing_6_w22 (M0 M' : Mem) (r : Option PV) : Prop := St Tru ws_X5_takeClosing_6_w22 as_X5_takeClosing_6_w22 M0 M' ∧ ∃ v : Int, r = some (0, v) ∧ 0 ≤ v ∧ v ≤ 1 ∧ ((1 ≤ v ∧ v ≤ 1) → rd M' 6 6 = 1)
set_option maxRecDepth 100000 in
set_option maxHeartbeats 4000000 in
theorem sp_X5_takeClosing_6_w22 {l : Launch} {K : EC} {M0 : Mem} (hI : In Tru M0) (en_6_2 : rd M0 6 2 = 2) (en_6_6 : rd M0 6 6 = 2) (a1 : Int) (ha1 : 123 ≤ a1 ∧ a1 ≤ 161)  : Tr l K 2 mX5_takeClosing 0 [(0, (2, 6)), (1, (0, a1))] [] M0 (q_X5_takeClosing_6_w22 M0) := by
  have hS : St Tru ws_X5_takeClosing_6_w22 as_X5_takeClosing_6_w22 M0 M0 := St.rf hI
  refine Tr.aload_n (pc := 0) (i := 0) d_X5_takeClosing_0 rfl rfl ?_
  refine Tr.iload_n (pc := 1) (i := 1) d_X5_takeClosing_1 rfl rfl ?_
  refine Tr.callV (pc := 2) (as := [_]) d_X5_takeClosing_2 s_5_81 ok_X5_takeSign rfl rfl (Nat.le_of_ble_eq_true rfl) (Nat.le_of_ble_eq_true rfl) (by decide) (ty_6 hS.1.1) ?_
  refine Tr.imp (Tr.deep (by decide) (sp_X5_takeSign_6_w4 hS.1 ((St.kp hS (by decide) (by decide) (by decide)).trans en_6_2) a1 (by omega))) ?_
  rintro M2 _ ⟨h2, r2, rfl, lr2, ur2⟩
  have hS := St.tr hS h2 (by decide) (by decide)
  refine Tr.sc [(0, r2)] rfl ?_
  refine Tr.if_ne (pc := 5) (tgt := 10) d_X5_takeClosing_5 rfl (fun c5 => ?_) (fun c5 => ?_)
  · refine Tr.aload_n (pc := 10) (i := 0) d_X5_takeClosing_10 rfl rfl ?_
    refine Tr.dup (pc := 11) d_X5_takeClosing_11 ne21 ?_
    refine Tr.getf (pc := 12) d_X5_takeClosing_12 f_5_39 (by decide) (by decide) (ty_6 hS.1.1) ?_
    refine Tr.tp 2 ((St.kp h2 (by decide) (by decide) (by decide)).trans en_6_6) ?_
    refine Tr.iconst (pc := 15) d_X5_takeClosing_15 (by decide) ?_
    refine Tr.isub (pc := 16) d_X5_takeClosing_16 ?_
    refine Tr.tp 1 (by decide) ?_
    refine Tr.putfS (pc := 17) (P := St Tru ws_X5_takeClosing_6_w22 as_X5_takeClosing_6_w22 M0) d_X5_takeClosing_17 f_5_39 (by decide) (by decide) (ty_6 hS.1.1) (st_6_6 hS (by decide) (by omega) trivial) (fun M17 hS w17 => ?_)
    refine Tr.iconst (pc := 20) d_X5_takeClosing_20 (by decide) ?_
    exact Tr.zret (pc := 21) d_X5_takeClosing_21 rfl (by omega) ⟨hS, _, rfl, by omega, by omega, fun _ => w17.1⟩
  · refine Tr.iconst (pc := 8) d_X5_takeClosing_8 (by decide) ?_
    exact Tr.zret (pc := 9) d_X5_takeClosing_9 rfl (by omega) ⟨hS, _, rfl, by omega, by omega, fun hq => absurd hq (by omega)⟩

def ws_X5_takeClosing_6_w23 : List (Int × Int) := [(6, 0), (6, 1), (6, 5), (6, 6)]
def as_X5_takeClosing_6_w23 : List Int := []
def q_X5_takeClosing_6_w23 (M0 M' : Mem) (r : Option PV) : Prop := St Tru ws_X5_takeClosing_6_w23 as_X5_takeClosing_6_w23 M0 M' ∧ ∃ v : Int, r = some (0, v) ∧ 0 ≤ v ∧ v ≤ 1 ∧ ((1 ≤ v ∧ v ≤ 1) → rd M' 6 6 = 0)
set_option maxRecDepth 100000 in
set_option maxHeartbeats 4000000 in
theorem sp_X5_takeClosing_6_w23 {l : Launch} {K : EC} {M0 : Mem} (hI : In Tru M0) (en_6_2 : rd M0 6 2 = 2) (en_6_6 : rd M0 6 6 = 1) (a1 : Int) (ha1 : 123 ≤ a1 ∧ a1 ≤ 161)  : Tr l K 2 mX5_takeClosing 0 [(0, (2, 6)), (1, (0, a1))] [] M0 (q_X5_takeClosing_6_w23 M0) := by
  have hS : St Tru ws_X5_takeClosing_6_w23 as_X5_takeClosing_6_w23 M0 M0 := St.rf hI
  refine Tr.aload_n (pc := 0) (i := 0) d_X5_takeClosing_0 rfl rfl ?_
  refine Tr.iload_n (pc := 1) (i := 1) d_X5_takeClosing_1 rfl rfl ?_
  refine Tr.callV (pc := 2) (as := [_]) d_X5_takeClosing_2 s_5_81 ok_X5_takeSign rfl rfl (Nat.le_of_ble_eq_true rfl) (Nat.le_of_ble_eq_true rfl) (by decide) (ty_6 hS.1.1) ?_
  refine Tr.imp (Tr.deep (by decide) (sp_X5_takeSign_6_w4 hS.1 ((St.kp hS (by decide) (by decide) (by decide)).trans en_6_2) a1 (by omega))) ?_
  rintro M2 _ ⟨h2, r2, rfl, lr2, ur2⟩
  have hS := St.tr hS h2 (by decide) (by decide)
  refine Tr.sc [(0, r2)] rfl ?_
  refine Tr.if_ne (pc := 5) (tgt := 10) d_X5_takeClosing_5 rfl (fun c5 => ?_) (fun c5 => ?_)
  · refine Tr.aload_n (pc := 10) (i := 0) d_X5_takeClosing_10 rfl rfl ?_
    refine Tr.dup (pc := 11) d_X5_takeClosing_11 ne21 ?_
    refine Tr.getf (pc := 12) d_X5_takeClosing_12 f_5_39 (by decide) (by decide) (ty_6 hS.1.1) ?_
    refine Tr.tp 1 ((St.kp h2 (by decide) (by decide) (by decide)).trans en_6_6) ?_
    refine Tr.iconst (pc := 15) d_X5_takeClosing_15 (by decide) ?_
    refine Tr.isub (pc := 16) d_X5_takeClosing_16 ?_
    refine Tr.tp 0 (by decide) ?_
    refine Tr.putfS (pc := 17) (P := St Tru ws_X5_takeClosing_6_w23 as_X5_takeClosing_6_w23 M0) d_X5_takeClosing_17 f_5_39 (by decide) (by decide) (ty_6 hS.1.1) (st_6_6 hS (by decide) (by omega) trivial) (fun M17 hS w17 => ?_)
    refine Tr.iconst (pc := 20) d_X5_takeClosing_20 (by decide) ?_
    exact Tr.zret (pc := 21) d_X5_takeClosing_21 rfl (by omega) ⟨hS, _, rfl, by omega, by omega, fun _ => w17.1⟩
  · refine Tr.iconst (pc := 8) d_X5_takeClosing_8 (by decide) ?_
    exact Tr.zret (pc := 9) d_X5_takeClosing_9 rfl (by omega) ⟨hS, _, rfl, by omega, by omega, fun hq => absurd hq (by omega)⟩

def ws_X4_behind_35_w13 : List (Int × Int) := []
def as_X4_behind_35_w13 : List Int := []
def q_X4_behind_35_w13 (M0 M' : Mem) (r : Option PV) : Prop := St Tru ws_X4_behind_35_w13 as_X4_behind_35_w13 M0 M' ∧ ∃ v : Int, r = some (0, v) ∧ 0 ≤ v ∧ v ≤ 60
set_option maxRecDepth 100000 in
set_option maxHeartbeats 4000000 in
theorem sp_X4_behind_35_w13 {l : Launch} {K : EC} {M0 : Mem} (hI : In Tru M0)  (a1 : Int) (ha1 : 0 ≤ a1 ∧ a1 ≤ 59)  : Tr l K 0 mX4_behind 0 [(0, (2, 35)), (1, (0, a1))] [] M0 (q_X4_behind_35_w13 M0) := by
  have hS : St Tru ws_X4_behind_35_w13 as_X4_behind_35_w13 M0 M0 := St.rf hI
  refine Tr.aload_n (pc := 0) (i := 0) d_X4_behind_0 rfl rfl ?_
  refine Tr.getf (pc := 1) d_X4_behind_1 f_4_27 (by decide) (by decide) (ty_35 hS.1.1) ?_
  refine Tr.tp 41 (fx_35_6 hS.1.1) ?_
  refine Tr.iload_n (pc := 4) (i := 1) d_X4_behind_4 rfl rfl ?_
  refine Tr.iald (pc := 5) d_X4_behind_5 (ty_41 hS.1.1) (by omega) (by omega) ?_
  refine Tr.gen (P := fun v => (-1) ≤ v ∧ v ≤ 59) (ar_41 hS.1.2.1 _) (fun r5 er5 br5 => ?_)
  refine Tr.if_lt (pc := 6) (tgt := 16) d_X4_behind_6 rfl (fun c6 => ?_) (fun c6 => ?_)
  · refine Tr.aload_n (pc := 16) (i := 0) d_X4_behind_16 rfl rfl ?_
    refine Tr.getf (pc := 17) d_X4_behind_17 f_4_30 (by decide) (by decide) (ty_35 hS.1.1) ?_
    refine Tr.tp 42 (fx_35_7 hS.1.1) ?_
    refine Tr.iload_n (pc := 20) (i := 1) d_X4_behind_20 rfl rfl ?_
    refine Tr.iald (pc := 21) d_X4_behind_21 (ty_42 hS.1.1) (by omega) (by omega) ?_
    refine Tr.gen (P := fun v => (-1) ≤ v ∧ v ≤ 59) (ar_42 hS.1.2.1 _) (fun r21 er21 br21 => ?_)
    refine Tr.istore_n (pc := 22) (i := 2) (ls2 := [(2, (0, r21)), (0, (2, 35)), (1, (0, a1))]) d_X4_behind_22 rfl (by decide) rfl ?_
    refine Tr.iload_n (pc := 23) (i := 2) d_X4_behind_23 rfl rfl ?_
    refine Tr.if_ge (pc := 24) (tgt := 32) d_X4_behind_24 rfl (fun c24 => ?_) (fun c24 => ?_)
    · refine Tr.aload_n (pc := 32) (i := 0) d_X4_behind_32 rfl rfl ?_
      refine Tr.getf (pc := 33) d_X4_behind_33 f_4_9 (by decide) (by decide) (ty_35 hS.1.1) ?_
      refine Tr.tp 36 (fx_35_1 hS.1.1) ?_
      refine Tr.iload_n (pc := 36) (i := 2) d_X4_behind_36 rfl rfl ?_
      refine Tr.iald (pc := 37) d_X4_behind_37 (ty_36 hS.1.1) (by omega) (by omega) ?_
      refine Tr.gen (P := fun v => (-2147483648) ≤ v ∧ v ≤ 2147483647) (ar_36 hS.1.2.1 _) (fun r37 er37 br37 => ?_)
      refine Tr.bipush (pc := 38) d_X4_behind_38 rfl (by decide) ?_
      refine Tr.icmp_ne (pc := 40) (tgt := 47) d_X4_behind_40 rfl (fun c40 => ?_) (fun c40 => ?_)
      · refine Tr.aload_n (pc := 47) (i := 0) d_X4_behind_47 rfl rfl ?_
        refine Tr.getf (pc := 48) d_X4_behind_48 f_4_33 (by decide) (by decide) (ty_35 hS.1.1) ?_
        refine Tr.tp 43 (fx_35_8 hS.1.1) ?_
        refine Tr.iload_n (pc := 51) (i := 2) d_X4_behind_51 rfl rfl ?_
        refine Tr.iald (pc := 52) d_X4_behind_52 (ty_43 hS.1.1) (by omega) (by omega) ?_
        refine Tr.gen (P := fun v => 0 ≤ v ∧ v ≤ 60) (ar_43 hS.1.2.1 _) (fun r52 er52 br52 => ?_)
        exact Tr.iret (pc := 53) d_X4_behind_53 rfl ⟨hS, _, rfl, by omega, by omega⟩
      · refine Tr.iload_n (pc := 43) (i := 2) d_X4_behind_43 rfl rfl ?_
        refine Tr.goto (pc := 44) (tgt := 53) d_X4_behind_44 rfl ?_
        exact Tr.iret (pc := 53) d_X4_behind_53 rfl ⟨hS, _, rfl, by omega, by omega⟩
    · refine Tr.aload_n (pc := 27) (i := 0) d_X4_behind_27 rfl rfl ?_
      refine Tr.getf (pc := 28) d_X4_behind_28 f_4_45 (by decide) (by decide) (ty_35 hS.1.1) ?_
      refine Tr.gen (P := fun v => 0 ≤ v ∧ v ≤ 60) (ir_35_0 hS.1.2.1) (fun r28 er28 br28 => ?_)
      exact Tr.iret (pc := 31) d_X4_behind_31 rfl ⟨hS, _, rfl, by omega, by omega⟩
  · refine Tr.aload_n (pc := 9) (i := 0) d_X4_behind_9 rfl rfl ?_
    refine Tr.getf (pc := 10) d_X4_behind_10 f_4_27 (by decide) (by decide) (ty_35 hS.1.1) ?_
    refine Tr.tp 41 (fx_35_6 hS.1.1) ?_
    refine Tr.iload_n (pc := 13) (i := 1) d_X4_behind_13 rfl rfl ?_
    refine Tr.iald (pc := 14) d_X4_behind_14 (ty_41 hS.1.1) (by omega) (by omega) ?_
    refine Tr.tp r5 er5 ?_
    exact Tr.iret (pc := 15) d_X4_behind_15 rfl ⟨hS, _, rfl, by omega, by omega⟩
