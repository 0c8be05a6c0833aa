def ws_X5_takeOpening_6_w23 : List (Int × Int) := [(6, 0), (6, 1), (6, 5), (6, 6)]
def as_X5_takeOpening_6_w23 : List Int := []
def q_X5_takeOpening_6_w23 (M0 M' : Mem) (r : Option PV) : Prop := St Tru ws_X5_takeOpening_6_w23 as_X5_takeOpening_6_w23 M0 M' ∧ ∃ v : Int, r = some (0, v) ∧ 0 ≤ v ∧ v ≤ 1 ∧ ((1 ≤ v ∧ v ≤ 1) → rd M' 6 6 = 6)
set_option maxRecDepth 100000 in
set_option maxHeartbeats 4000000 in
theorem sp_X5_takeOpening_6_w23 {l : Launch} {K : EC} {M0 : Mem} (hI : In Tru M0) (en_6_2 : rd M0 6 2 = 2) (en_6_6 : rd M0 6 6 = 5) (a1 : Int) (ha1 : 123 ≤ a1 ∧ a1 ≤ 123)  : Tr l K 1 mX5_takeOpening 0 [(0, (2, 6)), (1, (0, a1))] [] M0 (q_X5_takeOpening_6_w23 M0) := by
  have hS : St Tru ws_X5_takeOpening_6_w23 as_X5_takeOpening_6_w23 M0 M0 := St.rf hI
  refine Tr.aload_n (pc := 0) (i := 0) d_X5_takeOpening_0 rfl rfl ?_
  refine Tr.iload_n (pc := 1) (i := 1) d_X5_takeOpening_1 rfl rfl ?_
  refine Tr.tp 123 (by omega) ?_
  refine Tr.callV (pc := 2) (as := [_]) d_X5_takeOpening_2 s_5_77 ok_X5_isSign rfl rfl (Nat.le_of_ble_eq_true rfl) (Nat.le_of_ble_eq_true rfl) (by decide) (ty_6 hS.1.1) ?_
  refine Tr.imp (Tr.deep (by decide) (sp_X5_isSign_6_w5 hS.1 ((St.kp hS (by decide) (by decide) (by decide)).trans en_6_2) 123 (by omega))) ?_
  rintro M2 _ ⟨h2, r2, rfl, lr2, ur2⟩
  have hS := St.tr hS h2 (by decide) (by decide)
  refine Tr.sc [(0, r2)] rfl ?_
  refine Tr.if_ne (pc := 5) (tgt := 14) d_X5_takeOpening_5 rfl (fun c5 => ?_) (fun c5 => ?_)
  · refine Tr.aload_n (pc := 14) (i := 0) d_X5_takeOpening_14 rfl rfl ?_
    refine Tr.getf (pc := 15) d_X5_takeOpening_15 f_5_39 (by decide) (by decide) (ty_6 hS.1.1) ?_
    refine Tr.tp 5 ((St.kp h2 (by decide) (by decide) (by decide)).trans en_6_6) ?_
    refine Tr.bipush (pc := 18) d_X5_takeOpening_18 rfl (by decide) ?_
    refine Tr.icmp_ne (pc := 20) (tgt := 29) d_X5_takeOpening_20 rfl (fun _ => ?_) (fun hc => absurd hc (by omega))
    refine Tr.aload_n (pc := 29) (i := 0) d_X5_takeOpening_29 rfl rfl ?_
    refine Tr.dup (pc := 30) d_X5_takeOpening_30 ne21 ?_
    refine Tr.getf (pc := 31) d_X5_takeOpening_31 f_5_39 (by decide) (by decide) (ty_6 hS.1.1) ?_
    refine Tr.tp 5 ((St.kp h2 (by decide) (by decide) (by decide)).trans en_6_6) ?_
    refine Tr.iconst (pc := 34) d_X5_takeOpening_34 (by decide) ?_
    refine Tr.iadd (pc := 35) d_X5_takeOpening_35 ?_
    refine Tr.tp 6 (by decide) ?_
    refine Tr.putfS (pc := 36) (P := St Tru ws_X5_takeOpening_6_w23 as_X5_takeOpening_6_w23 M0) d_X5_takeOpening_36 f_5_39 (by decide) (by decide) (ty_6 hS.1.1) (st_6_6 hS (by decide) (by omega) trivial) (fun M36 hS w36 => ?_)
    refine Tr.aload_n (pc := 39) (i := 0) d_X5_takeOpening_39 rfl rfl ?_
    refine Tr.callV (pc := 40) (as := []) d_X5_takeOpening_40 s_5_74 ok_X5_goOn rfl rfl (Nat.le_of_ble_eq_true rfl) (Nat.le_of_ble_eq_true rfl) (by decide) (ty_6 hS.1.1) ?_
    refine Tr.imp (Tr.deep (by decide) (sp_X5_goOn_6 hS.1 )) ?_
    rintro M40 _ ⟨h40, r40, rfl, lr40, ur40⟩
    have hS := St.tr hS h40 (by decide) (by decide)
    refine Tr.sc [(0, r40)] rfl ?_
    exact Tr.zret (pc := 43) d_X5_takeOpening_43 rfl (by omega) ⟨hS, _, rfl, by omega, by omega, fun _ => ((St.kp h40 (by decide) (by decide) (by decide)).trans w36.1)⟩
  · refine Tr.aload_n (pc := 8) (i := 0) d_X5_takeOpening_8 rfl rfl ?_
    refine Tr.iconst (pc := 9) d_X5_takeOpening_9 (by decide) ?_
    refine Tr.callV (pc := 10) (as := [_]) d_X5_takeOpening_10 s_5_56 ok_X5_refuse rfl rfl (Nat.le_of_ble_eq_true rfl) (Nat.le_of_ble_eq_true rfl) (by decide) (ty_6 hS.1.1) ?_
    refine Tr.imp (Tr.deep (by decide) (sp_X5_refuse_6_w1 hS.1 ((St.kp hS (by decide) (by decide) (by decide)).trans en_6_2) 1 (by omega))) ?_
    rintro M10 _ ⟨h10, r10, rfl, lr10, ur10⟩
    have hS := St.tr hS h10 (by decide) (by decide)
    refine Tr.sc [(0, r10)] rfl ?_
    exact Tr.zret (pc := 13) d_X5_takeOpening_13 rfl (by omega) ⟨hS, _, rfl, by omega, by omega, fun hq => absurd hq (by omega)⟩

def ws_X5_takeOpening_6_w24 : List (Int × Int) := [(6, 0), (6, 1), (6, 5), (6, 6)]
def as_X5_takeOpening_6_w24 : List Int := []
def q_X5_takeOpening_6_w24 (M0 M' : Mem) (r : Option PV) : Prop := St Tru ws_X5_takeOpening_6_w24 as_X5_takeOpening_6_w24 M0 M' ∧ ∃ v : Int, r = some (0, v) ∧ 0 ≤ v ∧ v ≤ 1 ∧ ((1 ≤ v ∧ v ≤ 1) → rd M' 6 6 = 7)
set_option maxRecDepth 100000 in
set_option maxHeartbeats 4000000 in
theorem sp_X5_takeOpening_6_w24 {l : Launch} {K : EC} {M0 : Mem} (hI : In Tru M0) (en_6_2 : rd M0 6 2 = 2) (en_6_6 : rd M0 6 6 = 6) (a1 : Int) (ha1 : 123 ≤ a1 ∧ a1 ≤ 123)  : Tr l K 1 mX5_takeOpening 0 [(0, (2, 6)), (1, (0, a1))] [] M0 (q_X5_takeOpening_6_w24 M0) := by
  have hS : St Tru ws_X5_takeOpening_6_w24 as_X5_takeOpening_6_w24 M0 M0 := St.rf hI
  refine Tr.aload_n (pc := 0) (i := 0) d_X5_takeOpening_0 rfl rfl ?_
  refine Tr.iload_n (pc := 1) (i := 1) d_X5_takeOpening_1 rfl rfl ?_
  refine Tr.tp 123 (by omega) ?_
  refine Tr.callV (pc := 2) (as := [_]) d_X5_takeOpening_2 s_5_77 ok_X5_isSign rfl rfl (Nat.le_of_ble_eq_true rfl) (Nat.le_of_ble_eq_true rfl) (by decide) (ty_6 hS.1.1) ?_
  refine Tr.imp (Tr.deep (by decide) (sp_X5_isSign_6_w5 hS.1 ((St.kp hS (by decide) (by decide) (by decide)).trans en_6_2) 123 (by omega))) ?_
  rintro M2 _ ⟨h2, r2, rfl, lr2, ur2⟩
  have hS := St.tr hS h2 (by decide) (by decide)
  refine Tr.sc [(0, r2)] rfl ?_
  refine Tr.if_ne (pc := 5) (tgt := 14) d_X5_takeOpening_5 rfl (fun c5 => ?_) (fun c5 => ?_)
  · refine Tr.aload_n (pc := 14) (i := 0) d_X5_takeOpening_14 rfl rfl ?_
    refine Tr.getf (pc := 15) d_X5_takeOpening_15 f_5_39 (by decide) (by decide) (ty_6 hS.1.1) ?_
    refine Tr.tp 6 ((St.kp h2 (by decide) (by decide) (by decide)).trans en_6_6) ?_
    refine Tr.bipush (pc := 18) d_X5_takeOpening_18 rfl (by decide) ?_
    refine Tr.icmp_ne (pc := 20) (tgt := 29) d_X5_takeOpening_20 rfl (fun _ => ?_) (fun hc => absurd hc (by omega))
    refine Tr.aload_n (pc := 29) (i := 0) d_X5_takeOpening_29 rfl rfl ?_
    refine Tr.dup (pc := 30) d_X5_takeOpening_30 ne21 ?_
    refine Tr.getf (pc := 31) d_X5_takeOpening_31 f_5_39 (by decide) (by decide) (ty_6 hS.1.1) ?_
    refine Tr.tp 6 ((St.kp h2 (by decide) (by decide) (by decide)).trans en_6_6) ?_
    refine Tr.iconst (pc := 34) d_X5_takeOpening_34 (by decide) ?_
    refine Tr.iadd (pc := 35) d_X5_takeOpening_35 ?_
    refine Tr.tp 7 (by decide) ?_
    refine Tr.putfS (pc := 36) (P := St Tru ws_X5_takeOpening_6_w24 as_X5_takeOpening_6_w24 M0) d_X5_takeOpening_36 f_5_39 (by decide) (by decide) (ty_6 hS.1.1) (st_6_6 hS (by decide) (by omega) trivial) (fun M36 hS w36 => ?_)
    refine Tr.aload_n (pc := 39) (i := 0) d_X5_takeOpening_39 rfl rfl ?_
    refine Tr.callV (pc := 40) (as := []) d_X5_takeOpening_40 s_5_74 ok_X5_goOn rfl rfl (Nat.le_of_ble_eq_true rfl) (Nat.le_of_ble_eq_true rfl) (by decide) (ty_6 hS.1.1) ?_
    refine Tr.imp (Tr.deep (by decide) (sp_X5_goOn_6 hS.1 )) ?_
    rintro M40 _ ⟨h40, r40, rfl, lr40, ur40⟩
    have hS := St.tr hS h40 (by decide) (by decide)
    refine Tr.sc [(0, r40)] rfl ?_
    exact Tr.zret (pc := 43) d_X5_takeOpening_43 rfl (by omega) ⟨hS, _, rfl, by omega, by omega, fun _ => ((St.kp h40 (by decide) (by decide) (by decide)).trans w36.1)⟩
  · refine Tr.aload_n (pc := 8) (i := 0) d_X5_takeOpening_8 rfl rfl ?_
    refine Tr.iconst (pc := 9) d_X5_takeOpening_9 (by decide) ?_
    refine Tr.callV (pc := 10) (as := [_]) d_X5_takeOpening_10 s_5_56 ok_X5_refuse rfl rfl (Nat.le_of_ble_eq_true rfl) (Nat.le_of_ble_eq_true rfl) (by decide) (ty_6 hS.1.1) ?_
    refine Tr.imp (Tr.deep (by decide) (sp_X5_refuse_6_w1 hS.1 ((St.kp hS (by decide) (by decide) (by decide)).trans en_6_2) 1 (by omega))) ?_
    rintro M10 _ ⟨h10, r10, rfl, lr10, ur10⟩
    have hS := St.tr hS h10 (by decide) (by decide)
    refine Tr.sc [(0, r10)] rfl ?_
    exact Tr.zret (pc := 13) d_X5_takeOpening_13 rfl (by omega) ⟨hS, _, rfl, by omega, by omega, fun hq => absurd hq (by omega)⟩

def ws_X5_takeOpening_6_w25 : List (Int × Int) := [(6, 0), (6, 1), (6, 5), (6, 6)]
def as_X5_takeOpening_6_w25 : List Int := []
def q_X5_takeOpening_6_w25 (M0 M' : Mem) (r : Option PV) : Prop := St Tru ws_X5_takeOpening_6_w25 as_X5_takeOpening_6_w25 M0 M' ∧ ∃ v : Int, r = some (0, v) ∧ 0 ≤ v ∧ v ≤ 1 ∧ ((1 ≤ v ∧ v ≤ 1) → rd M' 6 6 = 8)
set_option maxRecDepth 100000 in
set_option maxHeartbeats 4000000 in
theorem sp_X5_takeOpening_6_w25 {l : Launch} {K : EC} {M0 : Mem} (hI : In Tru M0) (en_6_2 : rd M0 6 2 = 2) (en_6_6 : rd M0 6 6 = 7) (a1 : Int) (ha1 : 123 ≤ a1 ∧ a1 ≤ 123)  : Tr l K 1 mX5_takeOpening 0 [(0, (2, 6)), (1, (0, a1))] [] M0 (q_X5_takeOpening_6_w25 M0) := by
  have hS : St Tru ws_X5_takeOpening_6_w25 as_X5_takeOpening_6_w25 M0 M0 := St.rf hI
  refine Tr.aload_n (pc := 0) (i := 0) d_X5_takeOpening_0 rfl rfl ?_
  refine Tr.iload_n (pc := 1) (i := 1) d_X5_takeOpening_1 rfl rfl ?_
  refine Tr.tp 123 (by omega) ?_
  refine Tr.callV (pc := 2) (as := [_]) d_X5_takeOpening_2 s_5_77 ok_X5_isSign rfl rfl (Nat.le_of_ble_eq_true rfl) (Nat.le_of_ble_eq_true rfl) (by decide) (ty_6 hS.1.1) ?_
  refine Tr.imp (Tr.deep (by decide) (sp_X5_isSign_6_w5 hS.1 ((St.kp hS (by decide) (by decide) (by decide)).trans en_6_2) 123 (by omega))) ?_
  rintro M2 _ ⟨h2, r2, rfl, lr2, ur2⟩
  have hS := St.tr hS h2 (by decide) (by decide)
  refine Tr.sc [(0, r2)] rfl ?_
  refine Tr.if_ne (pc := 5) (tgt := 14) d_X5_takeOpening_5 rfl (fun c5 => ?_) (fun c5 => ?_)
  · refine Tr.aload_n (pc := 14) (i := 0) d_X5_takeOpening_14 rfl rfl ?_
    refine Tr.getf (pc := 15) d_X5_takeOpening_15 f_5_39 (by decide) (by decide) (ty_6 hS.1.1) ?_
    refine Tr.tp 7 ((St.kp h2 (by decide) (by decide) (by decide)).trans en_6_6) ?_
    refine Tr.bipush (pc := 18) d_X5_takeOpening_18 rfl (by decide) ?_
    refine Tr.icmp_ne (pc := 20) (tgt := 29) d_X5_takeOpening_20 rfl (fun _ => ?_) (fun hc => absurd hc (by omega))
    refine Tr.aload_n (pc := 29) (i := 0) d_X5_takeOpening_29 rfl rfl ?_
    refine Tr.dup (pc := 30) d_X5_takeOpening_30 ne21 ?_
    refine Tr.getf (pc := 31) d_X5_takeOpening_31 f_5_39 (by decide) (by decide) (ty_6 hS.1.1) ?_
    refine Tr.tp 7 ((St.kp h2 (by decide) (by decide) (by decide)).trans en_6_6) ?_
    refine Tr.iconst (pc := 34) d_X5_takeOpening_34 (by decide) ?_
    refine Tr.iadd (pc := 35) d_X5_takeOpening_35 ?_
    refine Tr.tp 8 (by decide) ?_
    refine Tr.putfS (pc := 36) (P := St Tru ws_X5_takeOpening_6_w25 as_X5_takeOpening_6_w25 M0) d_X5_takeOpening_36 f_5_39 (by decide) (by decide) (ty_6 hS.1.1) (st_6_6 hS (by decide) (by omega) trivial) (fun M36 hS w36 => ?_)
    refine Tr.aload_n (pc := 39) (i := 0) d_X5_takeOpening_39 rfl rfl ?_
    refine Tr.callV (pc := 40) (as := []) d_X5_takeOpening_40 s_5_74 ok_X5_goOn rfl rfl (Nat.le_of_ble_eq_true rfl) (Nat.le_of_ble_eq_true rfl) (by decide) (ty_6 hS.1.1) ?_
    refine Tr.imp (Tr.deep (by decide) (sp_X5_goOn_6 hS.1 )) ?_
    rintro M40 _ ⟨h40, r40, rfl, lr40, ur40⟩
    have hS := St.tr hS h40 (by decide) (by decide)
    refine Tr.sc [(0, r40)] rfl ?_
    exact Tr.zret (pc := 43) d_X5_takeOpening_43 rfl (by omega) ⟨hS, _, rfl, by omega, by omega, fun _ => ((St.kp h40 (by decide) (by decide) (by decide)).trans w36.1)⟩
  · refine Tr.aload_n (pc := 8) (i := 0) d_X5_takeOpening_8 rfl rfl ?_
    refine Tr.iconst (pc := 9) d_X5_takeOpening_9 (by decide) ?_
    refine Tr.callV (pc := 10) (as := [_]) d_X5_takeOpening_10 s_5_56 ok_X5_refuse rfl rfl (Nat.le_of_ble_eq_true rfl) (Nat.le_of_ble_eq_true rfl) (by decide) (ty_6 hS.1.1) ?_
    refine Tr.imp (Tr.deep (by decide) (sp_X5_refuse_6_w1 hS.1 ((St.kp hS (by decide) (by decide) (by decide)).trans en_6_2) 1 (by omega))) ?_
    rintro M10 _ ⟨h10, r10, rfl, lr10, ur10⟩
    have hS := St.tr hS h10 (by decide) (by decide)
    refine Tr.sc [(0, r10)] rfl ?_
    exact Tr.zret (pc := 13) d_X5_takeOpening_13 rfl (by omega) ⟨hS, _, rfl, by omega, by omega, fun hq => absurd hq (by omega)⟩

def ws_X5_takeOpening_6_w26 : List (Int × Int) := [(6, 0), (6, 1)]
def as_X5_takeOpening_6_w26 : List Int := []
def q_X5_takeOpening_6_w26 (M0 M' : Mem) (r : Option PV) : Prop := St Tru ws_X5_takeOpening_6_w26 as_X5_takeOpening_6_w26 M0 M' ∧ ∃ v : Int, r = some (0, v) ∧ 0 ≤ v ∧ v ≤ 0
set_option maxRecDepth 100000 in
set_option maxHeartbeats 4000000 in
theorem sp_X5_takeOpening_6_w26 {l : Launch} {K : EC} {M0 : Mem} (hI : In Tru M0) (en_6_2 : rd M0 6 2 = 2) (en_6_6 : rd M0 6 6 = 8) (a1 : Int) (ha1 : 123 ≤ a1 ∧ a1 ≤ 123)  : Tr l K 1 mX5_takeOpening 0 [(0, (2, 6)), (1, (0, a1))] [] M0 (q_X5_takeOpening_6_w26 M0) := by
  have hS : St Tru ws_X5_takeOpening_6_w26 as_X5_takeOpening_6_w26 M0 M0 := St.rf hI
  refine Tr.aload_n (pc := 0) (i := 0) d_X5_takeOpening_0 rfl rfl ?_
  refine Tr.iload_n (pc := 1) (i := 1) d_X5_takeOpening_1 rfl rfl ?_
  refine Tr.tp 123 (by omega) ?_
  refine Tr.callV (pc := 2) (as := [_]) d_X5_takeOpening_2 s_5_77 ok_X5_isSign rfl rfl (Nat.le_of_ble_eq_true rfl) (Nat.le_of_ble_eq_true rfl) (by decide) (ty_6 hS.1.1) ?_
  refine Tr.imp (Tr.deep (by decide) (sp_X5_isSign_6_w5 hS.1 ((St.kp hS (by decide) (by decide) (by decide)).trans en_6_2) 123 (by omega))) ?_
  rintro M2 _ ⟨h2, r2, rfl, lr2, ur2⟩
  have hS := St.tr hS h2 (by decide) (by decide)
  refine Tr.sc [(0, r2)] rfl ?_
  refine Tr.if_ne (pc := 5) (tgt := 14) d_X5_takeOpening_5 rfl (fun c5 => ?_) (fun c5 => ?_)
  · refine Tr.aload_n (pc := 14) (i := 0) d_X5_takeOpening_14 rfl rfl ?_
    refine Tr.getf (pc := 15) d_X5_takeOpening_15 f_5_39 (by decide) (by decide) (ty_6 hS.1.1) ?_
    refine Tr.tp 8 ((St.kp h2 (by decide) (by decide) (by decide)).trans en_6_6) ?_
    refine Tr.bipush (pc := 18) d_X5_takeOpening_18 rfl (by decide) ?_
    refine Tr.icmp_ne (pc := 20) (tgt := 29) d_X5_takeOpening_20 rfl (fun hc => absurd (by omega) hc) (fun _ => ?_)
    refine Tr.aload_n (pc := 23) (i := 0) d_X5_takeOpening_23 rfl rfl ?_
    refine Tr.iconst (pc := 24) d_X5_takeOpening_24 (by decide) ?_
    refine Tr.callV (pc := 25) (as := [_]) d_X5_takeOpening_25 s_5_56 ok_X5_refuse rfl rfl (Nat.le_of_ble_eq_true rfl) (Nat.le_of_ble_eq_true rfl) (by decide) (ty_6 hS.1.1) ?_
    refine Tr.imp (Tr.deep (by decide) (sp_X5_refuse_6_w2 hS.1 ((St.kp hS (by decide) (by decide) (by decide)).trans en_6_2) 5 (by omega))) ?_
    rintro M25 _ ⟨h25, r25, rfl, lr25, ur25⟩
    have hS := St.tr hS h25 (by decide) (by decide)
    refine Tr.sc [(0, r25)] rfl ?_
    exact Tr.zret (pc := 28) d_X5_takeOpening_28 rfl (by omega) ⟨hS, _, rfl, by omega, by omega⟩
  · refine Tr.aload_n (pc := 8) (i := 0) d_X5_takeOpening_8 rfl rfl ?_
    refine Tr.iconst (pc := 9) d_X5_takeOpening_9 (by decide) ?_
    refine Tr.callV (pc := 10) (as := [_]) d_X5_takeOpening_10 s_5_56 ok_X5_refuse rfl rfl (Nat.le_of_ble_eq_true rfl) (Nat.le_of_ble_eq_true rfl) (by decide) (ty_6 hS.1.1) ?_
    refine Tr.imp (Tr.deep (by decide) (sp_X5_refuse_6_w1 hS.1 ((St.kp hS (by decide) (by decide) (by decide)).trans en_6_2) 1 (by omega))) ?_
    rintro M10 _ ⟨h10, r10, rfl, lr10, ur10⟩
    have hS := St.tr hS h10 (by decide) (by decide)
    refine Tr.sc [(0, r10)] rfl ?_
    exact Tr.zret (pc := 13) d_X5_takeOpening_13 rfl (by omega) ⟨hS, _, rfl, by omega, by omega⟩

def ws_X5_block_6_w8 : List (Int × Int) := [(6, 0), (6, 1)]
def as_X5_block_6_w8 : List Int := []
def q_X5_block_6_w8 (M0 M' : Mem) (r : Option PV) : Prop := St Tru ws_X5_block_6_w8 as_X5_block_6_w8 M0 M' ∧ ∃ v : Int, r = some (0, v) ∧ (-2) ≤ v ∧ v ≤ (-2)
set_option maxRecDepth 100000 in
set_option maxHeartbeats 4000000 in
theorem sp_X5_block_6_w8 {l : Launch} {K : EC} {M0 : Mem} (hI : In Tru M0) (en_6_2 : rd M0 6 2 = 2) (en_6_6 : rd M0 6 6 = 8) (a1 : Int) (ha1 : 0 ≤ a1 ∧ a1 ≤ 59)  : Tr l K 2 mX5_block 0 [(0, (2, 6)), (1, (0, a1))] [] M0 (q_X5_block_6_w8 M0) := by
  have hS : St Tru ws_X5_block_6_w8 as_X5_block_6_w8 M0 M0 := St.rf hI
  refine Tr.aload_n (pc := 0) (i := 0) d_X5_block_0 rfl rfl ?_
  refine Tr.bipush (pc := 1) d_X5_block_1 rfl (by decide) ?_
  refine Tr.callV (pc := 3) (as := [_]) d_X5_block_3 s_5_206 ok_X5_takeOpening rfl rfl (Nat.le_of_ble_eq_true rfl) (Nat.le_of_ble_eq_true rfl) (by decide) (ty_6 hS.1.1) ?_
  refine Tr.imp (Tr.deep (by decide) (sp_X5_takeOpening_6_w26 hS.1 ((St.kp hS (by decide) (by decide) (by decide)).trans en_6_2) en_6_6 123 (by omega))) ?_
  rintro M3 _ ⟨h3, r3, rfl, lr3, ur3⟩
  have hS := St.tr hS h3 (by decide) (by decide)
  refine Tr.sc [(0, r3)] rfl ?_
  refine Tr.if_ne (pc := 6) (tgt := 12) d_X5_block_6 rfl (fun hc => absurd (by omega) hc) (fun _ => ?_)
  refine Tr.bipush (pc := 9) d_X5_block_9 rfl (by decide) ?_
  exact Tr.iret (pc := 11) d_X5_block_11 rfl ⟨hS, _, rfl, by omega, by omega⟩

def ws_X5_yesBlock_6_w8 : List (Int × Int) := [(6, 0), (6, 1)]
def as_X5_yesBlock_6_w8 : List Int := [39]
def q_X5_yesBlock_6_w8 (M0 M' : Mem) (r : Option PV) : Prop := St Tru ws_X5_yesBlock_6_w8 as_X5_yesBlock_6_w8 M0 M' ∧ ∃ v : Int, r = some (0, v) ∧ 0 ≤ v ∧ v ≤ 0
set_option maxRecDepth 100000 in
set_option maxHeartbeats 4000000 in
theorem sp_X5_yesBlock_6_w8 {l : Launch} {K : EC} {M0 : Mem} (hI : In Tru M0) (en_6_2 : rd M0 6 2 = 2) (en_6_4 : rd M0 6 4 = 35) (en_6_6 : rd M0 6 6 = 8) (a1 : Int) (ha1 : 0 ≤ a1 ∧ a1 ≤ 59)  : Tr l K 3 mX5_yesBlock 0 [(0, (2, 6)), (1, (0, a1))] [] M0 (q_X5_yesBlock_6_w8 M0) := by
  have hS : St Tru ws_X5_yesBlock_6_w8 as_X5_yesBlock_6_w8 M0 M0 := St.rf hI
  refine Tr.aload_n (pc := 0) (i := 0) d_X5_yesBlock_0 rfl rfl ?_
  refine Tr.iload_n (pc := 1) (i := 1) d_X5_yesBlock_1 rfl rfl ?_
  refine Tr.callV (pc := 2) (as := [_]) d_X5_yesBlock_2 s_5_197 ok_X5_block rfl rfl (Nat.le_of_ble_eq_true rfl) (Nat.le_of_ble_eq_true rfl) (by decide) (ty_6 hS.1.1) ?_
  refine Tr.imp (Tr.deep (by decide) (sp_X5_block_6_w8 hS.1 ((St.kp hS (by decide) (by decide) (by decide)).trans en_6_2) en_6_6 a1 (by omega))) ?_
  rintro M2 _ ⟨h2, r2, rfl, lr2, ur2⟩
  have hS := St.tr hS h2 (by decide) (by decide)
  refine Tr.sc [(0, r2)] rfl ?_
  refine Tr.istore_n (pc := 5) (i := 2) (ls2 := [(2, (0, r2)), (0, (2, 6)), (1, (0, a1))]) d_X5_yesBlock_5 rfl (by decide) rfl ?_
  refine Tr.aload_n (pc := 6) (i := 0) d_X5_yesBlock_6 rfl rfl ?_
  refine Tr.getf (pc := 7) d_X5_yesBlock_7 f_5_32 (by decide) (by decide) (ty_6 hS.1.1) ?_
  refine Tr.tp 35 ((St.kp hS (by decide) (by decide) (by decide)).trans en_6_4) ?_
  refine Tr.getf (pc := 10) d_X5_yesBlock_10 f_5_200 (by decide) (by decide) (ty_35 hS.1.1) ?_
  refine Tr.tp 39 (fx_35_4 hS.1.1) ?_
  refine Tr.iload_n (pc := 13) (i := 1) d_X5_yesBlock_13 rfl rfl ?_
  refine Tr.iload_n (pc := 14) (i := 2) d_X5_yesBlock_14 rfl rfl ?_
  refine Tr.tp (-2) (by omega) ?_
  refine Tr.iastS (pc := 15) (P := St Tru ws_X5_yesBlock_6_w8 as_X5_yesBlock_6_w8 M0) d_X5_yesBlock_15 (ty_39 hS.1.1) (by omega) (by omega) (sa_39 hS (by decide) (by omega) trivial) (fun M15 hS w15 => ?_)
  refine Tr.iload_n (pc := 16) (i := 2) d_X5_yesBlock_16 rfl rfl ?_
  refine Tr.tp (-2) (by omega) ?_
  refine Tr.bipush (pc := 17) d_X5_yesBlock_17 rfl (by decide) ?_
  refine Tr.icmp_eq (pc := 19) (tgt := 26) d_X5_yesBlock_19 rfl (fun _ => ?_) (fun hc => absurd (by omega) hc)
  refine Tr.iconst (pc := 26) d_X5_yesBlock_26 (by decide) ?_
  exact Tr.zret (pc := 27) d_X5_yesBlock_27 rfl (by omega) ⟨hS, _, rfl, by omega, by omega⟩

def ws_X5_takeSign_6_w3 : List (Int × Int) := [(6, 0), (6, 1), (6, 5)]
def as_X5_takeSign_6_w3 : List Int := []
def q_X5_takeSign_6_w3 (M0 M' : Mem) (r : Option PV) : Prop := St Tru ws_X5_takeSign_6_w3 as_X5_takeSign_6_w3 M0 M' ∧ ∃ v : Int, r = some (0, v) ∧ 0 ≤ v ∧ v ≤ 1
set_option maxRecDepth 100000 in
set_option maxHeartbeats 4000000 in
theorem sp_X5_takeSign_6_w3 {l : Launch} {K : EC} {M0 : Mem} (hI : In Tru M0) (en_6_2 : rd M0 6 2 = 2) (a1 : Int) (ha1 : 61 ≤ a1 ∧ a1 ≤ 61)  : Tr l K 1 mX5_takeSign 0 [(0, (2, 6)), (1, (0, a1))] [] M0 (q_X5_takeSign_6_w3 M0) := by
  have hS : St Tru ws_X5_takeSign_6_w3 as_X5_takeSign_6_w3 M0 M0 := St.rf hI
  refine Tr.aload_n (pc := 0) (i := 0) d_X5_takeSign_0 rfl rfl ?_
  refine Tr.iload_n (pc := 1) (i := 1) d_X5_takeSign_1 rfl rfl ?_
  refine Tr.tp 61 (by omega) ?_
  refine Tr.callV (pc := 2) (as := [_]) d_X5_takeSign_2 s_5_77 ok_X5_isSign rfl rfl (Nat.le_of_ble_eq_true rfl) (Nat.le_of_ble_eq_true rfl) (by decide) (ty_6 hS.1.1) ?_
  refine Tr.imp (Tr.deep (by decide) (sp_X5_isSign_6_w4 hS.1 ((St.kp hS (by decide) (by decide) (by decide)).trans en_6_2) 61 (by omega))) ?_
  rintro M2 _ ⟨h2, r2, rfl, lr2, ur2⟩
  have hS := St.tr hS h2 (by decide) (by decide)
  refine Tr.sc [(0, r2)] rfl ?_
  refine Tr.if_eq (pc := 5) (tgt := 15) d_X5_takeSign_5 rfl (fun c5 => ?_) (fun c5 => ?_)
  · refine Tr.aload_n (pc := 15) (i := 0) d_X5_takeSign_15 rfl rfl ?_
    refine Tr.iconst (pc := 16) d_X5_takeSign_16 (by decide) ?_
    refine Tr.callV (pc := 17) (as := [_]) d_X5_takeSign_17 s_5_56 ok_X5_refuse rfl rfl (Nat.le_of_ble_eq_true rfl) (Nat.le_of_ble_eq_true rfl) (by decide) (ty_6 hS.1.1) ?_
    refine Tr.imp (Tr.deep (by decide) (sp_X5_refuse_6_w1 hS.1 ((St.kp hS (by decide) (by decide) (by decide)).trans en_6_2) 1 (by omega))) ?_
    rintro M17 _ ⟨h17, r17, rfl, lr17, ur17⟩
    have hS := St.tr hS h17 (by decide) (by decide)
    refine Tr.sc [(0, r17)] rfl ?_
    exact Tr.zret (pc := 20) d_X5_takeSign_20 rfl (by omega) ⟨hS, _, rfl, by omega, by omega⟩
  · refine Tr.aload_n (pc := 8) (i := 0) d_X5_takeSign_8 rfl rfl ?_
    refine Tr.callV (pc := 9) (as := []) d_X5_takeSign_9 s_5_74 ok_X5_goOn rfl rfl (Nat.le_of_ble_eq_true rfl) (Nat.le_of_ble_eq_true rfl) (by decide) (ty_6 hS.1.1) ?_
    refine Tr.imp (Tr.deep (by decide) (sp_X5_goOn_6 hS.1 )) ?_
    rintro M9 _ ⟨h9, r9, rfl, lr9, ur9⟩
    have hS := St.tr hS h9 (by decide) (by decide)
    refine Tr.sc [(0, r9)] rfl ?_
    refine Tr.goto (pc := 12) (tgt := 20) d_X5_takeSign_12 rfl ?_
    exact Tr.zret (pc := 20) d_X5_takeSign_20 rfl (by omega) ⟨hS, _, rfl, by omega, by omega⟩

def ws_X5_isSign_6_w6 : List (Int × Int) := []
def as_X5_isSign_6_w6 : List Int := []
def q_X5_isSign_6_w6 (M0 M' : Mem) (r : Option PV) : Prop := St Tru ws_X5_isSign_6_w6 as_X5_isSign_6_w6 M0 M' ∧ ∃ v : Int, r = some (0, v) ∧ 0 ≤ v ∧ v ≤ 1
set_option maxRecDepth 100000 in
set_option maxHeartbeats 4000000 in
theorem sp_X5_isSign_6_w6 {l : Launch} {K : EC} {M0 : Mem} (hI : In Tru M0) (en_6_2 : rd M0 6 2 = 2) (a1 : Int) (ha1 : 123 ≤ a1 ∧ a1 ≤ 161)  : Tr l K 0 mX5_isSign 0 [(0, (2, 6)), (1, (0, a1))] [] M0 (q_X5_isSign_6_w6 M0) := by
  have hS : St Tru ws_X5_isSign_6_w6 as_X5_isSign_6_w6 M0 M0 := St.rf hI
  refine Tr.aload_n (pc := 0) (i := 0) d_X5_isSign_0 rfl rfl ?_
  refine Tr.getf (pc := 1) d_X5_isSign_1 f_5_18 (by decide) (by decide) (ty_6 hS.1.1) ?_
  refine Tr.tp 2 ((St.kp hS (by decide) (by decide) (by decide)).trans en_6_2) ?_
  refine Tr.getf (pc := 4) d_X5_isSign_4 f_5_50 (by decide) (by decide) (ty_2 hS.1.1) ?_
  refine Tr.tp 3 (fx_2_0 hS.1.1) ?_
  refine Tr.aload_n (pc := 7) (i := 0) d_X5_isSign_7 rfl rfl ?_
  refine Tr.getf (pc := 8) d_X5_isSign_8 f_5_36 (by decide) (by decide) (ty_6 hS.1.1) ?_
  refine Tr.gen (P := fun v => 0 ≤ v ∧ v ≤ 900) (ir_6_5 hS.1.2.1) (fun r8 er8 br8 => ?_)
  refine Tr.iald (pc := 11) d_X5_isSign_11 (ty_3 hS.1.1) (by omega) (by omega) ?_
  refine Tr.gen (P := fun v => (-2147483648) ≤ v ∧ v ≤ 2147483647) (ar_3 hS.1.2.1 _) (fun r11 er11 br11 => ?_)
  refine Tr.iconst (pc := 12) d_X5_isSign_12 (by decide) ?_
  refine Tr.icmp_ne (pc := 13) (tgt := 36) d_X5_isSign_13 rfl (fun c13 => ?_) (fun c13 => ?_)
  · refine Tr.iconst (pc := 36) d_X5_isSign_36 (by decide) ?_
    exact Tr.zret (pc := 37) d_X5_isSign_37 rfl (by omega) ⟨hS, _, rfl, by omega, by omega⟩
  · refine Tr.aload_n (pc := 16) (i := 0) d_X5_isSign_16 rfl rfl ?_
    refine Tr.getf (pc := 17) d_X5_isSign_17 f_5_18 (by decide) (by decide) (ty_6 hS.1.1) ?_
    refine Tr.tp 2 ((St.kp hS (by decide) (by decide) (by decide)).trans en_6_2) ?_
    refine Tr.getf (pc := 20) d_X5_isSign_20 f_5_68 (by decide) (by decide) (ty_2 hS.1.1) ?_
    refine Tr.tp 5 (fx_2_2 hS.1.1) ?_
    refine Tr.aload_n (pc := 23) (i := 0) d_X5_isSign_23 rfl rfl ?_
    refine Tr.getf (pc := 24) d_X5_isSign_24 f_5_36 (by decide) (by decide) (ty_6 hS.1.1) ?_
    refine Tr.tp r8 er8 ?_
    refine Tr.iald (pc := 27) d_X5_isSign_27 (ty_5 hS.1.1) (by omega) (by omega) ?_
    refine Tr.gen (P := fun v => (-2147483648) ≤ v ∧ v ≤ 2147483647) (ar_5 hS.1.2.1 _) (fun r27 er27 br27 => ?_)
    refine Tr.iload_n (pc := 28) (i := 1) d_X5_isSign_28 rfl rfl ?_
    refine Tr.icmp_ne (pc := 29) (tgt := 36) d_X5_isSign_29 rfl (fun c29 => ?_) (fun c29 => ?_)
    · refine Tr.iconst (pc := 36) d_X5_isSign_36 (by decide) ?_
      exact Tr.zret (pc := 37) d_X5_isSign_37 rfl (by omega) ⟨hS, _, rfl, by omega, by omega⟩
    · refine Tr.iconst (pc := 32) d_X5_isSign_32 (by decide) ?_
      refine Tr.goto (pc := 33) (tgt := 37) d_X5_isSign_33 rfl ?_
      exact Tr.zret (pc := 37) d_X5_isSign_37 rfl (by omega) ⟨hS, _, rfl, by omega, by omega⟩

def ws_X5_takeSign_6_w4 : List (Int × Int) := [(6, 0), (6, 1), (6, 5)]
def as_X5_takeSign_6_w4 : List Int := []
def q_X5_takeSign_6_w4 (M0 M' : Mem) (r : Option PV) : Prop := St Tru ws_X5_takeSign_6_w4 as_X5_takeSign_6_w4 M0 M' ∧ ∃ v : Int, r = some (0, v) ∧ 0 ≤ v ∧ v ≤ 1
set_option maxRecDepth 100000 in
set_option maxHeartbeats 4000000 in
theorem sp_X5_takeSign_6_w4 {l : Launch} {K : EC} {M0 : Mem} (hI : In Tru M0) (en_6_2 : rd M0 6 2 = 2) (a1 : Int) (ha1 : 123 ≤ a1 ∧ a1 ≤ 161)  : Tr l K 1 mX5_takeSign 0 [(0, (2, 6)), (1, (0, a1))] [] M0 (q_X5_takeSign_6_w4 M0) := by
  have hS : St Tru ws_X5_takeSign_6_w4 as_X5_takeSign_6_w4 M0 M0 := St.rf hI
  refine Tr.aload_n (pc := 0) (i := 0) d_X5_takeSign_0 rfl rfl ?_
  refine Tr.iload_n (pc := 1) (i := 1) d_X5_takeSign_1 rfl rfl ?_
  refine Tr.callV (pc := 2) (as := [_]) d_X5_takeSign_2 s_5_77 ok_X5_isSign rfl rfl (Nat.le_of_ble_eq_true rfl) (Nat.le_of_ble_eq_true rfl) (by decide) (ty_6 hS.1.1) ?_
  refine Tr.imp (Tr.deep (by decide) (sp_X5_isSign_6_w6 hS.1 ((St.kp hS (by decide) (by decide) (by decide)).trans en_6_2) a1 (by omega))) ?_
  rintro M2 _ ⟨h2, r2, rfl, lr2, ur2⟩
  have hS := St.tr hS h2 (by decide) (by decide)
  refine Tr.sc [(0, r2)] rfl ?_
  refine Tr.if_eq (pc := 5) (tgt := 15) d_X5_takeSign_5 rfl (fun c5 => ?_) (fun c5 => ?_)
  · refine Tr.aload_n (pc := 15) (i := 0) d_X5_takeSign_15 rfl rfl ?_
    refine Tr.iconst (pc := 16) d_X5_takeSign_16 (by decide) ?_
    refine Tr.callV (pc := 17) (as := [_]) d_X5_takeSign_17 s_5_56 ok_X5_refuse rfl rfl (Nat.le_of_ble_eq_true rfl) (Nat.le_of_ble_eq_true rfl) (by decide) (ty_6 hS.1.1) ?_
    refine Tr.imp (Tr.deep (by decide) (sp_X5_refuse_6_w1 hS.1 ((St.kp hS (by decide) (by decide) (by decide)).trans en_6_2) 1 (by omega))) ?_
    rintro M17 _ ⟨h17, r17, rfl, lr17, ur17⟩
    have hS := St.tr hS h17 (by decide) (by decide)
    refine Tr.sc [(0, r17)] rfl ?_
    exact Tr.zret (pc := 20) d_X5_takeSign_20 rfl (by omega) ⟨hS, _, rfl, by omega, by omega⟩
  · refine Tr.aload_n (pc := 8) (i := 0) d_X5_takeSign_8 rfl rfl ?_
    refine Tr.callV (pc := 9) (as := []) d_X5_takeSign_9 s_5_74 ok_X5_goOn rfl rfl (Nat.le_of_ble_eq_true rfl) (Nat.le_of_ble_eq_true rfl) (by decide) (ty_6 hS.1.1) ?_
    refine Tr.imp (Tr.deep (by decide) (sp_X5_goOn_6 hS.1 )) ?_
    rintro M9 _ ⟨h9, r9, rfl, lr9, ur9⟩
    have hS := St.tr hS h9 (by decide) (by decide)
    refine Tr.sc [(0, r9)] rfl ?_
    refine Tr.goto (pc := 12) (tgt := 20) d_X5_takeSign_12 rfl ?_
    exact Tr.zret (pc := 20) d_X5_takeSign_20 rfl (by omega) ⟨hS, _, rfl, by omega, by omega⟩

def ws_X5_takeClosing_6_w16 : List (Int × Int) := [(6, 0), (6, 1), (6, 5), (6, 6)]
def as_X5_takeClosing_6_w16 : List Int := []
def q_X5_takeClosing_6_w16 (M0 M' : Mem) (r : Option PV) : Prop := St Tru ws_X5_takeClosing_6_w16 as_X5_takeClosing_6_w16 M0 M' ∧ ∃ v : Int, r = some (0, v) ∧ 0 ≤ v ∧ v ≤ 1 ∧ ((1 ≤ v ∧ v ≤ 1) → rd M' 6 6 = 7)
set_option maxRecDepth 100000 in
set_option maxHeartbeats 4000000 in
theorem sp_X5_takeClosing_6_w16 {l : Launch} {K : EC} {M0 : Mem} (hI : In Tru M0) (en_6_2 : rd M0 6 2 = 2) (en_6_6 : rd M0 6 6 = 8) (a1 : Int) (ha1 : 123 ≤ a1 ∧ a1 ≤ 161)  : Tr l K 2 mX5_takeClosing 0 [(0, (2, 6)), (1, (0, a1))] [] M0 (q_X5_takeClosing_6_w16 M0) := by
  have hS : St Tru ws_X5_takeClosing_6_w16 as_X5_takeClosing_6_w16 M0 M0 := St.rf hI
  refine Tr.aload_n (pc := 0) (i := 0) d_X5_takeClosing_0 rfl rfl ?_
  refine Tr.iload_n (pc := 1) (i := 1) d_X5_takeClosing_1 rfl rfl ?_
  refine Tr.callV (pc := 2) (as := [_]) d_X5_takeClosing_2 s_5_81 ok_X5_takeSign rfl rfl (Nat.le_of_ble_eq_true rfl) (Nat.le_of_ble_eq_true rfl) (by decide) (ty_6 hS.1.1) ?_
  refine Tr.imp (Tr.deep (by decide) (sp_X5_takeSign_6_w4 hS.1 ((St.kp hS (by decide) (by decide) (by decide)).trans en_6_2) a1 (by omega))) ?_
  rintro M2 _ ⟨h2, r2, rfl, lr2, ur2⟩
  have hS := St.tr hS h2 (by decide) (by decide)
  refine Tr.sc [(0, r2)] rfl ?_
  refine Tr.if_ne (pc := 5) (tgt := 10) d_X5_takeClosing_5 rfl (fun c5 => ?_) (fun c5 => ?_)
  · refine Tr.aload_n (pc := 10) (i := 0) d_X5_takeClosing_10 rfl rfl ?_
    refine Tr.dup (pc := 11) d_X5_takeClosing_11 ne21 ?_
    refine Tr.getf (pc := 12) d_X5_takeClosing_12 f_5_39 (by decide) (by decide) (ty_6 hS.1.1) ?_
    refine Tr.tp 8 ((St.kp h2 (by decide) (by decide) (by decide)).trans en_6_6) ?_
    refine Tr.iconst (pc := 15) d_X5_takeClosing_15 (by decide) ?_
    refine Tr.isub (pc := 16) d_X5_takeClosing_16 ?_
    refine Tr.tp 7 (by decide) ?_
    refine Tr.putfS (pc := 17) (P := St Tru ws_X5_takeClosing_6_w16 as_X5_takeClosing_6_w16 M0) d_X5_takeClosing_17 f_5_39 (by decide) (by decide) (ty_6 hS.1.1) (st_6_6 hS (by decide) (by omega) trivial) (fun M17 hS w17 => ?_)
    refine Tr.iconst (pc := 20) d_X5_takeClosing_20 (by decide) ?_
    exact Tr.zret (pc := 21) d_X5_takeClosing_21 rfl (by omega) ⟨hS, _, rfl, by omega, by omega, fun _ => w17.1⟩
  · refine Tr.iconst (pc := 8) d_X5_takeClosing_8 (by decide) ?_
    exact Tr.zret (pc := 9) d_X5_takeClosing_9 rfl (by omega) ⟨hS, _, rfl, by omega, by omega, fun hq => absurd hq (by omega)⟩

def ws_X5_takeClosing_6_w17 : List (Int × Int) := [(6, 0), (6, 1), (6, 5), (6, 6)]
def as_X5_takeClosing_6_w17 : List Int := []
def q_X5_takeClosing_6_w17 (M0 M' : Mem) (r : Option PV) : Prop := St Tru ws_X5_takeClosing_6_w17 as_X5_takeClosing_6_w17 M0 M' ∧ ∃ v : Int, r = some (0, v) ∧ 0 ≤ v ∧ v ≤ 1 ∧ ((1 ≤ v ∧ v ≤ 1) → rd M' 6 6 = 6)
set_option maxRecDepth 100000 in
set_option maxHeartbeats 4000000 in
theorem sp_X5_takeClosing_6_w17 {l : Launch} {K : EC} {M0 : Mem} (hI : In Tru M0) (en_6_2 : rd M0 6 2 = 2) (en_6_6 : rd M0 6 6 = 7) (a1 : Int) (ha1 : 123 ≤ a1 ∧ a1 ≤ 161)  : Tr l K 2 mX5_takeClosing 0 [(0, (2, 6)), (1, (0, a1))] [] M0 (q_X5_takeClosing_6_w17 M0) := by
  have hS : St Tru ws_X5_takeClosing_6_w17 as_X5_takeClosing_6_w17 M0 M0 := St.rf hI
  refine Tr.aload_n (pc := 0) (i := 0) d_X5_takeClosing_0 rfl rfl ?_
  refine Tr.iload_n (pc := 1) (i := 1) d_X5_takeClosing_1 rfl rfl ?_
  refine Tr.callV (pc := 2) (as := [_]) d_X5_takeClosing_2 s_5_81 ok_X5_takeSign rfl rfl (Nat.le_of_ble_eq_true rfl) (Nat.le_of_ble_eq_true rfl) (by decide) (ty_6 hS.1.1) ?_
  refine Tr.imp (Tr.deep (by decide) (sp_X5_takeSign_6_w4 hS.1 ((St.kp hS (by decide) (by decide) (by decide)).trans en_6_2) a1 (by omega))) ?_
  rintro M2 _ ⟨h2, r2, rfl, lr2, ur2⟩
  have hS := St.tr hS h2 (by decide) (by decide)
  refine Tr.sc [(0, r2)] rfl ?_
  refine Tr.if_ne (pc := 5) (tgt := 10) d_X5_takeClosing_5 rfl (fun c5 => ?_) (fun c5 => ?_)
  · refine Tr.aload_n (pc := 10) (i := 0) d_X5_takeClosing_10 rfl rfl ?_
    refine Tr.dup (pc := 11) d_X5_takeClosing_11 ne21 ?_
    refine Tr.getf (pc := 12) d_X5_takeClosing_12 f_5_39 (by decide) (by decide) (ty_6 hS.1.1) ?_
    refine Tr.tp 7 ((St.kp h2 (by decide) (by decide) (by decide)).trans en_6_6) ?_
    refine Tr.iconst (pc := 15) d_X5_takeClosing_15 (by decide) ?_
    refine Tr.isub (pc := 16) d_X5_takeClosing_16 ?_
    refine Tr.tp 6 (by decide) ?_
    refine Tr.putfS (pc := 17) (P := St Tru ws_X5_takeClosing_6_w17 as_X5_takeClosing_6_w17 M0) d_X5_takeClosing_17 f_5_39 (by decide) (by decide) (ty_6 hS.1.1) (st_6_6 hS (by decide) (by omega) trivial) (fun M17 hS w17 => ?_)
    refine Tr.iconst (pc := 20) d_X5_takeClosing_20 (by decide) ?_
    exact Tr.zret (pc := 21) d_X5_takeClosing_21 rfl (by omega) ⟨hS, _, rfl, by omega, by omega, fun _ => w17.1⟩
  · refine Tr.iconst (pc := 8) d_X5_takeClosing_8 (by decide) ?_
    exact Tr.zret (pc := 9) d_X5_takeClosing_9 rfl (by omega) ⟨hS, _, rfl, by omega, by omega, fun hq => absurd hq (by omega)⟩

def ws_X5_takeClosing_6_w18 : List (Int × Int) := [(6, 0), (6, 1), (6, 5), (6, 6)]
def as_X5_takeClosing_6_w18 : List Int := []
def q_X5_takeClosing_6_w18 (M0 M' : Mem) (r : Option PV) : Prop := St Tru ws_X5_takeClosing_6_w18 as_X5_takeClosing_6_w18 M0 M' ∧ ∃ v : Int, r = some (0, v) ∧ 0 ≤ v ∧ v ≤ 1 ∧ ((1 ≤ v ∧ v ≤ 1) → rd M' 6 6 = 5)
set_option maxRecDepth 100000 in
set_option maxHeartbeats 4000000 in
theorem sp_X5_takeClosing_6_w18 {l : Launch} {K : EC} {M0 : Mem} (hI : In Tru M0) (en_6_2 : rd M0 6 2 = 2) (en_6_6 : rd M0 6 6 = 6) (a1 : Int) (ha1 : 123 ≤ a1 ∧ a1 ≤ 161)  : Tr l K 2 mX5_takeClosing 0 [(0, (2, 6)), (1, (0, a1))] [] M0 (q_X5_takeClosing_6_w18 M0) := by
  have hS : St Tru ws_X5_takeClosing_6_w18 as_X5_takeClosing_6_w18 M0 M0 := St.rf hI
  refine Tr.aload_n (pc := 0) (i := 0) d_X5_takeClosing_0 rfl rfl ?_
  refine Tr.iload_n (pc := 1) (i := 1) d_X5_takeClosing_1 rfl rfl ?_
  refine Tr.callV (pc := 2) (as := [_]) d_X5_takeClosing_2 s_5_81 ok_X5_takeSign rfl rfl (Nat.le_of_ble_eq_true rfl) (Nat.le_of_ble_eq_true rfl) (by decide) (ty_6 hS.1.1) ?_
  refine Tr.imp (Tr.deep (by decide) (sp_X5_takeSign_6_w4 hS.1 ((St.kp hS (by decide) (by decide) (by decide)).trans en_6_2) a1 (by omega))) ?_
  rintro M2 _ ⟨h2, r2, rfl, lr2, ur2⟩
  have hS := St.tr hS h2 (by decide) (by decide)
  refine Tr.sc [(0, r2)] rfl ?_
  refine Tr.if_ne (pc := 5) (tgt := 10) d_X5_takeClosing_5 rfl (fun c5 => ?_) (fun c5 => ?_)
  · refine Tr.aload_n (pc := 10) (i := 0) d_X5_takeClosing_10 rfl rfl ?_
    refine Tr.dup (pc := 11) d_X5_takeClosing_11 ne21 ?_
    refine Tr.getf (pc := 12) d_X5_takeClosing_12 f_5_39 (by decide) (by decide) (ty_6 hS.1.1) ?_
    refine Tr.tp 6 ((St.kp h2 (by decide) (by decide) (by decide)).trans en_6_6) ?_
    refine Tr.iconst (pc := 15) d_X5_takeClosing_15 (by decide) ?_
    refine Tr.isub (pc := 16) d_X5_takeClosing_16 ?_
    refine Tr.tp 5 (by decide) ?_
    refine Tr.putfS (pc := 17) (P := St Tru ws_X5_takeClosing_6_w18 as_X5_takeClosing_6_w18 M0) d_X5_takeClosing_17 f_5_39 (by decide) (by decide) (ty_6 hS.1.1) (st_6_6 hS (by decide) (by omega) trivial) (fun M17 hS w17 => ?_)
    refine Tr.iconst (pc := 20) d_X5_takeClosing_20 (by decide) ?_
    exact Tr.zret (pc := 21) d_X5_takeClosing_21 rfl (by omega) ⟨hS, _, rfl, by omega, by omega, fun _ => w17.1⟩
  · refine Tr.iconst (pc := 8) d_X5_takeClosing_8 (by decide) ?_
    exact Tr.zret (pc := 9) d_X5_takeClosing_9 rfl (by omega) ⟨hS, _, rfl, by omega, by omega, fun hq => absurd hq (by omega)⟩

def ws_X5_takeClosing_6_w19 : List (Int × Int) := [(6, 0), (6, 1), (6, 5), (6, 6)]
def as_X5_takeClosing_6_w19 : List Int := []
def q_X5_takeClosing_6_w19 (M0 M' : Mem) (r : Option PV) : Prop := St Tru ws_X5_takeClosing_6_w19 as_X5_takeClosing_6_w19 M0 M' ∧ ∃ v : Int, r = some (0, v) ∧ 0 ≤ v ∧ v ≤ 1 ∧ ((1 ≤ v ∧ v ≤ 1) → rd M' 6 6 = 4)
set_option maxRecDepth 100000 in
set_option maxHeartbeats 4000000 in
theorem sp_X5_takeClosing_6_w19 {l : Launch} {K : EC} {M0 : Mem} (hI : In Tru M0) (en_6_2 : rd M0 6 2 = 2) (en_6_6 : rd M0 6 6 = 5) (a1 : Int) (ha1 : 123 ≤ a1 ∧ a1 ≤ 161)  : Tr l K 2 mX5_takeClosing 0 [(0, (2, 6)), (1, (0, a1))] [] M0 (q_X5_takeClosing_6_w19 M0) := by
  have hS : St Tru ws_X5_takeClosing_6_w19 as_X5_takeClosing_6_w19 M0 M0 := St.rf hI
  refine Tr.aload_n (pc := 0) (i := 0) d_X5_takeClosing_0 rfl rfl ?_
  refine Tr.iload_n (pc := 1) (i := 1) d_X5_takeClosing_1 rfl rfl ?_
  refine Tr.callV (pc := 2) (as := [_]) d_X5_takeClosing_2 s_5_81 ok_X5_takeSign rfl rfl (Nat.le_of_ble_eq_true rfl) (Nat.le_of_ble_eq_true rfl) (by decide) (ty_6 hS.1.1) ?_
  refine Tr.imp (Tr.deep (by decide) (sp_X5_takeSign_6_w4 hS.1 ((St.kp hS (by decide) (by decide) (by decide)).trans en_6_2) a1 (by omega))) ?_
  rintro M2 _ ⟨h2, r2, rfl, lr2, ur2⟩
  have hS := St.tr hS h2 (by decide) (by decide)
  refine Tr.sc [(0, r2)] rfl ?_
  refine Tr.if_ne (pc := 5) (tgt := 10) d_X5_takeClosing_5 rfl (fun c5 => ?_) (fun c5 => ?_)
  · refine Tr.aload_n (pc := 10) (i := 0) d_X5_takeClosing_10 rfl rfl ?_
    refine Tr.dup (pc := 11) d_X5_takeClosing_11 ne21 ?_
    refine Tr.getf (pc := 12) d_X5_takeClosing_12 f_5_39 (by decide) (by decide) (ty_6 hS.1.1) ?_
    refine Tr.tp 5 ((St.kp h2 (by decide) (by decide) (by decide)).trans en_6_6) ?_
    refine Tr.iconst (pc := 15) d_X5_takeClosing_15 (by decide) ?_
    refine Tr.isub (pc := 16) d_X5_takeClosing_16 ?_
    refine Tr.tp 4 (by decide) ?_
    refine Tr.putfS (pc := 17) (P := St Tru ws_X5_takeClosing_6_w19 as_X5_takeClosing_6_w19 M0) d_X5_takeClosing_17 f_5_39 (by decide) (by decide) (ty_6 hS.1.1) (st_6_6 hS (by decide) (by omega) trivial) (fun M17 hS w17 => ?_)
    refine Tr.iconst (pc := 20) d_X5_takeClosing_20 (by decide) ?_
    exact Tr.zret (pc := 21) d_X5_takeClosing_21 rfl (by omega) ⟨hS, _, rfl, by omega, by omega, fun _ => w17.1⟩
  · refine Tr.iconst (pc := 8) d_X5_takeClosing_8 (by decide) ?_
    exact Tr.zret (pc := 9) d_X5_takeClosing_9 rfl (by omega) ⟨hS, _, rfl, by omega, by omega, fun hq => absurd hq (by omega)⟩

def ws_X5_takeClosing_6_w20 : List (Int × Int) := [(6, 0), (6, 1), (6, 5), (6, 6)]
def as_X5_takeClosing_6_w20 : List Int := []
def q_X5_takeClosing_6_w20 (M0 M' : Mem) (r : Option PV) : Prop := St Tru ws_X5_takeClosing_6_w20 as_X5_takeClosing_6_w20 M0 M' ∧ ∃ v : Int, r = some (0, v) ∧ 0 ≤ v ∧ v ≤ 1 ∧ ((1 ≤ v ∧ v ≤ 1) → rd M' 6 6 = 3)
set_option maxRecDepth 100000 in
set_option maxHeartbeats 4000000 in
theorem sp_X5_takeClosing_6_w20 {l : Launch} {K : EC} {M0 : Mem} (hI : In Tru M0) (en_6_2 : rd M0 6 2 = 2) (en_6_6 : rd M0 6 6 = 4) (a1 : Int) (ha1 : 123 ≤ a1 ∧ a1 ≤ 161)  : Tr l K 2 mX5_takeClosing 0 [(0, (2, 6)), (1, (0, a1))] [] M0 (q_X5_takeClosing_6_w20 M0) := by
  have hS : St Tru ws_X5_takeClosing_6_w20 as_X5_takeClosing_6_w20 M0 M0 := St.rf hI
  refine Tr.aload_n (pc := 0) (i := 0) d_X5_takeClosing_0 rfl rfl ?_
  refine Tr.iload_n (pc := 1) (i := 1) d_X5_takeClosing_1 rfl rfl ?_
  refine Tr.callV (pc := 2) (as := [_]) d_X5_takeClosing_2 s_5_81 ok_X5_takeSign rfl rfl (Nat.le_of_ble_eq_true rfl) (Nat.le_of_ble_eq_true rfl) (by decide) (ty_6 hS.1.1) ?_
  refine Tr.imp (Tr.deep (by decide) (sp_X5_takeSign_6_w4 hS.1 ((St.kp hS (by decide) (by decide) (by decide)).trans en_6_2) a1 (by omega))) ?_
  rintro M2 _ ⟨h2, r2, rfl, lr2, ur2⟩
  have hS := St.tr hS h2 (by decide) (by decide)
  refine Tr.sc [(0, r2)] rfl ?_
  refine Tr.if_ne (pc := 5) (tgt := 10) d_X5_takeClosing_5 rfl (fun c5 => ?_) (fun c5 => ?_)
  · refine Tr.aload_n (pc := 10) (i := 0) d_X5_takeClosing_10 rfl rfl ?_
    refine Tr.dup (pc := 11) d_X5_takeClosing_11 ne21 ?_
    refine Tr.getf (pc := 12) d_X5_takeClosing_12 f_5_39 (by decide) (by decide) (ty_6 hS.1.1) ?_
    refine Tr.tp 4 ((St.kp h2 (by decide) (by decide) (by decide)).trans en_6_6) ?_
    refine Tr.iconst (pc := 15) d_X5_takeClosing_15 (by decide) ?_
    refine Tr.isub (pc := 16) d_X5_takeClosing_16 ?_
    refine Tr.tp 3 (by decide) ?_
    refine Tr.putfS (pc := 17) (P := St Tru ws_X5_takeClosing_6_w20 as_X5_takeClosing_6_w20 M0) d_X5_takeClosing_17 f_5_39 (by decide) (by decide) (ty_6 hS.1.1) (st_6_6 hS (by decide) (by omega) trivial) (fun M17 hS w17 => ?_)
    refine Tr.iconst (pc := 20) d_X5_takeClosing_20 (by decide) ?_
    exact Tr.zret (pc := 21) d_X5_takeClosing_21 rfl (by omega) ⟨hS, _, rfl, by omega, by omega, fun _ => w17.1⟩
  · refine Tr.iconst (pc := 8) d_X5_takeClosing_8 (by decide) ?_
    exact Tr.zret (pc := 9) d_X5_takeClosing_9 rfl (by omega) ⟨hS, _, rfl, by omega, by omega, fun hq => absurd hq (by omega)⟩

def ws_X5_takeClosing_6_w21 : List (Int × Int) := [(6, 0), (6, 1), (6, 5), (6, 6)]
def as_X5_takeClosing_6_w21 : List Int := []
def q_X5_takeClosing_6_w21 (M0 M' : Mem) (r : Option PV) : Prop := St Tru ws_X5_takeClosing_6_w21 as_X5_takeClosing_6_w21 M0 M' ∧ ∃ v : Int, r = some (0, v) ∧ 0 ≤ v ∧ v ≤ 1 ∧ ((1 ≤ v ∧ v ≤ 1) → rd M' 6 6 = 2)
set_option maxRecDepth 100000 in
set_option maxHeartbeats 4000000 in
theorem sp_X5_takeClosing_6_w21 {l : Launch} {K : EC} {M0 : Mem} (hI : In Tru M0) (en_6_2 : rd M0 6 2 = 2) (en_6_6 : rd M0 6 6 = 3) (a1 : Int) (ha1 : 123 ≤ a1 ∧ a1 ≤ 161)  : Tr l K 2 mX5_takeClosing 0 [(0, (2, 6)), (1, (0, a1))] [] M0 (q_X5_takeClosing_6_w21 M0) := by
  have hS : St Tru ws_X5_takeClosing_6_w21 as_X5_takeClosing_6_w21 M0 M0 := St.rf hI
  refine Tr.aload_n (pc := 0) (i := 0) d_X5_takeClosing_0 rfl rfl ?_
  refine Tr.iload_n (pc := 1) (i := 1) d_X5_takeClosing_1 rfl rfl ?_
  refine Tr.callV (pc := 2) (as := [_]) d_X5_takeClosing_2 s_5_81 ok_X5_takeSign rfl rfl (Nat.le_of_ble_eq_true rfl) (Nat.le_of_ble_eq_true rfl) (by decide) (ty_6 hS.1.1) ?_
  refine Tr.imp (Tr.deep (by decide) (sp_X5_takeSign_6_w4 hS.1 ((St.kp hS (by decide) (by decide) (by decide)).trans en_6_2) a1 (by omega))) ?_
  rintro M2 _ ⟨h2, r2, rfl, lr2, ur2⟩
  have hS := St.tr hS h2 (by decide) (by decide)
  refine Tr.sc [(0, r2)] rfl ?_
  refine Tr.if_ne (pc := 5) (tgt := 10) d_X5_takeClosing_5 rfl (fun c5 => ?_) (fun c5 => ?_)
  · refine Tr.aload_n (pc := 10) (i := 0) d_X5_takeClosing_10 rfl rfl ?_
    refine Tr.dup (pc := 11) d_X5_takeClosing_11 ne21 ?_
    refine Tr.getf (pc := 12) d_X5_takeClosing_12 f_5_39 (by decide) (by decide) (ty_6 hS.1.1) ?_
    refine Tr.tp 3 ((St.kp h2 (by decide) (by decide) (by decide)).trans en_6_6) ?_
    refine Tr.iconst (pc := 15) d_X5_takeClosing_15 (by decide) ?_
    refine Tr.isub (pc := 16) d_X5_takeClosing_16 ?_
    refine Tr.tp 2 (by decide) ?_
    refine Tr.putfS (pc := 17) (P := St Tru ws_X5_takeClosing_6_w21 as_X5_takeClosing_6_w21 M0) d_X5_takeClosing_17 f_5_39 (by decide) (by decide) (ty_6 hS.1.1) (st_6_6 hS (by decide) (by omega) trivial) (fun M17 hS w17 => ?_)
    refine Tr.iconst (pc := 20) d_X5_takeClosing_20 (by decide) ?_
    exact Tr.zret (pc := 21) d_X5_takeClosing_21 rfl (by omega) ⟨hS, _, rfl, by omega, by omega, fun _ => w17.1⟩
  · refine Tr.iconst (pc := 8) d_X5_takeClosing_8 (by decide) ?_
    exact Tr.zret (pc := 9) d_X5_takeClosing_9 rfl (by omega) ⟨hS, _, rfl, by omega, by omega, fun hq => absurd hq (by omega)⟩

def ws_X5_takeClosing_6_w22 : List (Int × Int) := [(6, 0), (6, 1), (6, 5), (6, 6)]
def as_X5_takeClosing_6_w22 : List Int := []
def q_X5_takeClosing_6_w22 (M0 M' : Mem) (r : Option PV) : Prop := St Tru ws_X5_takeClosing_6_w22 as_X5_takeClosing_6_w22 M0 M' ∧ ∃ v : Int, r = some (0, v) ∧ 0 ≤ v ∧ v ≤ 1 ∧ ((1 ≤ v ∧ v ≤ 1) → rd M' 6 6 = 1)
set_option maxRecDepth 100000 in
set_option maxHeartbeats 4000000 in
theorem sp_X5_takeClosing_6_w22 {l : Launch} {K : EC} {M0 : Mem} (hI : In Tru M0) (en_6_2 : rd M0 6 2 = 2) (en_6_6 : rd M0 6 6 = 2) (a1 : Int) (ha1 : 123 ≤ a1 ∧ a1 ≤ 161)  : Tr l K 2 mX5_takeClosing 0 [(0, (2, 6)), (1, (0, a1))] [] M0 (q_X5_takeClosing_6_w22 M0) := by
  have hS : St Tru ws_X5_takeClosing_6_w22 as_X5_takeClosing_6_w22 M0 M0 := St.rf hI
  refine Tr.aload_n (pc := 0) (i := 0) d_X5_takeClosing_0 rfl rfl ?_
  refine Tr.iload_n (pc := 1) (i := 1) d_X5_takeClosing_1 rfl rfl ?_
  refine Tr.callV (pc := 2) (as := [_]) d_X5_takeClosing_2 s_5_81 ok_X5_takeSign rfl rfl (Nat.le_of_ble_eq_true rfl) (Nat.le_of_ble_eq_true rfl) (by decide) (ty_6 hS.1.1) ?_
  refine Tr.imp (Tr.deep (by decide) (sp_X5_takeSign_6_w4 hS.1 ((St.kp hS (by decide) (by decide) (by decide)).trans en_6_2) a1 (by omega))) ?_
  rintro M2 _ ⟨h2, r2, rfl, lr2, ur2⟩
  have hS := St.tr hS h2 (by decide) (by decide)
  refine Tr.sc [(0, r2)] rfl ?_
  refine Tr.if_ne (pc := 5) (tgt := 10) d_X5_takeClosing_5 rfl (fun c5 => ?_) (fun c5 => ?_)
  · refine Tr.aload_n (pc := 10) (i := 0) d_X5_takeClosing_10 rfl rfl ?_
    refine Tr.dup (pc := 11) d_X5_takeClosing_11 ne21 ?_
    refine Tr.getf (pc := 12) d_X5_takeClosing_12 f_5_39 (by decide) (by decide) (ty_6 hS.1.1) ?_
    refine Tr.tp 2 ((St.kp h2 (by decide) (by decide) (by decide)).trans en_6_6) ?_
    refine Tr.iconst (pc := 15) d_X5_takeClosing_15 (by decide) ?_
    refine Tr.isub (pc := 16) d_X5_takeClosing_16 ?_
    refine Tr.tp 1 (by decide) ?_
    refine Tr.putfS (pc := 17) (P := St Tru ws_X5_takeClosing_6_w22 as_X5_takeClosing_6_w22 M0) d_X5_takeClosing_17 f_5_39 (by decide) (by decide) (ty_6 hS.1.1) (st_6_6 hS (by decide) (by omega) trivial) (fun M17 hS w17 => ?_)
    refine Tr.iconst (pc := 20) d_X5_takeClosing_20 (by decide) ?_
    exact Tr.zret (pc := 21) d_X5_takeClosing_21 rfl (by omega) ⟨hS, _, rfl, by omega, by omega, fun _ => w17.1⟩
  · refine Tr.iconst (pc := 8) d_X5_takeClosing_8 (by decide) ?_
    exact Tr.zret (pc := 9) d_X5_takeClosing_9 rfl (by omega) ⟨hS, _, rfl, by omega, by omega, fun hq => absurd hq (by omega)⟩

def ws_X5_takeClosing_6_w23 : List (Int × Int) := [(6, 0), (6, 1), (6, 5), (6, 6)]
def as_X5_takeClosing_6_w23 : List Int := []
def q_X5_takeClosing_6_w23 (M0 M' : Mem) (r : Option PV) : Prop := St Tru ws_X5_takeClosing_6_w23 as_X5_takeClosing_6_w23 M0 M' ∧ ∃ v : Int, r = some (0, v) ∧ 0 ≤ v ∧ v ≤ 1 ∧ ((1 ≤ v ∧ v ≤ 1) → rd M' 6 6 = 0)
set_option maxRecDepth 100000 in
set_option maxHeartbeats 4000000 in
theorem sp_X5_takeClosing_6_w23 {l : Launch} {K : EC} {M0 : Mem} (hI : In Tru M0) (en_6_2 : rd M0 6 2 = 2) (en_6_6 : rd M0 6 6 = 1) (a1 : Int) (ha1 : 123 ≤ a1 ∧ a1 ≤ 161)  : Tr l K 2 mX5_takeClosing 0 [(0, (2, 6)), (1, (0, a1))] [] M0 (q_X5_takeClosing_6_w23 M0) := by
  have hS : St Tru ws_X5_takeClosing_6_w23 as_X5_takeClosing_6_w23 M0 M0 := St.rf hI
  refine Tr.aload_n (pc := 0) (i := 0) d_X5_takeClosing_0 rfl rfl ?_
  refine Tr.iload_n (pc := 1) (i := 1) d_X5_takeClosing_1 rfl rfl ?_
  refine Tr.callV (pc := 2) (as := [_]) d_X5_takeClosing_2 s_5_81 ok_X5_takeSign rfl rfl (Nat.le_of_ble_eq_true rfl) (Nat.le_of_ble_eq_true rfl) (by decide) (ty_6 hS.1.1) ?_
  refine Tr.imp (Tr.deep (by decide) (sp_X5_takeSign_6_w4 hS.1 ((St.kp hS (by decide) (by decide) (by decide)).trans en_6_2) a1 (by omega))) ?_
  rintro M2 _ ⟨h2, r2, rfl, lr2, ur2⟩
  have hS := St.tr hS h2 (by decide) (by decide)
  refine Tr.sc [(0, r2)] rfl ?_
  refine Tr.if_ne (pc := 5) (tgt := 10) d_X5_takeClosing_5 rfl (fun c5 => ?_) (fun c5 => ?_)
  · refine Tr.aload_n (pc := 10) (i := 0) d_X5_takeClosing_10 rfl rfl ?_
    refine Tr.dup (pc := 11) d_X5_takeClosing_11 ne21 ?_
    refine Tr.getf (pc := 12) d_X5_takeClosing_12 f_5_39 (by decide) (by decide) (ty_6 hS.1.1) ?_
    refine Tr.tp 1 ((St.kp h2 (by decide) (by decide) (by decide)).trans en_6_6) ?_
    refine Tr.iconst (pc := 15) d_X5_takeClosing_15 (by decide) ?_
    refine Tr.isub (pc := 16) d_X5_takeClosing_16 ?_
    refine Tr.tp 0 (by decide) ?_
    refine Tr.putfS (pc := 17) (P := St Tru ws_X5_takeClosing_6_w23 as_X5_takeClosing_6_w23 M0) d_X5_takeClosing_17 f_5_39 (by decide) (by decide) (ty_6 hS.1.1) (st_6_6 hS (by decide) (by omega) trivial) (fun M17 hS w17 => ?_)
    refine Tr.iconst (pc := 20) d_X5_takeClosing_20 (by decide) ?_
    exact Tr.zret (pc := 21) d_X5_takeClosing_21 rfl (by omega) ⟨hS, _, rfl, by omega, by omega, fun _ => w17.1⟩
  · refine Tr.iconst (pc := 8) d_X5_takeClosing_8 (by decide) ?_
    exact Tr.zret (pc := 9) d_X5_takeClosing_9 rfl (by omega) ⟨hS, _, rfl, by omega, by omega, fun hq => absurd hq (by omega)⟩

def ws_X4_behind_35_w13 : List (Int × Int) := []
def as_X4_behind_35_w13 : List Int := []
def q_X4_behind_35_w13 (M0 M' : Mem) (r : Option PV) : Prop := St Tru ws_X4_behind_35_w13 as_X4_behind_35_w13 M0 M' ∧ ∃ v : Int, r = some (0, v) ∧ 0 ≤ v ∧ v ≤ 60
set_option maxRecDepth 100000 in
set_option maxHeartbeats 4000000 in
theorem sp_X4_behind_35_w13 {l : Launch} {K : EC} {M0 : Mem} (hI : In Tru M0)  (a1 : Int) (ha1 : 0 ≤ a1 ∧ a1 ≤ 59)  : Tr l K 0 mX4_behind 0 [(0, (2, 35)), (1, (0, a1))] [] M0 (q_X4_behind_35_w13 M0) := by
  have hS : St Tru ws_X4_behind_35_w13 as_X4_behind_35_w13 M0 M0 := St.rf hI
  refine Tr.aload_n (pc := 0) (i := 0) d_X4_behind_0 rfl rfl ?_
  refine Tr.getf (pc := 1) d_X4_behind_1 f_4_27 (by decide) (by decide) (ty_35 hS.1.1) ?_
  refine Tr.tp 41 (fx_35_6 hS.1.1) ?_
  refine Tr.iload_n (pc := 4) (i := 1) d_X4_behind_4 rfl rfl ?_
  refine Tr.iald (pc := 5) d_X4_behind_5 (ty_41 hS.1.1) (by omega) (by omega) ?_
  refine Tr.gen (P := fun v => (-1) ≤ v ∧ v ≤ 59) (ar_41 hS.1.2.1 _) (fun r5 er5 br5 => ?_)
  refine Tr.if_lt (pc := 6) (tgt := 16) d_X4_behind_6 rfl (fun c6 => ?_) (fun c6 => ?_)
  · refine Tr.aload_n (pc := 16) (i := 0) d_X4_behind_16 rfl rfl ?_
    refine Tr.getf (pc := 17) d_X4_behind_17 f_4_30 (by decide) (by decide) (ty_35 hS.1.1) ?_
    refine Tr.tp 42 (fx_35_7 hS.1.1) ?_
    refine Tr.iload_n (pc := 20) (i := 1) d_X4_behind_20 rfl rfl ?_
    refine Tr.iald (pc := 21) d_X4_behind_21 (ty_42 hS.1.1) (by omega) (by omega) ?_
    refine Tr.gen (P := fun v => (-1) ≤ v ∧ v ≤ 59) (ar_42 hS.1.2.1 _) (fun r21 er21 br21 => ?_)
    refine Tr.istore_n (pc := 22) (i := 2) (ls2 := [(2, (0, r21)), (0, (2, 35)), (1, (0, a1))]) d_X4_behind_22 rfl (by decide) rfl ?_
    refine Tr.iload_n (pc := 23) (i := 2) d_X4_behind_23 rfl rfl ?_
    refine Tr.if_ge (pc := 24) (tgt := 32) d_X4_behind_24 rfl (fun c24 => ?_) (fun c24 => ?_)
    · refine Tr.aload_n (pc := 32) (i := 0) d_X4_behind_32 rfl rfl ?_
      refine Tr.getf (pc := 33) d_X4_behind_33 f_4_9 (by decide) (by decide) (ty_35 hS.1.1) ?_
      refine Tr.tp 36 (fx_35_1 hS.1.1) ?_
      refine Tr.iload_n (pc := 36) (i := 2) d_X4_behind_36 rfl rfl ?_
      refine Tr.iald (pc := 37) d_X4_behind_37 (ty_36 hS.1.1) (by omega) (by omega) ?_
      refine Tr.gen (P := fun v => (-2147483648) ≤ v ∧ v ≤ 2147483647) (ar_36 hS.1.2.1 _) (fun r37 er37 br37 => ?_)
      refine Tr.bipush (pc := 38) d_X4_behind_38 rfl (by decide) ?_
      refine Tr.icmp_ne (pc := 40) (tgt := 47) d_X4_behind_40 rfl (fun c40 => ?_) (fun c40 => ?_)
      · refine Tr.aload_n (pc := 47) (i := 0) d_X4_behind_47 rfl rfl ?_
        refine Tr.getf (pc := 48) d_X4_behind_48 f_4_33 (by decide) (by decide) (ty_35 hS.1.1) ?_
        refine Tr.tp 43 (fx_35_8 hS.1.1) ?_
        refine Tr.iload_n (pc := 51) (i := 2) d_X4_behind_51 rfl rfl ?_
        refine Tr.iald (pc := 52) d_X4_behind_52 (ty_43 hS.1.1) (by omega) (by omega) ?_
        refine Tr.gen (P := fun v => 0 ≤ v ∧ v ≤ 60) (ar_43 hS.1.2.1 _) (fun r52 er52 br52 => ?_)
        exact Tr.iret (pc := 53) d_X4_behind_53 rfl ⟨hS, _, rfl, by omega, by omega⟩
      · refine Tr.iload_n (pc := 43) (i := 2) d_X4_behind_43 rfl rfl ?_
        refine Tr.goto (pc := 44) (tgt := 53) d_X4_behind_44 rfl ?_
        exact Tr.iret (pc := 53) d_X4_behind_53 rfl ⟨hS, _, rfl, by omega, by omega⟩
    · refine Tr.aload_n (pc := 27) (i := 0) d_X4_behind_27 rfl rfl ?_
      refine Tr.getf (pc := 28) d_X4_behind_28 f_4_45 (by decide) (by decide) (ty_35 hS.1.1) ?_
      refine Tr.gen (P := fun v => 0 ≤ v ∧ v ≤ 60) (ir_35_0 hS.1.2.1) (fun r28 er28 br28 => ?_)
      exact Tr.iret (pc := 31) d_X4_behind_31 rfl ⟨hS, _, rfl, by omega, by omega⟩
  · refine Tr.aload_n (pc := 9) (i := 0) d_X4_behind_9 rfl rfl ?_
    refine Tr.getf (pc := 10) d_X4_behind_10 f_4_27 (by decide) (by decide) (ty_35 hS.1.1) ?_
    refine Tr.tp 41 (fx_35_6 hS.1.1) ?_
    refine Tr.iload_n (pc := 13) (i := 1) d_X4_behind_13 rfl rfl ?_
    refine Tr.iald (pc := 14) d_X4_behind_14 (ty_41 hS.1.1) (by omega) (by omega) ?_
    refine Tr.tp r5 er5 ?_
    exact Tr.iret (pc := 15) d_X4_behind_15 rfl ⟨hS, _, rfl, by omega, by omega⟩

def ws_X4_link_35 : List (Int × Int) := []
def as_X4_link_35 : List Int := [38, 39, 40, 43]
def q_X4_link_35 (M0 M' : Mem) (r : Option PV) : Prop := St Tru ws_X4_link_35 as_X4_link_35 M0 M' ∧ r = none ∧ Yn35 M'
set_option maxRecDepth 100000 in
set_option maxHeartbeats 4000000 in
theorem sp_X4_link_35 {l : Launch} {K : EC} {M0 : Mem} (hI : In Tru M0)    : Tr l K 1 mX4_link 0 [(0, (2, 35))] [] M0 (q_X4_link_35 M0) := by
  have hS : St Tru ws_X4_link_35 as_X4_link_35 M0 M0 := St.rf hI
  refine Tr.aload_n (pc := 0) (i := 0) d_X4_link_0 rfl rfl ?_
  refine Tr.getf (pc := 1) d_X4_link_1 f_4_18 (by decide) (by decide) (ty_35 hS.1.1) ?_
  refine Tr.tp 38 (fx_35_3 hS.1.1) ?_
  refine Tr.aload_n (pc := 4) (i := 0) d_X4_link_4 rfl rfl ?_
  refine Tr.getf (pc := 5) d_X4_link_5 f_4_45 (by decide) (by decide) (ty_35 hS.1.1) ?_
  refine Tr.gen (P := fun v => 0 ≤ v ∧ v ≤ 60) (ir_35_0 hS.1.2.1) (fun r5 er5 br5 => ?_)
  refine Tr.aload_n (pc := 8) (i := 0) d_X4_link_8 rfl rfl ?_
  refine Tr.getf (pc := 9) d_X4_link_9 f_4_49 (by decide) (by decide) (ty_35 hS.1.1) ?_
  refine Tr.gen (P := fun v => 0 ≤ v ∧ v ≤ 900) (ir_35_11 hS.1.2.1) (fun r9 er9 br9 => ?_)
  refine Tr.iastS (pc := 12) (P := St Tru ws_X4_link_35 as_X4_link_35 M0) d_X4_link_12 (ty_38 hS.1.1) (by omega) (by omega) (sa_38 hS (by decide) (by omega) trivial) (fun M12 hS w12 => ?_)
  refine Tr.iconst (pc := 13) d_X4_link_13 (by decide) ?_
  refine Tr.istore_n (pc := 14) (i := 1) (ls2 := [(1, (0, 0)), (0, (2, 35))]) d_X4_link_14 rfl (by decide) rfl ?_
  have J15 : ∀ (n15 : Nat) (M : Mem) (p15_1 : Int), St Tru ws_X4_link_35 as_X4_link_35 M0 M → (0 ≤ p15_1 ∧ p15_1 ≤ 60) → rd M 35 0 = r5 → rd M 35 11 = r9 → rd M 38 r5 = r9 → (∀ k : Int, 0 ≤ k → k < p15_1 → 0 ≤ rd M 39 k ∧ 0 ≤ rd M 40 k) → (60 - p15_1).toNat < n15 → Tr l K 1 mX4_link 15 [(0, (2, 35)), (1, (0, p15_1))] [] M (q_X4_link_35 M0) := by
    intro n15
    induction n15 with
    | zero => intro M p15_1 hS bp15_1 k15_35_0 k15_35_11 k15_38_r510 tp15_0 hm15; exact absurd hm15 (Nat.not_lt_zero _)
    | succ n15 J15 =>
      intro M p15_1 hS bp15_1 k15_35_0 k15_35_11 k15_38_r510 tp15_0 hm15
      refine Tr.iload_n (pc := 15) (i := 1) d_X4_link_15 rfl rfl ?_
      refine Tr.aload_n (pc := 16) (i := 0) d_X4_link_16 rfl rfl ?_
      refine Tr.getf (pc := 17) d_X4_link_17 f_4_45 (by decide) (by decide) (ty_35 hS.1.1) ?_
      refine Tr.tp r5 k15_35_0 ?_
      refine Tr.icmp_ge (pc := 20) (tgt := 107) d_X4_link_20 rfl (fun c20 => ?_) (fun c20 => ?_)
      · have hyn : Yn35 M := fun k k0 k1 => tp15_0 k k0 (by omega)
        exact Tr.vret (pc := 107) d_X4_link_107 rfl ⟨hS, rfl, hyn⟩
      · refine Tr.aload_n (pc := 23) (i := 0) d_X4_link_23 rfl rfl ?_
        refine Tr.getf (pc := 24) d_X4_link_24 f_4_33 (by decide) (by decide) (ty_35 hS.1.1) ?_
        refine Tr.tp 43 (fx_35_8 hS.1.1) ?_
        refine Tr.iload_n (pc := 27) (i := 1) d_X4_link_27 rfl rfl ?_
        refine Tr.aload_n (pc := 28) (i := 0) d_X4_link_28 rfl rfl ?_
        refine Tr.iload_n (pc := 29) (i := 1) d_X4_link_29 rfl rfl ?_
        refine Tr.callV (pc := 30) (as := [_]) d_X4_link_30 s_4_52 ok_X4_behind rfl rfl (Nat.le_of_ble_eq_true rfl) (Nat.le_of_ble_eq_true rfl) (by decide) (ty_35 hS.1.1) ?_
        refine Tr.imp (Tr.deep (by decide) (sp_X4_behind_35_w13 hS.1 p15_1 (by omega))) ?_
        rintro M30 _ ⟨h30, r30, rfl, lr30, ur30⟩
        have hS := St.tr hS h30 (by decide) (by decide)
        refine Tr.sc [(0, r30), (0, p15_1), (2, 43)] rfl ?_
        refine Tr.iastS (pc := 33) (P := St Tru ws_X4_link_35 as_X4_link_35 M0) d_X4_link_33 (ty_43 hS.1.1) (by omega) (by omega) (sa_43 hS (by decide) (by omega) trivial) (fun M33 hS w33 => ?_)
        refine Tr.aload_n (pc := 34) (i := 0) d_X4_link_34 rfl rfl ?_
        refine Tr.getf (pc := 35) d_X4_link_35 f_4_9 (by decide) (by decide) (ty_35 hS.1.1) ?_
        refine Tr.tp 36 (fx_35_1 hS.1.1) ?_
        refine Tr.iload_n (pc := 38) (i := 1) d_X4_link_38 rfl rfl ?_
        refine Tr.iald (pc := 39) d_X4_link_39 (ty_36 hS.1.1) (by omega) (by omega) ?_
        refine Tr.gen (P := fun v => (-2147483648) ≤ v ∧ v ≤ 2147483647) (ar_36 hS.1.2.1 _) (fun r39 er39 br39 => ?_)
        refine Tr.bipush (pc := 40) d_X4_link_40 rfl (by decide) ?_
        have J50 : ∀ (M : Mem) (q50_0 : Int), St Tru ws_X4_link_35 as_X4_link_35 M0 M → (0 ≤ q50_0 ∧ q50_0 ≤ 1) → rd M 35 0 = r5 → rd M 35 11 = r9 → rd M 36 p15_1 = r39 → rd M 38 r5 = r9 → rd M 43 p15_1 = r30 → (∀ k : Int, 0 ≤ k → k < p15_1 → 0 ≤ rd M 39 k ∧ 0 ≤ rd M 40 k) → Tr l K 1 mX4_link 50 [(0, (2, 35)), (1, (0, p15_1))] [(0, q50_0)] M (q_X4_link_35 M0) := by
          intro M q50_0 hS bq50_0 k50_35_0 k50_35_11 k50_36_p15_110 k50_38_r510 k50_43_p15_110 tp50_0
          refine Tr.istore_n (pc := 50) (i := 2) (ls2 := [(2, (0, q50_0)), (0, (2, 35)), (1, (0, p15_1))]) d_X4_link_50 rfl (by decide) rfl ?_
          refine Tr.aload_n (pc := 51) (i := 0) d_X4_link_51 rfl rfl ?_
          refine Tr.getf (pc := 52) d_X4_link_52 f_4_21 (by decide) (by decide) (ty_35 hS.1.1) ?_
          refine Tr.tp 39 (fx_35_4 hS.1.1) ?_
          refine Tr.iload_n (pc := 55) (i := 1) d_X4_link_55 rfl rfl ?_
          refine Tr.iald (pc := 56) d_X4_link_56 (ty_39 hS.1.1) (by omega) (by omega) ?_
          refine Tr.gen (P := fun v => (-2147483648) ≤ v ∧ v ≤ 2147483647) (ar_39 hS.1.2.1 _) (fun r56 er56 br56 => ?_)
          have J80 : ∀ (M : Mem), St Tru ws_X4_link_35 as_X4_link_35 M0 M → rd M 35 0 = r5 → rd M 35 11 = r9 → rd M 36 p15_1 = r39 → rd M 38 r5 = r9 → rd M 43 p15_1 = r30 → (∀ k : Int, 0 ≤ k → k < p15_1 → 0 ≤ rd M 39 k ∧ 0 ≤ rd M 40 k) → (0 ≤ rd M 39 p15_1) → Tr l K 1 mX4_link 80 [(0, (2, 35)), (1, (0, p15_1))] [] M (q_X4_link_35 M0) := by
            intro M  hS  k80_35_0 k80_35_11 k80_36_p15_110 k80_38_r510 k80_43_p15_110 tp80_0 tp80_1
            refine Tr.aload_n (pc := 80) (i := 0) d_X4_link_80 rfl rfl ?_
            refine Tr.getf (pc := 81) d_X4_link_81 f_4_24 (by decide) (by decide) (ty_35 hS.1.1) ?_
            refine Tr.tp 40 (fx_35_5 hS.1.1) ?_
            refine Tr.iload_n (pc := 84) (i := 1) d_X4_link_84 rfl rfl ?_
            refine Tr.iald (pc := 85) d_X4_link_85 (ty_40 hS.1.1) (by omega) (by omega) ?_
            refine Tr.gen (P := fun v => (-2147483648) ≤ v ∧ v ≤ 2147483647) (ar_40 hS.1.2.1 _) (fun r85 er85 br85 => ?_)
            have J101 : ∀ (M : Mem), St Tru ws_X4_link_35 as_X4_link_35 M0 M → rd M 35 0 = r5 → rd M 35 11 = r9 → rd M 36 p15_1 = r39 → rd M 38 r5 = r9 → rd M 43 p15_1 = r30 → (∀ k : Int, 0 ≤ k → k < p15_1 + 1 → 0 ≤ rd M 39 k ∧ 0 ≤ rd M 40 k) → Tr l K 1 mX4_link 101 [(0, (2, 35)), (1, (0, p15_1))] [] M (q_X4_link_35 M0) := by
              intro M  hS  k101_35_0 k101_35_11 k101_36_p15_110 k101_38_r510 k101_43_p15_110 tp101_0
              refine Tr.iincV (pc := 101) (n2 := (p15_1 + 1)) (ls2 := [(1, (0, (p15_1 + 1))), (0, (2, 35))]) d_X4_link_101 rfl (by decide) ((w32_id (by omega)).trans (by omega)) rfl ?_
              refine Tr.goto (pc := 104) (tgt := 15) d_X4_link_104 rfl ?_
              refine Tr.pick [1, 0] (ls2 := [(0, (2, 35)), (1, (0, (p15_1 + 1)))]) rfl ?_
              exact J15 _ _ hS (by omega) k101_35_0 k101_35_11 k101_38_r510 (fun k k0 k1 => tp101_0 k k0 (by omega)) (by omega)
            refine Tr.if_ge (pc := 86) (tgt := 101) d_X4_link_86 rfl (fun c86 => ?_) (fun c86 => ?_)
            · refine Tr.pick [0, 1] (ls2 := [(0, (2, 35)), (1, (0, p15_1))]) rfl ?_
              exact J101 _ hS k80_35_0 k80_35_11 k80_36_p15_110 k80_38_r510 k80_43_p15_110 (fun k k0 k1 => by by_cases hk : k = p15_1; rw [hk]; exact ⟨tp80_1, (by have h9 : rd M 40 p15_1 = r85 := er85; omega)⟩; exact tp80_0 k k0 (by omega))
            · refine Tr.aload_n (pc := 89) (i := 0) d_X4_link_89 rfl rfl ?_
              refine Tr.getf (pc := 90) d_X4_link_90 f_4_24 (by decide) (by decide) (ty_35 hS.1.1) ?_
              refine Tr.tp 40 (fx_35_5 hS.1.1) ?_
              refine Tr.iload_n (pc := 93) (i := 1) d_X4_link_93 rfl rfl ?_
              refine Tr.aload_n (pc := 94) (i := 0) d_X4_link_94 rfl rfl ?_
              refine Tr.getf (pc := 95) d_X4_link_95 f_4_33 (by decide) (by decide) (ty_35 hS.1.1) ?_
              refine Tr.tp 43 (fx_35_8 hS.1.1) ?_
              refine Tr.iload_n (pc := 98) (i := 1) d_X4_link_98 rfl rfl ?_
              refine Tr.iald (pc := 99) d_X4_link_99 (ty_43 hS.1.1) (by omega) (by omega) ?_
              refine Tr.tp r30 k80_43_p15_110 ?_
              refine Tr.iastS (pc := 100) (P := St Tru ws_X4_link_35 as_X4_link_35 M0) d_X4_link_100 (ty_40 hS.1.1) (by omega) (by omega) (sa_40 hS (by decide) (by omega) trivial) (fun M100 hS w100 => ?_)
              refine Tr.pick [0, 1] (ls2 := [(0, (2, 35)), (1, (0, p15_1))]) rfl ?_
              exact J101 _ hS ((Wr.b w100 rfl).trans k80_35_0) ((Wr.b w100 rfl).trans k80_35_11) ((Wr.b w100 rfl).trans k80_36_p15_110) ((Wr.b w100 rfl).trans k80_38_r510) ((Wr.b w100 rfl).trans k80_43_p15_110) (fun k k0 k1 => by by_cases hk : k = p15_1; rw [hk, show rd M100 39 p15_1 = rd M 39 p15_1 from ((Wr.b w100 rfl).trans rfl), w100.1]; exact ⟨tp80_1, by omega⟩; rw [Wr.i (y := 39) w100 hk, Wr.i (y := 40) w100 hk]; exact tp80_0 k k0 (by omega))
          refine Tr.if_ge (pc := 57) (tgt := 80) d_X4_link_57 rfl (fun c57 => ?_) (fun c57 => ?_)
          · refine Tr.pick [1, 2] (ls2 := [(0, (2, 35)), (1, (0, p15_1))]) rfl ?_
            exact J80 _ hS k50_35_0 k50_35_11 k50_36_p15_110 k50_38_r510 k50_43_p15_110 (fun k k0 k1 => tp50_0 k k0 k1) (by have h9 : rd M 39 p15_1 = r56 := er56; omega)
          · refine Tr.aload_n (pc := 60) (i := 0) d_X4_link_60 rfl rfl ?_
            refine Tr.getf (pc := 61) d_X4_link_61 f_4_21 (by decide) (by decide) (ty_35 hS.1.1) ?_
            refine Tr.tp 39 (fx_35_4 hS.1.1) ?_
            refine Tr.iload_n (pc := 64) (i := 1) d_X4_link_64 rfl rfl ?_
            refine Tr.iload_n (pc := 65) (i := 2) d_X4_link_65 rfl rfl ?_
            have J79 : ∀ (M : Mem) (q79_2 : Int), St Tru ws_X4_link_35 as_X4_link_35 M0 M → (0 ≤ q79_2 ∧ q79_2 ≤ 60) → rd M 35 0 = r5 → rd M 35 11 = r9 → rd M 36 p15_1 = r39 → rd M 38 r5 = r9 → rd M 39 p15_1 = r56 → rd M 43 p15_1 = r30 → (p15_1 = p15_1) → (∀ k : Int, 0 ≤ k → k < p15_1 → 0 ≤ rd M 39 k ∧ 0 ≤ rd M 40 k) → Tr l K 1 mX4_link 79 [(0, (2, 35)), (1, (0, p15_1))] [(0, q79_2), (0, p15_1), (2, 39)] M (q_X4_link_35 M0) := by
              intro M q79_2 hS bq79_2 k79_35_0 k79_35_11 k79_36_p15_110 k79_38_r510 k79_39_p15_110 k79_43_p15_110 t79_0 tp79_0
              refine Tr.iastS (pc := 79) (P := St Tru ws_X4_link_35 as_X4_link_35 M0) d_X4_link_79 (ty_39 hS.1.1) (by omega) (by omega) (sa_39 hS (by decide) (by omega) trivial) (fun M79 hS w79 => ?_)
              refine Tr.pick [0, 1] (ls2 := [(0, (2, 35)), (1, (0, p15_1))]) rfl ?_
              exact J80 _ hS ((Wr.b w79 rfl).trans k79_35_0) ((Wr.b w79 rfl).trans k79_35_11) ((Wr.b w79 rfl).trans k79_36_p15_110) ((Wr.b w79 rfl).trans k79_38_r510) ((Wr.b w79 rfl).trans k79_43_p15_110) (fun k k0 k1 => by rw [Wr.i (y := 39) w79 (show k ≠ p15_1 by omega), Wr.i (y := 40) w79 (show k ≠ p15_1 by omega)]; exact tp79_0 k k0 k1) (by rw [w79.1]; omega)
            refine Tr.if_eq (pc := 66) (tgt := 73) d_X4_link_66 rfl (fun c66 => ?_) (fun c66 => ?_)
            · refine Tr.aload_n (pc := 73) (i := 0) d_X4_link_73 rfl rfl ?_
              refine Tr.getf (pc := 74) d_X4_link_74 f_4_33 (by decide) (by decide) (ty_35 hS.1.1) ?_
              refine Tr.tp 43 (fx_35_8 hS.1.1) ?_
              refine Tr.iload_n (pc := 77) (i := 1) d_X4_link_77 rfl rfl ?_
              refine Tr.iald (pc := 78) d_X4_link_78 (ty_43 hS.1.1) (by omega) (by omega) ?_
              refine Tr.tp r30 k50_43_p15_110 ?_
              refine Tr.pick [1, 2] (ls2 := [(0, (2, 35)), (1, (0, p15_1))]) rfl ?_
              exact J79 _ _ hS (by omega) k50_35_0 k50_35_11 k50_36_p15_110 k50_38_r510 er56 k50_43_p15_110 (by omega) (fun k k0 k1 => tp50_0 k k0 k1)
            · refine Tr.iload_n (pc := 69) (i := 1) d_X4_link_69 rfl rfl ?_
              refine Tr.goto (pc := 70) (tgt := 79) d_X4_link_70 rfl ?_
              refine Tr.pick [1, 2] (ls2 := [(0, (2, 35)), (1, (0, p15_1))]) rfl ?_
              exact J79 _ _ hS (by omega) k50_35_0 k50_35_11 k50_36_p15_110 k50_38_r510 er56 k50_43_p15_110 (by omega) (fun k k0 k1 => tp50_0 k k0 k1)
        refine Tr.icmp_ne (pc := 42) (tgt := 49) d_X4_link_42 rfl (fun c42 => ?_) (fun c42 => ?_)
        · refine Tr.iconst (pc := 49) d_X4_link_49 (by decide) ?_
          refine Tr.pick [0, 1] (ls2 := [(0, (2, 35)), (1, (0, p15_1))]) rfl ?_
          exact J50 _ _ hS (by omega) ((Wr.b w33 rfl).trans ((St.kp h30 (by decide) (by decide) (by decide)).trans k15_35_0)) ((Wr.b w33 rfl).trans ((St.kp h30 (by decide) (by decide) (by decide)).trans k15_35_11)) er39 ((Wr.b w33 rfl).trans ((St.ka h30 (by decide) (by decide) (by decide)).trans k15_38_r510)) w33.1 (fun k k0 k1 => by rw [show rd M33 39 k = rd M 39 k from ((Wr.b w33 rfl).trans ((St.ka h30 (by decide) (by decide) (by decide)).trans rfl)), show rd M33 40 k = rd M 40 k from ((Wr.b w33 rfl).trans ((St.ka h30 (by decide) (by decide) (by decide)).trans rfl))]; exact tp15_0 k k0 k1)
        · refine Tr.iconst (pc := 45) d_X4_link_45 (by decide) ?_
          refine Tr.goto (pc := 46) (tgt := 50) d_X4_link_46 rfl ?_
          refine Tr.pick [0, 1] (ls2 := [(0, (2, 35)), (1, (0, p15_1))]) rfl ?_
          exact J50 _ _ hS (by omega) ((Wr.b w33 rfl).trans ((St.kp h30 (by decide) (by decide) (by decide)).trans k15_35_0)) ((Wr.b w33 rfl).trans ((St.kp h30 (by decide) (by decide) (by decide)).trans k15_35_11)) er39 ((Wr.b w33 rfl).trans ((St.ka h30 (by decide) (by decide) (by decide)).trans k15_38_r510)) w33.1 (fun k k0 k1 => by rw [show rd M33 39 k = rd M 39 k from ((Wr.b w33 rfl).trans ((St.ka h30 (by decide) (by decide) (by decide)).trans rfl)), show rd M33 40 k = rd M 40 k from ((Wr.b w33 rfl).trans ((St.ka h30 (by decide) (by decide) (by decide)).trans rfl))]; exact tp15_0 k k0 k1)
  refine Tr.pick [1, 0] (ls2 := [(0, (2, 35)), (1, (0, 0))]) rfl ?_
  exact J15 _ _ _ hS (by omega) ((Wr.b w12 rfl).trans er5) ((Wr.b w12 rfl).trans er9) w12.1 (fun k k0 k1 => absurd k1 (by omega)) (Nat.lt_succ_self _)

def ws_X10_clear_103 : List (Int × Int) := [(103, 0)]
def as_X10_clear_103 : List Int := []
def q_X10_clear_103 (M0 M' : Mem) (r : Option PV) : Prop := St Tru ws_X10_clear_103 as_X10_clear_103 M0 M' ∧ r = none
set_option maxRecDepth 100000 in
set_option maxHeartbeats 4000000 in
theorem sp_X10_clear_103 {l : Launch} {K : EC} {M0 : Mem} (hI : In Tru M0)    : Tr l K 0 mX10_clear 0 [(0, (2, 103))] [] M0 (q_X10_clear_103 M0) := by
  have hS : St Tru ws_X10_clear_103 as_X10_clear_103 M0 M0 := St.rf hI
  refine Tr.aload_n (pc := 0) (i := 0) d_X10_clear_0 rfl rfl ?_
  refine Tr.iconst (pc := 1) d_X10_clear_1 (by decide) ?_
  refine Tr.putzS (pc := 2) (P := St Tru ws_X10_clear_103 as_X10_clear_103 M0) d_X10_clear_2 f_10_21 (by decide) (ty_103 hS.1.1) (by omega) (st_103_0 hS (by decide) (by omega) trivial) (fun M2 hS w2 => ?_)
  exact Tr.vret (pc := 5) d_X10_clear_5 rfl ⟨hS, rfl⟩
