def ws_X5_isSign_6_w1 : List (Int × Int) := []
def as_X5_isSign_6_w1 : List Int := []
def q_X5_isSign_6_w1 (M0 M' : Mem) (r : Option PV) : Prop := St Tru ws_X5_isSign_6_w1 as_X5_isSign_6_w1 M0 M' ∧ ∃ v : Int, r = some (0, v) ∧ 0 ≤ v ∧ v ≤ 1
set_option maxRecDepth 100000 in
set_option maxHeartbeats 4000000 in
theorem sp_X5_isSign_6_w1 {l : Launch} {K : EC} {M0 : Mem} (hI : In Tru M0) (en_6_2 : rd M0 6 2 = 2) (a1 : Int) (ha1 : 64 ≤ a1 ∧ a1 ≤ 99)  : Tr l K 0 mX5_isSign 0 [(0, (2, 6)), (1, (0, a1))] [] M0 (q_X5_isSign_6_w1 M0) := by
  have hS : St Tru ws_X5_isSign_6_w1 as_X5_isSign_6_w1 M0 M0 := St.rf hI
  refine Tr.aload_n (pc := 0) (i := 0) d_X5_isSign_0 rfl rfl ?_
  refine Tr.getf (pc := 1) d_X5_isSign_1 f_5_18 (by decide) (by decide) (ty_6 hS.1.1) ?_
  refine Tr.tp 2 ((St.kp hS (by decide) (by decide) (by decide)).trans en_6_2) ?_
  refine Tr.getf (pc := 4) d_X5_isSign_4 f_5_50 (by decide) (by decide) (ty_2 hS.1.1) ?_
  refine Tr.tp 3 (fx_2_0 hS.1.1) ?_
  refine Tr.aload_n (pc := 7) (i := 0) d_X5_isSign_7 rfl rfl ?_
  refine Tr.getf (pc := 8) d_X5_isSign_8 f_5_36 (by decide) (by decide) (ty_6 hS.1.1) ?_
  refine Tr.gen (P := fun v => 0 ≤ v ∧ v ≤ 900) (ir_6_5 hS.1.2.1) (fun r8 er8 br8 => ?_)
  refine Tr.iald (pc := 11) d_X5_isSign_11 (ty_3 hS.1.1) (by omega) (by omega) ?_
  refine Tr.gen (P := fun v => (-2147483648) ≤ v ∧ v ≤ 2147483647) (ar_3 hS.1.2.1 _) (fun r11 er11 br11 => ?_)
  refine Tr.iconst (pc := 12) d_X5_isSign_12 (by decide) ?_
  refine Tr.icmp_ne (pc := 13) (tgt := 36) d_X5_isSign_13 rfl (fun c13 => ?_) (fun c13 => ?_)
  · refine Tr.iconst (pc := 36) d_X5_isSign_36 (by decide) ?_
    exact Tr.zret (pc := 37) d_X5_isSign_37 rfl (by omega) ⟨hS, _, rfl, by omega, by omega⟩
  · refine Tr.aload_n (pc := 16) (i := 0) d_X5_isSign_16 rfl rfl ?_
    refine Tr.getf (pc := 17) d_X5_isSign_17 f_5_18 (by decide) (by decide) (ty_6 hS.1.1) ?_
    refine Tr.tp 2 ((St.kp hS (by decide) (by decide) (by decide)).trans en_6_2) ?_
    refine Tr.getf (pc := 20) d_X5_isSign_20 f_5_68 (by decide) (by decide) (ty_2 hS.1.1) ?_
    refine Tr.tp 5 (fx_2_2 hS.1.1) ?_
    refine Tr.aload_n (pc := 23) (i := 0) d_X5_isSign_23 rfl rfl ?_
    refine Tr.getf (pc := 24) d_X5_isSign_24 f_5_36 (by decide) (by decide) (ty_6 hS.1.1) ?_
    refine Tr.tp r8 er8 ?_
    refine Tr.iald (pc := 27) d_X5_isSign_27 (ty_5 hS.1.1) (by omega) (by omega) ?_
    refine Tr.gen (P := fun v => (-2147483648) ≤ v ∧ v ≤ 2147483647) (ar_5 hS.1.2.1 _) (fun r27 er27 br27 => ?_)
    refine Tr.iload_n (pc := 28) (i := 1) d_X5_isSign_28 rfl rfl ?_
    refine Tr.icmp_ne (pc := 29) (tgt := 36) d_X5_isSign_29 rfl (fun c29 => ?_) (fun c29 => ?_)
    · refine Tr.iconst (pc := 36) d_X5_isSign_36 (by decide) ?_
      exact Tr.zret (pc := 37) d_X5_isSign_37 rfl (by omega) ⟨hS, _, rfl, by omega, by omega⟩
    · refine Tr.iconst (pc := 32) d_X5_isSign_32 (by decide) ?_
      refine Tr.goto (pc := 33) (tgt := 37) d_X5_isSign_33 rfl ?_
      exact Tr.zret (pc := 37) d_X5_isSign_37 rfl (by omega) ⟨hS, _, rfl, by omega, by omega⟩

def ws_X5_isSign_6_w2 : List (Int × Int) := []
def as_X5_isSign_6_w2 : List Int := []
def q_X5_isSign_6_w2 (M0 M' : Mem) (r : Option PV) : Prop := St Tru ws_X5_isSign_6_w2 as_X5_isSign_6_w2 M0 M' ∧ ∃ v : Int, r = some (0, v) ∧ 0 ≤ v ∧ v ≤ 1
set_option maxRecDepth 100000 in
set_option maxHeartbeats 4000000 in
theorem sp_X5_isSign_6_w2 {l : Launch} {K : EC} {M0 : Mem} (hI : In Tru M0) (en_6_2 : rd M0 6 2 = 2) (a1 : Int) (ha1 : 20 ≤ a1 ∧ a1 ≤ 50)  : Tr l K 0 mX5_isSign 0 [(0, (2, 6)), (1, (0, a1))] [] M0 (q_X5_isSign_6_w2 M0) := by
  have hS : St Tru ws_X5_isSign_6_w2 as_X5_isSign_6_w2 M0 M0 := St.rf hI
  refine Tr.aload_n (pc := 0) (i := 0) d_X5_isSign_0 rfl rfl ?_
  refine Tr.getf (pc := 1) d_X5_isSign_1 f_5_18 (by decide) (by decide) (ty_6 hS.1.1) ?_
  refine Tr.tp 2 ((St.kp hS (by decide) (by decide) (by decide)).trans en_6_2) ?_
  refine Tr.getf (pc := 4) d_X5_isSign_4 f_5_50 (by decide) (by decide) (ty_2 hS.1.1) ?_
  refine Tr.tp 3 (fx_2_0 hS.1.1) ?_
  refine Tr.aload_n (pc := 7) (i := 0) d_X5_isSign_7 rfl rfl ?_
  refine Tr.getf (pc := 8) d_X5_isSign_8 f_5_36 (by decide) (by decide) (ty_6 hS.1.1) ?_
  refine Tr.gen (P := fun v => 0 ≤ v ∧ v ≤ 900) (ir_6_5 hS.1.2.1) (fun r8 er8 br8 => ?_)
  refine Tr.iald (pc := 11) d_X5_isSign_11 (ty_3 hS.1.1) (by omega) (by omega) ?_
  refine Tr.gen (P := fun v => (-2147483648) ≤ v ∧ v ≤ 2147483647) (ar_3 hS.1.2.1 _) (fun r11 er11 br11 => ?_)
  refine Tr.iconst (pc := 12) d_X5_isSign_12 (by decide) ?_
  refine Tr.icmp_ne (pc := 13) (tgt := 36) d_X5_isSign_13 rfl (fun c13 => ?_) (fun c13 => ?_)
  · refine Tr.iconst (pc := 36) d_X5_isSign_36 (by decide) ?_
    exact Tr.zret (pc := 37) d_X5_isSign_37 rfl (by omega) ⟨hS, _, rfl, by omega, by omega⟩
  · refine Tr.aload_n (pc := 16) (i := 0) d_X5_isSign_16 rfl rfl ?_
    refine Tr.getf (pc := 17) d_X5_isSign_17 f_5_18 (by decide) (by decide) (ty_6 hS.1.1) ?_
    refine Tr.tp 2 ((St.kp hS (by decide) (by decide) (by decide)).trans en_6_2) ?_
    refine Tr.getf (pc := 20) d_X5_isSign_20 f_5_68 (by decide) (by decide) (ty_2 hS.1.1) ?_
    refine Tr.tp 5 (fx_2_2 hS.1.1) ?_
    refine Tr.aload_n (pc := 23) (i := 0) d_X5_isSign_23 rfl rfl ?_
    refine Tr.getf (pc := 24) d_X5_isSign_24 f_5_36 (by decide) (by decide) (ty_6 hS.1.1) ?_
    refine Tr.tp r8 er8 ?_
    refine Tr.iald (pc := 27) d_X5_isSign_27 (ty_5 hS.1.1) (by omega) (by omega) ?_
    refine Tr.gen (P := fun v => (-2147483648) ≤ v ∧ v ≤ 2147483647) (ar_5 hS.1.2.1 _) (fun r27 er27 br27 => ?_)
    refine Tr.iload_n (pc := 28) (i := 1) d_X5_isSign_28 rfl rfl ?_
    refine Tr.icmp_ne (pc := 29) (tgt := 36) d_X5_isSign_29 rfl (fun c29 => ?_) (fun c29 => ?_)
    · refine Tr.iconst (pc := 36) d_X5_isSign_36 (by decide) ?_
      exact Tr.zret (pc := 37) d_X5_isSign_37 rfl (by omega) ⟨hS, _, rfl, by omega, by omega⟩
    · refine Tr.iconst (pc := 32) d_X5_isSign_32 (by decide) ?_
      refine Tr.goto (pc := 33) (tgt := 37) d_X5_isSign_33 rfl ?_
      exact Tr.zret (pc := 37) d_X5_isSign_37 rfl (by omega) ⟨hS, _, rfl, by omega, by omega⟩

def ws_X4_emit_35 : List (Int × Int) := [(35, 11)]
def as_X4_emit_35 : List Int := [44, 45]
def q_X4_emit_35 (M0 M' : Mem) (r : Option PV) : Prop := St Tru ws_X4_emit_35 as_X4_emit_35 M0 M' ∧ r = none
set_option maxRecDepth 100000 in
set_option maxHeartbeats 4000000 in
theorem sp_X4_emit_35 {l : Launch} {K : EC} {M0 : Mem} (hI : In Tru M0)  (a1 : Int) (ha1 : 3 ≤ a1 ∧ a1 ≤ 3) (a2 : Int) (ha2 : 0 ≤ a2 ∧ a2 ≤ 0) (hp0 : (a1 = 1 → 0 ≤ a2 ∧ a2 ≤ 2) ∧ (a1 = 2 ∨ a1 = 4 → 0 ≤ a2 ∧ a2 ≤ 5)) : Tr l K 0 mX4_emit 0 [(0, (2, 35)), (1, (0, a1)), (2, (0, a2))] [] M0 (q_X4_emit_35 M0) := by
  have hS : St Tru ws_X4_emit_35 as_X4_emit_35 M0 M0 := St.rf hI
  refine Tr.aload_n (pc := 0) (i := 0) d_X4_emit_0 rfl rfl ?_
  refine Tr.getf (pc := 1) d_X4_emit_1 f_4_49 (by decide) (by decide) (ty_35 hS.1.1) ?_
  refine Tr.gen (P := fun v => 0 ≤ v ∧ v ≤ 900) (ir_35_11 hS.1.2.1) (fun r1 er1 br1 => ?_)
  refine Tr.sipush (pc := 4) d_X4_emit_4 rfl (by decide) ?_
  refine Tr.icmp_ge (pc := 7) (tgt := 40) d_X4_emit_7 rfl (fun c7 => ?_) (fun c7 => ?_)
  · exact Tr.vret (pc := 40) d_X4_emit_40 rfl ⟨hS, rfl⟩
  · refine Tr.aload_n (pc := 10) (i := 0) d_X4_emit_10 rfl rfl ?_
    refine Tr.getf (pc := 11) d_X4_emit_11 f_4_36 (by decide) (by decide) (ty_35 hS.1.1) ?_
    refine Tr.tp 44 (fx_35_9 hS.1.1) ?_
    refine Tr.aload_n (pc := 14) (i := 0) d_X4_emit_14 rfl rfl ?_
    refine Tr.getf (pc := 15) d_X4_emit_15 f_4_49 (by decide) (by decide) (ty_35 hS.1.1) ?_
    refine Tr.tp r1 er1 ?_
    refine Tr.iload_n (pc := 18) (i := 1) d_X4_emit_18 rfl rfl ?_
    refine Tr.iast (pc := 19) d_X4_emit_19 (ty_44 hS.1.1) (by omega) (by omega) ?_
    refine Tr.aload_n (pc := 20) (i := 0) d_X4_emit_20 rfl rfl ?_
    refine Tr.getf (pc := 21) d_X4_emit_21 f_4_39 (by decide) (by decide) (show mT (wr M0 44 r1 a1) 35 = (4, 13) from ty_35 (M := M0) hS.1.1) ?_
    refine Tr.tp 45 ((rd_wb _ rfl).trans (fx_35_10 (M := M0) hS.1.1)) ?_
    refine Tr.aload_n (pc := 24) (i := 0) d_X4_emit_24 rfl rfl ?_
    refine Tr.getf (pc := 25) d_X4_emit_25 f_4_49 (by decide) (by decide) (show mT (wr M0 44 r1 a1) 35 = (4, 13) from ty_35 (M := M0) hS.1.1) ?_
    refine Tr.tp r1 ((rd_wb _ rfl).trans er1) ?_
    refine Tr.iload_n (pc := 28) (i := 2) d_X4_emit_28 rfl rfl ?_
    refine Tr.iastS (pc := 29) (P := St Tru ws_X4_emit_35 as_X4_emit_35 M0) d_X4_emit_29 (show mT (wr M0 44 r1 a1) 45 = (20, 900) from ty_45 (M := M0) hS.1.1) (by omega) (by omega) (St.two (x := 44) (y := 45) 35 36 hS (by decide) hp0 (by decide) (by decide) rfl (by decide +kernel) (by decide +kernel) (by decide +kernel) (by omega) rfl (by decide +kernel) (by decide +kernel) (by decide +kernel) (by omega) trivial) (fun M29 hS w29 => ?_)
    refine Tr.aload_n (pc := 30) (i := 0) d_X4_emit_30 rfl rfl ?_
    refine Tr.dup (pc := 31) d_X4_emit_31 ne21 ?_
    refine Tr.getf (pc := 32) d_X4_emit_32 f_4_49 (by decide) (by decide) (ty_35 hS.1.1) ?_
    refine Tr.tp r1 ((Wr.b w29 rfl).trans ((rd_wb _ rfl).trans er1)) ?_
    refine Tr.iconst (pc := 35) d_X4_emit_35 (by decide) ?_
    refine Tr.iadd (pc := 36) d_X4_emit_36 ?_
    refine Tr.tp (r1 + 1) ((w32_id (by omega)).trans (by omega)) ?_
    refine Tr.putfS (pc := 37) (P := St Tru ws_X4_emit_35 as_X4_emit_35 M0) d_X4_emit_37 f_4_49 (by decide) (by decide) (ty_35 hS.1.1) (st_35_11 hS (by decide) (by omega) trivial) (fun M37 hS w37 => ?_)
    exact Tr.vret (pc := 40) d_X4_emit_40 rfl ⟨hS, rfl⟩

def ws_X5_takeOpening_6 : List (Int × Int) := [(6, 0), (6, 1), (6, 5), (6, 6)]
def as_X5_takeOpening_6 : List Int := []
def q_X5_takeOpening_6 (M0 M' : Mem) (r : Option PV) : Prop := St Tru ws_X5_takeOpening_6 as_X5_takeOpening_6 M0 M' ∧ ∃ v : Int, r = some (0, v) ∧ 0 ≤ v ∧ v ≤ 1 ∧ ((1 ≤ v ∧ v ≤ 1) → rd M' 6 6 = 1)
set_option maxRecDepth 100000 in
set_option maxHeartbeats 4000000 in
theorem sp_X5_takeOpening_6 {l : Launch} {K : EC} {M0 : Mem} (hI : In Tru M0) (en_6_2 : rd M0 6 2 = 2) (en_6_6 : rd M0 6 6 = 0) (a1 : Int) (ha1 : 20 ≤ a1 ∧ a1 ≤ 50)  : Tr l K 1 mX5_takeOpening 0 [(0, (2, 6)), (1, (0, a1))] [] M0 (q_X5_takeOpening_6 M0) := by
  have hS : St Tru ws_X5_takeOpening_6 as_X5_takeOpening_6 M0 M0 := St.rf hI
  refine Tr.aload_n (pc := 0) (i := 0) d_X5_takeOpening_0 rfl rfl ?_
  refine Tr.iload_n (pc := 1) (i := 1) d_X5_takeOpening_1 rfl rfl ?_
  refine Tr.callV (pc := 2) (as := [_]) d_X5_takeOpening_2 s_5_77 ok_X5_isSign rfl rfl (Nat.le_of_ble_eq_true rfl) (Nat.le_of_ble_eq_true rfl) (by decide) (ty_6 hS.1.1) ?_
  refine Tr.imp (Tr.deep (by decide) (sp_X5_isSign_6_w2 hS.1 ((St.kp hS (by decide) (by decide) (by decide)).trans en_6_2) a1 (by omega))) ?_
  rintro M2 _ ⟨h2, r2, rfl, lr2, ur2⟩
  have hS := St.tr hS h2 (by decide) (by decide)
  refine Tr.sc [(0, r2)] rfl ?_
  refine Tr.if_ne (pc := 5) (tgt := 14) d_X5_takeOpening_5 rfl (fun c5 => ?_) (fun c5 => ?_)
  · refine Tr.aload_n (pc := 14) (i := 0) d_X5_takeOpening_14 rfl rfl ?_
    refine Tr.getf (pc := 15) d_X5_takeOpening_15 f_5_39 (by decide) (by decide) (ty_6 hS.1.1) ?_
    refine Tr.tp 0 ((St.kp h2 (by decide) (by decide) (by decide)).trans en_6_6) ?_
    refine Tr.bipush (pc := 18) d_X5_takeOpening_18 rfl (by decide) ?_
    refine Tr.icmp_ne (pc := 20) (tgt := 29) d_X5_takeOpening_20 rfl (fun _ => ?_) (fun hc => absurd hc (by omega))
    refine Tr.aload_n (pc := 29) (i := 0) d_X5_takeOpening_29 rfl rfl ?_
    refine Tr.dup (pc := 30) d_X5_takeOpening_30 ne21 ?_
    refine Tr.getf (pc := 31) d_X5_takeOpening_31 f_5_39 (by decide) (by decide) (ty_6 hS.1.1) ?_
    refine Tr.tp 0 ((St.kp h2 (by decide) (by decide) (by decide)).trans en_6_6) ?_
    refine Tr.iconst (pc := 34) d_X5_takeOpening_34 (by decide) ?_
    refine Tr.iadd (pc := 35) d_X5_takeOpening_35 ?_
    refine Tr.tp 1 (by decide) ?_
    refine Tr.putfS (pc := 36) (P := St Tru ws_X5_takeOpening_6 as_X5_takeOpening_6 M0) d_X5_takeOpening_36 f_5_39 (by decide) (by decide) (ty_6 hS.1.1) (st_6_6 hS (by decide) (by omega) trivial) (fun M36 hS w36 => ?_)
    refine Tr.aload_n (pc := 39) (i := 0) d_X5_takeOpening_39 rfl rfl ?_
    refine Tr.callV (pc := 40) (as := []) d_X5_takeOpening_40 s_5_74 ok_X5_goOn rfl rfl (Nat.le_of_ble_eq_true rfl) (Nat.le_of_ble_eq_true rfl) (by decide) (ty_6 hS.1.1) ?_
    refine Tr.imp (Tr.deep (by decide) (sp_X5_goOn_6 hS.1 )) ?_
    rintro M40 _ ⟨h40, r40, rfl, lr40, ur40⟩
    have hS := St.tr hS h40 (by decide) (by decide)
    refine Tr.sc [(0, r40)] rfl ?_
    exact Tr.zret (pc := 43) d_X5_takeOpening_43 rfl (by omega) ⟨hS, _, rfl, by omega, by omega, fun _ => ((St.kp h40 (by decide) (by decide) (by decide)).trans w36.1)⟩
  · refine Tr.aload_n (pc := 8) (i := 0) d_X5_takeOpening_8 rfl rfl ?_
    refine Tr.iconst (pc := 9) d_X5_takeOpening_9 (by decide) ?_
    refine Tr.callV (pc := 10) (as := [_]) d_X5_takeOpening_10 s_5_56 ok_X5_refuse rfl rfl (Nat.le_of_ble_eq_true rfl) (Nat.le_of_ble_eq_true rfl) (by decide) (ty_6 hS.1.1) ?_
    refine Tr.imp (Tr.deep (by decide) (sp_X5_refuse_6_w1 hS.1 ((St.kp hS (by decide) (by decide) (by decide)).trans en_6_2) 1 (by omega))) ?_
    rintro M10 _ ⟨h10, r10, rfl, lr10, ur10⟩
    have hS := St.tr hS h10 (by decide) (by decide)
    refine Tr.sc [(0, r10)] rfl ?_
    exact Tr.zret (pc := 13) d_X5_takeOpening_13 rfl (by omega) ⟨hS, _, rfl, by omega, by omega, fun hq => absurd hq (by omega)⟩

def ws_X5_takeOpening_6_w1 : List (Int × Int) := [(6, 0), (6, 1), (6, 5), (6, 6)]
def as_X5_takeOpening_6_w1 : List Int := []
def q_X5_takeOpening_6_w1 (M0 M' : Mem) (r : Option PV) : Prop := St Tru ws_X5_takeOpening_6_w1 as_X5_takeOpening_6_w1 M0 M' ∧ ∃ v : Int, r = some (0, v) ∧ 0 ≤ v ∧ v ≤ 1 ∧ ((1 ≤ v ∧ v ≤ 1) → rd M' 6 6 = 2)
set_option maxRecDepth 100000 in
set_option maxHeartbeats 4000000 in
theorem sp_X5_takeOpening_6_w1 {l : Launch} {K : EC} {M0 : Mem} (hI : In Tru M0) (en_6_2 : rd M0 6 2 = 2) (en_6_6 : rd M0 6 6 = 1) (a1 : Int) (ha1 : 20 ≤ a1 ∧ a1 ≤ 50)  : Tr l K 1 mX5_takeOpening 0 [(0, (2, 6)), (1, (0, a1))] [] M0 (q_X5_takeOpening_6_w1 M0) := by
  have hS : St Tru ws_X5_takeOpening_6_w1 as_X5_takeOpening_6_w1 M0 M0 := St.rf hI
  refine Tr.aload_n (pc := 0) (i := 0) d_X5_takeOpening_0 rfl rfl ?_
  refine Tr.iload_n (pc := 1) (i := 1) d_X5_takeOpening_1 rfl rfl ?_
  refine Tr.callV (pc := 2) (as := [_]) d_X5_takeOpening_2 s_5_77 ok_X5_isSign rfl rfl (Nat.le_of_ble_eq_true rfl) (Nat.le_of_ble_eq_true rfl) (by decide) (ty_6 hS.1.1) ?_
  refine Tr.imp (Tr.deep (by decide) (sp_X5_isSign_6_w2 hS.1 ((St.kp hS (by decide) (by decide) (by decide)).trans en_6_2) a1 (by omega))) ?_
  rintro M2 _ ⟨h2, r2, rfl, lr2, ur2⟩
  have hS := St.tr hS h2 (by decide) (by decide)
  refine Tr.sc [(0, r2)] rfl ?_
  refine Tr.if_ne (pc := 5) (tgt := 14) d_X5_takeOpening_5 rfl (fun c5 => ?_) (fun c5 => ?_)
  · refine Tr.aload_n (pc := 14) (i := 0) d_X5_takeOpening_14 rfl rfl ?_
    refine Tr.getf (pc := 15) d_X5_takeOpening_15 f_5_39 (by decide) (by decide) (ty_6 hS.1.1) ?_
    refine Tr.tp 1 ((St.kp h2 (by decide) (by decide) (by decide)).trans en_6_6) ?_
    refine Tr.bipush (pc := 18) d_X5_takeOpening_18 rfl (by decide) ?_
    refine Tr.icmp_ne (pc := 20) (tgt := 29) d_X5_takeOpening_20 rfl (fun _ => ?_) (fun hc => absurd hc (by omega))
    refine Tr.aload_n (pc := 29) (i := 0) d_X5_takeOpening_29 rfl rfl ?_
    refine Tr.dup (pc := 30) d_X5_takeOpening_30 ne21 ?_
    refine Tr.getf (pc := 31) d_X5_takeOpening_31 f_5_39 (by decide) (by decide) (ty_6 hS.1.1) ?_
    refine Tr.tp 1 ((St.kp h2 (by decide) (by decide) (by decide)).trans en_6_6) ?_
    refine Tr.iconst (pc := 34) d_X5_takeOpening_34 (by decide) ?_
    refine Tr.iadd (pc := 35) d_X5_takeOpening_35 ?_
    refine Tr.tp 2 (by decide) ?_
    refine Tr.putfS (pc := 36) (P := St Tru ws_X5_takeOpening_6_w1 as_X5_takeOpening_6_w1 M0) d_X5_takeOpening_36 f_5_39 (by decide) (by decide) (ty_6 hS.1.1) (st_6_6 hS (by decide) (by omega) trivial) (fun M36 hS w36 => ?_)
    refine Tr.aload_n (pc := 39) (i := 0) d_X5_takeOpening_39 rfl rfl ?_
    refine Tr.callV (pc := 40) (as := []) d_X5_takeOpening_40 s_5_74 ok_X5_goOn rfl rfl (Nat.le_of_ble_eq_true rfl) (Nat.le_of_ble_eq_true rfl) (by decide) (ty_6 hS.1.1) ?_
    refine Tr.imp (Tr.deep (by decide) (sp_X5_goOn_6 hS.1 )) ?_
    rintro M40 _ ⟨h40, r40, rfl, lr40, ur40⟩
    have hS := St.tr hS h40 (by decide) (by decide)
    refine Tr.sc [(0, r40)] rfl ?_
    exact Tr.zret (pc := 43) d_X5_takeOpening_43 rfl (by omega) ⟨hS, _, rfl, by omega, by omega, fun _ => ((St.kp h40 (by decide) (by decide) (by decide)).trans w36.1)⟩
  · refine Tr.aload_n (pc := 8) (i := 0) d_X5_takeOpening_8 rfl rfl ?_
    refine Tr.iconst (pc := 9) d_X5_takeOpening_9 (by decide) ?_
    refine Tr.callV (pc := 10) (as := [_]) d_X5_takeOpening_10 s_5_56 ok_X5_refuse rfl rfl (Nat.le_of_ble_eq_true rfl) (Nat.le_of_ble_eq_true rfl) (by decide) (ty_6 hS.1.1) ?_
    refine Tr.imp (Tr.deep (by decide) (sp_X5_refuse_6_w1 hS.1 ((St.kp hS (by decide) (by decide) (by decide)).trans en_6_2) 1 (by omega))) ?_
    rintro M10 _ ⟨h10, r10, rfl, lr10, ur10⟩
    have hS := St.tr hS h10 (by decide) (by decide)
    refine Tr.sc [(0, r10)] rfl ?_
    exact Tr.zret (pc := 13) d_X5_takeOpening_13 rfl (by omega) ⟨hS, _, rfl, by omega, by omega, fun hq => absurd hq (by omega)⟩

def ws_X5_takeOpening_6_w2 : List (Int × Int) := [(6, 0), (6, 1), (6, 5), (6, 6)]
def as_X5_takeOpening_6_w2 : List Int := []
def q_X5_takeOpening_6_w2 (M0 M' : Mem) (r : Option PV) : Prop := St Tru ws_X5_takeOpening_6_w2 as_X5_takeOpening_6_w2 M0 M' ∧ ∃ v : Int, r = some (0, v) ∧ 0 ≤ v ∧ v ≤ 1 ∧ ((1 ≤ v ∧ v ≤ 1) → rd M' 6 6 = 3)
set_option maxRecDepth 100000 in
set_option maxHeartbeats 4000000 in
theorem sp_X5_takeOpening_6_w2 {l : Launch} {K : EC} {M0 : Mem} (hI : In Tru M0) (en_6_2 : rd M0 6 2 = 2) (en_6_6 : rd M0 6 6 = 2) (a1 : Int) (ha1 : 20 ≤ a1 ∧ a1 ≤ 50)  : Tr l K 1 mX5_takeOpening 0 [(0, (2, 6)), (1, (0, a1))] [] M0 (q_X5_takeOpening_6_w2 M0) := by
  have hS : St Tru ws_X5_takeOpening_6_w2 as_X5_takeOpening_6_w2 M0 M0 := St.rf hI
  refine Tr.aload_n (pc := 0) (i := 0) d_X5_takeOpening_0 rfl rfl ?_
  refine Tr.iload_n (pc := 1) (i := 1) d_X5_takeOpening_1 rfl rfl ?_
  refine Tr.callV (pc := 2) (as := [_]) d_X5_takeOpening_2 s_5_77 ok_X5_isSign rfl rfl (Nat.le_of_ble_eq_true rfl) (Nat.le_of_ble_eq_true rfl) (by decide) (ty_6 hS.1.1) ?_
  refine Tr.imp (Tr.deep (by decide) (sp_X5_isSign_6_w2 hS.1 ((St.kp hS (by decide) (by decide) (by decide)).trans en_6_2) a1 (by omega))) ?_
  rintro M2 _ ⟨h2, r2, rfl, lr2, ur2⟩
  have hS := St.tr hS h2 (by decide) (by decide)
  refine Tr.sc [(0, r2)] rfl ?_
  refine Tr.if_ne (pc := 5) (tgt := 14) d_X5_takeOpening_5 rfl (fun c5 => ?_) (fun c5 => ?_)
  · refine Tr.aload_n (pc := 14) (i := 0) d_X5_takeOpening_14 rfl rfl ?_
    refine Tr.getf (pc := 15) d_X5_takeOpening_15 f_5_39 (by decide) (by decide) (ty_6 hS.1.1) ?_
    refine Tr.tp 2 ((St.kp h2 (by decide) (by decide) (by decide)).trans en_6_6) ?_
    refine Tr.bipush (pc := 18) d_X5_takeOpening_18 rfl (by decide) ?_
    refine Tr.icmp_ne (pc := 20) (tgt := 29) d_X5_takeOpening_20 rfl (fun _ => ?_) (fun hc => absurd hc (by omega))
    refine Tr.aload_n (pc := 29) (i := 0) d_X5_takeOpening_29 rfl rfl ?_
    refine Tr.dup (pc := 30) d_X5_takeOpening_30 ne21 ?_
    refine Tr.getf (pc := 31) d_X5_takeOpening_31 f_5_39 (by decide) (by decide) (ty_6 hS.1.1) ?_
    refine Tr.tp 2 ((St.kp h2 (by decide) (by decide) (by decide)).trans en_6_6) ?_
    refine Tr.iconst (pc := 34) d_X5_takeOpening_34 (by decide) ?_
    refine Tr.iadd (pc := 35) d_X5_takeOpening_35 ?_
    refine Tr.tp 3 (by decide) ?_
    refine Tr.putfS (pc := 36) (P := St Tru ws_X5_takeOpening_6_w2 as_X5_takeOpening_6_w2 M0) d_X5_takeOpening_36 f_5_39 (by decide) (by decide) (ty_6 hS.1.1) (st_6_6 hS (by decide) (by omega) trivial) (fun M36 hS w36 => ?_)
    refine Tr.aload_n (pc := 39) (i := 0) d_X5_takeOpening_39 rfl rfl ?_
    refine Tr.callV (pc := 40) (as := []) d_X5_takeOpening_40 s_5_74 ok_X5_goOn rfl rfl (Nat.le_of_ble_eq_true rfl) (Nat.le_of_ble_eq_true rfl) (by decide) (ty_6 hS.1.1) ?_
    refine Tr.imp (Tr.deep (by decide) (sp_X5_goOn_6 hS.1 )) ?_
    rintro M40 _ ⟨h40, r40, rfl, lr40, ur40⟩
    have hS := St.tr hS h40 (by decide) (by decide)
    refine Tr.sc [(0, r40)] rfl ?_
    exact Tr.zret (pc := 43) d_X5_takeOpening_43 rfl (by omega) ⟨hS, _, rfl, by omega, by omega, fun _ => ((St.kp h40 (by decide) (by decide) (by decide)).trans w36.1)⟩
  · refine Tr.aload_n (pc := 8) (i := 0) d_X5_takeOpening_8 rfl rfl ?_
    refine Tr.iconst (pc := 9) d_X5_takeOpening_9 (by decide) ?_
    refine Tr.callV (pc := 10) (as := [_]) d_X5_takeOpening_10 s_5_56 ok_X5_refuse rfl rfl (Nat.le_of_ble_eq_true rfl) (Nat.le_of_ble_eq_true rfl) (by decide) (ty_6 hS.1.1) ?_
    refine Tr.imp (Tr.deep (by decide) (sp_X5_refuse_6_w1 hS.1 ((St.kp hS (by decide) (by decide) (by decide)).trans en_6_2) 1 (by omega))) ?_
    rintro M10 _ ⟨h10, r10, rfl, lr10, ur10⟩
    have hS := St.tr hS h10 (by decide) (by decide)
    refine Tr.sc [(0, r10)] rfl ?_
    exact Tr.zret (pc := 13) d_X5_takeOpening_13 rfl (by omega) ⟨hS, _, rfl, by omega, by omega, fun hq => absurd hq (by omega)⟩

def ws_X5_takeOpening_6_w3 : List (Int × Int) := [(6, 0), (6, 1), (6, 5), (6, 6)]
def as_X5_takeOpening_6_w3 : List Int := []
def q_X5_takeOpening_6_w3 (M0 M' : Mem) (r : Option PV) : Prop := St Tru ws_X5_takeOpening_6_w3 as_X5_takeOpening_6_w3 M0 M' ∧ ∃ v : Int, r = some (0, v) ∧ 0 ≤ v ∧ v ≤ 1 ∧ ((1 ≤ v ∧ v ≤ 1) → rd M' 6 6 = 4)
set_option maxRecDepth 100000 in
set_option maxHeartbeats 4000000 in
theorem sp_X5_takeOpening_6_w3 {l : Launch} {K : EC} {M0 : Mem} (hI : In Tru M0) (en_6_2 : rd M0 6 2 = 2) (en_6_6 : rd M0 6 6 = 3) (a1 : Int) (ha1 : 20 ≤ a1 ∧ a1 ≤ 50)  : Tr l K 1 mX5_takeOpening 0 [(0, (2, 6)), (1, (0, a1))] [] M0 (q_X5_takeOpening_6_w3 M0) := by
  have hS : St Tru ws_X5_takeOpening_6_w3 as_X5_takeOpening_6_w3 M0 M0 := St.rf hI
  refine Tr.aload_n (pc := 0) (i := 0) d_X5_takeOpening_0 rfl rfl ?_
  refine Tr.iload_n (pc := 1) (i := 1) d_X5_takeOpening_1 rfl rfl ?_
  refine Tr.callV (pc := 2) (as := [_]) d_X5_takeOpening_2 s_5_77 ok_X5_isSign rfl rfl (Nat.le_of_ble_eq_true rfl) (Nat.le_of_ble_eq_true rfl) (by decide) (ty_6 hS.1.1) ?_
  refine Tr.imp (Tr.deep (by decide) (sp_X5_isSign_6_w2 hS.1 ((St.kp hS (by decide) (by decide) (by decide)).trans en_6_2) a1 (by omega))) ?_
  rintro M2 _ ⟨h2, r2, rfl, lr2, ur2⟩
  have hS := St.tr hS h2 (by decide) (by decide)
  refine Tr.sc [(0, r2)] rfl ?_
  refine Tr.if_ne (pc := 5) (tgt := 14) d_X5_takeOpening_5 rfl (fun c5 => ?_) (fun c5 => ?_)
  · refine Tr.aload_n (pc := 14) (i := 0) d_X5_takeOpening_14 rfl rfl ?_
    refine Tr.getf (pc := 15) d_X5_takeOpening_15 f_5_39 (by decide) (by decide) (ty_6 hS.1.1) ?_
    refine Tr.tp 3 ((St.kp h2 (by decide) (by decide) (by decide)).trans en_6_6) ?_
    refine Tr.bipush (pc := 18) d_X5_takeOpening_18 rfl (by decide) ?_
    refine Tr.icmp_ne (pc := 20) (tgt := 29) d_X5_takeOpening_20 rfl (fun _ => ?_) (fun hc => absurd hc (by omega))
    refine Tr.aload_n (pc := 29) (i := 0) d_X5_takeOpening_29 rfl rfl ?_
    refine Tr.dup (pc := 30) d_X5_takeOpening_30 ne21 ?_
    refine Tr.getf (pc := 31) d_X5_takeOpening_31 f_5_39 (by decide) (by decide) (ty_6 hS.1.1) ?_
    refine Tr.tp 3 ((St.kp h2 (by decide) (by decide) (by decide)).trans en_6_6) ?_
    refine Tr.iconst (pc := 34) d_X5_takeOpening_34 (by decide) ?_
    refine Tr.iadd (pc := 35) d_X5_takeOpening_35 ?_
    refine Tr.tp 4 (by decide) ?_
    refine Tr.putfS (pc := 36) (P := St Tru ws_X5_takeOpening_6_w3 as_X5_takeOpening_6_w3 M0) d_X5_takeOpening_36 f_5_39 (by decide) (by decide) (ty_6 hS.1.1) (st_6_6 hS (by decide) (by omega) trivial) (fun M36 hS w36 => ?_)
    refine Tr.aload_n (pc := 39) (i := 0) d_X5_takeOpening_39 rfl rfl ?_
    refine Tr.callV (pc := 40) (as := []) d_X5_takeOpening_40 s_5_74 ok_X5_goOn rfl rfl (Nat.le_of_ble_eq_true rfl) (Nat.le_of_ble_eq_true rfl) (by decide) (ty_6 hS.1.1) ?_
    refine Tr.imp (Tr.deep (by decide) (sp_X5_goOn_6 hS.1 )) ?_
    rintro M40 _ ⟨h40, r40, rfl, lr40, ur40⟩
    have hS := St.tr hS h40 (by decide) (by decide)
    refine Tr.sc [(0, r40)] rfl ?_
    exact Tr.zret (pc := 43) d_X5_takeOpening_43 rfl (by omega) ⟨hS, _, rfl, by omega, by omega, fun _ => ((St.kp h40 (by decide) (by decide) (by decide)).trans w36.1)⟩
  · refine Tr.aload_n (pc := 8) (i := 0) d_X5_takeOpening_8 rfl rfl ?_
    refine Tr.iconst (pc := 9) d_X5_takeOpening_9 (by decide) ?_
    refine Tr.callV (pc := 10) (as := [_]) d_X5_takeOpening_10 s_5_56 ok_X5_refuse rfl rfl (Nat.le_of_ble_eq_true rfl) (Nat.le_of_ble_eq_true rfl) (by decide) (ty_6 hS.1.1) ?_
    refine Tr.imp (Tr.deep (by decide) (sp_X5_refuse_6_w1 hS.1 ((St.kp hS (by decide) (by decide) (by decide)).trans en_6_2) 1 (by omega))) ?_
    rintro M10 _ ⟨h10, r10, rfl, lr10, ur10⟩
    have hS := St.tr hS h10 (by decide) (by decide)
    refine Tr.sc [(0, r10)] rfl ?_
    exact Tr.zret (pc := 13) d_X5_takeOpening_13 rfl (by omega) ⟨hS, _, rfl, by omega, by omega, fun hq => absurd hq (by omega)⟩

def ws_X5_takeOpening_6_w4 : List (Int × Int) := [(6, 0), (6, 1), (6, 5), (6, 6)]
def as_X5_takeOpening_6_w4 : List Int := []
def q_X5_takeOpening_6_w4 (M0 M' : Mem) (r : Option PV) : Prop := St Tru ws_X5_takeOpening_6_w4 as_X5_takeOpening_6_w4 M0 M' ∧ ∃ v : Int, r = some (0, v) ∧ 0 ≤ v ∧ v ≤ 1 ∧ ((1 ≤ v ∧ v ≤ 1) → rd M' 6 6 = 5)
set_option maxRecDepth 100000 in
set_option maxHeartbeats 4000000 in
theorem sp_X5_takeOpening_6_w4 {l : Launch} {K : EC} {M0 : Mem} (hI : In Tru M0) (en_6_2 : rd M0 6 2 = 2) (en_6_6 : rd M0 6 6 = 4) (a1 : Int) (ha1 : 20 ≤ a1 ∧ a1 ≤ 50)  : Tr l K 1 mX5_takeOpening 0 [(0, (2, 6)), (1, (0, a1))] [] M0 (q_X5_takeOpening_6_w4 M0) := by
  have hS : St Tru ws_X5_takeOpening_6_w4 as_X5_takeOpening_6_w4 M0 M0 := St.rf hI
  refine Tr.aload_n (pc := 0) (i := 0) d_X5_takeOpening_0 rfl rfl ?_
  refine Tr.iload_n (pc := 1) (i := 1) d_X5_takeOpening_1 rfl rfl ?_
  refine Tr.callV (pc := 2) (as := [_]) d_X5_takeOpening_2 s_5_77 ok_X5_isSign rfl rfl (Nat.le_of_ble_eq_true rfl) (Nat.le_of_ble_eq_true rfl) (by decide) (ty_6 hS.1.1) ?_
  refine Tr.imp (Tr.deep (by decide) (sp_X5_isSign_6_w2 hS.1 ((St.kp hS (by decide) (by decide) (by decide)).trans en_6_2) a1 (by omega))) ?_
  rintro M2 _ ⟨h2, r2, rfl, lr2, ur2⟩
  have hS := St.tr hS h2 (by decide) (by decide)
  refine Tr.sc [(0, r2)] rfl ?_
  refine Tr.if_ne (pc := 5) (tgt := 14) d_X5_takeOpening_5 rfl (fun c5 => ?_) (fun c5 => ?_)
  · refine Tr.aload_n (pc := 14) (i := 0) d_X5_takeOpening_14 rfl rfl ?_
    refine Tr.getf (pc := 15) d_X5_takeOpening_15 f_5_39 (by decide) (by decide) (ty_6 hS.1.1) ?_
    refine Tr.tp 4 ((St.kp h2 (by decide) (by decide) (by decide)).trans en_6_6) ?_
    refine Tr.bipush (pc := 18) d_X5_takeOpening_18 rfl (by decide) ?_
    refine Tr.icmp_ne (pc := 20) (tgt := 29) d_X5_takeOpening_20 rfl (fun _ => ?_) (fun hc => absurd hc (by omega))
    refine Tr.aload_n (pc := 29) (i := 0) d_X5_takeOpening_29 rfl rfl ?_
    refine Tr.dup (pc := 30) d_X5_takeOpening_30 ne21 ?_
    refine Tr.getf (pc := 31) d_X5_takeOpening_31 f_5_39 (by decide) (by decide) (ty_6 hS.1.1) ?_
    refine Tr.tp 4 ((St.kp h2 (by decide) (by decide) (by decide)).trans en_6_6) ?_
    refine Tr.iconst (pc := 34) d_X5_takeOpening_34 (by decide) ?_
    refine Tr.iadd (pc := 35) d_X5_takeOpening_35 ?_
    refine Tr.tp 5 (by decide) ?_
    refine Tr.putfS (pc := 36) (P := St Tru ws_X5_takeOpening_6_w4 as_X5_takeOpening_6_w4 M0) d_X5_takeOpening_36 f_5_39 (by decide) (by decide) (ty_6 hS.1.1) (st_6_6 hS (by decide) (by omega) trivial) (fun M36 hS w36 => ?_)
    refine Tr.aload_n (pc := 39) (i := 0) d_X5_takeOpening_39 rfl rfl ?_
    refine Tr.callV (pc := 40) (as := []) d_X5_takeOpening_40 s_5_74 ok_X5_goOn rfl rfl (Nat.le_of_ble_eq_true rfl) (Nat.le_of_ble_eq_true rfl) (by decide) (ty_6 hS.1.1) ?_
    refine Tr.imp (Tr.deep (by decide) (sp_X5_goOn_6 hS.1 )) ?_
    rintro M40 _ ⟨h40, r40, rfl, lr40, ur40⟩
    have hS := St.tr hS h40 (by decide) (by decide)
    refine Tr.sc [(0, r40)] rfl ?_
    exact Tr.zret (pc := 43) d_X5_takeOpening_43 rfl (by omega) ⟨hS, _, rfl, by omega, by omega, fun _ => ((St.kp h40 (by decide) (by decide) (by decide)).trans w36.1)⟩
  · refine Tr.aload_n (pc := 8) (i := 0) d_X5_takeOpening_8 rfl rfl ?_
    refine Tr.iconst (pc := 9) d_X5_takeOpening_9 (by decide) ?_
    refine Tr.callV (pc := 10) (as := [_]) d_X5_takeOpening_10 s_5_56 ok_X5_refuse rfl rfl (Nat.le_of_ble_eq_true rfl) (Nat.le_of_ble_eq_true rfl) (by decide) (ty_6 hS.1.1) ?_
    refine Tr.imp (Tr.deep (by decide) (sp_X5_refuse_6_w1 hS.1 ((St.kp hS (by decide) (by decide) (by decide)).trans en_6_2) 1 (by omega))) ?_
    rintro M10 _ ⟨h10, r10, rfl, lr10, ur10⟩
    have hS := St.tr hS h10 (by decide) (by decide)
    refine Tr.sc [(0, r10)] rfl ?_
    exact Tr.zret (pc := 13) d_X5_takeOpening_13 rfl (by omega) ⟨hS, _, rfl, by omega, by omega, fun hq => absurd hq (by omega)⟩

def ws_X5_takeOpening_6_w5 : List (Int × Int) := [(6, 0), (6, 1), (6, 5), (6, 6)]
def as_X5_takeOpening_6_w5 : List Int := []
def q_X5_takeOpening_6_w5 (M0 M' : Mem) (r : Option PV) : Prop := St Tru ws_X5_takeOpening_6_w5 as_X5_takeOpening_6_w5 M0 M' ∧ ∃ v : Int, r = some (0, v) ∧ 0 ≤ v ∧ v ≤ 1 ∧ ((1 ≤ v ∧ v ≤ 1) → rd M' 6 6 = 6)
set_option maxRecDepth 100000 in
set_option maxHeartbeats 4000000 in
theorem sp_X5_takeOpening_6_w5 {l : Launch} {K : EC} {M0 : Mem} (hI : In Tru M0) (en_6_2 : rd M0 6 2 = 2) (en_6_6 : rd M0 6 6 = 5) (a1 : Int) (ha1 : 20 ≤ a1 ∧ a1 ≤ 50)  : Tr l K 1 mX5_takeOpening 0 [(0, (2, 6)), (1, (0, a1))] [] M0 (q_X5_takeOpening_6_w5 M0) := by
  have hS : St Tru ws_X5_takeOpening_6_w5 as_X5_takeOpening_6_w5 M0 M0 := St.rf hI
  refine Tr.aload_n (pc := 0) (i := 0) d_X5_takeOpening_0 rfl rfl ?_
  refine Tr.iload_n (pc := 1) (i := 1) d_X5_takeOpening_1 rfl rfl ?_
  refine Tr.callV (pc := 2) (as := [_]) d_X5_takeOpening_2 s_5_77 ok_X5_isSign rfl rfl (Nat.le_of_ble_eq_true rfl) (Nat.le_of_ble_eq_true rfl) (by decide) (ty_6 hS.1.1) ?_
  refine Tr.imp (Tr.deep (by decide) (sp_X5_isSign_6_w2 hS.1 ((St.kp hS (by decide) (by decide) (by decide)).trans en_6_2) a1 (by omega))) ?_
  rintro M2 _ ⟨h2, r2, rfl, lr2, ur2⟩
  have hS := St.tr hS h2 (by decide) (by decide)
  refine Tr.sc [(0, r2)] rfl ?_
  refine Tr.if_ne (pc := 5) (tgt := 14) d_X5_takeOpening_5 rfl (fun c5 => ?_) (fun c5 => ?_)
  · refine Tr.aload_n (pc := 14) (i := 0) d_X5_takeOpening_14 rfl rfl ?_
    refine Tr.getf (pc := 15) d_X5_takeOpening_15 f_5_39 (by decide) (by decide) (ty_6 hS.1.1) ?_
    refine Tr.tp 5 ((St.kp h2 (by decide) (by decide) (by decide)).trans en_6_6) ?_
    refine Tr.bipush (pc := 18) d_X5_takeOpening_18 rfl (by decide) ?_
    refine Tr.icmp_ne (pc := 20) (tgt := 29) d_X5_takeOpening_20 rfl (fun _ => ?_) (fun hc => absurd hc (by omega))
    refine Tr.aload_n (pc := 29) (i := 0) d_X5_takeOpening_29 rfl rfl ?_
    refine Tr.dup (pc := 30) d_X5_takeOpening_30 ne21 ?_
    refine Tr.getf (pc := 31) d_X5_takeOpening_31 f_5_39 (by decide) (by decide) (ty_6 hS.1.1) ?_
    refine Tr.tp 5 ((St.kp h2 (by decide) (by decide) (by decide)).trans en_6_6) ?_
    refine Tr.iconst (pc := 34) d_X5_takeOpening_34 (by decide) ?_
    refine Tr.iadd (pc := 35) d_X5_takeOpening_35 ?_
    refine Tr.tp 6 (by decide) ?_
    refine Tr.putfS (pc := 36) (P := St Tru ws_X5_takeOpening_6_w5 as_X5_takeOpening_6_w5 M0) d_X5_takeOpening_36 f_5_39 (by decide) (by decide) (ty_6 hS.1.1) (st_6_6 hS (by decide) (by omega) trivial) (fun M36 hS w36 => ?_)
    refine Tr.aload_n (pc := 39) (i := 0) d_X5_takeOpening_39 rfl rfl ?_
    refine Tr.callV (pc := 40) (as := []) d_X5_takeOpening_40 s_5_74 ok_X5_goOn rfl rfl (Nat.le_of_ble_eq_true rfl) (Nat.le_of_ble_eq_true rfl) (by decide) (ty_6 hS.1.1) ?_
    refine Tr.imp (Tr.deep (by decide) (sp_X5_goOn_6 hS.1 )) ?_
    rintro M40 _ ⟨h40, r40, rfl, lr40, ur40⟩
    have hS := St.tr hS h40 (by decide) (by decide)
    refine Tr.sc [(0, r40)] rfl ?_
    exact Tr.zret (pc := 43) d_X5_takeOpening_43 rfl (by omega) ⟨hS, _, rfl, by omega, by omega, fun _ => ((St.kp h40 (by decide) (by decide) (by decide)).trans w36.1)⟩
  · refine Tr.aload_n (pc := 8) (i := 0) d_X5_takeOpening_8 rfl rfl ?_
    refine Tr.iconst (pc := 9) d_X5_takeOpening_9 (by decide) ?_
    refine Tr.callV (pc := 10) (as := [_]) d_X5_takeOpening_10 s_5_56 ok_X5_refuse rfl rfl (Nat.le_of_ble_eq_true rfl) (Nat.le_of_ble_eq_true rfl) (by decide) (ty_6 hS.1.1) ?_
    refine Tr.imp (Tr.deep (by decide) (sp_X5_refuse_6_w1 hS.1 ((St.kp hS (by decide) (by decide) (by decide)).trans en_6_2) 1 (by omega))) ?_
    rintro M10 _ ⟨h10, r10, rfl, lr10, ur10⟩
    have hS := St.tr hS h10 (by decide) (by decide)
    refine Tr.sc [(0, r10)] rfl ?_
    exact Tr.zret (pc := 13) d_X5_takeOpening_13 rfl (by omega) ⟨hS, _, rfl, by omega, by omega, fun hq => absurd hq (by omega)⟩

def ws_X5_takeOpening_6_w6 : List (Int × Int) := [(6, 0), (6, 1), (6, 5), (6, 6)]
def as_X5_takeOpening_6_w6 : List Int := []
def q_X5_takeOpening_6_w6 (M0 M' : Mem) (r : Option PV) : Prop := St Tru ws_X5_takeOpening_6_w6 as_X5_takeOpening_6_w6 M0 M' ∧ ∃ v : Int, r = some (0, v) ∧ 0 ≤ v ∧ v ≤ 1 ∧ ((1 ≤ v ∧ v ≤ 1) → rd M' 6 6 = 7)
set_option maxRecDepth 100000 in
set_option maxHeartbeats 4000000 in
theorem sp_X5_takeOpening_6_w6 {l : Launch} {K : EC} {M0 : Mem} (hI : In Tru M0) (en_6_2 : rd M0 6 2 = 2) (en_6_6 : rd M0 6 6 = 6) (a1 : Int) (ha1 : 20 ≤ a1 ∧ a1 ≤ 50)  : Tr l K 1 mX5_takeOpening 0 [(0, (2, 6)), (1, (0, a1))] [] M0 (q_X5_takeOpening_6_w6 M0) := by
  have hS : St Tru ws_X5_takeOpening_6_w6 as_X5_takeOpening_6_w6 M0 M0 := St.rf hI
  refine Tr.aload_n (pc := 0) (i := 0) d_X5_takeOpening_0 rfl rfl ?_
  refine Tr.iload_n (pc := 1) (i := 1) d_X5_takeOpening_1 rfl rfl ?_
  refine Tr.callV (pc := 2) (as := [_]) d_X5_takeOpening_2 s_5_77 ok_X5_isSign rfl rfl (Nat.le_of_ble_eq_true rfl) (Nat.le_of_ble_eq_true rfl) (by decide) (ty_6 hS.1.1) ?_
  refine Tr.imp (Tr.deep (by decide) (sp_X5_isSign_6_w2 hS.1 ((St.kp hS (by decide) (by decide) (by decide)).trans en_6_2) a1 (by omega))) ?_
  rintro M2 _ ⟨h2, r2, rfl, lr2, ur2⟩
  have hS := St.tr hS h2 (by decide) (by decide)
  refine Tr.sc [(0, r2)] rfl ?_
  refine Tr.if_ne (pc := 5) (tgt := 14) d_X5_takeOpening_5 rfl (fun c5 => ?_) (fun c5 => ?_)
  · refine Tr.aload_n (pc := 14) (i := 0) d_X5_takeOpening_14 rfl rfl ?_
    refine Tr.getf (pc := 15) d_X5_takeOpening_15 f_5_39 (by decide) (by decide) (ty_6 hS.1.1) ?_
    refine Tr.tp 6 ((St.kp h2 (by decide) (by decide) (by decide)).trans en_6_6) ?_
    refine Tr.bipush (pc := 18) d_X5_takeOpening_18 rfl (by decide) ?_
    refine Tr.icmp_ne (pc := 20) (tgt := 29) d_X5_takeOpening_20 rfl (fun _ => ?_) (fun hc => absurd hc (by omega))
    refine Tr.aload_n (pc := 29) (i := 0) d_X5_takeOpening_29 rfl rfl ?_
    refine Tr.dup (pc := 30) d_X5_takeOpening_30 ne21 ?_
    refine Tr.getf (pc := 31) d_X5_takeOpening_31 f_5_39 (by decide) (by decide) (ty_6 hS.1.1) ?_
    refine Tr.tp 6 ((St.kp h2 (by decide) (by decide) (by decide)).trans en_6_6) ?_
    refine Tr.iconst (pc := 34) d_X5_takeOpening_34 (by decide) ?_
    refine Tr.iadd (pc := 35) d_X5_takeOpening_35 ?_
    refine Tr.tp 7 (by decide) ?_
    refine Tr.putfS (pc := 36) (P := St Tru ws_X5_takeOpening_6_w6 as_X5_takeOpening_6_w6 M0) d_X5_takeOpening_36 f_5_39 (by decide) (by decide) (ty_6 hS.1.1) (st_6_6 hS (by decide) (by omega) trivial) (fun M36 hS w36 => ?_)
    refine Tr.aload_n (pc := 39) (i := 0) d_X5_takeOpening_39 rfl rfl ?_
    refine Tr.callV (pc := 40) (as := []) d_X5_takeOpening_40 s_5_74 ok_X5_goOn rfl rfl (Nat.le_of_ble_eq_true rfl) (Nat.le_of_ble_eq_true rfl) (by decide) (ty_6 hS.1.1) ?_
    refine Tr.imp (Tr.deep (by decide) (sp_X5_goOn_6 hS.1 )) ?_
    rintro M40 _ ⟨h40, r40, rfl, lr40, ur40⟩
    have hS := St.tr hS h40 (by decide) (by decide)
    refine Tr.sc [(0, r40)] rfl ?_
    exact Tr.zret (pc := 43) d_X5_takeOpening_43 rfl (by omega) ⟨hS, _, rfl, by omega, by omega, fun _ => ((St.kp h40 (by decide) (by decide) (by decide)).trans w36.1)⟩
  · refine Tr.aload_n (pc := 8) (i := 0) d_X5_takeOpening_8 rfl rfl ?_
    refine Tr.iconst (pc := 9) d_X5_takeOpening_9 (by decide) ?_
    refine Tr.callV (pc := 10) (as := [_]) d_X5_takeOpening_10 s_5_56 ok_X5_refuse rfl rfl (Nat.le_of_ble_eq_true rfl) (Nat.le_of_ble_eq_true rfl) (by decide) (ty_6 hS.1.1) ?_
    refine Tr.imp (Tr.deep (by decide) (sp_X5_refuse_6_w1 hS.1 ((St.kp hS (by decide) (by decide) (by decide)).trans en_6_2) 1 (by omega))) ?_
    rintro M10 _ ⟨h10, r10, rfl, lr10, ur10⟩
    have hS := St.tr hS h10 (by decide) (by decide)
    refine Tr.sc [(0, r10)] rfl ?_
    exact Tr.zret (pc := 13) d_X5_takeOpening_13 rfl (by omega) ⟨hS, _, rfl, by omega, by omega, fun hq => absurd hq (by omega)⟩

def ws_X5_takeOpening_6_w7 : List (Int × Int) := [(6, 0), (6, 1), (6, 5), (6, 6)]
def as_X5_takeOpening_6_w7 : List Int := []
def q_X5_takeOpening_6_w7 (M0 M' : Mem) (r : Option PV) : Prop := St Tru ws_X5_takeOpening_6_w7 as_X5_takeOpening_6_w7 M0 M' ∧ ∃ v : Int, r = some (0, v) ∧ 0 ≤ v ∧ v ≤ 1 ∧ ((1 ≤ v ∧ v ≤ 1) → rd M' 6 6 = 8)
set_option maxRecDepth 100000 in
set_option maxHeartbeats 4000000 in
theorem sp_X5_takeOpening_6_w7 {l : Launch} {K : EC} {M0 : Mem} (hI : In Tru M0) (en_6_2 : rd M0 6 2 = 2) (en_6_6 : rd M0 6 6 = 7) (a1 : Int) (ha1 : 20 ≤ a1 ∧ a1 ≤ 50)  : Tr l K 1 mX5_takeOpening 0 [(0, (2, 6)), (1, (0, a1))] [] M0 (q_X5_takeOpening_6_w7 M0) := by
  have hS : St Tru ws_X5_takeOpening_6_w7 as_X5_takeOpening_6_w7 M0 M0 := St.rf hI
  refine Tr.aload_n (pc := 0) (i := 0) d_X5_takeOpening_0 rfl rfl ?_
  refine Tr.iload_n (pc := 1) (i := 1) d_X5_takeOpening_1 rfl rfl ?_
  refine Tr.callV (pc := 2) (as := [_]) d_X5_takeOpening_2 s_5_77 ok_X5_isSign rfl rfl (Nat.le_of_ble_eq_true rfl) (Nat.le_of_ble_eq_true rfl) (by decide) (ty_6 hS.1.1) ?_
  refine Tr.imp (Tr.deep (by decide) (sp_X5_isSign_6_w2 hS.1 ((St.kp hS (by decide) (by decide) (by decide)).trans en_6_2) a1 (by omega))) ?_
  rintro M2 _ ⟨h2, r2, rfl, lr2, ur2⟩
  have hS := St.tr hS h2 (by decide) (by decide)
  refine Tr.sc [(0, r2)] rfl ?_
  refine Tr.if_ne (pc := 5) (tgt := 14) d_X5_takeOpening_5 rfl (fun c5 => ?_) (fun c5 => ?_)
  · refine Tr.aload_n (pc := 14) (i := 0) d_X5_takeOpening_14 rfl rfl ?_
    refine Tr.getf (pc := 15) d_X5_takeOpening_15 f_5_39 (by decide) (by decide) (ty_6 hS.1.1) ?_
    refine Tr.tp 7 ((St.kp h2 (by decide) (by decide) (by decide)).trans en_6_6) ?_
    refine Tr.bipush (pc := 18) d_X5_takeOpening_18 rfl (by decide) ?_
    refine Tr.icmp_ne (pc := 20) (tgt := 29) d_X5_takeOpening_20 rfl (fun _ => ?_) (fun hc => absurd hc (by omega))
    refine Tr.aload_n (pc := 29) (i := 0) d_X5_takeOpening_29 rfl rfl ?_
    refine Tr.dup (pc := 30) d_X5_takeOpening_30 ne21 ?_
    refine Tr.getf (pc := 31) d_X5_takeOpening_31 f_5_39 (by decide) (by decide) (ty_6 hS.1.1) ?_
    refine Tr.tp 7 ((St.kp h2 (by decide) (by decide) (by decide)).trans en_6_6) ?_
    refine Tr.iconst (pc := 34) d_X5_takeOpening_34 (by decide) ?_
    refine Tr.iadd (pc := 35) d_X5_takeOpening_35 ?_
    refine Tr.tp 8 (by decide) ?_
    refine Tr.putfS (pc := 36) (P := St Tru ws_X5_takeOpening_6_w7 as_X5_takeOpening_6_w7 M0) d_X5_takeOpening_36 f_5_39 (by decide) (by decide) (ty_6 hS.1.1) (st_6_6 hS (by decide) (by omega) trivial) (fun M36 hS w36 => ?_)
    refine Tr.aload_n (pc := 39) (i := 0) d_X5_takeOpening_39 rfl rfl ?_
    refine Tr.callV (pc := 40) (as := []) d_X5_takeOpening_40 s_5_74 ok_X5_goOn rfl rfl (Nat.le_of_ble_eq_true rfl) (Nat.le_of_ble_eq_true rfl) (by decide) (ty_6 hS.1.1) ?_
    refine Tr.imp (Tr.deep (by decide) (sp_X5_goOn_6 hS.1 )) ?_
    rintro M40 _ ⟨h40, r40, rfl, lr40, ur40⟩
    have hS := St.tr hS h40 (by decide) (by decide)
    refine Tr.sc [(0, r40)] rfl ?_
    exact Tr.zret (pc := 43) d_X5_takeOpening_43 rfl (by omega) ⟨hS, _, rfl, by omega, by omega, fun _ => ((St.kp h40 (by decide) (by decide) (by decide)).trans w36.1)⟩
  · refine Tr.aload_n (pc := 8) (i := 0) d_X5_takeOpening_8 rfl rfl ?_
    refine Tr.iconst (pc := 9) d_X5_takeOpening_9 (by decide) ?_
    refine Tr.callV (pc := 10) (as := [_]) d_X5_takeOpening_10 s_5_56 ok_X5_refuse rfl rfl (Nat.le_of_ble_eq_true rfl) (Nat.le_of_ble_eq_true rfl) (by decide) (ty_6 hS.1.1) ?_
    refine Tr.imp (Tr.deep (by decide) (sp_X5_refuse_6_w1 hS.1 ((St.kp hS (by decide) (by decide) (by decide)).trans en_6_2) 1 (by omega))) ?_
    rintro M10 _ ⟨h10, r10, rfl, lr10, ur10⟩
    have hS := St.tr hS h10 (by decide) (by decide)
    refine Tr.sc [(0, r10)] rfl ?_
    exact Tr.zret (pc := 13) d_X5_takeOpening_13 rfl (by omega) ⟨hS, _, rfl, by omega, by omega, fun hq => absurd hq (by omega)⟩

def ws_X5_takeOpening_6_w8 : List (Int × Int) := [(6, 0), (6, 1)]
def as_X5_takeOpening_6_w8 : List Int := []
def q_X5_takeOpening_6_w8 (M0 M' : Mem) (r : Option PV) : Prop := St Tru ws_X5_takeOpening_6_w8 as_X5_takeOpening_6_w8 M0 M' ∧ ∃ v : Int, r = some (0, v) ∧ 0 ≤ v ∧ v ≤ 0
set_option maxRecDepth 100000 in
set_option maxHeartbeats 4000000 in
theorem sp_X5_takeOpening_6_w8 {l : Launch} {K : EC} {M0 : Mem} (hI : In Tru M0) (en_6_2 : rd M0 6 2 = 2) (en_6_6 : rd M0 6 6 = 8) (a1 : Int) (ha1 : 20 ≤ a1 ∧ a1 ≤ 50)  : Tr l K 1 mX5_takeOpening 0 [(0, (2, 6)), (1, (0, a1))] [] M0 (q_X5_takeOpening_6_w8 M0) := by
  have hS : St Tru ws_X5_takeOpening_6_w8 as_X5_takeOpening_6_w8 M0 M0 := St.rf hI
  refine Tr.aload_n (pc := 0) (i := 0) d_X5_takeOpening_0 rfl rfl ?_
  refine Tr.iload_n (pc := 1) (i := 1) d_X5_takeOpening_1 rfl rfl ?_
  refine Tr.callV (pc := 2) (as := [_]) d_X5_takeOpening_2 s_5_77 ok_X5_isSign rfl rfl (Nat.le_of_ble_eq_true rfl) (Nat.le_of_ble_eq_true rfl) (by decide) (ty_6 hS.1.1) ?_
  refine Tr.imp (Tr.deep (by decide) (sp_X5_isSign_6_w2 hS.1 ((St.kp hS (by decide) (by decide) (by decide)).trans en_6_2) a1 (by omega))) ?_
  rintro M2 _ ⟨h2, r2, rfl, lr2, ur2⟩
  have hS := St.tr hS h2 (by decide) (by decide)
  refine Tr.sc [(0, r2)] rfl ?_
  refine Tr.if_ne (pc := 5) (tgt := 14) d_X5_takeOpening_5 rfl (fun c5 => ?_) (fun c5 => ?_)
  · refine Tr.aload_n (pc := 14) (i := 0) d_X5_takeOpening_14 rfl rfl ?_
    refine Tr.getf (pc := 15) d_X5_takeOpening_15 f_5_39 (by decide) (by decide) (ty_6 hS.1.1) ?_
    refine Tr.tp 8 ((St.kp h2 (by decide) (by decide) (by decide)).trans en_6_6) ?_
    refine Tr.bipush (pc := 18) d_X5_takeOpening_18 rfl (by decide) ?_
    refine Tr.icmp_ne (pc := 20) (tgt := 29) d_X5_takeOpening_20 rfl (fun hc => absurd (by omega) hc) (fun _ => ?_)
    refine Tr.aload_n (pc := 23) (i := 0) d_X5_takeOpening_23 rfl rfl ?_
    refine Tr.iconst (pc := 24) d_X5_takeOpening_24 (by decide) ?_
    refine Tr.callV (pc := 25) (as := [_]) d_X5_takeOpening_25 s_5_56 ok_X5_refuse rfl rfl (Nat.le_of_ble_eq_true rfl) (Nat.le_of_ble_eq_true rfl) (by decide) (ty_6 hS.1.1) ?_
    refine Tr.imp (Tr.deep (by decide) (sp_X5_refuse_6_w2 hS.1 ((St.kp hS (by decide) (by decide) (by decide)).trans en_6_2) 5 (by omega))) ?_
    rintro M25 _ ⟨h25, r25, rfl, lr25, ur25⟩
    have hS := St.tr hS h25 (by decide) (by decide)
    refine Tr.sc [(0, r25)] rfl ?_
    exact Tr.zret (pc := 28) d_X5_takeOpening_28 rfl (by omega) ⟨hS, _, rfl, by omega, by omega⟩
  · refine Tr.aload_n (pc := 8) (i := 0) d_X5_takeOpening_8 rfl rfl ?_
    refine Tr.iconst (pc := 9) d_X5_takeOpening_9 (by decide) ?_
    refine Tr.callV (pc := 10) (as := [_]) d_X5_takeOpening_10 s_5_56 ok_X5_refuse rfl rfl (Nat.le_of_ble_eq_true rfl) (Nat.le_of_ble_eq_true rfl) (by decide) (ty_6 hS.1.1) ?_
    refine Tr.imp (Tr.deep (by decide) (sp_X5_refuse_6_w1 hS.1 ((St.kp hS (by decide) (by decide) (by decide)).trans en_6_2) 1 (by omega))) ?_
    rintro M10 _ ⟨h10, r10, rfl, lr10, ur10⟩
    have hS := St.tr hS h10 (by decide) (by decide)
    refine Tr.sc [(0, r10)] rfl ?_
    exact Tr.zret (pc := 13) d_X5_takeOpening_13 rfl (by omega) ⟨hS, _, rfl, by omega, by omega⟩

def ws_X4_emit_35_w1 : List (Int × Int) := [(35, 11)]
def as_X4_emit_35_w1 : List Int := [44, 45]
def q_X4_emit_35_w1 (M0 M' : Mem) (r : Option PV) : Prop := St Tru ws_X4_emit_35_w1 as_X4_emit_35_w1 M0 M' ∧ r = none
set_option maxRecDepth 100000 in
set_option maxHeartbeats 4000000 in
theorem sp_X4_emit_35_w1 {l : Launch} {K : EC} {M0 : Mem} (hI : In Tru M0)  (a1 : Int) (ha1 : 1 ≤ a1 ∧ a1 ≤ 1) (a2 : Int) (ha2 : (-1) ≤ a2 ∧ a2 ≤ 2) (hp0 : (a1 = 1 → 0 ≤ a2 ∧ a2 ≤ 2) ∧ (a1 = 2 ∨ a1 = 4 → 0 ≤ a2 ∧ a2 ≤ 5)) : Tr l K 0 mX4_emit 0 [(0, (2, 35)), (1, (0, a1)), (2, (0, a2))] [] M0 (q_X4_emit_35_w1 M0) := by
  have hS : St Tru ws_X4_emit_35_w1 as_X4_emit_35_w1 M0 M0 := St.rf hI
  refine Tr.aload_n (pc := 0) (i := 0) d_X4_emit_0 rfl rfl ?_
  refine Tr.getf (pc := 1) d_X4_emit_1 f_4_49 (by decide) (by decide) (ty_35 hS.1.1) ?_
  refine Tr.gen (P := fun v => 0 ≤ v ∧ v ≤ 900) (ir_35_11 hS.1.2.1) (fun r1 er1 br1 => ?_)
  refine Tr.sipush (pc := 4) d_X4_emit_4 rfl (by decide) ?_
  refine Tr.icmp_ge (pc := 7) (tgt := 40) d_X4_emit_7 rfl (fun c7 => ?_) (fun c7 => ?_)
  · exact Tr.vret (pc := 40) d_X4_emit_40 rfl ⟨hS, rfl⟩
  · refine Tr.aload_n (pc := 10) (i := 0) d_X4_emit_10 rfl rfl ?_
    refine Tr.getf (pc := 11) d_X4_emit_11 f_4_36 (by decide) (by decide) (ty_35 hS.1.1) ?_
    refine Tr.tp 44 (fx_35_9 hS.1.1) ?_
    refine Tr.aload_n (pc := 14) (i := 0) d_X4_emit_14 rfl rfl ?_
    refine Tr.getf (pc := 15) d_X4_emit_15 f_4_49 (by decide) (by decide) (ty_35 hS.1.1) ?_
    refine Tr.tp r1 er1 ?_
    refine Tr.iload_n (pc := 18) (i := 1) d_X4_emit_18 rfl rfl ?_
    refine Tr.iast (pc := 19) d_X4_emit_19 (ty_44 hS.1.1) (by omega) (by omega) ?_
    refine Tr.aload_n (pc := 20) (i := 0) d_X4_emit_20 rfl rfl ?_
    refine Tr.getf (pc := 21) d_X4_emit_21 f_4_39 (by decide) (by decide) (show mT (wr M0 44 r1 a1) 35 = (4, 13) from ty_35 (M := M0) hS.1.1) ?_
    refine Tr.tp 45 ((rd_wb _ rfl).trans (fx_35_10 (M := M0) hS.1.1)) ?_
    refine Tr.aload_n (pc := 24) (i := 0) d_X4_emit_24 rfl rfl ?_
    refine Tr.getf (pc := 25) d_X4_emit_25 f_4_49 (by decide) (by decide) (show mT (wr M0 44 r1 a1) 35 = (4, 13) from ty_35 (M := M0) hS.1.1) ?_
    refine Tr.tp r1 ((rd_wb _ rfl).trans er1) ?_
    refine Tr.iload_n (pc := 28) (i := 2) d_X4_emit_28 rfl rfl ?_
    refine Tr.iastS (pc := 29) (P := St Tru ws_X4_emit_35_w1 as_X4_emit_35_w1 M0) d_X4_emit_29 (show mT (wr M0 44 r1 a1) 45 = (20, 900) from ty_45 (M := M0) hS.1.1) (by omega) (by omega) (St.two (x := 44) (y := 45) 35 36 hS (by decide) hp0 (by decide) (by decide) rfl (by decide +kernel) (by decide +kernel) (by decide +kernel) (by omega) rfl (by decide +kernel) (by decide +kernel) (by decide +kernel) (by omega) trivial) (fun M29 hS w29 => ?_)
    refine Tr.aload_n (pc := 30) (i := 0) d_X4_emit_30 rfl rfl ?_
    refine Tr.dup (pc := 31) d_X4_emit_31 ne21 ?_
    refine Tr.getf (pc := 32) d_X4_emit_32 f_4_49 (by decide) (by decide) (ty_35 hS.1.1) ?_
    refine Tr.tp r1 ((Wr.b w29 rfl).trans ((rd_wb _ rfl).trans er1)) ?_
    refine Tr.iconst (pc := 35) d_X4_emit_35 (by decide) ?_
    refine Tr.iadd (pc := 36) d_X4_emit_36 ?_
    refine Tr.tp (r1 + 1) ((w32_id (by omega)).trans (by omega)) ?_
    refine Tr.putfS (pc := 37) (P := St Tru ws_X4_emit_35_w1 as_X4_emit_35_w1 M0) d_X4_emit_37 f_4_49 (by decide) (by decide) (ty_35 hS.1.1) (st_35_11 hS (by decide) (by omega) trivial) (fun M37 hS w37 => ?_)
    exact Tr.vret (pc := 40) d_X4_emit_40 rfl ⟨hS, rfl⟩

def ws_X4_emit_35_w2 : List (Int × Int) := [(35, 11)]
def as_X4_emit_35_w2 : List Int := [44, 45]
def q_X4_emit_35_w2 (M0 M' : Mem) (r : Option PV) : Prop := St Tru ws_X4_emit_35_w2 as_X4_emit_35_w2 M0 M' ∧ r = none
set_option maxRecDepth 100000 in
set_option maxHeartbeats 4000000 in
theorem sp_X4_emit_35_w2 {l : Launch} {K : EC} {M0 : Mem} (hI : In Tru M0)  (a1 : Int) (ha1 : 2 ≤ a1 ∧ a1 ≤ 2) (a2 : Int) (ha2 : 0 ≤ a2 ∧ a2 ≤ 5) (hp0 : (a1 = 1 → 0 ≤ a2 ∧ a2 ≤ 2) ∧ (a1 = 2 ∨ a1 = 4 → 0 ≤ a2 ∧ a2 ≤ 5)) : Tr l K 0 mX4_emit 0 [(0, (2, 35)), (1, (0, a1)), (2, (0, a2))] [] M0 (q_X4_emit_35_w2 M0) := by
  have hS : St Tru ws_X4_emit_35_w2 as_X4_emit_35_w2 M0 M0 := St.rf hI
  refine Tr.aload_n (pc := 0) (i := 0) d_X4_emit_0 rfl rfl ?_
  refine Tr.getf (pc := 1) d_X4_emit_1 f_4_49 (by decide) (by decide) (ty_35 hS.1.1) ?_
  refine Tr.gen (P := fun v => 0 ≤ v ∧ v ≤ 900) (ir_35_11 hS.1.2.1) (fun r1 er1 br1 => ?_)
  refine Tr.sipush (pc := 4) d_X4_emit_4 rfl (by decide) ?_
  refine Tr.icmp_ge (pc := 7) (tgt := 40) d_X4_emit_7 rfl (fun c7 => ?_) (fun c7 => ?_)
  · exact Tr.vret (pc := 40) d_X4_emit_40 rfl ⟨hS, rfl⟩
  · refine Tr.aload_n (pc := 10) (i := 0) d_X4_emit_10 rfl rfl ?_
    refine Tr.getf (pc := 11) d_X4_emit_11 f_4_36 (by decide) (by decide) (ty_35 hS.1.1) ?_
    refine Tr.tp 44 (fx_35_9 hS.1.1) ?_
    refine Tr.aload_n (pc := 14) (i := 0) d_X4_emit_14 rfl rfl ?_
    refine Tr.getf (pc := 15) d_X4_emit_15 f_4_49 (by decide) (by decide) (ty_35 hS.1.1) ?_
    refine Tr.tp r1 er1 ?_
    refine Tr.iload_n (pc := 18) (i := 1) d_X4_emit_18 rfl rfl ?_
    refine Tr.iast (pc := 19) d_X4_emit_19 (ty_44 hS.1.1) (by omega) (by omega) ?_
    refine Tr.aload_n (pc := 20) (i := 0) d_X4_emit_20 rfl rfl ?_
    refine Tr.getf (pc := 21) d_X4_emit_21 f_4_39 (by decide) (by decide) (show mT (wr M0 44 r1 a1) 35 = (4, 13) from ty_35 (M := M0) hS.1.1) ?_
    refine Tr.tp 45 ((rd_wb _ rfl).trans (fx_35_10 (M := M0) hS.1.1)) ?_
    refine Tr.aload_n (pc := 24) (i := 0) d_X4_emit_24 rfl rfl ?_
    refine Tr.getf (pc := 25) d_X4_emit_25 f_4_49 (by decide) (by decide) (show mT (wr M0 44 r1 a1) 35 = (4, 13) from ty_35 (M := M0) hS.1.1) ?_
    refine Tr.tp r1 ((rd_wb _ rfl).trans er1) ?_
    refine Tr.iload_n (pc := 28) (i := 2) d_X4_emit_28 rfl rfl ?_
    refine Tr.iastS (pc := 29) (P := St Tru ws_X4_emit_35_w2 as_X4_emit_35_w2 M0) d_X4_emit_29 (show mT (wr M0 44 r1 a1) 45 = (20, 900) from ty_45 (M := M0) hS.1.1) (by omega) (by omega) (St.two (x := 44) (y := 45) 35 36 hS (by decide) hp0 (by decide) (by decide) rfl (by decide +kernel) (by decide +kernel) (by decide +kernel) (by omega) rfl (by decide +kernel) (by decide +kernel) (by decide +kernel) (by omega) trivial) (fun M29 hS w29 => ?_)
    refine Tr.aload_n (pc := 30) (i := 0) d_X4_emit_30 rfl rfl ?_
    refine Tr.dup (pc := 31) d_X4_emit_31 ne21 ?_
    refine Tr.getf (pc := 32) d_X4_emit_32 f_4_49 (by decide) (by decide) (ty_35 hS.1.1) ?_
    refine Tr.tp r1 ((Wr.b w29 rfl).trans ((rd_wb _ rfl).trans er1)) ?_
    refine Tr.iconst (pc := 35) d_X4_emit_35 (by decide) ?_
    refine Tr.iadd (pc := 36) d_X4_emit_36 ?_
    refine Tr.tp (r1 + 1) ((w32_id (by omega)).trans (by omega)) ?_
    refine Tr.putfS (pc := 37) (P := St Tru ws_X4_emit_35_w2 as_X4_emit_35_w2 M0) d_X4_emit_37 f_4_49 (by decide) (by decide) (ty_35 hS.1.1) (st_35_11 hS (by decide) (by omega) trivial) (fun M37 hS w37 => ?_)
    exact Tr.vret (pc := 40) d_X4_emit_40 rfl ⟨hS, rfl⟩

def ws_X4_emit_35_w3 : List (Int × Int) := [(35, 11)]
def as_X4_emit_35_w3 : List Int := [44, 45]
def q_X4_emit_35_w3 (M0 M' : Mem) (r : Option PV) : Prop := St Tru ws_X4_emit_35_w3 as_X4_emit_35_w3 M0 M' ∧ r = none
set_option maxRecDepth 100000 in
set_option maxHeartbeats 4000000 in
theorem sp_X4_emit_35_w3 {l : Launch} {K : EC} {M0 : Mem} (hI : In Tru M0)  (a1 : Int) (ha1 : 0 ≤ a1 ∧ a1 ≤ 0) (a2 : Int) (ha2 : (-1) ≤ a2 ∧ a2 ≤ 999) (hp0 : (a1 = 1 → 0 ≤ a2 ∧ a2 ≤ 2) ∧ (a1 = 2 ∨ a1 = 4 → 0 ≤ a2 ∧ a2 ≤ 5)) : Tr l K 0 mX4_emit 0 [(0, (2, 35)), (1, (0, a1)), (2, (0, a2))] [] M0 (q_X4_emit_35_w3 M0) := by
  have hS : St Tru ws_X4_emit_35_w3 as_X4_emit_35_w3 M0 M0 := St.rf hI
  refine Tr.aload_n (pc := 0) (i := 0) d_X4_emit_0 rfl rfl ?_
  refine Tr.getf (pc := 1) d_X4_emit_1 f_4_49 (by decide) (by decide) (ty_35 hS.1.1) ?_
  refine Tr.gen (P := fun v => 0 ≤ v ∧ v ≤ 900) (ir_35_11 hS.1.2.1) (fun r1 er1 br1 => ?_)
  refine Tr.sipush (pc := 4) d_X4_emit_4 rfl (by decide) ?_
  refine Tr.icmp_ge (pc := 7) (tgt := 40) d_X4_emit_7 rfl (fun c7 => ?_) (fun c7 => ?_)
  · exact Tr.vret (pc := 40) d_X4_emit_40 rfl ⟨hS, rfl⟩
  · refine Tr.aload_n (pc := 10) (i := 0) d_X4_emit_10 rfl rfl ?_
    refine Tr.getf (pc := 11) d_X4_emit_11 f_4_36 (by decide) (by decide) (ty_35 hS.1.1) ?_
    refine Tr.tp 44 (fx_35_9 hS.1.1) ?_
    refine Tr.aload_n (pc := 14) (i := 0) d_X4_emit_14 rfl rfl ?_
    refine Tr.getf (pc := 15) d_X4_emit_15 f_4_49 (by decide) (by decide) (ty_35 hS.1.1) ?_
    refine Tr.tp r1 er1 ?_
    refine Tr.iload_n (pc := 18) (i := 1) d_X4_emit_18 rfl rfl ?_
    refine Tr.iast (pc := 19) d_X4_emit_19 (ty_44 hS.1.1) (by omega) (by omega) ?_
    refine Tr.aload_n (pc := 20) (i := 0) d_X4_emit_20 rfl rfl ?_
    refine Tr.getf (pc := 21) d_X4_emit_21 f_4_39 (by decide) (by decide) (show mT (wr M0 44 r1 a1) 35 = (4, 13) from ty_35 (M := M0) hS.1.1) ?_
    refine Tr.tp 45 ((rd_wb _ rfl).trans (fx_35_10 (M := M0) hS.1.1)) ?_
    refine Tr.aload_n (pc := 24) (i := 0) d_X4_emit_24 rfl rfl ?_
    refine Tr.getf (pc := 25) d_X4_emit_25 f_4_49 (by decide) (by decide) (show mT (wr M0 44 r1 a1) 35 = (4, 13) from ty_35 (M := M0) hS.1.1) ?_
    refine Tr.tp r1 ((rd_wb _ rfl).trans er1) ?_
    refine Tr.iload_n (pc := 28) (i := 2) d_X4_emit_28 rfl rfl ?_
    refine Tr.iastS (pc := 29) (P := St Tru ws_X4_emit_35_w3 as_X4_emit_35_w3 M0) d_X4_emit_29 (show mT (wr M0 44 r1 a1) 45 = (20, 900) from ty_45 (M := M0) hS.1.1) (by omega) (by omega) (St.two (x := 44) (y := 45) 35 36 hS (by decide) hp0 (by decide) (by decide) rfl (by decide +kernel) (by decide +kernel) (by decide +kernel) (by omega) rfl (by decide +kernel) (by decide +kernel) (by decide +kernel) (by omega) trivial) (fun M29 hS w29 => ?_)
    refine Tr.aload_n (pc := 30) (i := 0) d_X4_emit_30 rfl rfl ?_
    refine Tr.dup (pc := 31) d_X4_emit_31 ne21 ?_
    refine Tr.getf (pc := 32) d_X4_emit_32 f_4_49 (by decide) (by decide) (ty_35 hS.1.1) ?_
    refine Tr.tp r1 ((Wr.b w29 rfl).trans ((rd_wb _ rfl).trans er1)) ?_
    refine Tr.iconst (pc := 35) d_X4_emit_35 (by decide) ?_
    refine Tr.iadd (pc := 36) d_X4_emit_36 ?_
    refine Tr.tp (r1 + 1) ((w32_id (by omega)).trans (by omega)) ?_
    refine Tr.putfS (pc := 37) (P := St Tru ws_X4_emit_35_w3 as_X4_emit_35_w3 M0) d_X4_emit_37 f_4_49 (by decide) (by decide) (ty_35 hS.1.1) (st_35_11 hS (by decide) (by omega) trivial) (fun M37 hS w37 => ?_)
    exact Tr.vret (pc := 40) d_X4_emit_40 rfl ⟨hS, rfl⟩

def ws_X4_emit_35_w4 : List (Int × Int) := [(35, 11)]
def as_X4_emit_35_w4 : List Int := [44, 45]
def q_X4_emit_35_w4 (M0 M' : Mem) (r : Option PV) : Prop := St Tru ws_X4_emit_35_w4 as_X4_emit_35_w4 M0 M' ∧ r = none
set_option maxRecDepth 100000 in
set_option maxHeartbeats 4000000 in
theorem sp_X4_emit_35_w4 {l : Launch} {K : EC} {M0 : Mem} (hI : In Tru M0)  (a1 : Int) (ha1 : 10 ≤ a1 ∧ a1 ≤ 15) (a2 : Int) (ha2 : 0 ≤ a2 ∧ a2 ≤ 0) (hp0 : (a1 = 1 → 0 ≤ a2 ∧ a2 ≤ 2) ∧ (a1 = 2 ∨ a1 = 4 → 0 ≤ a2 ∧ a2 ≤ 5)) : Tr l K 0 mX4_emit 0 [(0, (2, 35)), (1, (0, a1)), (2, (0, a2))] [] M0 (q_X4_emit_35_w4 M0) := by
  have hS : St Tru ws_X4_emit_35_w4 as_X4_emit_35_w4 M0 M0 := St.rf hI
  refine Tr.aload_n (pc := 0) (i := 0) d_X4_emit_0 rfl rfl ?_
  refine Tr.getf (pc := 1) d_X4_emit_1 f_4_49 (by decide) (by decide) (ty_35 hS.1.1) ?_
  refine Tr.gen (P := fun v => 0 ≤ v ∧ v ≤ 900) (ir_35_11 hS.1.2.1) (fun r1 er1 br1 => ?_)
  refine Tr.sipush (pc := 4) d_X4_emit_4 rfl (by decide) ?_
  refine Tr.icmp_ge (pc := 7) (tgt := 40) d_X4_emit_7 rfl (fun c7 => ?_) (fun c7 => ?_)
  · exact Tr.vret (pc := 40) d_X4_emit_40 rfl ⟨hS, rfl⟩
  · refine Tr.aload_n (pc := 10) (i := 0) d_X4_emit_10 rfl rfl ?_
    refine Tr.getf (pc := 11) d_X4_emit_11 f_4_36 (by decide) (by decide) (ty_35 hS.1.1) ?_
    refine Tr.tp 44 (fx_35_9 hS.1.1) ?_
    refine Tr.aload_n (pc := 14) (i := 0) d_X4_emit_14 rfl rfl ?_
    refine Tr.getf (pc := 15) d_X4_emit_15 f_4_49 (by decide) (by decide) (ty_35 hS.1.1) ?_
    refine Tr.tp r1 er1 ?_
    refine Tr.iload_n (pc := 18) (i := 1) d_X4_emit_18 rfl rfl ?_
    refine Tr.iast (pc := 19) d_X4_emit_19 (ty_44 hS.1.1) (by omega) (by omega) ?_
    refine Tr.aload_n (pc := 20) (i := 0) d_X4_emit_20 rfl rfl ?_
    refine Tr.getf (pc := 21) d_X4_emit_21 f_4_39 (by decide) (by decide) (show mT (wr M0 44 r1 a1) 35 = (4, 13) from ty_35 (M := M0) hS.1.1) ?_
    refine Tr.tp 45 ((rd_wb _ rfl).trans (fx_35_10 (M := M0) hS.1.1)) ?_
    refine Tr.aload_n (pc := 24) (i := 0) d_X4_emit_24 rfl rfl ?_
    refine Tr.getf (pc := 25) d_X4_emit_25 f_4_49 (by decide) (by decide) (show mT (wr M0 44 r1 a1) 35 = (4, 13) from ty_35 (M := M0) hS.1.1) ?_
    refine Tr.tp r1 ((rd_wb _ rfl).trans er1) ?_
    refine Tr.iload_n (pc := 28) (i := 2) d_X4_emit_28 rfl rfl ?_
    refine Tr.iastS (pc := 29) (P := St Tru ws_X4_emit_35_w4 as_X4_emit_35_w4 M0) d_X4_emit_29 (show mT (wr M0 44 r1 a1) 45 = (20, 900) from ty_45 (M := M0) hS.1.1) (by omega) (by omega) (St.two (x := 44) (y := 45) 35 36 hS (by decide) hp0 (by decide) (by decide) rfl (by decide +kernel) (by decide +kernel) (by decide +kernel) (by omega) rfl (by decide +kernel) (by decide +kernel) (by decide +kernel) (by omega) trivial) (fun M29 hS w29 => ?_)
    refine Tr.aload_n (pc := 30) (i := 0) d_X4_emit_30 rfl rfl ?_
    refine Tr.dup (pc := 31) d_X4_emit_31 ne21 ?_
    refine Tr.getf (pc := 32) d_X4_emit_32 f_4_49 (by decide) (by decide) (ty_35 hS.1.1) ?_
    refine Tr.tp r1 ((Wr.b w29 rfl).trans ((rd_wb _ rfl).trans er1)) ?_
    refine Tr.iconst (pc := 35) d_X4_emit_35 (by decide) ?_
    refine Tr.iadd (pc := 36) d_X4_emit_36 ?_
    refine Tr.tp (r1 + 1) ((w32_id (by omega)).trans (by omega)) ?_
    refine Tr.putfS (pc := 37) (P := St Tru ws_X4_emit_35_w4 as_X4_emit_35_w4 M0) d_X4_emit_37 f_4_49 (by decide) (by decide) (ty_35 hS.1.1) (st_35_11 hS (by decide) (by omega) trivial) (fun M37 hS w37 => ?_)
    exact Tr.vret (pc := 40) d_X4_emit_40 rfl ⟨hS, rfl⟩

def ws_X5_choice_6 : List (Int × Int) := [(6, 0), (6, 1), (6, 5), (35, 11)]
def as_X5_choice_6 : List Int := [44, 45]
def q_X5_choice_6 (M0 M' : Mem) (r : Option PV) : Prop := St Tru ws_X5_choice_6 as_X5_choice_6 M0 M' ∧ ∃ v : Int, r = some (0, v) ∧ 0 ≤ v ∧ v ≤ 0
set_option maxRecDepth 100000 in
set_option maxHeartbeats 4000000 in
theorem sp_X5_choice_6 {l : Launch} {K : EC} {M0 : Mem} (hI : In Tru M0) (en_6_2 : rd M0 6 2 = 2) (en_6_4 : rd M0 6 4 = 35) (en_6_6 : rd M0 6 6 = 8) (a1 : Int) (ha1 : 10 ≤ a1 ∧ a1 ≤ 15)  : Tr l K 2 mX5_choice 0 [(0, (2, 6)), (1, (0, a1))] [] M0 (q_X5_choice_6 M0) := by
  have hS : St Tru ws_X5_choice_6 as_X5_choice_6 M0 M0 := St.rf hI
  refine Tr.aload_n (pc := 0) (i := 0) d_X5_choice_0 rfl rfl ?_
  refine Tr.callV (pc := 1) (as := []) d_X5_choice_1 s_5_74 ok_X5_goOn rfl rfl (Nat.le_of_ble_eq_true rfl) (Nat.le_of_ble_eq_true rfl) (by decide) (ty_6 hS.1.1) ?_
  refine Tr.imp (Tr.deep (by decide) (sp_X5_goOn_6 hS.1 )) ?_
  rintro M1 _ ⟨h1, r1, rfl, lr1, ur1⟩
  have hS := St.tr hS h1 (by decide) (by decide)
  refine Tr.sc [(0, r1)] rfl ?_
  refine Tr.pop (pc := 4) d_X5_choice_4 ne01 ?_
  refine Tr.aload_n (pc := 5) (i := 0) d_X5_choice_5 rfl rfl ?_
  refine Tr.bipush (pc := 6) d_X5_choice_6 rfl (by decide) ?_
  refine Tr.callV (pc := 8) (as := [_]) d_X5_choice_8 s_5_206 ok_X5_takeOpening rfl rfl (Nat.le_of_ble_eq_true rfl) (Nat.le_of_ble_eq_true rfl) (by decide) (ty_6 hS.1.1) ?_
  refine Tr.imp (Tr.deep (by decide) (sp_X5_takeOpening_6_w8 hS.1 ((St.kp hS (by decide) (by decide) (by decide)).trans en_6_2) ((St.kp h1 (by decide) (by decide) (by decide)).trans en_6_6) 40 (by omega))) ?_
  rintro M8 _ ⟨h8, r8, rfl, lr8, ur8⟩
  have hS := St.tr hS h8 (by decide) (by decide)
  refine Tr.sc [(0, r8)] rfl ?_
  refine Tr.if_eq (pc := 11) (tgt := 50) d_X5_choice_11 rfl (fun _ => ?_) (fun hc => absurd (by omega) hc)
  refine Tr.iconst (pc := 50) d_X5_choice_50 (by decide) ?_
  refine Tr.istore_n (pc := 51) (i := 2) (ls2 := [(2, (0, 0)), (0, (2, 6)), (1, (0, a1))]) d_X5_choice_51 rfl (by decide) rfl ?_
  refine Tr.aload_n (pc := 52) (i := 0) d_X5_choice_52 rfl rfl ?_
  refine Tr.getf (pc := 53) d_X5_choice_53 f_5_32 (by decide) (by decide) (ty_6 hS.1.1) ?_
  refine Tr.tp 35 ((St.kp hS (by decide) (by decide) (by decide)).trans en_6_4) ?_
  refine Tr.iload_n (pc := 56) (i := 1) d_X5_choice_56 rfl rfl ?_
  refine Tr.iconst (pc := 57) d_X5_choice_57 (by decide) ?_
  refine Tr.callV (pc := 58) (as := [_, _]) d_X5_choice_58 s_5_215 ok_X4_emit rfl rfl (Nat.le_of_ble_eq_true rfl) (Nat.le_of_ble_eq_true rfl) (by decide) (ty_35 hS.1.1) ?_
  refine Tr.imp (Tr.deep (by decide) (sp_X4_emit_35_w4 hS.1.wk a1 (by omega) 0 (by omega) (by omega))) ?_
  rintro M58 _ ⟨h58, rfl⟩
  have hS := St.tr hS h58 (by decide) (by decide)
  refine Tr.sc [] rfl ?_
  refine Tr.iload_n (pc := 61) (i := 2) d_X5_choice_61 rfl rfl ?_
  exact Tr.zret (pc := 62) d_X5_choice_62 rfl (by omega) ⟨hS, _, rfl, by omega, by omega⟩

def ws_X4_emit_35_w5 : List (Int × Int) := [(35, 11)]
def as_X4_emit_35_w5 : List Int := [44, 45]
def q_X4_emit_35_w5 (M0 M' : Mem) (r : Option PV) : Prop := St Tru ws_X4_emit_35_w5 as_X4_emit_35_w5 M0 M' ∧ r = none
set_option maxRecDepth 100000 in
set_option maxHeartbeats 4000000 in
theorem sp_X4_emit_35_w5 {l : Launch} {K : EC} {M0 : Mem} (hI : In Tru M0)  (a1 : Int) (ha1 : 8 ≤ a1 ∧ a1 ≤ 10) (a2 : Int) (ha2 : 0 ≤ a2 ∧ a2 ≤ 0) (hp0 : (a1 = 1 → 0 ≤ a2 ∧ a2 ≤ 2) ∧ (a1 = 2 ∨ a1 = 4 → 0 ≤ a2 ∧ a2 ≤ 5)) : Tr l K 0 mX4_emit 0 [(0, (2, 35)), (1, (0, a1)), (2, (0, a2))] [] M0 (q_X4_emit_35_w5 M0) := by
  have hS : St Tru ws_X4_emit_35_w5 as_X4_emit_35_w5 M0 M0 := St.rf hI
  refine Tr.aload_n (pc := 0) (i := 0) d_X4_emit_0 rfl rfl ?_
  refine Tr.getf (pc := 1) d_X4_emit_1 f_4_49 (by decide) (by decide) (ty_35 hS.1.1) ?_
  refine Tr.gen (P := fun v => 0 ≤ v ∧ v ≤ 900) (ir_35_11 hS.1.2.1) (fun r1 er1 br1 => ?_)
  refine Tr.sipush (pc := 4) d_X4_emit_4 rfl (by decide) ?_
  refine Tr.icmp_ge (pc := 7) (tgt := 40) d_X4_emit_7 rfl (fun c7 => ?_) (fun c7 => ?_)
  · exact Tr.vret (pc := 40) d_X4_emit_40 rfl ⟨hS, rfl⟩
  · refine Tr.aload_n (pc := 10) (i := 0) d_X4_emit_10 rfl rfl ?_
    refine Tr.getf (pc := 11) d_X4_emit_11 f_4_36 (by decide) (by decide) (ty_35 hS.1.1) ?_
    refine Tr.tp 44 (fx_35_9 hS.1.1) ?_
    refine Tr.aload_n (pc := 14) (i := 0) d_X4_emit_14 rfl rfl ?_
    refine Tr.getf (pc := 15) d_X4_emit_15 f_4_49 (by decide) (by decide) (ty_35 hS.1.1) ?_
    refine Tr.tp r1 er1 ?_
    refine Tr.iload_n (pc := 18) (i := 1) d_X4_emit_18 rfl rfl ?_
    refine Tr.iast (pc := 19) d_X4_emit_19 (ty_44 hS.1.1) (by omega) (by omega) ?_
    refine Tr.aload_n (pc := 20) (i := 0) d_X4_emit_20 rfl rfl ?_
    refine Tr.getf (pc := 21) d_X4_emit_21 f_4_39 (by decide) (by decide) (show mT (wr M0 44 r1 a1) 35 = (4, 13) from ty_35 (M := M0) hS.1.1) ?_
    refine Tr.tp 45 ((rd_wb _ rfl).trans (fx_35_10 (M := M0) hS.1.1)) ?_
    refine Tr.aload_n (pc := 24) (i := 0) d_X4_emit_24 rfl rfl ?_
    refine Tr.getf (pc := 25) d_X4_emit_25 f_4_49 (by decide) (by decide) (show mT (wr M0 44 r1 a1) 35 = (4, 13) from ty_35 (M := M0) hS.1.1) ?_
    refine Tr.tp r1 ((rd_wb _ rfl).trans er1) ?_
    refine Tr.iload_n (pc := 28) (i := 2) d_X4_emit_28 rfl rfl ?_
    refine Tr.iastS (pc := 29) (P := St Tru ws_X4_emit_35_w5 as_X4_emit_35_w5 M0) d_X4_emit_29 (show mT (wr M0 44 r1 a1) 45 = (20, 900) from ty_45 (M := M0) hS.1.1) (by omega) (by omega) (St.two (x := 44) (y := 45) 35 36 hS (by decide) hp0 (by decide) (by decide) rfl (by decide +kernel) (by decide +kernel) (by decide +kernel) (by omega) rfl (by decide +kernel) (by decide +kernel) (by decide +kernel) (by omega) trivial) (fun M29 hS w29 => ?_)
    refine Tr.aload_n (pc := 30) (i := 0) d_X4_emit_30 rfl rfl ?_
    refine Tr.dup (pc := 31) d_X4_emit_31 ne21 ?_
    refine Tr.getf (pc := 32) d_X4_emit_32 f_4_49 (by decide) (by decide) (ty_35 hS.1.1) ?_
    refine Tr.tp r1 ((Wr.b w29 rfl).trans ((rd_wb _ rfl).trans er1)) ?_
    refine Tr.iconst (pc := 35) d_X4_emit_35 (by decide) ?_
    refine Tr.iadd (pc := 36) d_X4_emit_36 ?_
    refine Tr.tp (r1 + 1) ((w32_id (by omega)).trans (by omega)) ?_
    refine Tr.putfS (pc := 37) (P := St Tru ws_X4_emit_35_w5 as_X4_emit_35_w5 M0) d_X4_emit_37 f_4_49 (by decide) (by decide) (ty_35 hS.1.1) (st_35_11 hS (by decide) (by omega) trivial) (fun M37 hS w37 => ?_)
    exact Tr.vret (pc := 40) d_X4_emit_40 rfl ⟨hS, rfl⟩
