/-! 30.16 -/
section
def ws_X5_isSign_6_w1 : List (Int × Int) := []
def as_X5_isSign_6_w1 : List Int := []
def q_X5_isSign_6_w1 (M0 M' : Mem) (r : Option PV) : Prop := St Tru ws_X5_isSign_6_w1 as_X5_isSign_6_w1 M0 M' ∧ ∃ v : Int, r = some (0, v) ∧ 0 ≤ v ∧ v ≤ 1
set_option maxRecDepth 100000 in
set_option maxHeartbeats 4000000 in
theorem sp_X5_isSign_6_w1 {l : Launch} {K : EC} {M0 : Mem} (hI : In Tru M0) (en_6_2 : rd M0 6 2 = 2) (a1 : Int) (ha1 : 64 ≤ a1 ∧ a1 ≤ 99)  : Tr l K 0 mX5_isSign 0 [(0, (2, 6)), (1, (0, a1))] [] M0 (q_X5_isSign_6_w1 M0) := by
  have hS : St Tru ws_X5_isSign_6_w1 as_X5_isSign_6_w1 M0 M0 := St.rf hI
  refine Tr.aload_n (pc := 0) (i := 0) d_X5_isSign_0 rfl rfl ?_
  refine Tr.getf (pc := 1) d_X5_isSign_1 f_5_18 (by decide) (by decide) (ty_6 hS.1.1) ?_
  refine Tr.tp 2 ((St.kp hS (by decide) (by decide) (by decide)).trans en_6_2) ?_
  refine Tr.getf (pc := 4) d_X5_isSign_4 f_5_50 (by decide) (by decide) (ty_2 hS.1.1) ?_
  refine Tr.tp 3 (fx_2_0 hS.1.1) ?_
  refine Tr.aload_n (pc := 7) (i := 0) d_X5_isSign_7 rfl rfl ?_
  refine Tr.getf (pc := 8) d_X5_isSign_8 f_5_36 (by decide) (by decide) (ty_6 hS.1.1) ?_
  refine Tr.gen (P := fun v => 0 ≤ v ∧ v ≤ 900) (ir_6_5 hS.1.2.1) (fun r8 er8 br8 => ?_)
  refine Tr.iald (pc := 11) d_X5_isSign_11 (ty_3 hS.1.1) (by omega) (by omega) ?_
  refine Tr.gen (P := fun v => (-2147483648) ≤ v ∧ v ≤ 2147483647) (ar_3 hS.1.2.1 _) (fun r11 er11 br11 => ?_)
  refine Tr.iconst (pc := 12) d_X5_isSign_12 (by decide) ?_
  refine Tr.icmp_ne (pc := 13) (tgt := 36) d_X5_isSign_13 rfl (fun c13 => ?_) (fun c13 => ?_)
  · refine Tr.iconst (pc := 36) d_X5_isSign_36 (by decide) ?_
    exact Tr.zret (pc := 37) d_X5_isSign_37 rfl (by omega) ⟨hS, _, rfl, by omega, by omega⟩
  · refine Tr.aload_n (pc := 16) (i := 0) d_X5_isSign_16 rfl rfl ?_
    refine Tr.getf (pc := 17) d_X5_isSign_17 f_5_18 (by decide) (by decide) (ty_6 hS.1.1) ?_
    refine Tr.tp 2 ((St.kp hS (by decide) (by decide) (by decide)).trans en_6_2) ?_
    refine Tr.getf (pc := 20) d_X5_isSign_20 f_5_68 (by decide) (by decide) (ty_2 hS.1.1) ?_
    refine Tr.tp 5 (fx_2_2 hS.1.1) ?_
    refine Tr.aload_n (pc := 23) (i := 0) d_X5_isSign_23 rfl rfl ?_
    refine Tr.getf (pc := 24) d_X5_isSign_24 f_5_36 (by decide) (by decide) (ty_6 hS.1.1) ?_
    refine Tr.tp r8 er8 ?_
    refine Tr.iald (pc := 27) d_X5_isSign_27 (ty_5 hS.1.1) (by omega) (by omega) ?_
    refine Tr.gen (P := fun v => (-2147483648) ≤ v ∧ v ≤ 2147483647) (ar_5 hS.1.2.1 _) (fun r27 er27 br27 => ?_)
    refine Tr.iload_n (pc := 28) (i := 1) d_X5_isSign_28 rfl rfl ?_
    refine Tr.icmp_ne (pc := 29) (tgt := 36) d_X5_isSign_29 rfl (fun c29 => ?_) (fun c29 => ?_)
    · refine Tr.iconst (pc := 36) d_X5_isSign_36 (by decide) ?_
      exact Tr.zret (pc := 37) d_X5_isSign_37 rfl (by omega) ⟨hS, _, rfl, by omega, by omega⟩
    · refine Tr.iconst (pc := 32) d_X5_isSign_32 (by decide) ?_
      refine Tr.goto (pc := 33) (tgt := 37) d_X5_isSign_33 rfl ?_
      exact Tr.zret (pc := 37) d_X5_isSign_37 rfl (by omega) ⟨hS, _, rfl, by omega, by omega⟩

def ws_X5_isSign_6_w2 : List (Int × Int) := []
def as_X5_isSign_6_w2 : List Int := []
def q_X5_isSign_6_w2 (M0 M' : Mem) (r : Option PV) : Prop := St Tru ws_X5_isSign_6_w2 as_X5_isSign_6_w2 M0 M' ∧ ∃ v : Int, r = some (0, v) ∧ 0 ≤ v ∧ v ≤ 1
set_option maxRecDepth 100000 in
set_option maxHeartbeats 4000000 in
theorem sp_X5_isSign_6_w2 {l : Launch} {K : EC} {M0 : Mem} (hI : In Tru M0) (en_6_2 : rd M0 6 2 = 2) (a1 : Int) (ha1 : 20 ≤ a1 ∧ a1 ≤ 50)  : Tr l K 0 mX5_isSign 0 [(0, (2, 6)), (1, (0, a1))] [] M0 (q_X5_isSign_6_w2 M0) := by
  have hS : St Tru ws_X5_isSign_6_w2 as_X5_isSign_6_w2 M0 M0 := St.rf hI
  refine Tr.aload_n (pc := 0) (i := 0) d_X5_isSign_0 rfl rfl ?_
  refine Tr.getf (pc := 1) d_X5_isSign_1 f_5_18 (by decide) (by decide) (ty_6 hS.1.1) ?_
  refine Tr.tp 2 ((St.kp hS (by decide) (by decide) (by decide)).trans en_6_2) ?_
  refine Tr.getf (pc := 4) d_X5_isSign_4 f_5_50 (by decide) (by decide) (ty_2 hS.1.1) ?_
  refine Tr.tp 3 (fx_2_0 hS.1.1) ?_
  refine Tr.aload_n (pc := 7) (i := 0) d_X5_isSign_7 rfl rfl ?_
  refine Tr.getf (pc := 8) d_X5_isSign_8 f_5_36 (by decide) (by decide) (ty_6 hS.1.1) ?_
  refine Tr.gen (P := fun v => 0 ≤ v ∧ v ≤ 900) (ir_6_5 hS.1.2.1) (fun r8 er8 br8 => ?_)
  refine Tr.iald (pc := 11) d_X5_isSign_11 (ty_3 hS.1.1) (by omega) (by omega) ?_
  refine Tr.gen (P := fun v => (-2147483648) ≤ v ∧ v ≤ 2147483647) (ar_3 hS.1.2.1 _) (fun r11 er11 br11 => ?_)
  refine Tr.iconst (pc := 12) d_X5_isSign_12 (by decide) ?_
  refine Tr.icmp_ne (pc := 13) (tgt := 36) d_X5_isSign_13 rfl (fun c13 => ?_) (fun c13 => ?_)
  · refine Tr.iconst (pc := 36) d_X5_isSign_36 (by decide) ?_
    exact Tr.zret (pc := 37) d_X5_isSign_37 rfl (by omega) ⟨hS, _, rfl, by omega, by omega⟩
  · refine Tr.aload_n (pc := 16) (i := 0) d_X5_isSign_16 rfl rfl ?_
    refine Tr.getf (pc := 17) d_X5_isSign_17 f_5_18 (by decide) (by decide) (ty_6 hS.1.1) ?_
    refine Tr.tp 2 ((St.kp hS (by decide) (by decide) (by decide)).trans en_6_2) ?_
    refine Tr.getf (pc := 20) d_X5_isSign_20 f_5_68 (by decide) (by decide) (ty_2 hS.1.1) ?_
    refine Tr.tp 5 (fx_2_2 hS.1.1) ?_
    refine Tr.aload_n (pc := 23) (i := 0) d_X5_isSign_23 rfl rfl ?_
    refine Tr.getf (pc := 24) d_X5_isSign_24 f_5_36 (by decide) (by decide) (ty_6 hS.1.1) ?_
    refine Tr.tp r8 er8 ?_
    refine Tr.iald (pc := 27) d_X5_isSign_27 (ty_5 hS.1.1) (by omega) (by omega) ?_
    refine Tr.gen (P := fun v => (-2147483648) ≤ v ∧ v ≤ 2147483647) (ar_5 hS.1.2.1 _) (fun r27 er27 br27 => ?_)
    refine Tr.iload_n (pc := 28) (i := 1) d_X5_isSign_28 rfl rfl ?_
    refine Tr.icmp_ne (pc := 29) (tgt := 36) d_X5_isSign_29 rfl (fun c29 => ?_) (fun c29 => ?_)
    · refine Tr.iconst (pc := 36) d_X5_isSign_36 (by decide) ?_
      exact Tr.zret (pc := 37) d_X5_isSign_37 rfl (by omega) ⟨hS, _, rfl, by omega, by omega⟩
    · refine Tr.iconst (pc := 32) d_X5_isSign_32 (by decide) ?_
      refine Tr.goto (pc := 33) (tgt := 37) d_X5_isSign_33 rfl ?_
      exact Tr.zret (pc := 37) d_X5_isSign_37 rfl (by omega) ⟨hS, _, rfl, by omega, by omega⟩

def ws_X4_emit_35 : List (Int × Int) := [(35, 11)]
def as_X4_emit_35 : List Int := [44, 45]
def q_X4_emit_35 (M0 M' : Mem) (r : Option PV) : Prop := St Tru ws_X4_emit_35 as_X4_emit_35 M0 M' ∧ r = none
set_option maxRecDepth 100000 in
set_option maxHeartbeats 4000000 in
theorem sp_X4_emit_35 {l : Launch} {K : EC} {M0 : Mem} (hI : In Tru M0)  (a1 : Int) (ha1 : 3 ≤ a1 ∧ a1 ≤ 3) (a2 : Int) (ha2 : 0 ≤ a2 ∧ a2 ≤ 0) (hp0 : (a1 = 1 → 0 ≤ a2 ∧ a2 ≤ 2) ∧ (a1 = 2 ∨ a1 = 4 → 0 ≤ a2 ∧ a2 ≤ 5)) : Tr l K 0 mX4_emit 0 [(0, (2, 35)), (1, (0, a1)), (2, (0, a2))] [] M0 (q_X4_emit_35 M0) := by
  have hS : St Tru ws_X4_emit_35 as_X4_emit_35 M0 M0 := St.rf hI
  refine Tr.aload_n (pc := 0) (i := 0) d_X4_emit_0 rfl rfl ?_
  refine Tr.getf (pc := 1) d_X4_emit_1 f_4_49 (by decide) (by decide) (ty_35 hS.1.1) ?_
  refine Tr.gen (P := fun v => 0 ≤ v ∧ v ≤ 900) (ir_35_11 hS.1.2.1) (fun r1 er1 br1 => ?_)
  refine Tr.sipush (pc := 4) d_X4_emit_4 rfl (by decide) ?_
  refine Tr.icmp_ge (pc := 7) (tgt := 40) d_X4_emit_7 rfl (fun c7 => ?_) (fun c7 => ?_)
  · exact Tr.vret (pc := 40) d_X4_emit_40 rfl ⟨hS, rfl⟩
  · refine Tr.aload_n (pc := 10) (i := 0) d_X4_emit_10 rfl rfl ?_
    refine Tr.getf (pc := 11) d_X4_emit_11 f_4_36 (by decide) (by decide) (ty_35 hS.1.1) ?_
    refine Tr.tp 44 (fx_35_9 hS.1.1) ?_
    refine Tr.aload_n (pc := 14) (i := 0) d_X4_emit_14 rfl rfl ?_
    refine Tr.getf (pc := 15) d_X4_emit_15 f_4_49 (by decide) (by decide) (ty_35 hS.1.1) ?_
    refine Tr.tp r1 er1 ?_
    refine Tr.iload_n (pc := 18) (i := 1) d_X4_emit_18 rfl rfl ?_
    refine Tr.iast (pc := 19) d_X4_emit_19 (ty_44 hS.1.1) (by omega) (by omega) ?_
    refine Tr.aload_n (pc := 20) (i := 0) d_X4_emit_20 rfl rfl ?_
    refine Tr.getf (pc := 21) d_X4_emit_21 f_4_39 (by decide) (by decide) (show mT (wr M0 44 r1 a1) 35 = (4, 13) from ty_35 (M := M0) hS.1.1) ?_
    refine Tr.tp 45 ((rd_wb _ rfl).trans (fx_35_10 (M := M0) hS.1.1)) ?_
    refine Tr.aload_n (pc := 24) (i := 0) d_X4_emit_24 rfl rfl ?_
    refine Tr.getf (pc := 25) d_X4_emit_25 f_4_49 (by decide) (by decide) (show mT (wr M0 44 r1 a1) 35 = (4, 13) from ty_35 (M := M0) hS.1.1) ?_
    refine Tr.tp r1 ((rd_wb _ rfl).trans er1) ?_
    refine Tr.iload_n (pc := 28) (i := 2) d_X4_emit_28 rfl rfl ?_
    refine Tr.iastS (pc := 29) (P := St Tru ws_X4_emit_35 as_X4_emit_35 M0) d_X4_emit_29 (show mT (wr M0 44 r1 a1) 45 = (20, 900) from ty_45 (M := M0) hS.1.1) (by omega) (by omega) (St.two (x := 44) (y := 45) 35 36 hS (by decide) hp0 (by decide) (by decide) rfl (by decide +kernel) (by decide +kernel) (by decide +kernel) (by omega) rfl (by decide +kernel) (by decide +kernel) (by decide +kernel) (by omega) trivial) (fun M29 hS w29 => ?_)
    refine Tr.aload_n (pc := 30) (i := 0) d_X4_emit_30 rfl rfl ?_
    refine Tr.dup (pc := 31) d_X4_emit_31 ne21 ?_
    refine Tr.getf (pc := 32) d_X4_emit_32 f_4_49 (by decide) (by decide) (ty_35 hS.1.1) ?_
    refine Tr.tp r1 ((Wr.b w29 rfl).trans ((rd_wb _ rfl).trans er1)) ?_
    refine Tr.iconst (pc := 35) d_X4_emit_35 (by decide) ?_
    refine Tr.iadd (pc := 36) d_X4_emit_36 ?_
    refine Tr.tp (r1 + 1) ((w32_id (by omega)).trans (by omega)) ?_
    refine Tr.putfS (pc := 37) (P := St Tru ws_X4_emit_35 as_X4_emit_35 M0) d_X4_emit_37 f_4_49 (by decide) (by decide) (ty_35 hS.1.1) (st_35_11 hS (by decide) (by omega) trivial) (fun M37 hS w37 => ?_)
    exact Tr.vret (pc := 40) d_X4_emit_40 rfl ⟨hS, rfl⟩

def ws_X5_takeOpening_6 : List (Int × Int) := [(6, 0), (6, 1), (6, 5), (6, 6)]
def as_X5_takeOpening_6 : List Int := []
def q_X5_takeOpening_6 (M0 M' : Mem) (r : Option PV) : Prop := St Tru ws_X5_takeOpening_6 as_X5_takeOpening_6 M0 M' ∧ ∃ v : Int, r = some (0, v) ∧ 0 ≤ v ∧ v ≤ 1 ∧ ((1 ≤ v ∧ v ≤ 1) → rd M' 6 6 = 1)
set_option maxRecDepth 100000 in
set_option maxHeartbeats 4000000 in
theorem sp_X5_takeOpening_6 {l : Launch} {K : EC} {M0 : Mem} (hI : In Tru M0) (en_6_2 : rd M0 6 2 = 2) (en_6_6 : rd M0 6 6 = 0) (a1 : Int) (ha1 : 20 ≤ a1 ∧ a1 ≤ 50)  : Tr l K 1 mX5_takeOpening 0 [(0, (2, 6)), (1, (0, a1))] [] M0 (q_X5_takeOpening_6 M0) := by
  have hS : St Tru ws_X5_takeOpening_6 as_X5_takeOpening_6 M0 M0 := St.rf hI
  refine Tr.aload_n (pc := 0) (i := 0) d_X5_takeOpening_0 rfl rfl ?_
  refine Tr.iload_n (pc := 1) (i := 1) d_X5_takeOpening_1 rfl rfl ?_
  refine Tr.callV (pc := 2) (as := [_]) d_X5_takeOpening_2 s_5_77 ok_X5_isSign rfl rfl (Nat.le_of_ble_eq_true rfl) (Nat.le_of_ble_eq_true rfl) (by decide) (ty_6 hS.1.1) ?_
  refine Tr.imp (Tr.deep (by decide) (sp_X5_isSign_6_w2 hS.1 ((St.kp hS (by decide) (by decide) (by decide)).trans en_6_2) a1 (by omega))) ?_
  rintro M2 _ ⟨h2, r2, rfl, lr2, ur2⟩
  have hS := St.tr hS h2 (by decide) (by decide)
  refine Tr.sc [(0, r2)] rfl ?_
  refine Tr.if_ne (pc := 5) (tgt := 14) d_X5_takeOpening_5 rfl (fun c5 => ?_) (fun c5 => ?_)
  · refine Tr.aload_n (pc := 14) (i := 0) d_X5_takeOpening_14 rfl rfl ?_
    refine Tr.getf (pc := 15) d_X5_takeOpening_15 f_5_39 (by decide) (by decide) (ty_6 hS.1.1) ?_
    refine Tr.tp 0 ((St.kp h2 (by decide) (by decide) (by decide)).trans en_6_6) ?_
    refine Tr.bipush (pc := 18) d_X5_takeOpening_18 rfl (by decide) ?_
    refine Tr.icmp_ne (pc := 20) (tgt := 29) d_X5_takeOpening_20 rfl (fun _ => ?_) (fun hc => absurd hc (by omega))
    refine Tr.aload_n (pc := 29) (i := 0) d_X5_takeOpening_29 rfl rfl ?_
    refine Tr.dup (pc := 30) d_X5_takeOpening_30 ne21 ?_
    refine Tr.getf (pc := 31) d_X5_takeOpening_31 f_5_39 (by decide) (by decide) (ty_6 hS.1.1) ?_
    refine Tr.tp 0 ((St.kp h2 (by decide) (by decide) (by decide)).trans en_6_6) ?_
    refine Tr.iconst (pc := 34) d_X5_takeOpening_34 (by decide) ?_
    refine Tr.iadd (pc := 35) d_X5_takeOpening_35 ?_
    refine Tr.tp 1 (by decide) ?_
    refine Tr.putfS (pc := 36) (P := St Tru ws_X5_takeOpening_6 as_X5_takeOpening_6 M0) d_X5_takeOpening_36 f_5_39 (by decide) (by decide) (ty_6 hS.1.1) (st_6_6 hS (by decide) (by omega) trivial) (fun M36 hS w36 => ?_)
    refine Tr.aload_n (pc := 39) (i := 0) d_X5_takeOpening_39 rfl rfl ?_
    refine Tr.callV (pc := 40) (as := []) d_X5_takeOpening_40 s_5_74 ok_X5_goOn rfl rfl (Nat.le_of_ble_eq_true rfl) (Nat.le_of_ble_eq_true rfl) (by decide) (ty_6 hS.1.1) ?_
    refine Tr.imp (Tr.deep (by decide) (sp_X5_goOn_6 hS.1 )) ?_
    rintro M40 _ ⟨h40, r40, rfl, lr40, ur40⟩
    have hS := St.tr hS h40 (by decide) (by decide)
    refine Tr.sc [(0, r40)] rfl ?_
    exact Tr.zret (pc := 43) d_X5_takeOpening_43 rfl (by omega) ⟨hS, _, rfl, by omega, by omega, fun _ => ((St.kp h40 (by decide) (by decide) (by decide)).trans w36.1)⟩
  · refine Tr.aload_n (pc := 8) (i := 0) d_X5_takeOpening_8 rfl rfl ?_
    refine Tr.iconst (pc := 9) d_X5_takeOpening_9 (by decide) ?_
    refine Tr.callV (pc := 10) (as := [_]) d_X5_takeOpening_10 s_5_56 ok_X5_refuse rfl rfl (Nat.le_of_ble_eq_true rfl) (Nat.le_of_ble_eq_true rfl) (by decide) (ty_6 hS.1.1) ?_
    refine Tr.imp (Tr.deep (by decide) (sp_X5_refuse_6_w1 hS.1 ((St.kp hS (by decide) (by decide) (by decide)).trans en_6_2) 1 (by omega))) ?_
    rintro M10 _ ⟨h10, r10, rfl, lr10, ur10⟩
    have hS := St.tr hS h10 (by decide) (by decide)
    refine Tr.sc [(0, r10)] rfl ?_
    exact Tr.zret (pc := 13) d_X5_takeOpening_13 rfl (by omega) ⟨hS, _, rfl, by omega, by omega, fun hq => absurd hq (by omega)⟩

def ws_X5_takeOpening_6_w1 : List (Int × Int) := [(6, 0), (6, 1), (6, 5), (6, 6)]
def as_X5_takeOpening_6_w1 : List Int := []
def q_X5_takeOpening_6_w1 (M0 M' : Mem) (r : Option PV) : Prop := St Tru ws_X5_takeOpening_6_w1 as_X5_takeOpening_6_w1 M0 M' ∧ ∃ v : Int, r = some (0, v) ∧ 0 ≤ v ∧ v ≤ 1 ∧ ((1 ≤ v ∧ v ≤ 1) → rd M' 6 6 = 2)
set_option maxRecDepth 100000 in
set_option maxHeartbeats 4000000 in
theorem sp_X5_takeOpening_6_w1 {l : Launch} {K : EC} {M0 : Mem} (hI : In Tru M0) (en_6_2 : rd M0 6 2 = 2) (en_6_6 : rd M0 6 6 = 1) (a1 : Int) (ha1 : 20 ≤ a1 ∧ a1 ≤ 50)  : Tr l K 1 mX5_takeOpening 0 [(0, (2, 6)), (1, (0, a1))] [] M0 (q_X5_takeOpening_6_w1 M0) := by
  have hS : St Tru ws_X5_takeOpening_6_w1 as_X5_takeOpening_6_w1 M0 M0 := St.rf hI
  refine Tr.aload_n (pc := 0) (i := 0) d_X5_takeOpening_0 rfl rfl ?_
  refine Tr.iload_n (pc := 1) (i := 1) d_X5_takeOpening_1 rfl rfl ?_
  refine Tr.callV (pc := 2) (as := [_]) d_X5_takeOpening_2 s_5_77 ok_X5_isSign rfl rfl (Nat.le_of_ble_eq_true rfl) (Nat.le_of_ble_eq_true rfl) (by decide) (ty_6 hS.1.1) ?_
  refine Tr.imp (Tr.deep (by decide) (sp_X5_isSign_6_w2 hS.1 ((St.kp hS (by decide) (by decide) (by decide)).trans en_6_2) a1 (by omega))) ?_
  rintro M2 _ ⟨h2, r2, rfl, lr2, ur2⟩
  have hS := St.tr hS h2 (by decide) (by decide)
  refine Tr.sc [(0, r2)] rfl ?_
  refine Tr.if_ne (pc := 5) (tgt := 14) d_X5_takeOpening_5 rfl (fun c5 => ?_) (fun c5 => ?_)
  · refine Tr.aload_n (pc := 14) (i := 0) d_X5_takeOpening_14 rfl rfl ?_
    refine Tr.getf (pc := 15) d_X5_takeOpening_15 f_5_39 (by decide) (by decide) (ty_6 hS.1.1) ?_
    refine Tr.tp 1 ((St.kp h2 (by decide) (by decide) (by decide)).trans en_6_6) ?_
    refine Tr.bipush (pc := 18) d_X5_takeOpening_18 rfl (by decide) ?_
    refine Tr.icmp_ne (pc := 20) (tgt := 29) d_X5_takeOpening_20 rfl (fun _ => ?_) (fun hc => absurd hc (by omega))
    refine Tr.aload_n (pc := 29) (i := 0) d_X5_takeOpening_29 rfl rfl ?_
    refine Tr.dup (pc := 30) d_X5_takeOpening_30 ne21 ?_
    refine Tr.getf (pc := 31) d_X5_takeOpening_31 f_5_39 (by decide) (by decide) (ty_6 hS.1.1) ?_
    refine Tr.tp 1 ((St.kp h2 (by decide) (by decide) (by decide)).trans en_6_6) ?_
    refine Tr.iconst (pc := 34) d_X5_takeOpening_34 (by decide) ?_
    refine Tr.iadd (pc := 35) d_X5_takeOpening_35 ?_
    refine Tr.tp 2 (by decide) ?_
    refine Tr.putfS (pc := 36) (P := St Tru ws_X5_takeOpening_6_w1 as_X5_takeOpening_6_w1 M0) d_X5_takeOpening_36 f_5_39 (by decide) (by decide) (ty_6 hS.1.1) (st_6_6 hS (by decide) (by omega) trivial) (fun M36 hS w36 => ?_)
    refine Tr.aload_n (pc := 39) (i := 0) d_X5_takeOpening_39 rfl rfl ?_
    refine Tr.callV (pc := 40) (as := []) d_X5_takeOpening_40 s_5_74 ok_X5_goOn rfl rfl (Nat.le_of_ble_eq_true rfl) (Nat.le_of_ble_eq_true rfl) (by decide) (ty_6 hS.1.1) ?_
    refine Tr.imp (Tr.deep (by decide) (sp_X5_goOn_6 hS.1 )) ?_
    rintro M40 _ ⟨h40, r40, rfl, lr40, ur40⟩
    have hS := St.tr hS h40 (by decide) (by decide)
    refine Tr.sc [(0, r40)] rfl ?_
    exact Tr.zret (pc := 43) d_X5_takeOpening_43 rfl (by omega) ⟨hS, _, rfl, by omega, by omega, fun _ => ((St.kp h40 (by decide) (by decide) (by decide)).trans w36.1)⟩
  · refine Tr.aload_n (pc := 8) (i := 0) d_X5_takeOpening_8 rfl rfl ?_
    refine Tr.iconst (pc := 9) d_X5_takeOpening_9 (by decide) ?_
    refine Tr.callV (pc := 10) (as := [_]) d_X5_takeOpening_10 s_5_56 ok_X5_refuse rfl rfl (Nat.le_of_ble_eq_true rfl) (Nat.le_of_ble_eq_true rfl) (by decide) (ty_6 hS.1.1) ?_
    refine Tr.imp (Tr.deep (by decide) (sp_X5_refuse_6_w1 hS.1 ((St.kp hS (by decide) (by decide) (by decide)).trans en_6_2) 1 (by omega))) ?_
    rintro M10 _ ⟨h10, r10, rfl, lr10, ur10⟩
    have hS := St.tr hS h10 (by decide) (by decide)
    refine Tr.sc [(0, r10)] rfl ?_
    exact Tr.zret (pc := 13) d_X5_takeOpening_13 rfl (by omega) ⟨hS, _, rfl, by omega, by omega, fun hq => absurd hq (by omega)⟩

def ws_X5_takeOpening_6_w2 : List (Int × Int) := [(6, 0), (6, 1), (6, 5), (6, 6)]
def as_X5_takeOpening_6_w2 : List Int := []
def q_X5_takeOpening_6_w2 (M0 M' : Mem) (r : Option PV) : Prop := St Tru ws_X5_takeOpening_6_w2 as_X5_takeOpening_6_w2 M0 M' ∧ ∃ v : Int, r = some (0, v) ∧ 0 ≤ v ∧ v ≤ 1 ∧ ((1 ≤ v ∧ v ≤ 1) → rd M' 6 6 = 3)
set_option maxRecDepth 100000 in
set_option maxHeartbeats 4000000 in
theorem sp_X5_takeOpening_6_w2 {l : Launch} {K : EC} {M0 : Mem} (hI : In Tru M0) (en_6_2 : rd M0 6 2 = 2) (en_6_6 : rd M0 6 6 = 2) (a1 : Int) (ha1 : 20 ≤ a1 ∧ a1 ≤ 50)  : Tr l K 1 mX5_takeOpening 0 [(0, (2, 6)), (1, (0, a1))] [] M0 (q_X5_takeOpening_6_w2 M0) := by
  have hS : St Tru ws_X5_takeOpening_6_w2 as_X5_takeOpening_6_w2 M0 M0 := St.rf hI
  refine Tr.aload_n (pc := 0) (i := 0) d_X5_takeOpening_0 rfl rfl ?_
  refine Tr.iload_n (pc := 1) (i := 1) d_X5_takeOpening_1 rfl rfl ?_
  refine Tr.callV (pc := 2) (as := [_]) d_X5_takeOpening_2 s_5_77 ok_X5_isSign rfl rfl (Nat.le_of_ble_eq_true rfl) (Nat.le_of_ble_eq_true rfl) (by decide) (ty_6 hS.1.1) ?_
  refine Tr.imp (Tr.deep (by decide) (sp_X5_isSign_6_w2 hS.1 ((St.kp hS (by decide) (by decide) (by decide)).trans en_6_2) a1 (by omega))) ?_
  rintro M2 _ ⟨h2, r2, rfl, lr2, ur2⟩
  have hS := St.tr hS h2 (by decide) (by decide)
  refine Tr.sc [(0, r2)] rfl ?_
  refine Tr.if_ne (pc := 5) (tgt := 14) d_X5_takeOpening_5 rfl (fun c5 => ?_) (fun c5 => ?_)
  · refine Tr.aload_n (pc := 14) (i := 0) d_X5_takeOpening_14 rfl rfl ?_
    refine Tr.getf (pc := 15) d_X5_takeOpening_15 f_5_39 (by decide) (by decide) (ty_6 hS.1.1) ?_
    refine Tr.tp 2 ((St.kp h2 (by decide) (by decide) (by decide)).trans en_6_6) ?_
    refine Tr.bipush (pc := 18) d_X5_takeOpening_18 rfl (by decide) ?_
    refine Tr.icmp_ne (pc := 20) (tgt := 29) d_X5_takeOpening_20 rfl (fun _ => ?_) (fun hc => absurd hc (by omega))
    refine Tr.aload_n (pc := 29) (i := 0) d_X5_takeOpening_29 rfl rfl ?_
    refine Tr.dup (pc := 30) d_X5_takeOpening_30 ne21 ?_
    refine Tr.getf (pc := 31) d_X5_takeOpening_31 f_5_39 (by decide) (by decide) (ty_6 hS.1.1) ?_
    refine Tr.tp 2 ((St.kp h2 (by decide) (by decide) (by decide)).trans en_6_6) ?_
    refine Tr.iconst (pc := 34) d_X5_takeOpening_34 (by decide) ?_
    refine Tr.iadd (pc := 35) d_X5_takeOpening_35 ?_
    refine Tr.tp 3 (by decide) ?_
    refine Tr.putfS (pc := 36) (P := St Tru ws_X5_takeOpening_6_w2 as_X5_takeOpening_6_w2 M0) d_X5_takeOpening_36 f_5_39 (by decide) (by decide) (ty_6 hS.1.1) (st_6_6 hS (by decide) (by omega) trivial) (fun M36 hS w36 => ?_)
    refine Tr.aload_n (pc := 39) (i := 0) d_X5_takeOpening_39 rfl rfl ?_
    refine Tr.callV (pc := 40) (as := []) d_X5_takeOpening_40 s_5_74 ok_X5_goOn rfl rfl (Nat.le_of_ble_eq_true rfl) (Nat.le_of_ble_eq_true rfl) (by decide) (ty_6 hS.1.1) ?_
    refine Tr.imp (Tr.deep (by decide) (sp_X5_goOn_6 hS.1 )) ?_
    rintro M40 _ ⟨h40, r40, rfl, lr40, ur40⟩
    have hS := St.tr hS h40 (by decide) (by decide)
    refine Tr.sc [(0, r40)] rfl ?_
    exact Tr.zret (pc := 43) d_X5_takeOpening_43 rfl (by omega) ⟨hS, _, rfl, by omega, by omega, fun _ => ((St.kp h40 (by decide) (by decide) (by decide)).trans w36.1)⟩
  · refine Tr.aload_n (pc := 8) (i := 0) d_X5_takeOpening_8 rfl rfl ?_
    refine Tr.iconst (pc := 9) d_X5_takeOpening_9 (by decide) ?_
    refine Tr.callV (pc := 10) (as := [_]) d_X5_takeOpening_10 s_5_56 ok_X5_refuse rfl rfl (Nat.le_of_ble_eq_true rfl) (Nat.le_of_ble_eq_true rfl) (by decide) (ty_6 hS.1.1) ?_
    refine Tr.imp (Tr.deep (by decide) (sp_X5_refuse_6_w1 hS.1 ((St.kp hS (by decide) (by decide) (by decide)).trans en_6_2) 1 (by omega))) ?_
    rintro M10 _ ⟨h10, r10, rfl, lr10, ur10⟩
    have hS := St.tr hS h10 (by decide) (by decide)
    refine Tr.sc [(0, r10)] rfl ?_
    exact Tr.zret (pc := 13) d_X5_takeOpening_13 rfl (by omega) ⟨hS, _, rfl, by omega, by omega, fun hq => absurd hq (by omega)⟩

def ws_X5_takeOpening_6_w3 : List (Int × Int) := [(6, 0), (6, 1), (6, 5), (6, 6)]
def as_X5_takeOpening_6_w3 : List Int := []
def q_X5_takeOpening_6_w3 (M0 M' : Mem) (r : Option PV) : Prop := St Tru ws_X5_takeOpening_6_w3 as_X5_takeOpening_6_w3 M0 M' ∧ ∃ v : Int, r = some (0, v) ∧ 0 ≤ v ∧ v ≤ 1 ∧ ((1 ≤ v ∧ v ≤ 1) → rd M' 6 6 = 4)
set_option maxRecDepth 100000 in
set_option maxHeartbeats 4000000 in
theorem sp_X5_takeOpening_6_w3 {l : Launch} {K : EC} {M0 : Mem} (hI : In Tru M0) (en_6_2 : rd M0 6 2 = 2) (en_6_6 : rd M0 6 6 = 3) (a1 : Int) (ha1 : 20 ≤ a1 ∧ a1 ≤ 50)  : Tr l K 1 mX5_takeOpening 0 [(0, (2, 6)), (1, (0, a1))] [] M0 (q_X5_takeOpening_6_w3 M0) := by
  have hS : St Tru ws_X5_takeOpening_6_w3 as_X5_takeOpening_6_w3 M0 M0 := St.rf hI
  refine Tr.aload_n (pc := 0) (i := 0) d_X5_takeOpening_0 rfl rfl ?_
  refine Tr.iload_n (pc := 1) (i := 1) d_X5_takeOpening_1 rfl rfl ?_
  refine Tr.callV (pc := 2) (as := [_]) d_X5_takeOpening_2 s_5_77 ok_X5_isSign rfl rfl (Nat.le_of_ble_eq_true rfl) (Nat.le_of_ble_eq_true rfl) (by decide) (ty_6 hS.1.1) ?_
  refine Tr.imp (Tr.deep (by decide) (sp_X5_isSign_6_w2 hS.1 ((St.kp hS (by decide) (by decide) (by decide)).trans en_6_2) a1 (by omega))) ?_
  rintro M2 _ ⟨h2, r2, rfl, lr2, ur2⟩
  have hS := St.tr hS h2 (by decide) (by decide)
  refine Tr.sc [(0, r2)] rfl ?_
  refine Tr.if_ne (pc := 5) (tgt := 14) d_X5_takeOpening_5 rfl (fun c5 => ?_) (fun c5 => ?_)
  · refine Tr.aload_n (pc := 14) (i := 0) d_X5_takeOpening_14 rfl rfl ?_
    refine Tr.getf (pc := 15) d_X5_takeOpening_15 f_5_39 (by decide) (by decide) (ty_6 hS.1.1) ?_
    refine Tr.tp 3 ((St.kp h2 (by decide) (by decide) (by decide)).trans en_6_6) ?_
    refine Tr.bipush (pc := 18) d_X5_takeOpening_18 rfl (by decide) ?_
    refine Tr.icmp_ne (pc := 20) (tgt := 29) d_X5_takeOpening_20 rfl (fun _ => ?_) (fun hc => absurd hc (by omega))
    refine Tr.aload_n (pc := 29) (i := 0) d_X5_takeOpening_29 rfl rfl ?_
    refine Tr.dup (pc := 30) d_X5_takeOpening_30 ne21 ?_
    refine Tr.getf (pc := 31) d_X5_takeOpening_31 f_5_39 (by decide) (by decide) (ty_6 hS.1.1) ?_
    refine Tr.tp 3 ((St.kp h2 (by decide) (by decide) (by decide)).trans en_6_6) ?_
    refine Tr.iconst (pc := 34) d_X5_takeOpening_34 (by decide) ?_
    refine Tr.iadd (pc := 35) d_X5_takeOpening_35 ?_
    refine Tr.tp 4 (by decide) ?_
    refine Tr.putfS (pc := 36) (P := St Tru ws_X5_takeOpening_6_w3 as_X5_takeOpening_6_w3 M0) d_X5_takeOpening_36 f_5_39 (by decide) (by decide) (ty_6 hS.1.1) (st_6_6 hS (by decide) (by omega) trivial) (fun M36 hS w36 => ?_)
    refine Tr.aload_n (pc := 39) (i := 0) d_X5_takeOpening_39 rfl rfl ?_
    refine Tr.callV (pc := 40) (as := []) d_X5_takeOpening_40 s_5_74 ok_X5_goOn rfl rfl (Nat.le_of_ble_eq_true rfl) (Nat.le_of_ble_eq_true rfl) (by decide) (ty_6 hS.1.1) ?_
    refine Tr.imp (Tr.deep (by decide) (sp_X5_goOn_6 hS.1 )) ?_
    rintro M40 _ ⟨h40, r40, rfl, lr40, ur40⟩
    have hS := St.tr hS h40 (by decide) (by decide)
    refine Tr.sc [(0, r40)] rfl ?_
    exact Tr.zret (pc := 43) d_X5_takeOpening_43 rfl (by omega) ⟨hS, _, rfl, by omega, by omega, fun _ => ((St.kp h40 (by decide) (by decide) (by decide)).trans w36.1)⟩
  · refine Tr.aload_n (pc := 8) (i := 0) d_X5_takeOpening_8 rfl rfl ?_
    refine Tr.iconst (pc := 9) d_X5_takeOpening_9 (by decide) ?_
    refine Tr.callV (pc := 10) (as := [_]) d_X5_takeOpening_10 s_5_56 ok_X5_refuse rfl rfl (Nat.le_of_ble_eq_true rfl) (Nat.le_of_ble_eq_true rfl) (by decide) (ty_6 hS.1.1) ?_
    refine Tr.imp (Tr.deep (by decide) (sp_X5_refuse_6_w1 hS.1 ((St.kp hS (by decide) (by decide) (by decide)).trans en_6_2) 1 (by omega))) ?_
    rintro M10 _ ⟨h10, r10, rfl, lr10, ur10⟩
    have hS := St.tr hS h10 (by decide) (by decide)
    refine Tr.sc [(0, r10)] rfl ?_
    exact Tr.zret (pc := 13) d_X5_takeOpening_13 rfl (by omega) ⟨hS, _, rfl, by omega, by omega, fun hq => absurd hq (by omega)⟩

def ws_X5_takeOpening_6_w4 : List (Int × Int) := [(6, 0), (6, 1), (6, 5), (6, 6)]
def as_X5_takeOpening_6_w4 : List Int := []
def q_X5_takeOpening_6_w4 (M0 M' : Mem) (r : Option PV) : Prop := St Tru ws_X5_takeOpening_6_w4 as_X5_takeOpening_6_w4 M0 M' ∧ ∃ v : Int, r = some (0, v) ∧ 0 ≤ v ∧ v ≤ 1 ∧ ((1 ≤ v ∧ v ≤ 1) → rd M' 6 6 = 5)
set_option maxRecDepth 100000 in
set_option maxHeartbeats 4000000 in
theorem sp_X5_takeOpening_6_w4 {l : Launch} {K : EC} {M0 : Mem} (hI : In Tru M0) (en_6_2 : rd M0 6 2 = 2) (en_6_6 : rd M0 6 6 = 4) (a1 : Int) (ha1 : 20 ≤ a1 ∧ a1 ≤ 50)  : Tr l K 1 mX5_takeOpening 0 [(0, (2, 6)), (1, (0, a1))] [] M0 (q_X5_takeOpening_6_w4 M0) := by
  have hS : St Tru ws_X5_takeOpening_6_w4 as_X5_takeOpening_6_w4 M0 M0 := St.rf hI
  refine Tr.aload_n (pc := 0) (i := 0) d_X5_takeOpening_0 rfl rfl ?_
  refine Tr.iload_n (pc := 1) (i := 1) d_X5_takeOpening_1 rfl rfl ?_
  refine Tr.callV (pc := 2) (as := [_]) d_X5_takeOpening_2 s_5_77 ok_X5_isSign rfl rfl (Nat.le_of_ble_eq_true rfl) (Nat.le_of_ble_eq_true rfl) (by decide) (ty_6 hS.1.1) ?_
  refine Tr.imp (Tr.deep (by decide) (sp_X5_isSign_6_w2 hS.1 ((St.kp hS (by decide) (by decide) (by decide)).trans en_6_2) a1 (by omega))) ?_
  rintro M2 _ ⟨h2, r2, rfl, lr2, ur2⟩
  have hS := St.tr hS h2 (by decide) (by decide)
  refine Tr.sc [(0, r2)] rfl ?_
  refine Tr.if_ne (pc := 5) (tgt := 14) d_X5_takeOpening_5 rfl (fun c5 => ?_) (fun c5 => ?_)
  · refine Tr.aload_n (pc := 14) (i := 0) d_X5_takeOpening_14 rfl rfl ?_
    refine Tr.getf (pc := 15) d_X5_takeOpening_15 f_5_39 (by decide) (by decide) (ty_6 hS.1.1) ?_
    refine Tr.tp 4 ((St.kp h2 (by decide) (by decide) (by decide)).trans en_6_6) ?_
    refine Tr.bipush (pc := 18) d_X5_takeOpening_18 rfl (by decide) ?_
    refine Tr.icmp_ne (pc := 20) (tgt := 29) d_X5_takeOpening_20 rfl (fun _ => ?_) (fun hc => absurd hc (by omega))
    refine Tr.aload_n (pc := 29) (i := 0) d_X5_takeOpening_29 rfl rfl ?_
    refine Tr.dup (pc := 30) d_X5_takeOpening_30 ne21 ?_
    refine Tr.getf (pc := 31) d_X5_takeOpening_31 f_5_39 (by decide) (by decide) (ty_6 hS.1.1) ?_
    refine Tr.tp 4 ((St.kp h2 (by decide) (by decide) (by decide)).trans en_6_6) ?_
    refine Tr.iconst (pc := 34) d_X5_takeOpening_34 (by decide) ?_
    refine Tr.iadd (pc := 35) d_X5_takeOpening_35 ?_
    refine Tr.tp 5 (by decide) ?_
    refine Tr.putfS (pc := 36) (P := St Tru ws_X5_takeOpening_6_w4 as_X5_takeOpening_6_w4 M0) d_X5_takeOpening_36 f_5_39 (by decide) (by decide) (ty_6 hS.1.1) (st_6_6 hS (by decide) (by omega) trivial) (fun M36 hS w36 => ?_)
    refine Tr.aload_n (pc := 39) (i := 0) d_X5_takeOpening_39 rfl rfl ?_
    refine Tr.callV (pc := 40) (as := []) d_X5_takeOpening_40 s_5_74 ok_X5_goOn rfl rfl (Nat.le_of_ble_eq_true rfl) (Nat.le_of_ble_eq_true rfl) (by decide) (ty_6 hS.1.1) ?_
    refine Tr.imp (Tr.deep (by decide) (sp_X5_goOn_6 hS.1 )) ?_
    rintro M40 _ ⟨h40, r40, rfl, lr40, ur40⟩
    have hS := St.tr hS h40 (by decide) (by decide)
    refine Tr.sc [(0, r40)] rfl ?_
    exact Tr.zret (pc := 43) d_X5_takeOpening_43 rfl (by omega) ⟨hS, _, rfl, by omega, by omega, fun _ => ((St.kp h40 (by decide) (by decide) (by decide)).trans w36.1)⟩
  · refine Tr.aload_n (pc := 8) (i := 0) d_X5_takeOpening_8 rfl rfl ?_
    refine Tr.iconst (pc := 9) d_X5_takeOpening_9 (by decide) ?_
    refine Tr.callV (pc := 10) (as := [_]) d_X5_takeOpening_10 s_5_56 ok_X5_refuse rfl rfl (Nat.le_of_ble_eq_true rfl) (Nat.le_of_ble_eq_true rfl) (by decide) (ty_6 hS.1.1) ?_
    refine Tr.imp (Tr.deep (by decide) (sp_X5_refuse_6_w1 hS.1 ((St.kp hS (by decide) (by decide) (by decide)).trans en_6_2) 1 (by omega))) ?_
    rintro M10 _ ⟨h10, r10, rfl, lr10, ur10⟩
    have hS := St.tr hS h10 (by decide) (by decide)
    refine Tr.sc [(0, r10)] rfl ?_
    exact Tr.zret (pc := 13) d_X5_takeOpening_13 rfl (by omega) ⟨hS, _, rfl, by omega, by omega, fun hq => absurd hq (by omega)⟩

def ws_X5_takeOpening_6_w5 : List (Int × Int) := [(6, 0), (6, 1), (6, 5), (6, 6)]
def as_X5_takeOpening_6_w5 : List Int := []
def q_X5_takeOpening_6_w5 (M0 M' : Mem) (r : Option PV) : Prop := St Tru ws_X5_takeOpening_6_w5 as_X5_takeOpening_6_w5 M0 M' ∧ ∃ v : Int, r = some (0, v) ∧ 0 ≤ v ∧ v ≤ 1 ∧ ((1 ≤ v ∧ v ≤ 1) → rd M' 6 6 = 6)
set_option maxRecDepth 100000 in
set_option maxHeartbeats 4000000 in
theorem sp_X5_takeOpening_6_w5 {l : Launch} {K : EC} {M0 : Mem} (hI : In Tru M0) (en_6_2 : rd M0 6 2 = 2) (en_6_6 : rd M0 6 6 = 5) (a1 : Int) (ha1 : 20 ≤ a1 ∧ a1 ≤ 50)  : Tr l K 1 mX5_takeOpening 0 [(0, (2, 6)), (1, (0, a1))] [] M0 (q_X5_takeOpening_6_w5 M0) := by
  have hS : St Tru ws_X5_takeOpening_6_w5 as_X5_takeOpening_6_w5 M0 M0 := St.rf hI
  refine Tr.aload_n (pc := 0) (i := 0) d_X5_takeOpening_0 rfl rfl ?_
  refine Tr.iload_n (pc := 1) (i := 1) d_X5_takeOpening_1 rfl rfl ?_
  refine Tr.callV (pc := 2) (as := [_]) d_X5_takeOpening_2 s_5_77 ok_X5_isSign rfl rfl (Nat.le_of_ble_eq_true rfl) (Nat.le_of_ble_eq_true rfl) (by decide) (ty_6 hS.1.1) ?_
  refine Tr.imp (Tr.deep (by decide) (sp_X5_isSign_6_w2 hS.1 ((St.kp hS (by decide) (by decide) (by decide)).trans en_6_2) a1 (by omega))) ?_
  rintro M2 _ ⟨h2, r2, rfl, lr2, ur2⟩
  have hS := St.tr hS h2 (by decide) (by decide)
  refine Tr.sc [(0, r2)] rfl ?_
  refine Tr.if_ne (pc := 5) (tgt := 14) d_X5_takeOpening_5 rfl (fun c5 => ?_) (fun c5 => ?_)
  · refine Tr.aload_n (pc := 14) (i := 0) d_X5_takeOpening_14 rfl rfl ?_
    refine Tr.getf (pc := 15) d_X5_takeOpening_15 f_5_39 (by decide) (by decide) (ty_6 hS.1.1) ?_
    refine Tr.tp 5 ((St.kp h2 (by decide) (by decide) (by decide)).trans en_6_6) ?_
    refine Tr.bipush (pc := 18) d_X5_takeOpening_18 rfl (by decide) ?_
    refine Tr.icmp_ne (pc := 20) (tgt := 29) d_X5_takeOpening_20 rfl (fun _ => ?_) (fun hc => absurd hc (by omega))
    refine Tr.aload_n (pc := 29) (i := 0) d_X5_takeOpening_29 rfl rfl ?_
    refine Tr.dup (pc := 30) d_X5_takeOpening_30 ne21 ?_
    refine Tr.getf (pc := 31) d_X5_takeOpening_31 f_5_39 (by decide) (by decide) (ty_6 hS.1.1) ?_
    refine Tr.tp 5 ((St.kp h2 (by decide) (by decide) (by decide)).trans en_6_6) ?_
    refine Tr.iconst (pc := 34) d_X5_takeOpening_34 (by decide) ?_
    refine Tr.iadd (pc := 35) d_X5_takeOpening_35 ?_
    refine Tr.tp 6 (by decide) ?_
    refine Tr.putfS (pc := 36) (P := St Tru ws_X5_takeOpening_6_w5 as_X5_takeOpening_6_w5 M0) d_X5_takeOpening_36 f_5_39 (by decide) (by decide) (ty_6 hS.1.1) (st_6_6 hS (by decide) (by omega) trivial) (fun M36 hS w36 => ?_)
    refine Tr.aload_n (pc := 39) (i := 0) d_X5_takeOpening_39 rfl rfl ?_
    refine Tr.callV (pc := 40) (as := []) d_X5_takeOpening_40 s_5_74 ok_X5_goOn rfl rfl (Nat.le_of_ble_eq_true rfl) (Nat.le_of_ble_eq_true rfl) (by decide) (ty_6 hS.1.1) ?_
    refine Tr.imp (Tr.deep (by decide) (sp_X5_goOn_6 hS.1 )) ?_
    rintro M40 _ ⟨h40, r40, rfl, lr40, ur40⟩
    have hS := St.tr hS h40 (by decide) (by decide)
    refine Tr.sc [(0, r40)] rfl ?_
    exact Tr.zret (pc := 43) d_X5_takeOpening_43 rfl (by omega) ⟨hS, _, rfl, by omega, by omega, fun _ => ((St.kp h40 (by decide) (by decide) (by decide)).trans w36.1)⟩
  · refine Tr.aload_n (pc := 8) (i := 0) d_X5_takeOpening_8 rfl rfl ?_
    refine Tr.iconst (pc := 9) d_X5_takeOpening_9 (by decide) ?_
    refine Tr.callV (pc := 10) (as := [_]) d_X5_takeOpening_10 s_5_56 ok_X5_refuse rfl rfl (Nat.le_of_ble_eq_true rfl) (Nat.le_of_ble_eq_true rfl) (by decide) (ty_6 hS.1.1) ?_
    refine Tr.imp (Tr.deep (by decide) (sp_X5_refuse_6_w1 hS.1 ((St.kp hS (by decide) (by decide) (by decide)).trans en_6_2) 1 (by omega))) ?_
    rintro M10 _ ⟨h10, r10, rfl, lr10, ur10⟩
    have hS := St.tr hS h10 (by decide) (by decide)
    refine Tr.sc [(0, r10)] rfl ?_
    exact Tr.zret (pc := 13) d_X5_takeOpening_13 rfl (by omega) ⟨hS, _, rfl, by omega, by omega, fun hq => absurd hq (by omega)⟩

def ws_X5_takeOpening_6_w6 : List (Int × Int) := [(6, 0), (6, 1), (6, 5), (6, 6)]
def as_X5_takeOpening_6_w6 : List Int := []
def q_X5_takeOpening_6_w6 (M0 M' : Mem) (r : Option PV) : Prop := St Tru ws_X5_takeOpening_6_w6 as_X5_takeOpening_6_w6 M0 M' ∧ ∃ v : Int, r = some (0, v) ∧ 0 ≤ v ∧ v ≤ 1 ∧ ((1 ≤ v ∧ v ≤ 1) → rd M' 6 6 = 7)
set_option maxRecDepth 100000 in
set_option maxHeartbeats 4000000 in
theorem sp_X5_takeOpening_6_w6 {l : Launch} {K : EC} {M0 : Mem} (hI : In Tru M0) (en_6_2 : rd M0 6 2 = 2) (en_6_6 : rd M0 6 6 = 6) (a1 : Int) (ha1 : 20 ≤ a1 ∧ a1 ≤ 50)  : Tr l K 1 mX5_takeOpening 0 [(0, (2, 6)), (1, (0, a1))] [] M0 (q_X5_takeOpening_6_w6 M0) := by
  have hS : St Tru ws_X5_takeOpening_6_w6 as_X5_takeOpening_6_w6 M0 M0 := St.rf hI
  refine Tr.aload_n (pc := 0) (i := 0) d_X5_takeOpening_0 rfl rfl ?_
  refine Tr.iload_n (pc := 1) (i := 1) d_X5_takeOpening_1 rfl rfl ?_
  refine Tr.callV (pc := 2) (as := [_]) d_X5_takeOpening_2 s_5_77 ok_X5_isSign rfl rfl (Nat.le_of_ble_eq_true rfl) (Nat.le_of_ble_eq_true rfl) (by decide) (ty_6 hS.1.1) ?_
  refine Tr.imp (Tr.deep (by decide) (sp_X5_isSign_6_w2 hS.1 ((St.kp hS (by decide) (by decide) (by decide)).trans en_6_2) a1 (by omega))) ?_
  rintro M2 _ ⟨h2, r2, rfl, lr2, ur2⟩
  have hS := St.tr hS h2 (by decide) (by decide)
  refine Tr.sc [(0, r2)] rfl ?_
  refine Tr.if_ne (pc := 5) (tgt := 14) d_X5_takeOpening_5 rfl (fun c5 => ?_) (fun c5 => ?_)
  · refine Tr.aload_n (pc := 14) (i := 0) d_X5_takeOpening_14 rfl rfl ?_
    refine Tr.getf (pc := 15) d_X5_takeOpening_15 f_5_39 (by decide) (by decide) (ty_6 hS.1.1) ?_
    refine Tr.tp 6 ((St.kp h2 (by decide) (by decide) (by decide)).trans en_6_6) ?_
    refine Tr.bipush (pc := 18) d_X5_takeOpening_18 rfl (by decide) ?_
    refine Tr.icmp_ne (pc := 20) (tgt := 29) d_X5_takeOpening_20 rfl (fun _ => ?_) (fun hc => absurd hc (by omega))
    refine Tr.aload_n (pc := 29) (i := 0) d_X5_takeOpening_29 rfl rfl ?_
    refine Tr.dup (pc := 30) d_X5_takeOpening_30 ne21 ?_
    refine Tr.getf (pc := 31) d_X5_takeOpening_31 f_5_39 (by decide) (by decide) (ty_6 hS.1.1) ?_
    refine Tr.tp 6 ((St.kp h2 (by decide) (by decide) (by decide)).trans en_6_6) ?_
    refine Tr.iconst (pc := 34) d_X5_takeOpening_34 (by decide) ?_
    refine Tr.iadd (pc := 35) d_X5_takeOpening_35 ?_
    refine Tr.tp 7 (by decide) ?_
    refine Tr.putfS (pc := 36) (P := St Tru ws_X5_takeOpening_6_w6 as_X5_takeOpening_6_w6 M0) d_X5_takeOpening_36 f_5_39 (by decide) (by decide) (ty_6 hS.1.1) (st_6_6 hS (by decide) (by omega) trivial) (fun M36 hS w36 => ?_)
    refine Tr.aload_n (pc := 39) (i := 0) d_X5_takeOpening_39 rfl rfl ?_
    refine Tr.callV (pc := 40) (as := []) d_X5_takeOpening_40 s_5_74 ok_X5_goOn rfl rfl (Nat.le_of_ble_eq_true rfl) (Nat.le_of_ble_eq_true rfl) (by decide) (ty_6 hS.1.1) ?_
    refine Tr.imp (Tr.deep (by decide) (sp_X5_goOn_6 hS.1 )) ?_
    rintro M40 _ ⟨h40, r40, rfl, lr40, ur40⟩
    have hS := St.tr hS h40 (by decide) (by decide)
    refine Tr.sc [(0, r40)] rfl ?_
    exact Tr.zret (pc := 43) d_X5_takeOpening_43 rfl (by omega) ⟨hS, _, rfl, by omega, by omega, fun _ => ((St.kp h40 (by decide) (by decide) (by decide)).trans w36.1)⟩
  · refine Tr.aload_n (pc := 8) (i := 0) d_X5_takeOpening_8 rfl rfl ?_
    refine Tr.iconst (pc := 9) d_X5_takeOpening_9 (by decide) ?_
    refine Tr.callV (pc := 10) (as := [_]) d_X5_takeOpening_10 s_5_56 ok_X5_refuse rfl rfl (Nat.le_of_ble_eq_true rfl) (Nat.le_of_ble_eq_true rfl) (by decide) (ty_6 hS.1.1) ?_
    refine Tr.imp (Tr.deep (by decide) (sp_X5_refuse_6_w1 hS.1 ((St.kp hS (by decide) (by decide) (by decide)).trans en_6_2) 1 (by omega))) ?_
    rintro M10 _ ⟨h10, r10, rfl, lr10, ur10⟩
    have hS := St.tr hS h10 (by decide) (by decide)
    refine Tr.sc [(0, r10)] rfl ?_
    exact Tr.zret (pc := 13) d_X5_takeOpening_13 rfl (by omega) ⟨hS, _, rfl, by omega, by omega, fun hq => absurd hq (by omega)⟩

def ws_X5_takeOpening_6_w7 : List (Int × Int) := [(6, 0), (6, 1), (6, 5), (6, 6)]
def as_X5_takeOpening_6_w7 : List Int := []
def q_X5_takeOpening_6_w7 (M0 M' : Mem) (r : Option PV) : Prop := St Tru ws_X5_takeOpening_6_w7 as_X5_takeOpening_6_w7 M0 M' ∧ ∃ v : Int, r = some (0, v) ∧ 0 ≤ v ∧ v ≤ 1 ∧ ((1 ≤ v ∧ v ≤ 1) → rd M' 6 6 = 8)
set_option maxRecDepth 100000 in
set_option maxHeartbeats 4000000 in
theorem sp_X5_takeOpening_6_w7 {l : Launch} {K : EC} {M0 : Mem} (hI : In Tru M0) (en_6_2 : rd M0 6 2 = 2) (en_6_6 : rd M0 6 6 = 7) (a1 : Int) (ha1 : 20 ≤ a1 ∧ a1 ≤ 50)  : Tr l K 1 mX5_takeOpening 0 [(0, (2, 6)), (1, (0, a1))] [] M0 (q_X5_takeOpening_6_w7 M0) := by
  have hS : St Tru ws_X5_takeOpening_6_w7 as_X5_takeOpening_6_w7 M0 M0 := St.rf hI
  refine Tr.aload_n (pc := 0) (i := 0) d_X5_takeOpening_0 rfl rfl ?_
  refine Tr.iload_n (pc := 1) (i := 1) d_X5_takeOpening_1 rfl rfl ?_
  refine Tr.callV (pc := 2) (as := [_]) d_X5_takeOpening_2 s_5_77 ok_X5_isSign rfl rfl (Nat.le_of_ble_eq_true rfl) (Nat.le_of_ble_eq_true rfl) (by decide) (ty_6 hS.1.1) ?_
  refine Tr.imp (Tr.deep (by decide) (sp_X5_isSign_6_w2 hS.1 ((St.kp hS (by decide) (by decide) (by decide)).trans en_6_2) a1 (by omega))) ?_
  rintro M2 _ ⟨h2, r2, rfl, lr2, ur2⟩
  have hS := St.tr hS h2 (by decide) (by decide)
  refine Tr.sc [(0, r2)] rfl ?_
  refine Tr.if_ne (pc := 5) (tgt := 14) d_X5_takeOpening_5 rfl (fun c5 => ?_) (fun c5 => ?_)
  · refine Tr.aload_n (pc := 14) (i := 0) d_X5_takeOpening_14 rfl rfl ?_
    refine Tr.getf (pc := 15) d_X5_takeOpening_15 f_5_39 (by decide) (by decide) (ty_6 hS.1.1) ?_
    refine Tr.tp 7 ((St.kp h2 (by decide) (by decide) (by decide)).trans en_6_6) ?_
    refine Tr.bipush (pc := 18) d_X5_takeOpening_18 rfl (by decide) ?_
    refine Tr.icmp_ne (pc := 20) (tgt := 29) d_X5_takeOpening_20 rfl (fun _ => ?_) (fun hc => absurd hc (by omega))
    refine Tr.aload_n (pc := 29) (i := 0) d_X5_takeOpening_29 rfl rfl ?_
    refine Tr.dup (pc := 30) d_X5_takeOpening_30 ne21 ?_
    refine Tr.getf (pc := 31) d_X5_takeOpening_31 f_5_39 (by decide) (by decide) (ty_6 hS.1.1) ?_
    refine Tr.tp 7 ((St.kp h2 (by decide) (by decide) (by decide)).trans en_6_6) ?_
    refine Tr.iconst (pc := 34) d_X5_takeOpening_34 (by decide) ?_
    refine Tr.iadd (pc := 35) d_X5_takeOpening_35 ?_
    refine Tr.tp 8 (by decide) ?_
    refine Tr.putfS (pc := 36) (P := St Tru ws_X5_takeOpening_6_w7 as_X5_takeOpening_6_w7 M0) d_X5_takeOpening_36 f_5_39 (by decide) (by decide) (ty_6 hS.1.1) (st_6_6 hS (by decide) (by omega) trivial) (fun M36 hS w36 => ?_)
    refine Tr.aload_n (pc := 39) (i := 0) d_X5_takeOpening_39 rfl rfl ?_
    refine Tr.callV (pc := 40) (as := []) d_X5_takeOpening_40 s_5_74 ok_X5_goOn rfl rfl (Nat.le_of_ble_eq_true rfl) (Nat.le_of_ble_eq_true rfl) (by decide) (ty_6 hS.1.1) ?_
    refine Tr.imp (Tr.deep (by decide) (sp_X5_goOn_6 hS.1 )) ?_
    rintro M40 _ ⟨h40, r40, rfl, lr40, ur40⟩
    have hS := St.tr hS h40 (by decide) (by decide)
    refine Tr.sc [(0, r40)] rfl ?_
    exact Tr.zret (pc := 43) d_X5_takeOpening_43 rfl (by omega) ⟨hS, _, rfl, by omega, by omega, fun _ => ((St.kp h40 (by decide) (by decide) (by decide)).trans w36.1)⟩
  · refine Tr.aload_n (pc := 8) (i := 0) d_X5_takeOpening_8 rfl rfl ?_
    refine Tr.iconst (pc := 9) d_X5_takeOpening_9 (by decide) ?_
    refine Tr.callV (pc := 10) (as := [_]) d_X5_takeOpening_10 s_5_56 ok_X5_refuse rfl rfl (Nat.le_of_ble_eq_true rfl) (Nat.le_of_ble_eq_true rfl) (by decide) (ty_6 hS.1.1) ?_
    refine Tr.imp (Tr.deep (by decide) (sp_X5_refuse_6_w1 hS.1 ((St.kp hS (by decide) (by decide) (by decide)).trans en_6_2) 1 (by omega))) ?_
    rintro M10 _ ⟨h10, r10, rfl, lr10, ur10⟩
    have hS := St.tr hS h10 (by decide) (by decide)
    refine Tr.sc [(0, r10)] rfl ?_
    exact Tr.zret (pc := 13) d_X5_takeOpening_13 rfl (by omega) ⟨hS, _, rfl, by omega, by omega, fun hq => absurd hq (by omega)⟩

def ws_X5_takeOpening_6_w8 : List (Int × Int) := [(6, 0), (6, 1)]
def as_X5_takeOpening_6_w8 : List Int := []
def q_X5_takeOpening_6_w8 (M0 M' : Mem) (r : Option PV) : Prop := St Tru ws_X5_takeOpening_6_w8 as_X5_takeOpening_6_w8 M0 M' ∧ ∃ v : Int, r = some (0, v) ∧ 0 ≤ v ∧ v ≤ 0
set_option maxRecDepth 100000 in
set_option maxHeartbeats 4000000 in
theorem sp_X5_takeOpening_6_w8 {l : Launch} {K : EC} {M0 : Mem} (hI : In Tru M0) (en_6_2 : rd M0 6 2 = 2) (en_6_6 : rd M0 6 6 = 8) (a1 : Int) (ha1 : 20 ≤ a1 ∧ a1 ≤ 50)  : Tr l K 1 mX5_takeOpening 0 [(0, (2, 6)), (1, (0, a1))] [] M0 (q_X5_takeOpening_6_w8 M0) := by
  have hS : St Tru ws_X5_takeOpening_6_w8 as_X5_takeOpening_6_w8 M0 M0 := St.rf hI
  refine Tr.aload_n (pc := 0) (i := 0) d_X5_takeOpening_0 rfl rfl ?_
  refine Tr.iload_n (pc := 1) (i := 1) d_X5_takeOpening_1 rfl rfl ?_
  refine Tr.callV (pc := 2) (as := [_]) d_X5_takeOpening_2 s_5_77 ok_X5_isSign rfl rfl (Nat.le_of_ble_eq_true rfl) (Nat.le_of_ble_eq_true rfl) (by decide) (ty_6 hS.1.1) ?_
  refine Tr.imp (Tr.deep (by decide) (sp_X5_isSign_6_w2 hS.1 ((St.kp hS (by decide) (by decide) (by decide)).trans en_6_2) a1 (by omega))) ?_
  rintro M2 _ ⟨h2, r2, rfl, lr2, ur2⟩
  have hS := St.tr hS h2 (by decide) (by decide)
  refine Tr.sc [(0, r2)] rfl ?_
  refine Tr.if_ne (pc := 5) (tgt := 14) d_X5_takeOpening_5 rfl (fun c5 => ?_) (fun c5 => ?_)
  · refine Tr.aload_n (pc := 14) (i := 0) d_X5_takeOpening_14 rfl rfl ?_
    refine Tr.getf (pc := 15) d_X5_takeOpening_15 f_5_39 (by decide) (by decide) (ty_6 hS.1.1) ?_
    refine Tr.tp 8 ((St.kp h2 (by decide) (by decide) (by decide)).trans en_6_6) ?_
    refine Tr.bipush (pc := 18) d_X5_takeOpening_18 rfl (by decide) ?_
    refine Tr.icmp_ne (pc := 20) (tgt := 29) d_X5_takeOpening_20 rfl (fun hc => absurd (by omega) hc) (fun _ => ?_)
    refine Tr.aload_n (pc := 23) (i := 0) d_X5_takeOpening_23 rfl rfl ?_
    refine Tr.iconst (pc := 24) d_X5_takeOpening_24 (by decide) ?_
    refine Tr.callV (pc := 25) (as := [_]) d_X5_takeOpening_25 s_5_56 ok_X5_refuse rfl rfl (Nat.le_of_ble_eq_true rfl) (Nat.le_of_ble_eq_true rfl) (by decide) (ty_6 hS.1.1) ?_
    refine Tr.imp (Tr.deep (by decide) (sp_X5_refuse_6_w2 hS.1 ((St.kp hS (by decide) (by decide) (by decide)).trans en_6_2) 5 (by omega))) ?_
    rintro M25 _ ⟨h25, r25, rfl, lr25, ur25⟩
    have hS := St.tr hS h25 (by decide) (by decide)
    refine Tr.sc [(0, r25)] rfl ?_
    exact Tr.zret (pc := 28) d_X5_takeOpening_28 rfl (by omega) ⟨hS, _, rfl, by omega, by omega⟩
  · refine Tr.aload_n (pc := 8) (i := 0) d_X5_takeOpening_8 rfl rfl ?_
    refine Tr.iconst (pc := 9) d_X5_takeOpening_9 (by decide) ?_
    refine Tr.callV (pc := 10) (as := [_]) d_X5_takeOpening_10 s_5_56 ok_X5_refuse rfl rfl (Nat.le_of_ble_eq_true rfl) (Nat.le_of_ble_eq_true rfl) (by decide) (ty_6 hS.1.1) ?_
    refine Tr.imp (Tr.deep (by decide) (sp_X5_refuse_6_w1 hS.1 ((St.kp hS (by decide) (by decide) (by decide)).trans en_6_2) 1 (by omega))) ?_
    rintro M10 _ ⟨h10, r10, rfl, lr10, ur10⟩
    have hS := St.tr hS h10 (by decide) (by decide)
    refine Tr.sc [(0, r10)] rfl ?_
    exact Tr.zret (pc := 13) d_X5_takeOpening_13 rfl (by omega) ⟨hS, _, rfl, by omega, by omega⟩

def ws_X4_emit_35_w1 : List (Int × Int) := [(35, 11)]
def as_X4_emit_35_w1 : List Int := [44, 45]
def q_X4_emit_35_w1 (M0 M' : Mem) (r : Option PV) : Prop := St Tru ws_X4_emit_35_w1 as_X4_emit_35_w1 M0 M' ∧ r = none
set_option maxRecDepth 100000 in
set_option maxHeartbeats 4000000 in
theorem sp_X4_emit_35_w1 {l : Launch} {K : EC} {M0 : Mem} (hI : In Tru M0)  (a1 : Int) (ha1 : 1 ≤ a1 ∧ a1 ≤ 1) (a2 : Int) (ha2 : (-1) ≤ a2 ∧ a2 ≤ 2) (hp0 : (a1 = 1 → 0 ≤ a2 ∧ a2 ≤ 2) ∧ (a1 = 2 ∨ a1 = 4 → 0 ≤ a2 ∧ a2 ≤ 5)) : Tr l K 0 mX4_emit 0 [(0, (2, 35)), (1, (0, a1)), (2, (0, a2))] [] M0 (q_X4_emit_35_w1 M0) := by
  have hS : St Tru ws_X4_emit_35_w1 as_X4_emit_35_w1 M0 M0 := St.rf hI
  refine Tr.aload_n (pc := 0) (i := 0) d_X4_emit_0 rfl rfl ?_
  refine Tr.getf (pc := 1) d_X4_emit_1 f_4_49 (by decide) (by decide) (ty_35 hS.1.1) ?_
  refine Tr.gen (P := fun v => 0 ≤ v ∧ v ≤ 900) (ir_35_11 hS.1.2.1) (fun r1 er1 br1 => ?_)
  refine Tr.sipush (pc := 4) d_X4_emit_4 rfl (by decide) ?_
  refine Tr.icmp_ge (pc := 7) (tgt := 40) d_X4_emit_7 rfl (fun c7 => ?_) (fun c7 => ?_)
  · exact Tr.vret (pc := 40) d_X4_emit_40 rfl ⟨hS, rfl⟩
  · refine Tr.aload_n (pc := 10) (i := 0) d_X4_emit_10 rfl rfl ?_
    refine Tr.getf (pc := 11) d_X4_emit_11 f_4_36 (by decide) (by decide) (ty_35 hS.1.1) ?_
    refine Tr.tp 44 (fx_35_9 hS.1.1) ?_
    refine Tr.aload_n (pc := 14) (i := 0) d_X4_emit_14 rfl rfl ?_
    refine Tr.getf (pc := 15) d_X4_emit_15 f_4_49 (by decide) (by decide) (ty_35 hS.1.1) ?_
    refine Tr.tp r1 er1 ?_
    refine Tr.iload_n (pc := 18) (i := 1) d_X4_emit_18 rfl rfl ?_
    refine Tr.iast (pc := 19) d_X4_emit_19 (ty_44 hS.1.1) (by omega) (by omega) ?_
    refine Tr.aload_n (pc := 20) (i := 0) d_X4_emit_20 rfl rfl ?_
    refine Tr.getf (pc := 21) d_X4_emit_21 f_4_39 (by decide) (by decide) (show mT (wr M0 44 r1 a1) 35 = (4, 13) from ty_35 (M := M0) hS.1.1) ?_
    refine Tr.tp 45 ((rd_wb _ rfl).trans (fx_35_10 (M := M0) hS.1.1)) ?_
    refine Tr.aload_n (pc := 24) (i := 0) d_X4_emit_24 rfl rfl ?_
    refine Tr.getf (pc := 25) d_X4_emit_25 f_4_49 (by decide) (by decide) (show mT (wr M0 44 r1 a1) 35 = (4, 13) from ty_35 (M := M0) hS.1.1) ?_
    refine Tr.tp r1 ((rd_wb _ rfl).trans er1) ?_
    refine Tr.iload_n (pc := 28) (i := 2) d_X4_emit_28 rfl rfl ?_
    refine Tr.iastS (pc := 29) (P := St Tru ws_X4_emit_35_w1 as_X4_emit_35_w1 M0) d_X4_emit_29 (show mT (wr M0 44 r1 a1) 45 = (20, 900) from ty_45 (M := M0) hS.1.1) (by omega) (by omega) (St.two (x := 44) (y := 45) 35 36 hS (by decide) hp0 (by decide) (by decide) rfl (by decide +kernel) (by decide +kernel) (by decide +kernel) (by omega) rfl (by decide +kernel) (by decide +kernel) (by decide +kernel) (by omega) trivial) (fun M29 hS w29 => ?_)
    refine Tr.aload_n (pc := 30) (i := 0) d_X4_emit_30 rfl rfl ?_
    refine Tr.dup (pc := 31) d_X4_emit_31 ne21 ?_
    refine Tr.getf (pc := 32) d_X4_emit_32 f_4_49 (by decide) (by decide) (ty_35 hS.1.1) ?_
    refine Tr.tp r1 ((Wr.b w29 rfl).trans ((rd_wb _ rfl).trans er1)) ?_
    refine Tr.iconst (pc := 35) d_X4_emit_35 (by decide) ?_
    refine Tr.iadd (pc := 36) d_X4_emit_36 ?_
    refine Tr.tp (r1 + 1) ((w32_id (by omega)).trans (by omega)) ?_
    refine Tr.putfS (pc := 37) (P := St Tru ws_X4_emit_35_w1 as_X4_emit_35_w1 M0) d_X4_emit_37 f_4_49 (by decide) (by decide) (ty_35 hS.1.1) (st_35_11 hS (by decide) (by omega) trivial) (fun M37 hS w37 => ?_)
    exact Tr.vret (pc := 40) d_X4_emit_40 rfl ⟨hS, rfl⟩

def ws_X4_emit_35_w2 : List (Int × Int) := [(35, 11)]
def as_X4_emit_35_w2 : List Int := [44, 45]
def q_X4_emit_35_w2 (M0 M' : Mem) (r : Option PV) : Prop := St Tru ws_X4_emit_35_w2 as_X4_emit_35_w2 M0 M' ∧ r = none
set_option maxRecDepth 100000 in
set_option maxHeartbeats 4000000 in
theorem sp_X4_emit_35_w2 {l : Launch} {K : EC} {M0 : Mem} (hI : In Tru M0)  (a1 : Int) (ha1 : 2 ≤ a1 ∧ a1 ≤ 2) (a2 : Int) (ha2 : 0 ≤ a2 ∧ a2 ≤ 5) (hp0 : (a1 = 1 → 0 ≤ a2 ∧ a2 ≤ 2) ∧ (a1 = 2 ∨ a1 = 4 → 0 ≤ a2 ∧ a2 ≤ 5)) : Tr l K 0 mX4_emit 0 [(0, (2, 35)), (1, (0, a1)), (2, (0, a2))] [] M0 (q_X4_emit_35_w2 M0) := by
  have hS : St Tru ws_X4_emit_35_w2 as_X4_emit_35_w2 M0 M0 := St.rf hI
  refine Tr.aload_n (pc := 0) (i := 0) d_X4_emit_0 rfl rfl ?_
  refine Tr.getf (pc := 1) d_X4_emit_1 f_4_49 (by decide) (by decide) (ty_35 hS.1.1) ?_
  refine Tr.gen (P := fun v => 0 ≤ v ∧ v ≤ 900) (ir_35_11 hS.1.2.1) (fun r1 er1 br1 => ?_)
  refine Tr.sipush (pc := 4) d_X4_emit_4 rfl (by decide) ?_
  refine Tr.icmp_ge (pc := 7) (tgt := 40) d_X4_emit_7 rfl (fun c7 => ?_) (fun c7 => ?_)
  · exact Tr.vret (pc := 40) d_X4_emit_40 rfl ⟨hS, rfl⟩
  · refine Tr.aload_n (pc := 10) (i := 0) d_X4_emit_10 rfl rfl ?_
    refine Tr.getf (pc := 11) d_X4_emit_11 f_4_36 (by decide) (by decide) (ty_35 hS.1.1) ?_
    refine Tr.tp 44 (fx_35_9 hS.1.1) ?_
    refine Tr.aload_n (pc := 14) (i := 0) d_X4_emit_14 rfl rfl ?_
    refine Tr.getf (pc := 15) d_X4_emit_15 f_4_49 (by decide) (by decide) (ty_35 hS.1.1) ?_
    refine Tr.tp r1 er1 ?_
    refine Tr.iload_n (pc := 18) (i := 1) d_X4_emit_18 rfl rfl ?_
    refine Tr.iast (pc := 19) d_X4_emit_19 (ty_44 hS.1.1) (by omega) (by omega) ?_
    refine Tr.aload_n (pc := 20) (i := 0) d_X4_emit_20 rfl rfl ?_
    refine Tr.getf (pc := 21) d_X4_emit_21 f_4_39 (by decide) (by decide) (show mT (wr M0 44 r1 a1) 35 = (4, 13) from ty_35 (M := M0) hS.1.1) ?_
    refine Tr.tp 45 ((rd_wb _ rfl).trans (fx_35_10 (M := M0) hS.1.1)) ?_
    refine Tr.aload_n (pc := 24) (i := 0) d_X4_emit_24 rfl rfl ?_
    refine Tr.getf (pc := 25) d_X4_emit_25 f_4_49 (by decide) (by decide) (show mT (wr M0 44 r1 a1) 35 = (4, 13) from ty_35 (M := M0) hS.1.1) ?_
    refine Tr.tp r1 ((rd_wb _ rfl).trans er1) ?_
    refine Tr.iload_n (pc := 28) (i := 2) d_X4_emit_28 rfl rfl ?_
    refine Tr.iastS (pc := 29) (P := St Tru ws_X4_emit_35_w2 as_X4_emit_35_w2 M0) d_X4_emit_29 (show mT (wr M0 44 r1 a1) 45 = (20, 900) from ty_45 (M := M0) hS.1.1) (by omega) (by omega) (St.two (x := 44) (y := 45) 35 36 hS (by decide) hp0 (by decide) (by decide) rfl (by decide +kernel) (by decide +kernel) (by decide +kernel) (by omega) rfl (by decide +kernel) (by decide +kernel) (by decide +kernel) (by omega) trivial) (fun M29 hS w29 => ?_)
    refine Tr.aload_n (pc := 30) (i := 0) d_X4_emit_30 rfl rfl ?_
    refine Tr.dup (pc := 31) d_X4_emit_31 ne21 ?_
    refine Tr.getf (pc := 32) d_X4_emit_32 f_4_49 (by decide) (by decide) (ty_35 hS.1.1) ?_
    refine Tr.tp r1 ((Wr.b w29 rfl).trans ((rd_wb _ rfl).trans er1)) ?_
    refine Tr.iconst (pc := 35) d_X4_emit_35 (by decide) ?_
    refine Tr.iadd (pc := 36) d_X4_emit_36 ?_
    refine Tr.tp (r1 + 1) ((w32_id (by omega)).trans (by omega)) ?_
    refine Tr.putfS (pc := 37) (P := St Tru ws_X4_emit_35_w2 as_X4_emit_35_w2 M0) d_X4_emit_37 f_4_49 (by decide) (by decide) (ty_35 hS.1.1) (st_35_11 hS (by decide) (by omega) trivial) (fun M37 hS w37 => ?_)
    exact Tr.vret (pc := 40) d_X4_emit_40 rfl ⟨hS, rfl⟩

def ws_X4_emit_35_w3 : List (Int × Int) := [(35, 11)]
def as_X4_emit_35_w3 : List Int := [44, 45]
def q_X4_emit_35_w3 (M0 M' : Mem) (r : Option PV) : Prop := St Tru ws_X4_emit_35_w3 as_X4_emit_35_w3 M0 M' ∧ r = none
set_option maxRecDepth 100000 in
set_option maxHeartbeats 4000000 in
theorem sp_X4_emit_35_w3 {l : Launch} {K : EC} {M0 : Mem} (hI : In Tru M0)  (a1 : Int) (ha1 : 0 ≤ a1 ∧ a1 ≤ 0) (a2 : Int) (ha2 : (-1) ≤ a2 ∧ a2 ≤ 999) (hp0 : (a1 = 1 → 0 ≤ a2 ∧ a2 ≤ 2) ∧ (a1 = 2 ∨ a1 = 4 → 0 ≤ a2 ∧ a2 ≤ 5)) : Tr l K 0 mX4_emit 0 [(0, (2, 35)), (1, (0, a1)), (2, (0, a2))] [] M0 (q_X4_emit_35_w3 M0) := by
  have hS : St Tru ws_X4_emit_35_w3 as_X4_emit_35_w3 M0 M0 := St.rf hI
  refine Tr.aload_n (pc := 0) (i := 0) d_X4_emit_0 rfl rfl ?_
  refine Tr.getf (pc := 1) d_X4_emit_1 f_4_49 (by decide) (by decide) (ty_35 hS.1.1) ?_
  refine Tr.gen (P := fun v => 0 ≤ v ∧ v ≤ 900) (ir_35_11 hS.1.2.1) (fun r1 er1 br1 => ?_)
  refine Tr.sipush (pc := 4) d_X4_emit_4 rfl (by decide) ?_
  refine Tr.icmp_ge (pc := 7) (tgt := 40) d_X4_emit_7 rfl (fun c7 => ?_) (fun c7 => ?_)
  · exact Tr.vret (pc := 40) d_X4_emit_40 rfl ⟨hS, rfl⟩
  · refine Tr.aload_n (pc := 10) (i := 0) d_X4_emit_10 rfl rfl ?_
    refine Tr.getf (pc := 11) d_X4_emit_11 f_4_36 (by decide) (by decide) (ty_35 hS.1.1) ?_
    refine Tr.tp 44 (fx_35_9 hS.1.1) ?_
    refine Tr.aload_n (pc := 14) (i := 0) d_X4_emit_14 rfl rfl ?_
    refine Tr.getf (pc := 15) d_X4_emit_15 f_4_49 (by decide) (by decide) (ty_35 hS.1.1) ?_
    refine Tr.tp r1 er1 ?_
    refine Tr.iload_n (pc := 18) (i := 1) d_X4_emit_18 rfl rfl ?_
    refine Tr.iast (pc := 19) d_X4_emit_19 (ty_44 hS.1.1) (by omega) (by omega) ?_
    refine Tr.aload_n (pc := 20) (i := 0) d_X4_emit_20 rfl rfl ?_
    refine Tr.getf (pc := 21) d_X4_emit_21 f_4_39 (by decide) (by decide) (show mT (wr M0 44 r1 a1) 35 = (4, 13) from ty_35 (M := M0) hS.1.1) ?_
    refine Tr.tp 45 ((rd_wb _ rfl).trans (fx_35_10 (M := M0) hS.1.1)) ?_
    refine Tr.aload_n (pc := 24) (i := 0) d_X4_emit_24 rfl rfl ?_
    refine Tr.getf (pc := 25) d_X4_emit_25 f_4_49 (by decide) (by decide) (show mT (wr M0 44 r1 a1) 35 = (4, 13) from ty_35 (M := M0) hS.1.1) ?_
    refine Tr.tp r1 ((rd_wb _ rfl).trans er1) ?_
    refine Tr.iload_n (pc := 28) (i := 2) d_X4_emit_28 rfl rfl ?_
    refine Tr.iastS (pc := 29) (P := St Tru ws_X4_emit_35_w3 as_X4_emit_35_w3 M0) d_X4_emit_29 (show mT (wr M0 44 r1 a1) 45 = (20, 900) from ty_45 (M := M0) hS.1.1) (by omega) (by omega) (St.two (x := 44) (y := 45) 35 36 hS (by decide) hp0 (by decide) (by decide) rfl (by decide +kernel) (by decide +kernel) (by decide +kernel) (by omega) rfl (by decide +kernel) (by decide +kernel) (by decide +kernel) (by omega) trivial) (fun M29 hS w29 => ?_)
    refine Tr.aload_n (pc := 30) (i := 0) d_X4_emit_30 rfl rfl ?_
    refine Tr.dup (pc := 31) d_X4_emit_31 ne21 ?_
    refine Tr.getf (pc := 32) d_X4_emit_32 f_4_49 (by decide) (by decide) (ty_35 hS.1.1) ?_
    refine Tr.tp r1 ((Wr.b w29 rfl).trans ((rd_wb _ rfl).trans er1)) ?_
    refine Tr.iconst (pc := 35) d_X4_emit_35 (by decide) ?_
    refine Tr.iadd (pc := 36) d_X4_emit_36 ?_
    refine Tr.tp (r1 + 1) ((w32_id (by omega)).trans (by omega)) ?_
    refine Tr.putfS (pc := 37) (P := St Tru ws_X4_emit_35_w3 as_X4_emit_35_w3 M0) d_X4_emit_37 f_4_49 (by decide) (by decide) (ty_35 hS.1.1) (st_35_11 hS (by decide) (by omega) trivial) (fun M37 hS w37 => ?_)
    exact Tr.vret (pc := 40) d_X4_emit_40 rfl ⟨hS, rfl⟩

def ws_X4_emit_35_w4 : List (Int × Int) := [(35, 11)]
def as_X4_emit_35_w4 : List Int := [44, 45]
def q_X4_emit_35_w4 (M0 M' : Mem) (r : Option PV) : Prop := St Tru ws_X4_emit_35_w4 as_X4_emit_35_w4 M0 M' ∧ r = none
set_option maxRecDepth 100000 in
set_option maxHeartbeats 4000000 in
theorem sp_X4_emit_35_w4 {l : Launch} {K : EC} {M0 : Mem} (hI : In Tru M0)  (a1 : Int) (ha1 : 10 ≤ a1 ∧ a1 ≤ 15) (a2 : Int) (ha2 : 0 ≤ a2 ∧ a2 ≤ 0) (hp0 : (a1 = 1 → 0 ≤ a2 ∧ a2 ≤ 2) ∧ (a1 = 2 ∨ a1 = 4 → 0 ≤ a2 ∧ a2 ≤ 5)) : Tr l K 0 mX4_emit 0 [(0, (2, 35)), (1, (0, a1)), (2, (0, a2))] [] M0 (q_X4_emit_35_w4 M0) := by
  have hS : St Tru ws_X4_emit_35_w4 as_X4_emit_35_w4 M0 M0 := St.rf hI
  refine Tr.aload_n (pc := 0) (i := 0) d_X4_emit_0 rfl rfl ?_
  refine Tr.getf (pc := 1) d_X4_emit_1 f_4_49 (by decide) (by decide) (ty_35 hS.1.1) ?_
  refine Tr.gen (P := fun v => 0 ≤ v ∧ v ≤ 900) (ir_35_11 hS.1.2.1) (fun r1 er1 br1 => ?_)
  refine Tr.sipush (pc := 4) d_X4_emit_4 rfl (by decide) ?_
  refine Tr.icmp_ge (pc := 7) (tgt := 40) d_X4_emit_7 rfl (fun c7 => ?_) (fun c7 => ?_)
  · exact Tr.vret (pc := 40) d_X4_emit_40 rfl ⟨hS, rfl⟩
  · refine Tr.aload_n (pc := 10) (i := 0) d_X4_emit_10 rfl rfl ?_
    refine Tr.getf (pc := 11) d_X4_emit_11 f_4_36 (by decide) (by decide) (ty_35 hS.1.1) ?_
    refine Tr.tp 44 (fx_35_9 hS.1.1) ?_
    refine Tr.aload_n (pc := 14) (i := 0) d_X4_emit_14 rfl rfl ?_
    refine Tr.getf (pc := 15) d_X4_emit_15 f_4_49 (by decide) (by decide) (ty_35 hS.1.1) ?_
    refine Tr.tp r1 er1 ?_
    refine Tr.iload_n (pc := 18) (i := 1) d_X4_emit_18 rfl rfl ?_
    refine Tr.iast (pc := 19) d_X4_emit_19 (ty_44 hS.1.1) (by omega) (by omega) ?_
    refine Tr.aload_n (pc := 20) (i := 0) d_X4_emit_20 rfl rfl ?_
    refine Tr.getf (pc := 21) d_X4_emit_21 f_4_39 (by decide) (by decide) (show mT (wr M0 44 r1 a1) 35 = (4, 13) from ty_35 (M := M0) hS.1.1) ?_
    refine Tr.tp 45 ((rd_wb _ rfl).trans (fx_35_10 (M := M0) hS.1.1)) ?_
    refine Tr.aload_n (pc := 24) (i := 0) d_X4_emit_24 rfl rfl ?_
    refine Tr.getf (pc := 25) d_X4_emit_25 f_4_49 (by decide) (by decide) (show mT (wr M0 44 r1 a1) 35 = (4, 13) from ty_35 (M := M0) hS.1.1) ?_
    refine Tr.tp r1 ((rd_wb _ rfl).trans er1) ?_
    refine Tr.iload_n (pc := 28) (i := 2) d_X4_emit_28 rfl rfl ?_
    refine Tr.iastS (pc := 29) (P := St Tru ws_X4_emit_35_w4 as_X4_emit_35_w4 M0) d_X4_emit_29 (show mT (wr M0 44 r1 a1) 45 = (20, 900) from ty_45 (M := M0) hS.1.1) (by omega) (by omega) (St.two (x := 44) (y := 45) 35 36 hS (by decide) hp0 (by decide) (by decide) rfl (by decide +kernel) (by decide +kernel) (by decide +kernel) (by omega) rfl (by decide +kernel) (by decide +kernel) (by decide +kernel) (by omega) trivial) (fun M29 hS w29 => ?_)
    refine Tr.aload_n (pc := 30) (i := 0) d_X4_emit_30 rfl rfl ?_
    refine Tr.dup (pc := 31) d_X4_emit_31 ne21 ?_
    refine Tr.getf (pc := 32) d_X4_emit_32 f_4_49 (by decide) (by decide) (ty_35 hS.1.1) ?_
    refine Tr.tp r1 ((Wr.b w29 rfl).trans ((rd_wb _ rfl).trans er1)) ?_
    refine Tr.iconst (pc := 35) d_X4_emit_35 (by decide) ?_
    refine Tr.iadd (pc := 36) d_X4_emit_36 ?_
    refine Tr.tp (r1 + 1) ((w32_id (by omega)).trans (by omega)) ?_
    refine Tr.putfS (pc := 37) (P := St Tru ws_X4_emit_35_w4 as_X4_emit_35_w4 M0) d_X4_emit_37 f_4_49 (by decide) (by decide) (ty_35 hS.1.1) (st_35_11 hS (by decide) (by omega) trivial) (fun M37 hS w37 => ?_)
    exact Tr.vret (pc := 40) d_X4_emit_40 rfl ⟨hS, rfl⟩

def ws_X5_choice_6 : List (Int × Int) := [(6, 0), (6, 1), (6, 5), (35, 11)]
def as_X5_choice_6 : List Int := [44, 45]
def q_X5_choice_6 (M0 M' : Mem) (r : Option PV) : Prop := St Tru ws_X5_choice_6 as_X5_choice_6 M0 M' ∧ ∃ v : Int, r = some (0, v) ∧ 0 ≤ v ∧ v ≤ 0
set_option maxRecDepth 100000 in
set_option maxHeartbeats 4000000 in
theorem sp_X5_choice_6 {l : Launch} {K : EC} {M0 : Mem} (hI : In Tru M0) (en_6_2 : rd M0 6 2 = 2) (en_6_4 : rd M0 6 4 = 35) (en_6_6 : rd M0 6 6 = 8) (a1 : Int) (ha1 : 10 ≤ a1 ∧ a1 ≤ 15)  : Tr l K 2 mX5_choice 0 [(0, (2, 6)), (1, (0, a1))] [] M0 (q_X5_choice_6 M0) := by
  have hS : St Tru ws_X5_choice_6 as_X5_choice_6 M0 M0 := St.rf hI
  refine Tr.aload_n (pc := 0) (i := 0) d_X5_choice_0 rfl rfl ?_
  refine Tr.callV (pc := 1) (as := []) d_X5_choice_1 s_5_74 ok_X5_goOn rfl rfl (Nat.le_of_ble_eq_true rfl) (Nat.le_of_ble_eq_true rfl) (by decide) (ty_6 hS.1.1) ?_
  refine Tr.imp (Tr.deep (by decide) (sp_X5_goOn_6 hS.1 )) ?_
  rintro M1 _ ⟨h1, r1, rfl, lr1, ur1⟩
  have hS := St.tr hS h1 (by decide) (by decide)
  refine Tr.sc [(0, r1)] rfl ?_
  refine Tr.pop (pc := 4) d_X5_choice_4 ne01 ?_
  refine Tr.aload_n (pc := 5) (i := 0) d_X5_choice_5 rfl rfl ?_
  refine Tr.bipush (pc := 6) d_X5_choice_6 rfl (by decide) ?_
  refine Tr.callV (pc := 8) (as := [_]) d_X5_choice_8 s_5_206 ok_X5_takeOpening rfl rfl (Nat.le_of_ble_eq_true rfl) (Nat.le_of_ble_eq_true rfl) (by decide) (ty_6 hS.1.1) ?_
  refine Tr.imp (Tr.deep (by decide) (sp_X5_takeOpening_6_w8 hS.1 ((St.kp hS (by decide) (by decide) (by decide)).trans en_6_2) ((St.kp h1 (by decide) (by decide) (by decide)).trans en_6_6) 40 (by omega))) ?_
  rintro M8 _ ⟨h8, r8, rfl, lr8, ur8⟩
  have hS := St.tr hS h8 (by decide) (by decide)
  refine Tr.sc [(0, r8)] rfl ?_
  refine Tr.if_eq (pc := 11) (tgt := 50) d_X5_choice_11 rfl (fun _ => ?_) (fun hc => absurd (by omega) hc)
  refine Tr.iconst (pc := 50) d_X5_choice_50 (by decide) ?_
  refine Tr.istore_n (pc := 51) (i := 2) (ls2 := [(2, (0, 0)), (0, (2, 6)), (1, (0, a1))]) d_X5_choice_51 rfl (by decide) rfl ?_
  refine Tr.aload_n (pc := 52) (i := 0) d_X5_choice_52 rfl rfl ?_
  refine Tr.getf (pc := 53) d_X5_choice_53 f_5_32 (by decide) (by decide) (ty_6 hS.1.1) ?_
  refine Tr.tp 35 ((St.kp hS (by decide) (by decide) (by decide)).trans en_6_4) ?_
  refine Tr.iload_n (pc := 56) (i := 1) d_X5_choice_56 rfl rfl ?_
  refine Tr.iconst (pc := 57) d_X5_choice_57 (by decide) ?_
  refine Tr.callV (pc := 58) (as := [_, _]) d_X5_choice_58 s_5_215 ok_X4_emit rfl rfl (Nat.le_of_ble_eq_true rfl) (Nat.le_of_ble_eq_true rfl) (by decide) (ty_35 hS.1.1) ?_
  refine Tr.imp (Tr.deep (by decide) (sp_X4_emit_35_w4 hS.1.wk a1 (by omega) 0 (by omega) (by omega))) ?_
  rintro M58 _ ⟨h58, rfl⟩
  have hS := St.tr hS h58 (by decide) (by decide)
  refine Tr.sc [] rfl ?_
  refine Tr.iload_n (pc := 61) (i := 2) d_X5_choice_61 rfl rfl ?_
  exact Tr.zret (pc := 62) d_X5_choice_62 rfl (by omega) ⟨hS, _, rfl, by omega, by omega⟩

def ws_X4_emit_35_w5 : List (Int × Int) := [(35, 11)]
def as_X4_emit_35_w5 : List Int := [44, 45]
def q_X4_emit_35_w5 (M0 M' : Mem) (r : Option PV) : Prop := St Tru ws_X4_emit_35_w5 as_X4_emit_35_w5 M0 M' ∧ r = none
set_option maxRecDepth 100000 in
set_option maxHeartbeats 4000000 in
theorem sp_X4_emit_35_w5 {l : Launch} {K : EC} {M0 : Mem} (hI : In Tru M0)  (a1 : Int) (ha1 : 8 ≤ a1 ∧ a1 ≤ 10) (a2 : Int) (ha2 : 0 ≤ a2 ∧ a2 ≤ 0) (hp0 : (a1 = 1 → 0 ≤ a2 ∧ a2 ≤ 2) ∧ (a1 = 2 ∨ a1 = 4 → 0 ≤ a2 ∧ a2 ≤ 5)) : Tr l K 0 mX4_emit 0 [(0, (2, 35)), (1, (0, a1)), (2, (0, a2))] [] M0 (q_X4_emit_35_w5 M0) := by
  have hS : St Tru ws_X4_emit_35_w5 as_X4_emit_35_w5 M0 M0 := St.rf hI
  refine Tr.aload_n (pc := 0) (i := 0) d_X4_emit_0 rfl rfl ?_
  refine Tr.getf (pc := 1) d_X4_emit_1 f_4_49 (by decide) (by decide) (ty_35 hS.1.1) ?_
  refine Tr.gen (P := fun v => 0 ≤ v ∧ v ≤ 900) (ir_35_11 hS.1.2.1) (fun r1 er1 br1 => ?_)
  refine Tr.sipush (pc := 4) d_X4_emit_4 rfl (by decide) ?_
  refine Tr.icmp_ge (pc := 7) (tgt := 40) d_X4_emit_7 rfl (fun c7 => ?_) (fun c7 => ?_)
  · exact Tr.vret (pc := 40) d_X4_emit_40 rfl ⟨hS, rfl⟩
  · refine Tr.aload_n (pc := 10) (i := 0) d_X4_emit_10 rfl rfl ?_
    refine Tr.getf (pc := 11) d_X4_emit_11 f_4_36 (by decide) (by decide) (ty_35 hS.1.1) ?_
    refine Tr.tp 44 (fx_35_9 hS.1.1) ?_
    refine Tr.aload_n (pc := 14) (i := 0) d_X4_emit_14 rfl rfl ?_
    refine Tr.getf (pc := 15) d_X4_emit_15 f_4_49 (by decide) (by decide) (ty_35 hS.1.1) ?_
    refine Tr.tp r1 er1 ?_
    refine Tr.iload_n (pc := 18) (i := 1) d_X4_emit_18 rfl rfl ?_
    refine Tr.iast (pc := 19) d_X4_emit_19 (ty_44 hS.1.1) (by omega) (by omega) ?_
    refine Tr.aload_n (pc := 20) (i := 0) d_X4_emit_20 rfl rfl ?_
    refine Tr.getf (pc := 21) d_X4_emit_21 f_4_39 (by decide) (by decide) (show mT (wr M0 44 r1 a1) 35 = (4, 13) from ty_35 (M := M0) hS.1.1) ?_
    refine Tr.tp 45 ((rd_wb _ rfl).trans (fx_35_10 (M := M0) hS.1.1)) ?_
    refine Tr.aload_n (pc := 24) (i := 0) d_X4_emit_24 rfl rfl ?_
    refine Tr.getf (pc := 25) d_X4_emit_25 f_4_49 (by decide) (by decide) (show mT (wr M0 44 r1 a1) 35 = (4, 13) from ty_35 (M := M0) hS.1.1) ?_
    refine Tr.tp r1 ((rd_wb _ rfl).trans er1) ?_
    refine Tr.iload_n (pc := 28) (i := 2) d_X4_emit_28 rfl rfl ?_
    refine Tr.iastS (pc := 29) (P := St Tru ws_X4_emit_35_w5 as_X4_emit_35_w5 M0) d_X4_emit_29 (show mT (wr M0 44 r1 a1) 45 = (20, 900) from ty_45 (M := M0) hS.1.1) (by omega) (by omega) (St.two (x := 44) (y := 45) 35 36 hS (by decide) hp0 (by decide) (by decide) rfl (by decide +kernel) (by decide +kernel) (by decide +kernel) (by omega) rfl (by decide +kernel) (by decide +kernel) (by decide +kernel) (by omega) trivial) (fun M29 hS w29 => ?_)
    refine Tr.aload_n (pc := 30) (i := 0) d_X4_emit_30 rfl rfl ?_
    refine Tr.dup (pc := 31) d_X4_emit_31 ne21 ?_
    refine Tr.getf (pc := 32) d_X4_emit_32 f_4_49 (by decide) (by decide) (ty_35 hS.1.1) ?_
    refine Tr.tp r1 ((Wr.b w29 rfl).trans ((rd_wb _ rfl).trans er1)) ?_
    refine Tr.iconst (pc := 35) d_X4_emit_35 (by decide) ?_
    refine Tr.iadd (pc := 36) d_X4_emit_36 ?_
    refine Tr.tp (r1 + 1) ((w32_id (by omega)).trans (by omega)) ?_
    refine Tr.putfS (pc := 37) (P := St Tru ws_X4_emit_35_w5 as_X4_emit_35_w5 M0) d_X4_emit_37 f_4_49 (by decide) (by decide) (ty_35 hS.1.1) (st_35_11 hS (by decide) (by omega) trivial) (fun M37 hS w37 => ?_)
    exact Tr.vret (pc := 40) d_X4_emit_40 rfl ⟨hS, rfl⟩
end
/-! 30.17 -/
section
def ws_X4_emit_35_w6 : List (Int × Int) := [(35, 11)]
def as_X4_emit_35_w6 : List Int := [44, 45]
def q_X4_emit_35_w6 (M0 M' : Mem) (r : Option PV) : Prop := St Tru ws_X4_emit_35_w6 as_X4_emit_35_w6 M0 M' ∧ r = none
set_option maxRecDepth 100000 in
set_option maxHeartbeats 4000000 in
theorem sp_X4_emit_35_w6 {l : Launch} {K : EC} {M0 : Mem} (hI : In Tru M0)  (a1 : Int) (ha1 : 6 ≤ a1 ∧ a1 ≤ 8) (a2 : Int) (ha2 : 0 ≤ a2 ∧ a2 ≤ 0) (hp0 : (a1 = 1 → 0 ≤ a2 ∧ a2 ≤ 2) ∧ (a1 = 2 ∨ a1 = 4 → 0 ≤ a2 ∧ a2 ≤ 5)) : Tr l K 0 mX4_emit 0 [(0, (2, 35)), (1, (0, a1)), (2, (0, a2))] [] M0 (q_X4_emit_35_w6 M0) := by
  have hS : St Tru ws_X4_emit_35_w6 as_X4_emit_35_w6 M0 M0 := St.rf hI
  refine Tr.aload_n (pc := 0) (i := 0) d_X4_emit_0 rfl rfl ?_
  refine Tr.getf (pc := 1) d_X4_emit_1 f_4_49 (by decide) (by decide) (ty_35 hS.1.1) ?_
  refine Tr.gen (P := fun v => 0 ≤ v ∧ v ≤ 900) (ir_35_11 hS.1.2.1) (fun r1 er1 br1 => ?_)
  refine Tr.sipush (pc := 4) d_X4_emit_4 rfl (by decide) ?_
  refine Tr.icmp_ge (pc := 7) (tgt := 40) d_X4_emit_7 rfl (fun c7 => ?_) (fun c7 => ?_)
  · exact Tr.vret (pc := 40) d_X4_emit_40 rfl ⟨hS, rfl⟩
  · refine Tr.aload_n (pc := 10) (i := 0) d_X4_emit_10 rfl rfl ?_
    refine Tr.getf (pc := 11) d_X4_emit_11 f_4_36 (by decide) (by decide) (ty_35 hS.1.1) ?_
    refine Tr.tp 44 (fx_35_9 hS.1.1) ?_
    refine Tr.aload_n (pc := 14) (i := 0) d_X4_emit_14 rfl rfl ?_
    refine Tr.getf (pc := 15) d_X4_emit_15 f_4_49 (by decide) (by decide) (ty_35 hS.1.1) ?_
    refine Tr.tp r1 er1 ?_
    refine Tr.iload_n (pc := 18) (i := 1) d_X4_emit_18 rfl rfl ?_
    refine Tr.iast (pc := 19) d_X4_emit_19 (ty_44 hS.1.1) (by omega) (by omega) ?_
    refine Tr.aload_n (pc := 20) (i := 0) d_X4_emit_20 rfl rfl ?_
    refine Tr.getf (pc := 21) d_X4_emit_21 f_4_39 (by decide) (by decide) (show mT (wr M0 44 r1 a1) 35 = (4, 13) from ty_35 (M := M0) hS.1.1) ?_
    refine Tr.tp 45 ((rd_wb _ rfl).trans (fx_35_10 (M := M0) hS.1.1)) ?_
    refine Tr.aload_n (pc := 24) (i := 0) d_X4_emit_24 rfl rfl ?_
    refine Tr.getf (pc := 25) d_X4_emit_25 f_4_49 (by decide) (by decide) (show mT (wr M0 44 r1 a1) 35 = (4, 13) from ty_35 (M := M0) hS.1.1) ?_
    refine Tr.tp r1 ((rd_wb _ rfl).trans er1) ?_
    refine Tr.iload_n (pc := 28) (i := 2) d_X4_emit_28 rfl rfl ?_
    refine Tr.iastS (pc := 29) (P := St Tru ws_X4_emit_35_w6 as_X4_emit_35_w6 M0) d_X4_emit_29 (show mT (wr M0 44 r1 a1) 45 = (20, 900) from ty_45 (M := M0) hS.1.1) (by omega) (by omega) (St.two (x := 44) (y := 45) 35 36 hS (by decide) hp0 (by decide) (by decide) rfl (by decide +kernel) (by decide +kernel) (by decide +kernel) (by omega) rfl (by decide +kernel) (by decide +kernel) (by decide +kernel) (by omega) trivial) (fun M29 hS w29 => ?_)
    refine Tr.aload_n (pc := 30) (i := 0) d_X4_emit_30 rfl rfl ?_
    refine Tr.dup (pc := 31) d_X4_emit_31 ne21 ?_
    refine Tr.getf (pc := 32) d_X4_emit_32 f_4_49 (by decide) (by decide) (ty_35 hS.1.1) ?_
    refine Tr.tp r1 ((Wr.b w29 rfl).trans ((rd_wb _ rfl).trans er1)) ?_
    refine Tr.iconst (pc := 35) d_X4_emit_35 (by decide) ?_
    refine Tr.iadd (pc := 36) d_X4_emit_36 ?_
    refine Tr.tp (r1 + 1) ((w32_id (by omega)).trans (by omega)) ?_
    refine Tr.putfS (pc := 37) (P := St Tru ws_X4_emit_35_w6 as_X4_emit_35_w6 M0) d_X4_emit_37 f_4_49 (by decide) (by decide) (ty_35 hS.1.1) (st_35_11 hS (by decide) (by omega) trivial) (fun M37 hS w37 => ?_)
    exact Tr.vret (pc := 40) d_X4_emit_40 rfl ⟨hS, rfl⟩

def ws_X5_takeSign_6_w1 : List (Int × Int) := [(6, 0), (6, 1), (6, 5)]
def as_X5_takeSign_6_w1 : List Int := []
def q_X5_takeSign_6_w1 (M0 M' : Mem) (r : Option PV) : Prop := St Tru ws_X5_takeSign_6_w1 as_X5_takeSign_6_w1 M0 M' ∧ ∃ v : Int, r = some (0, v) ∧ 0 ≤ v ∧ v ≤ 1
set_option maxRecDepth 100000 in
set_option maxHeartbeats 4000000 in
theorem sp_X5_takeSign_6_w1 {l : Launch} {K : EC} {M0 : Mem} (hI : In Tru M0) (en_6_2 : rd M0 6 2 = 2) (a1 : Int) (ha1 : 20 ≤ a1 ∧ a1 ≤ 50)  : Tr l K 1 mX5_takeSign 0 [(0, (2, 6)), (1, (0, a1))] [] M0 (q_X5_takeSign_6_w1 M0) := by
  have hS : St Tru ws_X5_takeSign_6_w1 as_X5_takeSign_6_w1 M0 M0 := St.rf hI
  refine Tr.aload_n (pc := 0) (i := 0) d_X5_takeSign_0 rfl rfl ?_
  refine Tr.iload_n (pc := 1) (i := 1) d_X5_takeSign_1 rfl rfl ?_
  refine Tr.callV (pc := 2) (as := [_]) d_X5_takeSign_2 s_5_77 ok_X5_isSign rfl rfl (Nat.le_of_ble_eq_true rfl) (Nat.le_of_ble_eq_true rfl) (by decide) (ty_6 hS.1.1) ?_
  refine Tr.imp (Tr.deep (by decide) (sp_X5_isSign_6_w2 hS.1 ((St.kp hS (by decide) (by decide) (by decide)).trans en_6_2) a1 (by omega))) ?_
  rintro M2 _ ⟨h2, r2, rfl, lr2, ur2⟩
  have hS := St.tr hS h2 (by decide) (by decide)
  refine Tr.sc [(0, r2)] rfl ?_
  refine Tr.if_eq (pc := 5) (tgt := 15) d_X5_takeSign_5 rfl (fun c5 => ?_) (fun c5 => ?_)
  · refine Tr.aload_n (pc := 15) (i := 0) d_X5_takeSign_15 rfl rfl ?_
    refine Tr.iconst (pc := 16) d_X5_takeSign_16 (by decide) ?_
    refine Tr.callV (pc := 17) (as := [_]) d_X5_takeSign_17 s_5_56 ok_X5_refuse rfl rfl (Nat.le_of_ble_eq_true rfl) (Nat.le_of_ble_eq_true rfl) (by decide) (ty_6 hS.1.1) ?_
    refine Tr.imp (Tr.deep (by decide) (sp_X5_refuse_6_w1 hS.1 ((St.kp hS (by decide) (by decide) (by decide)).trans en_6_2) 1 (by omega))) ?_
    rintro M17 _ ⟨h17, r17, rfl, lr17, ur17⟩
    have hS := St.tr hS h17 (by decide) (by decide)
    refine Tr.sc [(0, r17)] rfl ?_
    exact Tr.zret (pc := 20) d_X5_takeSign_20 rfl (by omega) ⟨hS, _, rfl, by omega, by omega⟩
  · refine Tr.aload_n (pc := 8) (i := 0) d_X5_takeSign_8 rfl rfl ?_
    refine Tr.callV (pc := 9) (as := []) d_X5_takeSign_9 s_5_74 ok_X5_goOn rfl rfl (Nat.le_of_ble_eq_true rfl) (Nat.le_of_ble_eq_true rfl) (by decide) (ty_6 hS.1.1) ?_
    refine Tr.imp (Tr.deep (by decide) (sp_X5_goOn_6 hS.1 )) ?_
    rintro M9 _ ⟨h9, r9, rfl, lr9, ur9⟩
    have hS := St.tr hS h9 (by decide) (by decide)
    refine Tr.sc [(0, r9)] rfl ?_
    refine Tr.goto (pc := 12) (tgt := 20) d_X5_takeSign_12 rfl ?_
    exact Tr.zret (pc := 20) d_X5_takeSign_20 rfl (by omega) ⟨hS, _, rfl, by omega, by omega⟩

def ws_X5_takeClosing_6 : List (Int × Int) := [(6, 0), (6, 1), (6, 5), (6, 6)]
def as_X5_takeClosing_6 : List Int := []
def q_X5_takeClosing_6 (M0 M' : Mem) (r : Option PV) : Prop := St Tru ws_X5_takeClosing_6 as_X5_takeClosing_6 M0 M' ∧ ∃ v : Int, r = some (0, v) ∧ 0 ≤ v ∧ v ≤ 1 ∧ ((1 ≤ v ∧ v ≤ 1) → rd M' 6 6 = 7)
set_option maxRecDepth 100000 in
set_option maxHeartbeats 4000000 in
theorem sp_X5_takeClosing_6 {l : Launch} {K : EC} {M0 : Mem} (hI : In Tru M0) (en_6_2 : rd M0 6 2 = 2) (en_6_6 : rd M0 6 6 = 8) (a1 : Int) (ha1 : 20 ≤ a1 ∧ a1 ≤ 50)  : Tr l K 2 mX5_takeClosing 0 [(0, (2, 6)), (1, (0, a1))] [] M0 (q_X5_takeClosing_6 M0) := by
  have hS : St Tru ws_X5_takeClosing_6 as_X5_takeClosing_6 M0 M0 := St.rf hI
  refine Tr.aload_n (pc := 0) (i := 0) d_X5_takeClosing_0 rfl rfl ?_
  refine Tr.iload_n (pc := 1) (i := 1) d_X5_takeClosing_1 rfl rfl ?_
  refine Tr.callV (pc := 2) (as := [_]) d_X5_takeClosing_2 s_5_81 ok_X5_takeSign rfl rfl (Nat.le_of_ble_eq_true rfl) (Nat.le_of_ble_eq_true rfl) (by decide) (ty_6 hS.1.1) ?_
  refine Tr.imp (Tr.deep (by decide) (sp_X5_takeSign_6_w1 hS.1 ((St.kp hS (by decide) (by decide) (by decide)).trans en_6_2) a1 (by omega))) ?_
  rintro M2 _ ⟨h2, r2, rfl, lr2, ur2⟩
  have hS := St.tr hS h2 (by decide) (by decide)
  refine Tr.sc [(0, r2)] rfl ?_
  refine Tr.if_ne (pc := 5) (tgt := 10) d_X5_takeClosing_5 rfl (fun c5 => ?_) (fun c5 => ?_)
  · refine Tr.aload_n (pc := 10) (i := 0) d_X5_takeClosing_10 rfl rfl ?_
    refine Tr.dup (pc := 11) d_X5_takeClosing_11 ne21 ?_
    refine Tr.getf (pc := 12) d_X5_takeClosing_12 f_5_39 (by decide) (by decide) (ty_6 hS.1.1) ?_
    refine Tr.tp 8 ((St.kp h2 (by decide) (by decide) (by decide)).trans en_6_6) ?_
    refine Tr.iconst (pc := 15) d_X5_takeClosing_15 (by decide) ?_
    refine Tr.isub (pc := 16) d_X5_takeClosing_16 ?_
    refine Tr.tp 7 (by decide) ?_
    refine Tr.putfS (pc := 17) (P := St Tru ws_X5_takeClosing_6 as_X5_takeClosing_6 M0) d_X5_takeClosing_17 f_5_39 (by decide) (by decide) (ty_6 hS.1.1) (st_6_6 hS (by decide) (by omega) trivial) (fun M17 hS w17 => ?_)
    refine Tr.iconst (pc := 20) d_X5_takeClosing_20 (by decide) ?_
    exact Tr.zret (pc := 21) d_X5_takeClosing_21 rfl (by omega) ⟨hS, _, rfl, by omega, by omega, fun _ => w17.1⟩
  · refine Tr.iconst (pc := 8) d_X5_takeClosing_8 (by decide) ?_
    exact Tr.zret (pc := 9) d_X5_takeClosing_9 rfl (by omega) ⟨hS, _, rfl, by omega, by omega, fun hq => absurd hq (by omega)⟩

def ws_X5_takeClosing_6_w1 : List (Int × Int) := [(6, 0), (6, 1), (6, 5), (6, 6)]
def as_X5_takeClosing_6_w1 : List Int := []
def q_X5_takeClosing_6_w1 (M0 M' : Mem) (r : Option PV) : Prop := St Tru ws_X5_takeClosing_6_w1 as_X5_takeClosing_6_w1 M0 M' ∧ ∃ v : Int, r = some (0, v) ∧ 0 ≤ v ∧ v ≤ 1 ∧ ((1 ≤ v ∧ v ≤ 1) → rd M' 6 6 = 6)
set_option maxRecDepth 100000 in
set_option maxHeartbeats 4000000 in
theorem sp_X5_takeClosing_6_w1 {l : Launch} {K : EC} {M0 : Mem} (hI : In Tru M0) (en_6_2 : rd M0 6 2 = 2) (en_6_6 : rd M0 6 6 = 7) (a1 : Int) (ha1 : 20 ≤ a1 ∧ a1 ≤ 50)  : Tr l K 2 mX5_takeClosing 0 [(0, (2, 6)), (1, (0, a1))] [] M0 (q_X5_takeClosing_6_w1 M0) := by
  have hS : St Tru ws_X5_takeClosing_6_w1 as_X5_takeClosing_6_w1 M0 M0 := St.rf hI
  refine Tr.aload_n (pc := 0) (i := 0) d_X5_takeClosing_0 rfl rfl ?_
  refine Tr.iload_n (pc := 1) (i := 1) d_X5_takeClosing_1 rfl rfl ?_
  refine Tr.callV (pc := 2) (as := [_]) d_X5_takeClosing_2 s_5_81 ok_X5_takeSign rfl rfl (Nat.le_of_ble_eq_true rfl) (Nat.le_of_ble_eq_true rfl) (by decide) (ty_6 hS.1.1) ?_
  refine Tr.imp (Tr.deep (by decide) (sp_X5_takeSign_6_w1 hS.1 ((St.kp hS (by decide) (by decide) (by decide)).trans en_6_2) a1 (by omega))) ?_
  rintro M2 _ ⟨h2, r2, rfl, lr2, ur2⟩
  have hS := St.tr hS h2 (by decide) (by decide)
  refine Tr.sc [(0, r2)] rfl ?_
  refine Tr.if_ne (pc := 5) (tgt := 10) d_X5_takeClosing_5 rfl (fun c5 => ?_) (fun c5 => ?_)
  · refine Tr.aload_n (pc := 10) (i := 0) d_X5_takeClosing_10 rfl rfl ?_
    refine Tr.dup (pc := 11) d_X5_takeClosing_11 ne21 ?_
    refine Tr.getf (pc := 12) d_X5_takeClosing_12 f_5_39 (by decide) (by decide) (ty_6 hS.1.1) ?_
    refine Tr.tp 7 ((St.kp h2 (by decide) (by decide) (by decide)).trans en_6_6) ?_
    refine Tr.iconst (pc := 15) d_X5_takeClosing_15 (by decide) ?_
    refine Tr.isub (pc := 16) d_X5_takeClosing_16 ?_
    refine Tr.tp 6 (by decide) ?_
    refine Tr.putfS (pc := 17) (P := St Tru ws_X5_takeClosing_6_w1 as_X5_takeClosing_6_w1 M0) d_X5_takeClosing_17 f_5_39 (by decide) (by decide) (ty_6 hS.1.1) (st_6_6 hS (by decide) (by omega) trivial) (fun M17 hS w17 => ?_)
    refine Tr.iconst (pc := 20) d_X5_takeClosing_20 (by decide) ?_
    exact Tr.zret (pc := 21) d_X5_takeClosing_21 rfl (by omega) ⟨hS, _, rfl, by omega, by omega, fun _ => w17.1⟩
  · refine Tr.iconst (pc := 8) d_X5_takeClosing_8 (by decide) ?_
    exact Tr.zret (pc := 9) d_X5_takeClosing_9 rfl (by omega) ⟨hS, _, rfl, by omega, by omega, fun hq => absurd hq (by omega)⟩

def ws_X5_takeClosing_6_w2 : List (Int × Int) := [(6, 0), (6, 1), (6, 5), (6, 6)]
def as_X5_takeClosing_6_w2 : List Int := []
def q_X5_takeClosing_6_w2 (M0 M' : Mem) (r : Option PV) : Prop := St Tru ws_X5_takeClosing_6_w2 as_X5_takeClosing_6_w2 M0 M' ∧ ∃ v : Int, r = some (0, v) ∧ 0 ≤ v ∧ v ≤ 1 ∧ ((1 ≤ v ∧ v ≤ 1) → rd M' 6 6 = 5)
set_option maxRecDepth 100000 in
set_option maxHeartbeats 4000000 in
theorem sp_X5_takeClosing_6_w2 {l : Launch} {K : EC} {M0 : Mem} (hI : In Tru M0) (en_6_2 : rd M0 6 2 = 2) (en_6_6 : rd M0 6 6 = 6) (a1 : Int) (ha1 : 20 ≤ a1 ∧ a1 ≤ 50)  : Tr l K 2 mX5_takeClosing 0 [(0, (2, 6)), (1, (0, a1))] [] M0 (q_X5_takeClosing_6_w2 M0) := by
  have hS : St Tru ws_X5_takeClosing_6_w2 as_X5_takeClosing_6_w2 M0 M0 := St.rf hI
  refine Tr.aload_n (pc := 0) (i := 0) d_X5_takeClosing_0 rfl rfl ?_
  refine Tr.iload_n (pc := 1) (i := 1) d_X5_takeClosing_1 rfl rfl ?_
  refine Tr.callV (pc := 2) (as := [_]) d_X5_takeClosing_2 s_5_81 ok_X5_takeSign rfl rfl (Nat.le_of_ble_eq_true rfl) (Nat.le_of_ble_eq_true rfl) (by decide) (ty_6 hS.1.1) ?_
  refine Tr.imp (Tr.deep (by decide) (sp_X5_takeSign_6_w1 hS.1 ((St.kp hS (by decide) (by decide) (by decide)).trans en_6_2) a1 (by omega))) ?_
  rintro M2 _ ⟨h2, r2, rfl, lr2, ur2⟩
  have hS := St.tr hS h2 (by decide) (by decide)
  refine Tr.sc [(0, r2)] rfl ?_
  refine Tr.if_ne (pc := 5) (tgt := 10) d_X5_takeClosing_5 rfl (fun c5 => ?_) (fun c5 => ?_)
  · refine Tr.aload_n (pc := 10) (i := 0) d_X5_takeClosing_10 rfl rfl ?_
    refine Tr.dup (pc := 11) d_X5_takeClosing_11 ne21 ?_
    refine Tr.getf (pc := 12) d_X5_takeClosing_12 f_5_39 (by decide) (by decide) (ty_6 hS.1.1) ?_
    refine Tr.tp 6 ((St.kp h2 (by decide) (by decide) (by decide)).trans en_6_6) ?_
    refine Tr.iconst (pc := 15) d_X5_takeClosing_15 (by decide) ?_
    refine Tr.isub (pc := 16) d_X5_takeClosing_16 ?_
    refine Tr.tp 5 (by decide) ?_
    refine Tr.putfS (pc := 17) (P := St Tru ws_X5_takeClosing_6_w2 as_X5_takeClosing_6_w2 M0) d_X5_takeClosing_17 f_5_39 (by decide) (by decide) (ty_6 hS.1.1) (st_6_6 hS (by decide) (by omega) trivial) (fun M17 hS w17 => ?_)
    refine Tr.iconst (pc := 20) d_X5_takeClosing_20 (by decide) ?_
    exact Tr.zret (pc := 21) d_X5_takeClosing_21 rfl (by omega) ⟨hS, _, rfl, by omega, by omega, fun _ => w17.1⟩
  · refine Tr.iconst (pc := 8) d_X5_takeClosing_8 (by decide) ?_
    exact Tr.zret (pc := 9) d_X5_takeClosing_9 rfl (by omega) ⟨hS, _, rfl, by omega, by omega, fun hq => absurd hq (by omega)⟩

def ws_X5_takeClosing_6_w3 : List (Int × Int) := [(6, 0), (6, 1), (6, 5), (6, 6)]
def as_X5_takeClosing_6_w3 : List Int := []
def q_X5_takeClosing_6_w3 (M0 M' : Mem) (r : Option PV) : Prop := St Tru ws_X5_takeClosing_6_w3 as_X5_takeClosing_6_w3 M0 M' ∧ ∃ v : Int, r = some (0, v) ∧ 0 ≤ v ∧ v ≤ 1 ∧ ((1 ≤ v ∧ v ≤ 1) → rd M' 6 6 = 4)
set_option maxRecDepth 100000 in
set_option maxHeartbeats 4000000 in
theorem sp_X5_takeClosing_6_w3 {l : Launch} {K : EC} {M0 : Mem} (hI : In Tru M0) (en_6_2 : rd M0 6 2 = 2) (en_6_6 : rd M0 6 6 = 5) (a1 : Int) (ha1 : 20 ≤ a1 ∧ a1 ≤ 50)  : Tr l K 2 mX5_takeClosing 0 [(0, (2, 6)), (1, (0, a1))] [] M0 (q_X5_takeClosing_6_w3 M0) := by
  have hS : St Tru ws_X5_takeClosing_6_w3 as_X5_takeClosing_6_w3 M0 M0 := St.rf hI
  refine Tr.aload_n (pc := 0) (i := 0) d_X5_takeClosing_0 rfl rfl ?_
  refine Tr.iload_n (pc := 1) (i := 1) d_X5_takeClosing_1 rfl rfl ?_
  refine Tr.callV (pc := 2) (as := [_]) d_X5_takeClosing_2 s_5_81 ok_X5_takeSign rfl rfl (Nat.le_of_ble_eq_true rfl) (Nat.le_of_ble_eq_true rfl) (by decide) (ty_6 hS.1.1) ?_
  refine Tr.imp (Tr.deep (by decide) (sp_X5_takeSign_6_w1 hS.1 ((St.kp hS (by decide) (by decide) (by decide)).trans en_6_2) a1 (by omega))) ?_
  rintro M2 _ ⟨h2, r2, rfl, lr2, ur2⟩
  have hS := St.tr hS h2 (by decide) (by decide)
  refine Tr.sc [(0, r2)] rfl ?_
  refine Tr.if_ne (pc := 5) (tgt := 10) d_X5_takeClosing_5 rfl (fun c5 => ?_) (fun c5 => ?_)
  · refine Tr.aload_n (pc := 10) (i := 0) d_X5_takeClosing_10 rfl rfl ?_
    refine Tr.dup (pc := 11) d_X5_takeClosing_11 ne21 ?_
    refine Tr.getf (pc := 12) d_X5_takeClosing_12 f_5_39 (by decide) (by decide) (ty_6 hS.1.1) ?_
    refine Tr.tp 5 ((St.kp h2 (by decide) (by decide) (by decide)).trans en_6_6) ?_
    refine Tr.iconst (pc := 15) d_X5_takeClosing_15 (by decide) ?_
    refine Tr.isub (pc := 16) d_X5_takeClosing_16 ?_
    refine Tr.tp 4 (by decide) ?_
    refine Tr.putfS (pc := 17) (P := St Tru ws_X5_takeClosing_6_w3 as_X5_takeClosing_6_w3 M0) d_X5_takeClosing_17 f_5_39 (by decide) (by decide) (ty_6 hS.1.1) (st_6_6 hS (by decide) (by omega) trivial) (fun M17 hS w17 => ?_)
    refine Tr.iconst (pc := 20) d_X5_takeClosing_20 (by decide) ?_
    exact Tr.zret (pc := 21) d_X5_takeClosing_21 rfl (by omega) ⟨hS, _, rfl, by omega, by omega, fun _ => w17.1⟩
  · refine Tr.iconst (pc := 8) d_X5_takeClosing_8 (by decide) ?_
    exact Tr.zret (pc := 9) d_X5_takeClosing_9 rfl (by omega) ⟨hS, _, rfl, by omega, by omega, fun hq => absurd hq (by omega)⟩

def ws_X5_takeClosing_6_w4 : List (Int × Int) := [(6, 0), (6, 1), (6, 5), (6, 6)]
def as_X5_takeClosing_6_w4 : List Int := []
def q_X5_takeClosing_6_w4 (M0 M' : Mem) (r : Option PV) : Prop := St Tru ws_X5_takeClosing_6_w4 as_X5_takeClosing_6_w4 M0 M' ∧ ∃ v : Int, r = some (0, v) ∧ 0 ≤ v ∧ v ≤ 1 ∧ ((1 ≤ v ∧ v ≤ 1) → rd M' 6 6 = 3)
set_option maxRecDepth 100000 in
set_option maxHeartbeats 4000000 in
theorem sp_X5_takeClosing_6_w4 {l : Launch} {K : EC} {M0 : Mem} (hI : In Tru M0) (en_6_2 : rd M0 6 2 = 2) (en_6_6 : rd M0 6 6 = 4) (a1 : Int) (ha1 : 20 ≤ a1 ∧ a1 ≤ 50)  : Tr l K 2 mX5_takeClosing 0 [(0, (2, 6)), (1, (0, a1))] [] M0 (q_X5_takeClosing_6_w4 M0) := by
  have hS : St Tru ws_X5_takeClosing_6_w4 as_X5_takeClosing_6_w4 M0 M0 := St.rf hI
  refine Tr.aload_n (pc := 0) (i := 0) d_X5_takeClosing_0 rfl rfl ?_
  refine Tr.iload_n (pc := 1) (i := 1) d_X5_takeClosing_1 rfl rfl ?_
  refine Tr.callV (pc := 2) (as := [_]) d_X5_takeClosing_2 s_5_81 ok_X5_takeSign rfl rfl (Nat.le_of_ble_eq_true rfl) (Nat.le_of_ble_eq_true rfl) (by decide) (ty_6 hS.1.1) ?_
  refine Tr.imp (Tr.deep (by decide) (sp_X5_takeSign_6_w1 hS.1 ((St.kp hS (by decide) (by decide) (by decide)).trans en_6_2) a1 (by omega))) ?_
  rintro M2 _ ⟨h2, r2, rfl, lr2, ur2⟩
  have hS := St.tr hS h2 (by decide) (by decide)
  refine Tr.sc [(0, r2)] rfl ?_
  refine Tr.if_ne (pc := 5) (tgt := 10) d_X5_takeClosing_5 rfl (fun c5 => ?_) (fun c5 => ?_)
  · refine Tr.aload_n (pc := 10) (i := 0) d_X5_takeClosing_10 rfl rfl ?_
    refine Tr.dup (pc := 11) d_X5_takeClosing_11 ne21 ?_
    refine Tr.getf (pc := 12) d_X5_takeClosing_12 f_5_39 (by decide) (by decide) (ty_6 hS.1.1) ?_
    refine Tr.tp 4 ((St.kp h2 (by decide) (by decide) (by decide)).trans en_6_6) ?_
    refine Tr.iconst (pc := 15) d_X5_takeClosing_15 (by decide) ?_
    refine Tr.isub (pc := 16) d_X5_takeClosing_16 ?_
    refine Tr.tp 3 (by decide) ?_
    refine Tr.putfS (pc := 17) (P := St Tru ws_X5_takeClosing_6_w4 as_X5_takeClosing_6_w4 M0) d_X5_takeClosing_17 f_5_39 (by decide) (by decide) (ty_6 hS.1.1) (st_6_6 hS (by decide) (by omega) trivial) (fun M17 hS w17 => ?_)
    refine Tr.iconst (pc := 20) d_X5_takeClosing_20 (by decide) ?_
    exact Tr.zret (pc := 21) d_X5_takeClosing_21 rfl (by omega) ⟨hS, _, rfl, by omega, by omega, fun _ => w17.1⟩
  · refine Tr.iconst (pc := 8) d_X5_takeClosing_8 (by decide) ?_
    exact Tr.zret (pc := 9) d_X5_takeClosing_9 rfl (by omega) ⟨hS, _, rfl, by omega, by omega, fun hq => absurd hq (by omega)⟩

def ws_X5_takeClosing_6_w5 : List (Int × Int) := [(6, 0), (6, 1), (6, 5), (6, 6)]
def as_X5_takeClosing_6_w5 : List Int := []
def q_X5_takeClosing_6_w5 (M0 M' : Mem) (r : Option PV) : Prop := St Tru ws_X5_takeClosing_6_w5 as_X5_takeClosing_6_w5 M0 M' ∧ ∃ v : Int, r = some (0, v) ∧ 0 ≤ v ∧ v ≤ 1 ∧ ((1 ≤ v ∧ v ≤ 1) → rd M' 6 6 = 2)
set_option maxRecDepth 100000 in
set_option maxHeartbeats 4000000 in
theorem sp_X5_takeClosing_6_w5 {l : Launch} {K : EC} {M0 : Mem} (hI : In Tru M0) (en_6_2 : rd M0 6 2 = 2) (en_6_6 : rd M0 6 6 = 3) (a1 : Int) (ha1 : 20 ≤ a1 ∧ a1 ≤ 50)  : Tr l K 2 mX5_takeClosing 0 [(0, (2, 6)), (1, (0, a1))] [] M0 (q_X5_takeClosing_6_w5 M0) := by
  have hS : St Tru ws_X5_takeClosing_6_w5 as_X5_takeClosing_6_w5 M0 M0 := St.rf hI
  refine Tr.aload_n (pc := 0) (i := 0) d_X5_takeClosing_0 rfl rfl ?_
  refine Tr.iload_n (pc := 1) (i := 1) d_X5_takeClosing_1 rfl rfl ?_
  refine Tr.callV (pc := 2) (as := [_]) d_X5_takeClosing_2 s_5_81 ok_X5_takeSign rfl rfl (Nat.le_of_ble_eq_true rfl) (Nat.le_of_ble_eq_true rfl) (by decide) (ty_6 hS.1.1) ?_
  refine Tr.imp (Tr.deep (by decide) (sp_X5_takeSign_6_w1 hS.1 ((St.kp hS (by decide) (by decide) (by decide)).trans en_6_2) a1 (by omega))) ?_
  rintro M2 _ ⟨h2, r2, rfl, lr2, ur2⟩
  have hS := St.tr hS h2 (by decide) (by decide)
  refine Tr.sc [(0, r2)] rfl ?_
  refine Tr.if_ne (pc := 5) (tgt := 10) d_X5_takeClosing_5 rfl (fun c5 => ?_) (fun c5 => ?_)
  · refine Tr.aload_n (pc := 10) (i := 0) d_X5_takeClosing_10 rfl rfl ?_
    refine Tr.dup (pc := 11) d_X5_takeClosing_11 ne21 ?_
    refine Tr.getf (pc := 12) d_X5_takeClosing_12 f_5_39 (by decide) (by decide) (ty_6 hS.1.1) ?_
    refine Tr.tp 3 ((St.kp h2 (by decide) (by decide) (by decide)).trans en_6_6) ?_
    refine Tr.iconst (pc := 15) d_X5_takeClosing_15 (by decide) ?_
    refine Tr.isub (pc := 16) d_X5_takeClosing_16 ?_
    refine Tr.tp 2 (by decide) ?_
    refine Tr.putfS (pc := 17) (P := St Tru ws_X5_takeClosing_6_w5 as_X5_takeClosing_6_w5 M0) d_X5_takeClosing_17 f_5_39 (by decide) (by decide) (ty_6 hS.1.1) (st_6_6 hS (by decide) (by omega) trivial) (fun M17 hS w17 => ?_)
    refine Tr.iconst (pc := 20) d_X5_takeClosing_20 (by decide) ?_
    exact Tr.zret (pc := 21) d_X5_takeClosing_21 rfl (by omega) ⟨hS, _, rfl, by omega, by omega, fun _ => w17.1⟩
  · refine Tr.iconst (pc := 8) d_X5_takeClosing_8 (by decide) ?_
    exact Tr.zret (pc := 9) d_X5_takeClosing_9 rfl (by omega) ⟨hS, _, rfl, by omega, by omega, fun hq => absurd hq (by omega)⟩

def ws_X5_takeClosing_6_w6 : List (Int × Int) := [(6, 0), (6, 1), (6, 5), (6, 6)]
def as_X5_takeClosing_6_w6 : List Int := []
def q_X5_takeClosing_6_w6 (M0 M' : Mem) (r : Option PV) : Prop := St Tru ws_X5_takeClosing_6_w6 as_X5_takeClosing_6_w6 M0 M' ∧ ∃ v : Int, r = some (0, v) ∧ 0 ≤ v ∧ v ≤ 1 ∧ ((1 ≤ v ∧ v ≤ 1) → rd M' 6 6 = 1)
set_option maxRecDepth 100000 in
set_option maxHeartbeats 4000000 in
theorem sp_X5_takeClosing_6_w6 {l : Launch} {K : EC} {M0 : Mem} (hI : In Tru M0) (en_6_2 : rd M0 6 2 = 2) (en_6_6 : rd M0 6 6 = 2) (a1 : Int) (ha1 : 20 ≤ a1 ∧ a1 ≤ 50)  : Tr l K 2 mX5_takeClosing 0 [(0, (2, 6)), (1, (0, a1))] [] M0 (q_X5_takeClosing_6_w6 M0) := by
  have hS : St Tru ws_X5_takeClosing_6_w6 as_X5_takeClosing_6_w6 M0 M0 := St.rf hI
  refine Tr.aload_n (pc := 0) (i := 0) d_X5_takeClosing_0 rfl rfl ?_
  refine Tr.iload_n (pc := 1) (i := 1) d_X5_takeClosing_1 rfl rfl ?_
  refine Tr.callV (pc := 2) (as := [_]) d_X5_takeClosing_2 s_5_81 ok_X5_takeSign rfl rfl (Nat.le_of_ble_eq_true rfl) (Nat.le_of_ble_eq_true rfl) (by decide) (ty_6 hS.1.1) ?_
  refine Tr.imp (Tr.deep (by decide) (sp_X5_takeSign_6_w1 hS.1 ((St.kp hS (by decide) (by decide) (by decide)).trans en_6_2) a1 (by omega))) ?_
  rintro M2 _ ⟨h2, r2, rfl, lr2, ur2⟩
  have hS := St.tr hS h2 (by decide) (by decide)
  refine Tr.sc [(0, r2)] rfl ?_
  refine Tr.if_ne (pc := 5) (tgt := 10) d_X5_takeClosing_5 rfl (fun c5 => ?_) (fun c5 => ?_)
  · refine Tr.aload_n (pc := 10) (i := 0) d_X5_takeClosing_10 rfl rfl ?_
    refine Tr.dup (pc := 11) d_X5_takeClosing_11 ne21 ?_
    refine Tr.getf (pc := 12) d_X5_takeClosing_12 f_5_39 (by decide) (by decide) (ty_6 hS.1.1) ?_
    refine Tr.tp 2 ((St.kp h2 (by decide) (by decide) (by decide)).trans en_6_6) ?_
    refine Tr.iconst (pc := 15) d_X5_takeClosing_15 (by decide) ?_
    refine Tr.isub (pc := 16) d_X5_takeClosing_16 ?_
    refine Tr.tp 1 (by decide) ?_
    refine Tr.putfS (pc := 17) (P := St Tru ws_X5_takeClosing_6_w6 as_X5_takeClosing_6_w6 M0) d_X5_takeClosing_17 f_5_39 (by decide) (by decide) (ty_6 hS.1.1) (st_6_6 hS (by decide) (by omega) trivial) (fun M17 hS w17 => ?_)
    refine Tr.iconst (pc := 20) d_X5_takeClosing_20 (by decide) ?_
    exact Tr.zret (pc := 21) d_X5_takeClosing_21 rfl (by omega) ⟨hS, _, rfl, by omega, by omega, fun _ => w17.1⟩
  · refine Tr.iconst (pc := 8) d_X5_takeClosing_8 (by decide) ?_
    exact Tr.zret (pc := 9) d_X5_takeClosing_9 rfl (by omega) ⟨hS, _, rfl, by omega, by omega, fun hq => absurd hq (by omega)⟩

def ws_X5_takeClosing_6_w7 : List (Int × Int) := [(6, 0), (6, 1), (6, 5), (6, 6)]
def as_X5_takeClosing_6_w7 : List Int := []
def q_X5_takeClosing_6_w7 (M0 M' : Mem) (r : Option PV) : Prop := St Tru ws_X5_takeClosing_6_w7 as_X5_takeClosing_6_w7 M0 M' ∧ ∃ v : Int, r = some (0, v) ∧ 0 ≤ v ∧ v ≤ 1 ∧ ((1 ≤ v ∧ v ≤ 1) → rd M' 6 6 = 0)
set_option maxRecDepth 100000 in
set_option maxHeartbeats 4000000 in
theorem sp_X5_takeClosing_6_w7 {l : Launch} {K : EC} {M0 : Mem} (hI : In Tru M0) (en_6_2 : rd M0 6 2 = 2) (en_6_6 : rd M0 6 6 = 1) (a1 : Int) (ha1 : 20 ≤ a1 ∧ a1 ≤ 50)  : Tr l K 2 mX5_takeClosing 0 [(0, (2, 6)), (1, (0, a1))] [] M0 (q_X5_takeClosing_6_w7 M0) := by
  have hS : St Tru ws_X5_takeClosing_6_w7 as_X5_takeClosing_6_w7 M0 M0 := St.rf hI
  refine Tr.aload_n (pc := 0) (i := 0) d_X5_takeClosing_0 rfl rfl ?_
  refine Tr.iload_n (pc := 1) (i := 1) d_X5_takeClosing_1 rfl rfl ?_
  refine Tr.callV (pc := 2) (as := [_]) d_X5_takeClosing_2 s_5_81 ok_X5_takeSign rfl rfl (Nat.le_of_ble_eq_true rfl) (Nat.le_of_ble_eq_true rfl) (by decide) (ty_6 hS.1.1) ?_
  refine Tr.imp (Tr.deep (by decide) (sp_X5_takeSign_6_w1 hS.1 ((St.kp hS (by decide) (by decide) (by decide)).trans en_6_2) a1 (by omega))) ?_
  rintro M2 _ ⟨h2, r2, rfl, lr2, ur2⟩
  have hS := St.tr hS h2 (by decide) (by decide)
  refine Tr.sc [(0, r2)] rfl ?_
  refine Tr.if_ne (pc := 5) (tgt := 10) d_X5_takeClosing_5 rfl (fun c5 => ?_) (fun c5 => ?_)
  · refine Tr.aload_n (pc := 10) (i := 0) d_X5_takeClosing_10 rfl rfl ?_
    refine Tr.dup (pc := 11) d_X5_takeClosing_11 ne21 ?_
    refine Tr.getf (pc := 12) d_X5_takeClosing_12 f_5_39 (by decide) (by decide) (ty_6 hS.1.1) ?_
    refine Tr.tp 1 ((St.kp h2 (by decide) (by decide) (by decide)).trans en_6_6) ?_
    refine Tr.iconst (pc := 15) d_X5_takeClosing_15 (by decide) ?_
    refine Tr.isub (pc := 16) d_X5_takeClosing_16 ?_
    refine Tr.tp 0 (by decide) ?_
    refine Tr.putfS (pc := 17) (P := St Tru ws_X5_takeClosing_6_w7 as_X5_takeClosing_6_w7 M0) d_X5_takeClosing_17 f_5_39 (by decide) (by decide) (ty_6 hS.1.1) (st_6_6 hS (by decide) (by omega) trivial) (fun M17 hS w17 => ?_)
    refine Tr.iconst (pc := 20) d_X5_takeClosing_20 (by decide) ?_
    exact Tr.zret (pc := 21) d_X5_takeClosing_21 rfl (by omega) ⟨hS, _, rfl, by omega, by omega, fun _ => w17.1⟩
  · refine Tr.iconst (pc := 8) d_X5_takeClosing_8 (by decide) ?_
    exact Tr.zret (pc := 9) d_X5_takeClosing_9 rfl (by omega) ⟨hS, _, rfl, by omega, by omega, fun hq => absurd hq (by omega)⟩

def ws_X5_isSign_6_w3 : List (Int × Int) := []
def as_X5_isSign_6_w3 : List Int := []
def q_X5_isSign_6_w3 (M0 M' : Mem) (r : Option PV) : Prop := St Tru ws_X5_isSign_6_w3 as_X5_isSign_6_w3 M0 M' ∧ ∃ v : Int, r = some (0, v) ∧ 0 ≤ v ∧ v ≤ 1
set_option maxRecDepth 100000 in
set_option maxHeartbeats 4000000 in
theorem sp_X5_isSign_6_w3 {l : Launch} {K : EC} {M0 : Mem} (hI : In Tru M0) (en_6_2 : rd M0 6 2 = 2) (a1 : Int) (ha1 : 60 ≤ a1 ∧ a1 ≤ 60)  : Tr l K 0 mX5_isSign 0 [(0, (2, 6)), (1, (0, a1))] [] M0 (q_X5_isSign_6_w3 M0) := by
  have hS : St Tru ws_X5_isSign_6_w3 as_X5_isSign_6_w3 M0 M0 := St.rf hI
  refine Tr.aload_n (pc := 0) (i := 0) d_X5_isSign_0 rfl rfl ?_
  refine Tr.getf (pc := 1) d_X5_isSign_1 f_5_18 (by decide) (by decide) (ty_6 hS.1.1) ?_
  refine Tr.tp 2 ((St.kp hS (by decide) (by decide) (by decide)).trans en_6_2) ?_
  refine Tr.getf (pc := 4) d_X5_isSign_4 f_5_50 (by decide) (by decide) (ty_2 hS.1.1) ?_
  refine Tr.tp 3 (fx_2_0 hS.1.1) ?_
  refine Tr.aload_n (pc := 7) (i := 0) d_X5_isSign_7 rfl rfl ?_
  refine Tr.getf (pc := 8) d_X5_isSign_8 f_5_36 (by decide) (by decide) (ty_6 hS.1.1) ?_
  refine Tr.gen (P := fun v => 0 ≤ v ∧ v ≤ 900) (ir_6_5 hS.1.2.1) (fun r8 er8 br8 => ?_)
  refine Tr.iald (pc := 11) d_X5_isSign_11 (ty_3 hS.1.1) (by omega) (by omega) ?_
  refine Tr.gen (P := fun v => (-2147483648) ≤ v ∧ v ≤ 2147483647) (ar_3 hS.1.2.1 _) (fun r11 er11 br11 => ?_)
  refine Tr.iconst (pc := 12) d_X5_isSign_12 (by decide) ?_
  refine Tr.icmp_ne (pc := 13) (tgt := 36) d_X5_isSign_13 rfl (fun c13 => ?_) (fun c13 => ?_)
  · refine Tr.iconst (pc := 36) d_X5_isSign_36 (by decide) ?_
    exact Tr.zret (pc := 37) d_X5_isSign_37 rfl (by omega) ⟨hS, _, rfl, by omega, by omega⟩
  · refine Tr.aload_n (pc := 16) (i := 0) d_X5_isSign_16 rfl rfl ?_
    refine Tr.getf (pc := 17) d_X5_isSign_17 f_5_18 (by decide) (by decide) (ty_6 hS.1.1) ?_
    refine Tr.tp 2 ((St.kp hS (by decide) (by decide) (by decide)).trans en_6_2) ?_
    refine Tr.getf (pc := 20) d_X5_isSign_20 f_5_68 (by decide) (by decide) (ty_2 hS.1.1) ?_
    refine Tr.tp 5 (fx_2_2 hS.1.1) ?_
    refine Tr.aload_n (pc := 23) (i := 0) d_X5_isSign_23 rfl rfl ?_
    refine Tr.getf (pc := 24) d_X5_isSign_24 f_5_36 (by decide) (by decide) (ty_6 hS.1.1) ?_
    refine Tr.tp r8 er8 ?_
    refine Tr.iald (pc := 27) d_X5_isSign_27 (ty_5 hS.1.1) (by omega) (by omega) ?_
    refine Tr.gen (P := fun v => (-2147483648) ≤ v ∧ v ≤ 2147483647) (ar_5 hS.1.2.1 _) (fun r27 er27 br27 => ?_)
    refine Tr.iload_n (pc := 28) (i := 1) d_X5_isSign_28 rfl rfl ?_
    refine Tr.tp 60 (by omega) ?_
    refine Tr.icmp_ne (pc := 29) (tgt := 36) d_X5_isSign_29 rfl (fun c29 => ?_) (fun c29 => ?_)
    · refine Tr.iconst (pc := 36) d_X5_isSign_36 (by decide) ?_
      exact Tr.zret (pc := 37) d_X5_isSign_37 rfl (by omega) ⟨hS, _, rfl, by omega, by omega⟩
    · refine Tr.iconst (pc := 32) d_X5_isSign_32 (by decide) ?_
      refine Tr.goto (pc := 33) (tgt := 37) d_X5_isSign_33 rfl ?_
      exact Tr.zret (pc := 37) d_X5_isSign_37 rfl (by omega) ⟨hS, _, rfl, by omega, by omega⟩

def ws_X5_isSign_6_w4 : List (Int × Int) := []
def as_X5_isSign_6_w4 : List Int := []
def q_X5_isSign_6_w4 (M0 M' : Mem) (r : Option PV) : Prop := St Tru ws_X5_isSign_6_w4 as_X5_isSign_6_w4 M0 M' ∧ ∃ v : Int, r = some (0, v) ∧ 0 ≤ v ∧ v ≤ 1
set_option maxRecDepth 100000 in
set_option maxHeartbeats 4000000 in
theorem sp_X5_isSign_6_w4 {l : Launch} {K : EC} {M0 : Mem} (hI : In Tru M0) (en_6_2 : rd M0 6 2 = 2) (a1 : Int) (ha1 : 61 ≤ a1 ∧ a1 ≤ 64)  : Tr l K 0 mX5_isSign 0 [(0, (2, 6)), (1, (0, a1))] [] M0 (q_X5_isSign_6_w4 M0) := by
  have hS : St Tru ws_X5_isSign_6_w4 as_X5_isSign_6_w4 M0 M0 := St.rf hI
  refine Tr.aload_n (pc := 0) (i := 0) d_X5_isSign_0 rfl rfl ?_
  refine Tr.getf (pc := 1) d_X5_isSign_1 f_5_18 (by decide) (by decide) (ty_6 hS.1.1) ?_
  refine Tr.tp 2 ((St.kp hS (by decide) (by decide) (by decide)).trans en_6_2) ?_
  refine Tr.getf (pc := 4) d_X5_isSign_4 f_5_50 (by decide) (by decide) (ty_2 hS.1.1) ?_
  refine Tr.tp 3 (fx_2_0 hS.1.1) ?_
  refine Tr.aload_n (pc := 7) (i := 0) d_X5_isSign_7 rfl rfl ?_
  refine Tr.getf (pc := 8) d_X5_isSign_8 f_5_36 (by decide) (by decide) (ty_6 hS.1.1) ?_
  refine Tr.gen (P := fun v => 0 ≤ v ∧ v ≤ 900) (ir_6_5 hS.1.2.1) (fun r8 er8 br8 => ?_)
  refine Tr.iald (pc := 11) d_X5_isSign_11 (ty_3 hS.1.1) (by omega) (by omega) ?_
  refine Tr.gen (P := fun v => (-2147483648) ≤ v ∧ v ≤ 2147483647) (ar_3 hS.1.2.1 _) (fun r11 er11 br11 => ?_)
  refine Tr.iconst (pc := 12) d_X5_isSign_12 (by decide) ?_
  refine Tr.icmp_ne (pc := 13) (tgt := 36) d_X5_isSign_13 rfl (fun c13 => ?_) (fun c13 => ?_)
  · refine Tr.iconst (pc := 36) d_X5_isSign_36 (by decide) ?_
    exact Tr.zret (pc := 37) d_X5_isSign_37 rfl (by omega) ⟨hS, _, rfl, by omega, by omega⟩
  · refine Tr.aload_n (pc := 16) (i := 0) d_X5_isSign_16 rfl rfl ?_
    refine Tr.getf (pc := 17) d_X5_isSign_17 f_5_18 (by decide) (by decide) (ty_6 hS.1.1) ?_
    refine Tr.tp 2 ((St.kp hS (by decide) (by decide) (by decide)).trans en_6_2) ?_
    refine Tr.getf (pc := 20) d_X5_isSign_20 f_5_68 (by decide) (by decide) (ty_2 hS.1.1) ?_
    refine Tr.tp 5 (fx_2_2 hS.1.1) ?_
    refine Tr.aload_n (pc := 23) (i := 0) d_X5_isSign_23 rfl rfl ?_
    refine Tr.getf (pc := 24) d_X5_isSign_24 f_5_36 (by decide) (by decide) (ty_6 hS.1.1) ?_
    refine Tr.tp r8 er8 ?_
    refine Tr.iald (pc := 27) d_X5_isSign_27 (ty_5 hS.1.1) (by omega) (by omega) ?_
    refine Tr.gen (P := fun v => (-2147483648) ≤ v ∧ v ≤ 2147483647) (ar_5 hS.1.2.1 _) (fun r27 er27 br27 => ?_)
    refine Tr.iload_n (pc := 28) (i := 1) d_X5_isSign_28 rfl rfl ?_
    refine Tr.icmp_ne (pc := 29) (tgt := 36) d_X5_isSign_29 rfl (fun c29 => ?_) (fun c29 => ?_)
    · refine Tr.iconst (pc := 36) d_X5_isSign_36 (by decide) ?_
      exact Tr.zret (pc := 37) d_X5_isSign_37 rfl (by omega) ⟨hS, _, rfl, by omega, by omega⟩
    · refine Tr.iconst (pc := 32) d_X5_isSign_32 (by decide) ?_
      refine Tr.goto (pc := 33) (tgt := 37) d_X5_isSign_33 rfl ?_
      exact Tr.zret (pc := 37) d_X5_isSign_37 rfl (by omega) ⟨hS, _, rfl, by omega, by omega⟩

def ws_X4_emit_35_w7 : List (Int × Int) := [(35, 11)]
def as_X4_emit_35_w7 : List Int := [44, 45]
def q_X4_emit_35_w7 (M0 M' : Mem) (r : Option PV) : Prop := St Tru ws_X4_emit_35_w7 as_X4_emit_35_w7 M0 M' ∧ r = none
set_option maxRecDepth 100000 in
set_option maxHeartbeats 4000000 in
theorem sp_X4_emit_35_w7 {l : Launch} {K : EC} {M0 : Mem} (hI : In Tru M0)  (a1 : Int) (ha1 : 3 ≤ a1 ∧ a1 ≤ 5) (a2 : Int) (ha2 : 0 ≤ a2 ∧ a2 ≤ 5) (hp0 : (a1 = 1 → 0 ≤ a2 ∧ a2 ≤ 2) ∧ (a1 = 2 ∨ a1 = 4 → 0 ≤ a2 ∧ a2 ≤ 5)) : Tr l K 0 mX4_emit 0 [(0, (2, 35)), (1, (0, a1)), (2, (0, a2))] [] M0 (q_X4_emit_35_w7 M0) := by
  have hS : St Tru ws_X4_emit_35_w7 as_X4_emit_35_w7 M0 M0 := St.rf hI
  refine Tr.aload_n (pc := 0) (i := 0) d_X4_emit_0 rfl rfl ?_
  refine Tr.getf (pc := 1) d_X4_emit_1 f_4_49 (by decide) (by decide) (ty_35 hS.1.1) ?_
  refine Tr.gen (P := fun v => 0 ≤ v ∧ v ≤ 900) (ir_35_11 hS.1.2.1) (fun r1 er1 br1 => ?_)
  refine Tr.sipush (pc := 4) d_X4_emit_4 rfl (by decide) ?_
  refine Tr.icmp_ge (pc := 7) (tgt := 40) d_X4_emit_7 rfl (fun c7 => ?_) (fun c7 => ?_)
  · exact Tr.vret (pc := 40) d_X4_emit_40 rfl ⟨hS, rfl⟩
  · refine Tr.aload_n (pc := 10) (i := 0) d_X4_emit_10 rfl rfl ?_
    refine Tr.getf (pc := 11) d_X4_emit_11 f_4_36 (by decide) (by decide) (ty_35 hS.1.1) ?_
    refine Tr.tp 44 (fx_35_9 hS.1.1) ?_
    refine Tr.aload_n (pc := 14) (i := 0) d_X4_emit_14 rfl rfl ?_
    refine Tr.getf (pc := 15) d_X4_emit_15 f_4_49 (by decide) (by decide) (ty_35 hS.1.1) ?_
    refine Tr.tp r1 er1 ?_
    refine Tr.iload_n (pc := 18) (i := 1) d_X4_emit_18 rfl rfl ?_
    refine Tr.iast (pc := 19) d_X4_emit_19 (ty_44 hS.1.1) (by omega) (by omega) ?_
    refine Tr.aload_n (pc := 20) (i := 0) d_X4_emit_20 rfl rfl ?_
    refine Tr.getf (pc := 21) d_X4_emit_21 f_4_39 (by decide) (by decide) (show mT (wr M0 44 r1 a1) 35 = (4, 13) from ty_35 (M := M0) hS.1.1) ?_
    refine Tr.tp 45 ((rd_wb _ rfl).trans (fx_35_10 (M := M0) hS.1.1)) ?_
    refine Tr.aload_n (pc := 24) (i := 0) d_X4_emit_24 rfl rfl ?_
    refine Tr.getf (pc := 25) d_X4_emit_25 f_4_49 (by decide) (by decide) (show mT (wr M0 44 r1 a1) 35 = (4, 13) from ty_35 (M := M0) hS.1.1) ?_
    refine Tr.tp r1 ((rd_wb _ rfl).trans er1) ?_
    refine Tr.iload_n (pc := 28) (i := 2) d_X4_emit_28 rfl rfl ?_
    refine Tr.iastS (pc := 29) (P := St Tru ws_X4_emit_35_w7 as_X4_emit_35_w7 M0) d_X4_emit_29 (show mT (wr M0 44 r1 a1) 45 = (20, 900) from ty_45 (M := M0) hS.1.1) (by omega) (by omega) (St.two (x := 44) (y := 45) 35 36 hS (by decide) hp0 (by decide) (by decide) rfl (by decide +kernel) (by decide +kernel) (by decide +kernel) (by omega) rfl (by decide +kernel) (by decide +kernel) (by decide +kernel) (by omega) trivial) (fun M29 hS w29 => ?_)
    refine Tr.aload_n (pc := 30) (i := 0) d_X4_emit_30 rfl rfl ?_
    refine Tr.dup (pc := 31) d_X4_emit_31 ne21 ?_
    refine Tr.getf (pc := 32) d_X4_emit_32 f_4_49 (by decide) (by decide) (ty_35 hS.1.1) ?_
    refine Tr.tp r1 ((Wr.b w29 rfl).trans ((rd_wb _ rfl).trans er1)) ?_
    refine Tr.iconst (pc := 35) d_X4_emit_35 (by decide) ?_
    refine Tr.iadd (pc := 36) d_X4_emit_36 ?_
    refine Tr.tp (r1 + 1) ((w32_id (by omega)).trans (by omega)) ?_
    refine Tr.putfS (pc := 37) (P := St Tru ws_X4_emit_35_w7 as_X4_emit_35_w7 M0) d_X4_emit_37 f_4_49 (by decide) (by decide) (ty_35 hS.1.1) (st_35_11 hS (by decide) (by omega) trivial) (fun M37 hS w37 => ?_)
    exact Tr.vret (pc := 40) d_X4_emit_40 rfl ⟨hS, rfl⟩

def ws_X5_takeOpening_6_w9 : List (Int × Int) := [(6, 0), (6, 1), (6, 5), (6, 6)]
def as_X5_takeOpening_6_w9 : List Int := []
def q_X5_takeOpening_6_w9 (M0 M' : Mem) (r : Option PV) : Prop := St Tru ws_X5_takeOpening_6_w9 as_X5_takeOpening_6_w9 M0 M' ∧ ∃ v : Int, r = some (0, v) ∧ 0 ≤ v ∧ v ≤ 1 ∧ ((1 ≤ v ∧ v ≤ 1) → rd M' 6 6 = 1)
set_option maxRecDepth 100000 in
set_option maxHeartbeats 4000000 in
theorem sp_X5_takeOpening_6_w9 {l : Launch} {K : EC} {M0 : Mem} (hI : In Tru M0) (en_6_2 : rd M0 6 2 = 2) (en_6_6 : rd M0 6 6 = 0) (a1 : Int) (ha1 : 64 ≤ a1 ∧ a1 ≤ 99)  : Tr l K 1 mX5_takeOpening 0 [(0, (2, 6)), (1, (0, a1))] [] M0 (q_X5_takeOpening_6_w9 M0) := by
  have hS : St Tru ws_X5_takeOpening_6_w9 as_X5_takeOpening_6_w9 M0 M0 := St.rf hI
  refine Tr.aload_n (pc := 0) (i := 0) d_X5_takeOpening_0 rfl rfl ?_
  refine Tr.iload_n (pc := 1) (i := 1) d_X5_takeOpening_1 rfl rfl ?_
  refine Tr.callV (pc := 2) (as := [_]) d_X5_takeOpening_2 s_5_77 ok_X5_isSign rfl rfl (Nat.le_of_ble_eq_true rfl) (Nat.le_of_ble_eq_true rfl) (by decide) (ty_6 hS.1.1) ?_
  refine Tr.imp (Tr.deep (by decide) (sp_X5_isSign_6_w1 hS.1 ((St.kp hS (by decide) (by decide) (by decide)).trans en_6_2) a1 (by omega))) ?_
  rintro M2 _ ⟨h2, r2, rfl, lr2, ur2⟩
  have hS := St.tr hS h2 (by decide) (by decide)
  refine Tr.sc [(0, r2)] rfl ?_
  refine Tr.if_ne (pc := 5) (tgt := 14) d_X5_takeOpening_5 rfl (fun c5 => ?_) (fun c5 => ?_)
  · refine Tr.aload_n (pc := 14) (i := 0) d_X5_takeOpening_14 rfl rfl ?_
    refine Tr.getf (pc := 15) d_X5_takeOpening_15 f_5_39 (by decide) (by decide) (ty_6 hS.1.1) ?_
    refine Tr.tp 0 ((St.kp h2 (by decide) (by decide) (by decide)).trans en_6_6) ?_
    refine Tr.bipush (pc := 18) d_X5_takeOpening_18 rfl (by decide) ?_
    refine Tr.icmp_ne (pc := 20) (tgt := 29) d_X5_takeOpening_20 rfl (fun _ => ?_) (fun hc => absurd hc (by omega))
    refine Tr.aload_n (pc := 29) (i := 0) d_X5_takeOpening_29 rfl rfl ?_
    refine Tr.dup (pc := 30) d_X5_takeOpening_30 ne21 ?_
    refine Tr.getf (pc := 31) d_X5_takeOpening_31 f_5_39 (by decide) (by decide) (ty_6 hS.1.1) ?_
    refine Tr.tp 0 ((St.kp h2 (by decide) (by decide) (by decide)).trans en_6_6) ?_
    refine Tr.iconst (pc := 34) d_X5_takeOpening_34 (by decide) ?_
    refine Tr.iadd (pc := 35) d_X5_takeOpening_35 ?_
    refine Tr.tp 1 (by decide) ?_
    refine Tr.putfS (pc := 36) (P := St Tru ws_X5_takeOpening_6_w9 as_X5_takeOpening_6_w9 M0) d_X5_takeOpening_36 f_5_39 (by decide) (by decide) (ty_6 hS.1.1) (st_6_6 hS (by decide) (by omega) trivial) (fun M36 hS w36 => ?_)
    refine Tr.aload_n (pc := 39) (i := 0) d_X5_takeOpening_39 rfl rfl ?_
    refine Tr.callV (pc := 40) (as := []) d_X5_takeOpening_40 s_5_74 ok_X5_goOn rfl rfl (Nat.le_of_ble_eq_true rfl) (Nat.le_of_ble_eq_true rfl) (by decide) (ty_6 hS.1.1) ?_
    refine Tr.imp (Tr.deep (by decide) (sp_X5_goOn_6 hS.1 )) ?_
    rintro M40 _ ⟨h40, r40, rfl, lr40, ur40⟩
    have hS := St.tr hS h40 (by decide) (by decide)
    refine Tr.sc [(0, r40)] rfl ?_
    exact Tr.zret (pc := 43) d_X5_takeOpening_43 rfl (by omega) ⟨hS, _, rfl, by omega, by omega, fun _ => ((St.kp h40 (by decide) (by decide) (by decide)).trans w36.1)⟩
  · refine Tr.aload_n (pc := 8) (i := 0) d_X5_takeOpening_8 rfl rfl ?_
    refine Tr.iconst (pc := 9) d_X5_takeOpening_9 (by decide) ?_
    refine Tr.callV (pc := 10) (as := [_]) d_X5_takeOpening_10 s_5_56 ok_X5_refuse rfl rfl (Nat.le_of_ble_eq_true rfl) (Nat.le_of_ble_eq_true rfl) (by decide) (ty_6 hS.1.1) ?_
    refine Tr.imp (Tr.deep (by decide) (sp_X5_refuse_6_w1 hS.1 ((St.kp hS (by decide) (by decide) (by decide)).trans en_6_2) 1 (by omega))) ?_
    rintro M10 _ ⟨h10, r10, rfl, lr10, ur10⟩
    have hS := St.tr hS h10 (by decide) (by decide)
    refine Tr.sc [(0, r10)] rfl ?_
    exact Tr.zret (pc := 13) d_X5_takeOpening_13 rfl (by omega) ⟨hS, _, rfl, by omega, by omega, fun hq => absurd hq (by omega)⟩

def ws_X5_takeOpening_6_w10 : List (Int × Int) := [(6, 0), (6, 1), (6, 5), (6, 6)]
def as_X5_takeOpening_6_w10 : List Int := []
def q_X5_takeOpening_6_w10 (M0 M' : Mem) (r : Option PV) : Prop := St Tru ws_X5_takeOpening_6_w10 as_X5_takeOpening_6_w10 M0 M' ∧ ∃ v : Int, r = some (0, v) ∧ 0 ≤ v ∧ v ≤ 1 ∧ ((1 ≤ v ∧ v ≤ 1) → rd M' 6 6 = 2)
set_option maxRecDepth 100000 in
set_option maxHeartbeats 4000000 in
theorem sp_X5_takeOpening_6_w10 {l : Launch} {K : EC} {M0 : Mem} (hI : In Tru M0) (en_6_2 : rd M0 6 2 = 2) (en_6_6 : rd M0 6 6 = 1) (a1 : Int) (ha1 : 64 ≤ a1 ∧ a1 ≤ 99)  : Tr l K 1 mX5_takeOpening 0 [(0, (2, 6)), (1, (0, a1))] [] M0 (q_X5_takeOpening_6_w10 M0) := by
  have hS : St Tru ws_X5_takeOpening_6_w10 as_X5_takeOpening_6_w10 M0 M0 := St.rf hI
  refine Tr.aload_n (pc := 0) (i := 0) d_X5_takeOpening_0 rfl rfl ?_
  refine Tr.iload_n (pc := 1) (i := 1) d_X5_takeOpening_1 rfl rfl ?_
  refine Tr.callV (pc := 2) (as := [_]) d_X5_takeOpening_2 s_5_77 ok_X5_isSign rfl rfl (Nat.le_of_ble_eq_true rfl) (Nat.le_of_ble_eq_true rfl) (by decide) (ty_6 hS.1.1) ?_
  refine Tr.imp (Tr.deep (by decide) (sp_X5_isSign_6_w1 hS.1 ((St.kp hS (by decide) (by decide) (by decide)).trans en_6_2) a1 (by omega))) ?_
  rintro M2 _ ⟨h2, r2, rfl, lr2, ur2⟩
  have hS := St.tr hS h2 (by decide) (by decide)
  refine Tr.sc [(0, r2)] rfl ?_
  refine Tr.if_ne (pc := 5) (tgt := 14) d_X5_takeOpening_5 rfl (fun c5 => ?_) (fun c5 => ?_)
  · refine Tr.aload_n (pc := 14) (i := 0) d_X5_takeOpening_14 rfl rfl ?_
    refine Tr.getf (pc := 15) d_X5_takeOpening_15 f_5_39 (by decide) (by decide) (ty_6 hS.1.1) ?_
    refine Tr.tp 1 ((St.kp h2 (by decide) (by decide) (by decide)).trans en_6_6) ?_
    refine Tr.bipush (pc := 18) d_X5_takeOpening_18 rfl (by decide) ?_
    refine Tr.icmp_ne (pc := 20) (tgt := 29) d_X5_takeOpening_20 rfl (fun _ => ?_) (fun hc => absurd hc (by omega))
    refine Tr.aload_n (pc := 29) (i := 0) d_X5_takeOpening_29 rfl rfl ?_
    refine Tr.dup (pc := 30) d_X5_takeOpening_30 ne21 ?_
    refine Tr.getf (pc := 31) d_X5_takeOpening_31 f_5_39 (by decide) (by decide) (ty_6 hS.1.1) ?_
    refine Tr.tp 1 ((St.kp h2 (by decide) (by decide) (by decide)).trans en_6_6) ?_
    refine Tr.iconst (pc := 34) d_X5_takeOpening_34 (by decide) ?_
    refine Tr.iadd (pc := 35) d_X5_takeOpening_35 ?_
    refine Tr.tp 2 (by decide) ?_
    refine Tr.putfS (pc := 36) (P := St Tru ws_X5_takeOpening_6_w10 as_X5_takeOpening_6_w10 M0) d_X5_takeOpening_36 f_5_39 (by decide) (by decide) (ty_6 hS.1.1) (st_6_6 hS (by decide) (by omega) trivial) (fun M36 hS w36 => ?_)
    refine Tr.aload_n (pc := 39) (i := 0) d_X5_takeOpening_39 rfl rfl ?_
    refine Tr.callV (pc := 40) (as := []) d_X5_takeOpening_40 s_5_74 ok_X5_goOn rfl rfl (Nat.le_of_ble_eq_true rfl) (Nat.le_of_ble_eq_true rfl) (by decide) (ty_6 hS.1.1) ?_
    refine Tr.imp (Tr.deep (by decide) (sp_X5_goOn_6 hS.1 )) ?_
    rintro M40 _ ⟨h40, r40, rfl, lr40, ur40⟩
    have hS := St.tr hS h40 (by decide) (by decide)
    refine Tr.sc [(0, r40)] rfl ?_
    exact Tr.zret (pc := 43) d_X5_takeOpening_43 rfl (by omega) ⟨hS, _, rfl, by omega, by omega, fun _ => ((St.kp h40 (by decide) (by decide) (by decide)).trans w36.1)⟩
  · refine Tr.aload_n (pc := 8) (i := 0) d_X5_takeOpening_8 rfl rfl ?_
    refine Tr.iconst (pc := 9) d_X5_takeOpening_9 (by decide) ?_
    refine Tr.callV (pc := 10) (as := [_]) d_X5_takeOpening_10 s_5_56 ok_X5_refuse rfl rfl (Nat.le_of_ble_eq_true rfl) (Nat.le_of_ble_eq_true rfl) (by decide) (ty_6 hS.1.1) ?_
    refine Tr.imp (Tr.deep (by decide) (sp_X5_refuse_6_w1 hS.1 ((St.kp hS (by decide) (by decide) (by decide)).trans en_6_2) 1 (by omega))) ?_
    rintro M10 _ ⟨h10, r10, rfl, lr10, ur10⟩
    have hS := St.tr hS h10 (by decide) (by decide)
    refine Tr.sc [(0, r10)] rfl ?_
    exact Tr.zret (pc := 13) d_X5_takeOpening_13 rfl (by omega) ⟨hS, _, rfl, by omega, by omega, fun hq => absurd hq (by omega)⟩

def ws_X5_takeOpening_6_w11 : List (Int × Int) := [(6, 0), (6, 1), (6, 5), (6, 6)]
def as_X5_takeOpening_6_w11 : List Int := []
def q_X5_takeOpening_6_w11 (M0 M' : Mem) (r : Option PV) : Prop := St Tru ws_X5_takeOpening_6_w11 as_X5_takeOpening_6_w11 M0 M' ∧ ∃ v : Int, r = some (0, v) ∧ 0 ≤ v ∧ v ≤ 1 ∧ ((1 ≤ v ∧ v ≤ 1) → rd M' 6 6 = 3)
set_option maxRecDepth 100000 in
set_option maxHeartbeats 4000000 in
theorem sp_X5_takeOpening_6_w11 {l : Launch} {K : EC} {M0 : Mem} (hI : In Tru M0) (en_6_2 : rd M0 6 2 = 2) (en_6_6 : rd M0 6 6 = 2) (a1 : Int) (ha1 : 64 ≤ a1 ∧ a1 ≤ 99)  : Tr l K 1 mX5_takeOpening 0 [(0, (2, 6)), (1, (0, a1))] [] M0 (q_X5_takeOpening_6_w11 M0) := by
  have hS : St Tru ws_X5_takeOpening_6_w11 as_X5_takeOpening_6_w11 M0 M0 := St.rf hI
  refine Tr.aload_n (pc := 0) (i := 0) d_X5_takeOpening_0 rfl rfl ?_
  refine Tr.iload_n (pc := 1) (i := 1) d_X5_takeOpening_1 rfl rfl ?_
  refine Tr.callV (pc := 2) (as := [_]) d_X5_takeOpening_2 s_5_77 ok_X5_isSign rfl rfl (Nat.le_of_ble_eq_true rfl) (Nat.le_of_ble_eq_true rfl) (by decide) (ty_6 hS.1.1) ?_
  refine Tr.imp (Tr.deep (by decide) (sp_X5_isSign_6_w1 hS.1 ((St.kp hS (by decide) (by decide) (by decide)).trans en_6_2) a1 (by omega))) ?_
  rintro M2 _ ⟨h2, r2, rfl, lr2, ur2⟩
  have hS := St.tr hS h2 (by decide) (by decide)
  refine Tr.sc [(0, r2)] rfl ?_
  refine Tr.if_ne (pc := 5) (tgt := 14) d_X5_takeOpening_5 rfl (fun c5 => ?_) (fun c5 => ?_)
  · refine Tr.aload_n (pc := 14) (i := 0) d_X5_takeOpening_14 rfl rfl ?_
    refine Tr.getf (pc := 15) d_X5_takeOpening_15 f_5_39 (by decide) (by decide) (ty_6 hS.1.1) ?_
    refine Tr.tp 2 ((St.kp h2 (by decide) (by decide) (by decide)).trans en_6_6) ?_
    refine Tr.bipush (pc := 18) d_X5_takeOpening_18 rfl (by decide) ?_
    refine Tr.icmp_ne (pc := 20) (tgt := 29) d_X5_takeOpening_20 rfl (fun _ => ?_) (fun hc => absurd hc (by omega))
    refine Tr.aload_n (pc := 29) (i := 0) d_X5_takeOpening_29 rfl rfl ?_
    refine Tr.dup (pc := 30) d_X5_takeOpening_30 ne21 ?_
    refine Tr.getf (pc := 31) d_X5_takeOpening_31 f_5_39 (by decide) (by decide) (ty_6 hS.1.1) ?_
    refine Tr.tp 2 ((St.kp h2 (by decide) (by decide) (by decide)).trans en_6_6) ?_
    refine Tr.iconst (pc := 34) d_X5_takeOpening_34 (by decide) ?_
    refine Tr.iadd (pc := 35) d_X5_takeOpening_35 ?_
    refine Tr.tp 3 (by decide) ?_
    refine Tr.putfS (pc := 36) (P := St Tru ws_X5_takeOpening_6_w11 as_X5_takeOpening_6_w11 M0) d_X5_takeOpening_36 f_5_39 (by decide) (by decide) (ty_6 hS.1.1) (st_6_6 hS (by decide) (by omega) trivial) (fun M36 hS w36 => ?_)
    refine Tr.aload_n (pc := 39) (i := 0) d_X5_takeOpening_39 rfl rfl ?_
    refine Tr.callV (pc := 40) (as := []) d_X5_takeOpening_40 s_5_74 ok_X5_goOn rfl rfl (Nat.le_of_ble_eq_true rfl) (Nat.le_of_ble_eq_true rfl) (by decide) (ty_6 hS.1.1) ?_
    refine Tr.imp (Tr.deep (by decide) (sp_X5_goOn_6 hS.1 )) ?_
    rintro M40 _ ⟨h40, r40, rfl, lr40, ur40⟩
    have hS := St.tr hS h40 (by decide) (by decide)
    refine Tr.sc [(0, r40)] rfl ?_
    exact Tr.zret (pc := 43) d_X5_takeOpening_43 rfl (by omega) ⟨hS, _, rfl, by omega, by omega, fun _ => ((St.kp h40 (by decide) (by decide) (by decide)).trans w36.1)⟩
  · refine Tr.aload_n (pc := 8) (i := 0) d_X5_takeOpening_8 rfl rfl ?_
    refine Tr.iconst (pc := 9) d_X5_takeOpening_9 (by decide) ?_
    refine Tr.callV (pc := 10) (as := [_]) d_X5_takeOpening_10 s_5_56 ok_X5_refuse rfl rfl (Nat.le_of_ble_eq_true rfl) (Nat.le_of_ble_eq_true rfl) (by decide) (ty_6 hS.1.1) ?_
    refine Tr.imp (Tr.deep (by decide) (sp_X5_refuse_6_w1 hS.1 ((St.kp hS (by decide) (by decide) (by decide)).trans en_6_2) 1 (by omega))) ?_
    rintro M10 _ ⟨h10, r10, rfl, lr10, ur10⟩
    have hS := St.tr hS h10 (by decide) (by decide)
    refine Tr.sc [(0, r10)] rfl ?_
    exact Tr.zret (pc := 13) d_X5_takeOpening_13 rfl (by omega) ⟨hS, _, rfl, by omega, by omega, fun hq => absurd hq (by omega)⟩

def ws_X5_takeOpening_6_w12 : List (Int × Int) := [(6, 0), (6, 1), (6, 5), (6, 6)]
def as_X5_takeOpening_6_w12 : List Int := []
def q_X5_takeOpening_6_w12 (M0 M' : Mem) (r : Option PV) : Prop := St Tru ws_X5_takeOpening_6_w12 as_X5_takeOpening_6_w12 M0 M' ∧ ∃ v : Int, r = some (0, v) ∧ 0 ≤ v ∧ v ≤ 1 ∧ ((1 ≤ v ∧ v ≤ 1) → rd M' 6 6 = 4)
set_option maxRecDepth 100000 in
set_option maxHeartbeats 4000000 in
theorem sp_X5_takeOpening_6_w12 {l : Launch} {K : EC} {M0 : Mem} (hI : In Tru M0) (en_6_2 : rd M0 6 2 = 2) (en_6_6 : rd M0 6 6 = 3) (a1 : Int) (ha1 : 64 ≤ a1 ∧ a1 ≤ 99)  : Tr l K 1 mX5_takeOpening 0 [(0, (2, 6)), (1, (0, a1))] [] M0 (q_X5_takeOpening_6_w12 M0) := by
  have hS : St Tru ws_X5_takeOpening_6_w12 as_X5_takeOpening_6_w12 M0 M0 := St.rf hI
  refine Tr.aload_n (pc := 0) (i := 0) d_X5_takeOpening_0 rfl rfl ?_
  refine Tr.iload_n (pc := 1) (i := 1) d_X5_takeOpening_1 rfl rfl ?_
  refine Tr.callV (pc := 2) (as := [_]) d_X5_takeOpening_2 s_5_77 ok_X5_isSign rfl rfl (Nat.le_of_ble_eq_true rfl) (Nat.le_of_ble_eq_true rfl) (by decide) (ty_6 hS.1.1) ?_
  refine Tr.imp (Tr.deep (by decide) (sp_X5_isSign_6_w1 hS.1 ((St.kp hS (by decide) (by decide) (by decide)).trans en_6_2) a1 (by omega))) ?_
  rintro M2 _ ⟨h2, r2, rfl, lr2, ur2⟩
  have hS := St.tr hS h2 (by decide) (by decide)
  refine Tr.sc [(0, r2)] rfl ?_
  refine Tr.if_ne (pc := 5) (tgt := 14) d_X5_takeOpening_5 rfl (fun c5 => ?_) (fun c5 => ?_)
  · refine Tr.aload_n (pc := 14) (i := 0) d_X5_takeOpening_14 rfl rfl ?_
    refine Tr.getf (pc := 15) d_X5_takeOpening_15 f_5_39 (by decide) (by decide) (ty_6 hS.1.1) ?_
    refine Tr.tp 3 ((St.kp h2 (by decide) (by decide) (by decide)).trans en_6_6) ?_
    refine Tr.bipush (pc := 18) d_X5_takeOpening_18 rfl (by decide) ?_
    refine Tr.icmp_ne (pc := 20) (tgt := 29) d_X5_takeOpening_20 rfl (fun _ => ?_) (fun hc => absurd hc (by omega))
    refine Tr.aload_n (pc := 29) (i := 0) d_X5_takeOpening_29 rfl rfl ?_
    refine Tr.dup (pc := 30) d_X5_takeOpening_30 ne21 ?_
    refine Tr.getf (pc := 31) d_X5_takeOpening_31 f_5_39 (by decide) (by decide) (ty_6 hS.1.1) ?_
    refine Tr.tp 3 ((St.kp h2 (by decide) (by decide) (by decide)).trans en_6_6) ?_
    refine Tr.iconst (pc := 34) d_X5_takeOpening_34 (by decide) ?_
    refine Tr.iadd (pc := 35) d_X5_takeOpening_35 ?_
    refine Tr.tp 4 (by decide) ?_
    refine Tr.putfS (pc := 36) (P := St Tru ws_X5_takeOpening_6_w12 as_X5_takeOpening_6_w12 M0) d_X5_takeOpening_36 f_5_39 (by decide) (by decide) (ty_6 hS.1.1) (st_6_6 hS (by decide) (by omega) trivial) (fun M36 hS w36 => ?_)
    refine Tr.aload_n (pc := 39) (i := 0) d_X5_takeOpening_39 rfl rfl ?_
    refine Tr.callV (pc := 40) (as := []) d_X5_takeOpening_40 s_5_74 ok_X5_goOn rfl rfl (Nat.le_of_ble_eq_true rfl) (Nat.le_of_ble_eq_true rfl) (by decide) (ty_6 hS.1.1) ?_
    refine Tr.imp (Tr.deep (by decide) (sp_X5_goOn_6 hS.1 )) ?_
    rintro M40 _ ⟨h40, r40, rfl, lr40, ur40⟩
    have hS := St.tr hS h40 (by decide) (by decide)
    refine Tr.sc [(0, r40)] rfl ?_
    exact Tr.zret (pc := 43) d_X5_takeOpening_43 rfl (by omega) ⟨hS, _, rfl, by omega, by omega, fun _ => ((St.kp h40 (by decide) (by decide) (by decide)).trans w36.1)⟩
  · refine Tr.aload_n (pc := 8) (i := 0) d_X5_takeOpening_8 rfl rfl ?_
    refine Tr.iconst (pc := 9) d_X5_takeOpening_9 (by decide) ?_
    refine Tr.callV (pc := 10) (as := [_]) d_X5_takeOpening_10 s_5_56 ok_X5_refuse rfl rfl (Nat.le_of_ble_eq_true rfl) (Nat.le_of_ble_eq_true rfl) (by decide) (ty_6 hS.1.1) ?_
    refine Tr.imp (Tr.deep (by decide) (sp_X5_refuse_6_w1 hS.1 ((St.kp hS (by decide) (by decide) (by decide)).trans en_6_2) 1 (by omega))) ?_
    rintro M10 _ ⟨h10, r10, rfl, lr10, ur10⟩
    have hS := St.tr hS h10 (by decide) (by decide)
    refine Tr.sc [(0, r10)] rfl ?_
    exact Tr.zret (pc := 13) d_X5_takeOpening_13 rfl (by omega) ⟨hS, _, rfl, by omega, by omega, fun hq => absurd hq (by omega)⟩

def ws_X5_takeOpening_6_w13 : List (Int × Int) := [(6, 0), (6, 1), (6, 5), (6, 6)]
def as_X5_takeOpening_6_w13 : List Int := []
def q_X5_takeOpening_6_w13 (M0 M' : Mem) (r : Option PV) : Prop := St Tru ws_X5_takeOpening_6_w13 as_X5_takeOpening_6_w13 M0 M' ∧ ∃ v : Int, r = some (0, v) ∧ 0 ≤ v ∧ v ≤ 1 ∧ ((1 ≤ v ∧ v ≤ 1) → rd M' 6 6 = 5)
set_option maxRecDepth 100000 in
set_option maxHeartbeats 4000000 in
theorem sp_X5_takeOpening_6_w13 {l : Launch} {K : EC} {M0 : Mem} (hI : In Tru M0) (en_6_2 : rd M0 6 2 = 2) (en_6_6 : rd M0 6 6 = 4) (a1 : Int) (ha1 : 64 ≤ a1 ∧ a1 ≤ 99)  : Tr l K 1 mX5_takeOpening 0 [(0, (2, 6)), (1, (0, a1))] [] M0 (q_X5_takeOpening_6_w13 M0) := by
  have hS : St Tru ws_X5_takeOpening_6_w13 as_X5_takeOpening_6_w13 M0 M0 := St.rf hI
  refine Tr.aload_n (pc := 0) (i := 0) d_X5_takeOpening_0 rfl rfl ?_
  refine Tr.iload_n (pc := 1) (i := 1) d_X5_takeOpening_1 rfl rfl ?_
  refine Tr.callV (pc := 2) (as := [_]) d_X5_takeOpening_2 s_5_77 ok_X5_isSign rfl rfl (Nat.le_of_ble_eq_true rfl) (Nat.le_of_ble_eq_true rfl) (by decide) (ty_6 hS.1.1) ?_
  refine Tr.imp (Tr.deep (by decide) (sp_X5_isSign_6_w1 hS.1 ((St.kp hS (by decide) (by decide) (by decide)).trans en_6_2) a1 (by omega))) ?_
  rintro M2 _ ⟨h2, r2, rfl, lr2, ur2⟩
  have hS := St.tr hS h2 (by decide) (by decide)
  refine Tr.sc [(0, r2)] rfl ?_
  refine Tr.if_ne (pc := 5) (tgt := 14) d_X5_takeOpening_5 rfl (fun c5 => ?_) (fun c5 => ?_)
  · refine Tr.aload_n (pc := 14) (i := 0) d_X5_takeOpening_14 rfl rfl ?_
    refine Tr.getf (pc := 15) d_X5_takeOpening_15 f_5_39 (by decide) (by decide) (ty_6 hS.1.1) ?_
    refine Tr.tp 4 ((St.kp h2 (by decide) (by decide) (by decide)).trans en_6_6) ?_
    refine Tr.bipush (pc := 18) d_X5_takeOpening_18 rfl (by decide) ?_
    refine Tr.icmp_ne (pc := 20) (tgt := 29) d_X5_takeOpening_20 rfl (fun _ => ?_) (fun hc => absurd hc (by omega))
    refine Tr.aload_n (pc := 29) (i := 0) d_X5_takeOpening_29 rfl rfl ?_
    refine Tr.dup (pc := 30) d_X5_takeOpening_30 ne21 ?_
    refine Tr.getf (pc := 31) d_X5_takeOpening_31 f_5_39 (by decide) (by decide) (ty_6 hS.1.1) ?_
    refine Tr.tp 4 ((St.kp h2 (by decide) (by decide) (by decide)).trans en_6_6) ?_
    refine Tr.iconst (pc := 34) d_X5_takeOpening_34 (by decide) ?_
    refine Tr.iadd (pc := 35) d_X5_takeOpening_35 ?_
    refine Tr.tp 5 (by decide) ?_
    refine Tr.putfS (pc := 36) (P := St Tru ws_X5_takeOpening_6_w13 as_X5_takeOpening_6_w13 M0) d_X5_takeOpening_36 f_5_39 (by decide) (by decide) (ty_6 hS.1.1) (st_6_6 hS (by decide) (by omega) trivial) (fun M36 hS w36 => ?_)
    refine Tr.aload_n (pc := 39) (i := 0) d_X5_takeOpening_39 rfl rfl ?_
    refine Tr.callV (pc := 40) (as := []) d_X5_takeOpening_40 s_5_74 ok_X5_goOn rfl rfl (Nat.le_of_ble_eq_true rfl) (Nat.le_of_ble_eq_true rfl) (by decide) (ty_6 hS.1.1) ?_
    refine Tr.imp (Tr.deep (by decide) (sp_X5_goOn_6 hS.1 )) ?_
    rintro M40 _ ⟨h40, r40, rfl, lr40, ur40⟩
    have hS := St.tr hS h40 (by decide) (by decide)
    refine Tr.sc [(0, r40)] rfl ?_
    exact Tr.zret (pc := 43) d_X5_takeOpening_43 rfl (by omega) ⟨hS, _, rfl, by omega, by omega, fun _ => ((St.kp h40 (by decide) (by decide) (by decide)).trans w36.1)⟩
  · refine Tr.aload_n (pc := 8) (i := 0) d_X5_takeOpening_8 rfl rfl ?_
    refine Tr.iconst (pc := 9) d_X5_takeOpening_9 (by decide) ?_
    refine Tr.callV (pc := 10) (as := [_]) d_X5_takeOpening_10 s_5_56 ok_X5_refuse rfl rfl (Nat.le_of_ble_eq_true rfl) (Nat.le_of_ble_eq_true rfl) (by decide) (ty_6 hS.1.1) ?_
    refine Tr.imp (Tr.deep (by decide) (sp_X5_refuse_6_w1 hS.1 ((St.kp hS (by decide) (by decide) (by decide)).trans en_6_2) 1 (by omega))) ?_
    rintro M10 _ ⟨h10, r10, rfl, lr10, ur10⟩
    have hS := St.tr hS h10 (by decide) (by decide)
    refine Tr.sc [(0, r10)] rfl ?_
    exact Tr.zret (pc := 13) d_X5_takeOpening_13 rfl (by omega) ⟨hS, _, rfl, by omega, by omega, fun hq => absurd hq (by omega)⟩

def ws_X5_takeOpening_6_w14 : List (Int × Int) := [(6, 0), (6, 1), (6, 5), (6, 6)]
def as_X5_takeOpening_6_w14 : List Int := []
def q_X5_takeOpening_6_w14 (M0 M' : Mem) (r : Option PV) : Prop := St Tru ws_X5_takeOpening_6_w14 as_X5_takeOpening_6_w14 M0 M' ∧ ∃ v : Int, r = some (0, v) ∧ 0 ≤ v ∧ v ≤ 1 ∧ ((1 ≤ v ∧ v ≤ 1) → rd M' 6 6 = 6)
set_option maxRecDepth 100000 in
set_option maxHeartbeats 4000000 in
theorem sp_X5_takeOpening_6_w14 {l : Launch} {K : EC} {M0 : Mem} (hI : In Tru M0) (en_6_2 : rd M0 6 2 = 2) (en_6_6 : rd M0 6 6 = 5) (a1 : Int) (ha1 : 64 ≤ a1 ∧ a1 ≤ 99)  : Tr l K 1 mX5_takeOpening 0 [(0, (2, 6)), (1, (0, a1))] [] M0 (q_X5_takeOpening_6_w14 M0) := by
  have hS : St Tru ws_X5_takeOpening_6_w14 as_X5_takeOpening_6_w14 M0 M0 := St.rf hI
  refine Tr.aload_n (pc := 0) (i := 0) d_X5_takeOpening_0 rfl rfl ?_
  refine Tr.iload_n (pc := 1) (i := 1) d_X5_takeOpening_1 rfl rfl ?_
  refine Tr.callV (pc := 2) (as := [_]) d_X5_takeOpening_2 s_5_77 ok_X5_isSign rfl rfl (Nat.le_of_ble_eq_true rfl) (Nat.le_of_ble_eq_true rfl) (by decide) (ty_6 hS.1.1) ?_
  refine Tr.imp (Tr.deep (by decide) (sp_X5_isSign_6_w1 hS.1 ((St.kp hS (by decide) (by decide) (by decide)).trans en_6_2) a1 (by omega))) ?_
  rintro M2 _ ⟨h2, r2, rfl, lr2, ur2⟩
  have hS := St.tr hS h2 (by decide) (by decide)
  refine Tr.sc [(0, r2)] rfl ?_
  refine Tr.if_ne (pc := 5) (tgt := 14) d_X5_takeOpening_5 rfl (fun c5 => ?_) (fun c5 => ?_)
  · refine Tr.aload_n (pc := 14) (i := 0) d_X5_takeOpening_14 rfl rfl ?_
    refine Tr.getf (pc := 15) d_X5_takeOpening_15 f_5_39 (by decide) (by decide) (ty_6 hS.1.1) ?_
    refine Tr.tp 5 ((St.kp h2 (by decide) (by decide) (by decide)).trans en_6_6) ?_
    refine Tr.bipush (pc := 18) d_X5_takeOpening_18 rfl (by decide) ?_
    refine Tr.icmp_ne (pc := 20) (tgt := 29) d_X5_takeOpening_20 rfl (fun _ => ?_) (fun hc => absurd hc (by omega))
    refine Tr.aload_n (pc := 29) (i := 0) d_X5_takeOpening_29 rfl rfl ?_
    refine Tr.dup (pc := 30) d_X5_takeOpening_30 ne21 ?_
    refine Tr.getf (pc := 31) d_X5_takeOpening_31 f_5_39 (by decide) (by decide) (ty_6 hS.1.1) ?_
    refine Tr.tp 5 ((St.kp h2 (by decide) (by decide) (by decide)).trans en_6_6) ?_
    refine Tr.iconst (pc := 34) d_X5_takeOpening_34 (by decide) ?_
    refine Tr.iadd (pc := 35) d_X5_takeOpening_35 ?_
    refine Tr.tp 6 (by decide) ?_
    refine Tr.putfS (pc := 36) (P := St Tru ws_X5_takeOpening_6_w14 as_X5_takeOpening_6_w14 M0) d_X5_takeOpening_36 f_5_39 (by decide) (by decide) (ty_6 hS.1.1) (st_6_6 hS (by decide) (by omega) trivial) (fun M36 hS w36 => ?_)
    refine Tr.aload_n (pc := 39) (i := 0) d_X5_takeOpening_39 rfl rfl ?_
    refine Tr.callV (pc := 40) (as := []) d_X5_takeOpening_40 s_5_74 ok_X5_goOn rfl rfl (Nat.le_of_ble_eq_true rfl) (Nat.le_of_ble_eq_true rfl) (by decide) (ty_6 hS.1.1) ?_
    refine Tr.imp (Tr.deep (by decide) (sp_X5_goOn_6 hS.1 )) ?_
    rintro M40 _ ⟨h40, r40, rfl, lr40, ur40⟩
    have hS := St.tr hS h40 (by decide) (by decide)
    refine Tr.sc [(0, r40)] rfl ?_
    exact Tr.zret (pc := 43) d_X5_takeOpening_43 rfl (by omega) ⟨hS, _, rfl, by omega, by omega, fun _ => ((St.kp h40 (by decide) (by decide) (by decide)).trans w36.1)⟩
  · refine Tr.aload_n (pc := 8) (i := 0) d_X5_takeOpening_8 rfl rfl ?_
    refine Tr.iconst (pc := 9) d_X5_takeOpening_9 (by decide) ?_
    refine Tr.callV (pc := 10) (as := [_]) d_X5_takeOpening_10 s_5_56 ok_X5_refuse rfl rfl (Nat.le_of_ble_eq_true rfl) (Nat.le_of_ble_eq_true rfl) (by decide) (ty_6 hS.1.1) ?_
    refine Tr.imp (Tr.deep (by decide) (sp_X5_refuse_6_w1 hS.1 ((St.kp hS (by decide) (by decide) (by decide)).trans en_6_2) 1 (by omega))) ?_
    rintro M10 _ ⟨h10, r10, rfl, lr10, ur10⟩
    have hS := St.tr hS h10 (by decide) (by decide)
    refine Tr.sc [(0, r10)] rfl ?_
    exact Tr.zret (pc := 13) d_X5_takeOpening_13 rfl (by omega) ⟨hS, _, rfl, by omega, by omega, fun hq => absurd hq (by omega)⟩

def ws_X5_takeOpening_6_w15 : List (Int × Int) := [(6, 0), (6, 1), (6, 5), (6, 6)]
def as_X5_takeOpening_6_w15 : List Int := []
def q_X5_takeOpening_6_w15 (M0 M' : Mem) (r : Option PV) : Prop := St Tru ws_X5_takeOpening_6_w15 as_X5_takeOpening_6_w15 M0 M' ∧ ∃ v : Int, r = some (0, v) ∧ 0 ≤ v ∧ v ≤ 1 ∧ ((1 ≤ v ∧ v ≤ 1) → rd M' 6 6 = 7)
set_option maxRecDepth 100000 in
set_option maxHeartbeats 4000000 in
theorem sp_X5_takeOpening_6_w15 {l : Launch} {K : EC} {M0 : Mem} (hI : In Tru M0) (en_6_2 : rd M0 6 2 = 2) (en_6_6 : rd M0 6 6 = 6) (a1 : Int) (ha1 : 64 ≤ a1 ∧ a1 ≤ 99)  : Tr l K 1 mX5_takeOpening 0 [(0, (2, 6)), (1, (0, a1))] [] M0 (q_X5_takeOpening_6_w15 M0) := by
  have hS : St Tru ws_X5_takeOpening_6_w15 as_X5_takeOpening_6_w15 M0 M0 := St.rf hI
  refine Tr.aload_n (pc := 0) (i := 0) d_X5_takeOpening_0 rfl rfl ?_
  refine Tr.iload_n (pc := 1) (i := 1) d_X5_takeOpening_1 rfl rfl ?_
  refine Tr.callV (pc := 2) (as := [_]) d_X5_takeOpening_2 s_5_77 ok_X5_isSign rfl rfl (Nat.le_of_ble_eq_true rfl) (Nat.le_of_ble_eq_true rfl) (by decide) (ty_6 hS.1.1) ?_
  refine Tr.imp (Tr.deep (by decide) (sp_X5_isSign_6_w1 hS.1 ((St.kp hS (by decide) (by decide) (by decide)).trans en_6_2) a1 (by omega))) ?_
  rintro M2 _ ⟨h2, r2, rfl, lr2, ur2⟩
  have hS := St.tr hS h2 (by decide) (by decide)
  refine Tr.sc [(0, r2)] rfl ?_
  refine Tr.if_ne (pc := 5) (tgt := 14) d_X5_takeOpening_5 rfl (fun c5 => ?_) (fun c5 => ?_)
  · refine Tr.aload_n (pc := 14) (i := 0) d_X5_takeOpening_14 rfl rfl ?_
    refine Tr.getf (pc := 15) d_X5_takeOpening_15 f_5_39 (by decide) (by decide) (ty_6 hS.1.1) ?_
    refine Tr.tp 6 ((St.kp h2 (by decide) (by decide) (by decide)).trans en_6_6) ?_
    refine Tr.bipush (pc := 18) d_X5_takeOpening_18 rfl (by decide) ?_
    refine Tr.icmp_ne (pc := 20) (tgt := 29) d_X5_takeOpening_20 rfl (fun _ => ?_) (fun hc => absurd hc (by omega))
    refine Tr.aload_n (pc := 29) (i := 0) d_X5_takeOpening_29 rfl rfl ?_
    refine Tr.dup (pc := 30) d_X5_takeOpening_30 ne21 ?_
    refine Tr.getf (pc := 31) d_X5_takeOpening_31 f_5_39 (by decide) (by decide) (ty_6 hS.1.1) ?_
    refine Tr.tp 6 ((St.kp h2 (by decide) (by decide) (by decide)).trans en_6_6) ?_
    refine Tr.iconst (pc := 34) d_X5_takeOpening_34 (by decide) ?_
    refine Tr.iadd (pc := 35) d_X5_takeOpening_35 ?_
    refine Tr.tp 7 (by decide) ?_
    refine Tr.putfS (pc := 36) (P := St Tru ws_X5_takeOpening_6_w15 as_X5_takeOpening_6_w15 M0) d_X5_takeOpening_36 f_5_39 (by decide) (by decide) (ty_6 hS.1.1) (st_6_6 hS (by decide) (by omega) trivial) (fun M36 hS w36 => ?_)
    refine Tr.aload_n (pc := 39) (i := 0) d_X5_takeOpening_39 rfl rfl ?_
    refine Tr.callV (pc := 40) (as := []) d_X5_takeOpening_40 s_5_74 ok_X5_goOn rfl rfl (Nat.le_of_ble_eq_true rfl) (Nat.le_of_ble_eq_true rfl) (by decide) (ty_6 hS.1.1) ?_
    refine Tr.imp (Tr.deep (by decide) (sp_X5_goOn_6 hS.1 )) ?_
    rintro M40 _ ⟨h40, r40, rfl, lr40, ur40⟩
    have hS := St.tr hS h40 (by decide) (by decide)
    refine Tr.sc [(0, r40)] rfl ?_
    exact Tr.zret (pc := 43) d_X5_takeOpening_43 rfl (by omega) ⟨hS, _, rfl, by omega, by omega, fun _ => ((St.kp h40 (by decide) (by decide) (by decide)).trans w36.1)⟩
  · refine Tr.aload_n (pc := 8) (i := 0) d_X5_takeOpening_8 rfl rfl ?_
    refine Tr.iconst (pc := 9) d_X5_takeOpening_9 (by decide) ?_
    refine Tr.callV (pc := 10) (as := [_]) d_X5_takeOpening_10 s_5_56 ok_X5_refuse rfl rfl (Nat.le_of_ble_eq_true rfl) (Nat.le_of_ble_eq_true rfl) (by decide) (ty_6 hS.1.1) ?_
    refine Tr.imp (Tr.deep (by decide) (sp_X5_refuse_6_w1 hS.1 ((St.kp hS (by decide) (by decide) (by decide)).trans en_6_2) 1 (by omega))) ?_
    rintro M10 _ ⟨h10, r10, rfl, lr10, ur10⟩
    have hS := St.tr hS h10 (by decide) (by decide)
    refine Tr.sc [(0, r10)] rfl ?_
    exact Tr.zret (pc := 13) d_X5_takeOpening_13 rfl (by omega) ⟨hS, _, rfl, by omega, by omega, fun hq => absurd hq (by omega)⟩

def ws_X5_takeOpening_6_w16 : List (Int × Int) := [(6, 0), (6, 1), (6, 5), (6, 6)]
def as_X5_takeOpening_6_w16 : List Int := []
def q_X5_takeOpening_6_w16 (M0 M' : Mem) (r : Option PV) : Prop := St Tru ws_X5_takeOpening_6_w16 as_X5_takeOpening_6_w16 M0 M' ∧ ∃ v : Int, r = some (0, v) ∧ 0 ≤ v ∧ v ≤ 1 ∧ ((1 ≤ v ∧ v ≤ 1) → rd M' 6 6 = 8)
set_option maxRecDepth 100000 in
set_option maxHeartbeats 4000000 in
theorem sp_X5_takeOpening_6_w16 {l : Launch} {K : EC} {M0 : Mem} (hI : In Tru M0) (en_6_2 : rd M0 6 2 = 2) (en_6_6 : rd M0 6 6 = 7) (a1 : Int) (ha1 : 64 ≤ a1 ∧ a1 ≤ 99)  : Tr l K 1 mX5_takeOpening 0 [(0, (2, 6)), (1, (0, a1))] [] M0 (q_X5_takeOpening_6_w16 M0) := by
  have hS : St Tru ws_X5_takeOpening_6_w16 as_X5_takeOpening_6_w16 M0 M0 := St.rf hI
  refine Tr.aload_n (pc := 0) (i := 0) d_X5_takeOpening_0 rfl rfl ?_
  refine Tr.iload_n (pc := 1) (i := 1) d_X5_takeOpening_1 rfl rfl ?_
  refine Tr.callV (pc := 2) (as := [_]) d_X5_takeOpening_2 s_5_77 ok_X5_isSign rfl rfl (Nat.le_of_ble_eq_true rfl) (Nat.le_of_ble_eq_true rfl) (by decide) (ty_6 hS.1.1) ?_
  refine Tr.imp (Tr.deep (by decide) (sp_X5_isSign_6_w1 hS.1 ((St.kp hS (by decide) (by decide) (by decide)).trans en_6_2) a1 (by omega))) ?_
  rintro M2 _ ⟨h2, r2, rfl, lr2, ur2⟩
  have hS := St.tr hS h2 (by decide) (by decide)
  refine Tr.sc [(0, r2)] rfl ?_
  refine Tr.if_ne (pc := 5) (tgt := 14) d_X5_takeOpening_5 rfl (fun c5 => ?_) (fun c5 => ?_)
  · refine Tr.aload_n (pc := 14) (i := 0) d_X5_takeOpening_14 rfl rfl ?_
    refine Tr.getf (pc := 15) d_X5_takeOpening_15 f_5_39 (by decide) (by decide) (ty_6 hS.1.1) ?_
    refine Tr.tp 7 ((St.kp h2 (by decide) (by decide) (by decide)).trans en_6_6) ?_
    refine Tr.bipush (pc := 18) d_X5_takeOpening_18 rfl (by decide) ?_
    refine Tr.icmp_ne (pc := 20) (tgt := 29) d_X5_takeOpening_20 rfl (fun _ => ?_) (fun hc => absurd hc (by omega))
    refine Tr.aload_n (pc := 29) (i := 0) d_X5_takeOpening_29 rfl rfl ?_
    refine Tr.dup (pc := 30) d_X5_takeOpening_30 ne21 ?_
    refine Tr.getf (pc := 31) d_X5_takeOpening_31 f_5_39 (by decide) (by decide) (ty_6 hS.1.1) ?_
    refine Tr.tp 7 ((St.kp h2 (by decide) (by decide) (by decide)).trans en_6_6) ?_
    refine Tr.iconst (pc := 34) d_X5_takeOpening_34 (by decide) ?_
    refine Tr.iadd (pc := 35) d_X5_takeOpening_35 ?_
    refine Tr.tp 8 (by decide) ?_
    refine Tr.putfS (pc := 36) (P := St Tru ws_X5_takeOpening_6_w16 as_X5_takeOpening_6_w16 M0) d_X5_takeOpening_36 f_5_39 (by decide) (by decide) (ty_6 hS.1.1) (st_6_6 hS (by decide) (by omega) trivial) (fun M36 hS w36 => ?_)
    refine Tr.aload_n (pc := 39) (i := 0) d_X5_takeOpening_39 rfl rfl ?_
    refine Tr.callV (pc := 40) (as := []) d_X5_takeOpening_40 s_5_74 ok_X5_goOn rfl rfl (Nat.le_of_ble_eq_true rfl) (Nat.le_of_ble_eq_true rfl) (by decide) (ty_6 hS.1.1) ?_
    refine Tr.imp (Tr.deep (by decide) (sp_X5_goOn_6 hS.1 )) ?_
    rintro M40 _ ⟨h40, r40, rfl, lr40, ur40⟩
    have hS := St.tr hS h40 (by decide) (by decide)
    refine Tr.sc [(0, r40)] rfl ?_
    exact Tr.zret (pc := 43) d_X5_takeOpening_43 rfl (by omega) ⟨hS, _, rfl, by omega, by omega, fun _ => ((St.kp h40 (by decide) (by decide) (by decide)).trans w36.1)⟩
  · refine Tr.aload_n (pc := 8) (i := 0) d_X5_takeOpening_8 rfl rfl ?_
    refine Tr.iconst (pc := 9) d_X5_takeOpening_9 (by decide) ?_
    refine Tr.callV (pc := 10) (as := [_]) d_X5_takeOpening_10 s_5_56 ok_X5_refuse rfl rfl (Nat.le_of_ble_eq_true rfl) (Nat.le_of_ble_eq_true rfl) (by decide) (ty_6 hS.1.1) ?_
    refine Tr.imp (Tr.deep (by decide) (sp_X5_refuse_6_w1 hS.1 ((St.kp hS (by decide) (by decide) (by decide)).trans en_6_2) 1 (by omega))) ?_
    rintro M10 _ ⟨h10, r10, rfl, lr10, ur10⟩
    have hS := St.tr hS h10 (by decide) (by decide)
    refine Tr.sc [(0, r10)] rfl ?_
    exact Tr.zret (pc := 13) d_X5_takeOpening_13 rfl (by omega) ⟨hS, _, rfl, by omega, by omega, fun hq => absurd hq (by omega)⟩
end
/-! 30.18 -/
section
def ws_X5_takeOpening_6_w17 : List (Int × Int) := [(6, 0), (6, 1)]
def as_X5_takeOpening_6_w17 : List Int := []
def q_X5_takeOpening_6_w17 (M0 M' : Mem) (r : Option PV) : Prop := St Tru ws_X5_takeOpening_6_w17 as_X5_takeOpening_6_w17 M0 M' ∧ ∃ v : Int, r = some (0, v) ∧ 0 ≤ v ∧ v ≤ 0
set_option maxRecDepth 100000 in
set_option maxHeartbeats 4000000 in
theorem sp_X5_takeOpening_6_w17 {l : Launch} {K : EC} {M0 : Mem} (hI : In Tru M0) (en_6_2 : rd M0 6 2 = 2) (en_6_6 : rd M0 6 6 = 8) (a1 : Int) (ha1 : 64 ≤ a1 ∧ a1 ≤ 99)  : Tr l K 1 mX5_takeOpening 0 [(0, (2, 6)), (1, (0, a1))] [] M0 (q_X5_takeOpening_6_w17 M0) := by
  have hS : St Tru ws_X5_takeOpening_6_w17 as_X5_takeOpening_6_w17 M0 M0 := St.rf hI
  refine Tr.aload_n (pc := 0) (i := 0) d_X5_takeOpening_0 rfl rfl ?_
  refine Tr.iload_n (pc := 1) (i := 1) d_X5_takeOpening_1 rfl rfl ?_
  refine Tr.callV (pc := 2) (as := [_]) d_X5_takeOpening_2 s_5_77 ok_X5_isSign rfl rfl (Nat.le_of_ble_eq_true rfl) (Nat.le_of_ble_eq_true rfl) (by decide) (ty_6 hS.1.1) ?_
  refine Tr.imp (Tr.deep (by decide) (sp_X5_isSign_6_w1 hS.1 ((St.kp hS (by decide) (by decide) (by decide)).trans en_6_2) a1 (by omega))) ?_
  rintro M2 _ ⟨h2, r2, rfl, lr2, ur2⟩
  have hS := St.tr hS h2 (by decide) (by decide)
  refine Tr.sc [(0, r2)] rfl ?_
  refine Tr.if_ne (pc := 5) (tgt := 14) d_X5_takeOpening_5 rfl (fun c5 => ?_) (fun c5 => ?_)
  · refine Tr.aload_n (pc := 14) (i := 0) d_X5_takeOpening_14 rfl rfl ?_
    refine Tr.getf (pc := 15) d_X5_takeOpening_15 f_5_39 (by decide) (by decide) (ty_6 hS.1.1) ?_
    refine Tr.tp 8 ((St.kp h2 (by decide) (by decide) (by decide)).trans en_6_6) ?_
    refine Tr.bipush (pc := 18) d_X5_takeOpening_18 rfl (by decide) ?_
    refine Tr.icmp_ne (pc := 20) (tgt := 29) d_X5_takeOpening_20 rfl (fun hc => absurd (by omega) hc) (fun _ => ?_)
    refine Tr.aload_n (pc := 23) (i := 0) d_X5_takeOpening_23 rfl rfl ?_
    refine Tr.iconst (pc := 24) d_X5_takeOpening_24 (by decide) ?_
    refine Tr.callV (pc := 25) (as := [_]) d_X5_takeOpening_25 s_5_56 ok_X5_refuse rfl rfl (Nat.le_of_ble_eq_true rfl) (Nat.le_of_ble_eq_true rfl) (by decide) (ty_6 hS.1.1) ?_
    refine Tr.imp (Tr.deep (by decide) (sp_X5_refuse_6_w2 hS.1 ((St.kp hS (by decide) (by decide) (by decide)).trans en_6_2) 5 (by omega))) ?_
    rintro M25 _ ⟨h25, r25, rfl, lr25, ur25⟩
    have hS := St.tr hS h25 (by decide) (by decide)
    refine Tr.sc [(0, r25)] rfl ?_
    exact Tr.zret (pc := 28) d_X5_takeOpening_28 rfl (by omega) ⟨hS, _, rfl, by omega, by omega⟩
  · refine Tr.aload_n (pc := 8) (i := 0) d_X5_takeOpening_8 rfl rfl ?_
    refine Tr.iconst (pc := 9) d_X5_takeOpening_9 (by decide) ?_
    refine Tr.callV (pc := 10) (as := [_]) d_X5_takeOpening_10 s_5_56 ok_X5_refuse rfl rfl (Nat.le_of_ble_eq_true rfl) (Nat.le_of_ble_eq_true rfl) (by decide) (ty_6 hS.1.1) ?_
    refine Tr.imp (Tr.deep (by decide) (sp_X5_refuse_6_w1 hS.1 ((St.kp hS (by decide) (by decide) (by decide)).trans en_6_2) 1 (by omega))) ?_
    rintro M10 _ ⟨h10, r10, rfl, lr10, ur10⟩
    have hS := St.tr hS h10 (by decide) (by decide)
    refine Tr.sc [(0, r10)] rfl ?_
    exact Tr.zret (pc := 13) d_X5_takeOpening_13 rfl (by omega) ⟨hS, _, rfl, by omega, by omega⟩

def ws_X4_emit_35_w8 : List (Int × Int) := [(35, 11)]
def as_X4_emit_35_w8 : List Int := [44, 45]
def q_X4_emit_35_w8 (M0 M' : Mem) (r : Option PV) : Prop := St Tru ws_X4_emit_35_w8 as_X4_emit_35_w8 M0 M' ∧ r = none
set_option maxRecDepth 100000 in
set_option maxHeartbeats 4000000 in
theorem sp_X4_emit_35_w8 {l : Launch} {K : EC} {M0 : Mem} (hI : In Tru M0)  (a1 : Int) (ha1 : 0 ≤ a1 ∧ a1 ≤ 15) (a2 : Int) (ha2 : 0 ≤ a2 ∧ a2 ≤ 0) (hp0 : (a1 = 1 → 0 ≤ a2 ∧ a2 ≤ 2) ∧ (a1 = 2 ∨ a1 = 4 → 0 ≤ a2 ∧ a2 ≤ 5)) : Tr l K 0 mX4_emit 0 [(0, (2, 35)), (1, (0, a1)), (2, (0, a2))] [] M0 (q_X4_emit_35_w8 M0) := by
  have hS : St Tru ws_X4_emit_35_w8 as_X4_emit_35_w8 M0 M0 := St.rf hI
  refine Tr.aload_n (pc := 0) (i := 0) d_X4_emit_0 rfl rfl ?_
  refine Tr.getf (pc := 1) d_X4_emit_1 f_4_49 (by decide) (by decide) (ty_35 hS.1.1) ?_
  refine Tr.gen (P := fun v => 0 ≤ v ∧ v ≤ 900) (ir_35_11 hS.1.2.1) (fun r1 er1 br1 => ?_)
  refine Tr.sipush (pc := 4) d_X4_emit_4 rfl (by decide) ?_
  refine Tr.icmp_ge (pc := 7) (tgt := 40) d_X4_emit_7 rfl (fun c7 => ?_) (fun c7 => ?_)
  · exact Tr.vret (pc := 40) d_X4_emit_40 rfl ⟨hS, rfl⟩
  · refine Tr.aload_n (pc := 10) (i := 0) d_X4_emit_10 rfl rfl ?_
    refine Tr.getf (pc := 11) d_X4_emit_11 f_4_36 (by decide) (by decide) (ty_35 hS.1.1) ?_
    refine Tr.tp 44 (fx_35_9 hS.1.1) ?_
    refine Tr.aload_n (pc := 14) (i := 0) d_X4_emit_14 rfl rfl ?_
    refine Tr.getf (pc := 15) d_X4_emit_15 f_4_49 (by decide) (by decide) (ty_35 hS.1.1) ?_
    refine Tr.tp r1 er1 ?_
    refine Tr.iload_n (pc := 18) (i := 1) d_X4_emit_18 rfl rfl ?_
    refine Tr.iast (pc := 19) d_X4_emit_19 (ty_44 hS.1.1) (by omega) (by omega) ?_
    refine Tr.aload_n (pc := 20) (i := 0) d_X4_emit_20 rfl rfl ?_
    refine Tr.getf (pc := 21) d_X4_emit_21 f_4_39 (by decide) (by decide) (show mT (wr M0 44 r1 a1) 35 = (4, 13) from ty_35 (M := M0) hS.1.1) ?_
    refine Tr.tp 45 ((rd_wb _ rfl).trans (fx_35_10 (M := M0) hS.1.1)) ?_
    refine Tr.aload_n (pc := 24) (i := 0) d_X4_emit_24 rfl rfl ?_
    refine Tr.getf (pc := 25) d_X4_emit_25 f_4_49 (by decide) (by decide) (show mT (wr M0 44 r1 a1) 35 = (4, 13) from ty_35 (M := M0) hS.1.1) ?_
    refine Tr.tp r1 ((rd_wb _ rfl).trans er1) ?_
    refine Tr.iload_n (pc := 28) (i := 2) d_X4_emit_28 rfl rfl ?_
    refine Tr.iastS (pc := 29) (P := St Tru ws_X4_emit_35_w8 as_X4_emit_35_w8 M0) d_X4_emit_29 (show mT (wr M0 44 r1 a1) 45 = (20, 900) from ty_45 (M := M0) hS.1.1) (by omega) (by omega) (St.two (x := 44) (y := 45) 35 36 hS (by decide) hp0 (by decide) (by decide) rfl (by decide +kernel) (by decide +kernel) (by decide +kernel) (by omega) rfl (by decide +kernel) (by decide +kernel) (by decide +kernel) (by omega) trivial) (fun M29 hS w29 => ?_)
    refine Tr.aload_n (pc := 30) (i := 0) d_X4_emit_30 rfl rfl ?_
    refine Tr.dup (pc := 31) d_X4_emit_31 ne21 ?_
    refine Tr.getf (pc := 32) d_X4_emit_32 f_4_49 (by decide) (by decide) (ty_35 hS.1.1) ?_
    refine Tr.tp r1 ((Wr.b w29 rfl).trans ((rd_wb _ rfl).trans er1)) ?_
    refine Tr.iconst (pc := 35) d_X4_emit_35 (by decide) ?_
    refine Tr.iadd (pc := 36) d_X4_emit_36 ?_
    refine Tr.tp (r1 + 1) ((w32_id (by omega)).trans (by omega)) ?_
    refine Tr.putfS (pc := 37) (P := St Tru ws_X4_emit_35_w8 as_X4_emit_35_w8 M0) d_X4_emit_37 f_4_49 (by decide) (by decide) (ty_35 hS.1.1) (st_35_11 hS (by decide) (by omega) trivial) (fun M37 hS w37 => ?_)
    exact Tr.vret (pc := 40) d_X4_emit_40 rfl ⟨hS, rfl⟩

def ws_X4_emit_35_w9 : List (Int × Int) := [(35, 11)]
def as_X4_emit_35_w9 : List Int := [44, 45]
def q_X4_emit_35_w9 (M0 M' : Mem) (r : Option PV) : Prop := St Tru ws_X4_emit_35_w9 as_X4_emit_35_w9 M0 M' ∧ r = none
set_option maxRecDepth 100000 in
set_option maxHeartbeats 4000000 in
theorem sp_X4_emit_35_w9 {l : Launch} {K : EC} {M0 : Mem} (hI : In Tru M0)  (a1 : Int) (ha1 : 16 ≤ a1 ∧ a1 ≤ 16) (a2 : Int) (ha2 : 0 ≤ a2 ∧ a2 ≤ 0) (hp0 : (a1 = 1 → 0 ≤ a2 ∧ a2 ≤ 2) ∧ (a1 = 2 ∨ a1 = 4 → 0 ≤ a2 ∧ a2 ≤ 5)) : Tr l K 0 mX4_emit 0 [(0, (2, 35)), (1, (0, a1)), (2, (0, a2))] [] M0 (q_X4_emit_35_w9 M0) := by
  have hS : St Tru ws_X4_emit_35_w9 as_X4_emit_35_w9 M0 M0 := St.rf hI
  refine Tr.aload_n (pc := 0) (i := 0) d_X4_emit_0 rfl rfl ?_
  refine Tr.getf (pc := 1) d_X4_emit_1 f_4_49 (by decide) (by decide) (ty_35 hS.1.1) ?_
  refine Tr.gen (P := fun v => 0 ≤ v ∧ v ≤ 900) (ir_35_11 hS.1.2.1) (fun r1 er1 br1 => ?_)
  refine Tr.sipush (pc := 4) d_X4_emit_4 rfl (by decide) ?_
  refine Tr.icmp_ge (pc := 7) (tgt := 40) d_X4_emit_7 rfl (fun c7 => ?_) (fun c7 => ?_)
  · exact Tr.vret (pc := 40) d_X4_emit_40 rfl ⟨hS, rfl⟩
  · refine Tr.aload_n (pc := 10) (i := 0) d_X4_emit_10 rfl rfl ?_
    refine Tr.getf (pc := 11) d_X4_emit_11 f_4_36 (by decide) (by decide) (ty_35 hS.1.1) ?_
    refine Tr.tp 44 (fx_35_9 hS.1.1) ?_
    refine Tr.aload_n (pc := 14) (i := 0) d_X4_emit_14 rfl rfl ?_
    refine Tr.getf (pc := 15) d_X4_emit_15 f_4_49 (by decide) (by decide) (ty_35 hS.1.1) ?_
    refine Tr.tp r1 er1 ?_
    refine Tr.iload_n (pc := 18) (i := 1) d_X4_emit_18 rfl rfl ?_
    refine Tr.iast (pc := 19) d_X4_emit_19 (ty_44 hS.1.1) (by omega) (by omega) ?_
    refine Tr.aload_n (pc := 20) (i := 0) d_X4_emit_20 rfl rfl ?_
    refine Tr.getf (pc := 21) d_X4_emit_21 f_4_39 (by decide) (by decide) (show mT (wr M0 44 r1 a1) 35 = (4, 13) from ty_35 (M := M0) hS.1.1) ?_
    refine Tr.tp 45 ((rd_wb _ rfl).trans (fx_35_10 (M := M0) hS.1.1)) ?_
    refine Tr.aload_n (pc := 24) (i := 0) d_X4_emit_24 rfl rfl ?_
    refine Tr.getf (pc := 25) d_X4_emit_25 f_4_49 (by decide) (by decide) (show mT (wr M0 44 r1 a1) 35 = (4, 13) from ty_35 (M := M0) hS.1.1) ?_
    refine Tr.tp r1 ((rd_wb _ rfl).trans er1) ?_
    refine Tr.iload_n (pc := 28) (i := 2) d_X4_emit_28 rfl rfl ?_
    refine Tr.iastS (pc := 29) (P := St Tru ws_X4_emit_35_w9 as_X4_emit_35_w9 M0) d_X4_emit_29 (show mT (wr M0 44 r1 a1) 45 = (20, 900) from ty_45 (M := M0) hS.1.1) (by omega) (by omega) (St.two (x := 44) (y := 45) 35 36 hS (by decide) hp0 (by decide) (by decide) rfl (by decide +kernel) (by decide +kernel) (by decide +kernel) (by omega) rfl (by decide +kernel) (by decide +kernel) (by decide +kernel) (by omega) trivial) (fun M29 hS w29 => ?_)
    refine Tr.aload_n (pc := 30) (i := 0) d_X4_emit_30 rfl rfl ?_
    refine Tr.dup (pc := 31) d_X4_emit_31 ne21 ?_
    refine Tr.getf (pc := 32) d_X4_emit_32 f_4_49 (by decide) (by decide) (ty_35 hS.1.1) ?_
    refine Tr.tp r1 ((Wr.b w29 rfl).trans ((rd_wb _ rfl).trans er1)) ?_
    refine Tr.iconst (pc := 35) d_X4_emit_35 (by decide) ?_
    refine Tr.iadd (pc := 36) d_X4_emit_36 ?_
    refine Tr.tp (r1 + 1) ((w32_id (by omega)).trans (by omega)) ?_
    refine Tr.putfS (pc := 37) (P := St Tru ws_X4_emit_35_w9 as_X4_emit_35_w9 M0) d_X4_emit_37 f_4_49 (by decide) (by decide) (ty_35 hS.1.1) (st_35_11 hS (by decide) (by omega) trivial) (fun M37 hS w37 => ?_)
    exact Tr.vret (pc := 40) d_X4_emit_40 rfl ⟨hS, rfl⟩

def ws_X4_emit_35_w10 : List (Int × Int) := [(35, 11)]
def as_X4_emit_35_w10 : List Int := [44, 45]
def q_X4_emit_35_w10 (M0 M' : Mem) (r : Option PV) : Prop := St Tru ws_X4_emit_35_w10 as_X4_emit_35_w10 M0 M' ∧ r = none
set_option maxRecDepth 100000 in
set_option maxHeartbeats 4000000 in
theorem sp_X4_emit_35_w10 {l : Launch} {K : EC} {M0 : Mem} (hI : In Tru M0)  (a1 : Int) (ha1 : 17 ≤ a1 ∧ a1 ≤ 17) (a2 : Int) (ha2 : 0 ≤ a2 ∧ a2 ≤ 0) (hp0 : (a1 = 1 → 0 ≤ a2 ∧ a2 ≤ 2) ∧ (a1 = 2 ∨ a1 = 4 → 0 ≤ a2 ∧ a2 ≤ 5)) : Tr l K 0 mX4_emit 0 [(0, (2, 35)), (1, (0, a1)), (2, (0, a2))] [] M0 (q_X4_emit_35_w10 M0) := by
  have hS : St Tru ws_X4_emit_35_w10 as_X4_emit_35_w10 M0 M0 := St.rf hI
  refine Tr.aload_n (pc := 0) (i := 0) d_X4_emit_0 rfl rfl ?_
  refine Tr.getf (pc := 1) d_X4_emit_1 f_4_49 (by decide) (by decide) (ty_35 hS.1.1) ?_
  refine Tr.gen (P := fun v => 0 ≤ v ∧ v ≤ 900) (ir_35_11 hS.1.2.1) (fun r1 er1 br1 => ?_)
  refine Tr.sipush (pc := 4) d_X4_emit_4 rfl (by decide) ?_
  refine Tr.icmp_ge (pc := 7) (tgt := 40) d_X4_emit_7 rfl (fun c7 => ?_) (fun c7 => ?_)
  · exact Tr.vret (pc := 40) d_X4_emit_40 rfl ⟨hS, rfl⟩
  · refine Tr.aload_n (pc := 10) (i := 0) d_X4_emit_10 rfl rfl ?_
    refine Tr.getf (pc := 11) d_X4_emit_11 f_4_36 (by decide) (by decide) (ty_35 hS.1.1) ?_
    refine Tr.tp 44 (fx_35_9 hS.1.1) ?_
    refine Tr.aload_n (pc := 14) (i := 0) d_X4_emit_14 rfl rfl ?_
    refine Tr.getf (pc := 15) d_X4_emit_15 f_4_49 (by decide) (by decide) (ty_35 hS.1.1) ?_
    refine Tr.tp r1 er1 ?_
    refine Tr.iload_n (pc := 18) (i := 1) d_X4_emit_18 rfl rfl ?_
    refine Tr.iast (pc := 19) d_X4_emit_19 (ty_44 hS.1.1) (by omega) (by omega) ?_
    refine Tr.aload_n (pc := 20) (i := 0) d_X4_emit_20 rfl rfl ?_
    refine Tr.getf (pc := 21) d_X4_emit_21 f_4_39 (by decide) (by decide) (show mT (wr M0 44 r1 a1) 35 = (4, 13) from ty_35 (M := M0) hS.1.1) ?_
    refine Tr.tp 45 ((rd_wb _ rfl).trans (fx_35_10 (M := M0) hS.1.1)) ?_
    refine Tr.aload_n (pc := 24) (i := 0) d_X4_emit_24 rfl rfl ?_
    refine Tr.getf (pc := 25) d_X4_emit_25 f_4_49 (by decide) (by decide) (show mT (wr M0 44 r1 a1) 35 = (4, 13) from ty_35 (M := M0) hS.1.1) ?_
    refine Tr.tp r1 ((rd_wb _ rfl).trans er1) ?_
    refine Tr.iload_n (pc := 28) (i := 2) d_X4_emit_28 rfl rfl ?_
    refine Tr.iastS (pc := 29) (P := St Tru ws_X4_emit_35_w10 as_X4_emit_35_w10 M0) d_X4_emit_29 (show mT (wr M0 44 r1 a1) 45 = (20, 900) from ty_45 (M := M0) hS.1.1) (by omega) (by omega) (St.two (x := 44) (y := 45) 35 36 hS (by decide) hp0 (by decide) (by decide) rfl (by decide +kernel) (by decide +kernel) (by decide +kernel) (by omega) rfl (by decide +kernel) (by decide +kernel) (by decide +kernel) (by omega) trivial) (fun M29 hS w29 => ?_)
    refine Tr.aload_n (pc := 30) (i := 0) d_X4_emit_30 rfl rfl ?_
    refine Tr.dup (pc := 31) d_X4_emit_31 ne21 ?_
    refine Tr.getf (pc := 32) d_X4_emit_32 f_4_49 (by decide) (by decide) (ty_35 hS.1.1) ?_
    refine Tr.tp r1 ((Wr.b w29 rfl).trans ((rd_wb _ rfl).trans er1)) ?_
    refine Tr.iconst (pc := 35) d_X4_emit_35 (by decide) ?_
    refine Tr.iadd (pc := 36) d_X4_emit_36 ?_
    refine Tr.tp (r1 + 1) ((w32_id (by omega)).trans (by omega)) ?_
    refine Tr.putfS (pc := 37) (P := St Tru ws_X4_emit_35_w10 as_X4_emit_35_w10 M0) d_X4_emit_37 f_4_49 (by decide) (by decide) (ty_35 hS.1.1) (st_35_11 hS (by decide) (by omega) trivial) (fun M37 hS w37 => ?_)
    exact Tr.vret (pc := 40) d_X4_emit_40 rfl ⟨hS, rfl⟩

def ws_X5_takeSign_6_w2 : List (Int × Int) := [(6, 0), (6, 1), (6, 5)]
def as_X5_takeSign_6_w2 : List Int := []
def q_X5_takeSign_6_w2 (M0 M' : Mem) (r : Option PV) : Prop := St Tru ws_X5_takeSign_6_w2 as_X5_takeSign_6_w2 M0 M' ∧ ∃ v : Int, r = some (0, v) ∧ 0 ≤ v ∧ v ≤ 1
set_option maxRecDepth 100000 in
set_option maxHeartbeats 4000000 in
theorem sp_X5_takeSign_6_w2 {l : Launch} {K : EC} {M0 : Mem} (hI : In Tru M0) (en_6_2 : rd M0 6 2 = 2) (a1 : Int) (ha1 : 64 ≤ a1 ∧ a1 ≤ 99)  : Tr l K 1 mX5_takeSign 0 [(0, (2, 6)), (1, (0, a1))] [] M0 (q_X5_takeSign_6_w2 M0) := by
  have hS : St Tru ws_X5_takeSign_6_w2 as_X5_takeSign_6_w2 M0 M0 := St.rf hI
  refine Tr.aload_n (pc := 0) (i := 0) d_X5_takeSign_0 rfl rfl ?_
  refine Tr.iload_n (pc := 1) (i := 1) d_X5_takeSign_1 rfl rfl ?_
  refine Tr.callV (pc := 2) (as := [_]) d_X5_takeSign_2 s_5_77 ok_X5_isSign rfl rfl (Nat.le_of_ble_eq_true rfl) (Nat.le_of_ble_eq_true rfl) (by decide) (ty_6 hS.1.1) ?_
  refine Tr.imp (Tr.deep (by decide) (sp_X5_isSign_6_w1 hS.1 ((St.kp hS (by decide) (by decide) (by decide)).trans en_6_2) a1 (by omega))) ?_
  rintro M2 _ ⟨h2, r2, rfl, lr2, ur2⟩
  have hS := St.tr hS h2 (by decide) (by decide)
  refine Tr.sc [(0, r2)] rfl ?_
  refine Tr.if_eq (pc := 5) (tgt := 15) d_X5_takeSign_5 rfl (fun c5 => ?_) (fun c5 => ?_)
  · refine Tr.aload_n (pc := 15) (i := 0) d_X5_takeSign_15 rfl rfl ?_
    refine Tr.iconst (pc := 16) d_X5_takeSign_16 (by decide) ?_
    refine Tr.callV (pc := 17) (as := [_]) d_X5_takeSign_17 s_5_56 ok_X5_refuse rfl rfl (Nat.le_of_ble_eq_true rfl) (Nat.le_of_ble_eq_true rfl) (by decide) (ty_6 hS.1.1) ?_
    refine Tr.imp (Tr.deep (by decide) (sp_X5_refuse_6_w1 hS.1 ((St.kp hS (by decide) (by decide) (by decide)).trans en_6_2) 1 (by omega))) ?_
    rintro M17 _ ⟨h17, r17, rfl, lr17, ur17⟩
    have hS := St.tr hS h17 (by decide) (by decide)
    refine Tr.sc [(0, r17)] rfl ?_
    exact Tr.zret (pc := 20) d_X5_takeSign_20 rfl (by omega) ⟨hS, _, rfl, by omega, by omega⟩
  · refine Tr.aload_n (pc := 8) (i := 0) d_X5_takeSign_8 rfl rfl ?_
    refine Tr.callV (pc := 9) (as := []) d_X5_takeSign_9 s_5_74 ok_X5_goOn rfl rfl (Nat.le_of_ble_eq_true rfl) (Nat.le_of_ble_eq_true rfl) (by decide) (ty_6 hS.1.1) ?_
    refine Tr.imp (Tr.deep (by decide) (sp_X5_goOn_6 hS.1 )) ?_
    rintro M9 _ ⟨h9, r9, rfl, lr9, ur9⟩
    have hS := St.tr hS h9 (by decide) (by decide)
    refine Tr.sc [(0, r9)] rfl ?_
    refine Tr.goto (pc := 12) (tgt := 20) d_X5_takeSign_12 rfl ?_
    exact Tr.zret (pc := 20) d_X5_takeSign_20 rfl (by omega) ⟨hS, _, rfl, by omega, by omega⟩

def ws_X5_takeClosing_6_w8 : List (Int × Int) := [(6, 0), (6, 1), (6, 5), (6, 6)]
def as_X5_takeClosing_6_w8 : List Int := []
def q_X5_takeClosing_6_w8 (M0 M' : Mem) (r : Option PV) : Prop := St Tru ws_X5_takeClosing_6_w8 as_X5_takeClosing_6_w8 M0 M' ∧ ∃ v : Int, r = some (0, v) ∧ 0 ≤ v ∧ v ≤ 1 ∧ ((1 ≤ v ∧ v ≤ 1) → rd M' 6 6 = 7)
set_option maxRecDepth 100000 in
set_option maxHeartbeats 4000000 in
theorem sp_X5_takeClosing_6_w8 {l : Launch} {K : EC} {M0 : Mem} (hI : In Tru M0) (en_6_2 : rd M0 6 2 = 2) (en_6_6 : rd M0 6 6 = 8) (a1 : Int) (ha1 : 64 ≤ a1 ∧ a1 ≤ 99)  : Tr l K 2 mX5_takeClosing 0 [(0, (2, 6)), (1, (0, a1))] [] M0 (q_X5_takeClosing_6_w8 M0) := by
  have hS : St Tru ws_X5_takeClosing_6_w8 as_X5_takeClosing_6_w8 M0 M0 := St.rf hI
  refine Tr.aload_n (pc := 0) (i := 0) d_X5_takeClosing_0 rfl rfl ?_
  refine Tr.iload_n (pc := 1) (i := 1) d_X5_takeClosing_1 rfl rfl ?_
  refine Tr.callV (pc := 2) (as := [_]) d_X5_takeClosing_2 s_5_81 ok_X5_takeSign rfl rfl (Nat.le_of_ble_eq_true rfl) (Nat.le_of_ble_eq_true rfl) (by decide) (ty_6 hS.1.1) ?_
  refine Tr.imp (Tr.deep (by decide) (sp_X5_takeSign_6_w2 hS.1 ((St.kp hS (by decide) (by decide) (by decide)).trans en_6_2) a1 (by omega))) ?_
  rintro M2 _ ⟨h2, r2, rfl, lr2, ur2⟩
  have hS := St.tr hS h2 (by decide) (by decide)
  refine Tr.sc [(0, r2)] rfl ?_
  refine Tr.if_ne (pc := 5) (tgt := 10) d_X5_takeClosing_5 rfl (fun c5 => ?_) (fun c5 => ?_)
  · refine Tr.aload_n (pc := 10) (i := 0) d_X5_takeClosing_10 rfl rfl ?_
    refine Tr.dup (pc := 11) d_X5_takeClosing_11 ne21 ?_
    refine Tr.getf (pc := 12) d_X5_takeClosing_12 f_5_39 (by decide) (by decide) (ty_6 hS.1.1) ?_
    refine Tr.tp 8 ((St.kp h2 (by decide) (by decide) (by decide)).trans en_6_6) ?_
    refine Tr.iconst (pc := 15) d_X5_takeClosing_15 (by decide) ?_
    refine Tr.isub (pc := 16) d_X5_takeClosing_16 ?_
    refine Tr.tp 7 (by decide) ?_
    refine Tr.putfS (pc := 17) (P := St Tru ws_X5_takeClosing_6_w8 as_X5_takeClosing_6_w8 M0) d_X5_takeClosing_17 f_5_39 (by decide) (by decide) (ty_6 hS.1.1) (st_6_6 hS (by decide) (by omega) trivial) (fun M17 hS w17 => ?_)
    refine Tr.iconst (pc := 20) d_X5_takeClosing_20 (by decide) ?_
    exact Tr.zret (pc := 21) d_X5_takeClosing_21 rfl (by omega) ⟨hS, _, rfl, by omega, by omega, fun _ => w17.1⟩
  · refine Tr.iconst (pc := 8) d_X5_takeClosing_8 (by decide) ?_
    exact Tr.zret (pc := 9) d_X5_takeClosing_9 rfl (by omega) ⟨hS, _, rfl, by omega, by omega, fun hq => absurd hq (by omega)⟩

def ws_X5_takeClosing_6_w9 : List (Int × Int) := [(6, 0), (6, 1), (6, 5), (6, 6)]
def as_X5_takeClosing_6_w9 : List Int := []
def q_X5_takeClosing_6_w9 (M0 M' : Mem) (r : Option PV) : Prop := St Tru ws_X5_takeClosing_6_w9 as_X5_takeClosing_6_w9 M0 M' ∧ ∃ v : Int, r = some (0, v) ∧ 0 ≤ v ∧ v ≤ 1 ∧ ((1 ≤ v ∧ v ≤ 1) → rd M' 6 6 = 6)
set_option maxRecDepth 100000 in
set_option maxHeartbeats 4000000 in
theorem sp_X5_takeClosing_6_w9 {l : Launch} {K : EC} {M0 : Mem} (hI : In Tru M0) (en_6_2 : rd M0 6 2 = 2) (en_6_6 : rd M0 6 6 = 7) (a1 : Int) (ha1 : 64 ≤ a1 ∧ a1 ≤ 99)  : Tr l K 2 mX5_takeClosing 0 [(0, (2, 6)), (1, (0, a1))] [] M0 (q_X5_takeClosing_6_w9 M0) := by
  have hS : St Tru ws_X5_takeClosing_6_w9 as_X5_takeClosing_6_w9 M0 M0 := St.rf hI
  refine Tr.aload_n (pc := 0) (i := 0) d_X5_takeClosing_0 rfl rfl ?_
  refine Tr.iload_n (pc := 1) (i := 1) d_X5_takeClosing_1 rfl rfl ?_
  refine Tr.callV (pc := 2) (as := [_]) d_X5_takeClosing_2 s_5_81 ok_X5_takeSign rfl rfl (Nat.le_of_ble_eq_true rfl) (Nat.le_of_ble_eq_true rfl) (by decide) (ty_6 hS.1.1) ?_
  refine Tr.imp (Tr.deep (by decide) (sp_X5_takeSign_6_w2 hS.1 ((St.kp hS (by decide) (by decide) (by decide)).trans en_6_2) a1 (by omega))) ?_
  rintro M2 _ ⟨h2, r2, rfl, lr2, ur2⟩
  have hS := St.tr hS h2 (by decide) (by decide)
  refine Tr.sc [(0, r2)] rfl ?_
  refine Tr.if_ne (pc := 5) (tgt := 10) d_X5_takeClosing_5 rfl (fun c5 => ?_) (fun c5 => ?_)
  · refine Tr.aload_n (pc := 10) (i := 0) d_X5_takeClosing_10 rfl rfl ?_
    refine Tr.dup (pc := 11) d_X5_takeClosing_11 ne21 ?_
    refine Tr.getf (pc := 12) d_X5_takeClosing_12 f_5_39 (by decide) (by decide) (ty_6 hS.1.1) ?_
    refine Tr.tp 7 ((St.kp h2 (by decide) (by decide) (by decide)).trans en_6_6) ?_
    refine Tr.iconst (pc := 15) d_X5_takeClosing_15 (by decide) ?_
    refine Tr.isub (pc := 16) d_X5_takeClosing_16 ?_
    refine Tr.tp 6 (by decide) ?_
    refine Tr.putfS (pc := 17) (P := St Tru ws_X5_takeClosing_6_w9 as_X5_takeClosing_6_w9 M0) d_X5_takeClosing_17 f_5_39 (by decide) (by decide) (ty_6 hS.1.1) (st_6_6 hS (by decide) (by omega) trivial) (fun M17 hS w17 => ?_)
    refine Tr.iconst (pc := 20) d_X5_takeClosing_20 (by decide) ?_
    exact Tr.zret (pc := 21) d_X5_takeClosing_21 rfl (by omega) ⟨hS, _, rfl, by omega, by omega, fun _ => w17.1⟩
  · refine Tr.iconst (pc := 8) d_X5_takeClosing_8 (by decide) ?_
    exact Tr.zret (pc := 9) d_X5_takeClosing_9 rfl (by omega) ⟨hS, _, rfl, by omega, by omega, fun hq => absurd hq (by omega)⟩

def ws_X5_takeClosing_6_w10 : List (Int × Int) := [(6, 0), (6, 1), (6, 5), (6, 6)]
def as_X5_takeClosing_6_w10 : List Int := []
def q_X5_takeClosing_6_w10 (M0 M' : Mem) (r : Option PV) : Prop := St Tru ws_X5_takeClosing_6_w10 as_X5_takeClosing_6_w10 M0 M' ∧ ∃ v : Int, r = some (0, v) ∧ 0 ≤ v ∧ v ≤ 1 ∧ ((1 ≤ v ∧ v ≤ 1) → rd M' 6 6 = 5)
set_option maxRecDepth 100000 in
set_option maxHeartbeats 4000000 in
theorem sp_X5_takeClosing_6_w10 {l : Launch} {K : EC} {M0 : Mem} (hI : In Tru M0) (en_6_2 : rd M0 6 2 = 2) (en_6_6 : rd M0 6 6 = 6) (a1 : Int) (ha1 : 64 ≤ a1 ∧ a1 ≤ 99)  : Tr l K 2 mX5_takeClosing 0 [(0, (2, 6)), (1, (0, a1))] [] M0 (q_X5_takeClosing_6_w10 M0) := by
  have hS : St Tru ws_X5_takeClosing_6_w10 as_X5_takeClosing_6_w10 M0 M0 := St.rf hI
  refine Tr.aload_n (pc := 0) (i := 0) d_X5_takeClosing_0 rfl rfl ?_
  refine Tr.iload_n (pc := 1) (i := 1) d_X5_takeClosing_1 rfl rfl ?_
  refine Tr.callV (pc := 2) (as := [_]) d_X5_takeClosing_2 s_5_81 ok_X5_takeSign rfl rfl (Nat.le_of_ble_eq_true rfl) (Nat.le_of_ble_eq_true rfl) (by decide) (ty_6 hS.1.1) ?_
  refine Tr.imp (Tr.deep (by decide) (sp_X5_takeSign_6_w2 hS.1 ((St.kp hS (by decide) (by decide) (by decide)).trans en_6_2) a1 (by omega))) ?_
  rintro M2 _ ⟨h2, r2, rfl, lr2, ur2⟩
  have hS := St.tr hS h2 (by decide) (by decide)
  refine Tr.sc [(0, r2)] rfl ?_
  refine Tr.if_ne (pc := 5) (tgt := 10) d_X5_takeClosing_5 rfl (fun c5 => ?_) (fun c5 => ?_)
  · refine Tr.aload_n (pc := 10) (i := 0) d_X5_takeClosing_10 rfl rfl ?_
    refine Tr.dup (pc := 11) d_X5_takeClosing_11 ne21 ?_
    refine Tr.getf (pc := 12) d_X5_takeClosing_12 f_5_39 (by decide) (by decide) (ty_6 hS.1.1) ?_
    refine Tr.tp 6 ((St.kp h2 (by decide) (by decide) (by decide)).trans en_6_6) ?_
    refine Tr.iconst (pc := 15) d_X5_takeClosing_15 (by decide) ?_
    refine Tr.isub (pc := 16) d_X5_takeClosing_16 ?_
    refine Tr.tp 5 (by decide) ?_
    refine Tr.putfS (pc := 17) (P := St Tru ws_X5_takeClosing_6_w10 as_X5_takeClosing_6_w10 M0) d_X5_takeClosing_17 f_5_39 (by decide) (by decide) (ty_6 hS.1.1) (st_6_6 hS (by decide) (by omega) trivial) (fun M17 hS w17 => ?_)
    refine Tr.iconst (pc := 20) d_X5_takeClosing_20 (by decide) ?_
    exact Tr.zret (pc := 21) d_X5_takeClosing_21 rfl (by omega) ⟨hS, _, rfl, by omega, by omega, fun _ => w17.1⟩
  · refine Tr.iconst (pc := 8) d_X5_takeClosing_8 (by decide) ?_
    exact Tr.zret (pc := 9) d_X5_takeClosing_9 rfl (by omega) ⟨hS, _, rfl, by omega, by omega, fun hq => absurd hq (by omega)⟩

def ws_X5_takeClosing_6_w11 : List (Int × Int) := [(6, 0), (6, 1), (6, 5), (6, 6)]
def as_X5_takeClosing_6_w11 : List Int := []
def q_X5_takeClosing_6_w11 (M0 M' : Mem) (r : Option PV) : Prop := St Tru ws_X5_takeClosing_6_w11 as_X5_takeClosing_6_w11 M0 M' ∧ ∃ v : Int, r = some (0, v) ∧ 0 ≤ v ∧ v ≤ 1 ∧ ((1 ≤ v ∧ v ≤ 1) → rd M' 6 6 = 4)
set_option maxRecDepth 100000 in
set_option maxHeartbeats 4000000 in
theorem sp_X5_takeClosing_6_w11 {l : Launch} {K : EC} {M0 : Mem} (hI : In Tru M0) (en_6_2 : rd M0 6 2 = 2) (en_6_6 : rd M0 6 6 = 5) (a1 : Int) (ha1 : 64 ≤ a1 ∧ a1 ≤ 99)  : Tr l K 2 mX5_takeClosing 0 [(0, (2, 6)), (1, (0, a1))] [] M0 (q_X5_takeClosing_6_w11 M0) := by
  have hS : St Tru ws_X5_takeClosing_6_w11 as_X5_takeClosing_6_w11 M0 M0 := St.rf hI
  refine Tr.aload_n (pc := 0) (i := 0) d_X5_takeClosing_0 rfl rfl ?_
  refine Tr.iload_n (pc := 1) (i := 1) d_X5_takeClosing_1 rfl rfl ?_
  refine Tr.callV (pc := 2) (as := [_]) d_X5_takeClosing_2 s_5_81 ok_X5_takeSign rfl rfl (Nat.le_of_ble_eq_true rfl) (Nat.le_of_ble_eq_true rfl) (by decide) (ty_6 hS.1.1) ?_
  refine Tr.imp (Tr.deep (by decide) (sp_X5_takeSign_6_w2 hS.1 ((St.kp hS (by decide) (by decide) (by decide)).trans en_6_2) a1 (by omega))) ?_
  rintro M2 _ ⟨h2, r2, rfl, lr2, ur2⟩
  have hS := St.tr hS h2 (by decide) (by decide)
  refine Tr.sc [(0, r2)] rfl ?_
  refine Tr.if_ne (pc := 5) (tgt := 10) d_X5_takeClosing_5 rfl (fun c5 => ?_) (fun c5 => ?_)
  · refine Tr.aload_n (pc := 10) (i := 0) d_X5_takeClosing_10 rfl rfl ?_
    refine Tr.dup (pc := 11) d_X5_takeClosing_11 ne21 ?_
    refine Tr.getf (pc := 12) d_X5_takeClosing_12 f_5_39 (by decide) (by decide) (ty_6 hS.1.1) ?_
    refine Tr.tp 5 ((St.kp h2 (by decide) (by decide) (by decide)).trans en_6_6) ?_
    refine Tr.iconst (pc := 15) d_X5_takeClosing_15 (by decide) ?_
    refine Tr.isub (pc := 16) d_X5_takeClosing_16 ?_
    refine Tr.tp 4 (by decide) ?_
    refine Tr.putfS (pc := 17) (P := St Tru ws_X5_takeClosing_6_w11 as_X5_takeClosing_6_w11 M0) d_X5_takeClosing_17 f_5_39 (by decide) (by decide) (ty_6 hS.1.1) (st_6_6 hS (by decide) (by omega) trivial) (fun M17 hS w17 => ?_)
    refine Tr.iconst (pc := 20) d_X5_takeClosing_20 (by decide) ?_
    exact Tr.zret (pc := 21) d_X5_takeClosing_21 rfl (by omega) ⟨hS, _, rfl, by omega, by omega, fun _ => w17.1⟩
  · refine Tr.iconst (pc := 8) d_X5_takeClosing_8 (by decide) ?_
    exact Tr.zret (pc := 9) d_X5_takeClosing_9 rfl (by omega) ⟨hS, _, rfl, by omega, by omega, fun hq => absurd hq (by omega)⟩

def ws_X5_takeClosing_6_w12 : List (Int × Int) := [(6, 0), (6, 1), (6, 5), (6, 6)]
def as_X5_takeClosing_6_w12 : List Int := []
def q_X5_takeClosing_6_w12 (M0 M' : Mem) (r : Option PV) : Prop := St Tru ws_X5_takeClosing_6_w12 as_X5_takeClosing_6_w12 M0 M' ∧ ∃ v : Int, r = some (0, v) ∧ 0 ≤ v ∧ v ≤ 1 ∧ ((1 ≤ v ∧ v ≤ 1) → rd M' 6 6 = 3)
set_option maxRecDepth 100000 in
set_option maxHeartbeats 4000000 in
theorem sp_X5_takeClosing_6_w12 {l : Launch} {K : EC} {M0 : Mem} (hI : In Tru M0) (en_6_2 : rd M0 6 2 = 2) (en_6_6 : rd M0 6 6 = 4) (a1 : Int) (ha1 : 64 ≤ a1 ∧ a1 ≤ 99)  : Tr l K 2 mX5_takeClosing 0 [(0, (2, 6)), (1, (0, a1))] [] M0 (q_X5_takeClosing_6_w12 M0) := by
  have hS : St Tru ws_X5_takeClosing_6_w12 as_X5_takeClosing_6_w12 M0 M0 := St.rf hI
  refine Tr.aload_n (pc := 0) (i := 0) d_X5_takeClosing_0 rfl rfl ?_
  refine Tr.iload_n (pc := 1) (i := 1) d_X5_takeClosing_1 rfl rfl ?_
  refine Tr.callV (pc := 2) (as := [_]) d_X5_takeClosing_2 s_5_81 ok_X5_takeSign rfl rfl (Nat.le_of_ble_eq_true rfl) (Nat.le_of_ble_eq_true rfl) (by decide) (ty_6 hS.1.1) ?_
  refine Tr.imp (Tr.deep (by decide) (sp_X5_takeSign_6_w2 hS.1 ((St.kp hS (by decide) (by decide) (by decide)).trans en_6_2) a1 (by omega))) ?_
  rintro M2 _ ⟨h2, r2, rfl, lr2, ur2⟩
  have hS := St.tr hS h2 (by decide) (by decide)
  refine Tr.sc [(0, r2)] rfl ?_
  refine Tr.if_ne (pc := 5) (tgt := 10) d_X5_takeClosing_5 rfl (fun c5 => ?_) (fun c5 => ?_)
  · refine Tr.aload_n (pc := 10) (i := 0) d_X5_takeClosing_10 rfl rfl ?_
    refine Tr.dup (pc := 11) d_X5_takeClosing_11 ne21 ?_
    refine Tr.getf (pc := 12) d_X5_takeClosing_12 f_5_39 (by decide) (by decide) (ty_6 hS.1.1) ?_
    refine Tr.tp 4 ((St.kp h2 (by decide) (by decide) (by decide)).trans en_6_6) ?_
    refine Tr.iconst (pc := 15) d_X5_takeClosing_15 (by decide) ?_
    refine Tr.isub (pc := 16) d_X5_takeClosing_16 ?_
    refine Tr.tp 3 (by decide) ?_
    refine Tr.putfS (pc := 17) (P := St Tru ws_X5_takeClosing_6_w12 as_X5_takeClosing_6_w12 M0) d_X5_takeClosing_17 f_5_39 (by decide) (by decide) (ty_6 hS.1.1) (st_6_6 hS (by decide) (by omega) trivial) (fun M17 hS w17 => ?_)
    refine Tr.iconst (pc := 20) d_X5_takeClosing_20 (by decide) ?_
    exact Tr.zret (pc := 21) d_X5_takeClosing_21 rfl (by omega) ⟨hS, _, rfl, by omega, by omega, fun _ => w17.1⟩
  · refine Tr.iconst (pc := 8) d_X5_takeClosing_8 (by decide) ?_
    exact Tr.zret (pc := 9) d_X5_takeClosing_9 rfl (by omega) ⟨hS, _, rfl, by omega, by omega, fun hq => absurd hq (by omega)⟩

def ws_X5_takeClosing_6_w13 : List (Int × Int) := [(6, 0), (6, 1), (6, 5), (6, 6)]
def as_X5_takeClosing_6_w13 : List Int := []
def q_X5_takeClosing_6_w13 (M0 M' : Mem) (r : Option PV) : Prop := St Tru ws_X5_takeClosing_6_w13 as_X5_takeClosing_6_w13 M0 M' ∧ ∃ v : Int, r = some (0, v) ∧ 0 ≤ v ∧ v ≤ 1 ∧ ((1 ≤ v ∧ v ≤ 1) → rd M' 6 6 = 2)
set_option maxRecDepth 100000 in
set_option maxHeartbeats 4000000 in
theorem sp_X5_takeClosing_6_w13 {l : Launch} {K : EC} {M0 : Mem} (hI : In Tru M0) (en_6_2 : rd M0 6 2 = 2) (en_6_6 : rd M0 6 6 = 3) (a1 : Int) (ha1 : 64 ≤ a1 ∧ a1 ≤ 99)  : Tr l K 2 mX5_takeClosing 0 [(0, (2, 6)), (1, (0, a1))] [] M0 (q_X5_takeClosing_6_w13 M0) := by
  have hS : St Tru ws_X5_takeClosing_6_w13 as_X5_takeClosing_6_w13 M0 M0 := St.rf hI
  refine Tr.aload_n (pc := 0) (i := 0) d_X5_takeClosing_0 rfl rfl ?_
  refine Tr.iload_n (pc := 1) (i := 1) d_X5_takeClosing_1 rfl rfl ?_
  refine Tr.callV (pc := 2) (as := [_]) d_X5_takeClosing_2 s_5_81 ok_X5_takeSign rfl rfl (Nat.le_of_ble_eq_true rfl) (Nat.le_of_ble_eq_true rfl) (by decide) (ty_6 hS.1.1) ?_
  refine Tr.imp (Tr.deep (by decide) (sp_X5_takeSign_6_w2 hS.1 ((St.kp hS (by decide) (by decide) (by decide)).trans en_6_2) a1 (by omega))) ?_
  rintro M2 _ ⟨h2, r2, rfl, lr2, ur2⟩
  have hS := St.tr hS h2 (by decide) (by decide)
  refine Tr.sc [(0, r2)] rfl ?_
  refine Tr.if_ne (pc := 5) (tgt := 10) d_X5_takeClosing_5 rfl (fun c5 => ?_) (fun c5 => ?_)
  · refine Tr.aload_n (pc := 10) (i := 0) d_X5_takeClosing_10 rfl rfl ?_
    refine Tr.dup (pc := 11) d_X5_takeClosing_11 ne21 ?_
    refine Tr.getf (pc := 12) d_X5_takeClosing_12 f_5_39 (by decide) (by decide) (ty_6 hS.1.1) ?_
    refine Tr.tp 3 ((St.kp h2 (by decide) (by decide) (by decide)).trans en_6_6) ?_
    refine Tr.iconst (pc := 15) d_X5_takeClosing_15 (by decide) ?_
    refine Tr.isub (pc := 16) d_X5_takeClosing_16 ?_
    refine Tr.tp 2 (by decide) ?_
    refine Tr.putfS (pc := 17) (P := St Tru ws_X5_takeClosing_6_w13 as_X5_takeClosing_6_w13 M0) d_X5_takeClosing_17 f_5_39 (by decide) (by decide) (ty_6 hS.1.1) (st_6_6 hS (by decide) (by omega) trivial) (fun M17 hS w17 => ?_)
    refine Tr.iconst (pc := 20) d_X5_takeClosing_20 (by decide) ?_
    exact Tr.zret (pc := 21) d_X5_takeClosing_21 rfl (by omega) ⟨hS, _, rfl, by omega, by omega, fun _ => w17.1⟩
  · refine Tr.iconst (pc := 8) d_X5_takeClosing_8 (by decide) ?_
    exact Tr.zret (pc := 9) d_X5_takeClosing_9 rfl (by omega) ⟨hS, _, rfl, by omega, by omega, fun hq => absurd hq (by omega)⟩

def ws_X5_takeClosing_6_w14 : List (Int × Int) := [(6, 0), (6, 1), (6, 5), (6, 6)]
def as_X5_takeClosing_6_w14 : List Int := []
def q_X5_takeClosing_6_w14 (M0 M' : Mem) (r : Option PV) : Prop := St Tru ws_X5_takeClosing_6_w14 as_X5_takeClosing_6_w14 M0 M' ∧ ∃ v : Int, r = some (0, v) ∧ 0 ≤ v ∧ v ≤ 1 ∧ ((1 ≤ v ∧ v ≤ 1) → rd M' 6 6 = 1)
set_option maxRecDepth 100000 in
set_option maxHeartbeats 4000000 in
theorem sp_X5_takeClosing_6_w14 {l : Launch} {K : EC} {M0 : Mem} (hI : In Tru M0) (en_6_2 : rd M0 6 2 = 2) (en_6_6 : rd M0 6 6 = 2) (a1 : Int) (ha1 : 64 ≤ a1 ∧ a1 ≤ 99)  : Tr l K 2 mX5_takeClosing 0 [(0, (2, 6)), (1, (0, a1))] [] M0 (q_X5_takeClosing_6_w14 M0) := by
  have hS : St Tru ws_X5_takeClosing_6_w14 as_X5_takeClosing_6_w14 M0 M0 := St.rf hI
  refine Tr.aload_n (pc := 0) (i := 0) d_X5_takeClosing_0 rfl rfl ?_
  refine Tr.iload_n (pc := 1) (i := 1) d_X5_takeClosing_1 rfl rfl ?_
  refine Tr.callV (pc := 2) (as := [_]) d_X5_takeClosing_2 s_5_81 ok_X5_takeSign rfl rfl (Nat.le_of_ble_eq_true rfl) (Nat.le_of_ble_eq_true rfl) (by decide) (ty_6 hS.1.1) ?_
  refine Tr.imp (Tr.deep (by decide) (sp_X5_takeSign_6_w2 hS.1 ((St.kp hS (by decide) (by decide) (by decide)).trans en_6_2) a1 (by omega))) ?_
  rintro M2 _ ⟨h2, r2, rfl, lr2, ur2⟩
  have hS := St.tr hS h2 (by decide) (by decide)
  refine Tr.sc [(0, r2)] rfl ?_
  refine Tr.if_ne (pc := 5) (tgt := 10) d_X5_takeClosing_5 rfl (fun c5 => ?_) (fun c5 => ?_)
  · refine Tr.aload_n (pc := 10) (i := 0) d_X5_takeClosing_10 rfl rfl ?_
    refine Tr.dup (pc := 11) d_X5_takeClosing_11 ne21 ?_
    refine Tr.getf (pc := 12) d_X5_takeClosing_12 f_5_39 (by decide) (by decide) (ty_6 hS.1.1) ?_
    refine Tr.tp 2 ((St.kp h2 (by decide) (by decide) (by decide)).trans en_6_6) ?_
    refine Tr.iconst (pc := 15) d_X5_takeClosing_15 (by decide) ?_
    refine Tr.isub (pc := 16) d_X5_takeClosing_16 ?_
    refine Tr.tp 1 (by decide) ?_
    refine Tr.putfS (pc := 17) (P := St Tru ws_X5_takeClosing_6_w14 as_X5_takeClosing_6_w14 M0) d_X5_takeClosing_17 f_5_39 (by decide) (by decide) (ty_6 hS.1.1) (st_6_6 hS (by decide) (by omega) trivial) (fun M17 hS w17 => ?_)
    refine Tr.iconst (pc := 20) d_X5_takeClosing_20 (by decide) ?_
    exact Tr.zret (pc := 21) d_X5_takeClosing_21 rfl (by omega) ⟨hS, _, rfl, by omega, by omega, fun _ => w17.1⟩
  · refine Tr.iconst (pc := 8) d_X5_takeClosing_8 (by decide) ?_
    exact Tr.zret (pc := 9) d_X5_takeClosing_9 rfl (by omega) ⟨hS, _, rfl, by omega, by omega, fun hq => absurd hq (by omega)⟩

def ws_X5_takeClosing_6_w15 : List (Int × Int) := [(6, 0), (6, 1), (6, 5), (6, 6)]
def as_X5_takeClosing_6_w15 : List Int := []
def q_X5_takeClosing_6_w15 (M0 M' : Mem) (r : Option PV) : Prop := St Tru ws_X5_takeClosing_6_w15 as_X5_takeClosing_6_w15 M0 M' ∧ ∃ v : Int, r = some (0, v) ∧ 0 ≤ v ∧ v ≤ 1 ∧ ((1 ≤ v ∧ v ≤ 1) → rd M' 6 6 = 0)
set_option maxRecDepth 100000 in
set_option maxHeartbeats 4000000 in
theorem sp_X5_takeClosing_6_w15 {l : Launch} {K : EC} {M0 : Mem} (hI : In Tru M0) (en_6_2 : rd M0 6 2 = 2) (en_6_6 : rd M0 6 6 = 1) (a1 : Int) (ha1 : 64 ≤ a1 ∧ a1 ≤ 99)  : Tr l K 2 mX5_takeClosing 0 [(0, (2, 6)), (1, (0, a1))] [] M0 (q_X5_takeClosing_6_w15 M0) := by
  have hS : St Tru ws_X5_takeClosing_6_w15 as_X5_takeClosing_6_w15 M0 M0 := St.rf hI
  refine Tr.aload_n (pc := 0) (i := 0) d_X5_takeClosing_0 rfl rfl ?_
  refine Tr.iload_n (pc := 1) (i := 1) d_X5_takeClosing_1 rfl rfl ?_
  refine Tr.callV (pc := 2) (as := [_]) d_X5_takeClosing_2 s_5_81 ok_X5_takeSign rfl rfl (Nat.le_of_ble_eq_true rfl) (Nat.le_of_ble_eq_true rfl) (by decide) (ty_6 hS.1.1) ?_
  refine Tr.imp (Tr.deep (by decide) (sp_X5_takeSign_6_w2 hS.1 ((St.kp hS (by decide) (by decide) (by decide)).trans en_6_2) a1 (by omega))) ?_
  rintro M2 _ ⟨h2, r2, rfl, lr2, ur2⟩
  have hS := St.tr hS h2 (by decide) (by decide)
  refine Tr.sc [(0, r2)] rfl ?_
  refine Tr.if_ne (pc := 5) (tgt := 10) d_X5_takeClosing_5 rfl (fun c5 => ?_) (fun c5 => ?_)
  · refine Tr.aload_n (pc := 10) (i := 0) d_X5_takeClosing_10 rfl rfl ?_
    refine Tr.dup (pc := 11) d_X5_takeClosing_11 ne21 ?_
    refine Tr.getf (pc := 12) d_X5_takeClosing_12 f_5_39 (by decide) (by decide) (ty_6 hS.1.1) ?_
    refine Tr.tp 1 ((St.kp h2 (by decide) (by decide) (by decide)).trans en_6_6) ?_
    refine Tr.iconst (pc := 15) d_X5_takeClosing_15 (by decide) ?_
    refine Tr.isub (pc := 16) d_X5_takeClosing_16 ?_
    refine Tr.tp 0 (by decide) ?_
    refine Tr.putfS (pc := 17) (P := St Tru ws_X5_takeClosing_6_w15 as_X5_takeClosing_6_w15 M0) d_X5_takeClosing_17 f_5_39 (by decide) (by decide) (ty_6 hS.1.1) (st_6_6 hS (by decide) (by omega) trivial) (fun M17 hS w17 => ?_)
    refine Tr.iconst (pc := 20) d_X5_takeClosing_20 (by decide) ?_
    exact Tr.zret (pc := 21) d_X5_takeClosing_21 rfl (by omega) ⟨hS, _, rfl, by omega, by omega, fun _ => w17.1⟩
  · refine Tr.iconst (pc := 8) d_X5_takeClosing_8 (by decide) ?_
    exact Tr.zret (pc := 9) d_X5_takeClosing_9 rfl (by omega) ⟨hS, _, rfl, by omega, by omega, fun hq => absurd hq (by omega)⟩

def ws_X5_isSign_6_w5 : List (Int × Int) := []
def as_X5_isSign_6_w5 : List Int := []
def q_X5_isSign_6_w5 (M0 M' : Mem) (r : Option PV) : Prop := St Tru ws_X5_isSign_6_w5 as_X5_isSign_6_w5 M0 M' ∧ ∃ v : Int, r = some (0, v) ∧ 0 ≤ v ∧ v ≤ 1
set_option maxRecDepth 100000 in
set_option maxHeartbeats 4000000 in
theorem sp_X5_isSign_6_w5 {l : Launch} {K : EC} {M0 : Mem} (hI : In Tru M0) (en_6_2 : rd M0 6 2 = 2) (a1 : Int) (ha1 : 123 ≤ a1 ∧ a1 ≤ 123)  : Tr l K 0 mX5_isSign 0 [(0, (2, 6)), (1, (0, a1))] [] M0 (q_X5_isSign_6_w5 M0) := by
  have hS : St Tru ws_X5_isSign_6_w5 as_X5_isSign_6_w5 M0 M0 := St.rf hI
  refine Tr.aload_n (pc := 0) (i := 0) d_X5_isSign_0 rfl rfl ?_
  refine Tr.getf (pc := 1) d_X5_isSign_1 f_5_18 (by decide) (by decide) (ty_6 hS.1.1) ?_
  refine Tr.tp 2 ((St.kp hS (by decide) (by decide) (by decide)).trans en_6_2) ?_
  refine Tr.getf (pc := 4) d_X5_isSign_4 f_5_50 (by decide) (by decide) (ty_2 hS.1.1) ?_
  refine Tr.tp 3 (fx_2_0 hS.1.1) ?_
  refine Tr.aload_n (pc := 7) (i := 0) d_X5_isSign_7 rfl rfl ?_
  refine Tr.getf (pc := 8) d_X5_isSign_8 f_5_36 (by decide) (by decide) (ty_6 hS.1.1) ?_
  refine Tr.gen (P := fun v => 0 ≤ v ∧ v ≤ 900) (ir_6_5 hS.1.2.1) (fun r8 er8 br8 => ?_)
  refine Tr.iald (pc := 11) d_X5_isSign_11 (ty_3 hS.1.1) (by omega) (by omega) ?_
  refine Tr.gen (P := fun v => (-2147483648) ≤ v ∧ v ≤ 2147483647) (ar_3 hS.1.2.1 _) (fun r11 er11 br11 => ?_)
  refine Tr.iconst (pc := 12) d_X5_isSign_12 (by decide) ?_
  refine Tr.icmp_ne (pc := 13) (tgt := 36) d_X5_isSign_13 rfl (fun c13 => ?_) (fun c13 => ?_)
  · refine Tr.iconst (pc := 36) d_X5_isSign_36 (by decide) ?_
    exact Tr.zret (pc := 37) d_X5_isSign_37 rfl (by omega) ⟨hS, _, rfl, by omega, by omega⟩
  · refine Tr.aload_n (pc := 16) (i := 0) d_X5_isSign_16 rfl rfl ?_
    refine Tr.getf (pc := 17) d_X5_isSign_17 f_5_18 (by decide) (by decide) (ty_6 hS.1.1) ?_
    refine Tr.tp 2 ((St.kp hS (by decide) (by decide) (by decide)).trans en_6_2) ?_
    refine Tr.getf (pc := 20) d_X5_isSign_20 f_5_68 (by decide) (by decide) (ty_2 hS.1.1) ?_
    refine Tr.tp 5 (fx_2_2 hS.1.1) ?_
    refine Tr.aload_n (pc := 23) (i := 0) d_X5_isSign_23 rfl rfl ?_
    refine Tr.getf (pc := 24) d_X5_isSign_24 f_5_36 (by decide) (by decide) (ty_6 hS.1.1) ?_
    refine Tr.tp r8 er8 ?_
    refine Tr.iald (pc := 27) d_X5_isSign_27 (ty_5 hS.1.1) (by omega) (by omega) ?_
    refine Tr.gen (P := fun v => (-2147483648) ≤ v ∧ v ≤ 2147483647) (ar_5 hS.1.2.1 _) (fun r27 er27 br27 => ?_)
    refine Tr.iload_n (pc := 28) (i := 1) d_X5_isSign_28 rfl rfl ?_
    refine Tr.tp 123 (by omega) ?_
    refine Tr.icmp_ne (pc := 29) (tgt := 36) d_X5_isSign_29 rfl (fun c29 => ?_) (fun c29 => ?_)
    · refine Tr.iconst (pc := 36) d_X5_isSign_36 (by decide) ?_
      exact Tr.zret (pc := 37) d_X5_isSign_37 rfl (by omega) ⟨hS, _, rfl, by omega, by omega⟩
    · refine Tr.iconst (pc := 32) d_X5_isSign_32 (by decide) ?_
      refine Tr.goto (pc := 33) (tgt := 37) d_X5_isSign_33 rfl ?_
      exact Tr.zret (pc := 37) d_X5_isSign_37 rfl (by omega) ⟨hS, _, rfl, by omega, by omega⟩

def ws_X5_takeOpening_6_w18 : List (Int × Int) := [(6, 0), (6, 1), (6, 5), (6, 6)]
def as_X5_takeOpening_6_w18 : List Int := []
def q_X5_takeOpening_6_w18 (M0 M' : Mem) (r : Option PV) : Prop := St Tru ws_X5_takeOpening_6_w18 as_X5_takeOpening_6_w18 M0 M' ∧ ∃ v : Int, r = some (0, v) ∧ 0 ≤ v ∧ v ≤ 1 ∧ ((1 ≤ v ∧ v ≤ 1) → rd M' 6 6 = 1)
set_option maxRecDepth 100000 in
set_option maxHeartbeats 4000000 in
theorem sp_X5_takeOpening_6_w18 {l : Launch} {K : EC} {M0 : Mem} (hI : In Tru M0) (en_6_2 : rd M0 6 2 = 2) (en_6_6 : rd M0 6 6 = 0) (a1 : Int) (ha1 : 123 ≤ a1 ∧ a1 ≤ 123)  : Tr l K 1 mX5_takeOpening 0 [(0, (2, 6)), (1, (0, a1))] [] M0 (q_X5_takeOpening_6_w18 M0) := by
  have hS : St Tru ws_X5_takeOpening_6_w18 as_X5_takeOpening_6_w18 M0 M0 := St.rf hI
  refine Tr.aload_n (pc := 0) (i := 0) d_X5_takeOpening_0 rfl rfl ?_
  refine Tr.iload_n (pc := 1) (i := 1) d_X5_takeOpening_1 rfl rfl ?_
  refine Tr.tp 123 (by omega) ?_
  refine Tr.callV (pc := 2) (as := [_]) d_X5_takeOpening_2 s_5_77 ok_X5_isSign rfl rfl (Nat.le_of_ble_eq_true rfl) (Nat.le_of_ble_eq_true rfl) (by decide) (ty_6 hS.1.1) ?_
  refine Tr.imp (Tr.deep (by decide) (sp_X5_isSign_6_w5 hS.1 ((St.kp hS (by decide) (by decide) (by decide)).trans en_6_2) 123 (by omega))) ?_
  rintro M2 _ ⟨h2, r2, rfl, lr2, ur2⟩
  have hS := St.tr hS h2 (by decide) (by decide)
  refine Tr.sc [(0, r2)] rfl ?_
  refine Tr.if_ne (pc := 5) (tgt := 14) d_X5_takeOpening_5 rfl (fun c5 => ?_) (fun c5 => ?_)
  · refine Tr.aload_n (pc := 14) (i := 0) d_X5_takeOpening_14 rfl rfl ?_
    refine Tr.getf (pc := 15) d_X5_takeOpening_15 f_5_39 (by decide) (by decide) (ty_6 hS.1.1) ?_
    refine Tr.tp 0 ((St.kp h2 (by decide) (by decide) (by decide)).trans en_6_6) ?_
    refine Tr.bipush (pc := 18) d_X5_takeOpening_18 rfl (by decide) ?_
    refine Tr.icmp_ne (pc := 20) (tgt := 29) d_X5_takeOpening_20 rfl (fun _ => ?_) (fun hc => absurd hc (by omega))
    refine Tr.aload_n (pc := 29) (i := 0) d_X5_takeOpening_29 rfl rfl ?_
    refine Tr.dup (pc := 30) d_X5_takeOpening_30 ne21 ?_
    refine Tr.getf (pc := 31) d_X5_takeOpening_31 f_5_39 (by decide) (by decide) (ty_6 hS.1.1) ?_
    refine Tr.tp 0 ((St.kp h2 (by decide) (by decide) (by decide)).trans en_6_6) ?_
    refine Tr.iconst (pc := 34) d_X5_takeOpening_34 (by decide) ?_
    refine Tr.iadd (pc := 35) d_X5_takeOpening_35 ?_
    refine Tr.tp 1 (by decide) ?_
    refine Tr.putfS (pc := 36) (P := St Tru ws_X5_takeOpening_6_w18 as_X5_takeOpening_6_w18 M0) d_X5_takeOpening_36 f_5_39 (by decide) (by decide) (ty_6 hS.1.1) (st_6_6 hS (by decide) (by omega) trivial) (fun M36 hS w36 => ?_)
    refine Tr.aload_n (pc := 39) (i := 0) d_X5_takeOpening_39 rfl rfl ?_
    refine Tr.callV (pc := 40) (as := []) d_X5_takeOpening_40 s_5_74 ok_X5_goOn rfl rfl (Nat.le_of_ble_eq_true rfl) (Nat.le_of_ble_eq_true rfl) (by decide) (ty_6 hS.1.1) ?_
    refine Tr.imp (Tr.deep (by decide) (sp_X5_goOn_6 hS.1 )) ?_
    rintro M40 _ ⟨h40, r40, rfl, lr40, ur40⟩
    have hS := St.tr hS h40 (by decide) (by decide)
    refine Tr.sc [(0, r40)] rfl ?_
    exact Tr.zret (pc := 43) d_X5_takeOpening_43 rfl (by omega) ⟨hS, _, rfl, by omega, by omega, fun _ => ((St.kp h40 (by decide) (by decide) (by decide)).trans w36.1)⟩
  · refine Tr.aload_n (pc := 8) (i := 0) d_X5_takeOpening_8 rfl rfl ?_
    refine Tr.iconst (pc := 9) d_X5_takeOpening_9 (by decide) ?_
    refine Tr.callV (pc := 10) (as := [_]) d_X5_takeOpening_10 s_5_56 ok_X5_refuse rfl rfl (Nat.le_of_ble_eq_true rfl) (Nat.le_of_ble_eq_true rfl) (by decide) (ty_6 hS.1.1) ?_
    refine Tr.imp (Tr.deep (by decide) (sp_X5_refuse_6_w1 hS.1 ((St.kp hS (by decide) (by decide) (by decide)).trans en_6_2) 1 (by omega))) ?_
    rintro M10 _ ⟨h10, r10, rfl, lr10, ur10⟩
    have hS := St.tr hS h10 (by decide) (by decide)
    refine Tr.sc [(0, r10)] rfl ?_
    exact Tr.zret (pc := 13) d_X5_takeOpening_13 rfl (by omega) ⟨hS, _, rfl, by omega, by omega, fun hq => absurd hq (by omega)⟩

def ws_X4_open_35_w1 : List (Int × Int) := [(35, 0)]
def as_X4_open_35_w1 : List Int := [36, 37, 38, 39, 40, 41, 42]
def q_X4_open_35_w1 (M0 M' : Mem) (r : Option PV) : Prop := St Tru ws_X4_open_35_w1 as_X4_open_35_w1 M0 M' ∧ ∃ v : Int, r = some (0, v) ∧ 0 ≤ v ∧ v ≤ 59
set_option maxRecDepth 100000 in
set_option maxHeartbeats 4000000 in
theorem sp_X4_open_35_w1 {l : Launch} {K : EC} {M0 : Mem} (hI : In Tru M0)  (a1 : Int) (ha1 : (-2147483648) ≤ a1 ∧ a1 ≤ 2147483647) (a2 : Int) (ha2 : 0 ≤ a2 ∧ a2 ≤ 59)  (hpm : rd M0 35 0 ≤ 59) : Tr l K 0 mX4_open 0 [(0, (2, 35)), (1, (0, a1)), (2, (0, a2))] [] M0 (q_X4_open_35_w1 M0) := by
  have hS : St Tru ws_X4_open_35_w1 as_X4_open_35_w1 M0 M0 := St.rf hI
  refine Tr.aload_n (pc := 0) (i := 0) d_X4_open_0 rfl rfl ?_
  refine Tr.getf (pc := 1) d_X4_open_1 f_4_45 (by decide) (by decide) (ty_35 hS.1.1) ?_
  refine Tr.gen (P := fun v => 0 ≤ v ∧ v ≤ 59) (by have h8 := ir_35_0 hS.1.2.1; exact ⟨h8.1, hpm⟩) (fun r1 er1 br1 => ?_)
  refine Tr.istore_n (pc := 4) (i := 3) (ls2 := [(3, (0, r1)), (0, (2, 35)), (1, (0, a1)), (2, (0, a2))]) d_X4_open_4 rfl (by decide) rfl ?_
  refine Tr.aload_n (pc := 5) (i := 0) d_X4_open_5 rfl rfl ?_
  refine Tr.getf (pc := 6) d_X4_open_6 f_4_9 (by decide) (by decide) (ty_35 hS.1.1) ?_
  refine Tr.tp 36 (fx_35_1 hS.1.1) ?_
  refine Tr.iload_n (pc := 9) (i := 3) d_X4_open_9 rfl rfl ?_
  refine Tr.iload_n (pc := 10) (i := 1) d_X4_open_10 rfl rfl ?_
  refine Tr.iastS (pc := 11) (P := St Tru ws_X4_open_35_w1 as_X4_open_35_w1 M0) d_X4_open_11 (ty_36 hS.1.1) (by omega) (by omega) (sa_36 hS (by decide) (by omega) trivial) (fun M11 hS w11 => ?_)
  refine Tr.aload_n (pc := 12) (i := 0) d_X4_open_12 rfl rfl ?_
  refine Tr.getf (pc := 13) d_X4_open_13 f_4_15 (by decide) (by decide) (ty_35 hS.1.1) ?_
  refine Tr.tp 37 (fx_35_2 hS.1.1) ?_
  refine Tr.iload_n (pc := 16) (i := 3) d_X4_open_16 rfl rfl ?_
  refine Tr.iconst (pc := 17) d_X4_open_17 (by decide) ?_
  refine Tr.iastS (pc := 18) (P := St Tru ws_X4_open_35_w1 as_X4_open_35_w1 M0) d_X4_open_18 (ty_37 hS.1.1) (by omega) (by omega) (sa_37 hS (by decide) (by omega) trivial) (fun M18 hS w18 => ?_)
  refine Tr.aload_n (pc := 19) (i := 0) d_X4_open_19 rfl rfl ?_
  refine Tr.getf (pc := 20) d_X4_open_20 f_4_18 (by decide) (by decide) (ty_35 hS.1.1) ?_
  refine Tr.tp 38 (fx_35_3 hS.1.1) ?_
  refine Tr.iload_n (pc := 23) (i := 3) d_X4_open_23 rfl rfl ?_
  refine Tr.aload_n (pc := 24) (i := 0) d_X4_open_24 rfl rfl ?_
  refine Tr.getf (pc := 25) d_X4_open_25 f_4_49 (by decide) (by decide) (ty_35 hS.1.1) ?_
  refine Tr.gen (P := fun v => 0 ≤ v ∧ v ≤ 900) (ir_35_11 hS.1.2.1) (fun r25 er25 br25 => ?_)
  refine Tr.iastS (pc := 28) (P := St Tru ws_X4_open_35_w1 as_X4_open_35_w1 M0) d_X4_open_28 (ty_38 hS.1.1) (by omega) (by omega) (sa_38 hS (by decide) (by omega) trivial) (fun M28 hS w28 => ?_)
  refine Tr.aload_n (pc := 29) (i := 0) d_X4_open_29 rfl rfl ?_
  refine Tr.getf (pc := 30) d_X4_open_30 f_4_21 (by decide) (by decide) (ty_35 hS.1.1) ?_
  refine Tr.tp 39 (fx_35_4 hS.1.1) ?_
  refine Tr.iload_n (pc := 33) (i := 3) d_X4_open_33 rfl rfl ?_
  refine Tr.iconst (pc := 34) d_X4_open_34 (by decide) ?_
  refine Tr.iastS (pc := 35) (P := St Tru ws_X4_open_35_w1 as_X4_open_35_w1 M0) d_X4_open_35 (ty_39 hS.1.1) (by omega) (by omega) (sa_39 hS (by decide) (by omega) trivial) (fun M35 hS w35 => ?_)
  refine Tr.aload_n (pc := 36) (i := 0) d_X4_open_36 rfl rfl ?_
  refine Tr.getf (pc := 37) d_X4_open_37 f_4_24 (by decide) (by decide) (ty_35 hS.1.1) ?_
  refine Tr.tp 40 (fx_35_5 hS.1.1) ?_
  refine Tr.iload_n (pc := 40) (i := 3) d_X4_open_40 rfl rfl ?_
  refine Tr.iconst (pc := 41) d_X4_open_41 (by decide) ?_
  refine Tr.iastS (pc := 42) (P := St Tru ws_X4_open_35_w1 as_X4_open_35_w1 M0) d_X4_open_42 (ty_40 hS.1.1) (by omega) (by omega) (sa_40 hS (by decide) (by omega) trivial) (fun M42 hS w42 => ?_)
  refine Tr.aload_n (pc := 43) (i := 0) d_X4_open_43 rfl rfl ?_
  refine Tr.getf (pc := 44) d_X4_open_44 f_4_27 (by decide) (by decide) (ty_35 hS.1.1) ?_
  refine Tr.tp 41 (fx_35_6 hS.1.1) ?_
  refine Tr.iload_n (pc := 47) (i := 3) d_X4_open_47 rfl rfl ?_
  refine Tr.iconst (pc := 48) d_X4_open_48 (by decide) ?_
  refine Tr.iastS (pc := 49) (P := St Tru ws_X4_open_35_w1 as_X4_open_35_w1 M0) d_X4_open_49 (ty_41 hS.1.1) (by omega) (by omega) (sa_41 hS (by decide) (by omega) trivial) (fun M49 hS w49 => ?_)
  refine Tr.aload_n (pc := 50) (i := 0) d_X4_open_50 rfl rfl ?_
  refine Tr.getf (pc := 51) d_X4_open_51 f_4_30 (by decide) (by decide) (ty_35 hS.1.1) ?_
  refine Tr.tp 42 (fx_35_7 hS.1.1) ?_
  refine Tr.iload_n (pc := 54) (i := 3) d_X4_open_54 rfl rfl ?_
  refine Tr.iload_n (pc := 55) (i := 2) d_X4_open_55 rfl rfl ?_
  refine Tr.iastS (pc := 56) (P := St Tru ws_X4_open_35_w1 as_X4_open_35_w1 M0) d_X4_open_56 (ty_42 hS.1.1) (by omega) (by omega) (sa_42 hS (by decide) (by omega) trivial) (fun M56 hS w56 => ?_)
  refine Tr.aload_n (pc := 57) (i := 0) d_X4_open_57 rfl rfl ?_
  refine Tr.dup (pc := 58) d_X4_open_58 ne21 ?_
  refine Tr.getf (pc := 59) d_X4_open_59 f_4_45 (by decide) (by decide) (ty_35 hS.1.1) ?_
  refine Tr.tp r1 ((Wr.b w56 rfl).trans ((Wr.b w49 rfl).trans ((Wr.b w42 rfl).trans ((Wr.b w35 rfl).trans ((Wr.b w28 rfl).trans ((Wr.b w18 rfl).trans ((Wr.b w11 rfl).trans er1))))))) ?_
  refine Tr.iconst (pc := 62) d_X4_open_62 (by decide) ?_
  refine Tr.iadd (pc := 63) d_X4_open_63 ?_
  refine Tr.tp (r1 + 1) ((w32_id (by omega)).trans (by omega)) ?_
  refine Tr.putfS (pc := 64) (P := St Tru ws_X4_open_35_w1 as_X4_open_35_w1 M0) d_X4_open_64 f_4_45 (by decide) (by decide) (ty_35 hS.1.1) (st_35_0 hS (by decide) (by omega) trivial) (fun M64 hS w64 => ?_)
  refine Tr.iload_n (pc := 67) (i := 3) d_X4_open_67 rfl rfl ?_
  exact Tr.iret (pc := 68) d_X4_open_68 rfl ⟨hS, _, rfl, by omega, by omega⟩

def ws_X5_takeOpening_6_w19 : List (Int × Int) := [(6, 0), (6, 1), (6, 5), (6, 6)]
def as_X5_takeOpening_6_w19 : List Int := []
def q_X5_takeOpening_6_w19 (M0 M' : Mem) (r : Option PV) : Prop := St Tru ws_X5_takeOpening_6_w19 as_X5_takeOpening_6_w19 M0 M' ∧ ∃ v : Int, r = some (0, v) ∧ 0 ≤ v ∧ v ≤ 1 ∧ ((1 ≤ v ∧ v ≤ 1) → rd M' 6 6 = 2)
set_option maxRecDepth 100000 in
set_option maxHeartbeats 4000000 in
theorem sp_X5_takeOpening_6_w19 {l : Launch} {K : EC} {M0 : Mem} (hI : In Tru M0) (en_6_2 : rd M0 6 2 = 2) (en_6_6 : rd M0 6 6 = 1) (a1 : Int) (ha1 : 123 ≤ a1 ∧ a1 ≤ 123)  : Tr l K 1 mX5_takeOpening 0 [(0, (2, 6)), (1, (0, a1))] [] M0 (q_X5_takeOpening_6_w19 M0) := by
  have hS : St Tru ws_X5_takeOpening_6_w19 as_X5_takeOpening_6_w19 M0 M0 := St.rf hI
  refine Tr.aload_n (pc := 0) (i := 0) d_X5_takeOpening_0 rfl rfl ?_
  refine Tr.iload_n (pc := 1) (i := 1) d_X5_takeOpening_1 rfl rfl ?_
  refine Tr.tp 123 (by omega) ?_
  refine Tr.callV (pc := 2) (as := [_]) d_X5_takeOpening_2 s_5_77 ok_X5_isSign rfl rfl (Nat.le_of_ble_eq_true rfl) (Nat.le_of_ble_eq_true rfl) (by decide) (ty_6 hS.1.1) ?_
  refine Tr.imp (Tr.deep (by decide) (sp_X5_isSign_6_w5 hS.1 ((St.kp hS (by decide) (by decide) (by decide)).trans en_6_2) 123 (by omega))) ?_
  rintro M2 _ ⟨h2, r2, rfl, lr2, ur2⟩
  have hS := St.tr hS h2 (by decide) (by decide)
  refine Tr.sc [(0, r2)] rfl ?_
  refine Tr.if_ne (pc := 5) (tgt := 14) d_X5_takeOpening_5 rfl (fun c5 => ?_) (fun c5 => ?_)
  · refine Tr.aload_n (pc := 14) (i := 0) d_X5_takeOpening_14 rfl rfl ?_
    refine Tr.getf (pc := 15) d_X5_takeOpening_15 f_5_39 (by decide) (by decide) (ty_6 hS.1.1) ?_
    refine Tr.tp 1 ((St.kp h2 (by decide) (by decide) (by decide)).trans en_6_6) ?_
    refine Tr.bipush (pc := 18) d_X5_takeOpening_18 rfl (by decide) ?_
    refine Tr.icmp_ne (pc := 20) (tgt := 29) d_X5_takeOpening_20 rfl (fun _ => ?_) (fun hc => absurd hc (by omega))
    refine Tr.aload_n (pc := 29) (i := 0) d_X5_takeOpening_29 rfl rfl ?_
    refine Tr.dup (pc := 30) d_X5_takeOpening_30 ne21 ?_
    refine Tr.getf (pc := 31) d_X5_takeOpening_31 f_5_39 (by decide) (by decide) (ty_6 hS.1.1) ?_
    refine Tr.tp 1 ((St.kp h2 (by decide) (by decide) (by decide)).trans en_6_6) ?_
    refine Tr.iconst (pc := 34) d_X5_takeOpening_34 (by decide) ?_
    refine Tr.iadd (pc := 35) d_X5_takeOpening_35 ?_
    refine Tr.tp 2 (by decide) ?_
    refine Tr.putfS (pc := 36) (P := St Tru ws_X5_takeOpening_6_w19 as_X5_takeOpening_6_w19 M0) d_X5_takeOpening_36 f_5_39 (by decide) (by decide) (ty_6 hS.1.1) (st_6_6 hS (by decide) (by omega) trivial) (fun M36 hS w36 => ?_)
    refine Tr.aload_n (pc := 39) (i := 0) d_X5_takeOpening_39 rfl rfl ?_
    refine Tr.callV (pc := 40) (as := []) d_X5_takeOpening_40 s_5_74 ok_X5_goOn rfl rfl (Nat.le_of_ble_eq_true rfl) (Nat.le_of_ble_eq_true rfl) (by decide) (ty_6 hS.1.1) ?_
    refine Tr.imp (Tr.deep (by decide) (sp_X5_goOn_6 hS.1 )) ?_
    rintro M40 _ ⟨h40, r40, rfl, lr40, ur40⟩
    have hS := St.tr hS h40 (by decide) (by decide)
    refine Tr.sc [(0, r40)] rfl ?_
    exact Tr.zret (pc := 43) d_X5_takeOpening_43 rfl (by omega) ⟨hS, _, rfl, by omega, by omega, fun _ => ((St.kp h40 (by decide) (by decide) (by decide)).trans w36.1)⟩
  · refine Tr.aload_n (pc := 8) (i := 0) d_X5_takeOpening_8 rfl rfl ?_
    refine Tr.iconst (pc := 9) d_X5_takeOpening_9 (by decide) ?_
    refine Tr.callV (pc := 10) (as := [_]) d_X5_takeOpening_10 s_5_56 ok_X5_refuse rfl rfl (Nat.le_of_ble_eq_true rfl) (Nat.le_of_ble_eq_true rfl) (by decide) (ty_6 hS.1.1) ?_
    refine Tr.imp (Tr.deep (by decide) (sp_X5_refuse_6_w1 hS.1 ((St.kp hS (by decide) (by decide) (by decide)).trans en_6_2) 1 (by omega))) ?_
    rintro M10 _ ⟨h10, r10, rfl, lr10, ur10⟩
    have hS := St.tr hS h10 (by decide) (by decide)
    refine Tr.sc [(0, r10)] rfl ?_
    exact Tr.zret (pc := 13) d_X5_takeOpening_13 rfl (by omega) ⟨hS, _, rfl, by omega, by omega, fun hq => absurd hq (by omega)⟩

def ws_X5_takeOpening_6_w20 : List (Int × Int) := [(6, 0), (6, 1), (6, 5), (6, 6)]
def as_X5_takeOpening_6_w20 : List Int := []
def q_X5_takeOpening_6_w20 (M0 M' : Mem) (r : Option PV) : Prop := St Tru ws_X5_takeOpening_6_w20 as_X5_takeOpening_6_w20 M0 M' ∧ ∃ v : Int, r = some (0, v) ∧ 0 ≤ v ∧ v ≤ 1 ∧ ((1 ≤ v ∧ v ≤ 1) → rd M' 6 6 = 3)
set_option maxRecDepth 100000 in
set_option maxHeartbeats 4000000 in
theorem sp_X5_takeOpening_6_w20 {l : Launch} {K : EC} {M0 : Mem} (hI : In Tru M0) (en_6_2 : rd M0 6 2 = 2) (en_6_6 : rd M0 6 6 = 2) (a1 : Int) (ha1 : 123 ≤ a1 ∧ a1 ≤ 123)  : Tr l K 1 mX5_takeOpening 0 [(0, (2, 6)), (1, (0, a1))] [] M0 (q_X5_takeOpening_6_w20 M0) := by
  have hS : St Tru ws_X5_takeOpening_6_w20 as_X5_takeOpening_6_w20 M0 M0 := St.rf hI
  refine Tr.aload_n (pc := 0) (i := 0) d_X5_takeOpening_0 rfl rfl ?_
  refine Tr.iload_n (pc := 1) (i := 1) d_X5_takeOpening_1 rfl rfl ?_
  refine Tr.tp 123 (by omega) ?_
  refine Tr.callV (pc := 2) (as := [_]) d_X5_takeOpening_2 s_5_77 ok_X5_isSign rfl rfl (Nat.le_of_ble_eq_true rfl) (Nat.le_of_ble_eq_true rfl) (by decide) (ty_6 hS.1.1) ?_
  refine Tr.imp (Tr.deep (by decide) (sp_X5_isSign_6_w5 hS.1 ((St.kp hS (by decide) (by decide) (by decide)).trans en_6_2) 123 (by omega))) ?_
  rintro M2 _ ⟨h2, r2, rfl, lr2, ur2⟩
  have hS := St.tr hS h2 (by decide) (by decide)
  refine Tr.sc [(0, r2)] rfl ?_
  refine Tr.if_ne (pc := 5) (tgt := 14) d_X5_takeOpening_5 rfl (fun c5 => ?_) (fun c5 => ?_)
  · refine Tr.aload_n (pc := 14) (i := 0) d_X5_takeOpening_14 rfl rfl ?_
    refine Tr.getf (pc := 15) d_X5_takeOpening_15 f_5_39 (by decide) (by decide) (ty_6 hS.1.1) ?_
    refine Tr.tp 2 ((St.kp h2 (by decide) (by decide) (by decide)).trans en_6_6) ?_
    refine Tr.bipush (pc := 18) d_X5_takeOpening_18 rfl (by decide) ?_
    refine Tr.icmp_ne (pc := 20) (tgt := 29) d_X5_takeOpening_20 rfl (fun _ => ?_) (fun hc => absurd hc (by omega))
    refine Tr.aload_n (pc := 29) (i := 0) d_X5_takeOpening_29 rfl rfl ?_
    refine Tr.dup (pc := 30) d_X5_takeOpening_30 ne21 ?_
    refine Tr.getf (pc := 31) d_X5_takeOpening_31 f_5_39 (by decide) (by decide) (ty_6 hS.1.1) ?_
    refine Tr.tp 2 ((St.kp h2 (by decide) (by decide) (by decide)).trans en_6_6) ?_
    refine Tr.iconst (pc := 34) d_X5_takeOpening_34 (by decide) ?_
    refine Tr.iadd (pc := 35) d_X5_takeOpening_35 ?_
    refine Tr.tp 3 (by decide) ?_
    refine Tr.putfS (pc := 36) (P := St Tru ws_X5_takeOpening_6_w20 as_X5_takeOpening_6_w20 M0) d_X5_takeOpening_36 f_5_39 (by decide) (by decide) (ty_6 hS.1.1) (st_6_6 hS (by decide) (by omega) trivial) (fun M36 hS w36 => ?_)
    refine Tr.aload_n (pc := 39) (i := 0) d_X5_takeOpening_39 rfl rfl ?_
    refine Tr.callV (pc := 40) (as := []) d_X5_takeOpening_40 s_5_74 ok_X5_goOn rfl rfl (Nat.le_of_ble_eq_true rfl) (Nat.le_of_ble_eq_true rfl) (by decide) (ty_6 hS.1.1) ?_
    refine Tr.imp (Tr.deep (by decide) (sp_X5_goOn_6 hS.1 )) ?_
    rintro M40 _ ⟨h40, r40, rfl, lr40, ur40⟩
    have hS := St.tr hS h40 (by decide) (by decide)
    refine Tr.sc [(0, r40)] rfl ?_
    exact Tr.zret (pc := 43) d_X5_takeOpening_43 rfl (by omega) ⟨hS, _, rfl, by omega, by omega, fun _ => ((St.kp h40 (by decide) (by decide) (by decide)).trans w36.1)⟩
  · refine Tr.aload_n (pc := 8) (i := 0) d_X5_takeOpening_8 rfl rfl ?_
    refine Tr.iconst (pc := 9) d_X5_takeOpening_9 (by decide) ?_
    refine Tr.callV (pc := 10) (as := [_]) d_X5_takeOpening_10 s_5_56 ok_X5_refuse rfl rfl (Nat.le_of_ble_eq_true rfl) (Nat.le_of_ble_eq_true rfl) (by decide) (ty_6 hS.1.1) ?_
    refine Tr.imp (Tr.deep (by decide) (sp_X5_refuse_6_w1 hS.1 ((St.kp hS (by decide) (by decide) (by decide)).trans en_6_2) 1 (by omega))) ?_
    rintro M10 _ ⟨h10, r10, rfl, lr10, ur10⟩
    have hS := St.tr hS h10 (by decide) (by decide)
    refine Tr.sc [(0, r10)] rfl ?_
    exact Tr.zret (pc := 13) d_X5_takeOpening_13 rfl (by omega) ⟨hS, _, rfl, by omega, by omega, fun hq => absurd hq (by omega)⟩

def ws_X5_takeOpening_6_w21 : List (Int × Int) := [(6, 0), (6, 1), (6, 5), (6, 6)]
def as_X5_takeOpening_6_w21 : List Int := []
def q_X5_takeOpening_6_w21 (M0 M' : Mem) (r : Option PV) : Prop := St Tru ws_X5_takeOpening_6_w21 as_X5_takeOpening_6_w21 M0 M' ∧ ∃ v : Int, r = some (0, v) ∧ 0 ≤ v ∧ v ≤ 1 ∧ ((1 ≤ v ∧ v ≤ 1) → rd M' 6 6 = 4)
set_option maxRecDepth 100000 in
set_option maxHeartbeats 4000000 in
theorem sp_X5_takeOpening_6_w21 {l : Launch} {K : EC} {M0 : Mem} (hI : In Tru M0) (en_6_2 : rd M0 6 2 = 2) (en_6_6 : rd M0 6 6 = 3) (a1 : Int) (ha1 : 123 ≤ a1 ∧ a1 ≤ 123)  : Tr l K 1 mX5_takeOpening 0 [(0, (2, 6)), (1, (0, a1))] [] M0 (q_X5_takeOpening_6_w21 M0) := by
  have hS : St Tru ws_X5_takeOpening_6_w21 as_X5_takeOpening_6_w21 M0 M0 := St.rf hI
  refine Tr.aload_n (pc := 0) (i := 0) d_X5_takeOpening_0 rfl rfl ?_
  refine Tr.iload_n (pc := 1) (i := 1) d_X5_takeOpening_1 rfl rfl ?_
  refine Tr.tp 123 (by omega) ?_
  refine Tr.callV (pc := 2) (as := [_]) d_X5_takeOpening_2 s_5_77 ok_X5_isSign rfl rfl (Nat.le_of_ble_eq_true rfl) (Nat.le_of_ble_eq_true rfl) (by decide) (ty_6 hS.1.1) ?_
  refine Tr.imp (Tr.deep (by decide) (sp_X5_isSign_6_w5 hS.1 ((St.kp hS (by decide) (by decide) (by decide)).trans en_6_2) 123 (by omega))) ?_
  rintro M2 _ ⟨h2, r2, rfl, lr2, ur2⟩
  have hS := St.tr hS h2 (by decide) (by decide)
  refine Tr.sc [(0, r2)] rfl ?_
  refine Tr.if_ne (pc := 5) (tgt := 14) d_X5_takeOpening_5 rfl (fun c5 => ?_) (fun c5 => ?_)
  · refine Tr.aload_n (pc := 14) (i := 0) d_X5_takeOpening_14 rfl rfl ?_
    refine Tr.getf (pc := 15) d_X5_takeOpening_15 f_5_39 (by decide) (by decide) (ty_6 hS.1.1) ?_
    refine Tr.tp 3 ((St.kp h2 (by decide) (by decide) (by decide)).trans en_6_6) ?_
    refine Tr.bipush (pc := 18) d_X5_takeOpening_18 rfl (by decide) ?_
    refine Tr.icmp_ne (pc := 20) (tgt := 29) d_X5_takeOpening_20 rfl (fun _ => ?_) (fun hc => absurd hc (by omega))
    refine Tr.aload_n (pc := 29) (i := 0) d_X5_takeOpening_29 rfl rfl ?_
    refine Tr.dup (pc := 30) d_X5_takeOpening_30 ne21 ?_
    refine Tr.getf (pc := 31) d_X5_takeOpening_31 f_5_39 (by decide) (by decide) (ty_6 hS.1.1) ?_
    refine Tr.tp 3 ((St.kp h2 (by decide) (by decide) (by decide)).trans en_6_6) ?_
    refine Tr.iconst (pc := 34) d_X5_takeOpening_34 (by decide) ?_
    refine Tr.iadd (pc := 35) d_X5_takeOpening_35 ?_
    refine Tr.tp 4 (by decide) ?_
    refine Tr.putfS (pc := 36) (P := St Tru ws_X5_takeOpening_6_w21 as_X5_takeOpening_6_w21 M0) d_X5_takeOpening_36 f_5_39 (by decide) (by decide) (ty_6 hS.1.1) (st_6_6 hS (by decide) (by omega) trivial) (fun M36 hS w36 => ?_)
    refine Tr.aload_n (pc := 39) (i := 0) d_X5_takeOpening_39 rfl rfl ?_
    refine Tr.callV (pc := 40) (as := []) d_X5_takeOpening_40 s_5_74 ok_X5_goOn rfl rfl (Nat.le_of_ble_eq_true rfl) (Nat.le_of_ble_eq_true rfl) (by decide) (ty_6 hS.1.1) ?_
    refine Tr.imp (Tr.deep (by decide) (sp_X5_goOn_6 hS.1 )) ?_
    rintro M40 _ ⟨h40, r40, rfl, lr40, ur40⟩
    have hS := St.tr hS h40 (by decide) (by decide)
    refine Tr.sc [(0, r40)] rfl ?_
    exact Tr.zret (pc := 43) d_X5_takeOpening_43 rfl (by omega) ⟨hS, _, rfl, by omega, by omega, fun _ => ((St.kp h40 (by decide) (by decide) (by decide)).trans w36.1)⟩
  · refine Tr.aload_n (pc := 8) (i := 0) d_X5_takeOpening_8 rfl rfl ?_
    refine Tr.iconst (pc := 9) d_X5_takeOpening_9 (by decide) ?_
    refine Tr.callV (pc := 10) (as := [_]) d_X5_takeOpening_10 s_5_56 ok_X5_refuse rfl rfl (Nat.le_of_ble_eq_true rfl) (Nat.le_of_ble_eq_true rfl) (by decide) (ty_6 hS.1.1) ?_
    refine Tr.imp (Tr.deep (by decide) (sp_X5_refuse_6_w1 hS.1 ((St.kp hS (by decide) (by decide) (by decide)).trans en_6_2) 1 (by omega))) ?_
    rintro M10 _ ⟨h10, r10, rfl, lr10, ur10⟩
    have hS := St.tr hS h10 (by decide) (by decide)
    refine Tr.sc [(0, r10)] rfl ?_
    exact Tr.zret (pc := 13) d_X5_takeOpening_13 rfl (by omega) ⟨hS, _, rfl, by omega, by omega, fun hq => absurd hq (by omega)⟩

def ws_X5_takeOpening_6_w22 : List (Int × Int) := [(6, 0), (6, 1), (6, 5), (6, 6)]
def as_X5_takeOpening_6_w22 : List Int := []
def q_X5_takeOpening_6_w22 (M0 M' : Mem) (r : Option PV) : Prop := St Tru ws_X5_takeOpening_6_w22 as_X5_takeOpening_6_w22 M0 M' ∧ ∃ v : Int, r = some (0, v) ∧ 0 ≤ v ∧ v ≤ 1 ∧ ((1 ≤ v ∧ v ≤ 1) → rd M' 6 6 = 5)
set_option maxRecDepth 100000 in
set_option maxHeartbeats 4000000 in
theorem sp_X5_takeOpening_6_w22 {l : Launch} {K : EC} {M0 : Mem} (hI : In Tru M0) (en_6_2 : rd M0 6 2 = 2) (en_6_6 : rd M0 6 6 = 4) (a1 : Int) (ha1 : 123 ≤ a1 ∧ a1 ≤ 123)  : Tr l K 1 mX5_takeOpening 0 [(0, (2, 6)), (1, (0, a1))] [] M0 (q_X5_takeOpening_6_w22 M0) := by
  have hS : St Tru ws_X5_takeOpening_6_w22 as_X5_takeOpening_6_w22 M0 M0 := St.rf hI
  refine Tr.aload_n (pc := 0) (i := 0) d_X5_takeOpening_0 rfl rfl ?_
  refine Tr.iload_n (pc := 1) (i := 1) d_X5_takeOpening_1 rfl rfl ?_
  refine Tr.tp 123 (by omega) ?_
  refine Tr.callV (pc := 2) (as := [_]) d_X5_takeOpening_2 s_5_77 ok_X5_isSign rfl rfl (Nat.le_of_ble_eq_true rfl) (Nat.le_of_ble_eq_true rfl) (by decide) (ty_6 hS.1.1) ?_
  refine Tr.imp (Tr.deep (by decide) (sp_X5_isSign_6_w5 hS.1 ((St.kp hS (by decide) (by decide) (by decide)).trans en_6_2) 123 (by omega))) ?_
  rintro M2 _ ⟨h2, r2, rfl, lr2, ur2⟩
  have hS := St.tr hS h2 (by decide) (by decide)
  refine Tr.sc [(0, r2)] rfl ?_
  refine Tr.if_ne (pc := 5) (tgt := 14) d_X5_takeOpening_5 rfl (fun c5 => ?_) (fun c5 => ?_)
  · refine Tr.aload_n (pc := 14) (i := 0) d_X5_takeOpening_14 rfl rfl ?_
    refine Tr.getf (pc := 15) d_X5_takeOpening_15 f_5_39 (by decide) (by decide) (ty_6 hS.1.1) ?_
    refine Tr.tp 4 ((St.kp h2 (by decide) (by decide) (by decide)).trans en_6_6) ?_
    refine Tr.bipush (pc := 18) d_X5_takeOpening_18 rfl (by decide) ?_
    refine Tr.icmp_ne (pc := 20) (tgt := 29) d_X5_takeOpening_20 rfl (fun _ => ?_) (fun hc => absurd hc (by omega))
    refine Tr.aload_n (pc := 29) (i := 0) d_X5_takeOpening_29 rfl rfl ?_
    refine Tr.dup (pc := 30) d_X5_takeOpening_30 ne21 ?_
    refine Tr.getf (pc := 31) d_X5_takeOpening_31 f_5_39 (by decide) (by decide) (ty_6 hS.1.1) ?_
    refine Tr.tp 4 ((St.kp h2 (by decide) (by decide) (by decide)).trans en_6_6) ?_
    refine Tr.iconst (pc := 34) d_X5_takeOpening_34 (by decide) ?_
    refine Tr.iadd (pc := 35) d_X5_takeOpening_35 ?_
    refine Tr.tp 5 (by decide) ?_
    refine Tr.putfS (pc := 36) (P := St Tru ws_X5_takeOpening_6_w22 as_X5_takeOpening_6_w22 M0) d_X5_takeOpening_36 f_5_39 (by decide) (by decide) (ty_6 hS.1.1) (st_6_6 hS (by decide) (by omega) trivial) (fun M36 hS w36 => ?_)
    refine Tr.aload_n (pc := 39) (i := 0) d_X5_takeOpening_39 rfl rfl ?_
    refine Tr.callV (pc := 40) (as := []) d_X5_takeOpening_40 s_5_74 ok_X5_goOn rfl rfl (Nat.le_of_ble_eq_true rfl) (Nat.le_of_ble_eq_true rfl) (by decide) (ty_6 hS.1.1) ?_
    refine Tr.imp (Tr.deep (by decide) (sp_X5_goOn_6 hS.1 )) ?_
    rintro M40 _ ⟨h40, r40, rfl, lr40, ur40⟩
    have hS := St.tr hS h40 (by decide) (by decide)
    refine Tr.sc [(0, r40)] rfl ?_
    exact Tr.zret (pc := 43) d_X5_takeOpening_43 rfl (by omega) ⟨hS, _, rfl, by omega, by omega, fun _ => ((St.kp h40 (by decide) (by decide) (by decide)).trans w36.1)⟩
  · refine Tr.aload_n (pc := 8) (i := 0) d_X5_takeOpening_8 rfl rfl ?_
    refine Tr.iconst (pc := 9) d_X5_takeOpening_9 (by decide) ?_
    refine Tr.callV (pc := 10) (as := [_]) d_X5_takeOpening_10 s_5_56 ok_X5_refuse rfl rfl (Nat.le_of_ble_eq_true rfl) (Nat.le_of_ble_eq_true rfl) (by decide) (ty_6 hS.1.1) ?_
    refine Tr.imp (Tr.deep (by decide) (sp_X5_refuse_6_w1 hS.1 ((St.kp hS (by decide) (by decide) (by decide)).trans en_6_2) 1 (by omega))) ?_
    rintro M10 _ ⟨h10, r10, rfl, lr10, ur10⟩
    have hS := St.tr hS h10 (by decide) (by decide)
    refine Tr.sc [(0, r10)] rfl ?_
    exact Tr.zret (pc := 13) d_X5_takeOpening_13 rfl (by omega) ⟨hS, _, rfl, by omega, by omega, fun hq => absurd hq (by omega)⟩
end
/-! 30.19 -/
section
def ws_X5_takeOpening_6_w23 : List (Int × Int) := [(6, 0), (6, 1), (6, 5), (6, 6)]
def as_X5_takeOpening_6_w23 : List Int := []
def q_X5_takeOpening_6_w23 (M0 M' : Mem) (r : Option PV) : Prop := St Tru ws_X5_takeOpening_6_w23 as_X5_takeOpening_6_w23 M0 M' ∧ ∃ v : Int, r = some (0, v) ∧ 0 ≤ v ∧ v ≤ 1 ∧ ((1 ≤ v ∧ v ≤ 1) → rd M' 6 6 = 6)
set_option maxRecDepth 100000 in
set_option maxHeartbeats 4000000 in
theorem sp_X5_takeOpening_6_w23 {l : Launch} {K : EC} {M0 : Mem} (hI : In Tru M0) (en_6_2 : rd M0 6 2 = 2) (en_6_6 : rd M0 6 6 = 5) (a1 : Int) (ha1 : 123 ≤ a1 ∧ a1 ≤ 123)  : Tr l K 1 mX5_takeOpening 0 [(0, (2, 6)), (1, (0, a1))] [] M0 (q_X5_takeOpening_6_w23 M0) := by
  have hS : St Tru ws_X5_takeOpening_6_w23 as_X5_takeOpening_6_w23 M0 M0 := St.rf hI
  refine Tr.aload_n (pc := 0) (i := 0) d_X5_takeOpening_0 rfl rfl ?_
  refine Tr.iload_n (pc := 1) (i := 1) d_X5_takeOpening_1 rfl rfl ?_
  refine Tr.tp 123 (by omega) ?_
  refine Tr.callV (pc := 2) (as := [_]) d_X5_takeOpening_2 s_5_77 ok_X5_isSign rfl rfl (Nat.le_of_ble_eq_true rfl) (Nat.le_of_ble_eq_true rfl) (by decide) (ty_6 hS.1.1) ?_
  refine Tr.imp (Tr.deep (by decide) (sp_X5_isSign_6_w5 hS.1 ((St.kp hS (by decide) (by decide) (by decide)).trans en_6_2) 123 (by omega))) ?_
  rintro M2 _ ⟨h2, r2, rfl, lr2, ur2⟩
  have hS := St.tr hS h2 (by decide) (by decide)
  refine Tr.sc [(0, r2)] rfl ?_
  refine Tr.if_ne (pc := 5) (tgt := 14) d_X5_takeOpening_5 rfl (fun c5 => ?_) (fun c5 => ?_)
  · refine Tr.aload_n (pc := 14) (i := 0) d_X5_takeOpening_14 rfl rfl ?_
    refine Tr.getf (pc := 15) d_X5_takeOpening_15 f_5_39 (by decide) (by decide) (ty_6 hS.1.1) ?_
    refine Tr.tp 5 ((St.kp h2 (by decide) (by decide) (by decide)).trans en_6_6) ?_
    refine Tr.bipush (pc := 18) d_X5_takeOpening_18 rfl (by decide) ?_
    refine Tr.icmp_ne (pc := 20) (tgt := 29) d_X5_takeOpening_20 rfl (fun _ => ?_) (fun hc => absurd hc (by omega))
    refine Tr.aload_n (pc := 29) (i := 0) d_X5_takeOpening_29 rfl rfl ?_
    refine Tr.dup (pc := 30) d_X5_takeOpening_30 ne21 ?_
    refine Tr.getf (pc := 31) d_X5_takeOpening_31 f_5_39 (by decide) (by decide) (ty_6 hS.1.1) ?_
    refine Tr.tp 5 ((St.kp h2 (by decide) (by decide) (by decide)).trans en_6_6) ?_
    refine Tr.iconst (pc := 34) d_X5_takeOpening_34 (by decide) ?_
    refine Tr.iadd (pc := 35) d_X5_takeOpening_35 ?_
    refine Tr.tp 6 (by decide) ?_
    refine Tr.putfS (pc := 36) (P := St Tru ws_X5_takeOpening_6_w23 as_X5_takeOpening_6_w23 M0) d_X5_takeOpening_36 f_5_39 (by decide) (by decide) (ty_6 hS.1.1) (st_6_6 hS (by decide) (by omega) trivial) (fun M36 hS w36 => ?_)
    refine Tr.aload_n (pc := 39) (i := 0) d_X5_takeOpening_39 rfl rfl ?_
    refine Tr.callV (pc := 40) (as := []) d_X5_takeOpening_40 s_5_74 ok_X5_goOn rfl rfl (Nat.le_of_ble_eq_true rfl) (Nat.le_of_ble_eq_true rfl) (by decide) (ty_6 hS.1.1) ?_
    refine Tr.imp (Tr.deep (by decide) (sp_X5_goOn_6 hS.1 )) ?_
    rintro M40 _ ⟨h40, r40, rfl, lr40, ur40⟩
    have hS := St.tr hS h40 (by decide) (by decide)
    refine Tr.sc [(0, r40)] rfl ?_
    exact Tr.zret (pc := 43) d_X5_takeOpening_43 rfl (by omega) ⟨hS, _, rfl, by omega, by omega, fun _ => ((St.kp h40 (by decide) (by decide) (by decide)).trans w36.1)⟩
  · refine Tr.aload_n (pc := 8) (i := 0) d_X5_takeOpening_8 rfl rfl ?_
    refine Tr.iconst (pc := 9) d_X5_takeOpening_9 (by decide) ?_
    refine Tr.callV (pc := 10) (as := [_]) d_X5_takeOpening_10 s_5_56 ok_X5_refuse rfl rfl (Nat.le_of_ble_eq_true rfl) (Nat.le_of_ble_eq_true rfl) (by decide) (ty_6 hS.1.1) ?_
    refine Tr.imp (Tr.deep (by decide) (sp_X5_refuse_6_w1 hS.1 ((St.kp hS (by decide) (by decide) (by decide)).trans en_6_2) 1 (by omega))) ?_
    rintro M10 _ ⟨h10, r10, rfl, lr10, ur10⟩
    have hS := St.tr hS h10 (by decide) (by decide)
    refine Tr.sc [(0, r10)] rfl ?_
    exact Tr.zret (pc := 13) d_X5_takeOpening_13 rfl (by omega) ⟨hS, _, rfl, by omega, by omega, fun hq => absurd hq (by omega)⟩

def ws_X5_takeOpening_6_w24 : List (Int × Int) := [(6, 0), (6, 1), (6, 5), (6, 6)]
def as_X5_takeOpening_6_w24 : List Int := []
def q_X5_takeOpening_6_w24 (M0 M' : Mem) (r : Option PV) : Prop := St Tru ws_X5_takeOpening_6_w24 as_X5_takeOpening_6_w24 M0 M' ∧ ∃ v : Int, r = some (0, v) ∧ 0 ≤ v ∧ v ≤ 1 ∧ ((1 ≤ v ∧ v ≤ 1) → rd M' 6 6 = 7)
set_option maxRecDepth 100000 in
set_option maxHeartbeats 4000000 in
theorem sp_X5_takeOpening_6_w24 {l : Launch} {K : EC} {M0 : Mem} (hI : In Tru M0) (en_6_2 : rd M0 6 2 = 2) (en_6_6 : rd M0 6 6 = 6) (a1 : Int) (ha1 : 123 ≤ a1 ∧ a1 ≤ 123)  : Tr l K 1 mX5_takeOpening 0 [(0, (2, 6)), (1, (0, a1))] [] M0 (q_X5_takeOpening_6_w24 M0) := by
  have hS : St Tru ws_X5_takeOpening_6_w24 as_X5_takeOpening_6_w24 M0 M0 := St.rf hI
  refine Tr.aload_n (pc := 0) (i := 0) d_X5_takeOpening_0 rfl rfl ?_
  refine Tr.iload_n (pc := 1) (i := 1) d_X5_takeOpening_1 rfl rfl ?_
  refine Tr.tp 123 (by omega) ?_
  refine Tr.callV (pc := 2) (as := [_]) d_X5_takeOpening_2 s_5_77 ok_X5_isSign rfl rfl (Nat.le_of_ble_eq_true rfl) (Nat.le_of_ble_eq_true rfl) (by decide) (ty_6 hS.1.1) ?_
  refine Tr.imp (Tr.deep (by decide) (sp_X5_isSign_6_w5 hS.1 ((St.kp hS (by decide) (by decide) (by decide)).trans en_6_2) 123 (by omega))) ?_
  rintro M2 _ ⟨h2, r2, rfl, lr2, ur2⟩
  have hS := St.tr hS h2 (by decide) (by decide)
  refine Tr.sc [(0, r2)] rfl ?_
  refine Tr.if_ne (pc := 5) (tgt := 14) d_X5_takeOpening_5 rfl (fun c5 => ?_) (fun c5 => ?_)
  · refine Tr.aload_n (pc := 14) (i := 0) d_X5_takeOpening_14 rfl rfl ?_
    refine Tr.getf (pc := 15) d_X5_takeOpening_15 f_5_39 (by decide) (by decide) (ty_6 hS.1.1) ?_
    refine Tr.tp 6 ((St.kp h2 (by decide) (by decide) (by decide)).trans en_6_6) ?_
    refine Tr.bipush (pc := 18) d_X5_takeOpening_18 rfl (by decide) ?_
    refine Tr.icmp_ne (pc := 20) (tgt := 29) d_X5_takeOpening_20 rfl (fun _ => ?_) (fun hc => absurd hc (by omega))
    refine Tr.aload_n (pc := 29) (i := 0) d_X5_takeOpening_29 rfl rfl ?_
    refine Tr.dup (pc := 30) d_X5_takeOpening_30 ne21 ?_
    refine Tr.getf (pc := 31) d_X5_takeOpening_31 f_5_39 (by decide) (by decide) (ty_6 hS.1.1) ?_
    refine Tr.tp 6 ((St.kp h2 (by decide) (by decide) (by decide)).trans en_6_6) ?_
    refine Tr.iconst (pc := 34) d_X5_takeOpening_34 (by decide) ?_
    refine Tr.iadd (pc := 35) d_X5_takeOpening_35 ?_
    refine Tr.tp 7 (by decide) ?_
    refine Tr.putfS (pc := 36) (P := St Tru ws_X5_takeOpening_6_w24 as_X5_takeOpening_6_w24 M0) d_X5_takeOpening_36 f_5_39 (by decide) (by decide) (ty_6 hS.1.1) (st_6_6 hS (by decide) (by omega) trivial) (fun M36 hS w36 => ?_)
    refine Tr.aload_n (pc := 39) (i := 0) d_X5_takeOpening_39 rfl rfl ?_
    refine Tr.callV (pc := 40) (as := []) d_X5_takeOpening_40 s_5_74 ok_X5_goOn rfl rfl (Nat.le_of_ble_eq_true rfl) (Nat.le_of_ble_eq_true rfl) (by decide) (ty_6 hS.1.1) ?_
    refine Tr.imp (Tr.deep (by decide) (sp_X5_goOn_6 hS.1 )) ?_
    rintro M40 _ ⟨h40, r40, rfl, lr40, ur40⟩
    have hS := St.tr hS h40 (by decide) (by decide)
    refine Tr.sc [(0, r40)] rfl ?_
    exact Tr.zret (pc := 43) d_X5_takeOpening_43 rfl (by omega) ⟨hS, _, rfl, by omega, by omega, fun _ => ((St.kp h40 (by decide) (by decide) (by decide)).trans w36.1)⟩
  · refine Tr.aload_n (pc := 8) (i := 0) d_X5_takeOpening_8 rfl rfl ?_
    refine Tr.iconst (pc := 9) d_X5_takeOpening_9 (by decide) ?_
    refine Tr.callV (pc := 10) (as := [_]) d_X5_takeOpening_10 s_5_56 ok_X5_refuse rfl rfl (Nat.le_of_ble_eq_true rfl) (Nat.le_of_ble_eq_true rfl) (by decide) (ty_6 hS.1.1) ?_
    refine Tr.imp (Tr.deep (by decide) (sp_X5_refuse_6_w1 hS.1 ((St.kp hS (by decide) (by decide) (by decide)).trans en_6_2) 1 (by omega))) ?_
    rintro M10 _ ⟨h10, r10, rfl, lr10, ur10⟩
    have hS := St.tr hS h10 (by decide) (by decide)
    refine Tr.sc [(0, r10)] rfl ?_
    exact Tr.zret (pc := 13) d_X5_takeOpening_13 rfl (by omega) ⟨hS, _, rfl, by omega, by omega, fun hq => absurd hq (by omega)⟩

def ws_X5_takeOpening_6_w25 : List (Int × Int) := [(6, 0), (6, 1), (6, 5), (6, 6)]
def as_X5_takeOpening_6_w25 : List Int := []
def q_X5_takeOpening_6_w25 (M0 M' : Mem) (r : Option PV) : Prop := St Tru ws_X5_takeOpening_6_w25 as_X5_takeOpening_6_w25 M0 M' ∧ ∃ v : Int, r = some (0, v) ∧ 0 ≤ v ∧ v ≤ 1 ∧ ((1 ≤ v ∧ v ≤ 1) → rd M' 6 6 = 8)
set_option maxRecDepth 100000 in
set_option maxHeartbeats 4000000 in
theorem sp_X5_takeOpening_6_w25 {l : Launch} {K : EC} {M0 : Mem} (hI : In Tru M0) (en_6_2 : rd M0 6 2 = 2) (en_6_6 : rd M0 6 6 = 7) (a1 : Int) (ha1 : 123 ≤ a1 ∧ a1 ≤ 123)  : Tr l K 1 mX5_takeOpening 0 [(0, (2, 6)), (1, (0, a1))] [] M0 (q_X5_takeOpening_6_w25 M0) := by
  have hS : St Tru ws_X5_takeOpening_6_w25 as_X5_takeOpening_6_w25 M0 M0 := St.rf hI
  refine Tr.aload_n (pc := 0) (i := 0) d_X5_takeOpening_0 rfl rfl ?_
  refine Tr.iload_n (pc := 1) (i := 1) d_X5_takeOpening_1 rfl rfl ?_
  refine Tr.tp 123 (by omega) ?_
  refine Tr.callV (pc := 2) (as := [_]) d_X5_takeOpening_2 s_5_77 ok_X5_isSign rfl rfl (Nat.le_of_ble_eq_true rfl) (Nat.le_of_ble_eq_true rfl) (by decide) (ty_6 hS.1.1) ?_
  refine Tr.imp (Tr.deep (by decide) (sp_X5_isSign_6_w5 hS.1 ((St.kp hS (by decide) (by decide) (by decide)).trans en_6_2) 123 (by omega))) ?_
  rintro M2 _ ⟨h2, r2, rfl, lr2, ur2⟩
  have hS := St.tr hS h2 (by decide) (by decide)
  refine Tr.sc [(0, r2)] rfl ?_
  refine Tr.if_ne (pc := 5) (tgt := 14) d_X5_takeOpening_5 rfl (fun c5 => ?_) (fun c5 => ?_)
  · refine Tr.aload_n (pc := 14) (i := 0) d_X5_takeOpening_14 rfl rfl ?_
    refine Tr.getf (pc := 15) d_X5_takeOpening_15 f_5_39 (by decide) (by decide) (ty_6 hS.1.1) ?_
    refine Tr.tp 7 ((St.kp h2 (by decide) (by decide) (by decide)).trans en_6_6) ?_
    refine Tr.bipush (pc := 18) d_X5_takeOpening_18 rfl (by decide) ?_
    refine Tr.icmp_ne (pc := 20) (tgt := 29) d_X5_takeOpening_20 rfl (fun _ => ?_) (fun hc => absurd hc (by omega))
    refine Tr.aload_n (pc := 29) (i := 0) d_X5_takeOpening_29 rfl rfl ?_
    refine Tr.dup (pc := 30) d_X5_takeOpening_30 ne21 ?_
    refine Tr.getf (pc := 31) d_X5_takeOpening_31 f_5_39 (by decide) (by decide) (ty_6 hS.1.1) ?_
    refine Tr.tp 7 ((St.kp h2 (by decide) (by decide) (by decide)).trans en_6_6) ?_
    refine Tr.iconst (pc := 34) d_X5_takeOpening_34 (by decide) ?_
    refine Tr.iadd (pc := 35) d_X5_takeOpening_35 ?_
    refine Tr.tp 8 (by decide) ?_
    refine Tr.putfS (pc := 36) (P := St Tru ws_X5_takeOpening_6_w25 as_X5_takeOpening_6_w25 M0) d_X5_takeOpening_36 f_5_39 (by decide) (by decide) (ty_6 hS.1.1) (st_6_6 hS (by decide) (by omega) trivial) (fun M36 hS w36 => ?_)
    refine Tr.aload_n (pc := 39) (i := 0) d_X5_takeOpening_39 rfl rfl ?_
    refine Tr.callV (pc := 40) (as := []) d_X5_takeOpening_40 s_5_74 ok_X5_goOn rfl rfl (Nat.le_of_ble_eq_true rfl) (Nat.le_of_ble_eq_true rfl) (by decide) (ty_6 hS.1.1) ?_
    refine Tr.imp (Tr.deep (by decide) (sp_X5_goOn_6 hS.1 )) ?_
    rintro M40 _ ⟨h40, r40, rfl, lr40, ur40⟩
    have hS := St.tr hS h40 (by decide) (by decide)
    refine Tr.sc [(0, r40)] rfl ?_
    exact Tr.zret (pc := 43) d_X5_takeOpening_43 rfl (by omega) ⟨hS, _, rfl, by omega, by omega, fun _ => ((St.kp h40 (by decide) (by decide) (by decide)).trans w36.1)⟩
  · refine Tr.aload_n (pc := 8) (i := 0) d_X5_takeOpening_8 rfl rfl ?_
    refine Tr.iconst (pc := 9) d_X5_takeOpening_9 (by decide) ?_
    refine Tr.callV (pc := 10) (as := [_]) d_X5_takeOpening_10 s_5_56 ok_X5_refuse rfl rfl (Nat.le_of_ble_eq_true rfl) (Nat.le_of_ble_eq_true rfl) (by decide) (ty_6 hS.1.1) ?_
    refine Tr.imp (Tr.deep (by decide) (sp_X5_refuse_6_w1 hS.1 ((St.kp hS (by decide) (by decide) (by decide)).trans en_6_2) 1 (by omega))) ?_
    rintro M10 _ ⟨h10, r10, rfl, lr10, ur10⟩
    have hS := St.tr hS h10 (by decide) (by decide)
    refine Tr.sc [(0, r10)] rfl ?_
    exact Tr.zret (pc := 13) d_X5_takeOpening_13 rfl (by omega) ⟨hS, _, rfl, by omega, by omega, fun hq => absurd hq (by omega)⟩

def ws_X5_takeOpening_6_w26 : List (Int × Int) := [(6, 0), (6, 1)]
def as_X5_takeOpening_6_w26 : List Int := []
def q_X5_takeOpening_6_w26 (M0 M' : Mem) (r : Option PV) : Prop := St Tru ws_X5_takeOpening_6_w26 as_X5_takeOpening_6_w26 M0 M' ∧ ∃ v : Int, r = some (0, v) ∧ 0 ≤ v ∧ v ≤ 0
set_option maxRecDepth 100000 in
set_option maxHeartbeats 4000000 in
theorem sp_X5_takeOpening_6_w26 {l : Launch} {K : EC} {M0 : Mem} (hI : In Tru M0) (en_6_2 : rd M0 6 2 = 2) (en_6_6 : rd M0 6 6 = 8) (a1 : Int) (ha1 : 123 ≤ a1 ∧ a1 ≤ 123)  : Tr l K 1 mX5_takeOpening 0 [(0, (2, 6)), (1, (0, a1))] [] M0 (q_X5_takeOpening_6_w26 M0) := by
  have hS : St Tru ws_X5_takeOpening_6_w26 as_X5_takeOpening_6_w26 M0 M0 := St.rf hI
  refine Tr.aload_n (pc := 0) (i := 0) d_X5_takeOpening_0 rfl rfl ?_
  refine Tr.iload_n (pc := 1) (i := 1) d_X5_takeOpening_1 rfl rfl ?_
  refine Tr.tp 123 (by omega) ?_
  refine Tr.callV (pc := 2) (as := [_]) d_X5_takeOpening_2 s_5_77 ok_X5_isSign rfl rfl (Nat.le_of_ble_eq_true rfl) (Nat.le_of_ble_eq_true rfl) (by decide) (ty_6 hS.1.1) ?_
  refine Tr.imp (Tr.deep (by decide) (sp_X5_isSign_6_w5 hS.1 ((St.kp hS (by decide) (by decide) (by decide)).trans en_6_2) 123 (by omega))) ?_
  rintro M2 _ ⟨h2, r2, rfl, lr2, ur2⟩
  have hS := St.tr hS h2 (by decide) (by decide)
  refine Tr.sc [(0, r2)] rfl ?_
  refine Tr.if_ne (pc := 5) (tgt := 14) d_X5_takeOpening_5 rfl (fun c5 => ?_) (fun c5 => ?_)
  · refine Tr.aload_n (pc := 14) (i := 0) d_X5_takeOpening_14 rfl rfl ?_
    refine Tr.getf (pc := 15) d_X5_takeOpening_15 f_5_39 (by decide) (by decide) (ty_6 hS.1.1) ?_
    refine Tr.tp 8 ((St.kp h2 (by decide) (by decide) (by decide)).trans en_6_6) ?_
    refine Tr.bipush (pc := 18) d_X5_takeOpening_18 rfl (by decide) ?_
    refine Tr.icmp_ne (pc := 20) (tgt := 29) d_X5_takeOpening_20 rfl (fun hc => absurd (by omega) hc) (fun _ => ?_)
    refine Tr.aload_n (pc := 23) (i := 0) d_X5_takeOpening_23 rfl rfl ?_
    refine Tr.iconst (pc := 24) d_X5_takeOpening_24 (by decide) ?_
    refine Tr.callV (pc := 25) (as := [_]) d_X5_takeOpening_25 s_5_56 ok_X5_refuse rfl rfl (Nat.le_of_ble_eq_true rfl) (Nat.le_of_ble_eq_true rfl) (by decide) (ty_6 hS.1.1) ?_
    refine Tr.imp (Tr.deep (by decide) (sp_X5_refuse_6_w2 hS.1 ((St.kp hS (by decide) (by decide) (by decide)).trans en_6_2) 5 (by omega))) ?_
    rintro M25 _ ⟨h25, r25, rfl, lr25, ur25⟩
    have hS := St.tr hS h25 (by decide) (by decide)
    refine Tr.sc [(0, r25)] rfl ?_
    exact Tr.zret (pc := 28) d_X5_takeOpening_28 rfl (by omega) ⟨hS, _, rfl, by omega, by omega⟩
  · refine Tr.aload_n (pc := 8) (i := 0) d_X5_takeOpening_8 rfl rfl ?_
    refine Tr.iconst (pc := 9) d_X5_takeOpening_9 (by decide) ?_
    refine Tr.callV (pc := 10) (as := [_]) d_X5_takeOpening_10 s_5_56 ok_X5_refuse rfl rfl (Nat.le_of_ble_eq_true rfl) (Nat.le_of_ble_eq_true rfl) (by decide) (ty_6 hS.1.1) ?_
    refine Tr.imp (Tr.deep (by decide) (sp_X5_refuse_6_w1 hS.1 ((St.kp hS (by decide) (by decide) (by decide)).trans en_6_2) 1 (by omega))) ?_
    rintro M10 _ ⟨h10, r10, rfl, lr10, ur10⟩
    have hS := St.tr hS h10 (by decide) (by decide)
    refine Tr.sc [(0, r10)] rfl ?_
    exact Tr.zret (pc := 13) d_X5_takeOpening_13 rfl (by omega) ⟨hS, _, rfl, by omega, by omega⟩

def ws_X5_block_6_w8 : List (Int × Int) := [(6, 0), (6, 1)]
def as_X5_block_6_w8 : List Int := []
def q_X5_block_6_w8 (M0 M' : Mem) (r : Option PV) : Prop := St Tru ws_X5_block_6_w8 as_X5_block_6_w8 M0 M' ∧ ∃ v : Int, r = some (0, v) ∧ (-2) ≤ v ∧ v ≤ (-2)
set_option maxRecDepth 100000 in
set_option maxHeartbeats 4000000 in
theorem sp_X5_block_6_w8 {l : Launch} {K : EC} {M0 : Mem} (hI : In Tru M0) (en_6_2 : rd M0 6 2 = 2) (en_6_6 : rd M0 6 6 = 8) (a1 : Int) (ha1 : 0 ≤ a1 ∧ a1 ≤ 59)  : Tr l K 2 mX5_block 0 [(0, (2, 6)), (1, (0, a1))] [] M0 (q_X5_block_6_w8 M0) := by
  have hS : St Tru ws_X5_block_6_w8 as_X5_block_6_w8 M0 M0 := St.rf hI
  refine Tr.aload_n (pc := 0) (i := 0) d_X5_block_0 rfl rfl ?_
  refine Tr.bipush (pc := 1) d_X5_block_1 rfl (by decide) ?_
  refine Tr.callV (pc := 3) (as := [_]) d_X5_block_3 s_5_206 ok_X5_takeOpening rfl rfl (Nat.le_of_ble_eq_true rfl) (Nat.le_of_ble_eq_true rfl) (by decide) (ty_6 hS.1.1) ?_
  refine Tr.imp (Tr.deep (by decide) (sp_X5_takeOpening_6_w26 hS.1 ((St.kp hS (by decide) (by decide) (by decide)).trans en_6_2) en_6_6 123 (by omega))) ?_
  rintro M3 _ ⟨h3, r3, rfl, lr3, ur3⟩
  have hS := St.tr hS h3 (by decide) (by decide)
  refine Tr.sc [(0, r3)] rfl ?_
  refine Tr.if_ne (pc := 6) (tgt := 12) d_X5_block_6 rfl (fun hc => absurd (by omega) hc) (fun _ => ?_)
  refine Tr.bipush (pc := 9) d_X5_block_9 rfl (by decide) ?_
  exact Tr.iret (pc := 11) d_X5_block_11 rfl ⟨hS, _, rfl, by omega, by omega⟩

def ws_X5_yesBlock_6_w8 : List (Int × Int) := [(6, 0), (6, 1)]
def as_X5_yesBlock_6_w8 : List Int := [39]
def q_X5_yesBlock_6_w8 (M0 M' : Mem) (r : Option PV) : Prop := St Tru ws_X5_yesBlock_6_w8 as_X5_yesBlock_6_w8 M0 M' ∧ ∃ v : Int, r = some (0, v) ∧ 0 ≤ v ∧ v ≤ 0
set_option maxRecDepth 100000 in
set_option maxHeartbeats 4000000 in
theorem sp_X5_yesBlock_6_w8 {l : Launch} {K : EC} {M0 : Mem} (hI : In Tru M0) (en_6_2 : rd M0 6 2 = 2) (en_6_4 : rd M0 6 4 = 35) (en_6_6 : rd M0 6 6 = 8) (a1 : Int) (ha1 : 0 ≤ a1 ∧ a1 ≤ 59)  : Tr l K 3 mX5_yesBlock 0 [(0, (2, 6)), (1, (0, a1))] [] M0 (q_X5_yesBlock_6_w8 M0) := by
  have hS : St Tru ws_X5_yesBlock_6_w8 as_X5_yesBlock_6_w8 M0 M0 := St.rf hI
  refine Tr.aload_n (pc := 0) (i := 0) d_X5_yesBlock_0 rfl rfl ?_
  refine Tr.iload_n (pc := 1) (i := 1) d_X5_yesBlock_1 rfl rfl ?_
  refine Tr.callV (pc := 2) (as := [_]) d_X5_yesBlock_2 s_5_197 ok_X5_block rfl rfl (Nat.le_of_ble_eq_true rfl) (Nat.le_of_ble_eq_true rfl) (by decide) (ty_6 hS.1.1) ?_
  refine Tr.imp (Tr.deep (by decide) (sp_X5_block_6_w8 hS.1 ((St.kp hS (by decide) (by decide) (by decide)).trans en_6_2) en_6_6 a1 (by omega))) ?_
  rintro M2 _ ⟨h2, r2, rfl, lr2, ur2⟩
  have hS := St.tr hS h2 (by decide) (by decide)
  refine Tr.sc [(0, r2)] rfl ?_
  refine Tr.istore_n (pc := 5) (i := 2) (ls2 := [(2, (0, r2)), (0, (2, 6)), (1, (0, a1))]) d_X5_yesBlock_5 rfl (by decide) rfl ?_
  refine Tr.aload_n (pc := 6) (i := 0) d_X5_yesBlock_6 rfl rfl ?_
  refine Tr.getf (pc := 7) d_X5_yesBlock_7 f_5_32 (by decide) (by decide) (ty_6 hS.1.1) ?_
  refine Tr.tp 35 ((St.kp hS (by decide) (by decide) (by decide)).trans en_6_4) ?_
  refine Tr.getf (pc := 10) d_X5_yesBlock_10 f_5_200 (by decide) (by decide) (ty_35 hS.1.1) ?_
  refine Tr.tp 39 (fx_35_4 hS.1.1) ?_
  refine Tr.iload_n (pc := 13) (i := 1) d_X5_yesBlock_13 rfl rfl ?_
  refine Tr.iload_n (pc := 14) (i := 2) d_X5_yesBlock_14 rfl rfl ?_
  refine Tr.tp (-2) (by omega) ?_
  refine Tr.iastS (pc := 15) (P := St Tru ws_X5_yesBlock_6_w8 as_X5_yesBlock_6_w8 M0) d_X5_yesBlock_15 (ty_39 hS.1.1) (by omega) (by omega) (sa_39 hS (by decide) (by omega) trivial) (fun M15 hS w15 => ?_)
  refine Tr.iload_n (pc := 16) (i := 2) d_X5_yesBlock_16 rfl rfl ?_
  refine Tr.tp (-2) (by omega) ?_
  refine Tr.bipush (pc := 17) d_X5_yesBlock_17 rfl (by decide) ?_
  refine Tr.icmp_eq (pc := 19) (tgt := 26) d_X5_yesBlock_19 rfl (fun _ => ?_) (fun hc => absurd (by omega) hc)
  refine Tr.iconst (pc := 26) d_X5_yesBlock_26 (by decide) ?_
  exact Tr.zret (pc := 27) d_X5_yesBlock_27 rfl (by omega) ⟨hS, _, rfl, by omega, by omega⟩

def ws_X5_takeSign_6_w3 : List (Int × Int) := [(6, 0), (6, 1), (6, 5)]
def as_X5_takeSign_6_w3 : List Int := []
def q_X5_takeSign_6_w3 (M0 M' : Mem) (r : Option PV) : Prop := St Tru ws_X5_takeSign_6_w3 as_X5_takeSign_6_w3 M0 M' ∧ ∃ v : Int, r = some (0, v) ∧ 0 ≤ v ∧ v ≤ 1
set_option maxRecDepth 100000 in
set_option maxHeartbeats 4000000 in
theorem sp_X5_takeSign_6_w3 {l : Launch} {K : EC} {M0 : Mem} (hI : In Tru M0) (en_6_2 : rd M0 6 2 = 2) (a1 : Int) (ha1 : 61 ≤ a1 ∧ a1 ≤ 61)  : Tr l K 1 mX5_takeSign 0 [(0, (2, 6)), (1, (0, a1))] [] M0 (q_X5_takeSign_6_w3 M0) := by
  have hS : St Tru ws_X5_takeSign_6_w3 as_X5_takeSign_6_w3 M0 M0 := St.rf hI
  refine Tr.aload_n (pc := 0) (i := 0) d_X5_takeSign_0 rfl rfl ?_
  refine Tr.iload_n (pc := 1) (i := 1) d_X5_takeSign_1 rfl rfl ?_
  refine Tr.tp 61 (by omega) ?_
  refine Tr.callV (pc := 2) (as := [_]) d_X5_takeSign_2 s_5_77 ok_X5_isSign rfl rfl (Nat.le_of_ble_eq_true rfl) (Nat.le_of_ble_eq_true rfl) (by decide) (ty_6 hS.1.1) ?_
  refine Tr.imp (Tr.deep (by decide) (sp_X5_isSign_6_w4 hS.1 ((St.kp hS (by decide) (by decide) (by decide)).trans en_6_2) 61 (by omega))) ?_
  rintro M2 _ ⟨h2, r2, rfl, lr2, ur2⟩
  have hS := St.tr hS h2 (by decide) (by decide)
  refine Tr.sc [(0, r2)] rfl ?_
  refine Tr.if_eq (pc := 5) (tgt := 15) d_X5_takeSign_5 rfl (fun c5 => ?_) (fun c5 => ?_)
  · refine Tr.aload_n (pc := 15) (i := 0) d_X5_takeSign_15 rfl rfl ?_
    refine Tr.iconst (pc := 16) d_X5_takeSign_16 (by decide) ?_
    refine Tr.callV (pc := 17) (as := [_]) d_X5_takeSign_17 s_5_56 ok_X5_refuse rfl rfl (Nat.le_of_ble_eq_true rfl) (Nat.le_of_ble_eq_true rfl) (by decide) (ty_6 hS.1.1) ?_
    refine Tr.imp (Tr.deep (by decide) (sp_X5_refuse_6_w1 hS.1 ((St.kp hS (by decide) (by decide) (by decide)).trans en_6_2) 1 (by omega))) ?_
    rintro M17 _ ⟨h17, r17, rfl, lr17, ur17⟩
    have hS := St.tr hS h17 (by decide) (by decide)
    refine Tr.sc [(0, r17)] rfl ?_
    exact Tr.zret (pc := 20) d_X5_takeSign_20 rfl (by omega) ⟨hS, _, rfl, by omega, by omega⟩
  · refine Tr.aload_n (pc := 8) (i := 0) d_X5_takeSign_8 rfl rfl ?_
    refine Tr.callV (pc := 9) (as := []) d_X5_takeSign_9 s_5_74 ok_X5_goOn rfl rfl (Nat.le_of_ble_eq_true rfl) (Nat.le_of_ble_eq_true rfl) (by decide) (ty_6 hS.1.1) ?_
    refine Tr.imp (Tr.deep (by decide) (sp_X5_goOn_6 hS.1 )) ?_
    rintro M9 _ ⟨h9, r9, rfl, lr9, ur9⟩
    have hS := St.tr hS h9 (by decide) (by decide)
    refine Tr.sc [(0, r9)] rfl ?_
    refine Tr.goto (pc := 12) (tgt := 20) d_X5_takeSign_12 rfl ?_
    exact Tr.zret (pc := 20) d_X5_takeSign_20 rfl (by omega) ⟨hS, _, rfl, by omega, by omega⟩

def ws_X5_isSign_6_w6 : List (Int × Int) := []
def as_X5_isSign_6_w6 : List Int := []
def q_X5_isSign_6_w6 (M0 M' : Mem) (r : Option PV) : Prop := St Tru ws_X5_isSign_6_w6 as_X5_isSign_6_w6 M0 M' ∧ ∃ v : Int, r = some (0, v) ∧ 0 ≤ v ∧ v ≤ 1
set_option maxRecDepth 100000 in
set_option maxHeartbeats 4000000 in
theorem sp_X5_isSign_6_w6 {l : Launch} {K : EC} {M0 : Mem} (hI : In Tru M0) (en_6_2 : rd M0 6 2 = 2) (a1 : Int) (ha1 : 123 ≤ a1 ∧ a1 ≤ 161)  : Tr l K 0 mX5_isSign 0 [(0, (2, 6)), (1, (0, a1))] [] M0 (q_X5_isSign_6_w6 M0) := by
  have hS : St Tru ws_X5_isSign_6_w6 as_X5_isSign_6_w6 M0 M0 := St.rf hI
  refine Tr.aload_n (pc := 0) (i := 0) d_X5_isSign_0 rfl rfl ?_
  refine Tr.getf (pc := 1) d_X5_isSign_1 f_5_18 (by decide) (by decide) (ty_6 hS.1.1) ?_
  refine Tr.tp 2 ((St.kp hS (by decide) (by decide) (by decide)).trans en_6_2) ?_
  refine Tr.getf (pc := 4) d_X5_isSign_4 f_5_50 (by decide) (by decide) (ty_2 hS.1.1) ?_
  refine Tr.tp 3 (fx_2_0 hS.1.1) ?_
  refine Tr.aload_n (pc := 7) (i := 0) d_X5_isSign_7 rfl rfl ?_
  refine Tr.getf (pc := 8) d_X5_isSign_8 f_5_36 (by decide) (by decide) (ty_6 hS.1.1) ?_
  refine Tr.gen (P := fun v => 0 ≤ v ∧ v ≤ 900) (ir_6_5 hS.1.2.1) (fun r8 er8 br8 => ?_)
  refine Tr.iald (pc := 11) d_X5_isSign_11 (ty_3 hS.1.1) (by omega) (by omega) ?_
  refine Tr.gen (P := fun v => (-2147483648) ≤ v ∧ v ≤ 2147483647) (ar_3 hS.1.2.1 _) (fun r11 er11 br11 => ?_)
  refine Tr.iconst (pc := 12) d_X5_isSign_12 (by decide) ?_
  refine Tr.icmp_ne (pc := 13) (tgt := 36) d_X5_isSign_13 rfl (fun c13 => ?_) (fun c13 => ?_)
  · refine Tr.iconst (pc := 36) d_X5_isSign_36 (by decide) ?_
    exact Tr.zret (pc := 37) d_X5_isSign_37 rfl (by omega) ⟨hS, _, rfl, by omega, by omega⟩
  · refine Tr.aload_n (pc := 16) (i := 0) d_X5_isSign_16 rfl rfl ?_
    refine Tr.getf (pc := 17) d_X5_isSign_17 f_5_18 (by decide) (by decide) (ty_6 hS.1.1) ?_
    refine Tr.tp 2 ((St.kp hS (by decide) (by decide) (by decide)).trans en_6_2) ?_
    refine Tr.getf (pc := 20) d_X5_isSign_20 f_5_68 (by decide) (by decide) (ty_2 hS.1.1) ?_
    refine Tr.tp 5 (fx_2_2 hS.1.1) ?_
    refine Tr.aload_n (pc := 23) (i := 0) d_X5_isSign_23 rfl rfl ?_
    refine Tr.getf (pc := 24) d_X5_isSign_24 f_5_36 (by decide) (by decide) (ty_6 hS.1.1) ?_
    refine Tr.tp r8 er8 ?_
    refine Tr.iald (pc := 27) d_X5_isSign_27 (ty_5 hS.1.1) (by omega) (by omega) ?_
    refine Tr.gen (P := fun v => (-2147483648) ≤ v ∧ v ≤ 2147483647) (ar_5 hS.1.2.1 _) (fun r27 er27 br27 => ?_)
    refine Tr.iload_n (pc := 28) (i := 1) d_X5_isSign_28 rfl rfl ?_
    refine Tr.icmp_ne (pc := 29) (tgt := 36) d_X5_isSign_29 rfl (fun c29 => ?_) (fun c29 => ?_)
    · refine Tr.iconst (pc := 36) d_X5_isSign_36 (by decide) ?_
      exact Tr.zret (pc := 37) d_X5_isSign_37 rfl (by omega) ⟨hS, _, rfl, by omega, by omega⟩
    · refine Tr.iconst (pc := 32) d_X5_isSign_32 (by decide) ?_
      refine Tr.goto (pc := 33) (tgt := 37) d_X5_isSign_33 rfl ?_
      exact Tr.zret (pc := 37) d_X5_isSign_37 rfl (by omega) ⟨hS, _, rfl, by omega, by omega⟩

def ws_X5_takeSign_6_w4 : List (Int × Int) := [(6, 0), (6, 1), (6, 5)]
def as_X5_takeSign_6_w4 : List Int := []
def q_X5_takeSign_6_w4 (M0 M' : Mem) (r : Option PV) : Prop := St Tru ws_X5_takeSign_6_w4 as_X5_takeSign_6_w4 M0 M' ∧ ∃ v : Int, r = some (0, v) ∧ 0 ≤ v ∧ v ≤ 1
set_option maxRecDepth 100000 in
set_option maxHeartbeats 4000000 in
theorem sp_X5_takeSign_6_w4 {l : Launch} {K : EC} {M0 : Mem} (hI : In Tru M0) (en_6_2 : rd M0 6 2 = 2) (a1 : Int) (ha1 : 123 ≤ a1 ∧ a1 ≤ 161)  : Tr l K 1 mX5_takeSign 0 [(0, (2, 6)), (1, (0, a1))] [] M0 (q_X5_takeSign_6_w4 M0) := by
  have hS : St Tru ws_X5_takeSign_6_w4 as_X5_takeSign_6_w4 M0 M0 := St.rf hI
  refine Tr.aload_n (pc := 0) (i := 0) d_X5_takeSign_0 rfl rfl ?_
  refine Tr.iload_n (pc := 1) (i := 1) d_X5_takeSign_1 rfl rfl ?_
  refine Tr.callV (pc := 2) (as := [_]) d_X5_takeSign_2 s_5_77 ok_X5_isSign rfl rfl (Nat.le_of_ble_eq_true rfl) (Nat.le_of_ble_eq_true rfl) (by decide) (ty_6 hS.1.1) ?_
  refine Tr.imp (Tr.deep (by decide) (sp_X5_isSign_6_w6 hS.1 ((St.kp hS (by decide) (by decide) (by decide)).trans en_6_2) a1 (by omega))) ?_
  rintro M2 _ ⟨h2, r2, rfl, lr2, ur2⟩
  have hS := St.tr hS h2 (by decide) (by decide)
  refine Tr.sc [(0, r2)] rfl ?_
  refine Tr.if_eq (pc := 5) (tgt := 15) d_X5_takeSign_5 rfl (fun c5 => ?_) (fun c5 => ?_)
  · refine Tr.aload_n (pc := 15) (i := 0) d_X5_takeSign_15 rfl rfl ?_
    refine Tr.iconst (pc := 16) d_X5_takeSign_16 (by decide) ?_
    refine Tr.callV (pc := 17) (as := [_]) d_X5_takeSign_17 s_5_56 ok_X5_refuse rfl rfl (Nat.le_of_ble_eq_true rfl) (Nat.le_of_ble_eq_true rfl) (by decide) (ty_6 hS.1.1) ?_
    refine Tr.imp (Tr.deep (by decide) (sp_X5_refuse_6_w1 hS.1 ((St.kp hS (by decide) (by decide) (by decide)).trans en_6_2) 1 (by omega))) ?_
    rintro M17 _ ⟨h17, r17, rfl, lr17, ur17⟩
    have hS := St.tr hS h17 (by decide) (by decide)
    refine Tr.sc [(0, r17)] rfl ?_
    exact Tr.zret (pc := 20) d_X5_takeSign_20 rfl (by omega) ⟨hS, _, rfl, by omega, by omega⟩
  · refine Tr.aload_n (pc := 8) (i := 0) d_X5_takeSign_8 rfl rfl ?_
    refine Tr.callV (pc := 9) (as := []) d_X5_takeSign_9 s_5_74 ok_X5_goOn rfl rfl (Nat.le_of_ble_eq_true rfl) (Nat.le_of_ble_eq_true rfl) (by decide) (ty_6 hS.1.1) ?_
    refine Tr.imp (Tr.deep (by decide) (sp_X5_goOn_6 hS.1 )) ?_
    rintro M9 _ ⟨h9, r9, rfl, lr9, ur9⟩
    have hS := St.tr hS h9 (by decide) (by decide)
    refine Tr.sc [(0, r9)] rfl ?_
    refine Tr.goto (pc := 12) (tgt := 20) d_X5_takeSign_12 rfl ?_
    exact Tr.zret (pc := 20) d_X5_takeSign_20 rfl (by omega) ⟨hS, _, rfl, by omega, by omega⟩

def ws_X5_takeClosing_6_w16 : List (Int × Int) := [(6, 0), (6, 1), (6, 5), (6, 6)]
def as_X5_takeClosing_6_w16 : List Int := []
def q_X5_takeClosing_6_w16 (M0 M' : Mem) (r : Option PV) : Prop := St Tru ws_X5_takeClosing_6_w16 as_X5_takeClosing_6_w16 M0 M' ∧ ∃ v : Int, r = some (0, v) ∧ 0 ≤ v ∧ v ≤ 1 ∧ ((1 ≤ v ∧ v ≤ 1) → rd M' 6 6 = 7)
set_option maxRecDepth 100000 in
set_option maxHeartbeats 4000000 in
theorem sp_X5_takeClosing_6_w16 {l : Launch} {K : EC} {M0 : Mem} (hI : In Tru M0) (en_6_2 : rd M0 6 2 = 2) (en_6_6 : rd M0 6 6 = 8) (a1 : Int) (ha1 : 123 ≤ a1 ∧ a1 ≤ 161)  : Tr l K 2 mX5_takeClosing 0 [(0, (2, 6)), (1, (0, a1))] [] M0 (q_X5_takeClosing_6_w16 M0) := by
  have hS : St Tru ws_X5_takeClosing_6_w16 as_X5_takeClosing_6_w16 M0 M0 := St.rf hI
  refine Tr.aload_n (pc := 0) (i := 0) d_X5_takeClosing_0 rfl rfl ?_
  refine Tr.iload_n (pc := 1) (i := 1) d_X5_takeClosing_1 rfl rfl ?_
  refine Tr.callV (pc := 2) (as := [_]) d_X5_takeClosing_2 s_5_81 ok_X5_takeSign rfl rfl (Nat.le_of_ble_eq_true rfl) (Nat.le_of_ble_eq_true rfl) (by decide) (ty_6 hS.1.1) ?_
  refine Tr.imp (Tr.deep (by decide) (sp_X5_takeSign_6_w4 hS.1 ((St.kp hS (by decide) (by decide) (by decide)).trans en_6_2) a1 (by omega))) ?_
  rintro M2 _ ⟨h2, r2, rfl, lr2, ur2⟩
  have hS := St.tr hS h2 (by decide) (by decide)
  refine Tr.sc [(0, r2)] rfl ?_
  refine Tr.if_ne (pc := 5) (tgt := 10) d_X5_takeClosing_5 rfl (fun c5 => ?_) (fun c5 => ?_)
  · refine Tr.aload_n (pc := 10) (i := 0) d_X5_takeClosing_10 rfl rfl ?_
    refine Tr.dup (pc := 11) d_X5_takeClosing_11 ne21 ?_
    refine Tr.getf (pc := 12) d_X5_takeClosing_12 f_5_39 (by decide) (by decide) (ty_6 hS.1.1) ?_
    refine Tr.tp 8 ((St.kp h2 (by decide) (by decide) (by decide)).trans en_6_6) ?_
    refine Tr.iconst (pc := 15) d_X5_takeClosing_15 (by decide) ?_
    refine Tr.isub (pc := 16) d_X5_takeClosing_16 ?_
    refine Tr.tp 7 (by decide) ?_
    refine Tr.putfS (pc := 17) (P := St Tru ws_X5_takeClosing_6_w16 as_X5_takeClosing_6_w16 M0) d_X5_takeClosing_17 f_5_39 (by decide) (by decide) (ty_6 hS.1.1) (st_6_6 hS (by decide) (by omega) trivial) (fun M17 hS w17 => ?_)
    refine Tr.iconst (pc := 20) d_X5_takeClosing_20 (by decide) ?_
    exact Tr.zret (pc := 21) d_X5_takeClosing_21 rfl (by omega) ⟨hS, _, rfl, by omega, by omega, fun _ => w17.1⟩
  · refine Tr.iconst (pc := 8) d_X5_takeClosing_8 (by decide) ?_
    exact Tr.zret (pc := 9) d_X5_takeClosing_9 rfl (by omega) ⟨hS, _, rfl, by omega, by omega, fun hq => absurd hq (by omega)⟩

def ws_X5_takeClosing_6_w17 : List (Int × Int) := [(6, 0), (6, 1), (6, 5), (6, 6)]
def as_X5_takeClosing_6_w17 : List Int := []
def q_X5_takeClosing_6_w17 (M0 M' : Mem) (r : Option PV) : Prop := St Tru ws_X5_takeClosing_6_w17 as_X5_takeClosing_6_w17 M0 M' ∧ ∃ v : Int, r = some (0, v) ∧ 0 ≤ v ∧ v ≤ 1 ∧ ((1 ≤ v ∧ v ≤ 1) → rd M' 6 6 = 6)
set_option maxRecDepth 100000 in
set_option maxHeartbeats 4000000 in
theorem sp_X5_takeClosing_6_w17 {l : Launch} {K : EC} {M0 : Mem} (hI : In Tru M0) (en_6_2 : rd M0 6 2 = 2) (en_6_6 : rd M0 6 6 = 7) (a1 : Int) (ha1 : 123 ≤ a1 ∧ a1 ≤ 161)  : Tr l K 2 mX5_takeClosing 0 [(0, (2, 6)), (1, (0, a1))] [] M0 (q_X5_takeClosing_6_w17 M0) := by
  have hS : St Tru ws_X5_takeClosing_6_w17 as_X5_takeClosing_6_w17 M0 M0 := St.rf hI
  refine Tr.aload_n (pc := 0) (i := 0) d_X5_takeClosing_0 rfl rfl ?_
  refine Tr.iload_n (pc := 1) (i := 1) d_X5_takeClosing_1 rfl rfl ?_
  refine Tr.callV (pc := 2) (as := [_]) d_X5_takeClosing_2 s_5_81 ok_X5_takeSign rfl rfl (Nat.le_of_ble_eq_true rfl) (Nat.le_of_ble_eq_true rfl) (by decide) (ty_6 hS.1.1) ?_
  refine Tr.imp (Tr.deep (by decide) (sp_X5_takeSign_6_w4 hS.1 ((St.kp hS (by decide) (by decide) (by decide)).trans en_6_2) a1 (by omega))) ?_
  rintro M2 _ ⟨h2, r2, rfl, lr2, ur2⟩
  have hS := St.tr hS h2 (by decide) (by decide)
  refine Tr.sc [(0, r2)] rfl ?_
  refine Tr.if_ne (pc := 5) (tgt := 10) d_X5_takeClosing_5 rfl (fun c5 => ?_) (fun c5 => ?_)
  · refine Tr.aload_n (pc := 10) (i := 0) d_X5_takeClosing_10 rfl rfl ?_
    refine Tr.dup (pc := 11) d_X5_takeClosing_11 ne21 ?_
    refine Tr.getf (pc := 12) d_X5_takeClosing_12 f_5_39 (by decide) (by decide) (ty_6 hS.1.1) ?_
    refine Tr.tp 7 ((St.kp h2 (by decide) (by decide) (by decide)).trans en_6_6) ?_
    refine Tr.iconst (pc := 15) d_X5_takeClosing_15 (by decide) ?_
    refine Tr.isub (pc := 16) d_X5_takeClosing_16 ?_
    refine Tr.tp 6 (by decide) ?_
    refine Tr.putfS (pc := 17) (P := St Tru ws_X5_takeClosing_6_w17 as_X5_takeClosing_6_w17 M0) d_X5_takeClosing_17 f_5_39 (by decide) (by decide) (ty_6 hS.1.1) (st_6_6 hS (by decide) (by omega) trivial) (fun M17 hS w17 => ?_)
    refine Tr.iconst (pc := 20) d_X5_takeClosing_20 (by decide) ?_
    exact Tr.zret (pc := 21) d_X5_takeClosing_21 rfl (by omega) ⟨hS, _, rfl, by omega, by omega, fun _ => w17.1⟩
  · refine Tr.iconst (pc := 8) d_X5_takeClosing_8 (by decide) ?_
    exact Tr.zret (pc := 9) d_X5_takeClosing_9 rfl (by omega) ⟨hS, _, rfl, by omega, by omega, fun hq => absurd hq (by omega)⟩

def ws_X5_takeClosing_6_w18 : List (Int × Int) := [(6, 0), (6, 1), (6, 5), (6, 6)]
def as_X5_takeClosing_6_w18 : List Int := []
def q_X5_takeClosing_6_w18 (M0 M' : Mem) (r : Option PV) : Prop := St Tru ws_X5_takeClosing_6_w18 as_X5_takeClosing_6_w18 M0 M' ∧ ∃ v : Int, r = some (0, v) ∧ 0 ≤ v ∧ v ≤ 1 ∧ ((1 ≤ v ∧ v ≤ 1) → rd M' 6 6 = 5)
set_option maxRecDepth 100000 in
set_option maxHeartbeats 4000000 in
theorem sp_X5_takeClosing_6_w18 {l : Launch} {K : EC} {M0 : Mem} (hI : In Tru M0) (en_6_2 : rd M0 6 2 = 2) (en_6_6 : rd M0 6 6 = 6) (a1 : Int) (ha1 : 123 ≤ a1 ∧ a1 ≤ 161)  : Tr l K 2 mX5_takeClosing 0 [(0, (2, 6)), (1, (0, a1))] [] M0 (q_X5_takeClosing_6_w18 M0) := by
  have hS : St Tru ws_X5_takeClosing_6_w18 as_X5_takeClosing_6_w18 M0 M0 := St.rf hI
  refine Tr.aload_n (pc := 0) (i := 0) d_X5_takeClosing_0 rfl rfl ?_
  refine Tr.iload_n (pc := 1) (i := 1) d_X5_takeClosing_1 rfl rfl ?_
  refine Tr.callV (pc := 2) (as := [_]) d_X5_takeClosing_2 s_5_81 ok_X5_takeSign rfl rfl (Nat.le_of_ble_eq_true rfl) (Nat.le_of_ble_eq_true rfl) (by decide) (ty_6 hS.1.1) ?_
  refine Tr.imp (Tr.deep (by decide) (sp_X5_takeSign_6_w4 hS.1 ((St.kp hS (by decide) (by decide) (by decide)).trans en_6_2) a1 (by omega))) ?_
  rintro M2 _ ⟨h2, r2, rfl, lr2, ur2⟩
  have hS := St.tr hS h2 (by decide) (by decide)
  refine Tr.sc [(0, r2)] rfl ?_
  refine Tr.if_ne (pc := 5) (tgt := 10) d_X5_takeClosing_5 rfl (fun c5 => ?_) (fun c5 => ?_)
  · refine Tr.aload_n (pc := 10) (i := 0) d_X5_takeClosing_10 rfl rfl ?_
    refine Tr.dup (pc := 11) d_X5_takeClosing_11 ne21 ?_
    refine Tr.getf (pc := 12) d_X5_takeClosing_12 f_5_39 (by decide) (by decide) (ty_6 hS.1.1) ?_
    refine Tr.tp 6 ((St.kp h2 (by decide) (by decide) (by decide)).trans en_6_6) ?_
    refine Tr.iconst (pc := 15) d_X5_takeClosing_15 (by decide) ?_
    refine Tr.isub (pc := 16) d_X5_takeClosing_16 ?_
    refine Tr.tp 5 (by decide) ?_
    refine Tr.putfS (pc := 17) (P := St Tru ws_X5_takeClosing_6_w18 as_X5_takeClosing_6_w18 M0) d_X5_takeClosing_17 f_5_39 (by decide) (by decide) (ty_6 hS.1.1) (st_6_6 hS (by decide) (by omega) trivial) (fun M17 hS w17 => ?_)
    refine Tr.iconst (pc := 20) d_X5_takeClosing_20 (by decide) ?_
    exact Tr.zret (pc := 21) d_X5_takeClosing_21 rfl (by omega) ⟨hS, _, rfl, by omega, by omega, fun _ => w17.1⟩
  · refine Tr.iconst (pc := 8) d_X5_takeClosing_8 (by decide) ?_
    exact Tr.zret (pc := 9) d_X5_takeClosing_9 rfl (by omega) ⟨hS, _, rfl, by omega, by omega, fun hq => absurd hq (by omega)⟩

def ws_X5_takeClosing_6_w19 : List (Int × Int) := [(6, 0), (6, 1), (6, 5), (6, 6)]
def as_X5_takeClosing_6_w19 : List Int := []
def q_X5_takeClosing_6_w19 (M0 M' : Mem) (r : Option PV) : Prop := St Tru ws_X5_takeClosing_6_w19 as_X5_takeClosing_6_w19 M0 M' ∧ ∃ v : Int, r = some (0, v) ∧ 0 ≤ v ∧ v ≤ 1 ∧ ((1 ≤ v ∧ v ≤ 1) → rd M' 6 6 = 4)
set_option maxRecDepth 100000 in
set_option maxHeartbeats 4000000 in
theorem sp_X5_takeClosing_6_w19 {l : Launch} {K : EC} {M0 : Mem} (hI : In Tru M0) (en_6_2 : rd M0 6 2 = 2) (en_6_6 : rd M0 6 6 = 5) (a1 : Int) (ha1 : 123 ≤ a1 ∧ a1 ≤ 161)  : Tr l K 2 mX5_takeClosing 0 [(0, (2, 6)), (1, (0, a1))] [] M0 (q_X5_takeClosing_6_w19 M0) := by
  have hS : St Tru ws_X5_takeClosing_6_w19 as_X5_takeClosing_6_w19 M0 M0 := St.rf hI
  refine Tr.aload_n (pc := 0) (i := 0) d_X5_takeClosing_0 rfl rfl ?_
  refine Tr.iload_n (pc := 1) (i := 1) d_X5_takeClosing_1 rfl rfl ?_
  refine Tr.callV (pc := 2) (as := [_]) d_X5_takeClosing_2 s_5_81 ok_X5_takeSign rfl rfl (Nat.le_of_ble_eq_true rfl) (Nat.le_of_ble_eq_true rfl) (by decide) (ty_6 hS.1.1) ?_
  refine Tr.imp (Tr.deep (by decide) (sp_X5_takeSign_6_w4 hS.1 ((St.kp hS (by decide) (by decide) (by decide)).trans en_6_2) a1 (by omega))) ?_
  rintro M2 _ ⟨h2, r2, rfl, lr2, ur2⟩
  have hS := St.tr hS h2 (by decide) (by decide)
  refine Tr.sc [(0, r2)] rfl ?_
  refine Tr.if_ne (pc := 5) (tgt := 10) d_X5_takeClosing_5 rfl (fun c5 => ?_) (fun c5 => ?_)
  · refine Tr.aload_n (pc := 10) (i := 0) d_X5_takeClosing_10 rfl rfl ?_
    refine Tr.dup (pc := 11) d_X5_takeClosing_11 ne21 ?_
    refine Tr.getf (pc := 12) d_X5_takeClosing_12 f_5_39 (by decide) (by decide) (ty_6 hS.1.1) ?_
    refine Tr.tp 5 ((St.kp h2 (by decide) (by decide) (by decide)).trans en_6_6) ?_
    refine Tr.iconst (pc := 15) d_X5_takeClosing_15 (by decide) ?_
    refine Tr.isub (pc := 16) d_X5_takeClosing_16 ?_
    refine Tr.tp 4 (by decide) ?_
    refine Tr.putfS (pc := 17) (P := St Tru ws_X5_takeClosing_6_w19 as_X5_takeClosing_6_w19 M0) d_X5_takeClosing_17 f_5_39 (by decide) (by decide) (ty_6 hS.1.1) (st_6_6 hS (by decide) (by omega) trivial) (fun M17 hS w17 => ?_)
    refine Tr.iconst (pc := 20) d_X5_takeClosing_20 (by decide) ?_
    exact Tr.zret (pc := 21) d_X5_takeClosing_21 rfl (by omega) ⟨hS, _, rfl, by omega, by omega, fun _ => w17.1⟩
  · refine Tr.iconst (pc := 8) d_X5_takeClosing_8 (by decide) ?_
    exact Tr.zret (pc := 9) d_X5_takeClosing_9 rfl (by omega) ⟨hS, _, rfl, by omega, by omega, fun hq => absurd hq (by omega)⟩

def ws_X5_takeClosing_6_w20 : List (Int × Int) := [(6, 0), (6, 1), (6, 5), (6, 6)]
def as_X5_takeClosing_6_w20 : List Int := []
def q_X5_takeClosing_6_w20 (M0 M' : Mem) (r : Option PV) : Prop := St Tru ws_X5_takeClosing_6_w20 as_X5_takeClosing_6_w20 M0 M' ∧ ∃ v : Int, r = some (0, v) ∧ 0 ≤ v ∧ v ≤ 1 ∧ ((1 ≤ v ∧ v ≤ 1) → rd M' 6 6 = 3)
set_option maxRecDepth 100000 in
set_option maxHeartbeats 4000000 in
theorem sp_X5_takeClosing_6_w20 {l : Launch} {K : EC} {M0 : Mem} (hI : In Tru M0) (en_6_2 : rd M0 6 2 = 2) (en_6_6 : rd M0 6 6 = 4) (a1 : Int) (ha1 : 123 ≤ a1 ∧ a1 ≤ 161)  : Tr l K 2 mX5_takeClosing 0 [(0, (2, 6)), (1, (0, a1))] [] M0 (q_X5_takeClosing_6_w20 M0) := by
  have hS : St Tru ws_X5_takeClosing_6_w20 as_X5_takeClosing_6_w20 M0 M0 := St.rf hI
  refine Tr.aload_n (pc := 0) (i := 0) d_X5_takeClosing_0 rfl rfl ?_
  refine Tr.iload_n (pc := 1) (i := 1) d_X5_takeClosing_1 rfl rfl ?_
  refine Tr.callV (pc := 2) (as := [_]) d_X5_takeClosing_2 s_5_81 ok_X5_takeSign rfl rfl (Nat.le_of_ble_eq_true rfl) (Nat.le_of_ble_eq_true rfl) (by decide) (ty_6 hS.1.1) ?_
  refine Tr.imp (Tr.deep (by decide) (sp_X5_takeSign_6_w4 hS.1 ((St.kp hS (by decide) (by decide) (by decide)).trans en_6_2) a1 (by omega))) ?_
  rintro M2 _ ⟨h2, r2, rfl, lr2, ur2⟩
  have hS := St.tr hS h2 (by decide) (by decide)
  refine Tr.sc [(0, r2)] rfl ?_
  refine Tr.if_ne (pc := 5) (tgt := 10) d_X5_takeClosing_5 rfl (fun c5 => ?_) (fun c5 => ?_)
  · refine Tr.aload_n (pc := 10) (i := 0) d_X5_takeClosing_10 rfl rfl ?_
    refine Tr.dup (pc := 11) d_X5_takeClosing_11 ne21 ?_
    refine Tr.getf (pc := 12) d_X5_takeClosing_12 f_5_39 (by decide) (by decide) (ty_6 hS.1.1) ?_
    refine Tr.tp 4 ((St.kp h2 (by decide) (by decide) (by decide)).trans en_6_6) ?_
    refine Tr.iconst (pc := 15) d_X5_takeClosing_15 (by decide) ?_
    refine Tr.isub (pc := 16) d_X5_takeClosing_16 ?_
    refine Tr.tp 3 (by decide) ?_
    refine Tr.putfS (pc := 17) (P := St Tru ws_X5_takeClosing_6_w20 as_X5_takeClosing_6_w20 M0) d_X5_takeClosing_17 f_5_39 (by decide) (by decide) (ty_6 hS.1.1) (st_6_6 hS (by decide) (by omega) trivial) (fun M17 hS w17 => ?_)
    refine Tr.iconst (pc := 20) d_X5_takeClosing_20 (by decide) ?_
    exact Tr.zret (pc := 21) d_X5_takeClosing_21 rfl (by omega) ⟨hS, _, rfl, by omega, by omega, fun _ => w17.1⟩
  · refine Tr.iconst (pc := 8) d_X5_takeClosing_8 (by decide) ?_
    exact Tr.zret (pc := 9) d_X5_takeClosing_9 rfl (by omega) ⟨hS, _, rfl, by omega, by omega, fun hq => absurd hq (by omega)⟩

def ws_X5_takeClosing_6_w21 : List (Int × Int) := [(6, 0), (6, 1), (6, 5), (6, 6)]
def as_X5_takeClosing_6_w21 : List Int := []
def q_X5_takeClosing_6_w21 (M0 M' : Mem) (r : Option PV) : Prop := St Tru ws_X5_takeClosing_6_w21 as_X5_takeClosing_6_w21 M0 M' ∧ ∃ v : Int, r = some (0, v) ∧ 0 ≤ v ∧ v ≤ 1 ∧ ((1 ≤ v ∧ v ≤ 1) → rd M' 6 6 = 2)
set_option maxRecDepth 100000 in
set_option maxHeartbeats 4000000 in
theorem sp_X5_takeClosing_6_w21 {l : Launch} {K : EC} {M0 : Mem} (hI : In Tru M0) (en_6_2 : rd M0 6 2 = 2) (en_6_6 : rd M0 6 6 = 3) (a1 : Int) (ha1 : 123 ≤ a1 ∧ a1 ≤ 161)  : Tr l K 2 mX5_takeClosing 0 [(0, (2, 6)), (1, (0, a1))] [] M0 (q_X5_takeClosing_6_w21 M0) := by
  have hS : St Tru ws_X5_takeClosing_6_w21 as_X5_takeClosing_6_w21 M0 M0 := St.rf hI
  refine Tr.aload_n (pc := 0) (i := 0) d_X5_takeClosing_0 rfl rfl ?_
  refine Tr.iload_n (pc := 1) (i := 1) d_X5_takeClosing_1 rfl rfl ?_
  refine Tr.callV (pc := 2) (as := [_]) d_X5_takeClosing_2 s_5_81 ok_X5_takeSign rfl rfl (Nat.le_of_ble_eq_true rfl) (Nat.le_of_ble_eq_true rfl) (by decide) (ty_6 hS.1.1) ?_
  refine Tr.imp (Tr.deep (by decide) (sp_X5_takeSign_6_w4 hS.1 ((St.kp hS (by decide) (by decide) (by decide)).trans en_6_2) a1 (by omega))) ?_
  rintro M2 _ ⟨h2, r2, rfl, lr2, ur2⟩
  have hS := St.tr hS h2 (by decide) (by decide)
  refine Tr.sc [(0, r2)] rfl ?_
  refine Tr.if_ne (pc := 5) (tgt := 10) d_X5_takeClosing_5 rfl (fun c5 => ?_) (fun c5 => ?_)
  · refine Tr.aload_n (pc := 10) (i := 0) d_X5_takeClosing_10 rfl rfl ?_
    refine Tr.dup (pc := 11) d_X5_takeClosing_11 ne21 ?_
    refine Tr.getf (pc := 12) d_X5_takeClosing_12 f_5_39 (by decide) (by decide) (ty_6 hS.1.1) ?_
    refine Tr.tp 3 ((St.kp h2 (by decide) (by decide) (by decide)).trans en_6_6) ?_
    refine Tr.iconst (pc := 15) d_X5_takeClosing_15 (by decide) ?_
    refine Tr.isub (pc := 16) d_X5_takeClosing_16 ?_
    refine Tr.tp 2 (by decide) ?_
    refine Tr.putfS (pc := 17) (P := St Tru ws_X5_takeClosing_6_w21 as_X5_takeClosing_6_w21 M0) d_X5_takeClosing_17 f_5_39 (by decide) (by decide) (ty_6 hS.1.1) (st_6_6 hS (by decide) (by omega) trivial) (fun M17 hS w17 => ?_)
    refine Tr.iconst (pc := 20) d_X5_takeClosing_20 (by decide) ?_
    exact Tr.zret (pc := 21) d_X5_takeClosing_21 rfl (by omega) ⟨hS, _, rfl, by omega, by omega, fun _ => w17.1⟩
  · refine Tr.iconst (pc := 8) d_X5_takeClosing_8 (by decide) ?_
    exact Tr.zret (pc := 9) d_X5_takeClosing_9 rfl (by omega) ⟨hS, _, rfl, by omega, by omega, fun hq => absurd hq (by omega)⟩

def ws_X5_takeClosing_6_w22 : List (Int × Int) := [(6, 0), (6, 1), (6, 5), (6, 6)]
def as_X5_takeClosing_6_w22 : List Int := []
def q_X5_takeClosing_6_w22 (M0 M' : Mem) (r : Option PV) : Prop := St Tru ws_X5_takeClosing_6_w22 as_X5_takeClosing_6_w22 M0 M' ∧ ∃ v : Int, r = some (0, v) ∧ 0 ≤ v ∧ v ≤ 1 ∧ ((1 ≤ v ∧ v ≤ 1) → rd M' 6 6 = 1)
set_option maxRecDepth 100000 in
set_option maxHeartbeats 4000000 in
theorem sp_X5_takeClosing_6_w22 {l : Launch} {K : EC} {M0 : Mem} (hI : In Tru M0) (en_6_2 : rd M0 6 2 = 2) (en_6_6 : rd M0 6 6 = 2) (a1 : Int) (ha1 : 123 ≤ a1 ∧ a1 ≤ 161)  : Tr l K 2 mX5_takeClosing 0 [(0, (2, 6)), (1, (0, a1))] [] M0 (q_X5_takeClosing_6_w22 M0) := by
  have hS : St Tru ws_X5_takeClosing_6_w22 as_X5_takeClosing_6_w22 M0 M0 := St.rf hI
  refine Tr.aload_n (pc := 0) (i := 0) d_X5_takeClosing_0 rfl rfl ?_
  refine Tr.iload_n (pc := 1) (i := 1) d_X5_takeClosing_1 rfl rfl ?_
  refine Tr.callV (pc := 2) (as := [_]) d_X5_takeClosing_2 s_5_81 ok_X5_takeSign rfl rfl (Nat.le_of_ble_eq_true rfl) (Nat.le_of_ble_eq_true rfl) (by decide) (ty_6 hS.1.1) ?_
  refine Tr.imp (Tr.deep (by decide) (sp_X5_takeSign_6_w4 hS.1 ((St.kp hS (by decide) (by decide) (by decide)).trans en_6_2) a1 (by omega))) ?_
  rintro M2 _ ⟨h2, r2, rfl, lr2, ur2⟩
  have hS := St.tr hS h2 (by decide) (by decide)
  refine Tr.sc [(0, r2)] rfl ?_
  refine Tr.if_ne (pc := 5) (tgt := 10) d_X5_takeClosing_5 rfl (fun c5 => ?_) (fun c5 => ?_)
  · refine Tr.aload_n (pc := 10) (i := 0) d_X5_takeClosing_10 rfl rfl ?_
    refine Tr.dup (pc := 11) d_X5_takeClosing_11 ne21 ?_
    refine Tr.getf (pc := 12) d_X5_takeClosing_12 f_5_39 (by decide) (by decide) (ty_6 hS.1.1) ?_
    refine Tr.tp 2 ((St.kp h2 (by decide) (by decide) (by decide)).trans en_6_6) ?_
    refine Tr.iconst (pc := 15) d_X5_takeClosing_15 (by decide) ?_
    refine Tr.isub (pc := 16) d_X5_takeClosing_16 ?_
    refine Tr.tp 1 (by decide) ?_
    refine Tr.putfS (pc := 17) (P := St Tru ws_X5_takeClosing_6_w22 as_X5_takeClosing_6_w22 M0) d_X5_takeClosing_17 f_5_39 (by decide) (by decide) (ty_6 hS.1.1) (st_6_6 hS (by decide) (by omega) trivial) (fun M17 hS w17 => ?_)
    refine Tr.iconst (pc := 20) d_X5_takeClosing_20 (by decide) ?_
    exact Tr.zret (pc := 21) d_X5_takeClosing_21 rfl (by omega) ⟨hS, _, rfl, by omega, by omega, fun _ => w17.1⟩
  · refine Tr.iconst (pc := 8) d_X5_takeClosing_8 (by decide) ?_
    exact Tr.zret (pc := 9) d_X5_takeClosing_9 rfl (by omega) ⟨hS, _, rfl, by omega, by omega, fun hq => absurd hq (by omega)⟩

def ws_X5_takeClosing_6_w23 : List (Int × Int) := [(6, 0), (6, 1), (6, 5), (6, 6)]
def as_X5_takeClosing_6_w23 : List Int := []
def q_X5_takeClosing_6_w23 (M0 M' : Mem) (r : Option PV) : Prop := St Tru ws_X5_takeClosing_6_w23 as_X5_takeClosing_6_w23 M0 M' ∧ ∃ v : Int, r = some (0, v) ∧ 0 ≤ v ∧ v ≤ 1 ∧ ((1 ≤ v ∧ v ≤ 1) → rd M' 6 6 = 0)
set_option maxRecDepth 100000 in
set_option maxHeartbeats 4000000 in
theorem sp_X5_takeClosing_6_w23 {l : Launch} {K : EC} {M0 : Mem} (hI : In Tru M0) (en_6_2 : rd M0 6 2 = 2) (en_6_6 : rd M0 6 6 = 1) (a1 : Int) (ha1 : 123 ≤ a1 ∧ a1 ≤ 161)  : Tr l K 2 mX5_takeClosing 0 [(0, (2, 6)), (1, (0, a1))] [] M0 (q_X5_takeClosing_6_w23 M0) := by
  have hS : St Tru ws_X5_takeClosing_6_w23 as_X5_takeClosing_6_w23 M0 M0 := St.rf hI
  refine Tr.aload_n (pc := 0) (i := 0) d_X5_takeClosing_0 rfl rfl ?_
  refine Tr.iload_n (pc := 1) (i := 1) d_X5_takeClosing_1 rfl rfl ?_
  refine Tr.callV (pc := 2) (as := [_]) d_X5_takeClosing_2 s_5_81 ok_X5_takeSign rfl rfl (Nat.le_of_ble_eq_true rfl) (Nat.le_of_ble_eq_true rfl) (by decide) (ty_6 hS.1.1) ?_
  refine Tr.imp (Tr.deep (by decide) (sp_X5_takeSign_6_w4 hS.1 ((St.kp hS (by decide) (by decide) (by decide)).trans en_6_2) a1 (by omega))) ?_
  rintro M2 _ ⟨h2, r2, rfl, lr2, ur2⟩
  have hS := St.tr hS h2 (by decide) (by decide)
  refine Tr.sc [(0, r2)] rfl ?_
  refine Tr.if_ne (pc := 5) (tgt := 10) d_X5_takeClosing_5 rfl (fun c5 => ?_) (fun c5 => ?_)
  · refine Tr.aload_n (pc := 10) (i := 0) d_X5_takeClosing_10 rfl rfl ?_
    refine Tr.dup (pc := 11) d_X5_takeClosing_11 ne21 ?_
    refine Tr.getf (pc := 12) d_X5_takeClosing_12 f_5_39 (by decide) (by decide) (ty_6 hS.1.1) ?_
    refine Tr.tp 1 ((St.kp h2 (by decide) (by decide) (by decide)).trans en_6_6) ?_
    refine Tr.iconst (pc := 15) d_X5_takeClosing_15 (by decide) ?_
    refine Tr.isub (pc := 16) d_X5_takeClosing_16 ?_
    refine Tr.tp 0 (by decide) ?_
    refine Tr.putfS (pc := 17) (P := St Tru ws_X5_takeClosing_6_w23 as_X5_takeClosing_6_w23 M0) d_X5_takeClosing_17 f_5_39 (by decide) (by decide) (ty_6 hS.1.1) (st_6_6 hS (by decide) (by omega) trivial) (fun M17 hS w17 => ?_)
    refine Tr.iconst (pc := 20) d_X5_takeClosing_20 (by decide) ?_
    exact Tr.zret (pc := 21) d_X5_takeClosing_21 rfl (by omega) ⟨hS, _, rfl, by omega, by omega, fun _ => w17.1⟩
  · refine Tr.iconst (pc := 8) d_X5_takeClosing_8 (by decide) ?_
    exact Tr.zret (pc := 9) d_X5_takeClosing_9 rfl (by omega) ⟨hS, _, rfl, by omega, by omega, fun hq => absurd hq (by omega)⟩

def ws_X4_behind_35_w13 : List (Int × Int) := []
def as_X4_behind_35_w13 : List Int := []
def q_X4_behind_35_w13 (M0 M' : Mem) (r : Option PV) : Prop := St Tru ws_X4_behind_35_w13 as_X4_behind_35_w13 M0 M' ∧ ∃ v : Int, r = some (0, v) ∧ 0 ≤ v ∧ v ≤ 60
set_option maxRecDepth 100000 in
set_option maxHeartbeats 4000000 in
theorem sp_X4_behind_35_w13 {l : Launch} {K : EC} {M0 : Mem} (hI : In Tru M0)  (a1 : Int) (ha1 : 0 ≤ a1 ∧ a1 ≤ 59)  : Tr l K 0 mX4_behind 0 [(0, (2, 35)), (1, (0, a1))] [] M0 (q_X4_behind_35_w13 M0) := by
  have hS : St Tru ws_X4_behind_35_w13 as_X4_behind_35_w13 M0 M0 := St.rf hI
  refine Tr.aload_n (pc := 0) (i := 0) d_X4_behind_0 rfl rfl ?_
  refine Tr.getf (pc := 1) d_X4_behind_1 f_4_27 (by decide) (by decide) (ty_35 hS.1.1) ?_
  refine Tr.tp 41 (fx_35_6 hS.1.1) ?_
  refine Tr.iload_n (pc := 4) (i := 1) d_X4_behind_4 rfl rfl ?_
  refine Tr.iald (pc := 5) d_X4_behind_5 (ty_41 hS.1.1) (by omega) (by omega) ?_
  refine Tr.gen (P := fun v => (-1) ≤ v ∧ v ≤ 59) (ar_41 hS.1.2.1 _) (fun r5 er5 br5 => ?_)
  refine Tr.if_lt (pc := 6) (tgt := 16) d_X4_behind_6 rfl (fun c6 => ?_) (fun c6 => ?_)
  · refine Tr.aload_n (pc := 16) (i := 0) d_X4_behind_16 rfl rfl ?_
    refine Tr.getf (pc := 17) d_X4_behind_17 f_4_30 (by decide) (by decide) (ty_35 hS.1.1) ?_
    refine Tr.tp 42 (fx_35_7 hS.1.1) ?_
    refine Tr.iload_n (pc := 20) (i := 1) d_X4_behind_20 rfl rfl ?_
    refine Tr.iald (pc := 21) d_X4_behind_21 (ty_42 hS.1.1) (by omega) (by omega) ?_
    refine Tr.gen (P := fun v => (-1) ≤ v ∧ v ≤ 59) (ar_42 hS.1.2.1 _) (fun r21 er21 br21 => ?_)
    refine Tr.istore_n (pc := 22) (i := 2) (ls2 := [(2, (0, r21)), (0, (2, 35)), (1, (0, a1))]) d_X4_behind_22 rfl (by decide) rfl ?_
    refine Tr.iload_n (pc := 23) (i := 2) d_X4_behind_23 rfl rfl ?_
    refine Tr.if_ge (pc := 24) (tgt := 32) d_X4_behind_24 rfl (fun c24 => ?_) (fun c24 => ?_)
    · refine Tr.aload_n (pc := 32) (i := 0) d_X4_behind_32 rfl rfl ?_
      refine Tr.getf (pc := 33) d_X4_behind_33 f_4_9 (by decide) (by decide) (ty_35 hS.1.1) ?_
      refine Tr.tp 36 (fx_35_1 hS.1.1) ?_
      refine Tr.iload_n (pc := 36) (i := 2) d_X4_behind_36 rfl rfl ?_
      refine Tr.iald (pc := 37) d_X4_behind_37 (ty_36 hS.1.1) (by omega) (by omega) ?_
      refine Tr.gen (P := fun v => (-2147483648) ≤ v ∧ v ≤ 2147483647) (ar_36 hS.1.2.1 _) (fun r37 er37 br37 => ?_)
      refine Tr.bipush (pc := 38) d_X4_behind_38 rfl (by decide) ?_
      refine Tr.icmp_ne (pc := 40) (tgt := 47) d_X4_behind_40 rfl (fun c40 => ?_) (fun c40 => ?_)
      · refine Tr.aload_n (pc := 47) (i := 0) d_X4_behind_47 rfl rfl ?_
        refine Tr.getf (pc := 48) d_X4_behind_48 f_4_33 (by decide) (by decide) (ty_35 hS.1.1) ?_
        refine Tr.tp 43 (fx_35_8 hS.1.1) ?_
        refine Tr.iload_n (pc := 51) (i := 2) d_X4_behind_51 rfl rfl ?_
        refine Tr.iald (pc := 52) d_X4_behind_52 (ty_43 hS.1.1) (by omega) (by omega) ?_
        refine Tr.gen (P := fun v => 0 ≤ v ∧ v ≤ 60) (ar_43 hS.1.2.1 _) (fun r52 er52 br52 => ?_)
        exact Tr.iret (pc := 53) d_X4_behind_53 rfl ⟨hS, _, rfl, by omega, by omega⟩
      · refine Tr.iload_n (pc := 43) (i := 2) d_X4_behind_43 rfl rfl ?_
        refine Tr.goto (pc := 44) (tgt := 53) d_X4_behind_44 rfl ?_
        exact Tr.iret (pc := 53) d_X4_behind_53 rfl ⟨hS, _, rfl, by omega, by omega⟩
    · refine Tr.aload_n (pc := 27) (i := 0) d_X4_behind_27 rfl rfl ?_
      refine Tr.getf (pc := 28) d_X4_behind_28 f_4_45 (by decide) (by decide) (ty_35 hS.1.1) ?_
      refine Tr.gen (P := fun v => 0 ≤ v ∧ v ≤ 60) (ir_35_0 hS.1.2.1) (fun r28 er28 br28 => ?_)
      exact Tr.iret (pc := 31) d_X4_behind_31 rfl ⟨hS, _, rfl, by omega, by omega⟩
  · refine Tr.aload_n (pc := 9) (i := 0) d_X4_behind_9 rfl rfl ?_
    refine Tr.getf (pc := 10) d_X4_behind_10 f_4_27 (by decide) (by decide) (ty_35 hS.1.1) ?_
    refine Tr.tp 41 (fx_35_6 hS.1.1) ?_
    refine Tr.iload_n (pc := 13) (i := 1) d_X4_behind_13 rfl rfl ?_
    refine Tr.iald (pc := 14) d_X4_behind_14 (ty_41 hS.1.1) (by omega) (by omega) ?_
    refine Tr.tp r5 er5 ?_
    exact Tr.iret (pc := 15) d_X4_behind_15 rfl ⟨hS, _, rfl, by omega, by omega⟩

def ws_X4_link_35 : List (Int × Int) := []
def as_X4_link_35 : List Int := [38, 39, 40, 43]
def q_X4_link_35 (M0 M' : Mem) (r : Option PV) : Prop := St Tru ws_X4_link_35 as_X4_link_35 M0 M' ∧ r = none ∧ Yn35 M'
set_option maxRecDepth 100000 in
set_option maxHeartbeats 4000000 in
theorem sp_X4_link_35 {l : Launch} {K : EC} {M0 : Mem} (hI : In Tru M0)    : Tr l K 1 mX4_link 0 [(0, (2, 35))] [] M0 (q_X4_link_35 M0) := by
  have hS : St Tru ws_X4_link_35 as_X4_link_35 M0 M0 := St.rf hI
  refine Tr.aload_n (pc := 0) (i := 0) d_X4_link_0 rfl rfl ?_
  refine Tr.getf (pc := 1) d_X4_link_1 f_4_18 (by decide) (by decide) (ty_35 hS.1.1) ?_
  refine Tr.tp 38 (fx_35_3 hS.1.1) ?_
  refine Tr.aload_n (pc := 4) (i := 0) d_X4_link_4 rfl rfl ?_
  refine Tr.getf (pc := 5) d_X4_link_5 f_4_45 (by decide) (by decide) (ty_35 hS.1.1) ?_
  refine Tr.gen (P := fun v => 0 ≤ v ∧ v ≤ 60) (ir_35_0 hS.1.2.1) (fun r5 er5 br5 => ?_)
  refine Tr.aload_n (pc := 8) (i := 0) d_X4_link_8 rfl rfl ?_
  refine Tr.getf (pc := 9) d_X4_link_9 f_4_49 (by decide) (by decide) (ty_35 hS.1.1) ?_
  refine Tr.gen (P := fun v => 0 ≤ v ∧ v ≤ 900) (ir_35_11 hS.1.2.1) (fun r9 er9 br9 => ?_)
  refine Tr.iastS (pc := 12) (P := St Tru ws_X4_link_35 as_X4_link_35 M0) d_X4_link_12 (ty_38 hS.1.1) (by omega) (by omega) (sa_38 hS (by decide) (by omega) trivial) (fun M12 hS w12 => ?_)
  refine Tr.iconst (pc := 13) d_X4_link_13 (by decide) ?_
  refine Tr.istore_n (pc := 14) (i := 1) (ls2 := [(1, (0, 0)), (0, (2, 35))]) d_X4_link_14 rfl (by decide) rfl ?_
  have J15 : ∀ (n15 : Nat) (M : Mem) (p15_1 : Int), St Tru ws_X4_link_35 as_X4_link_35 M0 M → (0 ≤ p15_1 ∧ p15_1 ≤ 60) → rd M 35 0 = r5 → rd M 35 11 = r9 → rd M 38 r5 = r9 → (∀ k : Int, 0 ≤ k → k < p15_1 → 0 ≤ rd M 39 k ∧ 0 ≤ rd M 40 k) → (60 - p15_1).toNat < n15 → Tr l K 1 mX4_link 15 [(0, (2, 35)), (1, (0, p15_1))] [] M (q_X4_link_35 M0) := by
    intro n15
    induction n15 with
    | zero => intro M p15_1 hS bp15_1 k15_35_0 k15_35_11 k15_38_r510 tp15_0 hm15; exact absurd hm15 (Nat.not_lt_zero _)
    | succ n15 J15 =>
      intro M p15_1 hS bp15_1 k15_35_0 k15_35_11 k15_38_r510 tp15_0 hm15
      refine Tr.iload_n (pc := 15) (i := 1) d_X4_link_15 rfl rfl ?_
      refine Tr.aload_n (pc := 16) (i := 0) d_X4_link_16 rfl rfl ?_
      refine Tr.getf (pc := 17) d_X4_link_17 f_4_45 (by decide) (by decide) (ty_35 hS.1.1) ?_
      refine Tr.tp r5 k15_35_0 ?_
      refine Tr.icmp_ge (pc := 20) (tgt := 107) d_X4_link_20 rfl (fun c20 => ?_) (fun c20 => ?_)
      · have hyn : Yn35 M := fun k k0 k1 => tp15_0 k k0 (by omega)
        exact Tr.vret (pc := 107) d_X4_link_107 rfl ⟨hS, rfl, hyn⟩
      · refine Tr.aload_n (pc := 23) (i := 0) d_X4_link_23 rfl rfl ?_
        refine Tr.getf (pc := 24) d_X4_link_24 f_4_33 (by decide) (by decide) (ty_35 hS.1.1) ?_
        refine Tr.tp 43 (fx_35_8 hS.1.1) ?_
        refine Tr.iload_n (pc := 27) (i := 1) d_X4_link_27 rfl rfl ?_
        refine Tr.aload_n (pc := 28) (i := 0) d_X4_link_28 rfl rfl ?_
        refine Tr.iload_n (pc := 29) (i := 1) d_X4_link_29 rfl rfl ?_
        refine Tr.callV (pc := 30) (as := [_]) d_X4_link_30 s_4_52 ok_X4_behind rfl rfl (Nat.le_of_ble_eq_true rfl) (Nat.le_of_ble_eq_true rfl) (by decide) (ty_35 hS.1.1) ?_
        refine Tr.imp (Tr.deep (by decide) (sp_X4_behind_35_w13 hS.1 p15_1 (by omega))) ?_
        rintro M30 _ ⟨h30, r30, rfl, lr30, ur30⟩
        have hS := St.tr hS h30 (by decide) (by decide)
        refine Tr.sc [(0, r30), (0, p15_1), (2, 43)] rfl ?_
        refine Tr.iastS (pc := 33) (P := St Tru ws_X4_link_35 as_X4_link_35 M0) d_X4_link_33 (ty_43 hS.1.1) (by omega) (by omega) (sa_43 hS (by decide) (by omega) trivial) (fun M33 hS w33 => ?_)
        refine Tr.aload_n (pc := 34) (i := 0) d_X4_link_34 rfl rfl ?_
        refine Tr.getf (pc := 35) d_X4_link_35 f_4_9 (by decide) (by decide) (ty_35 hS.1.1) ?_
        refine Tr.tp 36 (fx_35_1 hS.1.1) ?_
        refine Tr.iload_n (pc := 38) (i := 1) d_X4_link_38 rfl rfl ?_
        refine Tr.iald (pc := 39) d_X4_link_39 (ty_36 hS.1.1) (by omega) (by omega) ?_
        refine Tr.gen (P := fun v => (-2147483648) ≤ v ∧ v ≤ 2147483647) (ar_36 hS.1.2.1 _) (fun r39 er39 br39 => ?_)
        refine Tr.bipush (pc := 40) d_X4_link_40 rfl (by decide) ?_
        have J50 : ∀ (M : Mem) (q50_0 : Int), St Tru ws_X4_link_35 as_X4_link_35 M0 M → (0 ≤ q50_0 ∧ q50_0 ≤ 1) → rd M 35 0 = r5 → rd M 35 11 = r9 → rd M 36 p15_1 = r39 → rd M 38 r5 = r9 → rd M 43 p15_1 = r30 → (∀ k : Int, 0 ≤ k → k < p15_1 → 0 ≤ rd M 39 k ∧ 0 ≤ rd M 40 k) → Tr l K 1 mX4_link 50 [(0, (2, 35)), (1, (0, p15_1))] [(0, q50_0)] M (q_X4_link_35 M0) := by
          intro M q50_0 hS bq50_0 k50_35_0 k50_35_11 k50_36_p15_110 k50_38_r510 k50_43_p15_110 tp50_0
          refine Tr.istore_n (pc := 50) (i := 2) (ls2 := [(2, (0, q50_0)), (0, (2, 35)), (1, (0, p15_1))]) d_X4_link_50 rfl (by decide) rfl ?_
          refine Tr.aload_n (pc := 51) (i := 0) d_X4_link_51 rfl rfl ?_
          refine Tr.getf (pc := 52) d_X4_link_52 f_4_21 (by decide) (by decide) (ty_35 hS.1.1) ?_
          refine Tr.tp 39 (fx_35_4 hS.1.1) ?_
          refine Tr.iload_n (pc := 55) (i := 1) d_X4_link_55 rfl rfl ?_
          refine Tr.iald (pc := 56) d_X4_link_56 (ty_39 hS.1.1) (by omega) (by omega) ?_
          refine Tr.gen (P := fun v => (-2147483648) ≤ v ∧ v ≤ 2147483647) (ar_39 hS.1.2.1 _) (fun r56 er56 br56 => ?_)
          have J80 : ∀ (M : Mem), St Tru ws_X4_link_35 as_X4_link_35 M0 M → rd M 35 0 = r5 → rd M 35 11 = r9 → rd M 36 p15_1 = r39 → rd M 38 r5 = r9 → rd M 43 p15_1 = r30 → (∀ k : Int, 0 ≤ k → k < p15_1 → 0 ≤ rd M 39 k ∧ 0 ≤ rd M 40 k) → (0 ≤ rd M 39 p15_1) → Tr l K 1 mX4_link 80 [(0, (2, 35)), (1, (0, p15_1))] [] M (q_X4_link_35 M0) := by
            intro M  hS  k80_35_0 k80_35_11 k80_36_p15_110 k80_38_r510 k80_43_p15_110 tp80_0 tp80_1
            refine Tr.aload_n (pc := 80) (i := 0) d_X4_link_80 rfl rfl ?_
            refine Tr.getf (pc := 81) d_X4_link_81 f_4_24 (by decide) (by decide) (ty_35 hS.1.1) ?_
            refine Tr.tp 40 (fx_35_5 hS.1.1) ?_
            refine Tr.iload_n (pc := 84) (i := 1) d_X4_link_84 rfl rfl ?_
            refine Tr.iald (pc := 85) d_X4_link_85 (ty_40 hS.1.1) (by omega) (by omega) ?_
            refine Tr.gen (P := fun v => (-2147483648) ≤ v ∧ v ≤ 2147483647) (ar_40 hS.1.2.1 _) (fun r85 er85 br85 => ?_)
            have J101 : ∀ (M : Mem), St Tru ws_X4_link_35 as_X4_link_35 M0 M → rd M 35 0 = r5 → rd M 35 11 = r9 → rd M 36 p15_1 = r39 → rd M 38 r5 = r9 → rd M 43 p15_1 = r30 → (∀ k : Int, 0 ≤ k → k < p15_1 + 1 → 0 ≤ rd M 39 k ∧ 0 ≤ rd M 40 k) → Tr l K 1 mX4_link 101 [(0, (2, 35)), (1, (0, p15_1))] [] M (q_X4_link_35 M0) := by
              intro M  hS  k101_35_0 k101_35_11 k101_36_p15_110 k101_38_r510 k101_43_p15_110 tp101_0
              refine Tr.iincV (pc := 101) (n2 := (p15_1 + 1)) (ls2 := [(1, (0, (p15_1 + 1))), (0, (2, 35))]) d_X4_link_101 rfl (by decide) ((w32_id (by omega)).trans (by omega)) rfl ?_
              refine Tr.goto (pc := 104) (tgt := 15) d_X4_link_104 rfl ?_
              refine Tr.pick [1, 0] (ls2 := [(0, (2, 35)), (1, (0, (p15_1 + 1)))]) rfl ?_
              exact J15 _ _ hS (by omega) k101_35_0 k101_35_11 k101_38_r510 (fun k k0 k1 => tp101_0 k k0 (by omega)) (by omega)
            refine Tr.if_ge (pc := 86) (tgt := 101) d_X4_link_86 rfl (fun c86 => ?_) (fun c86 => ?_)
            · refine Tr.pick [0, 1] (ls2 := [(0, (2, 35)), (1, (0, p15_1))]) rfl ?_
              exact J101 _ hS k80_35_0 k80_35_11 k80_36_p15_110 k80_38_r510 k80_43_p15_110 (fun k k0 k1 => by by_cases hk : k = p15_1; rw [hk]; exact ⟨tp80_1, (by have h9 : rd M 40 p15_1 = r85 := er85; omega)⟩; exact tp80_0 k k0 (by omega))
            · refine Tr.aload_n (pc := 89) (i := 0) d_X4_link_89 rfl rfl ?_
              refine Tr.getf (pc := 90) d_X4_link_90 f_4_24 (by decide) (by decide) (ty_35 hS.1.1) ?_
              refine Tr.tp 40 (fx_35_5 hS.1.1) ?_
              refine Tr.iload_n (pc := 93) (i := 1) d_X4_link_93 rfl rfl ?_
              refine Tr.aload_n (pc := 94) (i := 0) d_X4_link_94 rfl rfl ?_
              refine Tr.getf (pc := 95) d_X4_link_95 f_4_33 (by decide) (by decide) (ty_35 hS.1.1) ?_
              refine Tr.tp 43 (fx_35_8 hS.1.1) ?_
              refine Tr.iload_n (pc := 98) (i := 1) d_X4_link_98 rfl rfl ?_
              refine Tr.iald (pc := 99) d_X4_link_99 (ty_43 hS.1.1) (by omega) (by omega) ?_
              refine Tr.tp r30 k80_43_p15_110 ?_
              refine Tr.iastS (pc := 100) (P := St Tru ws_X4_link_35 as_X4_link_35 M0) d_X4_link_100 (ty_40 hS.1.1) (by omega) (by omega) (sa_40 hS (by decide) (by omega) trivial) (fun M100 hS w100 => ?_)
              refine Tr.pick [0, 1] (ls2 := [(0, (2, 35)), (1, (0, p15_1))]) rfl ?_
              exact J101 _ hS ((Wr.b w100 rfl).trans k80_35_0) ((Wr.b w100 rfl).trans k80_35_11) ((Wr.b w100 rfl).trans k80_36_p15_110) ((Wr.b w100 rfl).trans k80_38_r510) ((Wr.b w100 rfl).trans k80_43_p15_110) (fun k k0 k1 => by by_cases hk : k = p15_1; rw [hk, show rd M100 39 p15_1 = rd M 39 p15_1 from ((Wr.b w100 rfl).trans rfl), w100.1]; exact ⟨tp80_1, by omega⟩; rw [Wr.i (y := 39) w100 hk, Wr.i (y := 40) w100 hk]; exact tp80_0 k k0 (by omega))
          refine Tr.if_ge (pc := 57) (tgt := 80) d_X4_link_57 rfl (fun c57 => ?_) (fun c57 => ?_)
          · refine Tr.pick [1, 2] (ls2 := [(0, (2, 35)), (1, (0, p15_1))]) rfl ?_
            exact J80 _ hS k50_35_0 k50_35_11 k50_36_p15_110 k50_38_r510 k50_43_p15_110 (fun k k0 k1 => tp50_0 k k0 k1) (by have h9 : rd M 39 p15_1 = r56 := er56; omega)
          · refine Tr.aload_n (pc := 60) (i := 0) d_X4_link_60 rfl rfl ?_
            refine Tr.getf (pc := 61) d_X4_link_61 f_4_21 (by decide) (by decide) (ty_35 hS.1.1) ?_
            refine Tr.tp 39 (fx_35_4 hS.1.1) ?_
            refine Tr.iload_n (pc := 64) (i := 1) d_X4_link_64 rfl rfl ?_
            refine Tr.iload_n (pc := 65) (i := 2) d_X4_link_65 rfl rfl ?_
            have J79 : ∀ (M : Mem) (q79_2 : Int), St Tru ws_X4_link_35 as_X4_link_35 M0 M → (0 ≤ q79_2 ∧ q79_2 ≤ 60) → rd M 35 0 = r5 → rd M 35 11 = r9 → rd M 36 p15_1 = r39 → rd M 38 r5 = r9 → rd M 39 p15_1 = r56 → rd M 43 p15_1 = r30 → (p15_1 = p15_1) → (∀ k : Int, 0 ≤ k → k < p15_1 → 0 ≤ rd M 39 k ∧ 0 ≤ rd M 40 k) → Tr l K 1 mX4_link 79 [(0, (2, 35)), (1, (0, p15_1))] [(0, q79_2), (0, p15_1), (2, 39)] M (q_X4_link_35 M0) := by
              intro M q79_2 hS bq79_2 k79_35_0 k79_35_11 k79_36_p15_110 k79_38_r510 k79_39_p15_110 k79_43_p15_110 t79_0 tp79_0
              refine Tr.iastS (pc := 79) (P := St Tru ws_X4_link_35 as_X4_link_35 M0) d_X4_link_79 (ty_39 hS.1.1) (by omega) (by omega) (sa_39 hS (by decide) (by omega) trivial) (fun M79 hS w79 => ?_)
              refine Tr.pick [0, 1] (ls2 := [(0, (2, 35)), (1, (0, p15_1))]) rfl ?_
              exact J80 _ hS ((Wr.b w79 rfl).trans k79_35_0) ((Wr.b w79 rfl).trans k79_35_11) ((Wr.b w79 rfl).trans k79_36_p15_110) ((Wr.b w79 rfl).trans k79_38_r510) ((Wr.b w79 rfl).trans k79_43_p15_110) (fun k k0 k1 => by rw [Wr.i (y := 39) w79 (show k ≠ p15_1 by omega), Wr.i (y := 40) w79 (show k ≠ p15_1 by omega)]; exact tp79_0 k k0 k1) (by rw [w79.1]; omega)
            refine Tr.if_eq (pc := 66) (tgt := 73) d_X4_link_66 rfl (fun c66 => ?_) (fun c66 => ?_)
            · refine Tr.aload_n (pc := 73) (i := 0) d_X4_link_73 rfl rfl ?_
              refine Tr.getf (pc := 74) d_X4_link_74 f_4_33 (by decide) (by decide) (ty_35 hS.1.1) ?_
              refine Tr.tp 43 (fx_35_8 hS.1.1) ?_
              refine Tr.iload_n (pc := 77) (i := 1) d_X4_link_77 rfl rfl ?_
              refine Tr.iald (pc := 78) d_X4_link_78 (ty_43 hS.1.1) (by omega) (by omega) ?_
              refine Tr.tp r30 k50_43_p15_110 ?_
              refine Tr.pick [1, 2] (ls2 := [(0, (2, 35)), (1, (0, p15_1))]) rfl ?_
              exact J79 _ _ hS (by omega) k50_35_0 k50_35_11 k50_36_p15_110 k50_38_r510 er56 k50_43_p15_110 (by omega) (fun k k0 k1 => tp50_0 k k0 k1)
            · refine Tr.iload_n (pc := 69) (i := 1) d_X4_link_69 rfl rfl ?_
              refine Tr.goto (pc := 70) (tgt := 79) d_X4_link_70 rfl ?_
              refine Tr.pick [1, 2] (ls2 := [(0, (2, 35)), (1, (0, p15_1))]) rfl ?_
              exact J79 _ _ hS (by omega) k50_35_0 k50_35_11 k50_36_p15_110 k50_38_r510 er56 k50_43_p15_110 (by omega) (fun k k0 k1 => tp50_0 k k0 k1)
        refine Tr.icmp_ne (pc := 42) (tgt := 49) d_X4_link_42 rfl (fun c42 => ?_) (fun c42 => ?_)
        · refine Tr.iconst (pc := 49) d_X4_link_49 (by decide) ?_
          refine Tr.pick [0, 1] (ls2 := [(0, (2, 35)), (1, (0, p15_1))]) rfl ?_
          exact J50 _ _ hS (by omega) ((Wr.b w33 rfl).trans ((St.kp h30 (by decide) (by decide) (by decide)).trans k15_35_0)) ((Wr.b w33 rfl).trans ((St.kp h30 (by decide) (by decide) (by decide)).trans k15_35_11)) er39 ((Wr.b w33 rfl).trans ((St.ka h30 (by decide) (by decide) (by decide)).trans k15_38_r510)) w33.1 (fun k k0 k1 => by rw [show rd M33 39 k = rd M 39 k from ((Wr.b w33 rfl).trans ((St.ka h30 (by decide) (by decide) (by decide)).trans rfl)), show rd M33 40 k = rd M 40 k from ((Wr.b w33 rfl).trans ((St.ka h30 (by decide) (by decide) (by decide)).trans rfl))]; exact tp15_0 k k0 k1)
        · refine Tr.iconst (pc := 45) d_X4_link_45 (by decide) ?_
          refine Tr.goto (pc := 46) (tgt := 50) d_X4_link_46 rfl ?_
          refine Tr.pick [0, 1] (ls2 := [(0, (2, 35)), (1, (0, p15_1))]) rfl ?_
          exact J50 _ _ hS (by omega) ((Wr.b w33 rfl).trans ((St.kp h30 (by decide) (by decide) (by decide)).trans k15_35_0)) ((Wr.b w33 rfl).trans ((St.kp h30 (by decide) (by decide) (by decide)).trans k15_35_11)) er39 ((Wr.b w33 rfl).trans ((St.ka h30 (by decide) (by decide) (by decide)).trans k15_38_r510)) w33.1 (fun k k0 k1 => by rw [show rd M33 39 k = rd M 39 k from ((Wr.b w33 rfl).trans ((St.ka h30 (by decide) (by decide) (by decide)).trans rfl)), show rd M33 40 k = rd M 40 k from ((Wr.b w33 rfl).trans ((St.ka h30 (by decide) (by decide) (by decide)).trans rfl))]; exact tp15_0 k k0 k1)
  refine Tr.pick [1, 0] (ls2 := [(0, (2, 35)), (1, (0, 0))]) rfl ?_
  exact J15 _ _ _ hS (by omega) ((Wr.b w12 rfl).trans er5) ((Wr.b w12 rfl).trans er9) w12.1 (fun k k0 k1 => absurd k1 (by omega)) (Nat.lt_succ_self _)

def ws_X10_clear_103 : List (Int × Int) := [(103, 0)]
def as_X10_clear_103 : List Int := []
def q_X10_clear_103 (M0 M' : Mem) (r : Option PV) : Prop := St Tru ws_X10_clear_103 as_X10_clear_103 M0 M' ∧ r = none
set_option maxRecDepth 100000 in
set_option maxHeartbeats 4000000 in
theorem sp_X10_clear_103 {l : Launch} {K : EC} {M0 : Mem} (hI : In Tru M0)    : Tr l K 0 mX10_clear 0 [(0, (2, 103))] [] M0 (q_X10_clear_103 M0) := by
  have hS : St Tru ws_X10_clear_103 as_X10_clear_103 M0 M0 := St.rf hI
  refine Tr.aload_n (pc := 0) (i := 0) d_X10_clear_0 rfl rfl ?_
  refine Tr.iconst (pc := 1) d_X10_clear_1 (by decide) ?_
  refine Tr.putzS (pc := 2) (P := St Tru ws_X10_clear_103 as_X10_clear_103 M0) d_X10_clear_2 f_10_21 (by decide) (ty_103 hS.1.1) (by omega) (st_103_0 hS (by decide) (by omega) trivial) (fun M2 hS w2 => ?_)
  exact Tr.vret (pc := 5) d_X10_clear_5 rfl ⟨hS, rfl⟩
end
/-! 30.20 -/
section
def ws_X2_clear_107 : List (Int × Int) := [(107, 0), (107, 1)]
def as_X2_clear_107 : List Int := []
def q_X2_clear_107 (M0 M' : Mem) (r : Option PV) : Prop := St Tru ws_X2_clear_107 as_X2_clear_107 M0 M' ∧ r = none
set_option maxRecDepth 100000 in
set_option maxHeartbeats 4000000 in
theorem sp_X2_clear_107 {l : Launch} {K : EC} {M0 : Mem} (hI : In Tru M0)    : Tr l K 0 mX2_clear 0 [(0, (2, 107))] [] M0 (q_X2_clear_107 M0) := by
  have hS : St Tru ws_X2_clear_107 as_X2_clear_107 M0 M0 := St.rf hI
  refine Tr.aload_n (pc := 0) (i := 0) d_X2_clear_0 rfl rfl ?_
  refine Tr.iconst (pc := 1) d_X2_clear_1 (by decide) ?_
  refine Tr.putfS (pc := 2) (P := St Tru ws_X2_clear_107 as_X2_clear_107 M0) d_X2_clear_2 f_2_27 (by decide) (by decide) (ty_107 hS.1.1) (st_107_0 hS (by decide) (by omega) trivial) (fun M2 hS w2 => ?_)
  refine Tr.aload_n (pc := 5) (i := 0) d_X2_clear_5 rfl rfl ?_
  refine Tr.iconst (pc := 6) d_X2_clear_6 (by decide) ?_
  refine Tr.putzS (pc := 7) (P := St Tru ws_X2_clear_107 as_X2_clear_107 M0) d_X2_clear_7 f_2_31 (by decide) (ty_107 hS.1.1) (by omega) (st_107_1 hS (by decide) (by omega) trivial) (fun M7 hS w7 => ?_)
  exact Tr.vret (pc := 10) d_X2_clear_10 rfl ⟨hS, rfl⟩
end
/-! 32.ext -/
section
/-! what lies outside the cells: statics, objects and rows that nobody writes -/
section EXTR
variable {l : Launch} {K : EC} {d : Nat} {m : MD} {pc : Nat} {ls : List (Nat × PV)} {st st0 : List PV} {M : Mem} {Q : Mem → Option PV → Prop}
/-- a static that holds v -/
def e_Z (K : EC) (C n dd : String) (v : PV) : Prop := e_ok v ∧ ∀ s : State, K.2.2.2.2 s → va_Z C n dd (e_val K v) (e_A K) s s.heap
theorem Tr.gets {idx : Nat} {C n dd : String} {v : PV} (hd : decode m.2.2.1 pc = .ok (.getstatic idx, 3)) (hl : Cond.fieldLink (e_cn m.1) idx C n dd ∈ tblG) (hz : e_Z K C n dd v) (k : Tr l K d m (pc + 3) ls (v :: st) M Q) : Tr l K d m pc ls st M Q := by
  refine Tr.up (fun _ _ h => Ends.sk (fun hM hst hls => oks_c hz.1 hst) (fun p e R s mid args below meth c H locs cells slots lsA Q hX hf hg hR hM hst hls hS hlv kk => ?_) h) k
  obtain ⟨hxx, hb, hml, hr, hown, hts, hlk0, hname, hK, hb0, hex, hclo⟩ := hX
  exact va_gets hxx hb (hz.2 s hex) hS hown (hts _ hl) (fun _ h => h) hd kk
/-- number i outside is an object of the class C -/
def e_xO (K : EC) (i : Nat) (C : String) : Prop := ∀ s : State, K.2.2.2.2 s → va_O C (K.2.1 i) (e_A K) s s.heap
/-- its field holds v -/
def e_xF (K : EC) (i : Nat) (C n dd : String) (v : PV) : Prop := e_ok v ∧ ∀ s : State, K.2.2.2.2 s → va_OF C n dd (e_val K v) (K.2.1 i) (e_A K) s s.heap
theorem Tr.xgetf {idx i : Nat} {C n dd : String} {v : PV} {x : Int} (hd : decode m.2.2.1 pc = .ok (.getfield idx, 3)) (hx : x = -2 - (i : Int)) (hl : Cond.fieldLink (e_cn m.1) idx C n dd ∈ tblG) (hz : e_xF K i C n dd v) (k : Tr l K d m (pc + 3) ls (v :: st) M Q) : Tr l K d m pc ls ((2, x) :: st) M Q := by
  subst hx
  refine Tr.up (fun _ _ h => Ends.sk (fun hM hst hls => oks_c hz.1 (oks_t hst)) (fun p e R s mid args below meth c H locs cells slots lsA Q hX hf hg hR hM hst hls hS hlv kk => ?_) h) k
  obtain ⟨hxx, hb, hml, hr, hown, hts, hlk0, hname, hK, hb0, hex, hclo⟩ := hX
  show W p l e R s mid args below meth c H locs cells slots Q (F0 mid pc lsA (e_val K (2, -2 - (i : Int)) :: st.map (e_val K)))
  rw [e_xref]
  exact vk_getf hxx hb (hz.2 s hex) hS hown (hts _ hl) (fun _ h => h) hd kk
/-- number i outside is a row of L bytes f -/
def e_xB (K : EC) (i L : Nat) (f : Int → Int) : Prop := (∀ j : Int, e_ok (0, f j)) ∧ ∀ s : State, K.2.2.2.2 s → va_T .byte (K.2.1 i) L (fun j => .int (Int32.ofInt (f (j : Int)))) (e_A K) s s.heap
theorem Tr.xbld {i L : Nat} {f : Int → Int} {x j : Int} (hd : decode m.2.2.1 pc = .ok (.baload, 1)) (hx : x = -2 - (i : Int)) (he : e_xB K i L f) (h0 : 0 ≤ j) (h1 : j < L) (k : Tr l K d m (pc + 1) ls ((0, f j) :: st) M Q) : Tr l K d m pc ls ((0, j) :: (2, x) :: st) M Q := by
  subst hx
  refine Tr.up (fun _ _ h => Ends.sk (fun hM hst hls => oks_c (he.1 j) (oks_t (oks_t hst))) (fun p e R s mid args below meth c H locs cells slots lsA Q hX hf hg hR hM hst hls hS hlv kk => ?_) h) k
  obtain ⟨hxx, hb, hml, hr, hown, hts, hlk0, hname, hK, hb0, hex, hclo⟩ := hX
  show W p l e R s mid args below meth c H locs cells slots Q (F0 mid pc lsA (e_val K (0, j) :: e_val K (2, -2 - (i : Int)) :: st.map (e_val K)))
  rw [e_xref]
  obtain ⟨cell, g1, g2, g3, g4, g5, g6, g7⟩ := he.2 s hex
  have hjj := i32_cl h0 (oks_h hst).i.2
  have gv : cell.slots[j.toNat]? = some (.int (Int32.ofInt (f (j.toNat : Int)))) := g6 j.toNat (by omega)
  rw [Int.toNat_of_nonneg h0] at gv
  exact W.bald (j := Int32.ofInt j) (v := .int (Int32.ofInt (f j))) hxx hb (by rw [hS.2.1 _ (Array.getElem?_eq_some_iff.mp g1).1 g7]; exact g1) g2 g3 (fun c => i32_in (oks_h hst) h0 h1 (c.imp id (fun c2 => Nat.le_trans g4 c2))) (by rw [hjj]; exact gv) rfl rfl hd kk
theorem Tr.xblen {i L : Nat} {f : Int → Int} {x : Int} (hd : decode m.2.2.1 pc = .ok (.arraylength, 1)) (hx : x = -2 - (i : Int)) (he : e_xB K i L f) (hL : L ≤ 2147483647) (k : Tr l K d m (pc + 1) ls ((0, (L : Int)) :: st) M Q) : Tr l K d m pc ls ((2, x) :: st) M Q := by
  subst hx
  refine Tr.up (fun _ _ h => Ends.sk (fun hM hst hls => oks_c (ok0 (by omega)) (oks_t hst)) (fun p e R s mid args below meth c H locs cells slots lsA Q hX hf hg hR hM hst hls hS hlv kk => ?_) h) k
  obtain ⟨hxx, hb, hml, hr, hown, hts, hlk0, hname, hK, hb0, hex, hclo⟩ := hX
  show W p l e R s mid args below meth c H locs cells slots Q (F0 mid pc lsA (e_val K (2, -2 - (i : Int)) :: st.map (e_val K)))
  rw [e_xref]
  obtain ⟨cell, g1, g2, g3, g4, g5, g6, g7⟩ := he.2 s hex
  refine W.alen (n := Int32.ofInt (L : Int)) hxx hb (by rw [hS.2.1 _ (Array.getElem?_eq_some_iff.mp g1).1 g7]; exact g1) g2 (by first | exact g5.trans Int32.ofInt_eq_ofNat.symm | (rw [g5]; first | rfl | exact Int32.ofInt_eq_ofNat.symm | simp)) rfl rfl hd kk
/-- a String constant, number i outside -/
theorem Tr.ldcs {idx i : Nat} {tx : String} (hd : decode m.2.2.1 pc = .ok (.ldc idx, 2)) (hz : ∀ s : State, K.2.2.2.2 s → vk_R (e_cn m.1) idx tx (K.2.1 i) s) (k : Tr l K d m (pc + 2) ls ((2, -2 - (i : Int)) :: st) M Q) : Tr l K d m pc ls st M Q := by
  refine Tr.up (fun _ _ h => Ends.sk (fun hM hst hls => oks_c (ok2 _) hst) (fun p e R s mid args below meth c H locs cells slots lsA Q hX hf hg hR hM hst hls hS hlv kk => ?_) h) k
  obtain ⟨hxx, hb, hml, hr, hown, hts, hlk0, hname, hK, hb0, hex, hclo⟩ := hX
  refine va_ldcS hxx hb hown (hz s hex) hd ?_
  have h9 : e_val K (2, -2 - (i : Int)) = .ref (K.2.1 i) := e_xref K i
  rw [← h9]
  exact kk
/-- a call of an object outside -/
def e_siteX (cn idx : Nat) (y : MD) : Prop := Cond.methodLink (e_cn cn) idx y.2.1 ∈ tblG ∧ Cond.instanceMethod y.2.1 ∈ tblG ∧ Cond.selects y.2.1.cls y.2.1 y.2.1 ∈ tblG
theorem Tr.callX {y : MD} {n idx i : Nat} {as : List PV} {x : Int} (hd : decode m.2.2.1 pc = .ok (.invokevirtual idx, 3)) (hs : e_siteX m.1 idx y) (hy : e_m y n) (hn : as.length = n) (hst : as.reverse ++ (2, x) :: st = st0) (hcat : e_cat st ≤ 8) (ha : e_cat as + 1 ≤ y.2.2.2.1) (hx : x = -2 - (i : Int)) (ho : e_xO K i y.2.1.cls)
    (k : Tr l K d y 0 (e_args 0 ((2, x) :: as)) [] M (fun M1 r1 => Tr l K (d + 1) m (pc + 3) ls (r1.toList ++ st) M1 Q)) : Tr l K (d + 1) m pc ls st0 M Q := by
  subst hst
  subst hx
  obtain ⟨M1, r1, ⟨M', r, hq, h⟩, hcall⟩ := k
  have okas : oks (as.reverse ++ (2, -2 - (i : Int)) :: st) → oks ((2, -2 - (i : Int)) :: as) := fun hs => oks_c (ok2 _) fun v hv => hs v (List.mem_append_left _ (List.mem_reverse.mpr hv))
  have okst : oks (as.reverse ++ (2, -2 - (i : Int)) :: st) → oks st := fun hs v hv => hs v (List.mem_append_right _ (List.mem_cons_of_mem _ hv))
  refine ⟨M', r, hq, Ends.call (a := (Value.ref (K.2.1 i) :: as.map (e_val K)).toArray) hcall.1 hcall.2.1 (fun hM hs => hcall.2.2.1 hM (fun v hv => by cases hv) (e_args_ok (okas hs) 0)) okst ?_ h⟩
  intro p e R s mid args below meth c H locs cells slots lsA hX hf hl hR hM hst9 hS hsz hcE hsE hbH
  obtain ⟨hxx, hb, hml, hr, hown, hts, hlk0, hname, hK, hb0, hex, hclo⟩ := hX
  obtain ⟨s1, s2, s3⟩ := hs
  have hM9 := e_met hclo hy (as := (2, -2 - (i : Int)) :: as) (by show e_cat ((2, -2 - (i : Int)) :: as) ≤ _; rw [show e_cat ((2, -2 - (i : Int)) :: as) = 1 + e_cat as from by simp [e_cat, e_ct]]; omega) hM (okas hst9) hcall
  obtain ⟨cell, o1, o2, o3, o4⟩ := ho s hex
  have hrecv : ∃ cell : Cell, H[K.2.1 i]? = some cell ∧ cell.vm.isStatics = false ∧ s.vm.findClass y.2.1.cls = some cell.cls := ⟨cell, by rw [hS.2.1 _ (Array.getElem?_eq_some_iff.mp o1).1 o4]; exact o1, o2, o3⟩
  have e9 : (((2, -2 - (i : Int)) :: as : List PV).map (e_val K)) = .ref (K.2.1 i) :: as.map (e_val K) := by rw [List.map_cons, e_xref]
  refine va_runV (C := y.2.1.cls) (b := K.2.1 i) (As := as.map (e_val K)) (Ts := tblG) (n := n) ⟨hxx, hb, hml, hown, hts⟩ hM9 (cwV n hts (tblG_good ?_) rfl rfl rfl ⟨rfl, hy.2.2.2.2.1⟩ ⟨hf, by have := hy.2.2.2.2.2; show 8 + (y.2.2.2.1 + 11) + 70 * d ≤ R.locals; omega⟩) ⟨e_blind K hclo M _, hrecv, fun U hU hW => ⟨by rw [e9], by rw [hU]; exact hR, va_K.moved hW.alike hK, by rw [hU]; exact hbH, hclo s U hW (fun q hq => by rw [hU]; exact hS.2.1 q (Nat.lt_of_lt_of_le hq hb0) (Nat.not_le.mpr hq)) hex⟩⟩ rfl (by rw [List.length_map]; exact hn) hsz ?_ (lv_room (by rw [e_vcats]; exact hcat)) hd ⟨hcE, hsE⟩
  · intro w hw
    rcases List.mem_append.mp hw with h | h
    · simp only [List.mem_cons, List.not_mem_nil, or_false] at h
      rcases h with rfl | rfl | rfl | rfl
      · exact s1
      · exact s2
      · exact s3
      · exact hy.2.2.2.1
    · exact (e_goodws y hy w h).1
  · show (as.reverse ++ (2, -2 - (i : Int)) :: st).map (e_val K) = _
    rw [List.map_append, List.map_cons, e_xref, List.map_reverse]
end EXTR
/-! all of it as one hypothesis -/
def xT (q : List Int) (j : Int) : Int := q.getD j.toNat 0
theorem xT_b {q : List Int} {lo hi : Int} (h : q.all (fun z => decide (lo ≤ z ∧ z ≤ hi)) = true) (h0 : lo ≤ 0 ∧ 0 ≤ hi) (j : Int) : lo ≤ xT q j ∧ xT q j ≤ hi := by
  unfold xT
  rw [List.getD_eq_getElem?_getD]
  cases hq : q[j.toNat]? with
  | none => exact h0
  | some z =>
    have h1 := List.all_eq_true.mp h z (List.mem_of_getElem? hq)
    simpa using h1
def xr_1 : List Int := [6, 3, 6]
def xr_2 : List Int := [0, 6, 9]
def xr_3 : List Int := [1, 1, 2, 6, 24, 120, 720, 5040, 40320]
def xr_5 : List Int := [104, 101, 97, 114, 116, 32, 99, 97, 99, 104, 101, 32, 112, 97, 114, 116, 32, 32, 105, 110, 112, 117, 116, 32, 118, 97, 114, 32, 32, 32, 115, 101, 116, 32, 32, 32, 117, 115, 101, 32, 32, 32, 104, 111, 108, 100, 32, 32, 102, 114, 101, 101, 32, 32, 119, 97, 105, 116, 32, 32, 116, 111, 117, 99, 104, 32, 105, 102, 32, 32, 32, 32, 119, 104, 105, 108, 101, 32, 101, 108, 115, 101, 32, 32, 115, 108, 101, 101, 112, 32, 119, 97, 107, 101, 32, 32, 111, 110, 32, 32, 32, 32, 119, 111, 114, 107, 32, 32, 116, 97, 105, 108, 32, 32, 111, 114, 32, 32, 32, 32, 97, 110, 100, 32, 32, 32, 110, 111, 116, 32, 32, 32, 97, 108, 108, 32, 32, 32, 104, 101, 108, 100, 32, 32, 116, 105, 99, 107, 32, 32, 109, 105, 110, 32, 32, 32, 109, 97, 120, 32, 32, 32]
def xr_7 : List Int := [59, 123, 125, 61, 60, 62, 43, 45, 42, 47, 37, 40, 41, 91, 93, 44]
def e_all (K : EC) (xq : Int) : Prop := (e_ext K 1 3 (xT xr_1)) ∧ (e_ext K 2 3 (xT xr_2)) ∧ (e_ext K 3 9 (xT xr_3)) ∧ (e_Z K "SipMeter$Machine" "MOST" "[I" (2, -3)) ∧ (e_Z K "SipMeter$Machine" "FIRST_NAME" "[I" (2, -4)) ∧ (e_Z K "SipMeter$Turns" "FACTORIALS" "[I" (2, -5)) ∧ (e_Z K "java/lang/String" "COMPACT_STRINGS" "Z" (0, 1)) ∧ (e_Z K "jdk/internal/util/Preconditions" "SIOOBE_FORMATTER" "Ljava/util/function/BiFunction;" (2, xq)) ∧ (e_xO K 4 "java/lang/String") ∧ (e_xF K 4 "java/lang/String" "coder" "B" (0, 0)) ∧ (e_xF K 4 "java/lang/String" "value" "[B" (2, -7)) ∧ (e_xO K 6 "java/lang/String") ∧ (e_xF K 6 "java/lang/String" "coder" "B" (0, 0)) ∧ (e_xF K 6 "java/lang/String" "value" "[B" (2, -9)) ∧ (e_xB K 5 162 (xT xr_5)) ∧ (e_xB K 7 16 (xT xr_7)) ∧ (∀ s : State, K.2.2.2.2 s → vk_R (e_cn 7) 57 ";{}=<>+-*/%()[]," (K.2.1 6) s) ∧ (∀ s : State, K.2.2.2.2 s → vk_R (e_cn 7) 72 "heart cache part  input var   set   use   hold  free  wait  touch if    while else  sleep wake  on    work  tail  or    and   not   all   held  tick  min   max   " (K.2.1 4) s)
end
/-! 33.00 -/
section
def mX11_letter : MD := (11, yX11_letter, cX11_letter, 4, some .int)
theorem d_X11_letter_0 : decode mX11_letter.2.2.1 0 = .ok (.iload_n 1, 1) := by decide +kernel
theorem d_X11_letter_1 : decode mX11_letter.2.2.1 1 = .ok (.ifCond .lt 25, 3) := by decide +kernel
theorem d_X11_letter_26 : decode mX11_letter.2.2.1 26 = .ok (.iconst (-1), 1) := by decide +kernel
theorem d_X11_letter_27 : decode mX11_letter.2.2.1 27 = .ok (.ireturn, 1) := by decide +kernel
theorem d_X11_letter_4 : decode mX11_letter.2.2.1 4 = .ok (.iload_n 1, 1) := by decide +kernel
theorem d_X11_letter_5 : decode mX11_letter.2.2.1 5 = .ok (.iconst 3, 1) := by decide +kernel
theorem d_X11_letter_6 : decode mX11_letter.2.2.1 6 = .ok (.if_icmp .ge 20, 3) := by decide +kernel
theorem d_X11_letter_9 : decode mX11_letter.2.2.1 9 = .ok (.iload_n 2, 1) := by decide +kernel
theorem d_X11_letter_10 : decode mX11_letter.2.2.1 10 = .ok (.ifCond .lt 16, 3) := by decide +kernel
theorem d_X11_letter_13 : decode mX11_letter.2.2.1 13 = .ok (.iload_n 2, 1) := by decide +kernel
theorem d_X11_letter_14 : decode mX11_letter.2.2.1 14 = .ok (.aload_n 0, 1) := by decide +kernel
theorem d_X11_letter_15 : decode mX11_letter.2.2.1 15 = .ok (.getfield 30, 3) := by decide +kernel
theorem d_X11_letter_18 : decode mX11_letter.2.2.1 18 = .ok (.getfield 130, 3) := by decide +kernel
theorem d_X11_letter_21 : decode mX11_letter.2.2.1 21 = .ok (.iload_n 1, 1) := by decide +kernel
theorem d_X11_letter_22 : decode mX11_letter.2.2.1 22 = .ok (.iaload, 1) := by decide +kernel
theorem d_X11_letter_23 : decode mX11_letter.2.2.1 23 = .ok (.if_icmp .lt 5, 3) := by decide +kernel
theorem d_X11_letter_28 : decode mX11_letter.2.2.1 28 = .ok (.aload_n 0, 1) := by decide +kernel
theorem d_X11_letter_29 : decode mX11_letter.2.2.1 29 = .ok (.getfield 30, 3) := by decide +kernel
theorem d_X11_letter_32 : decode mX11_letter.2.2.1 32 = .ok (.iload_n 1, 1) := by decide +kernel
theorem d_X11_letter_33 : decode mX11_letter.2.2.1 33 = .ok (.iload_n 2, 1) := by decide +kernel
theorem d_X11_letter_34 : decode mX11_letter.2.2.1 34 = .ok (.iload_n 3, 1) := by decide +kernel
theorem d_X11_letter_35 : decode mX11_letter.2.2.1 35 = .ok (.invokevirtual 137, 3) := by decide +kernel
def mX3_letterOf : MD := (3, yX3_letterOf, cX3_letterOf, 7, some .int)
theorem sel_X3_letterOf : Cond.instanceMethod mX3_letterOf.2.1 ∈ tblG ∧ Cond.selects mX3_letterOf.2.1.cls mX3_letterOf.2.1 mX3_letterOf.2.1 ∈ tblG := ⟨tblG_in (inT4 (List.mem_of_getElem? (i := 215) rfl)) rfl, tblG_in (inT4 (List.mem_of_getElem? (i := 216) rfl)) rfl⟩
theorem s_11_137 : e_siteV 11 137 mX3_letterOf 3 := ⟨tblG_in (inT4 (List.mem_of_getElem? (i := 214) rfl)) rfl, sel_X3_letterOf.1, sel_X3_letterOf.2, rfl⟩
theorem d_X3_letterOf_0 : decode mX3_letterOf.2.2.1 0 = .ok (.aload_n 0, 1) := by decide +kernel
theorem d_X3_letterOf_1 : decode mX3_letterOf.2.2.1 1 = .ok (.getfield 30, 3) := by decide +kernel
theorem d_X3_letterOf_4 : decode mX3_letterOf.2.2.1 4 = .ok (.getstatic 65, 3) := by decide +kernel
theorem sl_3_65 : Cond.fieldLink (e_cn 3) 65 "SipMeter$Machine" "FIRST_NAME" "[I" ∈ tblG := tblG_in (inT4 (List.mem_of_getElem? (i := 76) rfl)) rfl
theorem d_X3_letterOf_7 : decode mX3_letterOf.2.2.1 7 = .ok (.iload_n 1, 1) := by decide +kernel
theorem d_X3_letterOf_8 : decode mX3_letterOf.2.2.1 8 = .ok (.iaload, 1) := by decide +kernel
theorem d_X3_letterOf_9 : decode mX3_letterOf.2.2.1 9 = .ok (.iload_n 2, 1) := by decide +kernel
theorem d_X3_letterOf_10 : decode mX3_letterOf.2.2.1 10 = .ok (.iadd, 1) := by decide +kernel
theorem d_X3_letterOf_11 : decode mX3_letterOf.2.2.1 11 = .ok (.iaload, 1) := by decide +kernel
theorem d_X3_letterOf_12 : decode mX3_letterOf.2.2.1 12 = .ok (.istore 4, 2) := by decide +kernel
theorem d_X3_letterOf_14 : decode mX3_letterOf.2.2.1 14 = .ok (.iconst 0, 1) := by decide +kernel
theorem d_X3_letterOf_15 : decode mX3_letterOf.2.2.1 15 = .ok (.istore 5, 2) := by decide +kernel
theorem d_X3_letterOf_17 : decode mX3_letterOf.2.2.1 17 = .ok (.iload 4, 2) := by decide +kernel
theorem d_X3_letterOf_19 : decode mX3_letterOf.2.2.1 19 = .ok (.istore 6, 2) := by decide +kernel
theorem d_X3_letterOf_21 : decode mX3_letterOf.2.2.1 21 = .ok (.iload 6, 2) := by decide +kernel
theorem d_X3_letterOf_23 : decode mX3_letterOf.2.2.1 23 = .ok (.ifCond .le 23, 3) := by decide +kernel
theorem d_X3_letterOf_26 : decode mX3_letterOf.2.2.1 26 = .ok (.iload 5, 2) := by decide +kernel
theorem d_X3_letterOf_28 : decode mX3_letterOf.2.2.1 28 = .ok (.bipush 6, 2) := by decide +kernel
theorem d_X3_letterOf_30 : decode mX3_letterOf.2.2.1 30 = .ok (.if_icmp .ge 16, 3) := by decide +kernel
theorem d_X3_letterOf_33 : decode mX3_letterOf.2.2.1 33 = .ok (.iinc 5 1, 3) := by decide +kernel
theorem d_X3_letterOf_36 : decode mX3_letterOf.2.2.1 36 = .ok (.iload 6, 2) := by decide +kernel
theorem d_X3_letterOf_38 : decode mX3_letterOf.2.2.1 38 = .ok (.bipush 27, 2) := by decide +kernel
theorem d_X3_letterOf_40 : decode mX3_letterOf.2.2.1 40 = .ok (.idiv, 1) := by decide +kernel
theorem d_X3_letterOf_41 : decode mX3_letterOf.2.2.1 41 = .ok (.istore 6, 2) := by decide +kernel
theorem d_X3_letterOf_43 : decode mX3_letterOf.2.2.1 43 = .ok (.goto (-22), 3) := by decide +kernel
theorem d_X3_letterOf_46 : decode mX3_letterOf.2.2.1 46 = .ok (.iload_n 3, 1) := by decide +kernel
theorem d_X3_letterOf_47 : decode mX3_letterOf.2.2.1 47 = .ok (.ifCond .lt 9, 3) := by decide +kernel
theorem d_X3_letterOf_56 : decode mX3_letterOf.2.2.1 56 = .ok (.iconst (-1), 1) := by decide +kernel
theorem d_X3_letterOf_57 : decode mX3_letterOf.2.2.1 57 = .ok (.ireturn, 1) := by decide +kernel
theorem d_X3_letterOf_50 : decode mX3_letterOf.2.2.1 50 = .ok (.iload_n 3, 1) := by decide +kernel
theorem d_X3_letterOf_51 : decode mX3_letterOf.2.2.1 51 = .ok (.iload 5, 2) := by decide +kernel
theorem d_X3_letterOf_53 : decode mX3_letterOf.2.2.1 53 = .ok (.if_icmp .lt 5, 3) := by decide +kernel
theorem d_X3_letterOf_58 : decode mX3_letterOf.2.2.1 58 = .ok (.iload 5, 2) := by decide +kernel
theorem d_X3_letterOf_60 : decode mX3_letterOf.2.2.1 60 = .ok (.iconst 1, 1) := by decide +kernel
theorem d_X3_letterOf_61 : decode mX3_letterOf.2.2.1 61 = .ok (.isub, 1) := by decide +kernel
theorem d_X3_letterOf_62 : decode mX3_letterOf.2.2.1 62 = .ok (.istore 6, 2) := by decide +kernel
theorem d_X3_letterOf_64 : decode mX3_letterOf.2.2.1 64 = .ok (.iload 6, 2) := by decide +kernel
theorem d_X3_letterOf_66 : decode mX3_letterOf.2.2.1 66 = .ok (.iload_n 3, 1) := by decide +kernel
theorem d_X3_letterOf_67 : decode mX3_letterOf.2.2.1 67 = .ok (.if_icmp .le 16, 3) := by decide +kernel
theorem d_X3_letterOf_83 : decode mX3_letterOf.2.2.1 83 = .ok (.iload 4, 2) := by decide +kernel
theorem d_X3_letterOf_85 : decode mX3_letterOf.2.2.1 85 = .ok (.bipush 27, 2) := by decide +kernel
theorem d_X3_letterOf_87 : decode mX3_letterOf.2.2.1 87 = .ok (.irem, 1) := by decide +kernel
theorem d_X3_letterOf_88 : decode mX3_letterOf.2.2.1 88 = .ok (.bipush 96, 2) := by decide +kernel
theorem d_X3_letterOf_90 : decode mX3_letterOf.2.2.1 90 = .ok (.iadd, 1) := by decide +kernel
theorem d_X3_letterOf_91 : decode mX3_letterOf.2.2.1 91 = .ok (.ireturn, 1) := by decide +kernel
theorem d_X3_letterOf_70 : decode mX3_letterOf.2.2.1 70 = .ok (.iload 4, 2) := by decide +kernel
theorem d_X3_letterOf_72 : decode mX3_letterOf.2.2.1 72 = .ok (.bipush 27, 2) := by decide +kernel
theorem d_X3_letterOf_74 : decode mX3_letterOf.2.2.1 74 = .ok (.idiv, 1) := by decide +kernel
theorem d_X3_letterOf_75 : decode mX3_letterOf.2.2.1 75 = .ok (.istore 4, 2) := by decide +kernel
theorem d_X3_letterOf_77 : decode mX3_letterOf.2.2.1 77 = .ok (.iinc 6 (-1), 3) := by decide +kernel
theorem d_X3_letterOf_80 : decode mX3_letterOf.2.2.1 80 = .ok (.goto (-16), 3) := by decide +kernel
theorem ok_X3_letterOf : e_m mX3_letterOf 3 := ⟨tblG_in (inT4 (List.mem_of_getElem? (i := 217) rfl)) rfl, plainFor_of_name (by decide), rfl, ini_3, by decide +kernel, by decide⟩
theorem d_X11_letter_38 : decode mX11_letter.2.2.1 38 = .ok (.ireturn, 1) := by decide +kernel
def mX11_text : MD := (11, yX11_text, cX11_text, 2, some .int)
theorem d_X11_text_0 : decode mX11_text.2.2.1 0 = .ok (.aload_n 0, 1) := by decide +kernel
theorem d_X11_text_1 : decode mX11_text.2.2.1 1 = .ok (.getfield 16, 3) := by decide +kernel
theorem d_X11_text_4 : decode mX11_text.2.2.1 4 = .ok (.aload_n 0, 1) := by decide +kernel
theorem d_X11_text_5 : decode mX11_text.2.2.1 5 = .ok (.getfield 9, 3) := by decide +kernel
theorem d_X11_text_8 : decode mX11_text.2.2.1 8 = .ok (.aload_n 0, 1) := by decide +kernel
theorem d_X11_text_9 : decode mX11_text.2.2.1 9 = .ok (.getfield 84, 3) := by decide +kernel
theorem d_X11_text_12 : decode mX11_text.2.2.1 12 = .ok (.invokevirtual 92, 3) := by decide +kernel
def mX7_takeApart : MD := (7, yX7_takeApart, cX7_takeApart, 8, none)
theorem sel_X7_takeApart : Cond.instanceMethod mX7_takeApart.2.1 ∈ tblG ∧ Cond.selects mX7_takeApart.2.1.cls mX7_takeApart.2.1 mX7_takeApart.2.1 ∈ tblG := ⟨tblG_in (inT3 (List.mem_of_getElem? (i := 108) rfl)) rfl, tblG_in (inT3 (List.mem_of_getElem? (i := 109) rfl)) rfl⟩
theorem s_11_92 : e_siteV 11 92 mX7_takeApart 7 := ⟨tblG_in (inT3 (List.mem_of_getElem? (i := 107) rfl)) rfl, sel_X7_takeApart.1, sel_X7_takeApart.2, rfl⟩
theorem d_X7_takeApart_0 : decode mX7_takeApart.2.2.1 0 = .ok (.aload_n 0, 1) := by decide +kernel
theorem d_X7_takeApart_1 : decode mX7_takeApart.2.2.1 1 = .ok (.aload_n 1, 1) := by decide +kernel
theorem d_X7_takeApart_2 : decode mX7_takeApart.2.2.1 2 = .ok (.putfield 21, 3) := by decide +kernel
theorem d_X7_takeApart_5 : decode mX7_takeApart.2.2.1 5 = .ok (.aload_n 0, 1) := by decide +kernel
theorem d_X7_takeApart_6 : decode mX7_takeApart.2.2.1 6 = .ok (.iload_n 2, 1) := by decide +kernel
theorem d_X7_takeApart_7 : decode mX7_takeApart.2.2.1 7 = .ok (.putfield 25, 3) := by decide +kernel
theorem d_X7_takeApart_10 : decode mX7_takeApart.2.2.1 10 = .ok (.aload_n 0, 1) := by decide +kernel
theorem d_X7_takeApart_11 : decode mX7_takeApart.2.2.1 11 = .ok (.iconst 0, 1) := by decide +kernel
theorem d_X7_takeApart_12 : decode mX7_takeApart.2.2.1 12 = .ok (.putfield 29, 3) := by decide +kernel
theorem d_X7_takeApart_15 : decode mX7_takeApart.2.2.1 15 = .ok (.iconst 0, 1) := by decide +kernel
theorem d_X7_takeApart_16 : decode mX7_takeApart.2.2.1 16 = .ok (.istore_n 3, 1) := by decide +kernel
theorem d_X7_takeApart_17 : decode mX7_takeApart.2.2.1 17 = .ok (.iconst 0, 1) := by decide +kernel
theorem d_X7_takeApart_18 : decode mX7_takeApart.2.2.1 18 = .ok (.istore 4, 2) := by decide +kernel
theorem d_X7_takeApart_20 : decode mX7_takeApart.2.2.1 20 = .ok (.iconst 0, 1) := by decide +kernel
theorem d_X7_takeApart_21 : decode mX7_takeApart.2.2.1 21 = .ok (.istore 5, 2) := by decide +kernel
theorem d_X7_takeApart_23 : decode mX7_takeApart.2.2.1 23 = .ok (.iload 5, 2) := by decide +kernel
theorem d_X7_takeApart_25 : decode mX7_takeApart.2.2.1 25 = .ok (.sipush 900, 3) := by decide +kernel
theorem d_X7_takeApart_28 : decode mX7_takeApart.2.2.1 28 = .ok (.if_icmp .gt 76, 3) := by decide +kernel
theorem d_X7_takeApart_31 : decode mX7_takeApart.2.2.1 31 = .ok (.iload_n 3, 1) := by decide +kernel
theorem d_X7_takeApart_32 : decode mX7_takeApart.2.2.1 32 = .ok (.ifCond .lt 72, 3) := by decide +kernel
theorem d_X7_takeApart_35 : decode mX7_takeApart.2.2.1 35 = .ok (.aload_n 0, 1) := by decide +kernel
theorem d_X7_takeApart_36 : decode mX7_takeApart.2.2.1 36 = .ok (.iload_n 3, 1) := by decide +kernel
theorem d_X7_takeApart_37 : decode mX7_takeApart.2.2.1 37 = .ok (.invokevirtual 32, 3) := by decide +kernel
theorem sel_X7_skipBlanks : Cond.instanceMethod mX7_skipBlanks.2.1 ∈ tblG ∧ Cond.selects mX7_skipBlanks.2.1.cls mX7_skipBlanks.2.1 mX7_skipBlanks.2.1 ∈ tblG := ⟨tblG_in (inT3 (List.mem_of_getElem? (i := 113) rfl)) rfl, tblG_in (inP1 (q := (mX7_skipBlanks.2.1, 6)) (List.mem_of_getElem? (i := 1) rfl)) rfl⟩
theorem s_7_32 : e_siteV 7 32 mX7_skipBlanks 7 := ⟨tblG_in (inT3 (List.mem_of_getElem? (i := 111) rfl)) rfl, sel_X7_skipBlanks.1, sel_X7_skipBlanks.2, rfl⟩
theorem ok_X7_skipBlanks : e_m mX7_skipBlanks 1 := ⟨tblG_in (inT3 (List.mem_of_getElem? (i := 114) rfl)) rfl, plainFor_of_name (by decide), rfl, ini_7, by decide +kernel, by decide⟩
theorem d_X7_takeApart_40 : decode mX7_takeApart.2.2.1 40 = .ok (.istore 6, 2) := by decide +kernel
theorem d_X7_takeApart_42 : decode mX7_takeApart.2.2.1 42 = .ok (.iload 4, 2) := by decide +kernel
theorem d_X7_takeApart_44 : decode mX7_takeApart.2.2.1 44 = .ok (.ifCond .eq 13, 3) := by decide +kernel
theorem d_X7_takeApart_57 : decode mX7_takeApart.2.2.1 57 = .ok (.iconst 0, 1) := by decide +kernel
theorem d_X7_takeApart_58 : decode mX7_takeApart.2.2.1 58 = .ok (.istore 7, 2) := by decide +kernel
theorem d_X7_takeApart_60 : decode mX7_takeApart.2.2.1 60 = .ok (.aload_n 0, 1) := by decide +kernel
theorem d_X7_takeApart_61 : decode mX7_takeApart.2.2.1 61 = .ok (.iload 6, 2) := by decide +kernel
theorem d_X7_takeApart_63 : decode mX7_takeApart.2.2.1 63 = .ok (.iload 7, 2) := by decide +kernel
theorem d_X7_takeApart_65 : decode mX7_takeApart.2.2.1 65 = .ok (.invokevirtual 36, 3) := by decide +kernel
def mX7_takeOne : MD := (7, yX7_takeOne, cX7_takeOne, 4, some .int)
theorem sel_X7_takeOne : Cond.instanceMethod mX7_takeOne.2.1 ∈ tblG ∧ Cond.selects mX7_takeOne.2.1.cls mX7_takeOne.2.1 mX7_takeOne.2.1 ∈ tblG := ⟨tblG_in (inT3 (List.mem_of_getElem? (i := 117) rfl)) rfl, tblG_in (inP1 (q := (mX7_takeOne.2.1, 6)) (List.mem_of_getElem? (i := 2) rfl)) rfl⟩
theorem s_7_36 : e_siteV 7 36 mX7_takeOne 7 := ⟨tblG_in (inT3 (List.mem_of_getElem? (i := 115) rfl)) rfl, sel_X7_takeOne.1, sel_X7_takeOne.2, rfl⟩
theorem d_X7_takeOne_0 : decode mX7_takeOne.2.2.1 0 = .ok (.iload_n 1, 1) := by decide +kernel
theorem d_X7_takeOne_1 : decode mX7_takeOne.2.2.1 1 = .ok (.aload_n 0, 1) := by decide +kernel
theorem d_X7_takeOne_2 : decode mX7_takeOne.2.2.1 2 = .ok (.getfield 25, 3) := by decide +kernel
theorem d_X7_takeOne_5 : decode mX7_takeOne.2.2.1 5 = .ok (.if_icmp .lt 12, 3) := by decide +kernel
theorem d_X7_takeOne_17 : decode mX7_takeOne.2.2.1 17 = .ok (.aload_n 0, 1) := by decide +kernel
theorem d_X7_takeOne_18 : decode mX7_takeOne.2.2.1 18 = .ok (.getfield 21, 3) := by decide +kernel
theorem d_X7_takeOne_21 : decode mX7_takeOne.2.2.1 21 = .ok (.iload_n 1, 1) := by decide +kernel
theorem d_X7_takeOne_22 : decode mX7_takeOne.2.2.1 22 = .ok (.baload, 1) := by decide +kernel
theorem d_X7_takeOne_23 : decode mX7_takeOne.2.2.1 23 = .ok (.istore_n 3, 1) := by decide +kernel
theorem d_X7_takeOne_24 : decode mX7_takeOne.2.2.1 24 = .ok (.iload_n 3, 1) := by decide +kernel
theorem d_X7_takeOne_25 : decode mX7_takeOne.2.2.1 25 = .ok (.invokestatic 44, 3) := by decide +kernel
theorem s_7_44 : e_siteS 7 44 mX7_isLetter := ⟨tblG_in (inT3 (List.mem_of_getElem? (i := 123) rfl)) rfl, tblG_in (inT3 (List.mem_of_getElem? (i := 124) rfl)) rfl⟩
theorem ok_X7_isLetter : e_m mX7_isLetter 1 := ⟨tblG_in (inT3 (List.mem_of_getElem? (i := 125) rfl)) rfl, plainFor_of_name (by decide), rfl, ini_7, by decide +kernel, by decide⟩
theorem d_X7_takeOne_28 : decode mX7_takeOne.2.2.1 28 = .ok (.ifCond .ne 10, 3) := by decide +kernel
theorem d_X7_takeOne_31 : decode mX7_takeOne.2.2.1 31 = .ok (.iload_n 3, 1) := by decide +kernel
theorem d_X7_takeOne_32 : decode mX7_takeOne.2.2.1 32 = .ok (.invokestatic 48, 3) := by decide +kernel
theorem d_X7_takeOne_35 : decode mX7_takeOne.2.2.1 35 = .ok (.ifCond .eq 37, 3) := by decide +kernel
theorem d_X7_takeOne_72 : decode mX7_takeOne.2.2.1 72 = .ok (.iload_n 3, 1) := by decide +kernel
theorem d_X7_takeOne_73 : decode mX7_takeOne.2.2.1 73 = .ok (.ifCond .le 24, 3) := by decide +kernel
theorem d_X7_takeOne_76 : decode mX7_takeOne.2.2.1 76 = .ok (.ldc 57, 2) := by decide +kernel
theorem d_X7_takeOne_78 : decode mX7_takeOne.2.2.1 78 = .ok (.iload_n 3, 1) := by decide +kernel
theorem d_X7_takeOne_79 : decode mX7_takeOne.2.2.1 79 = .ok (.i2c, 1) := by decide +kernel
theorem d_X7_takeOne_80 : decode mX7_takeOne.2.2.1 80 = .ok (.invokevirtual 59, 3) := by decide +kernel
def mJ0_indexOf_0f7a4 : MD := (19, yJ0_indexOf_0f7a4, cJ0_indexOf_0f7a4, 2, some .int)
theorem sel_J0_indexOf_0f7a4 : Cond.instanceMethod mJ0_indexOf_0f7a4.2.1 ∈ tblG ∧ Cond.selects mJ0_indexOf_0f7a4.2.1.cls mJ0_indexOf_0f7a4.2.1 mJ0_indexOf_0f7a4.2.1 ∈ tblG := ⟨tblG_in (inT3 (List.mem_of_getElem? (i := 188) rfl)) rfl, tblG_in (inT3 (List.mem_of_getElem? (i := 189) rfl)) rfl⟩
theorem sx_7_59 : e_siteX 7 59 mJ0_indexOf_0f7a4 := ⟨tblG_in (inT3 (List.mem_of_getElem? (i := 187) rfl)) rfl, sel_J0_indexOf_0f7a4.1, sel_J0_indexOf_0f7a4.2⟩
theorem d_J0_indexOf_0f7a4_0 : decode mJ0_indexOf_0f7a4.2.2.1 0 = .ok (.aload_n 0, 1) := by decide +kernel
theorem d_J0_indexOf_0f7a4_1 : decode mJ0_indexOf_0f7a4.2.2.1 1 = .ok (.iload_n 1, 1) := by decide +kernel
theorem d_J0_indexOf_0f7a4_2 : decode mJ0_indexOf_0f7a4.2.2.1 2 = .ok (.iconst 0, 1) := by decide +kernel
theorem d_J0_indexOf_0f7a4_3 : decode mJ0_indexOf_0f7a4.2.2.1 3 = .ok (.invokevirtual 633, 3) := by decide +kernel
def mJ0_indexOf_7cf53 : MD := (19, yJ0_indexOf_7cf53, cJ0_indexOf_7cf53, 3, some .int)
theorem sel_J0_indexOf_7cf53 : Cond.instanceMethod mJ0_indexOf_7cf53.2.1 ∈ tblG ∧ Cond.selects mJ0_indexOf_7cf53.2.1.cls mJ0_indexOf_7cf53.2.1 mJ0_indexOf_7cf53.2.1 ∈ tblG := ⟨tblG_in (inT3 (List.mem_of_getElem? (i := 192) rfl)) rfl, tblG_in (inT3 (List.mem_of_getElem? (i := 193) rfl)) rfl⟩
theorem sx_19_633 : e_siteX 19 633 mJ0_indexOf_7cf53 := ⟨tblG_in (inT3 (List.mem_of_getElem? (i := 191) rfl)) rfl, sel_J0_indexOf_7cf53.1, sel_J0_indexOf_7cf53.2⟩
theorem d_J0_indexOf_7cf53_0 : decode mJ0_indexOf_7cf53.2.2.1 0 = .ok (.aload_n 0, 1) := by decide +kernel
theorem d_J0_indexOf_7cf53_1 : decode mJ0_indexOf_7cf53.2.2.1 1 = .ok (.invokevirtual 492, 3) := by decide +kernel
def mJ0_isLatin1_aae02 : MD := (19, yJ0_isLatin1_aae02, cJ0_isLatin1_aae02, 1, some .boolean)
theorem sel_J0_isLatin1_aae02 : Cond.instanceMethod mJ0_isLatin1_aae02.2.1 ∈ tblG ∧ Cond.selects mJ0_isLatin1_aae02.2.1.cls mJ0_isLatin1_aae02.2.1 mJ0_isLatin1_aae02.2.1 ∈ tblG := ⟨tblG_in (inT3 (List.mem_of_getElem? (i := 147) rfl)) rfl, tblG_in (inT3 (List.mem_of_getElem? (i := 148) rfl)) rfl⟩
theorem sx_19_492 : e_siteX 19 492 mJ0_isLatin1_aae02 := ⟨tblG_in (inT3 (List.mem_of_getElem? (i := 146) rfl)) rfl, sel_J0_isLatin1_aae02.1, sel_J0_isLatin1_aae02.2⟩
theorem d_J0_isLatin1_aae02_0 : decode mJ0_isLatin1_aae02.2.2.1 0 = .ok (.getstatic 38, 3) := by decide +kernel
theorem sl_19_38 : Cond.fieldLink (e_cn 19) 38 "java/lang/String" "COMPACT_STRINGS" "Z" ∈ tblG := tblG_in (inT3 (List.mem_of_getElem? (i := 150) rfl)) rfl
theorem d_J0_isLatin1_aae02_3 : decode mJ0_isLatin1_aae02.2.2.1 3 = .ok (.ifCond .eq 14, 3) := by decide +kernel
theorem d_J0_isLatin1_aae02_6 : decode mJ0_isLatin1_aae02.2.2.1 6 = .ok (.aload_n 0, 1) := by decide +kernel
theorem d_J0_isLatin1_aae02_7 : decode mJ0_isLatin1_aae02.2.2.1 7 = .ok (.getfield 15, 3) := by decide +kernel
theorem sl_19_15 : Cond.fieldLink (e_cn 19) 15 "java/lang/String" "coder" "B" ∈ tblG := tblG_in (inT10 (List.mem_of_getElem? (i := 39) rfl)) rfl
theorem d_J0_isLatin1_aae02_10 : decode mJ0_isLatin1_aae02.2.2.1 10 = .ok (.ifCond .ne 7, 3) := by decide +kernel
theorem d_J0_isLatin1_aae02_13 : decode mJ0_isLatin1_aae02.2.2.1 13 = .ok (.iconst 1, 1) := by decide +kernel
theorem d_J0_isLatin1_aae02_14 : decode mJ0_isLatin1_aae02.2.2.1 14 = .ok (.goto 4, 3) := by decide +kernel
theorem d_J0_isLatin1_aae02_18 : decode mJ0_isLatin1_aae02.2.2.1 18 = .ok (.ireturn, 1) := by decide +kernel
theorem ini_19 : Cond.initialized "java/lang/String" ∈ tblG := tblG_in (inT1 (List.mem_of_getElem? (i := 15) rfl)) rfl
theorem ok_J0_isLatin1_aae02 : e_m mJ0_isLatin1_aae02 0 := ⟨tblG_in (inT3 (List.mem_of_getElem? (i := 149) rfl)) rfl, plainFor_of_name (by decide), rfl, ini_19, by decide +kernel, by decide⟩
theorem d_J0_indexOf_7cf53_4 : decode mJ0_indexOf_7cf53.2.2.1 4 = .ok (.ifCond .eq 19, 3) := by decide +kernel
theorem d_J0_indexOf_7cf53_7 : decode mJ0_indexOf_7cf53.2.2.1 7 = .ok (.aload_n 0, 1) := by decide +kernel
theorem d_J0_indexOf_7cf53_8 : decode mJ0_indexOf_7cf53.2.2.1 8 = .ok (.getfield 9, 3) := by decide +kernel
theorem sl_19_9 : Cond.fieldLink (e_cn 19) 9 "java/lang/String" "value" "[B" ∈ tblG := tblG_in (inT10 (List.mem_of_getElem? (i := 40) rfl)) rfl
theorem d_J0_indexOf_7cf53_11 : decode mJ0_indexOf_7cf53.2.2.1 11 = .ok (.iload_n 1, 1) := by decide +kernel
theorem d_J0_indexOf_7cf53_12 : decode mJ0_indexOf_7cf53.2.2.1 12 = .ok (.iload_n 2, 1) := by decide +kernel
theorem d_J0_indexOf_7cf53_13 : decode mJ0_indexOf_7cf53.2.2.1 13 = .ok (.aload_n 0, 1) := by decide +kernel
theorem d_J0_indexOf_7cf53_14 : decode mJ0_indexOf_7cf53.2.2.1 14 = .ok (.invokevirtual 505, 3) := by decide +kernel
def mJ0_length_8abf5 : MD := (19, yJ0_length_8abf5, cJ0_length_8abf5, 1, some .int)
theorem sel_J0_length_8abf5 : Cond.instanceMethod mJ0_length_8abf5.2.1 ∈ tblG ∧ Cond.selects mJ0_length_8abf5.2.1.cls mJ0_length_8abf5.2.1 mJ0_length_8abf5.2.1 ∈ tblG := ⟨tblG_in (inT3 (List.mem_of_getElem? (i := 196) rfl)) rfl, tblG_in (inT3 (List.mem_of_getElem? (i := 197) rfl)) rfl⟩
theorem sx_19_505 : e_siteX 19 505 mJ0_length_8abf5 := ⟨tblG_in (inT3 (List.mem_of_getElem? (i := 195) rfl)) rfl, sel_J0_length_8abf5.1, sel_J0_length_8abf5.2⟩
theorem d_J0_length_8abf5_0 : decode mJ0_length_8abf5.2.2.1 0 = .ok (.aload_n 0, 1) := by decide +kernel
theorem d_J0_length_8abf5_1 : decode mJ0_length_8abf5.2.2.1 1 = .ok (.getfield 9, 3) := by decide +kernel
theorem d_J0_length_8abf5_4 : decode mJ0_length_8abf5.2.2.1 4 = .ok (.arraylength, 1) := by decide +kernel
theorem d_J0_length_8abf5_5 : decode mJ0_length_8abf5.2.2.1 5 = .ok (.aload_n 0, 1) := by decide +kernel
theorem d_J0_length_8abf5_6 : decode mJ0_length_8abf5.2.2.1 6 = .ok (.invokevirtual 335, 3) := by decide +kernel
def mJ0_coder_7d493 : MD := (19, yJ0_coder_7d493, cJ0_coder_7d493, 1, some .byte)
theorem sel_J0_coder_7d493 : Cond.instanceMethod mJ0_coder_7d493.2.1 ∈ tblG ∧ Cond.selects mJ0_coder_7d493.2.1.cls mJ0_coder_7d493.2.1 mJ0_coder_7d493.2.1 ∈ tblG := ⟨tblG_in (inT3 (List.mem_of_getElem? (i := 200) rfl)) rfl, tblG_in (inT3 (List.mem_of_getElem? (i := 201) rfl)) rfl⟩
theorem sx_19_335 : e_siteX 19 335 mJ0_coder_7d493 := ⟨tblG_in (inT3 (List.mem_of_getElem? (i := 199) rfl)) rfl, sel_J0_coder_7d493.1, sel_J0_coder_7d493.2⟩
theorem d_J0_coder_7d493_0 : decode mJ0_coder_7d493.2.2.1 0 = .ok (.getstatic 38, 3) := by decide +kernel
theorem d_J0_coder_7d493_3 : decode mJ0_coder_7d493.2.2.1 3 = .ok (.ifCond .eq 10, 3) := by decide +kernel
theorem d_J0_coder_7d493_6 : decode mJ0_coder_7d493.2.2.1 6 = .ok (.aload_n 0, 1) := by decide +kernel
theorem d_J0_coder_7d493_7 : decode mJ0_coder_7d493.2.2.1 7 = .ok (.getfield 15, 3) := by decide +kernel
theorem d_J0_coder_7d493_10 : decode mJ0_coder_7d493.2.2.1 10 = .ok (.goto 4, 3) := by decide +kernel
theorem d_J0_coder_7d493_14 : decode mJ0_coder_7d493.2.2.1 14 = .ok (.ireturn, 1) := by decide +kernel
theorem ok_J0_coder_7d493 : e_m mJ0_coder_7d493 0 := ⟨tblG_in (inT3 (List.mem_of_getElem? (i := 202) rfl)) rfl, plainFor_of_name (by decide), rfl, ini_19, by decide +kernel, by decide⟩
theorem d_J0_length_8abf5_9 : decode mJ0_length_8abf5.2.2.1 9 = .ok (.ishr, 1) := by decide +kernel
theorem d_J0_length_8abf5_10 : decode mJ0_length_8abf5.2.2.1 10 = .ok (.ireturn, 1) := by decide +kernel
theorem ok_J0_length_8abf5 : e_m mJ0_length_8abf5 0 := ⟨tblG_in (inT3 (List.mem_of_getElem? (i := 198) rfl)) rfl, plainFor_of_name (by decide), rfl, ini_19, by decide +kernel, by decide⟩
theorem d_J0_indexOf_7cf53_17 : decode mJ0_indexOf_7cf53.2.2.1 17 = .ok (.invokestatic 637, 3) := by decide +kernel
def mJ1_indexOf_4cfef : MD := (20, yJ1_indexOf_4cfef, cJ1_indexOf_4cfef, 4, some .int)
theorem s_19_637 : e_siteS 19 637 mJ1_indexOf_4cfef := ⟨tblG_in (inT3 (List.mem_of_getElem? (i := 203) rfl)) rfl, tblG_in (inT3 (List.mem_of_getElem? (i := 204) rfl)) rfl⟩
theorem d_J1_indexOf_4cfef_0 : decode mJ1_indexOf_4cfef.2.2.1 0 = .ok (.iload_n 1, 1) := by decide +kernel
theorem d_J1_indexOf_4cfef_1 : decode mJ1_indexOf_4cfef.2.2.1 1 = .ok (.invokestatic 88, 3) := by decide +kernel
theorem s_20_88 : e_siteS 20 88 mJ1_canEncode_9a6ad := ⟨tblG_in (inT3 (List.mem_of_getElem? (i := 206) rfl)) rfl, tblG_in (inT3 (List.mem_of_getElem? (i := 207) rfl)) rfl⟩
theorem ini_20 : Cond.initialized "java/lang/StringLatin1" ∈ tblG := tblG_in (inT1 (List.mem_of_getElem? (i := 16) rfl)) rfl
theorem ok_J1_canEncode_9a6ad : e_m mJ1_canEncode_9a6ad 1 := ⟨tblG_in (inT3 (List.mem_of_getElem? (i := 208) rfl)) rfl, plainFor_of_name (by decide), rfl, ini_20, by decide +kernel, by decide⟩
theorem d_J1_indexOf_4cfef_4 : decode mJ1_indexOf_4cfef.2.2.1 4 = .ok (.ifCond .ne 5, 3) := by decide +kernel
theorem d_J1_indexOf_4cfef_9 : decode mJ1_indexOf_4cfef.2.2.1 9 = .ok (.iload_n 2, 1) := by decide +kernel
theorem d_J1_indexOf_4cfef_10 : decode mJ1_indexOf_4cfef.2.2.1 10 = .ok (.iconst 0, 1) := by decide +kernel
theorem d_J1_indexOf_4cfef_11 : decode mJ1_indexOf_4cfef.2.2.1 11 = .ok (.invokestatic 92, 3) := by decide +kernel
theorem ml_20_92 : Cond.methodLink (e_cn 20) 92 Lib.Math.max.name ∈ tblG := tblG_in (inT3 (List.mem_of_getElem? (i := 209) rfl)) rfl
theorem d_J1_indexOf_4cfef_14 : decode mJ1_indexOf_4cfef.2.2.1 14 = .ok (.istore_n 2, 1) := by decide +kernel
theorem d_J1_indexOf_4cfef_15 : decode mJ1_indexOf_4cfef.2.2.1 15 = .ok (.iload_n 3, 1) := by decide +kernel
theorem d_J1_indexOf_4cfef_16 : decode mJ1_indexOf_4cfef.2.2.1 16 = .ok (.aload_n 0, 1) := by decide +kernel
theorem d_J1_indexOf_4cfef_17 : decode mJ1_indexOf_4cfef.2.2.1 17 = .ok (.arraylength, 1) := by decide +kernel
theorem d_J1_indexOf_4cfef_18 : decode mJ1_indexOf_4cfef.2.2.1 18 = .ok (.invokestatic 38, 3) := by decide +kernel
theorem ml_20_38 : Cond.methodLink (e_cn 20) 38 Lib.Math.min.name ∈ tblG := tblG_in (inT3 (List.mem_of_getElem? (i := 212) rfl)) rfl
theorem d_J1_indexOf_4cfef_21 : decode mJ1_indexOf_4cfef.2.2.1 21 = .ok (.istore_n 3, 1) := by decide +kernel
theorem d_J1_indexOf_4cfef_22 : decode mJ1_indexOf_4cfef.2.2.1 22 = .ok (.iload_n 2, 1) := by decide +kernel
theorem d_J1_indexOf_4cfef_23 : decode mJ1_indexOf_4cfef.2.2.1 23 = .ok (.iload_n 3, 1) := by decide +kernel
theorem d_J1_indexOf_4cfef_24 : decode mJ1_indexOf_4cfef.2.2.1 24 = .ok (.if_icmp .lt 5, 3) := by decide +kernel
end
/-! 33.01 -/
section
theorem d_J1_indexOf_4cfef_29 : decode mJ1_indexOf_4cfef.2.2.1 29 = .ok (.aload_n 0, 1) := by decide +kernel
theorem d_J1_indexOf_4cfef_30 : decode mJ1_indexOf_4cfef.2.2.1 30 = .ok (.iload_n 1, 1) := by decide +kernel
theorem d_J1_indexOf_4cfef_31 : decode mJ1_indexOf_4cfef.2.2.1 31 = .ok (.iload_n 2, 1) := by decide +kernel
theorem d_J1_indexOf_4cfef_32 : decode mJ1_indexOf_4cfef.2.2.1 32 = .ok (.iload_n 3, 1) := by decide +kernel
theorem d_J1_indexOf_4cfef_33 : decode mJ1_indexOf_4cfef.2.2.1 33 = .ok (.invokestatic 95, 3) := by decide +kernel
def mJ1_indexOfChar_4cfef : MD := (20, yJ1_indexOfChar_4cfef, cJ1_indexOfChar_4cfef, 6, some .int)
theorem s_20_95 : e_siteS 20 95 mJ1_indexOfChar_4cfef := ⟨tblG_in (inT3 (List.mem_of_getElem? (i := 215) rfl)) rfl, tblG_in (inT3 (List.mem_of_getElem? (i := 216) rfl)) rfl⟩
theorem d_J1_indexOfChar_4cfef_0 : decode mJ1_indexOfChar_4cfef.2.2.1 0 = .ok (.iload_n 1, 1) := by decide +kernel
theorem d_J1_indexOfChar_4cfef_1 : decode mJ1_indexOfChar_4cfef.2.2.1 1 = .ok (.i2b, 1) := by decide +kernel
theorem d_J1_indexOfChar_4cfef_2 : decode mJ1_indexOfChar_4cfef.2.2.1 2 = .ok (.istore 4, 2) := by decide +kernel
theorem d_J1_indexOfChar_4cfef_4 : decode mJ1_indexOfChar_4cfef.2.2.1 4 = .ok (.iload_n 2, 1) := by decide +kernel
theorem d_J1_indexOfChar_4cfef_5 : decode mJ1_indexOfChar_4cfef.2.2.1 5 = .ok (.istore 5, 2) := by decide +kernel
theorem d_J1_indexOfChar_4cfef_7 : decode mJ1_indexOfChar_4cfef.2.2.1 7 = .ok (.iload 5, 2) := by decide +kernel
theorem d_J1_indexOfChar_4cfef_9 : decode mJ1_indexOfChar_4cfef.2.2.1 9 = .ok (.iload_n 3, 1) := by decide +kernel
theorem d_J1_indexOfChar_4cfef_10 : decode mJ1_indexOfChar_4cfef.2.2.1 10 = .ok (.if_icmp .ge 21, 3) := by decide +kernel
theorem d_J1_indexOfChar_4cfef_13 : decode mJ1_indexOfChar_4cfef.2.2.1 13 = .ok (.aload_n 0, 1) := by decide +kernel
theorem d_J1_indexOfChar_4cfef_14 : decode mJ1_indexOfChar_4cfef.2.2.1 14 = .ok (.iload 5, 2) := by decide +kernel
theorem d_J1_indexOfChar_4cfef_16 : decode mJ1_indexOfChar_4cfef.2.2.1 16 = .ok (.baload, 1) := by decide +kernel
theorem d_J1_indexOfChar_4cfef_17 : decode mJ1_indexOfChar_4cfef.2.2.1 17 = .ok (.iload 4, 2) := by decide +kernel
theorem d_J1_indexOfChar_4cfef_19 : decode mJ1_indexOfChar_4cfef.2.2.1 19 = .ok (.if_icmp .ne 6, 3) := by decide +kernel
theorem d_J1_indexOfChar_4cfef_25 : decode mJ1_indexOfChar_4cfef.2.2.1 25 = .ok (.iinc 5 1, 3) := by decide +kernel
theorem d_J1_indexOfChar_4cfef_28 : decode mJ1_indexOfChar_4cfef.2.2.1 28 = .ok (.goto (-21), 3) := by decide +kernel
theorem d_J1_indexOfChar_4cfef_22 : decode mJ1_indexOfChar_4cfef.2.2.1 22 = .ok (.iload 5, 2) := by decide +kernel
theorem d_J1_indexOfChar_4cfef_24 : decode mJ1_indexOfChar_4cfef.2.2.1 24 = .ok (.ireturn, 1) := by decide +kernel
theorem d_J1_indexOfChar_4cfef_31 : decode mJ1_indexOfChar_4cfef.2.2.1 31 = .ok (.iconst (-1), 1) := by decide +kernel
theorem d_J1_indexOfChar_4cfef_32 : decode mJ1_indexOfChar_4cfef.2.2.1 32 = .ok (.ireturn, 1) := by decide +kernel
theorem ok_J1_indexOfChar_4cfef : e_m mJ1_indexOfChar_4cfef 4 := ⟨tblG_in (inT3 (List.mem_of_getElem? (i := 217) rfl)) rfl, plainFor_of_name (by decide), rfl, ini_20, by decide +kernel, by decide⟩
theorem d_J1_indexOf_4cfef_36 : decode mJ1_indexOf_4cfef.2.2.1 36 = .ok (.ireturn, 1) := by decide +kernel
theorem d_J1_indexOf_4cfef_27 : decode mJ1_indexOf_4cfef.2.2.1 27 = .ok (.iconst (-1), 1) := by decide +kernel
theorem d_J1_indexOf_4cfef_28 : decode mJ1_indexOf_4cfef.2.2.1 28 = .ok (.ireturn, 1) := by decide +kernel
theorem ok_J1_indexOf_4cfef : e_m mJ1_indexOf_4cfef 4 := ⟨tblG_in (inT3 (List.mem_of_getElem? (i := 205) rfl)) rfl, plainFor_of_name (by decide), rfl, ini_20, by decide +kernel, by decide⟩
theorem d_J0_indexOf_7cf53_20 : decode mJ0_indexOf_7cf53.2.2.1 20 = .ok (.goto 16, 3) := by decide +kernel
theorem d_J0_indexOf_7cf53_36 : decode mJ0_indexOf_7cf53.2.2.1 36 = .ok (.ireturn, 1) := by decide +kernel
theorem ok_J0_indexOf_7cf53 : e_m mJ0_indexOf_7cf53 2 := ⟨tblG_in (inT3 (List.mem_of_getElem? (i := 194) rfl)) rfl, plainFor_of_name (by decide), rfl, ini_19, by decide +kernel, by decide⟩
theorem d_J0_indexOf_0f7a4_6 : decode mJ0_indexOf_0f7a4.2.2.1 6 = .ok (.ireturn, 1) := by decide +kernel
theorem ok_J0_indexOf_0f7a4 : e_m mJ0_indexOf_0f7a4 1 := ⟨tblG_in (inT3 (List.mem_of_getElem? (i := 190) rfl)) rfl, plainFor_of_name (by decide), rfl, ini_19, by decide +kernel, by decide⟩
theorem d_X7_takeOne_83 : decode mX7_takeOne.2.2.1 83 = .ok (.ifCond .lt 14, 3) := by decide +kernel
theorem d_X7_takeOne_86 : decode mX7_takeOne.2.2.1 86 = .ok (.aload_n 0, 1) := by decide +kernel
theorem d_X7_takeOne_87 : decode mX7_takeOne.2.2.1 87 = .ok (.iconst 5, 1) := by decide +kernel
theorem d_X7_takeOne_88 : decode mX7_takeOne.2.2.1 88 = .ok (.iload_n 1, 1) := by decide +kernel
theorem d_X7_takeOne_89 : decode mX7_takeOne.2.2.1 89 = .ok (.iload_n 3, 1) := by decide +kernel
theorem d_X7_takeOne_90 : decode mX7_takeOne.2.2.1 90 = .ok (.iload_n 1, 1) := by decide +kernel
theorem d_X7_takeOne_91 : decode mX7_takeOne.2.2.1 91 = .ok (.iconst 1, 1) := by decide +kernel
theorem d_X7_takeOne_92 : decode mX7_takeOne.2.2.1 92 = .ok (.iadd, 1) := by decide +kernel
theorem d_X7_takeOne_93 : decode mX7_takeOne.2.2.1 93 = .ok (.invokevirtual 40, 3) := by decide +kernel
theorem d_X7_takeOne_96 : decode mX7_takeOne.2.2.1 96 = .ok (.ireturn, 1) := by decide +kernel
theorem d_X7_takeOne_8 : decode mX7_takeOne.2.2.1 8 = .ok (.aload_n 0, 1) := by decide +kernel
theorem d_X7_takeOne_9 : decode mX7_takeOne.2.2.1 9 = .ok (.iconst 0, 1) := by decide +kernel
theorem d_X7_takeOne_10 : decode mX7_takeOne.2.2.1 10 = .ok (.iload_n 1, 1) := by decide +kernel
theorem d_X7_takeOne_11 : decode mX7_takeOne.2.2.1 11 = .ok (.iconst 0, 1) := by decide +kernel
theorem d_X7_takeOne_12 : decode mX7_takeOne.2.2.1 12 = .ok (.iconst (-1), 1) := by decide +kernel
theorem d_X7_takeOne_13 : decode mX7_takeOne.2.2.1 13 = .ok (.invokevirtual 40, 3) := by decide +kernel
theorem d_X7_takeOne_16 : decode mX7_takeOne.2.2.1 16 = .ok (.ireturn, 1) := by decide +kernel
theorem d_X7_takeOne_97 : decode mX7_takeOne.2.2.1 97 = .ok (.aload_n 0, 1) := by decide +kernel
theorem d_X7_takeOne_98 : decode mX7_takeOne.2.2.1 98 = .ok (.iconst 1, 1) := by decide +kernel
theorem d_X7_takeOne_99 : decode mX7_takeOne.2.2.1 99 = .ok (.iload_n 1, 1) := by decide +kernel
theorem d_X7_takeOne_100 : decode mX7_takeOne.2.2.1 100 = .ok (.iconst 0, 1) := by decide +kernel
theorem d_X7_takeOne_101 : decode mX7_takeOne.2.2.1 101 = .ok (.iconst (-1), 1) := by decide +kernel
theorem d_X7_takeOne_102 : decode mX7_takeOne.2.2.1 102 = .ok (.invokevirtual 40, 3) := by decide +kernel
theorem d_X7_takeOne_105 : decode mX7_takeOne.2.2.1 105 = .ok (.ireturn, 1) := by decide +kernel
theorem d_X7_takeOne_38 : decode mX7_takeOne.2.2.1 38 = .ok (.iload_n 2, 1) := by decide +kernel
theorem d_X7_takeOne_39 : decode mX7_takeOne.2.2.1 39 = .ok (.ifCond .eq 12, 3) := by decide +kernel
theorem d_X7_takeOne_51 : decode mX7_takeOne.2.2.1 51 = .ok (.iload_n 3, 1) := by decide +kernel
theorem d_X7_takeOne_52 : decode mX7_takeOne.2.2.1 52 = .ok (.invokestatic 44, 3) := by decide +kernel
theorem d_X7_takeOne_55 : decode mX7_takeOne.2.2.1 55 = .ok (.ifCond .eq 11, 3) := by decide +kernel
theorem d_X7_takeOne_66 : decode mX7_takeOne.2.2.1 66 = .ok (.aload_n 0, 1) := by decide +kernel
theorem d_X7_takeOne_67 : decode mX7_takeOne.2.2.1 67 = .ok (.iload_n 1, 1) := by decide +kernel
theorem d_X7_takeOne_68 : decode mX7_takeOne.2.2.1 68 = .ok (.invokevirtual 54, 3) := by decide +kernel
theorem sel_X7_takeNumber : Cond.instanceMethod mX7_takeNumber.2.1 ∈ tblG ∧ Cond.selects mX7_takeNumber.2.1.cls mX7_takeNumber.2.1 mX7_takeNumber.2.1 ∈ tblG := ⟨tblG_in (inT3 (List.mem_of_getElem? (i := 184) rfl)) rfl, tblG_in (inP1 (q := (mX7_takeNumber.2.1, 6)) (List.mem_of_getElem? (i := 7) rfl)) rfl⟩
theorem s_7_54 : e_siteV 7 54 mX7_takeNumber 7 := ⟨tblG_in (inT3 (List.mem_of_getElem? (i := 182) rfl)) rfl, sel_X7_takeNumber.1, sel_X7_takeNumber.2, rfl⟩
theorem ok_X7_takeNumber : e_m mX7_takeNumber 1 := ⟨tblG_in (inT3 (List.mem_of_getElem? (i := 185) rfl)) rfl, plainFor_of_name (by decide), rfl, ini_7, by decide +kernel, by decide⟩
theorem d_X7_takeOne_71 : decode mX7_takeOne.2.2.1 71 = .ok (.ireturn, 1) := by decide +kernel
theorem d_X7_takeOne_58 : decode mX7_takeOne.2.2.1 58 = .ok (.aload_n 0, 1) := by decide +kernel
theorem d_X7_takeOne_59 : decode mX7_takeOne.2.2.1 59 = .ok (.iload_n 1, 1) := by decide +kernel
theorem d_X7_takeOne_60 : decode mX7_takeOne.2.2.1 60 = .ok (.invokevirtual 51, 3) := by decide +kernel
def mX7_takeWord : MD := (7, yX7_takeWord, cX7_takeWord, 5, some .int)
theorem sel_X7_takeWord : Cond.instanceMethod mX7_takeWord.2.1 ∈ tblG ∧ Cond.selects mX7_takeWord.2.1.cls mX7_takeWord.2.1 mX7_takeWord.2.1 ∈ tblG := ⟨tblG_in (inT3 (List.mem_of_getElem? (i := 131) rfl)) rfl, tblG_in (inP1 (q := (mX7_takeWord.2.1, 6)) (List.mem_of_getElem? (i := 4) rfl)) rfl⟩
theorem s_7_51 : e_siteV 7 51 mX7_takeWord 7 := ⟨tblG_in (inT3 (List.mem_of_getElem? (i := 129) rfl)) rfl, sel_X7_takeWord.1, sel_X7_takeWord.2, rfl⟩
theorem d_X7_takeWord_0 : decode mX7_takeWord.2.2.1 0 = .ok (.iload_n 1, 1) := by decide +kernel
theorem d_X7_takeWord_1 : decode mX7_takeWord.2.2.1 1 = .ok (.istore_n 2, 1) := by decide +kernel
theorem d_X7_takeWord_2 : decode mX7_takeWord.2.2.1 2 = .ok (.iconst 0, 1) := by decide +kernel
theorem d_X7_takeWord_3 : decode mX7_takeWord.2.2.1 3 = .ok (.istore_n 3, 1) := by decide +kernel
theorem d_X7_takeWord_4 : decode mX7_takeWord.2.2.1 4 = .ok (.iload_n 2, 1) := by decide +kernel
theorem d_X7_takeWord_5 : decode mX7_takeWord.2.2.1 5 = .ok (.aload_n 0, 1) := by decide +kernel
theorem d_X7_takeWord_6 : decode mX7_takeWord.2.2.1 6 = .ok (.getfield 25, 3) := by decide +kernel
theorem d_X7_takeWord_9 : decode mX7_takeWord.2.2.1 9 = .ok (.if_icmp .ge 44, 3) := by decide +kernel
theorem d_X7_takeWord_12 : decode mX7_takeWord.2.2.1 12 = .ok (.iload_n 2, 1) := by decide +kernel
theorem d_X7_takeWord_13 : decode mX7_takeWord.2.2.1 13 = .ok (.iload_n 1, 1) := by decide +kernel
theorem d_X7_takeWord_14 : decode mX7_takeWord.2.2.1 14 = .ok (.bipush 6, 2) := by decide +kernel
theorem d_X7_takeWord_16 : decode mX7_takeWord.2.2.1 16 = .ok (.iadd, 1) := by decide +kernel
theorem d_X7_takeWord_17 : decode mX7_takeWord.2.2.1 17 = .ok (.if_icmp .gt 36, 3) := by decide +kernel
theorem d_X7_takeWord_20 : decode mX7_takeWord.2.2.1 20 = .ok (.aload_n 0, 1) := by decide +kernel
theorem d_X7_takeWord_21 : decode mX7_takeWord.2.2.1 21 = .ok (.getfield 21, 3) := by decide +kernel
theorem d_X7_takeWord_24 : decode mX7_takeWord.2.2.1 24 = .ok (.iload_n 2, 1) := by decide +kernel
theorem d_X7_takeWord_25 : decode mX7_takeWord.2.2.1 25 = .ok (.baload, 1) := by decide +kernel
theorem d_X7_takeWord_26 : decode mX7_takeWord.2.2.1 26 = .ok (.invokestatic 44, 3) := by decide +kernel
theorem d_X7_takeWord_29 : decode mX7_takeWord.2.2.1 29 = .ok (.ifCond .eq 24, 3) := by decide +kernel
theorem d_X7_takeWord_32 : decode mX7_takeWord.2.2.1 32 = .ok (.iload_n 3, 1) := by decide +kernel
theorem d_X7_takeWord_33 : decode mX7_takeWord.2.2.1 33 = .ok (.bipush 27, 2) := by decide +kernel
theorem d_X7_takeWord_35 : decode mX7_takeWord.2.2.1 35 = .ok (.imul, 1) := by decide +kernel
theorem d_X7_takeWord_36 : decode mX7_takeWord.2.2.1 36 = .ok (.aload_n 0, 1) := by decide +kernel
theorem d_X7_takeWord_37 : decode mX7_takeWord.2.2.1 37 = .ok (.getfield 21, 3) := by decide +kernel
theorem d_X7_takeWord_40 : decode mX7_takeWord.2.2.1 40 = .ok (.iload_n 2, 1) := by decide +kernel
theorem d_X7_takeWord_41 : decode mX7_takeWord.2.2.1 41 = .ok (.baload, 1) := by decide +kernel
theorem d_X7_takeWord_42 : decode mX7_takeWord.2.2.1 42 = .ok (.iadd, 1) := by decide +kernel
theorem d_X7_takeWord_43 : decode mX7_takeWord.2.2.1 43 = .ok (.bipush 96, 2) := by decide +kernel
theorem d_X7_takeWord_45 : decode mX7_takeWord.2.2.1 45 = .ok (.isub, 1) := by decide +kernel
theorem d_X7_takeWord_46 : decode mX7_takeWord.2.2.1 46 = .ok (.istore_n 3, 1) := by decide +kernel
theorem d_X7_takeWord_47 : decode mX7_takeWord.2.2.1 47 = .ok (.iinc 2 1, 3) := by decide +kernel
theorem d_X7_takeWord_50 : decode mX7_takeWord.2.2.1 50 = .ok (.goto (-46), 3) := by decide +kernel
theorem d_X7_takeWord_53 : decode mX7_takeWord.2.2.1 53 = .ok (.iload_n 2, 1) := by decide +kernel
theorem d_X7_takeWord_54 : decode mX7_takeWord.2.2.1 54 = .ok (.iload_n 1, 1) := by decide +kernel
theorem d_X7_takeWord_55 : decode mX7_takeWord.2.2.1 55 = .ok (.isub, 1) := by decide +kernel
theorem d_X7_takeWord_56 : decode mX7_takeWord.2.2.1 56 = .ok (.bipush 6, 2) := by decide +kernel
theorem d_X7_takeWord_58 : decode mX7_takeWord.2.2.1 58 = .ok (.if_icmp .le 15, 3) := by decide +kernel
theorem d_X7_takeWord_73 : decode mX7_takeWord.2.2.1 73 = .ok (.aload_n 0, 1) := by decide +kernel
theorem d_X7_takeWord_74 : decode mX7_takeWord.2.2.1 74 = .ok (.iload_n 1, 1) := by decide +kernel
theorem d_X7_takeWord_75 : decode mX7_takeWord.2.2.1 75 = .ok (.iload_n 2, 1) := by decide +kernel
theorem d_X7_takeWord_76 : decode mX7_takeWord.2.2.1 76 = .ok (.invokevirtual 64, 3) := by decide +kernel
def mX7_ownWord : MD := (7, yX7_ownWord, cX7_ownWord, 4, some .int)
theorem sel_X7_ownWord : Cond.instanceMethod mX7_ownWord.2.1 ∈ tblG ∧ Cond.selects mX7_ownWord.2.1.cls mX7_ownWord.2.1 mX7_ownWord.2.1 ∈ tblG := ⟨tblG_in (inT3 (List.mem_of_getElem? (i := 135) rfl)) rfl, tblG_in (inP1 (q := (mX7_ownWord.2.1, 6)) (List.mem_of_getElem? (i := 5) rfl)) rfl⟩
theorem s_7_64 : e_siteV 7 64 mX7_ownWord 7 := ⟨tblG_in (inT3 (List.mem_of_getElem? (i := 133) rfl)) rfl, sel_X7_ownWord.1, sel_X7_ownWord.2, rfl⟩
theorem d_X7_ownWord_0 : decode mX7_ownWord.2.2.1 0 = .ok (.iconst 0, 1) := by decide +kernel
theorem d_X7_ownWord_1 : decode mX7_ownWord.2.2.1 1 = .ok (.istore_n 3, 1) := by decide +kernel
theorem d_X7_ownWord_2 : decode mX7_ownWord.2.2.1 2 = .ok (.iload_n 3, 1) := by decide +kernel
theorem d_X7_ownWord_3 : decode mX7_ownWord.2.2.1 3 = .ok (.bipush 27, 2) := by decide +kernel
theorem d_X7_ownWord_5 : decode mX7_ownWord.2.2.1 5 = .ok (.if_icmp .ge 21, 3) := by decide +kernel
theorem d_X7_ownWord_8 : decode mX7_ownWord.2.2.1 8 = .ok (.aload_n 0, 1) := by decide +kernel
theorem d_X7_ownWord_9 : decode mX7_ownWord.2.2.1 9 = .ok (.iload_n 3, 1) := by decide +kernel
theorem d_X7_ownWord_10 : decode mX7_ownWord.2.2.1 10 = .ok (.iload_n 1, 1) := by decide +kernel
theorem d_X7_ownWord_11 : decode mX7_ownWord.2.2.1 11 = .ok (.iload_n 2, 1) := by decide +kernel
theorem d_X7_ownWord_12 : decode mX7_ownWord.2.2.1 12 = .ok (.invokevirtual 68, 3) := by decide +kernel
def mX7_isOwn : MD := (7, yX7_isOwn, cX7_isOwn, 6, some .boolean)
theorem sel_X7_isOwn : Cond.instanceMethod mX7_isOwn.2.1 ∈ tblG ∧ Cond.selects mX7_isOwn.2.1.cls mX7_isOwn.2.1 mX7_isOwn.2.1 ∈ tblG := ⟨tblG_in (inT3 (List.mem_of_getElem? (i := 139) rfl)) rfl, tblG_in (inP1 (q := (mX7_isOwn.2.1, 6)) (List.mem_of_getElem? (i := 6) rfl)) rfl⟩
theorem s_7_68 : e_siteV 7 68 mX7_isOwn 7 := ⟨tblG_in (inT3 (List.mem_of_getElem? (i := 137) rfl)) rfl, sel_X7_isOwn.1, sel_X7_isOwn.2, rfl⟩
theorem d_X7_isOwn_0 : decode mX7_isOwn.2.2.1 0 = .ok (.iconst 0, 1) := by decide +kernel
theorem d_X7_isOwn_1 : decode mX7_isOwn.2.2.1 1 = .ok (.istore 4, 2) := by decide +kernel
theorem d_X7_isOwn_3 : decode mX7_isOwn.2.2.1 3 = .ok (.iload 4, 2) := by decide +kernel
theorem d_X7_isOwn_5 : decode mX7_isOwn.2.2.1 5 = .ok (.bipush 6, 2) := by decide +kernel
theorem d_X7_isOwn_7 : decode mX7_isOwn.2.2.1 7 = .ok (.if_icmp .ge 52, 3) := by decide +kernel
theorem d_X7_isOwn_10 : decode mX7_isOwn.2.2.1 10 = .ok (.iload_n 2, 1) := by decide +kernel
theorem d_X7_isOwn_11 : decode mX7_isOwn.2.2.1 11 = .ok (.iload 4, 2) := by decide +kernel
theorem d_X7_isOwn_13 : decode mX7_isOwn.2.2.1 13 = .ok (.iadd, 1) := by decide +kernel
theorem d_X7_isOwn_14 : decode mX7_isOwn.2.2.1 14 = .ok (.iload_n 3, 1) := by decide +kernel
theorem d_X7_isOwn_15 : decode mX7_isOwn.2.2.1 15 = .ok (.if_icmp .ge 15, 3) := by decide +kernel
theorem d_X7_isOwn_30 : decode mX7_isOwn.2.2.1 30 = .ok (.bipush 32, 2) := by decide +kernel
theorem d_X7_isOwn_18 : decode mX7_isOwn.2.2.1 18 = .ok (.aload_n 0, 1) := by decide +kernel
theorem d_X7_isOwn_19 : decode mX7_isOwn.2.2.1 19 = .ok (.getfield 21, 3) := by decide +kernel
theorem d_X7_isOwn_22 : decode mX7_isOwn.2.2.1 22 = .ok (.iload_n 2, 1) := by decide +kernel
theorem d_X7_isOwn_23 : decode mX7_isOwn.2.2.1 23 = .ok (.iload 4, 2) := by decide +kernel
theorem d_X7_isOwn_25 : decode mX7_isOwn.2.2.1 25 = .ok (.iadd, 1) := by decide +kernel
theorem d_X7_isOwn_26 : decode mX7_isOwn.2.2.1 26 = .ok (.baload, 1) := by decide +kernel
theorem d_X7_isOwn_27 : decode mX7_isOwn.2.2.1 27 = .ok (.goto 5, 3) := by decide +kernel
theorem d_X7_isOwn_32 : decode mX7_isOwn.2.2.1 32 = .ok (.istore 5, 2) := by decide +kernel
theorem d_X7_isOwn_34 : decode mX7_isOwn.2.2.1 34 = .ok (.ldc 72, 2) := by decide +kernel
theorem d_X7_isOwn_36 : decode mX7_isOwn.2.2.1 36 = .ok (.iload_n 1, 1) := by decide +kernel
theorem d_X7_isOwn_37 : decode mX7_isOwn.2.2.1 37 = .ok (.bipush 6, 2) := by decide +kernel
theorem d_X7_isOwn_39 : decode mX7_isOwn.2.2.1 39 = .ok (.imul, 1) := by decide +kernel
theorem d_X7_isOwn_40 : decode mX7_isOwn.2.2.1 40 = .ok (.iload 4, 2) := by decide +kernel
theorem d_X7_isOwn_42 : decode mX7_isOwn.2.2.1 42 = .ok (.iadd, 1) := by decide +kernel
theorem d_X7_isOwn_43 : decode mX7_isOwn.2.2.1 43 = .ok (.invokevirtual 74, 3) := by decide +kernel
def mJ0_charAt_5068e : MD := (19, yJ0_charAt_5068e, cJ0_charAt_5068e, 2, some .char)
theorem sel_J0_charAt_5068e : Cond.instanceMethod mJ0_charAt_5068e.2.1 ∈ tblG ∧ Cond.selects mJ0_charAt_5068e.2.1.cls mJ0_charAt_5068e.2.1 mJ0_charAt_5068e.2.1 ∈ tblG := ⟨tblG_in (inT3 (List.mem_of_getElem? (i := 143) rfl)) rfl, tblG_in (inT3 (List.mem_of_getElem? (i := 144) rfl)) rfl⟩
theorem sx_7_74 : e_siteX 7 74 mJ0_charAt_5068e := ⟨tblG_in (inT3 (List.mem_of_getElem? (i := 142) rfl)) rfl, sel_J0_charAt_5068e.1, sel_J0_charAt_5068e.2⟩
theorem d_J0_charAt_5068e_0 : decode mJ0_charAt_5068e.2.2.1 0 = .ok (.aload_n 0, 1) := by decide +kernel
theorem d_J0_charAt_5068e_1 : decode mJ0_charAt_5068e.2.2.1 1 = .ok (.invokevirtual 492, 3) := by decide +kernel
theorem d_J0_charAt_5068e_4 : decode mJ0_charAt_5068e.2.2.1 4 = .ok (.ifCond .eq 12, 3) := by decide +kernel
theorem d_J0_charAt_5068e_7 : decode mJ0_charAt_5068e.2.2.1 7 = .ok (.aload_n 0, 1) := by decide +kernel
theorem d_J0_charAt_5068e_8 : decode mJ0_charAt_5068e.2.2.1 8 = .ok (.getfield 9, 3) := by decide +kernel
theorem d_J0_charAt_5068e_11 : decode mJ0_charAt_5068e.2.2.1 11 = .ok (.iload_n 1, 1) := by decide +kernel
theorem d_J0_charAt_5068e_12 : decode mJ0_charAt_5068e.2.2.1 12 = .ok (.invokestatic 495, 3) := by decide +kernel
def mJ1_charAt_3b067 : MD := (20, yJ1_charAt_3b067, cJ1_charAt_3b067, 2, some .char)
theorem s_19_495 : e_siteS 19 495 mJ1_charAt_3b067 := ⟨tblG_in (inT3 (List.mem_of_getElem? (i := 152) rfl)) rfl, tblG_in (inT3 (List.mem_of_getElem? (i := 153) rfl)) rfl⟩
theorem d_J1_charAt_3b067_0 : decode mJ1_charAt_3b067.2.2.1 0 = .ok (.iload_n 1, 1) := by decide +kernel
theorem d_J1_charAt_3b067_1 : decode mJ1_charAt_3b067.2.2.1 1 = .ok (.aload_n 0, 1) := by decide +kernel
theorem d_J1_charAt_3b067_2 : decode mJ1_charAt_3b067.2.2.1 2 = .ok (.arraylength, 1) := by decide +kernel
theorem d_J1_charAt_3b067_3 : decode mJ1_charAt_3b067.2.2.1 3 = .ok (.invokestatic 9, 3) := by decide +kernel
def mJ0_checkIndex_df160 : MD := (19, yJ0_checkIndex_df160, cJ0_checkIndex_df160, 2, none)
theorem s_20_9 : e_siteS 20 9 mJ0_checkIndex_df160 := ⟨tblG_in (inT3 (List.mem_of_getElem? (i := 155) rfl)) rfl, tblG_in (inT3 (List.mem_of_getElem? (i := 156) rfl)) rfl⟩
theorem d_J0_checkIndex_df160_0 : decode mJ0_checkIndex_df160.2.2.1 0 = .ok (.iload_n 0, 1) := by decide +kernel
theorem d_J0_checkIndex_df160_1 : decode mJ0_checkIndex_df160.2.2.1 1 = .ok (.iload_n 1, 1) := by decide +kernel
theorem d_J0_checkIndex_df160_2 : decode mJ0_checkIndex_df160.2.2.1 2 = .ok (.getstatic 1053, 3) := by decide +kernel
theorem sl_19_1053 : Cond.fieldLink (e_cn 19) 1053 "jdk/internal/util/Preconditions" "SIOOBE_FORMATTER" "Ljava/util/function/BiFunction;" ∈ tblG := tblG_in (inT3 (List.mem_of_getElem? (i := 158) rfl)) rfl
theorem d_J0_checkIndex_df160_5 : decode mJ0_checkIndex_df160.2.2.1 5 = .ok (.invokestatic 1059, 3) := by decide +kernel
theorem s_19_1059 : e_siteS 19 1059 mJ3_checkIndex_8e157 := ⟨tblG_in (inT3 (List.mem_of_getElem? (i := 160) rfl)) rfl, tblG_in (inT3 (List.mem_of_getElem? (i := 161) rfl)) rfl⟩
theorem ini_23 : Cond.initialized "jdk/internal/util/Preconditions" ∈ tblG := tblG_in (inT1 (List.mem_of_getElem? (i := 17) rfl)) rfl
theorem ok_J3_checkIndex_8e157 : e_m mJ3_checkIndex_8e157 3 := ⟨tblG_in (inT3 (List.mem_of_getElem? (i := 162) rfl)) rfl, plainFor_of_name (by decide), rfl, ini_23, by decide +kernel, by decide⟩
theorem d_J0_checkIndex_df160_8 : decode mJ0_checkIndex_df160.2.2.1 8 = .ok (.pop, 1) := by decide +kernel
theorem d_J0_checkIndex_df160_9 : decode mJ0_checkIndex_df160.2.2.1 9 = .ok (.return_, 1) := by decide +kernel
theorem ok_J0_checkIndex_df160 : e_m mJ0_checkIndex_df160 2 := ⟨tblG_in (inT3 (List.mem_of_getElem? (i := 157) rfl)) rfl, plainFor_of_name (by decide), rfl, ini_19, by decide +kernel, by decide⟩
theorem d_J1_charAt_3b067_6 : decode mJ1_charAt_3b067.2.2.1 6 = .ok (.aload_n 0, 1) := by decide +kernel
theorem d_J1_charAt_3b067_7 : decode mJ1_charAt_3b067.2.2.1 7 = .ok (.iload_n 1, 1) := by decide +kernel
theorem d_J1_charAt_3b067_8 : decode mJ1_charAt_3b067.2.2.1 8 = .ok (.baload, 1) := by decide +kernel
theorem d_J1_charAt_3b067_9 : decode mJ1_charAt_3b067.2.2.1 9 = .ok (.sipush 255, 3) := by decide +kernel
theorem d_J1_charAt_3b067_12 : decode mJ1_charAt_3b067.2.2.1 12 = .ok (.iand, 1) := by decide +kernel
theorem d_J1_charAt_3b067_13 : decode mJ1_charAt_3b067.2.2.1 13 = .ok (.i2c, 1) := by decide +kernel
theorem d_J1_charAt_3b067_14 : decode mJ1_charAt_3b067.2.2.1 14 = .ok (.ireturn, 1) := by decide +kernel
theorem ok_J1_charAt_3b067 : e_m mJ1_charAt_3b067 2 := ⟨tblG_in (inT3 (List.mem_of_getElem? (i := 154) rfl)) rfl, plainFor_of_name (by decide), rfl, ini_20, by decide +kernel, by decide⟩
theorem d_J0_charAt_5068e_15 : decode mJ0_charAt_5068e.2.2.1 15 = .ok (.ireturn, 1) := by decide +kernel
theorem ok_J0_charAt_5068e : e_m mJ0_charAt_5068e 1 := ⟨tblG_in (inT3 (List.mem_of_getElem? (i := 145) rfl)) rfl, plainFor_of_name (by decide), rfl, ini_19, by decide +kernel, by decide⟩
theorem d_X7_isOwn_46 : decode mX7_isOwn.2.2.1 46 = .ok (.iload 5, 2) := by decide +kernel
theorem d_X7_isOwn_48 : decode mX7_isOwn.2.2.1 48 = .ok (.if_icmp .eq 5, 3) := by decide +kernel
theorem d_X7_isOwn_53 : decode mX7_isOwn.2.2.1 53 = .ok (.iinc 4 1, 3) := by decide +kernel
theorem d_X7_isOwn_56 : decode mX7_isOwn.2.2.1 56 = .ok (.goto (-53), 3) := by decide +kernel
theorem d_X7_isOwn_51 : decode mX7_isOwn.2.2.1 51 = .ok (.iconst 0, 1) := by decide +kernel
theorem d_X7_isOwn_52 : decode mX7_isOwn.2.2.1 52 = .ok (.ireturn, 1) := by decide +kernel
theorem d_X7_isOwn_59 : decode mX7_isOwn.2.2.1 59 = .ok (.iconst 1, 1) := by decide +kernel
theorem d_X7_isOwn_60 : decode mX7_isOwn.2.2.1 60 = .ok (.ireturn, 1) := by decide +kernel
theorem ok_X7_isOwn : e_m mX7_isOwn 3 := ⟨tblG_in (inT3 (List.mem_of_getElem? (i := 140) rfl)) rfl, plainFor_of_name (by decide), rfl, ini_7, by decide +kernel, by decide⟩
theorem d_X7_ownWord_15 : decode mX7_ownWord.2.2.1 15 = .ok (.ifCond .eq 5, 3) := by decide +kernel
theorem d_X7_ownWord_20 : decode mX7_ownWord.2.2.1 20 = .ok (.iinc 3 1, 3) := by decide +kernel
theorem d_X7_ownWord_23 : decode mX7_ownWord.2.2.1 23 = .ok (.goto (-21), 3) := by decide +kernel
theorem d_X7_ownWord_18 : decode mX7_ownWord.2.2.1 18 = .ok (.iload_n 3, 1) := by decide +kernel
theorem d_X7_ownWord_19 : decode mX7_ownWord.2.2.1 19 = .ok (.ireturn, 1) := by decide +kernel
theorem d_X7_ownWord_26 : decode mX7_ownWord.2.2.1 26 = .ok (.iconst (-1), 1) := by decide +kernel
theorem d_X7_ownWord_27 : decode mX7_ownWord.2.2.1 27 = .ok (.ireturn, 1) := by decide +kernel
theorem ok_X7_ownWord : e_m mX7_ownWord 2 := ⟨tblG_in (inT3 (List.mem_of_getElem? (i := 136) rfl)) rfl, plainFor_of_name (by decide), rfl, ini_7, by decide +kernel, by decide⟩
theorem d_X7_takeWord_79 : decode mX7_takeWord.2.2.1 79 = .ok (.istore 4, 2) := by decide +kernel
theorem d_X7_takeWord_81 : decode mX7_takeWord.2.2.1 81 = .ok (.iload 4, 2) := by decide +kernel
theorem d_X7_takeWord_83 : decode mX7_takeWord.2.2.1 83 = .ok (.ifCond .lt 13, 3) := by decide +kernel
theorem d_X7_takeWord_96 : decode mX7_takeWord.2.2.1 96 = .ok (.aload_n 0, 1) := by decide +kernel
theorem d_X7_takeWord_97 : decode mX7_takeWord.2.2.1 97 = .ok (.iconst 3, 1) := by decide +kernel
theorem d_X7_takeWord_98 : decode mX7_takeWord.2.2.1 98 = .ok (.iload_n 1, 1) := by decide +kernel
theorem d_X7_takeWord_99 : decode mX7_takeWord.2.2.1 99 = .ok (.iload_n 3, 1) := by decide +kernel
theorem d_X7_takeWord_100 : decode mX7_takeWord.2.2.1 100 = .ok (.iload_n 2, 1) := by decide +kernel
theorem d_X7_takeWord_101 : decode mX7_takeWord.2.2.1 101 = .ok (.invokevirtual 40, 3) := by decide +kernel
theorem d_X7_takeWord_104 : decode mX7_takeWord.2.2.1 104 = .ok (.ireturn, 1) := by decide +kernel
theorem d_X7_takeWord_86 : decode mX7_takeWord.2.2.1 86 = .ok (.aload_n 0, 1) := by decide +kernel
theorem d_X7_takeWord_87 : decode mX7_takeWord.2.2.1 87 = .ok (.iconst 2, 1) := by decide +kernel
theorem d_X7_takeWord_88 : decode mX7_takeWord.2.2.1 88 = .ok (.iload_n 1, 1) := by decide +kernel
end
/-! 33.02 -/
section
theorem d_X7_takeWord_89 : decode mX7_takeWord.2.2.1 89 = .ok (.iload 4, 2) := by decide +kernel
theorem d_X7_takeWord_91 : decode mX7_takeWord.2.2.1 91 = .ok (.iload_n 2, 1) := by decide +kernel
theorem d_X7_takeWord_92 : decode mX7_takeWord.2.2.1 92 = .ok (.invokevirtual 40, 3) := by decide +kernel
theorem d_X7_takeWord_95 : decode mX7_takeWord.2.2.1 95 = .ok (.ireturn, 1) := by decide +kernel
theorem d_X7_takeWord_61 : decode mX7_takeWord.2.2.1 61 = .ok (.aload_n 0, 1) := by decide +kernel
theorem d_X7_takeWord_62 : decode mX7_takeWord.2.2.1 62 = .ok (.iconst 1, 1) := by decide +kernel
theorem d_X7_takeWord_63 : decode mX7_takeWord.2.2.1 63 = .ok (.iload_n 1, 1) := by decide +kernel
theorem d_X7_takeWord_64 : decode mX7_takeWord.2.2.1 64 = .ok (.bipush 6, 2) := by decide +kernel
theorem d_X7_takeWord_66 : decode mX7_takeWord.2.2.1 66 = .ok (.iadd, 1) := by decide +kernel
theorem d_X7_takeWord_67 : decode mX7_takeWord.2.2.1 67 = .ok (.iconst 0, 1) := by decide +kernel
theorem d_X7_takeWord_68 : decode mX7_takeWord.2.2.1 68 = .ok (.iconst (-1), 1) := by decide +kernel
theorem d_X7_takeWord_69 : decode mX7_takeWord.2.2.1 69 = .ok (.invokevirtual 40, 3) := by decide +kernel
theorem d_X7_takeWord_72 : decode mX7_takeWord.2.2.1 72 = .ok (.ireturn, 1) := by decide +kernel
theorem ok_X7_takeWord : e_m mX7_takeWord 1 := ⟨tblG_in (inT3 (List.mem_of_getElem? (i := 132) rfl)) rfl, plainFor_of_name (by decide), rfl, ini_7, by decide +kernel, by decide⟩
theorem d_X7_takeOne_63 : decode mX7_takeOne.2.2.1 63 = .ok (.goto 8, 3) := by decide +kernel
theorem ok_X7_takeOne : e_m mX7_takeOne 2 := ⟨tblG_in (inT3 (List.mem_of_getElem? (i := 118) rfl)) rfl, plainFor_of_name (by decide), rfl, ini_7, by decide +kernel, by decide⟩
theorem d_X7_takeApart_68 : decode mX7_takeApart.2.2.1 68 = .ok (.istore_n 3, 1) := by decide +kernel
theorem d_X7_takeApart_69 : decode mX7_takeApart.2.2.1 69 = .ok (.aload_n 0, 1) := by decide +kernel
theorem d_X7_takeApart_70 : decode mX7_takeApart.2.2.1 70 = .ok (.getfield 29, 3) := by decide +kernel
theorem d_X7_takeApart_73 : decode mX7_takeApart.2.2.1 73 = .ok (.ifCond .le 22, 3) := by decide +kernel
theorem d_X7_takeApart_76 : decode mX7_takeApart.2.2.1 76 = .ok (.aload_n 0, 1) := by decide +kernel
theorem d_X7_takeApart_77 : decode mX7_takeApart.2.2.1 77 = .ok (.getfield 9, 3) := by decide +kernel
theorem d_X7_takeApart_80 : decode mX7_takeApart.2.2.1 80 = .ok (.aload_n 0, 1) := by decide +kernel
theorem d_X7_takeApart_81 : decode mX7_takeApart.2.2.1 81 = .ok (.getfield 29, 3) := by decide +kernel
theorem d_X7_takeApart_84 : decode mX7_takeApart.2.2.1 84 = .ok (.iconst 1, 1) := by decide +kernel
theorem d_X7_takeApart_85 : decode mX7_takeApart.2.2.1 85 = .ok (.isub, 1) := by decide +kernel
theorem d_X7_takeApart_86 : decode mX7_takeApart.2.2.1 86 = .ok (.iaload, 1) := by decide +kernel
theorem d_X7_takeApart_87 : decode mX7_takeApart.2.2.1 87 = .ok (.iconst 5, 1) := by decide +kernel
theorem d_X7_takeApart_88 : decode mX7_takeApart.2.2.1 88 = .ok (.if_icmp .eq 7, 3) := by decide +kernel
theorem d_X7_takeApart_91 : decode mX7_takeApart.2.2.1 91 = .ok (.iconst 1, 1) := by decide +kernel
theorem d_X7_takeApart_92 : decode mX7_takeApart.2.2.1 92 = .ok (.goto 4, 3) := by decide +kernel
theorem d_X7_takeApart_95 : decode mX7_takeApart.2.2.1 95 = .ok (.iconst 0, 1) := by decide +kernel
theorem d_X7_takeApart_96 : decode mX7_takeApart.2.2.1 96 = .ok (.istore 4, 2) := by decide +kernel
theorem d_X7_takeApart_98 : decode mX7_takeApart.2.2.1 98 = .ok (.iinc 5 1, 3) := by decide +kernel
theorem d_X7_takeApart_101 : decode mX7_takeApart.2.2.1 101 = .ok (.goto (-78), 3) := by decide +kernel
theorem d_X7_takeApart_104 : decode mX7_takeApart.2.2.1 104 = .ok (.return_, 1) := by decide +kernel
theorem d_X7_takeApart_47 : decode mX7_takeApart.2.2.1 47 = .ok (.iload 6, 2) := by decide +kernel
theorem d_X7_takeApart_49 : decode mX7_takeApart.2.2.1 49 = .ok (.iload_n 3, 1) := by decide +kernel
theorem d_X7_takeApart_50 : decode mX7_takeApart.2.2.1 50 = .ok (.if_icmp .ne 7, 3) := by decide +kernel
theorem d_X7_takeApart_53 : decode mX7_takeApart.2.2.1 53 = .ok (.iconst 1, 1) := by decide +kernel
theorem d_X7_takeApart_54 : decode mX7_takeApart.2.2.1 54 = .ok (.goto 4, 3) := by decide +kernel
theorem d_X7_takeOne_42 : decode mX7_takeOne.2.2.1 42 = .ok (.aload_n 0, 1) := by decide +kernel
theorem d_X7_takeOne_43 : decode mX7_takeOne.2.2.1 43 = .ok (.iconst 1, 1) := by decide +kernel
theorem d_X7_takeOne_44 : decode mX7_takeOne.2.2.1 44 = .ok (.iload_n 1, 1) := by decide +kernel
theorem d_X7_takeOne_45 : decode mX7_takeOne.2.2.1 45 = .ok (.iconst 0, 1) := by decide +kernel
theorem d_X7_takeOne_46 : decode mX7_takeOne.2.2.1 46 = .ok (.iconst (-1), 1) := by decide +kernel
theorem d_X7_takeOne_47 : decode mX7_takeOne.2.2.1 47 = .ok (.invokevirtual 40, 3) := by decide +kernel
theorem d_X7_takeOne_50 : decode mX7_takeOne.2.2.1 50 = .ok (.ireturn, 1) := by decide +kernel
theorem ok_X7_takeApart : e_m mX7_takeApart 2 := ⟨tblG_in (inT3 (List.mem_of_getElem? (i := 110) rfl)) rfl, plainFor_of_name (by decide), rfl, ini_7, by decide +kernel, by decide⟩
theorem d_X11_text_15 : decode mX11_text.2.2.1 15 = .ok (.aload_n 0, 1) := by decide +kernel
theorem d_X11_text_16 : decode mX11_text.2.2.1 16 = .ok (.iconst 0, 1) := by decide +kernel
theorem d_X11_text_17 : decode mX11_text.2.2.1 17 = .ok (.putfield 84, 3) := by decide +kernel
theorem d_X11_text_20 : decode mX11_text.2.2.1 20 = .ok (.aload_n 0, 1) := by decide +kernel
theorem d_X11_text_21 : decode mX11_text.2.2.1 21 = .ok (.getfield 23, 3) := by decide +kernel
theorem d_X11_text_24 : decode mX11_text.2.2.1 24 = .ok (.aload_n 0, 1) := by decide +kernel
theorem d_X11_text_25 : decode mX11_text.2.2.1 25 = .ok (.getfield 16, 3) := by decide +kernel
theorem d_X11_text_28 : decode mX11_text.2.2.1 28 = .ok (.aload_n 0, 1) := by decide +kernel
theorem d_X11_text_29 : decode mX11_text.2.2.1 29 = .ok (.getfield 34, 3) := by decide +kernel
theorem d_X11_text_32 : decode mX11_text.2.2.1 32 = .ok (.invokevirtual 96, 3) := by decide +kernel
def mX5_read : MD := (5, yX5_read, cX5_read, 3, some .boolean)
theorem sel_X5_read : Cond.instanceMethod mX5_read.2.1 ∈ tblG ∧ Cond.selects mX5_read.2.1.cls mX5_read.2.1 mX5_read.2.1 ∈ tblG := ⟨tblG_in (inT4 (List.mem_of_getElem? (i := 14) rfl)) rfl, tblG_in (inT4 (List.mem_of_getElem? (i := 15) rfl)) rfl⟩
theorem s_11_96 : e_siteV 11 96 mX5_read 5 := ⟨tblG_in (inT4 (List.mem_of_getElem? (i := 13) rfl)) rfl, sel_X5_read.1, sel_X5_read.2, rfl⟩
theorem d_X5_read_0 : decode mX5_read.2.2.1 0 = .ok (.aload_n 0, 1) := by decide +kernel
theorem d_X5_read_1 : decode mX5_read.2.2.1 1 = .ok (.aload_n 1, 1) := by decide +kernel
theorem d_X5_read_2 : decode mX5_read.2.2.1 2 = .ok (.putfield 18, 3) := by decide +kernel
theorem d_X5_read_5 : decode mX5_read.2.2.1 5 = .ok (.aload_n 0, 1) := by decide +kernel
theorem d_X5_read_6 : decode mX5_read.2.2.1 6 = .ok (.aload_n 2, 1) := by decide +kernel
theorem d_X5_read_7 : decode mX5_read.2.2.1 7 = .ok (.putfield 22, 3) := by decide +kernel
theorem d_X5_read_10 : decode mX5_read.2.2.1 10 = .ok (.aload_n 0, 1) := by decide +kernel
theorem d_X5_read_11 : decode mX5_read.2.2.1 11 = .ok (.aload_n 2, 1) := by decide +kernel
theorem d_X5_read_12 : decode mX5_read.2.2.1 12 = .ok (.getfield 26, 3) := by decide +kernel
theorem f_5_26 : e_fld 5 26 3 11 12 2 true := ⟨RX3, TX3, 11, rfl, rfl, by decide, rfl, rfl, rfl, iX3, tblG_in (inT1 (List.mem_of_getElem? (i := 204) rfl)) rfl, tyX3_ok, nmX3⟩
theorem d_X5_read_15 : decode mX5_read.2.2.1 15 = .ok (.putfield 32, 3) := by decide +kernel
theorem d_X5_read_18 : decode mX5_read.2.2.1 18 = .ok (.aload_n 0, 1) := by decide +kernel
theorem d_X5_read_19 : decode mX5_read.2.2.1 19 = .ok (.getfield 22, 3) := by decide +kernel
theorem d_X5_read_22 : decode mX5_read.2.2.1 22 = .ok (.invokevirtual 33, 3) := by decide +kernel
theorem s_5_33 : e_siteV 5 33 mX3_clear 3 := ⟨tblG_in (inT4 (List.mem_of_getElem? (i := 17) rfl)) rfl, sel_X3_clear.1, sel_X3_clear.2, rfl⟩
theorem d_X5_read_25 : decode mX5_read.2.2.1 25 = .ok (.aload_n 0, 1) := by decide +kernel
theorem d_X5_read_26 : decode mX5_read.2.2.1 26 = .ok (.iconst 0, 1) := by decide +kernel
theorem d_X5_read_27 : decode mX5_read.2.2.1 27 = .ok (.putfield 36, 3) := by decide +kernel
theorem d_X5_read_30 : decode mX5_read.2.2.1 30 = .ok (.aload_n 0, 1) := by decide +kernel
theorem d_X5_read_31 : decode mX5_read.2.2.1 31 = .ok (.iconst 0, 1) := by decide +kernel
theorem d_X5_read_32 : decode mX5_read.2.2.1 32 = .ok (.putfield 39, 3) := by decide +kernel
theorem d_X5_read_35 : decode mX5_read.2.2.1 35 = .ok (.aload_n 0, 1) := by decide +kernel
theorem d_X5_read_36 : decode mX5_read.2.2.1 36 = .ok (.iconst 0, 1) := by decide +kernel
theorem d_X5_read_37 : decode mX5_read.2.2.1 37 = .ok (.putfield 9, 3) := by decide +kernel
theorem d_X5_read_40 : decode mX5_read.2.2.1 40 = .ok (.aload_n 0, 1) := by decide +kernel
theorem d_X5_read_41 : decode mX5_read.2.2.1 41 = .ok (.iconst (-1), 1) := by decide +kernel
theorem d_X5_read_42 : decode mX5_read.2.2.1 42 = .ok (.putfield 15, 3) := by decide +kernel
theorem d_X5_read_45 : decode mX5_read.2.2.1 45 = .ok (.aload_n 0, 1) := by decide +kernel
theorem d_X5_read_46 : decode mX5_read.2.2.1 46 = .ok (.invokevirtual 42, 3) := by decide +kernel
def mX5_declarations : MD := (5, yX5_declarations, cX5_declarations, 3, some .boolean)
theorem sel_X5_declarations : Cond.instanceMethod mX5_declarations.2.1 ∈ tblG ∧ Cond.selects mX5_declarations.2.1.cls mX5_declarations.2.1 mX5_declarations.2.1 ∈ tblG := ⟨tblG_in (inT4 (List.mem_of_getElem? (i := 20) rfl)) rfl, tblG_in (inP1 (q := (mX5_declarations.2.1, 7)) (List.mem_of_getElem? (i := 8) rfl)) rfl⟩
theorem s_5_42 : e_siteV 5 42 mX5_declarations 5 := ⟨tblG_in (inT4 (List.mem_of_getElem? (i := 18) rfl)) rfl, sel_X5_declarations.1, sel_X5_declarations.2, rfl⟩
theorem d_X5_declarations_0 : decode mX5_declarations.2.2.1 0 = .ok (.iconst 1, 1) := by decide +kernel
theorem d_X5_declarations_1 : decode mX5_declarations.2.2.1 1 = .ok (.istore_n 1, 1) := by decide +kernel
theorem d_X5_declarations_2 : decode mX5_declarations.2.2.1 2 = .ok (.iconst 0, 1) := by decide +kernel
theorem d_X5_declarations_3 : decode mX5_declarations.2.2.1 3 = .ok (.istore_n 2, 1) := by decide +kernel
theorem d_X5_declarations_4 : decode mX5_declarations.2.2.1 4 = .ok (.iload_n 2, 1) := by decide +kernel
theorem d_X5_declarations_5 : decode mX5_declarations.2.2.1 5 = .ok (.sipush 900, 3) := by decide +kernel
theorem d_X5_declarations_8 : decode mX5_declarations.2.2.1 8 = .ok (.if_icmp .ge 62, 3) := by decide +kernel
theorem d_X5_declarations_11 : decode mX5_declarations.2.2.1 11 = .ok (.iload_n 1, 1) := by decide +kernel
theorem d_X5_declarations_12 : decode mX5_declarations.2.2.1 12 = .ok (.ifCond .eq 58, 3) := by decide +kernel
theorem d_X5_declarations_15 : decode mX5_declarations.2.2.1 15 = .ok (.aload_n 0, 1) := by decide +kernel
theorem d_X5_declarations_16 : decode mX5_declarations.2.2.1 16 = .ok (.getfield 18, 3) := by decide +kernel
theorem d_X5_declarations_19 : decode mX5_declarations.2.2.1 19 = .ok (.getfield 50, 3) := by decide +kernel
theorem d_X5_declarations_22 : decode mX5_declarations.2.2.1 22 = .ok (.aload_n 0, 1) := by decide +kernel
theorem d_X5_declarations_23 : decode mX5_declarations.2.2.1 23 = .ok (.getfield 36, 3) := by decide +kernel
theorem d_X5_declarations_26 : decode mX5_declarations.2.2.1 26 = .ok (.iaload, 1) := by decide +kernel
theorem d_X5_declarations_27 : decode mX5_declarations.2.2.1 27 = .ok (.iconst 2, 1) := by decide +kernel
theorem d_X5_declarations_28 : decode mX5_declarations.2.2.1 28 = .ok (.if_icmp .ne 42, 3) := by decide +kernel
theorem d_X5_declarations_70 : decode mX5_declarations.2.2.1 70 = .ok (.iload_n 1, 1) := by decide +kernel
theorem d_X5_declarations_71 : decode mX5_declarations.2.2.1 71 = .ok (.ireturn, 1) := by decide +kernel
theorem d_X5_declarations_31 : decode mX5_declarations.2.2.1 31 = .ok (.aload_n 0, 1) := by decide +kernel
theorem d_X5_declarations_32 : decode mX5_declarations.2.2.1 32 = .ok (.getfield 18, 3) := by decide +kernel
theorem d_X5_declarations_35 : decode mX5_declarations.2.2.1 35 = .ok (.getfield 68, 3) := by decide +kernel
theorem d_X5_declarations_38 : decode mX5_declarations.2.2.1 38 = .ok (.aload_n 0, 1) := by decide +kernel
theorem d_X5_declarations_39 : decode mX5_declarations.2.2.1 39 = .ok (.getfield 36, 3) := by decide +kernel
theorem d_X5_declarations_42 : decode mX5_declarations.2.2.1 42 = .ok (.iaload, 1) := by decide +kernel
theorem d_X5_declarations_43 : decode mX5_declarations.2.2.1 43 = .ok (.iconst 4, 1) := by decide +kernel
theorem d_X5_declarations_44 : decode mX5_declarations.2.2.1 44 = .ok (.if_icmp .gt 26, 3) := by decide +kernel
theorem d_X5_declarations_47 : decode mX5_declarations.2.2.1 47 = .ok (.aload_n 0, 1) := by decide +kernel
theorem d_X5_declarations_48 : decode mX5_declarations.2.2.1 48 = .ok (.aload_n 0, 1) := by decide +kernel
theorem d_X5_declarations_49 : decode mX5_declarations.2.2.1 49 = .ok (.getfield 18, 3) := by decide +kernel
theorem d_X5_declarations_52 : decode mX5_declarations.2.2.1 52 = .ok (.getfield 68, 3) := by decide +kernel
theorem d_X5_declarations_55 : decode mX5_declarations.2.2.1 55 = .ok (.aload_n 0, 1) := by decide +kernel
theorem d_X5_declarations_56 : decode mX5_declarations.2.2.1 56 = .ok (.getfield 36, 3) := by decide +kernel
theorem d_X5_declarations_59 : decode mX5_declarations.2.2.1 59 = .ok (.iaload, 1) := by decide +kernel
theorem d_X5_declarations_60 : decode mX5_declarations.2.2.1 60 = .ok (.invokevirtual 97, 3) := by decide +kernel
def mX5_declaration : MD := (5, yX5_declaration, cX5_declaration, 2, some .boolean)
theorem sel_X5_declaration : Cond.instanceMethod mX5_declaration.2.1 ∈ tblG ∧ Cond.selects mX5_declaration.2.1.cls mX5_declaration.2.1 mX5_declaration.2.1 ∈ tblG := ⟨tblG_in (inT4 (List.mem_of_getElem? (i := 24) rfl)) rfl, tblG_in (inP1 (q := (mX5_declaration.2.1, 7)) (List.mem_of_getElem? (i := 9) rfl)) rfl⟩
theorem s_5_97 : e_siteV 5 97 mX5_declaration 5 := ⟨tblG_in (inT4 (List.mem_of_getElem? (i := 22) rfl)) rfl, sel_X5_declaration.1, sel_X5_declaration.2, rfl⟩
theorem d_X5_declaration_0 : decode mX5_declaration.2.2.1 0 = .ok (.iload_n 1, 1) := by decide +kernel
theorem d_X5_declaration_1 : decode mX5_declaration.2.2.1 1 = .ok (.tableswitch 51 0 3 #[31, 36, 41, 46], 31) := by decide +kernel
theorem d_X5_declaration_52 : decode mX5_declaration.2.2.1 52 = .ok (.aload_n 0, 1) := by decide +kernel
theorem d_X5_declaration_53 : decode mX5_declaration.2.2.1 53 = .ok (.iconst 2, 1) := by decide +kernel
theorem d_X5_declaration_54 : decode mX5_declaration.2.2.1 54 = .ok (.invokevirtual 112, 3) := by decide +kernel
def mX5_beginNamed : MD := (5, yX5_beginNamed, cX5_beginNamed, 2, some .boolean)
theorem sel_X5_beginNamed : Cond.instanceMethod mX5_beginNamed.2.1 ∈ tblG ∧ Cond.selects mX5_beginNamed.2.1.cls mX5_beginNamed.2.1 mX5_beginNamed.2.1 ∈ tblG := ⟨tblG_in (inT4 (List.mem_of_getElem? (i := 60) rfl)) rfl, tblG_in (inP2 (q := (mX5_beginNamed.2.1, 7)) (List.mem_of_getElem? (i := 2) rfl)) rfl⟩
theorem s_5_112 : e_siteV 5 112 mX5_beginNamed 5 := ⟨tblG_in (inT4 (List.mem_of_getElem? (i := 58) rfl)) rfl, sel_X5_beginNamed.1, sel_X5_beginNamed.2, rfl⟩
theorem d_X5_beginNamed_0 : decode mX5_beginNamed.2.2.1 0 = .ok (.aload_n 0, 1) := by decide +kernel
theorem d_X5_beginNamed_1 : decode mX5_beginNamed.2.2.1 1 = .ok (.getfield 22, 3) := by decide +kernel
theorem d_X5_beginNamed_4 : decode mX5_beginNamed.2.2.1 4 = .ok (.iload_n 1, 1) := by decide +kernel
theorem d_X5_beginNamed_5 : decode mX5_beginNamed.2.2.1 5 = .ok (.invokevirtual 126, 3) := by decide +kernel
def mX3_isFull : MD := (3, yX3_isFull, cX3_isFull, 2, some .boolean)
theorem sel_X3_isFull : Cond.instanceMethod mX3_isFull.2.1 ∈ tblG ∧ Cond.selects mX3_isFull.2.1.cls mX3_isFull.2.1 mX3_isFull.2.1 ∈ tblG := ⟨tblG_in (inT4 (List.mem_of_getElem? (i := 63) rfl)) rfl, tblG_in (inT4 (List.mem_of_getElem? (i := 64) rfl)) rfl⟩
theorem s_5_126 : e_siteV 5 126 mX3_isFull 3 := ⟨tblG_in (inT4 (List.mem_of_getElem? (i := 62) rfl)) rfl, sel_X3_isFull.1, sel_X3_isFull.2, rfl⟩
theorem d_X3_isFull_0 : decode mX3_isFull.2.2.1 0 = .ok (.aload_n 0, 1) := by decide +kernel
theorem d_X3_isFull_1 : decode mX3_isFull.2.2.1 1 = .ok (.getfield 11, 3) := by decide +kernel
theorem d_X3_isFull_4 : decode mX3_isFull.2.2.1 4 = .ok (.iload_n 1, 1) := by decide +kernel
theorem d_X3_isFull_5 : decode mX3_isFull.2.2.1 5 = .ok (.iaload, 1) := by decide +kernel
theorem d_X3_isFull_6 : decode mX3_isFull.2.2.1 6 = .ok (.getstatic 62, 3) := by decide +kernel
theorem sl_3_62 : Cond.fieldLink (e_cn 3) 62 "SipMeter$Machine" "MOST" "[I" ∈ tblG := tblG_in (inT4 (List.mem_of_getElem? (i := 66) rfl)) rfl
theorem d_X3_isFull_9 : decode mX3_isFull.2.2.1 9 = .ok (.iload_n 1, 1) := by decide +kernel
theorem d_X3_isFull_10 : decode mX3_isFull.2.2.1 10 = .ok (.iaload, 1) := by decide +kernel
theorem d_X3_isFull_11 : decode mX3_isFull.2.2.1 11 = .ok (.if_icmp .lt 7, 3) := by decide +kernel
theorem d_X3_isFull_18 : decode mX3_isFull.2.2.1 18 = .ok (.iconst 0, 1) := by decide +kernel
theorem d_X3_isFull_19 : decode mX3_isFull.2.2.1 19 = .ok (.ireturn, 1) := by decide +kernel
theorem d_X3_isFull_14 : decode mX3_isFull.2.2.1 14 = .ok (.iconst 1, 1) := by decide +kernel
theorem d_X3_isFull_15 : decode mX3_isFull.2.2.1 15 = .ok (.goto 4, 3) := by decide +kernel
theorem ok_X3_isFull : e_m mX3_isFull 1 := ⟨tblG_in (inT4 (List.mem_of_getElem? (i := 65) rfl)) rfl, plainFor_of_name (by decide), rfl, ini_3, by decide +kernel, by decide⟩
theorem d_X5_beginNamed_8 : decode mX5_beginNamed.2.2.1 8 = .ok (.ifCond .eq 9, 3) := by decide +kernel
theorem d_X5_beginNamed_17 : decode mX5_beginNamed.2.2.1 17 = .ok (.aload_n 0, 1) := by decide +kernel
theorem d_X5_beginNamed_18 : decode mX5_beginNamed.2.2.1 18 = .ok (.invokevirtual 74, 3) := by decide +kernel
theorem d_X5_beginNamed_21 : decode mX5_beginNamed.2.2.1 21 = .ok (.pop, 1) := by decide +kernel
theorem d_X5_beginNamed_22 : decode mX5_beginNamed.2.2.1 22 = .ok (.aload_n 0, 1) := by decide +kernel
theorem d_X5_beginNamed_23 : decode mX5_beginNamed.2.2.1 23 = .ok (.getfield 18, 3) := by decide +kernel
theorem d_X5_beginNamed_26 : decode mX5_beginNamed.2.2.1 26 = .ok (.getfield 50, 3) := by decide +kernel
theorem d_X5_beginNamed_29 : decode mX5_beginNamed.2.2.1 29 = .ok (.aload_n 0, 1) := by decide +kernel
theorem d_X5_beginNamed_30 : decode mX5_beginNamed.2.2.1 30 = .ok (.getfield 36, 3) := by decide +kernel
theorem d_X5_beginNamed_33 : decode mX5_beginNamed.2.2.1 33 = .ok (.iaload, 1) := by decide +kernel
theorem d_X5_beginNamed_34 : decode mX5_beginNamed.2.2.1 34 = .ok (.iconst 3, 1) := by decide +kernel
theorem d_X5_beginNamed_35 : decode mX5_beginNamed.2.2.1 35 = .ok (.if_icmp .eq 9, 3) := by decide +kernel
theorem d_X5_beginNamed_44 : decode mX5_beginNamed.2.2.1 44 = .ok (.aload_n 0, 1) := by decide +kernel
theorem d_X5_beginNamed_45 : decode mX5_beginNamed.2.2.1 45 = .ok (.getfield 22, 3) := by decide +kernel
theorem d_X5_beginNamed_48 : decode mX5_beginNamed.2.2.1 48 = .ok (.aload_n 0, 1) := by decide +kernel
theorem d_X5_beginNamed_49 : decode mX5_beginNamed.2.2.1 49 = .ok (.getfield 18, 3) := by decide +kernel
theorem d_X5_beginNamed_52 : decode mX5_beginNamed.2.2.1 52 = .ok (.getfield 68, 3) := by decide +kernel
theorem d_X5_beginNamed_55 : decode mX5_beginNamed.2.2.1 55 = .ok (.aload_n 0, 1) := by decide +kernel
theorem d_X5_beginNamed_56 : decode mX5_beginNamed.2.2.1 56 = .ok (.getfield 36, 3) := by decide +kernel
theorem d_X5_beginNamed_59 : decode mX5_beginNamed.2.2.1 59 = .ok (.iaload, 1) := by decide +kernel
theorem d_X5_beginNamed_60 : decode mX5_beginNamed.2.2.1 60 = .ok (.invokevirtual 91, 3) := by decide +kernel
theorem sel_X3_find : Cond.instanceMethod mX3_find.2.1 ∈ tblG ∧ Cond.selects mX3_find.2.1.cls mX3_find.2.1 mX3_find.2.1 ∈ tblG := ⟨tblG_in (inT4 (List.mem_of_getElem? (i := 69) rfl)) rfl, tblG_in (inT4 (List.mem_of_getElem? (i := 70) rfl)) rfl⟩
theorem s_5_91 : e_siteV 5 91 mX3_find 3 := ⟨tblG_in (inT4 (List.mem_of_getElem? (i := 68) rfl)) rfl, sel_X3_find.1, sel_X3_find.2, rfl⟩
theorem ok_X3_find : e_m mX3_find 1 := ⟨tblG_in (inT4 (List.mem_of_getElem? (i := 71) rfl)) rfl, plainFor_of_name (by decide), rfl, ini_3, by decide +kernel, by decide⟩
theorem d_X5_beginNamed_63 : decode mX5_beginNamed.2.2.1 63 = .ok (.ifCond .lt 9, 3) := by decide +kernel
theorem d_X5_beginNamed_72 : decode mX5_beginNamed.2.2.1 72 = .ok (.aload_n 0, 1) := by decide +kernel
theorem d_X5_beginNamed_73 : decode mX5_beginNamed.2.2.1 73 = .ok (.getfield 22, 3) := by decide +kernel
theorem d_X5_beginNamed_76 : decode mX5_beginNamed.2.2.1 76 = .ok (.iload_n 1, 1) := by decide +kernel
theorem d_X5_beginNamed_77 : decode mX5_beginNamed.2.2.1 77 = .ok (.aload_n 0, 1) := by decide +kernel
theorem d_X5_beginNamed_78 : decode mX5_beginNamed.2.2.1 78 = .ok (.getfield 18, 3) := by decide +kernel
theorem d_X5_beginNamed_81 : decode mX5_beginNamed.2.2.1 81 = .ok (.getfield 68, 3) := by decide +kernel
theorem d_X5_beginNamed_84 : decode mX5_beginNamed.2.2.1 84 = .ok (.aload_n 0, 1) := by decide +kernel
theorem d_X5_beginNamed_85 : decode mX5_beginNamed.2.2.1 85 = .ok (.getfield 36, 3) := by decide +kernel
theorem d_X5_beginNamed_88 : decode mX5_beginNamed.2.2.1 88 = .ok (.iaload, 1) := by decide +kernel
theorem d_X5_beginNamed_89 : decode mX5_beginNamed.2.2.1 89 = .ok (.invokevirtual 129, 3) := by decide +kernel
def mX3_name : MD := (3, yX3_name, cX3_name, 3, none)
theorem sel_X3_name : Cond.instanceMethod mX3_name.2.1 ∈ tblG ∧ Cond.selects mX3_name.2.1.cls mX3_name.2.1 mX3_name.2.1 ∈ tblG := ⟨tblG_in (inT4 (List.mem_of_getElem? (i := 73) rfl)) rfl, tblG_in (inT4 (List.mem_of_getElem? (i := 74) rfl)) rfl⟩
theorem s_5_129 : e_siteV 5 129 mX3_name 3 := ⟨tblG_in (inT4 (List.mem_of_getElem? (i := 72) rfl)) rfl, sel_X3_name.1, sel_X3_name.2, rfl⟩
theorem d_X3_name_0 : decode mX3_name.2.2.1 0 = .ok (.aload_n 0, 1) := by decide +kernel
theorem d_X3_name_1 : decode mX3_name.2.2.1 1 = .ok (.getfield 11, 3) := by decide +kernel
theorem d_X3_name_4 : decode mX3_name.2.2.1 4 = .ok (.iload_n 1, 1) := by decide +kernel
theorem d_X3_name_5 : decode mX3_name.2.2.1 5 = .ok (.iaload, 1) := by decide +kernel
theorem d_X3_name_6 : decode mX3_name.2.2.1 6 = .ok (.getstatic 62, 3) := by decide +kernel
theorem d_X3_name_9 : decode mX3_name.2.2.1 9 = .ok (.iload_n 1, 1) := by decide +kernel
theorem d_X3_name_10 : decode mX3_name.2.2.1 10 = .ok (.iaload, 1) := by decide +kernel
theorem d_X3_name_11 : decode mX3_name.2.2.1 11 = .ok (.if_icmp .ge 31, 3) := by decide +kernel
theorem d_X3_name_42 : decode mX3_name.2.2.1 42 = .ok (.return_, 1) := by decide +kernel
theorem d_X3_name_14 : decode mX3_name.2.2.1 14 = .ok (.aload_n 0, 1) := by decide +kernel
theorem d_X3_name_15 : decode mX3_name.2.2.1 15 = .ok (.getfield 30, 3) := by decide +kernel
theorem d_X3_name_18 : decode mX3_name.2.2.1 18 = .ok (.getstatic 65, 3) := by decide +kernel
theorem d_X3_name_21 : decode mX3_name.2.2.1 21 = .ok (.iload_n 1, 1) := by decide +kernel
theorem d_X3_name_22 : decode mX3_name.2.2.1 22 = .ok (.iaload, 1) := by decide +kernel
theorem d_X3_name_23 : decode mX3_name.2.2.1 23 = .ok (.aload_n 0, 1) := by decide +kernel
theorem d_X3_name_24 : decode mX3_name.2.2.1 24 = .ok (.getfield 11, 3) := by decide +kernel
theorem d_X3_name_27 : decode mX3_name.2.2.1 27 = .ok (.iload_n 1, 1) := by decide +kernel
theorem d_X3_name_28 : decode mX3_name.2.2.1 28 = .ok (.iaload, 1) := by decide +kernel
theorem d_X3_name_29 : decode mX3_name.2.2.1 29 = .ok (.iadd, 1) := by decide +kernel
theorem d_X3_name_30 : decode mX3_name.2.2.1 30 = .ok (.iload_n 2, 1) := by decide +kernel
theorem d_X3_name_31 : decode mX3_name.2.2.1 31 = .ok (.iastore, 1) := by decide +kernel
theorem d_X3_name_32 : decode mX3_name.2.2.1 32 = .ok (.aload_n 0, 1) := by decide +kernel
theorem d_X3_name_33 : decode mX3_name.2.2.1 33 = .ok (.getfield 11, 3) := by decide +kernel
theorem d_X3_name_36 : decode mX3_name.2.2.1 36 = .ok (.iload_n 1, 1) := by decide +kernel
theorem d_X3_name_37 : decode mX3_name.2.2.1 37 = .ok (.dup2, 1) := by decide +kernel
theorem d_X3_name_38 : decode mX3_name.2.2.1 38 = .ok (.iaload, 1) := by decide +kernel
theorem d_X3_name_39 : decode mX3_name.2.2.1 39 = .ok (.iconst 1, 1) := by decide +kernel
theorem d_X3_name_40 : decode mX3_name.2.2.1 40 = .ok (.iadd, 1) := by decide +kernel
theorem d_X3_name_41 : decode mX3_name.2.2.1 41 = .ok (.iastore, 1) := by decide +kernel
theorem ok_X3_name : e_m mX3_name 2 := ⟨tblG_in (inT4 (List.mem_of_getElem? (i := 75) rfl)) rfl, plainFor_of_name (by decide), rfl, ini_3, by decide +kernel, by decide⟩
theorem d_X5_beginNamed_92 : decode mX5_beginNamed.2.2.1 92 = .ok (.aload_n 0, 1) := by decide +kernel
end
/-! 33.03 -/
section
theorem d_X5_beginNamed_93 : decode mX5_beginNamed.2.2.1 93 = .ok (.invokevirtual 74, 3) := by decide +kernel
theorem d_X5_beginNamed_96 : decode mX5_beginNamed.2.2.1 96 = .ok (.ireturn, 1) := by decide +kernel
theorem d_X5_beginNamed_66 : decode mX5_beginNamed.2.2.1 66 = .ok (.aload_n 0, 1) := by decide +kernel
theorem d_X5_beginNamed_67 : decode mX5_beginNamed.2.2.1 67 = .ok (.iconst 2, 1) := by decide +kernel
theorem d_X5_beginNamed_68 : decode mX5_beginNamed.2.2.1 68 = .ok (.invokevirtual 56, 3) := by decide +kernel
theorem d_X5_beginNamed_71 : decode mX5_beginNamed.2.2.1 71 = .ok (.ireturn, 1) := by decide +kernel
theorem d_X5_beginNamed_38 : decode mX5_beginNamed.2.2.1 38 = .ok (.aload_n 0, 1) := by decide +kernel
theorem d_X5_beginNamed_39 : decode mX5_beginNamed.2.2.1 39 = .ok (.iconst 1, 1) := by decide +kernel
theorem d_X5_beginNamed_40 : decode mX5_beginNamed.2.2.1 40 = .ok (.invokevirtual 56, 3) := by decide +kernel
theorem d_X5_beginNamed_43 : decode mX5_beginNamed.2.2.1 43 = .ok (.ireturn, 1) := by decide +kernel
theorem d_X5_beginNamed_11 : decode mX5_beginNamed.2.2.1 11 = .ok (.aload_n 0, 1) := by decide +kernel
theorem d_X5_beginNamed_12 : decode mX5_beginNamed.2.2.1 12 = .ok (.iconst 5, 1) := by decide +kernel
theorem d_X5_beginNamed_13 : decode mX5_beginNamed.2.2.1 13 = .ok (.invokevirtual 56, 3) := by decide +kernel
theorem d_X5_beginNamed_16 : decode mX5_beginNamed.2.2.1 16 = .ok (.ireturn, 1) := by decide +kernel
theorem ok_X5_beginNamed : e_m mX5_beginNamed 1 := ⟨tblG_in (inT4 (List.mem_of_getElem? (i := 61) rfl)) rfl, plainFor_of_name (by decide), rfl, ini_5, by decide +kernel, by decide⟩
theorem d_X5_declaration_57 : decode mX5_declaration.2.2.1 57 = .ok (.ifCond .eq 16, 3) := by decide +kernel
theorem d_X5_declaration_73 : decode mX5_declaration.2.2.1 73 = .ok (.iconst 0, 1) := by decide +kernel
theorem d_X5_declaration_74 : decode mX5_declaration.2.2.1 74 = .ok (.ireturn, 1) := by decide +kernel
theorem d_X5_declaration_60 : decode mX5_declaration.2.2.1 60 = .ok (.aload_n 0, 1) := by decide +kernel
theorem d_X5_declaration_61 : decode mX5_declaration.2.2.1 61 = .ok (.bipush 59, 2) := by decide +kernel
theorem d_X5_declaration_63 : decode mX5_declaration.2.2.1 63 = .ok (.invokevirtual 81, 3) := by decide +kernel
theorem d_X5_declaration_66 : decode mX5_declaration.2.2.1 66 = .ok (.ifCond .eq 7, 3) := by decide +kernel
theorem d_X5_declaration_69 : decode mX5_declaration.2.2.1 69 = .ok (.iconst 1, 1) := by decide +kernel
theorem d_X5_declaration_70 : decode mX5_declaration.2.2.1 70 = .ok (.goto 4, 3) := by decide +kernel
theorem d_X5_declaration_47 : decode mX5_declaration.2.2.1 47 = .ok (.aload_n 0, 1) := by decide +kernel
theorem d_X5_declaration_48 : decode mX5_declaration.2.2.1 48 = .ok (.invokevirtual 109, 3) := by decide +kernel
def mX5_input : MD := (5, yX5_input, cX5_input, 4, some .boolean)
theorem sel_X5_input : Cond.instanceMethod mX5_input.2.1 ∈ tblG ∧ Cond.selects mX5_input.2.1.cls mX5_input.2.1 mX5_input.2.1 ∈ tblG := ⟨tblG_in (inT4 (List.mem_of_getElem? (i := 92) rfl)) rfl, tblG_in (inP2 (q := (mX5_input.2.1, 7)) (List.mem_of_getElem? (i := 6) rfl)) rfl⟩
theorem s_5_109 : e_siteV 5 109 mX5_input 5 := ⟨tblG_in (inT4 (List.mem_of_getElem? (i := 90) rfl)) rfl, sel_X5_input.1, sel_X5_input.2, rfl⟩
theorem d_X5_input_0 : decode mX5_input.2.2.1 0 = .ok (.aload_n 0, 1) := by decide +kernel
theorem d_X5_input_1 : decode mX5_input.2.2.1 1 = .ok (.getfield 22, 3) := by decide +kernel
theorem d_X5_input_4 : decode mX5_input.2.2.1 4 = .ok (.getfield 133, 3) := by decide +kernel
theorem f_5_133 : e_fld 5 133 3 4 12 2 true := ⟨RX3, TX3, 4, rfl, rfl, by decide, rfl, rfl, rfl, iX3, tblG_in (inT1 (List.mem_of_getElem? (i := 177) rfl)) rfl, tyX3_ok, nmX3⟩
theorem d_X5_input_7 : decode mX5_input.2.2.1 7 = .ok (.iconst 1, 1) := by decide +kernel
theorem d_X5_input_8 : decode mX5_input.2.2.1 8 = .ok (.iaload, 1) := by decide +kernel
theorem d_X5_input_9 : decode mX5_input.2.2.1 9 = .ok (.istore_n 1, 1) := by decide +kernel
theorem d_X5_input_10 : decode mX5_input.2.2.1 10 = .ok (.aload_n 0, 1) := by decide +kernel
theorem d_X5_input_11 : decode mX5_input.2.2.1 11 = .ok (.iconst 1, 1) := by decide +kernel
theorem d_X5_input_12 : decode mX5_input.2.2.1 12 = .ok (.invokevirtual 112, 3) := by decide +kernel
theorem d_X5_input_15 : decode mX5_input.2.2.1 15 = .ok (.ifCond .eq 8, 3) := by decide +kernel
theorem d_X5_input_23 : decode mX5_input.2.2.1 23 = .ok (.iconst 0, 1) := by decide +kernel
theorem d_X5_input_24 : decode mX5_input.2.2.1 24 = .ok (.ireturn, 1) := by decide +kernel
theorem d_X5_input_18 : decode mX5_input.2.2.1 18 = .ok (.iload_n 1, 1) := by decide +kernel
theorem d_X5_input_19 : decode mX5_input.2.2.1 19 = .ok (.iconst 3, 1) := by decide +kernel
theorem d_X5_input_20 : decode mX5_input.2.2.1 20 = .ok (.if_icmp .lt 5, 3) := by decide +kernel
theorem d_X5_input_25 : decode mX5_input.2.2.1 25 = .ok (.aload_n 0, 1) := by decide +kernel
theorem d_X5_input_26 : decode mX5_input.2.2.1 26 = .ok (.iconst 0, 1) := by decide +kernel
theorem d_X5_input_27 : decode mX5_input.2.2.1 27 = .ok (.bipush 99, 2) := by decide +kernel
theorem d_X5_input_29 : decode mX5_input.2.2.1 29 = .ok (.invokevirtual 87, 3) := by decide +kernel
theorem d_X5_input_32 : decode mX5_input.2.2.1 32 = .ok (.istore_n 2, 1) := by decide +kernel
theorem d_X5_input_33 : decode mX5_input.2.2.1 33 = .ok (.iload_n 2, 1) := by decide +kernel
theorem d_X5_input_34 : decode mX5_input.2.2.1 34 = .ok (.ifCond .ge 7, 3) := by decide +kernel
theorem d_X5_input_41 : decode mX5_input.2.2.1 41 = .ok (.aload_n 0, 1) := by decide +kernel
theorem d_X5_input_42 : decode mX5_input.2.2.1 42 = .ok (.iload_n 2, 1) := by decide +kernel
theorem d_X5_input_43 : decode mX5_input.2.2.1 43 = .ok (.bipush 99, 2) := by decide +kernel
theorem d_X5_input_45 : decode mX5_input.2.2.1 45 = .ok (.invokevirtual 87, 3) := by decide +kernel
theorem d_X5_input_37 : decode mX5_input.2.2.1 37 = .ok (.iconst (-1), 1) := by decide +kernel
theorem d_X5_input_38 : decode mX5_input.2.2.1 38 = .ok (.goto 10, 3) := by decide +kernel
theorem d_X5_input_48 : decode mX5_input.2.2.1 48 = .ok (.istore_n 3, 1) := by decide +kernel
theorem d_X5_input_49 : decode mX5_input.2.2.1 49 = .ok (.iload_n 3, 1) := by decide +kernel
theorem d_X5_input_50 : decode mX5_input.2.2.1 50 = .ok (.ifCond .lt 12, 3) := by decide +kernel
theorem d_X5_input_62 : decode mX5_input.2.2.1 62 = .ok (.iconst 0, 1) := by decide +kernel
theorem d_X5_input_63 : decode mX5_input.2.2.1 63 = .ok (.ireturn, 1) := by decide +kernel
theorem d_X5_input_53 : decode mX5_input.2.2.1 53 = .ok (.aload_n 0, 1) := by decide +kernel
theorem d_X5_input_54 : decode mX5_input.2.2.1 54 = .ok (.bipush 59, 2) := by decide +kernel
theorem d_X5_input_56 : decode mX5_input.2.2.1 56 = .ok (.invokevirtual 81, 3) := by decide +kernel
theorem d_X5_input_59 : decode mX5_input.2.2.1 59 = .ok (.ifCond .ne 5, 3) := by decide +kernel
theorem d_X5_input_64 : decode mX5_input.2.2.1 64 = .ok (.aload_n 0, 1) := by decide +kernel
theorem d_X5_input_65 : decode mX5_input.2.2.1 65 = .ok (.getfield 22, 3) := by decide +kernel
theorem d_X5_input_68 : decode mX5_input.2.2.1 68 = .ok (.getfield 148, 3) := by decide +kernel
theorem f_5_148 : e_fld 5 148 3 8 12 2 true := ⟨RX3, TX3, 8, rfl, rfl, by decide, rfl, rfl, rfl, iX3, tblG_in (inT1 (List.mem_of_getElem? (i := 197) rfl)) rfl, tyX3_ok, nmX3⟩
theorem d_X5_input_71 : decode mX5_input.2.2.1 71 = .ok (.iload_n 1, 1) := by decide +kernel
theorem d_X5_input_72 : decode mX5_input.2.2.1 72 = .ok (.iload_n 2, 1) := by decide +kernel
theorem d_X5_input_73 : decode mX5_input.2.2.1 73 = .ok (.iastore, 1) := by decide +kernel
theorem d_X5_input_74 : decode mX5_input.2.2.1 74 = .ok (.aload_n 0, 1) := by decide +kernel
theorem d_X5_input_75 : decode mX5_input.2.2.1 75 = .ok (.getfield 22, 3) := by decide +kernel
theorem d_X5_input_78 : decode mX5_input.2.2.1 78 = .ok (.getfield 151, 3) := by decide +kernel
theorem f_5_151 : e_fld 5 151 3 9 12 2 true := ⟨RX3, TX3, 9, rfl, rfl, by decide, rfl, rfl, rfl, iX3, tblG_in (inT1 (List.mem_of_getElem? (i := 201) rfl)) rfl, tyX3_ok, nmX3⟩
theorem d_X5_input_81 : decode mX5_input.2.2.1 81 = .ok (.iload_n 1, 1) := by decide +kernel
theorem d_X5_input_82 : decode mX5_input.2.2.1 82 = .ok (.iload_n 3, 1) := by decide +kernel
theorem d_X5_input_83 : decode mX5_input.2.2.1 83 = .ok (.iastore, 1) := by decide +kernel
theorem d_X5_input_84 : decode mX5_input.2.2.1 84 = .ok (.iconst 1, 1) := by decide +kernel
theorem d_X5_input_85 : decode mX5_input.2.2.1 85 = .ok (.ireturn, 1) := by decide +kernel
theorem ok_X5_input : e_m mX5_input 0 := ⟨tblG_in (inT4 (List.mem_of_getElem? (i := 93) rfl)) rfl, plainFor_of_name (by decide), rfl, ini_5, by decide +kernel, by decide⟩
theorem d_X5_declaration_51 : decode mX5_declaration.2.2.1 51 = .ok (.ireturn, 1) := by decide +kernel
theorem d_X5_declaration_42 : decode mX5_declaration.2.2.1 42 = .ok (.aload_n 0, 1) := by decide +kernel
theorem d_X5_declaration_43 : decode mX5_declaration.2.2.1 43 = .ok (.invokevirtual 106, 3) := by decide +kernel
def mX5_part : MD := (5, yX5_part, cX5_part, 8, some .boolean)
theorem sel_X5_part : Cond.instanceMethod mX5_part.2.1 ∈ tblG ∧ Cond.selects mX5_part.2.1.cls mX5_part.2.1 mX5_part.2.1 ∈ tblG := ⟨tblG_in (inT4 (List.mem_of_getElem? (i := 56) rfl)) rfl, tblG_in (inP2 (q := (mX5_part.2.1, 7)) (List.mem_of_getElem? (i := 1) rfl)) rfl⟩
theorem s_5_106 : e_siteV 5 106 mX5_part 5 := ⟨tblG_in (inT4 (List.mem_of_getElem? (i := 54) rfl)) rfl, sel_X5_part.1, sel_X5_part.2, rfl⟩
theorem d_X5_part_0 : decode mX5_part.2.2.1 0 = .ok (.aload_n 0, 1) := by decide +kernel
theorem d_X5_part_1 : decode mX5_part.2.2.1 1 = .ok (.getfield 22, 3) := by decide +kernel
theorem d_X5_part_4 : decode mX5_part.2.2.1 4 = .ok (.getfield 133, 3) := by decide +kernel
theorem d_X5_part_7 : decode mX5_part.2.2.1 7 = .ok (.iconst 0, 1) := by decide +kernel
theorem d_X5_part_8 : decode mX5_part.2.2.1 8 = .ok (.iaload, 1) := by decide +kernel
theorem d_X5_part_9 : decode mX5_part.2.2.1 9 = .ok (.istore_n 1, 1) := by decide +kernel
theorem d_X5_part_10 : decode mX5_part.2.2.1 10 = .ok (.aload_n 0, 1) := by decide +kernel
theorem d_X5_part_11 : decode mX5_part.2.2.1 11 = .ok (.iconst 0, 1) := by decide +kernel
theorem d_X5_part_12 : decode mX5_part.2.2.1 12 = .ok (.invokevirtual 112, 3) := by decide +kernel
theorem d_X5_part_15 : decode mX5_part.2.2.1 15 = .ok (.ifCond .eq 9, 3) := by decide +kernel
theorem d_X5_part_24 : decode mX5_part.2.2.1 24 = .ok (.iconst 0, 1) := by decide +kernel
theorem d_X5_part_25 : decode mX5_part.2.2.1 25 = .ok (.ireturn, 1) := by decide +kernel
theorem d_X5_part_18 : decode mX5_part.2.2.1 18 = .ok (.iload_n 1, 1) := by decide +kernel
theorem d_X5_part_19 : decode mX5_part.2.2.1 19 = .ok (.bipush 6, 2) := by decide +kernel
theorem d_X5_part_21 : decode mX5_part.2.2.1 21 = .ok (.if_icmp .lt 5, 3) := by decide +kernel
theorem d_X5_part_26 : decode mX5_part.2.2.1 26 = .ok (.aload_n 0, 1) := by decide +kernel
theorem d_X5_part_27 : decode mX5_part.2.2.1 27 = .ok (.bipush 14, 2) := by decide +kernel
theorem d_X5_part_29 : decode mX5_part.2.2.1 29 = .ok (.sipush 999, 3) := by decide +kernel
theorem d_X5_part_32 : decode mX5_part.2.2.1 32 = .ok (.invokevirtual 136, 3) := by decide +kernel
theorem sel_X5_takeTold : Cond.instanceMethod mX5_takeTold.2.1 ∈ tblG ∧ Cond.selects mX5_takeTold.2.1.cls mX5_takeTold.2.1 mX5_takeTold.2.1 ∈ tblG := ⟨tblG_in (inT4 (List.mem_of_getElem? (i := 80) rfl)) rfl, tblG_in (inP2 (q := (mX5_takeTold.2.1, 7)) (List.mem_of_getElem? (i := 3) rfl)) rfl⟩
theorem s_5_136 : e_siteV 5 136 mX5_takeTold 5 := ⟨tblG_in (inT4 (List.mem_of_getElem? (i := 78) rfl)) rfl, sel_X5_takeTold.1, sel_X5_takeTold.2, rfl⟩
theorem ok_X5_takeTold : e_m mX5_takeTold 2 := ⟨tblG_in (inT4 (List.mem_of_getElem? (i := 81) rfl)) rfl, plainFor_of_name (by decide), rfl, ini_5, by decide +kernel, by decide⟩
theorem d_X5_part_35 : decode mX5_part.2.2.1 35 = .ok (.istore_n 2, 1) := by decide +kernel
theorem d_X5_part_36 : decode mX5_part.2.2.1 36 = .ok (.iload_n 2, 1) := by decide +kernel
theorem d_X5_part_37 : decode mX5_part.2.2.1 37 = .ok (.ifCond .ge 7, 3) := by decide +kernel
theorem d_X5_part_44 : decode mX5_part.2.2.1 44 = .ok (.aload_n 0, 1) := by decide +kernel
theorem d_X5_part_45 : decode mX5_part.2.2.1 45 = .ok (.bipush 15, 2) := by decide +kernel
theorem d_X5_part_47 : decode mX5_part.2.2.1 47 = .ok (.bipush 20, 2) := by decide +kernel
theorem d_X5_part_49 : decode mX5_part.2.2.1 49 = .ok (.invokevirtual 136, 3) := by decide +kernel
theorem d_X5_part_40 : decode mX5_part.2.2.1 40 = .ok (.iconst (-1), 1) := by decide +kernel
theorem d_X5_part_41 : decode mX5_part.2.2.1 41 = .ok (.goto 11, 3) := by decide +kernel
theorem d_X5_part_52 : decode mX5_part.2.2.1 52 = .ok (.istore_n 3, 1) := by decide +kernel
theorem d_X5_part_53 : decode mX5_part.2.2.1 53 = .ok (.iload_n 3, 1) := by decide +kernel
theorem d_X5_part_54 : decode mX5_part.2.2.1 54 = .ok (.ifCond .ge 7, 3) := by decide +kernel
theorem d_X5_part_61 : decode mX5_part.2.2.1 61 = .ok (.aload_n 0, 1) := by decide +kernel
theorem d_X5_part_62 : decode mX5_part.2.2.1 62 = .ok (.iconst 0, 1) := by decide +kernel
theorem d_X5_part_63 : decode mX5_part.2.2.1 63 = .ok (.sipush 999, 3) := by decide +kernel
theorem d_X5_part_66 : decode mX5_part.2.2.1 66 = .ok (.invokevirtual 87, 3) := by decide +kernel
theorem d_X5_part_57 : decode mX5_part.2.2.1 57 = .ok (.iconst (-1), 1) := by decide +kernel
theorem d_X5_part_58 : decode mX5_part.2.2.1 58 = .ok (.goto 11, 3) := by decide +kernel
theorem d_X5_part_69 : decode mX5_part.2.2.1 69 = .ok (.istore 4, 2) := by decide +kernel
theorem d_X5_part_71 : decode mX5_part.2.2.1 71 = .ok (.iload 4, 2) := by decide +kernel
theorem d_X5_part_73 : decode mX5_part.2.2.1 73 = .ok (.ifCond .ge 7, 3) := by decide +kernel
theorem d_X5_part_80 : decode mX5_part.2.2.1 80 = .ok (.aload_n 0, 1) := by decide +kernel
theorem d_X5_part_81 : decode mX5_part.2.2.1 81 = .ok (.bipush 16, 2) := by decide +kernel
theorem d_X5_part_83 : decode mX5_part.2.2.1 83 = .ok (.sipush 999, 3) := by decide +kernel
theorem d_X5_part_86 : decode mX5_part.2.2.1 86 = .ok (.invokevirtual 136, 3) := by decide +kernel
theorem d_X5_part_76 : decode mX5_part.2.2.1 76 = .ok (.iconst (-1), 1) := by decide +kernel
theorem d_X5_part_77 : decode mX5_part.2.2.1 77 = .ok (.goto 12, 3) := by decide +kernel
theorem d_X5_part_89 : decode mX5_part.2.2.1 89 = .ok (.istore 5, 2) := by decide +kernel
theorem d_X5_part_91 : decode mX5_part.2.2.1 91 = .ok (.iload 5, 2) := by decide +kernel
theorem d_X5_part_93 : decode mX5_part.2.2.1 93 = .ok (.ifCond .ge 7, 3) := by decide +kernel
theorem d_X5_part_100 : decode mX5_part.2.2.1 100 = .ok (.aload_n 0, 1) := by decide +kernel
theorem d_X5_part_101 : decode mX5_part.2.2.1 101 = .ok (.bipush 17, 2) := by decide +kernel
theorem d_X5_part_103 : decode mX5_part.2.2.1 103 = .ok (.sipush 999, 3) := by decide +kernel
theorem d_X5_part_106 : decode mX5_part.2.2.1 106 = .ok (.invokevirtual 136, 3) := by decide +kernel
theorem d_X5_part_96 : decode mX5_part.2.2.1 96 = .ok (.iconst (-1), 1) := by decide +kernel
theorem d_X5_part_97 : decode mX5_part.2.2.1 97 = .ok (.goto 12, 3) := by decide +kernel
theorem d_X5_part_109 : decode mX5_part.2.2.1 109 = .ok (.istore 6, 2) := by decide +kernel
theorem d_X5_part_111 : decode mX5_part.2.2.1 111 = .ok (.iload 6, 2) := by decide +kernel
theorem d_X5_part_113 : decode mX5_part.2.2.1 113 = .ok (.ifCond .ge 7, 3) := by decide +kernel
theorem d_X5_part_120 : decode mX5_part.2.2.1 120 = .ok (.aload_n 0, 1) := by decide +kernel
theorem d_X5_part_121 : decode mX5_part.2.2.1 121 = .ok (.bipush 18, 2) := by decide +kernel
theorem d_X5_part_123 : decode mX5_part.2.2.1 123 = .ok (.bipush 50, 2) := by decide +kernel
theorem d_X5_part_125 : decode mX5_part.2.2.1 125 = .ok (.invokevirtual 136, 3) := by decide +kernel
theorem d_X5_part_116 : decode mX5_part.2.2.1 116 = .ok (.iconst (-1), 1) := by decide +kernel
theorem d_X5_part_117 : decode mX5_part.2.2.1 117 = .ok (.goto 11, 3) := by decide +kernel
theorem d_X5_part_128 : decode mX5_part.2.2.1 128 = .ok (.istore 7, 2) := by decide +kernel
theorem d_X5_part_130 : decode mX5_part.2.2.1 130 = .ok (.iload 7, 2) := by decide +kernel
theorem d_X5_part_132 : decode mX5_part.2.2.1 132 = .ok (.ifCond .lt 12, 3) := by decide +kernel
theorem d_X5_part_144 : decode mX5_part.2.2.1 144 = .ok (.iconst 0, 1) := by decide +kernel
theorem d_X5_part_145 : decode mX5_part.2.2.1 145 = .ok (.ireturn, 1) := by decide +kernel
theorem d_X5_part_135 : decode mX5_part.2.2.1 135 = .ok (.aload_n 0, 1) := by decide +kernel
theorem d_X5_part_136 : decode mX5_part.2.2.1 136 = .ok (.bipush 59, 2) := by decide +kernel
theorem d_X5_part_138 : decode mX5_part.2.2.1 138 = .ok (.invokevirtual 81, 3) := by decide +kernel
theorem d_X5_part_141 : decode mX5_part.2.2.1 141 = .ok (.ifCond .ne 5, 3) := by decide +kernel
theorem d_X5_part_146 : decode mX5_part.2.2.1 146 = .ok (.aload_n 0, 1) := by decide +kernel
theorem d_X5_part_147 : decode mX5_part.2.2.1 147 = .ok (.getfield 22, 3) := by decide +kernel
theorem d_X5_part_150 : decode mX5_part.2.2.1 150 = .ok (.getfield 139, 3) := by decide +kernel
theorem f_5_139 : e_fld 5 139 3 5 12 2 true := ⟨RX3, TX3, 5, rfl, rfl, by decide, rfl, rfl, rfl, iX3, tblG_in (inT1 (List.mem_of_getElem? (i := 183) rfl)) rfl, tyX3_ok, nmX3⟩
theorem d_X5_part_153 : decode mX5_part.2.2.1 153 = .ok (.iload_n 1, 1) := by decide +kernel
theorem d_X5_part_154 : decode mX5_part.2.2.1 154 = .ok (.iconst 4, 1) := by decide +kernel
theorem d_X5_part_155 : decode mX5_part.2.2.1 155 = .ok (.imul, 1) := by decide +kernel
theorem d_X5_part_156 : decode mX5_part.2.2.1 156 = .ok (.iconst 0, 1) := by decide +kernel
theorem d_X5_part_157 : decode mX5_part.2.2.1 157 = .ok (.iadd, 1) := by decide +kernel
theorem d_X5_part_158 : decode mX5_part.2.2.1 158 = .ok (.iload_n 2, 1) := by decide +kernel
theorem d_X5_part_159 : decode mX5_part.2.2.1 159 = .ok (.iastore, 1) := by decide +kernel
theorem d_X5_part_160 : decode mX5_part.2.2.1 160 = .ok (.aload_n 0, 1) := by decide +kernel
theorem d_X5_part_161 : decode mX5_part.2.2.1 161 = .ok (.getfield 22, 3) := by decide +kernel
theorem d_X5_part_164 : decode mX5_part.2.2.1 164 = .ok (.getfield 139, 3) := by decide +kernel
theorem d_X5_part_167 : decode mX5_part.2.2.1 167 = .ok (.iload_n 1, 1) := by decide +kernel
theorem d_X5_part_168 : decode mX5_part.2.2.1 168 = .ok (.iconst 4, 1) := by decide +kernel
theorem d_X5_part_169 : decode mX5_part.2.2.1 169 = .ok (.imul, 1) := by decide +kernel
theorem d_X5_part_170 : decode mX5_part.2.2.1 170 = .ok (.iconst 1, 1) := by decide +kernel
theorem d_X5_part_171 : decode mX5_part.2.2.1 171 = .ok (.iadd, 1) := by decide +kernel
theorem d_X5_part_172 : decode mX5_part.2.2.1 172 = .ok (.iload 4, 2) := by decide +kernel
theorem d_X5_part_174 : decode mX5_part.2.2.1 174 = .ok (.iastore, 1) := by decide +kernel
theorem d_X5_part_175 : decode mX5_part.2.2.1 175 = .ok (.aload_n 0, 1) := by decide +kernel
theorem d_X5_part_176 : decode mX5_part.2.2.1 176 = .ok (.getfield 22, 3) := by decide +kernel
theorem d_X5_part_179 : decode mX5_part.2.2.1 179 = .ok (.getfield 139, 3) := by decide +kernel
theorem d_X5_part_182 : decode mX5_part.2.2.1 182 = .ok (.iload_n 1, 1) := by decide +kernel
theorem d_X5_part_183 : decode mX5_part.2.2.1 183 = .ok (.iconst 4, 1) := by decide +kernel
theorem d_X5_part_184 : decode mX5_part.2.2.1 184 = .ok (.imul, 1) := by decide +kernel
theorem d_X5_part_185 : decode mX5_part.2.2.1 185 = .ok (.iconst 2, 1) := by decide +kernel
theorem d_X5_part_186 : decode mX5_part.2.2.1 186 = .ok (.iadd, 1) := by decide +kernel
theorem d_X5_part_187 : decode mX5_part.2.2.1 187 = .ok (.iload 5, 2) := by decide +kernel
theorem d_X5_part_189 : decode mX5_part.2.2.1 189 = .ok (.iastore, 1) := by decide +kernel
theorem d_X5_part_190 : decode mX5_part.2.2.1 190 = .ok (.aload_n 0, 1) := by decide +kernel
theorem d_X5_part_191 : decode mX5_part.2.2.1 191 = .ok (.getfield 22, 3) := by decide +kernel
theorem d_X5_part_194 : decode mX5_part.2.2.1 194 = .ok (.getfield 139, 3) := by decide +kernel
theorem d_X5_part_197 : decode mX5_part.2.2.1 197 = .ok (.iload_n 1, 1) := by decide +kernel
theorem d_X5_part_198 : decode mX5_part.2.2.1 198 = .ok (.iconst 4, 1) := by decide +kernel
theorem d_X5_part_199 : decode mX5_part.2.2.1 199 = .ok (.imul, 1) := by decide +kernel
theorem d_X5_part_200 : decode mX5_part.2.2.1 200 = .ok (.iconst 3, 1) := by decide +kernel
theorem d_X5_part_201 : decode mX5_part.2.2.1 201 = .ok (.iadd, 1) := by decide +kernel
theorem d_X5_part_202 : decode mX5_part.2.2.1 202 = .ok (.iload 6, 2) := by decide +kernel
theorem d_X5_part_204 : decode mX5_part.2.2.1 204 = .ok (.iastore, 1) := by decide +kernel
theorem d_X5_part_205 : decode mX5_part.2.2.1 205 = .ok (.aload_n 0, 1) := by decide +kernel
theorem d_X5_part_206 : decode mX5_part.2.2.1 206 = .ok (.getfield 22, 3) := by decide +kernel
theorem d_X5_part_209 : decode mX5_part.2.2.1 209 = .ok (.getfield 142, 3) := by decide +kernel
theorem f_5_142 : e_fld 5 142 3 6 12 2 true := ⟨RX3, TX3, 6, rfl, rfl, by decide, rfl, rfl, rfl, iX3, tblG_in (inT1 (List.mem_of_getElem? (i := 187) rfl)) rfl, tyX3_ok, nmX3⟩
theorem d_X5_part_212 : decode mX5_part.2.2.1 212 = .ok (.iload_n 1, 1) := by decide +kernel
theorem d_X5_part_213 : decode mX5_part.2.2.1 213 = .ok (.iload_n 3, 1) := by decide +kernel
theorem d_X5_part_214 : decode mX5_part.2.2.1 214 = .ok (.iastore, 1) := by decide +kernel
theorem d_X5_part_215 : decode mX5_part.2.2.1 215 = .ok (.aload_n 0, 1) := by decide +kernel
theorem d_X5_part_216 : decode mX5_part.2.2.1 216 = .ok (.getfield 22, 3) := by decide +kernel
theorem d_X5_part_219 : decode mX5_part.2.2.1 219 = .ok (.getfield 145, 3) := by decide +kernel
theorem f_5_145 : e_fld 5 145 3 7 12 2 true := ⟨RX3, TX3, 7, rfl, rfl, by decide, rfl, rfl, rfl, iX3, tblG_in (inT1 (List.mem_of_getElem? (i := 192) rfl)) rfl, tyX3_ok, nmX3⟩
theorem d_X5_part_222 : decode mX5_part.2.2.1 222 = .ok (.iload_n 1, 1) := by decide +kernel
theorem d_X5_part_223 : decode mX5_part.2.2.1 223 = .ok (.iload 7, 2) := by decide +kernel
theorem d_X5_part_225 : decode mX5_part.2.2.1 225 = .ok (.iastore, 1) := by decide +kernel
theorem d_X5_part_226 : decode mX5_part.2.2.1 226 = .ok (.iconst 1, 1) := by decide +kernel
theorem d_X5_part_227 : decode mX5_part.2.2.1 227 = .ok (.ireturn, 1) := by decide +kernel
theorem ok_X5_part : e_m mX5_part 0 := ⟨tblG_in (inT4 (List.mem_of_getElem? (i := 57) rfl)) rfl, plainFor_of_name (by decide), rfl, ini_5, by decide +kernel, by decide⟩
theorem d_X5_declaration_46 : decode mX5_declaration.2.2.1 46 = .ok (.ireturn, 1) := by decide +kernel
theorem d_X5_declaration_37 : decode mX5_declaration.2.2.1 37 = .ok (.aload_n 0, 1) := by decide +kernel
theorem d_X5_declaration_38 : decode mX5_declaration.2.2.1 38 = .ok (.invokevirtual 103, 3) := by decide +kernel
theorem sel_X5_cache : Cond.instanceMethod mX5_cache.2.1 ∈ tblG ∧ Cond.selects mX5_cache.2.1.cls mX5_cache.2.1 mX5_cache.2.1 ∈ tblG := ⟨tblG_in (inT4 (List.mem_of_getElem? (i := 52) rfl)) rfl, tblG_in (inP2 (q := (mX5_cache.2.1, 7)) (List.mem_of_getElem? (i := 0) rfl)) rfl⟩
theorem s_5_103 : e_siteV 5 103 mX5_cache 5 := ⟨tblG_in (inT4 (List.mem_of_getElem? (i := 50) rfl)) rfl, sel_X5_cache.1, sel_X5_cache.2, rfl⟩
theorem ok_X5_cache : e_m mX5_cache 0 := ⟨tblG_in (inT4 (List.mem_of_getElem? (i := 53) rfl)) rfl, plainFor_of_name (by decide), rfl, ini_5, by decide +kernel, by decide⟩
end
/-! 33.04 -/
section
theorem d_X5_declaration_41 : decode mX5_declaration.2.2.1 41 = .ok (.ireturn, 1) := by decide +kernel
theorem d_X5_declaration_32 : decode mX5_declaration.2.2.1 32 = .ok (.aload_n 0, 1) := by decide +kernel
theorem d_X5_declaration_33 : decode mX5_declaration.2.2.1 33 = .ok (.invokevirtual 100, 3) := by decide +kernel
theorem sel_X5_heart : Cond.instanceMethod mX5_heart.2.1 ∈ tblG ∧ Cond.selects mX5_heart.2.1.cls mX5_heart.2.1 mX5_heart.2.1 ∈ tblG := ⟨tblG_in (inT4 (List.mem_of_getElem? (i := 28) rfl)) rfl, tblG_in (inP1 (q := (mX5_heart.2.1, 7)) (List.mem_of_getElem? (i := 10) rfl)) rfl⟩
theorem s_5_100 : e_siteV 5 100 mX5_heart 5 := ⟨tblG_in (inT4 (List.mem_of_getElem? (i := 26) rfl)) rfl, sel_X5_heart.1, sel_X5_heart.2, rfl⟩
theorem ok_X5_heart : e_m mX5_heart 0 := ⟨tblG_in (inT4 (List.mem_of_getElem? (i := 29) rfl)) rfl, plainFor_of_name (by decide), rfl, ini_5, by decide +kernel, by decide⟩
theorem d_X5_declaration_36 : decode mX5_declaration.2.2.1 36 = .ok (.ireturn, 1) := by decide +kernel
theorem ok_X5_declaration : e_m mX5_declaration 1 := ⟨tblG_in (inT4 (List.mem_of_getElem? (i := 25) rfl)) rfl, plainFor_of_name (by decide), rfl, ini_5, by decide +kernel, by decide⟩
theorem d_X5_declarations_63 : decode mX5_declarations.2.2.1 63 = .ok (.istore_n 1, 1) := by decide +kernel
theorem d_X5_declarations_64 : decode mX5_declarations.2.2.1 64 = .ok (.iinc 2 1, 3) := by decide +kernel
theorem d_X5_declarations_67 : decode mX5_declarations.2.2.1 67 = .ok (.goto (-63), 3) := by decide +kernel
theorem ok_X5_declarations : e_m mX5_declarations 0 := ⟨tblG_in (inT4 (List.mem_of_getElem? (i := 21) rfl)) rfl, plainFor_of_name (by decide), rfl, ini_5, by decide +kernel, by decide⟩
theorem d_X5_read_49 : decode mX5_read.2.2.1 49 = .ok (.ifCond .eq 13, 3) := by decide +kernel
theorem d_X5_read_62 : decode mX5_read.2.2.1 62 = .ok (.iconst 0, 1) := by decide +kernel
theorem d_X5_read_63 : decode mX5_read.2.2.1 63 = .ok (.ireturn, 1) := by decide +kernel
theorem d_X5_read_52 : decode mX5_read.2.2.1 52 = .ok (.aload_n 0, 1) := by decide +kernel
theorem d_X5_read_53 : decode mX5_read.2.2.1 53 = .ok (.iconst (-1), 1) := by decide +kernel
theorem d_X5_read_54 : decode mX5_read.2.2.1 54 = .ok (.invokevirtual 46, 3) := by decide +kernel
def mX5_orders : MD := (5, yX5_orders, cX5_orders, 6, some .int)
theorem sel_X5_orders : Cond.instanceMethod mX5_orders.2.1 ∈ tblG ∧ Cond.selects mX5_orders.2.1.cls mX5_orders.2.1 mX5_orders.2.1 ∈ tblG := ⟨tblG_in (inT4 (List.mem_of_getElem? (i := 96) rfl)) rfl, tblG_in (inP2 (q := (mX5_orders.2.1, 7)) (List.mem_of_getElem? (i := 7) rfl)) rfl⟩
theorem s_5_46 : e_siteV 5 46 mX5_orders 5 := ⟨tblG_in (inT4 (List.mem_of_getElem? (i := 94) rfl)) rfl, sel_X5_orders.1, sel_X5_orders.2, rfl⟩
theorem d_X5_orders_0 : decode mX5_orders.2.2.1 0 = .ok (.iconst (-1), 1) := by decide +kernel
theorem d_X5_orders_1 : decode mX5_orders.2.2.1 1 = .ok (.istore_n 2, 1) := by decide +kernel
theorem d_X5_orders_2 : decode mX5_orders.2.2.1 2 = .ok (.iconst (-1), 1) := by decide +kernel
theorem d_X5_orders_3 : decode mX5_orders.2.2.1 3 = .ok (.istore_n 3, 1) := by decide +kernel
theorem d_X5_orders_4 : decode mX5_orders.2.2.1 4 = .ok (.iconst 0, 1) := by decide +kernel
theorem d_X5_orders_5 : decode mX5_orders.2.2.1 5 = .ok (.istore 4, 2) := by decide +kernel
theorem d_X5_orders_7 : decode mX5_orders.2.2.1 7 = .ok (.iload 4, 2) := by decide +kernel
theorem d_X5_orders_9 : decode mX5_orders.2.2.1 9 = .ok (.bipush 60, 2) := by decide +kernel
theorem d_X5_orders_11 : decode mX5_orders.2.2.1 11 = .ok (.if_icmp .gt 100, 3) := by decide +kernel
theorem d_X5_orders_14 : decode mX5_orders.2.2.1 14 = .ok (.aload_n 0, 1) := by decide +kernel
theorem d_X5_orders_15 : decode mX5_orders.2.2.1 15 = .ok (.invokevirtual 154, 3) := by decide +kernel
theorem sel_X5_isOrder : Cond.instanceMethod mX5_isOrder.2.1 ∈ tblG ∧ Cond.selects mX5_isOrder.2.1.cls mX5_isOrder.2.1 mX5_isOrder.2.1 ∈ tblG := ⟨tblG_in (inT4 (List.mem_of_getElem? (i := 100) rfl)) rfl, tblG_in (inP2 (q := (mX5_isOrder.2.1, 7)) (List.mem_of_getElem? (i := 8) rfl)) rfl⟩
theorem s_5_154 : e_siteV 5 154 mX5_isOrder 5 := ⟨tblG_in (inT4 (List.mem_of_getElem? (i := 98) rfl)) rfl, sel_X5_isOrder.1, sel_X5_isOrder.2, rfl⟩
theorem ok_X5_isOrder : e_m mX5_isOrder 0 := ⟨tblG_in (inT4 (List.mem_of_getElem? (i := 101) rfl)) rfl, plainFor_of_name (by decide), rfl, ini_5, by decide +kernel, by decide⟩
theorem d_X5_orders_18 : decode mX5_orders.2.2.1 18 = .ok (.ifCond .eq 93, 3) := by decide +kernel
theorem d_X5_orders_111 : decode mX5_orders.2.2.1 111 = .ok (.iload_n 2, 1) := by decide +kernel
theorem d_X5_orders_112 : decode mX5_orders.2.2.1 112 = .ok (.ireturn, 1) := by decide +kernel
theorem d_X5_orders_21 : decode mX5_orders.2.2.1 21 = .ok (.aload_n 0, 1) := by decide +kernel
theorem d_X5_orders_22 : decode mX5_orders.2.2.1 22 = .ok (.getfield 32, 3) := by decide +kernel
theorem d_X5_orders_25 : decode mX5_orders.2.2.1 25 = .ok (.getfield 157, 3) := by decide +kernel
theorem f_5_157 : e_fld 5 157 4 0 13 0 false := ⟨RX4, TX4, 0, rfl, rfl, by decide, rfl, rfl, rfl, iX4, tblG_in (inT1 (List.mem_of_getElem? (i := 107) rfl)) rfl, tyX4_ok, nmX4⟩
theorem d_X5_orders_28 : decode mX5_orders.2.2.1 28 = .ok (.bipush 60, 2) := by decide +kernel
theorem d_X5_orders_30 : decode mX5_orders.2.2.1 30 = .ok (.if_icmp .lt 12, 3) := by decide +kernel
theorem d_X5_orders_42 : decode mX5_orders.2.2.1 42 = .ok (.aload_n 0, 1) := by decide +kernel
theorem d_X5_orders_43 : decode mX5_orders.2.2.1 43 = .ok (.getfield 32, 3) := by decide +kernel
theorem d_X5_orders_46 : decode mX5_orders.2.2.1 46 = .ok (.aload_n 0, 1) := by decide +kernel
theorem d_X5_orders_47 : decode mX5_orders.2.2.1 47 = .ok (.getfield 18, 3) := by decide +kernel
theorem d_X5_orders_50 : decode mX5_orders.2.2.1 50 = .ok (.getfield 68, 3) := by decide +kernel
theorem d_X5_orders_53 : decode mX5_orders.2.2.1 53 = .ok (.aload_n 0, 1) := by decide +kernel
theorem d_X5_orders_54 : decode mX5_orders.2.2.1 54 = .ok (.getfield 36, 3) := by decide +kernel
theorem d_X5_orders_57 : decode mX5_orders.2.2.1 57 = .ok (.iaload, 1) := by decide +kernel
theorem d_X5_orders_58 : decode mX5_orders.2.2.1 58 = .ok (.iload_n 1, 1) := by decide +kernel
theorem d_X5_orders_59 : decode mX5_orders.2.2.1 59 = .ok (.invokevirtual 160, 3) := by decide +kernel
theorem sel_X4_open : Cond.instanceMethod mX4_open.2.1 ∈ tblG ∧ Cond.selects mX4_open.2.1.cls mX4_open.2.1 mX4_open.2.1 ∈ tblG := ⟨tblG_in (inT4 (List.mem_of_getElem? (i := 103) rfl)) rfl, tblG_in (inT4 (List.mem_of_getElem? (i := 104) rfl)) rfl⟩
theorem s_5_160 : e_siteV 5 160 mX4_open 4 := ⟨tblG_in (inT4 (List.mem_of_getElem? (i := 102) rfl)) rfl, sel_X4_open.1, sel_X4_open.2, rfl⟩
theorem ok_X4_open : e_m mX4_open 2 := ⟨tblG_in (inT4 (List.mem_of_getElem? (i := 105) rfl)) rfl, plainFor_of_name (by decide), rfl, ini_4, by decide +kernel, by decide⟩
theorem d_X5_orders_62 : decode mX5_orders.2.2.1 62 = .ok (.istore 5, 2) := by decide +kernel
theorem d_X5_orders_64 : decode mX5_orders.2.2.1 64 = .ok (.iload_n 3, 1) := by decide +kernel
theorem d_X5_orders_65 : decode mX5_orders.2.2.1 65 = .ok (.ifCond .ge 9, 3) := by decide +kernel
theorem d_X5_orders_68 : decode mX5_orders.2.2.1 68 = .ok (.iload 5, 2) := by decide +kernel
theorem d_X5_orders_70 : decode mX5_orders.2.2.1 70 = .ok (.istore_n 2, 1) := by decide +kernel
theorem d_X5_orders_71 : decode mX5_orders.2.2.1 71 = .ok (.goto 14, 3) := by decide +kernel
theorem d_X5_orders_33 : decode mX5_orders.2.2.1 33 = .ok (.aload_n 0, 1) := by decide +kernel
theorem d_X5_orders_34 : decode mX5_orders.2.2.1 34 = .ok (.iconst 5, 1) := by decide +kernel
theorem d_X5_orders_35 : decode mX5_orders.2.2.1 35 = .ok (.invokevirtual 56, 3) := by decide +kernel
theorem d_X5_orders_38 : decode mX5_orders.2.2.1 38 = .ok (.pop, 1) := by decide +kernel
theorem d_X5_orders_39 : decode mX5_orders.2.2.1 39 = .ok (.bipush (-2), 2) := by decide +kernel
theorem d_X5_orders_41 : decode mX5_orders.2.2.1 41 = .ok (.ireturn, 1) := by decide +kernel
theorem d_X5_orders_85 : decode mX5_orders.2.2.1 85 = .ok (.iload 5, 2) := by decide +kernel
theorem d_X5_orders_87 : decode mX5_orders.2.2.1 87 = .ok (.istore_n 3, 1) := by decide +kernel
theorem d_X5_orders_88 : decode mX5_orders.2.2.1 88 = .ok (.aload_n 0, 1) := by decide +kernel
theorem d_X5_orders_89 : decode mX5_orders.2.2.1 89 = .ok (.invokevirtual 74, 3) := by decide +kernel
theorem d_X5_orders_92 : decode mX5_orders.2.2.1 92 = .ok (.pop, 1) := by decide +kernel
theorem d_X5_orders_93 : decode mX5_orders.2.2.1 93 = .ok (.aload_n 0, 1) := by decide +kernel
theorem d_X5_orders_94 : decode mX5_orders.2.2.1 94 = .ok (.iload 5, 2) := by decide +kernel
theorem d_X5_orders_96 : decode mX5_orders.2.2.1 96 = .ok (.invokevirtual 166, 3) := by decide +kernel
def mX5_order : MD := (5, yX5_order, cX5_order, 2, some .boolean)
theorem sel_X5_order : Cond.instanceMethod mX5_order.2.1 ∈ tblG ∧ Cond.selects mX5_order.2.1.cls mX5_order.2.1 mX5_order.2.1 ∈ tblG := ⟨tblG_in (inT4 (List.mem_of_getElem? (i := 108) rfl)) rfl, tblG_in (inP2 (q := (mX5_order.2.1, 7)) (List.mem_of_getElem? (i := 9) rfl)) rfl⟩
theorem s_5_166 : e_siteV 5 166 mX5_order 5 := ⟨tblG_in (inT4 (List.mem_of_getElem? (i := 106) rfl)) rfl, sel_X5_order.1, sel_X5_order.2, rfl⟩
theorem d_X5_order_0 : decode mX5_order.2.2.1 0 = .ok (.aload_n 0, 1) := by decide +kernel
theorem d_X5_order_1 : decode mX5_order.2.2.1 1 = .ok (.getfield 32, 3) := by decide +kernel
theorem d_X5_order_4 : decode mX5_order.2.2.1 4 = .ok (.getfield 169, 3) := by decide +kernel
theorem f_5_169 : e_fld 5 169 4 1 13 2 true := ⟨RX4, TX4, 1, rfl, rfl, by decide, rfl, rfl, rfl, iX4, tblG_in (inT1 (List.mem_of_getElem? (i := 110) rfl)) rfl, tyX4_ok, nmX4⟩
theorem d_X5_order_7 : decode mX5_order.2.2.1 7 = .ok (.iload_n 1, 1) := by decide +kernel
theorem d_X5_order_8 : decode mX5_order.2.2.1 8 = .ok (.iaload, 1) := by decide +kernel
theorem d_X5_order_9 : decode mX5_order.2.2.1 9 = .ok (.tableswitch 189 5 11 #[43, 83, 114, 114, 138, 138, 160], 43) := by decide +kernel
theorem d_X5_order_198 : decode mX5_order.2.2.1 198 = .ok (.aload_n 0, 1) := by decide +kernel
theorem d_X5_order_199 : decode mX5_order.2.2.1 199 = .ok (.invokevirtual 177, 3) := by decide +kernel
def mX5_test : MD := (5, yX5_test, cX5_test, 3, some .boolean)
theorem sel_X5_test : Cond.instanceMethod mX5_test.2.1 ∈ tblG ∧ Cond.selects mX5_test.2.1.cls mX5_test.2.1 mX5_test.2.1 ∈ tblG := ⟨tblG_in (inT4 (List.mem_of_getElem? (i := 157) rfl)) rfl, tblG_in (inP3 (q := (mX5_test.2.1, 7)) (List.mem_of_getElem? (i := 3) rfl)) rfl⟩
theorem s_5_177 : e_siteV 5 177 mX5_test 5 := ⟨tblG_in (inT4 (List.mem_of_getElem? (i := 155) rfl)) rfl, sel_X5_test.1, sel_X5_test.2, rfl⟩
theorem d_X5_test_0 : decode mX5_test.2.2.1 0 = .ok (.aload_n 0, 1) := by decide +kernel
theorem d_X5_test_1 : decode mX5_test.2.2.1 1 = .ok (.invokevirtual 212, 3) := by decide +kernel
def mX5_both : MD := (5, yX5_both, cX5_both, 3, some .boolean)
theorem sel_X5_both : Cond.instanceMethod mX5_both.2.1 ∈ tblG ∧ Cond.selects mX5_both.2.1.cls mX5_both.2.1 mX5_both.2.1 ∈ tblG := ⟨tblG_in (inT4 (List.mem_of_getElem? (i := 161) rfl)) rfl, tblG_in (inP3 (q := (mX5_both.2.1, 7)) (List.mem_of_getElem? (i := 4) rfl)) rfl⟩
theorem s_5_212 : e_siteV 5 212 mX5_both 5 := ⟨tblG_in (inT4 (List.mem_of_getElem? (i := 159) rfl)) rfl, sel_X5_both.1, sel_X5_both.2, rfl⟩
theorem d_X5_both_0 : decode mX5_both.2.2.1 0 = .ok (.aload_n 0, 1) := by decide +kernel
theorem d_X5_both_1 : decode mX5_both.2.2.1 1 = .ok (.invokevirtual 218, 3) := by decide +kernel
def mX5_fact : MD := (5, yX5_fact, cX5_fact, 3, some .boolean)
theorem sel_X5_fact : Cond.instanceMethod mX5_fact.2.1 ∈ tblG ∧ Cond.selects mX5_fact.2.1.cls mX5_fact.2.1 mX5_fact.2.1 ∈ tblG := ⟨tblG_in (inT4 (List.mem_of_getElem? (i := 165) rfl)) rfl, tblG_in (inP3 (q := (mX5_fact.2.1, 7)) (List.mem_of_getElem? (i := 5) rfl)) rfl⟩
theorem s_5_218 : e_siteV 5 218 mX5_fact 5 := ⟨tblG_in (inT4 (List.mem_of_getElem? (i := 163) rfl)) rfl, sel_X5_fact.1, sel_X5_fact.2, rfl⟩
theorem d_X5_fact_0 : decode mX5_fact.2.2.1 0 = .ok (.iconst 0, 1) := by decide +kernel
theorem d_X5_fact_1 : decode mX5_fact.2.2.1 1 = .ok (.istore_n 1, 1) := by decide +kernel
theorem d_X5_fact_2 : decode mX5_fact.2.2.1 2 = .ok (.iconst 0, 1) := by decide +kernel
theorem d_X5_fact_3 : decode mX5_fact.2.2.1 3 = .ok (.istore_n 2, 1) := by decide +kernel
theorem d_X5_fact_4 : decode mX5_fact.2.2.1 4 = .ok (.iload_n 2, 1) := by decide +kernel
theorem d_X5_fact_5 : decode mX5_fact.2.2.1 5 = .ok (.sipush 900, 3) := by decide +kernel
theorem d_X5_fact_8 : decode mX5_fact.2.2.1 8 = .ok (.if_icmp .ge 33, 3) := by decide +kernel
theorem d_X5_fact_11 : decode mX5_fact.2.2.1 11 = .ok (.aload_n 0, 1) := by decide +kernel
theorem d_X5_fact_12 : decode mX5_fact.2.2.1 12 = .ok (.bipush 21, 2) := by decide +kernel
theorem d_X5_fact_14 : decode mX5_fact.2.2.1 14 = .ok (.invokevirtual 71, 3) := by decide +kernel
theorem d_X5_fact_17 : decode mX5_fact.2.2.1 17 = .ok (.ifCond .eq 24, 3) := by decide +kernel
theorem d_X5_fact_20 : decode mX5_fact.2.2.1 20 = .ok (.aload_n 0, 1) := by decide +kernel
theorem d_X5_fact_21 : decode mX5_fact.2.2.1 21 = .ok (.invokevirtual 74, 3) := by decide +kernel
theorem d_X5_fact_24 : decode mX5_fact.2.2.1 24 = .ok (.pop, 1) := by decide +kernel
theorem d_X5_fact_25 : decode mX5_fact.2.2.1 25 = .ok (.iload_n 1, 1) := by decide +kernel
theorem d_X5_fact_26 : decode mX5_fact.2.2.1 26 = .ok (.ifCond .ne 7, 3) := by decide +kernel
theorem d_X5_fact_29 : decode mX5_fact.2.2.1 29 = .ok (.iconst 1, 1) := by decide +kernel
theorem d_X5_fact_30 : decode mX5_fact.2.2.1 30 = .ok (.goto 4, 3) := by decide +kernel
theorem d_X5_fact_41 : decode mX5_fact.2.2.1 41 = .ok (.aload_n 0, 1) := by decide +kernel
theorem d_X5_fact_42 : decode mX5_fact.2.2.1 42 = .ok (.invokevirtual 221, 3) := by decide +kernel
def mX5_plainFact : MD := (5, yX5_plainFact, cX5_plainFact, 3, some .boolean)
theorem sel_X5_plainFact : Cond.instanceMethod mX5_plainFact.2.1 ∈ tblG ∧ Cond.selects mX5_plainFact.2.1.cls mX5_plainFact.2.1 mX5_plainFact.2.1 ∈ tblG := ⟨tblG_in (inT4 (List.mem_of_getElem? (i := 169) rfl)) rfl, tblG_in (inP3 (q := (mX5_plainFact.2.1, 7)) (List.mem_of_getElem? (i := 6) rfl)) rfl⟩
theorem s_5_221 : e_siteV 5 221 mX5_plainFact 5 := ⟨tblG_in (inT4 (List.mem_of_getElem? (i := 167) rfl)) rfl, sel_X5_plainFact.1, sel_X5_plainFact.2, rfl⟩
theorem d_X5_plainFact_0 : decode mX5_plainFact.2.2.1 0 = .ok (.aload_n 0, 1) := by decide +kernel
theorem d_X5_plainFact_1 : decode mX5_plainFact.2.2.1 1 = .ok (.bipush 91, 2) := by decide +kernel
theorem d_X5_plainFact_3 : decode mX5_plainFact.2.2.1 3 = .ok (.invokevirtual 77, 3) := by decide +kernel
theorem d_X5_plainFact_6 : decode mX5_plainFact.2.2.1 6 = .ok (.ifCond .eq 34, 3) := by decide +kernel
theorem d_X5_plainFact_40 : decode mX5_plainFact.2.2.1 40 = .ok (.aload_n 0, 1) := by decide +kernel
theorem d_X5_plainFact_41 : decode mX5_plainFact.2.2.1 41 = .ok (.bipush 22, 2) := by decide +kernel
theorem d_X5_plainFact_43 : decode mX5_plainFact.2.2.1 43 = .ok (.invokevirtual 71, 3) := by decide +kernel
theorem d_X5_plainFact_46 : decode mX5_plainFact.2.2.1 46 = .ok (.ifCond .eq 17, 3) := by decide +kernel
theorem d_X5_plainFact_63 : decode mX5_plainFact.2.2.1 63 = .ok (.aload_n 0, 1) := by decide +kernel
theorem d_X5_plainFact_64 : decode mX5_plainFact.2.2.1 64 = .ok (.bipush 23, 2) := by decide +kernel
theorem d_X5_plainFact_66 : decode mX5_plainFact.2.2.1 66 = .ok (.invokevirtual 71, 3) := by decide +kernel
theorem d_X5_plainFact_69 : decode mX5_plainFact.2.2.1 69 = .ok (.ifCond .eq 37, 3) := by decide +kernel
theorem d_X5_plainFact_106 : decode mX5_plainFact.2.2.1 106 = .ok (.aload_n 0, 1) := by decide +kernel
theorem d_X5_plainFact_107 : decode mX5_plainFact.2.2.1 107 = .ok (.invokevirtual 174, 3) := by decide +kernel
def mX5_sum : MD := (5, yX5_sum, cX5_sum, 4, some .boolean)
theorem sel_X5_sum : Cond.instanceMethod mX5_sum.2.1 ∈ tblG ∧ Cond.selects mX5_sum.2.1.cls mX5_sum.2.1 mX5_sum.2.1 ∈ tblG := ⟨tblG_in (inT4 (List.mem_of_getElem? (i := 125) rfl)) rfl, tblG_in (inP2 (q := (mX5_sum.2.1, 7)) (List.mem_of_getElem? (i := 12) rfl)) rfl⟩
theorem s_5_174 : e_siteV 5 174 mX5_sum 5 := ⟨tblG_in (inT4 (List.mem_of_getElem? (i := 123) rfl)) rfl, sel_X5_sum.1, sel_X5_sum.2, rfl⟩
theorem d_X5_sum_0 : decode mX5_sum.2.2.1 0 = .ok (.aload_n 0, 1) := by decide +kernel
theorem d_X5_sum_1 : decode mX5_sum.2.2.1 1 = .ok (.invokevirtual 224, 3) := by decide +kernel
def mX5_product : MD := (5, yX5_product, cX5_product, 4, some .boolean)
theorem sel_X5_product : Cond.instanceMethod mX5_product.2.1 ∈ tblG ∧ Cond.selects mX5_product.2.1.cls mX5_product.2.1 mX5_product.2.1 ∈ tblG := ⟨tblG_in (inT4 (List.mem_of_getElem? (i := 129) rfl)) rfl, tblG_in (inP2 (q := (mX5_product.2.1, 7)) (List.mem_of_getElem? (i := 13) rfl)) rfl⟩
theorem s_5_224 : e_siteV 5 224 mX5_product 5 := ⟨tblG_in (inT4 (List.mem_of_getElem? (i := 127) rfl)) rfl, sel_X5_product.1, sel_X5_product.2, rfl⟩
theorem d_X5_product_0 : decode mX5_product.2.2.1 0 = .ok (.aload_n 0, 1) := by decide +kernel
theorem d_X5_product_1 : decode mX5_product.2.2.1 1 = .ok (.invokevirtual 227, 3) := by decide +kernel
def mX5_piece : MD := (5, yX5_piece, cX5_piece, 2, some .boolean)
theorem sel_X5_piece : Cond.instanceMethod mX5_piece.2.1 ∈ tblG ∧ Cond.selects mX5_piece.2.1.cls mX5_piece.2.1 mX5_piece.2.1 ∈ tblG := ⟨tblG_in (inT4 (List.mem_of_getElem? (i := 133) rfl)) rfl, tblG_in (inP2 (q := (mX5_piece.2.1, 7)) (List.mem_of_getElem? (i := 14) rfl)) rfl⟩
theorem s_5_227 : e_siteV 5 227 mX5_piece 5 := ⟨tblG_in (inT4 (List.mem_of_getElem? (i := 131) rfl)) rfl, sel_X5_piece.1, sel_X5_piece.2, rfl⟩
theorem d_X5_piece_0 : decode mX5_piece.2.2.1 0 = .ok (.aload_n 0, 1) := by decide +kernel
theorem d_X5_piece_1 : decode mX5_piece.2.2.1 1 = .ok (.getfield 18, 3) := by decide +kernel
theorem d_X5_piece_4 : decode mX5_piece.2.2.1 4 = .ok (.getfield 50, 3) := by decide +kernel
theorem d_X5_piece_7 : decode mX5_piece.2.2.1 7 = .ok (.aload_n 0, 1) := by decide +kernel
theorem d_X5_piece_8 : decode mX5_piece.2.2.1 8 = .ok (.getfield 36, 3) := by decide +kernel
theorem d_X5_piece_11 : decode mX5_piece.2.2.1 11 = .ok (.iaload, 1) := by decide +kernel
theorem d_X5_piece_12 : decode mX5_piece.2.2.1 12 = .ok (.iconst 4, 1) := by decide +kernel
theorem d_X5_piece_13 : decode mX5_piece.2.2.1 13 = .ok (.if_icmp .ne 31, 3) := by decide +kernel
theorem d_X5_piece_44 : decode mX5_piece.2.2.1 44 = .ok (.aload_n 0, 1) := by decide +kernel
theorem d_X5_piece_45 : decode mX5_piece.2.2.1 45 = .ok (.getfield 18, 3) := by decide +kernel
theorem d_X5_piece_48 : decode mX5_piece.2.2.1 48 = .ok (.getfield 50, 3) := by decide +kernel
theorem d_X5_piece_51 : decode mX5_piece.2.2.1 51 = .ok (.aload_n 0, 1) := by decide +kernel
theorem d_X5_piece_52 : decode mX5_piece.2.2.1 52 = .ok (.getfield 36, 3) := by decide +kernel
theorem d_X5_piece_55 : decode mX5_piece.2.2.1 55 = .ok (.iaload, 1) := by decide +kernel
theorem d_X5_piece_56 : decode mX5_piece.2.2.1 56 = .ok (.iconst 3, 1) := by decide +kernel
theorem d_X5_piece_57 : decode mX5_piece.2.2.1 57 = .ok (.if_icmp .ne 8, 3) := by decide +kernel
theorem d_X5_piece_65 : decode mX5_piece.2.2.1 65 = .ok (.aload_n 0, 1) := by decide +kernel
theorem d_X5_piece_66 : decode mX5_piece.2.2.1 66 = .ok (.bipush 40, 2) := by decide +kernel
theorem d_X5_piece_68 : decode mX5_piece.2.2.1 68 = .ok (.invokevirtual 77, 3) := by decide +kernel
theorem d_X5_piece_71 : decode mX5_piece.2.2.1 71 = .ok (.ifCond .eq 34, 3) := by decide +kernel
theorem d_X5_piece_105 : decode mX5_piece.2.2.1 105 = .ok (.aload_n 0, 1) := by decide +kernel
theorem d_X5_piece_106 : decode mX5_piece.2.2.1 106 = .ok (.bipush 24, 2) := by decide +kernel
theorem d_X5_piece_108 : decode mX5_piece.2.2.1 108 = .ok (.invokevirtual 71, 3) := by decide +kernel
theorem d_X5_piece_111 : decode mX5_piece.2.2.1 111 = .ok (.ifCond .eq 17, 3) := by decide +kernel
theorem d_X5_piece_128 : decode mX5_piece.2.2.1 128 = .ok (.aload_n 0, 1) := by decide +kernel
theorem d_X5_piece_129 : decode mX5_piece.2.2.1 129 = .ok (.bipush 25, 2) := by decide +kernel
theorem d_X5_piece_131 : decode mX5_piece.2.2.1 131 = .ok (.invokevirtual 71, 3) := by decide +kernel
theorem d_X5_piece_134 : decode mX5_piece.2.2.1 134 = .ok (.ifCond .ne 12, 3) := by decide +kernel
theorem d_X5_piece_137 : decode mX5_piece.2.2.1 137 = .ok (.aload_n 0, 1) := by decide +kernel
theorem d_X5_piece_138 : decode mX5_piece.2.2.1 138 = .ok (.bipush 26, 2) := by decide +kernel
theorem d_X5_piece_140 : decode mX5_piece.2.2.1 140 = .ok (.invokevirtual 71, 3) := by decide +kernel
theorem d_X5_piece_143 : decode mX5_piece.2.2.1 143 = .ok (.ifCond .eq 24, 3) := by decide +kernel
theorem d_X5_piece_167 : decode mX5_piece.2.2.1 167 = .ok (.aload_n 0, 1) := by decide +kernel
theorem d_X5_piece_168 : decode mX5_piece.2.2.1 168 = .ok (.iconst 1, 1) := by decide +kernel
theorem d_X5_piece_169 : decode mX5_piece.2.2.1 169 = .ok (.invokevirtual 56, 3) := by decide +kernel
theorem d_X5_piece_172 : decode mX5_piece.2.2.1 172 = .ok (.ireturn, 1) := by decide +kernel
theorem d_X5_piece_114 : decode mX5_piece.2.2.1 114 = .ok (.aload_n 0, 1) := by decide +kernel
theorem d_X5_piece_115 : decode mX5_piece.2.2.1 115 = .ok (.getfield 32, 3) := by decide +kernel
theorem d_X5_piece_118 : decode mX5_piece.2.2.1 118 = .ok (.iconst 3, 1) := by decide +kernel
theorem d_X5_piece_119 : decode mX5_piece.2.2.1 119 = .ok (.iconst 0, 1) := by decide +kernel
theorem d_X5_piece_120 : decode mX5_piece.2.2.1 120 = .ok (.invokevirtual 215, 3) := by decide +kernel
theorem d_X5_piece_123 : decode mX5_piece.2.2.1 123 = .ok (.aload_n 0, 1) := by decide +kernel
theorem d_X5_piece_124 : decode mX5_piece.2.2.1 124 = .ok (.invokevirtual 74, 3) := by decide +kernel
theorem d_X5_piece_127 : decode mX5_piece.2.2.1 127 = .ok (.ireturn, 1) := by decide +kernel
theorem d_X5_piece_74 : decode mX5_piece.2.2.1 74 = .ok (.aload_n 0, 1) := by decide +kernel
theorem d_X5_piece_75 : decode mX5_piece.2.2.1 75 = .ok (.bipush 40, 2) := by decide +kernel
theorem d_X5_piece_77 : decode mX5_piece.2.2.1 77 = .ok (.invokevirtual 206, 3) := by decide +kernel
theorem d_X5_piece_80 : decode mX5_piece.2.2.1 80 = .ok (.ifCond .eq 23, 3) := by decide +kernel
theorem d_X5_piece_103 : decode mX5_piece.2.2.1 103 = .ok (.iconst 0, 1) := by decide +kernel
theorem d_X5_piece_104 : decode mX5_piece.2.2.1 104 = .ok (.ireturn, 1) := by decide +kernel
theorem d_X5_piece_83 : decode mX5_piece.2.2.1 83 = .ok (.aload_n 0, 1) := by decide +kernel
theorem d_X5_piece_84 : decode mX5_piece.2.2.1 84 = .ok (.invokevirtual 174, 3) := by decide +kernel
theorem d_X5_piece_60 : decode mX5_piece.2.2.1 60 = .ok (.aload_n 0, 1) := by decide +kernel
theorem d_X5_piece_61 : decode mX5_piece.2.2.1 61 = .ok (.invokevirtual 230, 3) := by decide +kernel
def mX5_namedPiece : MD := (5, yX5_namedPiece, cX5_namedPiece, 3, some .boolean)
theorem sel_X5_namedPiece : Cond.instanceMethod mX5_namedPiece.2.1 ∈ tblG ∧ Cond.selects mX5_namedPiece.2.1.cls mX5_namedPiece.2.1 mX5_namedPiece.2.1 ∈ tblG := ⟨tblG_in (inT4 (List.mem_of_getElem? (i := 141) rfl)) rfl, tblG_in (inP2 (q := (mX5_namedPiece.2.1, 7)) (List.mem_of_getElem? (i := 15) rfl)) rfl⟩
theorem s_5_230 : e_siteV 5 230 mX5_namedPiece 5 := ⟨tblG_in (inT4 (List.mem_of_getElem? (i := 139) rfl)) rfl, sel_X5_namedPiece.1, sel_X5_namedPiece.2, rfl⟩
theorem d_X5_namedPiece_0 : decode mX5_namedPiece.2.2.1 0 = .ok (.aload_n 0, 1) := by decide +kernel
theorem d_X5_namedPiece_1 : decode mX5_namedPiece.2.2.1 1 = .ok (.getfield 22, 3) := by decide +kernel
theorem d_X5_namedPiece_4 : decode mX5_namedPiece.2.2.1 4 = .ok (.aload_n 0, 1) := by decide +kernel
theorem d_X5_namedPiece_5 : decode mX5_namedPiece.2.2.1 5 = .ok (.getfield 18, 3) := by decide +kernel
theorem d_X5_namedPiece_8 : decode mX5_namedPiece.2.2.1 8 = .ok (.getfield 68, 3) := by decide +kernel
theorem d_X5_namedPiece_11 : decode mX5_namedPiece.2.2.1 11 = .ok (.aload_n 0, 1) := by decide +kernel
theorem d_X5_namedPiece_12 : decode mX5_namedPiece.2.2.1 12 = .ok (.getfield 36, 3) := by decide +kernel
theorem d_X5_namedPiece_15 : decode mX5_namedPiece.2.2.1 15 = .ok (.iaload, 1) := by decide +kernel
theorem d_X5_namedPiece_16 : decode mX5_namedPiece.2.2.1 16 = .ok (.invokevirtual 91, 3) := by decide +kernel
theorem d_X5_namedPiece_19 : decode mX5_namedPiece.2.2.1 19 = .ok (.istore_n 1, 1) := by decide +kernel
theorem d_X5_namedPiece_20 : decode mX5_namedPiece.2.2.1 20 = .ok (.iload_n 1, 1) := by decide +kernel
theorem d_X5_namedPiece_21 : decode mX5_namedPiece.2.2.1 21 = .ok (.ifCond .lt 37, 3) := by decide +kernel
theorem d_X5_namedPiece_24 : decode mX5_namedPiece.2.2.1 24 = .ok (.aload_n 0, 1) := by decide +kernel
theorem d_X5_namedPiece_25 : decode mX5_namedPiece.2.2.1 25 = .ok (.getfield 22, 3) := by decide +kernel
theorem d_X5_namedPiece_28 : decode mX5_namedPiece.2.2.1 28 = .ok (.iconst 1, 1) := by decide +kernel
theorem d_X5_namedPiece_29 : decode mX5_namedPiece.2.2.1 29 = .ok (.iload_n 1, 1) := by decide +kernel
theorem d_X5_namedPiece_30 : decode mX5_namedPiece.2.2.1 30 = .ok (.invokevirtual 94, 3) := by decide +kernel
def mX3_which : MD := (3, yX3_which, cX3_which, 4, some .int)
theorem sel_X3_which : Cond.instanceMethod mX3_which.2.1 ∈ tblG ∧ Cond.selects mX3_which.2.1.cls mX3_which.2.1 mX3_which.2.1 ∈ tblG := ⟨tblG_in (inT4 (List.mem_of_getElem? (i := 119) rfl)) rfl, tblG_in (inT4 (List.mem_of_getElem? (i := 120) rfl)) rfl⟩
theorem s_5_94 : e_siteV 5 94 mX3_which 3 := ⟨tblG_in (inT4 (List.mem_of_getElem? (i := 118) rfl)) rfl, sel_X3_which.1, sel_X3_which.2, rfl⟩
theorem d_X3_which_0 : decode mX3_which.2.2.1 0 = .ok (.iload_n 2, 1) := by decide +kernel
end
/-! 33.05 -/
section
theorem d_X3_which_1 : decode mX3_which.2.2.1 1 = .ok (.getstatic 65, 3) := by decide +kernel
theorem d_X3_which_4 : decode mX3_which.2.2.1 4 = .ok (.iload_n 1, 1) := by decide +kernel
theorem d_X3_which_5 : decode mX3_which.2.2.1 5 = .ok (.iaload, 1) := by decide +kernel
theorem d_X3_which_6 : decode mX3_which.2.2.1 6 = .ok (.isub, 1) := by decide +kernel
theorem d_X3_which_7 : decode mX3_which.2.2.1 7 = .ok (.istore_n 3, 1) := by decide +kernel
theorem d_X3_which_8 : decode mX3_which.2.2.1 8 = .ok (.iload_n 3, 1) := by decide +kernel
theorem d_X3_which_9 : decode mX3_which.2.2.1 9 = .ok (.ifCond .lt 17, 3) := by decide +kernel
theorem d_X3_which_26 : decode mX3_which.2.2.1 26 = .ok (.iconst (-1), 1) := by decide +kernel
theorem d_X3_which_27 : decode mX3_which.2.2.1 27 = .ok (.ireturn, 1) := by decide +kernel
theorem d_X3_which_12 : decode mX3_which.2.2.1 12 = .ok (.iload_n 3, 1) := by decide +kernel
theorem d_X3_which_13 : decode mX3_which.2.2.1 13 = .ok (.aload_n 0, 1) := by decide +kernel
theorem d_X3_which_14 : decode mX3_which.2.2.1 14 = .ok (.getfield 11, 3) := by decide +kernel
theorem d_X3_which_17 : decode mX3_which.2.2.1 17 = .ok (.iload_n 1, 1) := by decide +kernel
theorem d_X3_which_18 : decode mX3_which.2.2.1 18 = .ok (.iaload, 1) := by decide +kernel
theorem d_X3_which_19 : decode mX3_which.2.2.1 19 = .ok (.if_icmp .ge 7, 3) := by decide +kernel
theorem d_X3_which_22 : decode mX3_which.2.2.1 22 = .ok (.iload_n 3, 1) := by decide +kernel
theorem d_X3_which_23 : decode mX3_which.2.2.1 23 = .ok (.goto 4, 3) := by decide +kernel
theorem ok_X3_which : e_m mX3_which 2 := ⟨tblG_in (inT4 (List.mem_of_getElem? (i := 121) rfl)) rfl, plainFor_of_name (by decide), rfl, ini_3, by decide +kernel, by decide⟩
theorem d_X5_namedPiece_33 : decode mX5_namedPiece.2.2.1 33 = .ok (.ifCond .lt 25, 3) := by decide +kernel
theorem d_X5_namedPiece_36 : decode mX5_namedPiece.2.2.1 36 = .ok (.aload_n 0, 1) := by decide +kernel
theorem d_X5_namedPiece_37 : decode mX5_namedPiece.2.2.1 37 = .ok (.getfield 32, 3) := by decide +kernel
theorem d_X5_namedPiece_40 : decode mX5_namedPiece.2.2.1 40 = .ok (.iconst 1, 1) := by decide +kernel
theorem d_X5_namedPiece_41 : decode mX5_namedPiece.2.2.1 41 = .ok (.aload_n 0, 1) := by decide +kernel
theorem d_X5_namedPiece_42 : decode mX5_namedPiece.2.2.1 42 = .ok (.getfield 22, 3) := by decide +kernel
theorem d_X5_namedPiece_45 : decode mX5_namedPiece.2.2.1 45 = .ok (.iconst 1, 1) := by decide +kernel
theorem d_X5_namedPiece_46 : decode mX5_namedPiece.2.2.1 46 = .ok (.iload_n 1, 1) := by decide +kernel
theorem d_X5_namedPiece_47 : decode mX5_namedPiece.2.2.1 47 = .ok (.invokevirtual 94, 3) := by decide +kernel
theorem d_X5_namedPiece_50 : decode mX5_namedPiece.2.2.1 50 = .ok (.invokevirtual 215, 3) := by decide +kernel
theorem d_X5_namedPiece_53 : decode mX5_namedPiece.2.2.1 53 = .ok (.aload_n 0, 1) := by decide +kernel
theorem d_X5_namedPiece_54 : decode mX5_namedPiece.2.2.1 54 = .ok (.invokevirtual 74, 3) := by decide +kernel
theorem d_X5_namedPiece_57 : decode mX5_namedPiece.2.2.1 57 = .ok (.ireturn, 1) := by decide +kernel
theorem d_X5_namedPiece_58 : decode mX5_namedPiece.2.2.1 58 = .ok (.aload_n 0, 1) := by decide +kernel
theorem d_X5_namedPiece_59 : decode mX5_namedPiece.2.2.1 59 = .ok (.iconst 2, 1) := by decide +kernel
theorem d_X5_namedPiece_60 : decode mX5_namedPiece.2.2.1 60 = .ok (.invokevirtual 186, 3) := by decide +kernel
def mX5_takeName : MD := (5, yX5_takeName, cX5_takeName, 4, some .int)
theorem sel_X5_takeName : Cond.instanceMethod mX5_takeName.2.1 ∈ tblG ∧ Cond.selects mX5_takeName.2.1.cls mX5_takeName.2.1 mX5_takeName.2.1 ∈ tblG := ⟨tblG_in (inT4 (List.mem_of_getElem? (i := 116) rfl)) rfl, tblG_in (inP2 (q := (mX5_takeName.2.1, 7)) (List.mem_of_getElem? (i := 11) rfl)) rfl⟩
theorem s_5_186 : e_siteV 5 186 mX5_takeName 5 := ⟨tblG_in (inT4 (List.mem_of_getElem? (i := 114) rfl)) rfl, sel_X5_takeName.1, sel_X5_takeName.2, rfl⟩
theorem d_X5_takeName_0 : decode mX5_takeName.2.2.1 0 = .ok (.aload_n 0, 1) := by decide +kernel
theorem d_X5_takeName_1 : decode mX5_takeName.2.2.1 1 = .ok (.getfield 18, 3) := by decide +kernel
theorem d_X5_takeName_4 : decode mX5_takeName.2.2.1 4 = .ok (.getfield 50, 3) := by decide +kernel
theorem d_X5_takeName_7 : decode mX5_takeName.2.2.1 7 = .ok (.aload_n 0, 1) := by decide +kernel
theorem d_X5_takeName_8 : decode mX5_takeName.2.2.1 8 = .ok (.getfield 36, 3) := by decide +kernel
theorem d_X5_takeName_11 : decode mX5_takeName.2.2.1 11 = .ok (.iaload, 1) := by decide +kernel
theorem d_X5_takeName_12 : decode mX5_takeName.2.2.1 12 = .ok (.iconst 3, 1) := by decide +kernel
theorem d_X5_takeName_13 : decode mX5_takeName.2.2.1 13 = .ok (.if_icmp .eq 11, 3) := by decide +kernel
theorem d_X5_takeName_24 : decode mX5_takeName.2.2.1 24 = .ok (.aload_n 0, 1) := by decide +kernel
theorem d_X5_takeName_25 : decode mX5_takeName.2.2.1 25 = .ok (.getfield 22, 3) := by decide +kernel
theorem d_X5_takeName_28 : decode mX5_takeName.2.2.1 28 = .ok (.aload_n 0, 1) := by decide +kernel
theorem d_X5_takeName_29 : decode mX5_takeName.2.2.1 29 = .ok (.getfield 18, 3) := by decide +kernel
theorem d_X5_takeName_32 : decode mX5_takeName.2.2.1 32 = .ok (.getfield 68, 3) := by decide +kernel
theorem d_X5_takeName_35 : decode mX5_takeName.2.2.1 35 = .ok (.aload_n 0, 1) := by decide +kernel
theorem d_X5_takeName_36 : decode mX5_takeName.2.2.1 36 = .ok (.getfield 36, 3) := by decide +kernel
theorem d_X5_takeName_39 : decode mX5_takeName.2.2.1 39 = .ok (.iaload, 1) := by decide +kernel
theorem d_X5_takeName_40 : decode mX5_takeName.2.2.1 40 = .ok (.invokevirtual 91, 3) := by decide +kernel
theorem d_X5_takeName_43 : decode mX5_takeName.2.2.1 43 = .ok (.istore_n 2, 1) := by decide +kernel
theorem d_X5_takeName_44 : decode mX5_takeName.2.2.1 44 = .ok (.iload_n 2, 1) := by decide +kernel
theorem d_X5_takeName_45 : decode mX5_takeName.2.2.1 45 = .ok (.ifCond .ge 7, 3) := by decide +kernel
theorem d_X5_takeName_52 : decode mX5_takeName.2.2.1 52 = .ok (.aload_n 0, 1) := by decide +kernel
theorem d_X5_takeName_53 : decode mX5_takeName.2.2.1 53 = .ok (.getfield 22, 3) := by decide +kernel
theorem d_X5_takeName_56 : decode mX5_takeName.2.2.1 56 = .ok (.iload_n 1, 1) := by decide +kernel
theorem d_X5_takeName_57 : decode mX5_takeName.2.2.1 57 = .ok (.iload_n 2, 1) := by decide +kernel
theorem d_X5_takeName_58 : decode mX5_takeName.2.2.1 58 = .ok (.invokevirtual 94, 3) := by decide +kernel
theorem d_X5_takeName_48 : decode mX5_takeName.2.2.1 48 = .ok (.iconst (-1), 1) := by decide +kernel
theorem d_X5_takeName_49 : decode mX5_takeName.2.2.1 49 = .ok (.goto 12, 3) := by decide +kernel
theorem d_X5_takeName_16 : decode mX5_takeName.2.2.1 16 = .ok (.aload_n 0, 1) := by decide +kernel
theorem d_X5_takeName_17 : decode mX5_takeName.2.2.1 17 = .ok (.iconst 1, 1) := by decide +kernel
theorem d_X5_takeName_18 : decode mX5_takeName.2.2.1 18 = .ok (.invokevirtual 56, 3) := by decide +kernel
theorem d_X5_takeName_21 : decode mX5_takeName.2.2.1 21 = .ok (.pop, 1) := by decide +kernel
theorem d_X5_takeName_22 : decode mX5_takeName.2.2.1 22 = .ok (.iconst (-1), 1) := by decide +kernel
theorem d_X5_takeName_23 : decode mX5_takeName.2.2.1 23 = .ok (.ireturn, 1) := by decide +kernel
theorem d_X5_takeName_61 : decode mX5_takeName.2.2.1 61 = .ok (.istore_n 3, 1) := by decide +kernel
theorem d_X5_takeName_62 : decode mX5_takeName.2.2.1 62 = .ok (.iload_n 3, 1) := by decide +kernel
theorem d_X5_takeName_63 : decode mX5_takeName.2.2.1 63 = .ok (.ifCond .ge 11, 3) := by decide +kernel
theorem d_X5_takeName_74 : decode mX5_takeName.2.2.1 74 = .ok (.aload_n 0, 1) := by decide +kernel
theorem d_X5_takeName_75 : decode mX5_takeName.2.2.1 75 = .ok (.invokevirtual 74, 3) := by decide +kernel
theorem d_X5_takeName_78 : decode mX5_takeName.2.2.1 78 = .ok (.pop, 1) := by decide +kernel
theorem d_X5_takeName_79 : decode mX5_takeName.2.2.1 79 = .ok (.iload_n 3, 1) := by decide +kernel
theorem d_X5_takeName_80 : decode mX5_takeName.2.2.1 80 = .ok (.ireturn, 1) := by decide +kernel
theorem d_X5_takeName_66 : decode mX5_takeName.2.2.1 66 = .ok (.aload_n 0, 1) := by decide +kernel
theorem d_X5_takeName_67 : decode mX5_takeName.2.2.1 67 = .ok (.iconst 3, 1) := by decide +kernel
theorem d_X5_takeName_68 : decode mX5_takeName.2.2.1 68 = .ok (.invokevirtual 56, 3) := by decide +kernel
theorem d_X5_takeName_71 : decode mX5_takeName.2.2.1 71 = .ok (.pop, 1) := by decide +kernel
theorem d_X5_takeName_72 : decode mX5_takeName.2.2.1 72 = .ok (.iconst (-1), 1) := by decide +kernel
theorem d_X5_takeName_73 : decode mX5_takeName.2.2.1 73 = .ok (.ireturn, 1) := by decide +kernel
theorem ok_X5_takeName : e_m mX5_takeName 1 := ⟨tblG_in (inT4 (List.mem_of_getElem? (i := 117) rfl)) rfl, plainFor_of_name (by decide), rfl, ini_5, by decide +kernel, by decide⟩
theorem d_X5_namedPiece_63 : decode mX5_namedPiece.2.2.1 63 = .ok (.istore_n 2, 1) := by decide +kernel
theorem d_X5_namedPiece_64 : decode mX5_namedPiece.2.2.1 64 = .ok (.aload_n 0, 1) := by decide +kernel
theorem d_X5_namedPiece_65 : decode mX5_namedPiece.2.2.1 65 = .ok (.getfield 32, 3) := by decide +kernel
theorem d_X5_namedPiece_68 : decode mX5_namedPiece.2.2.1 68 = .ok (.iconst 2, 1) := by decide +kernel
theorem d_X5_namedPiece_69 : decode mX5_namedPiece.2.2.1 69 = .ok (.iload_n 2, 1) := by decide +kernel
theorem d_X5_namedPiece_70 : decode mX5_namedPiece.2.2.1 70 = .ok (.iconst 0, 1) := by decide +kernel
theorem d_X5_namedPiece_71 : decode mX5_namedPiece.2.2.1 71 = .ok (.invokestatic 192, 3) := by decide +kernel
theorem ml_5_192 : Cond.methodLink (e_cn 5) 192 Lib.Math.max.name ∈ tblG := tblG_in (inT4 (List.mem_of_getElem? (i := 122) rfl)) rfl
theorem d_X5_namedPiece_74 : decode mX5_namedPiece.2.2.1 74 = .ok (.invokevirtual 215, 3) := by decide +kernel
theorem d_X5_namedPiece_77 : decode mX5_namedPiece.2.2.1 77 = .ok (.iload_n 2, 1) := by decide +kernel
theorem d_X5_namedPiece_78 : decode mX5_namedPiece.2.2.1 78 = .ok (.ifCond .lt 7, 3) := by decide +kernel
theorem d_X5_namedPiece_85 : decode mX5_namedPiece.2.2.1 85 = .ok (.iconst 0, 1) := by decide +kernel
theorem d_X5_namedPiece_86 : decode mX5_namedPiece.2.2.1 86 = .ok (.ireturn, 1) := by decide +kernel
theorem d_X5_namedPiece_81 : decode mX5_namedPiece.2.2.1 81 = .ok (.iconst 1, 1) := by decide +kernel
theorem d_X5_namedPiece_82 : decode mX5_namedPiece.2.2.1 82 = .ok (.goto 4, 3) := by decide +kernel
theorem ok_X5_namedPiece : e_m mX5_namedPiece 0 := ⟨tblG_in (inT4 (List.mem_of_getElem? (i := 142) rfl)) rfl, plainFor_of_name (by decide), rfl, ini_5, by decide +kernel, by decide⟩
theorem d_X5_piece_64 : decode mX5_piece.2.2.1 64 = .ok (.ireturn, 1) := by decide +kernel
theorem d_X5_piece_16 : decode mX5_piece.2.2.1 16 = .ok (.aload_n 0, 1) := by decide +kernel
theorem d_X5_piece_17 : decode mX5_piece.2.2.1 17 = .ok (.iconst 0, 1) := by decide +kernel
theorem d_X5_piece_18 : decode mX5_piece.2.2.1 18 = .ok (.sipush 999, 3) := by decide +kernel
theorem d_X5_piece_21 : decode mX5_piece.2.2.1 21 = .ok (.invokevirtual 87, 3) := by decide +kernel
theorem d_X5_piece_24 : decode mX5_piece.2.2.1 24 = .ok (.istore_n 1, 1) := by decide +kernel
theorem d_X5_piece_25 : decode mX5_piece.2.2.1 25 = .ok (.aload_n 0, 1) := by decide +kernel
theorem d_X5_piece_26 : decode mX5_piece.2.2.1 26 = .ok (.getfield 32, 3) := by decide +kernel
theorem d_X5_piece_29 : decode mX5_piece.2.2.1 29 = .ok (.iconst 0, 1) := by decide +kernel
theorem d_X5_piece_30 : decode mX5_piece.2.2.1 30 = .ok (.iload_n 1, 1) := by decide +kernel
theorem d_X5_piece_31 : decode mX5_piece.2.2.1 31 = .ok (.invokevirtual 215, 3) := by decide +kernel
theorem d_X5_piece_34 : decode mX5_piece.2.2.1 34 = .ok (.iload_n 1, 1) := by decide +kernel
theorem d_X5_piece_35 : decode mX5_piece.2.2.1 35 = .ok (.ifCond .lt 7, 3) := by decide +kernel
theorem d_X5_piece_42 : decode mX5_piece.2.2.1 42 = .ok (.iconst 0, 1) := by decide +kernel
theorem d_X5_piece_43 : decode mX5_piece.2.2.1 43 = .ok (.ireturn, 1) := by decide +kernel
theorem d_X5_piece_38 : decode mX5_piece.2.2.1 38 = .ok (.iconst 1, 1) := by decide +kernel
theorem d_X5_piece_39 : decode mX5_piece.2.2.1 39 = .ok (.goto 4, 3) := by decide +kernel
theorem d_X5_piece_146 : decode mX5_piece.2.2.1 146 = .ok (.aload_n 0, 1) := by decide +kernel
theorem d_X5_piece_147 : decode mX5_piece.2.2.1 147 = .ok (.aload_n 0, 1) := by decide +kernel
theorem d_X5_piece_148 : decode mX5_piece.2.2.1 148 = .ok (.bipush 25, 2) := by decide +kernel
theorem d_X5_piece_150 : decode mX5_piece.2.2.1 150 = .ok (.invokevirtual 71, 3) := by decide +kernel
theorem d_X5_piece_153 : decode mX5_piece.2.2.1 153 = .ok (.ifCond .eq 8, 3) := by decide +kernel
theorem d_X5_piece_161 : decode mX5_piece.2.2.1 161 = .ok (.bipush 12, 2) := by decide +kernel
theorem d_X5_piece_156 : decode mX5_piece.2.2.1 156 = .ok (.bipush 11, 2) := by decide +kernel
theorem d_X5_piece_158 : decode mX5_piece.2.2.1 158 = .ok (.goto 5, 3) := by decide +kernel
theorem d_X5_piece_163 : decode mX5_piece.2.2.1 163 = .ok (.invokevirtual 233, 3) := by decide +kernel
theorem sel_X5_choice : Cond.instanceMethod mX5_choice.2.1 ∈ tblG ∧ Cond.selects mX5_choice.2.1.cls mX5_choice.2.1 mX5_choice.2.1 ∈ tblG := ⟨tblG_in (inT4 (List.mem_of_getElem? (i := 153) rfl)) rfl, tblG_in (inP3 (q := (mX5_choice.2.1, 7)) (List.mem_of_getElem? (i := 2) rfl)) rfl⟩
theorem s_5_233 : e_siteV 5 233 mX5_choice 5 := ⟨tblG_in (inT4 (List.mem_of_getElem? (i := 151) rfl)) rfl, sel_X5_choice.1, sel_X5_choice.2, rfl⟩
theorem ok_X5_choice : e_m mX5_choice 1 := ⟨tblG_in (inT4 (List.mem_of_getElem? (i := 154) rfl)) rfl, plainFor_of_name (by decide), rfl, ini_5, by decide +kernel, by decide⟩
theorem d_X5_piece_166 : decode mX5_piece.2.2.1 166 = .ok (.ireturn, 1) := by decide +kernel
theorem ok_X5_piece : e_m mX5_piece 0 := ⟨tblG_in (inT4 (List.mem_of_getElem? (i := 134) rfl)) rfl, plainFor_of_name (by decide), rfl, ini_5, by decide +kernel, by decide⟩
theorem d_X5_product_4 : decode mX5_product.2.2.1 4 = .ok (.istore_n 1, 1) := by decide +kernel
theorem d_X5_product_5 : decode mX5_product.2.2.1 5 = .ok (.iconst 0, 1) := by decide +kernel
theorem d_X5_product_6 : decode mX5_product.2.2.1 6 = .ok (.istore_n 2, 1) := by decide +kernel
theorem d_X5_product_7 : decode mX5_product.2.2.1 7 = .ok (.iload_n 2, 1) := by decide +kernel
theorem d_X5_product_8 : decode mX5_product.2.2.1 8 = .ok (.sipush 900, 3) := by decide +kernel
theorem d_X5_product_11 : decode mX5_product.2.2.1 11 = .ok (.if_icmp .ge 90, 3) := by decide +kernel
theorem d_X5_product_14 : decode mX5_product.2.2.1 14 = .ok (.iload_n 1, 1) := by decide +kernel
theorem d_X5_product_15 : decode mX5_product.2.2.1 15 = .ok (.ifCond .eq 86, 3) := by decide +kernel
theorem d_X5_product_101 : decode mX5_product.2.2.1 101 = .ok (.iload_n 1, 1) := by decide +kernel
theorem d_X5_product_102 : decode mX5_product.2.2.1 102 = .ok (.ireturn, 1) := by decide +kernel
theorem d_X5_product_18 : decode mX5_product.2.2.1 18 = .ok (.aload_n 0, 1) := by decide +kernel
theorem d_X5_product_19 : decode mX5_product.2.2.1 19 = .ok (.bipush 42, 2) := by decide +kernel
theorem d_X5_product_21 : decode mX5_product.2.2.1 21 = .ok (.invokevirtual 77, 3) := by decide +kernel
theorem d_X5_product_24 : decode mX5_product.2.2.1 24 = .ok (.ifCond .ne 21, 3) := by decide +kernel
theorem d_X5_product_27 : decode mX5_product.2.2.1 27 = .ok (.aload_n 0, 1) := by decide +kernel
theorem d_X5_product_28 : decode mX5_product.2.2.1 28 = .ok (.bipush 47, 2) := by decide +kernel
theorem d_X5_product_30 : decode mX5_product.2.2.1 30 = .ok (.invokevirtual 77, 3) := by decide +kernel
theorem d_X5_product_33 : decode mX5_product.2.2.1 33 = .ok (.ifCond .ne 12, 3) := by decide +kernel
theorem d_X5_product_36 : decode mX5_product.2.2.1 36 = .ok (.aload_n 0, 1) := by decide +kernel
theorem d_X5_product_37 : decode mX5_product.2.2.1 37 = .ok (.bipush 37, 2) := by decide +kernel
theorem d_X5_product_39 : decode mX5_product.2.2.1 39 = .ok (.invokevirtual 77, 3) := by decide +kernel
theorem d_X5_product_42 : decode mX5_product.2.2.1 42 = .ok (.ifCond .eq 59, 3) := by decide +kernel
theorem d_X5_product_45 : decode mX5_product.2.2.1 45 = .ok (.aload_n 0, 1) := by decide +kernel
theorem d_X5_product_46 : decode mX5_product.2.2.1 46 = .ok (.bipush 42, 2) := by decide +kernel
theorem d_X5_product_48 : decode mX5_product.2.2.1 48 = .ok (.invokevirtual 77, 3) := by decide +kernel
theorem d_X5_product_51 : decode mX5_product.2.2.1 51 = .ok (.ifCond .eq 8, 3) := by decide +kernel
theorem d_X5_product_59 : decode mX5_product.2.2.1 59 = .ok (.aload_n 0, 1) := by decide +kernel
theorem d_X5_product_60 : decode mX5_product.2.2.1 60 = .ok (.bipush 47, 2) := by decide +kernel
theorem d_X5_product_62 : decode mX5_product.2.2.1 62 = .ok (.invokevirtual 77, 3) := by decide +kernel
theorem d_X5_product_65 : decode mX5_product.2.2.1 65 = .ok (.ifCond .eq 8, 3) := by decide +kernel
theorem d_X5_product_73 : decode mX5_product.2.2.1 73 = .ok (.bipush 10, 2) := by decide +kernel
theorem d_X5_product_68 : decode mX5_product.2.2.1 68 = .ok (.bipush 9, 2) := by decide +kernel
theorem d_X5_product_70 : decode mX5_product.2.2.1 70 = .ok (.goto 5, 3) := by decide +kernel
theorem d_X5_product_54 : decode mX5_product.2.2.1 54 = .ok (.bipush 8, 2) := by decide +kernel
theorem d_X5_product_56 : decode mX5_product.2.2.1 56 = .ok (.goto 19, 3) := by decide +kernel
theorem d_X5_product_75 : decode mX5_product.2.2.1 75 = .ok (.istore_n 3, 1) := by decide +kernel
theorem d_X5_product_76 : decode mX5_product.2.2.1 76 = .ok (.aload_n 0, 1) := by decide +kernel
theorem d_X5_product_77 : decode mX5_product.2.2.1 77 = .ok (.invokevirtual 74, 3) := by decide +kernel
theorem d_X5_product_80 : decode mX5_product.2.2.1 80 = .ok (.pop, 1) := by decide +kernel
theorem d_X5_product_81 : decode mX5_product.2.2.1 81 = .ok (.aload_n 0, 1) := by decide +kernel
theorem d_X5_product_82 : decode mX5_product.2.2.1 82 = .ok (.invokevirtual 227, 3) := by decide +kernel
theorem d_X5_product_85 : decode mX5_product.2.2.1 85 = .ok (.istore_n 1, 1) := by decide +kernel
theorem d_X5_product_86 : decode mX5_product.2.2.1 86 = .ok (.aload_n 0, 1) := by decide +kernel
theorem d_X5_product_87 : decode mX5_product.2.2.1 87 = .ok (.getfield 32, 3) := by decide +kernel
theorem d_X5_product_90 : decode mX5_product.2.2.1 90 = .ok (.iload_n 3, 1) := by decide +kernel
theorem d_X5_product_91 : decode mX5_product.2.2.1 91 = .ok (.iconst 0, 1) := by decide +kernel
theorem d_X5_product_92 : decode mX5_product.2.2.1 92 = .ok (.invokevirtual 215, 3) := by decide +kernel
theorem d_X5_product_95 : decode mX5_product.2.2.1 95 = .ok (.iinc 2 1, 3) := by decide +kernel
theorem d_X5_product_98 : decode mX5_product.2.2.1 98 = .ok (.goto (-91), 3) := by decide +kernel
theorem ok_X5_product : e_m mX5_product 0 := ⟨tblG_in (inT4 (List.mem_of_getElem? (i := 130) rfl)) rfl, plainFor_of_name (by decide), rfl, ini_5, by decide +kernel, by decide⟩
theorem d_X5_sum_4 : decode mX5_sum.2.2.1 4 = .ok (.istore_n 1, 1) := by decide +kernel
theorem d_X5_sum_5 : decode mX5_sum.2.2.1 5 = .ok (.iconst 0, 1) := by decide +kernel
theorem d_X5_sum_6 : decode mX5_sum.2.2.1 6 = .ok (.istore_n 2, 1) := by decide +kernel
theorem d_X5_sum_7 : decode mX5_sum.2.2.1 7 = .ok (.iload_n 2, 1) := by decide +kernel
theorem d_X5_sum_8 : decode mX5_sum.2.2.1 8 = .ok (.sipush 900, 3) := by decide +kernel
theorem d_X5_sum_11 : decode mX5_sum.2.2.1 11 = .ok (.if_icmp .ge 67, 3) := by decide +kernel
theorem d_X5_sum_14 : decode mX5_sum.2.2.1 14 = .ok (.iload_n 1, 1) := by decide +kernel
theorem d_X5_sum_15 : decode mX5_sum.2.2.1 15 = .ok (.ifCond .eq 63, 3) := by decide +kernel
theorem d_X5_sum_78 : decode mX5_sum.2.2.1 78 = .ok (.iload_n 1, 1) := by decide +kernel
theorem d_X5_sum_79 : decode mX5_sum.2.2.1 79 = .ok (.ireturn, 1) := by decide +kernel
theorem d_X5_sum_18 : decode mX5_sum.2.2.1 18 = .ok (.aload_n 0, 1) := by decide +kernel
theorem d_X5_sum_19 : decode mX5_sum.2.2.1 19 = .ok (.bipush 43, 2) := by decide +kernel
theorem d_X5_sum_21 : decode mX5_sum.2.2.1 21 = .ok (.invokevirtual 77, 3) := by decide +kernel
theorem d_X5_sum_24 : decode mX5_sum.2.2.1 24 = .ok (.ifCond .ne 12, 3) := by decide +kernel
theorem d_X5_sum_27 : decode mX5_sum.2.2.1 27 = .ok (.aload_n 0, 1) := by decide +kernel
theorem d_X5_sum_28 : decode mX5_sum.2.2.1 28 = .ok (.bipush 45, 2) := by decide +kernel
theorem d_X5_sum_30 : decode mX5_sum.2.2.1 30 = .ok (.invokevirtual 77, 3) := by decide +kernel
theorem d_X5_sum_33 : decode mX5_sum.2.2.1 33 = .ok (.ifCond .eq 45, 3) := by decide +kernel
theorem d_X5_sum_36 : decode mX5_sum.2.2.1 36 = .ok (.aload_n 0, 1) := by decide +kernel
theorem d_X5_sum_37 : decode mX5_sum.2.2.1 37 = .ok (.bipush 43, 2) := by decide +kernel
theorem d_X5_sum_39 : decode mX5_sum.2.2.1 39 = .ok (.invokevirtual 77, 3) := by decide +kernel
theorem d_X5_sum_42 : decode mX5_sum.2.2.1 42 = .ok (.ifCond .eq 8, 3) := by decide +kernel
theorem d_X5_sum_50 : decode mX5_sum.2.2.1 50 = .ok (.bipush 7, 2) := by decide +kernel
theorem d_X5_sum_45 : decode mX5_sum.2.2.1 45 = .ok (.bipush 6, 2) := by decide +kernel
theorem d_X5_sum_47 : decode mX5_sum.2.2.1 47 = .ok (.goto 5, 3) := by decide +kernel
theorem d_X5_sum_52 : decode mX5_sum.2.2.1 52 = .ok (.istore_n 3, 1) := by decide +kernel
theorem d_X5_sum_53 : decode mX5_sum.2.2.1 53 = .ok (.aload_n 0, 1) := by decide +kernel
theorem d_X5_sum_54 : decode mX5_sum.2.2.1 54 = .ok (.invokevirtual 74, 3) := by decide +kernel
theorem d_X5_sum_57 : decode mX5_sum.2.2.1 57 = .ok (.pop, 1) := by decide +kernel
theorem d_X5_sum_58 : decode mX5_sum.2.2.1 58 = .ok (.aload_n 0, 1) := by decide +kernel
theorem d_X5_sum_59 : decode mX5_sum.2.2.1 59 = .ok (.invokevirtual 224, 3) := by decide +kernel
theorem d_X5_sum_62 : decode mX5_sum.2.2.1 62 = .ok (.istore_n 1, 1) := by decide +kernel
theorem d_X5_sum_63 : decode mX5_sum.2.2.1 63 = .ok (.aload_n 0, 1) := by decide +kernel
theorem d_X5_sum_64 : decode mX5_sum.2.2.1 64 = .ok (.getfield 32, 3) := by decide +kernel
theorem d_X5_sum_67 : decode mX5_sum.2.2.1 67 = .ok (.iload_n 3, 1) := by decide +kernel
theorem d_X5_sum_68 : decode mX5_sum.2.2.1 68 = .ok (.iconst 0, 1) := by decide +kernel
theorem d_X5_sum_69 : decode mX5_sum.2.2.1 69 = .ok (.invokevirtual 215, 3) := by decide +kernel
theorem d_X5_sum_72 : decode mX5_sum.2.2.1 72 = .ok (.iinc 2 1, 3) := by decide +kernel
theorem d_X5_sum_75 : decode mX5_sum.2.2.1 75 = .ok (.goto (-68), 3) := by decide +kernel
theorem ok_X5_sum : e_m mX5_sum 0 := ⟨tblG_in (inT4 (List.mem_of_getElem? (i := 126) rfl)) rfl, plainFor_of_name (by decide), rfl, ini_5, by decide +kernel, by decide⟩
theorem d_X5_piece_87 : decode mX5_piece.2.2.1 87 = .ok (.ifCond .eq 16, 3) := by decide +kernel
theorem d_X5_piece_90 : decode mX5_piece.2.2.1 90 = .ok (.aload_n 0, 1) := by decide +kernel
theorem d_X5_piece_91 : decode mX5_piece.2.2.1 91 = .ok (.bipush 41, 2) := by decide +kernel
theorem d_X5_piece_93 : decode mX5_piece.2.2.1 93 = .ok (.invokevirtual 209, 3) := by decide +kernel
theorem sel_X5_takeClosing : Cond.instanceMethod mX5_takeClosing.2.1 ∈ tblG ∧ Cond.selects mX5_takeClosing.2.1.cls mX5_takeClosing.2.1 mX5_takeClosing.2.1 ∈ tblG := ⟨tblG_in (inT4 (List.mem_of_getElem? (i := 149) rfl)) rfl, tblG_in (inP3 (q := (mX5_takeClosing.2.1, 7)) (List.mem_of_getElem? (i := 1) rfl)) rfl⟩
theorem s_5_209 : e_siteV 5 209 mX5_takeClosing 5 := ⟨tblG_in (inT4 (List.mem_of_getElem? (i := 147) rfl)) rfl, sel_X5_takeClosing.1, sel_X5_takeClosing.2, rfl⟩
theorem ok_X5_takeClosing : e_m mX5_takeClosing 1 := ⟨tblG_in (inT4 (List.mem_of_getElem? (i := 150) rfl)) rfl, plainFor_of_name (by decide), rfl, ini_5, by decide +kernel, by decide⟩
theorem d_X5_piece_96 : decode mX5_piece.2.2.1 96 = .ok (.ifCond .eq 7, 3) := by decide +kernel
end
/-! 33.06 -/
section
theorem d_X5_piece_99 : decode mX5_piece.2.2.1 99 = .ok (.iconst 1, 1) := by decide +kernel
theorem d_X5_piece_100 : decode mX5_piece.2.2.1 100 = .ok (.goto 4, 3) := by decide +kernel
theorem d_X5_choice_14 : decode mX5_choice.2.2.1 14 = .ok (.aload_n 0, 1) := by decide +kernel
theorem d_X5_choice_15 : decode mX5_choice.2.2.1 15 = .ok (.invokevirtual 174, 3) := by decide +kernel
theorem d_X5_choice_18 : decode mX5_choice.2.2.1 18 = .ok (.ifCond .eq 32, 3) := by decide +kernel
theorem d_X5_choice_21 : decode mX5_choice.2.2.1 21 = .ok (.aload_n 0, 1) := by decide +kernel
theorem d_X5_choice_22 : decode mX5_choice.2.2.1 22 = .ok (.bipush 44, 2) := by decide +kernel
theorem d_X5_choice_24 : decode mX5_choice.2.2.1 24 = .ok (.invokevirtual 81, 3) := by decide +kernel
theorem d_X5_choice_27 : decode mX5_choice.2.2.1 27 = .ok (.ifCond .eq 23, 3) := by decide +kernel
theorem d_X5_choice_30 : decode mX5_choice.2.2.1 30 = .ok (.aload_n 0, 1) := by decide +kernel
theorem d_X5_choice_31 : decode mX5_choice.2.2.1 31 = .ok (.invokevirtual 174, 3) := by decide +kernel
theorem d_X5_choice_34 : decode mX5_choice.2.2.1 34 = .ok (.ifCond .eq 16, 3) := by decide +kernel
theorem d_X5_choice_37 : decode mX5_choice.2.2.1 37 = .ok (.aload_n 0, 1) := by decide +kernel
theorem d_X5_choice_38 : decode mX5_choice.2.2.1 38 = .ok (.bipush 41, 2) := by decide +kernel
theorem d_X5_choice_40 : decode mX5_choice.2.2.1 40 = .ok (.invokevirtual 209, 3) := by decide +kernel
theorem d_X5_choice_43 : decode mX5_choice.2.2.1 43 = .ok (.ifCond .eq 7, 3) := by decide +kernel
theorem d_X5_choice_46 : decode mX5_choice.2.2.1 46 = .ok (.iconst 1, 1) := by decide +kernel
theorem d_X5_choice_47 : decode mX5_choice.2.2.1 47 = .ok (.goto 4, 3) := by decide +kernel
theorem d_X5_plainFact_110 : decode mX5_plainFact.2.2.1 110 = .ok (.ifCond .ne 5, 3) := by decide +kernel
theorem d_X5_plainFact_115 : decode mX5_plainFact.2.2.1 115 = .ok (.aload_n 0, 1) := by decide +kernel
theorem d_X5_plainFact_116 : decode mX5_plainFact.2.2.1 116 = .ok (.bipush 60, 2) := by decide +kernel
theorem d_X5_plainFact_118 : decode mX5_plainFact.2.2.1 118 = .ok (.invokevirtual 77, 3) := by decide +kernel
theorem d_X5_plainFact_121 : decode mX5_plainFact.2.2.1 121 = .ok (.ifCond .eq 8, 3) := by decide +kernel
theorem d_X5_plainFact_129 : decode mX5_plainFact.2.2.1 129 = .ok (.aload_n 0, 1) := by decide +kernel
theorem d_X5_plainFact_130 : decode mX5_plainFact.2.2.1 130 = .ok (.bipush 62, 2) := by decide +kernel
theorem d_X5_plainFact_132 : decode mX5_plainFact.2.2.1 132 = .ok (.invokevirtual 77, 3) := by decide +kernel
theorem d_X5_plainFact_135 : decode mX5_plainFact.2.2.1 135 = .ok (.ifCond .eq 8, 3) := by decide +kernel
theorem d_X5_plainFact_143 : decode mX5_plainFact.2.2.1 143 = .ok (.aload_n 0, 1) := by decide +kernel
theorem d_X5_plainFact_144 : decode mX5_plainFact.2.2.1 144 = .ok (.bipush 61, 2) := by decide +kernel
theorem d_X5_plainFact_146 : decode mX5_plainFact.2.2.1 146 = .ok (.invokevirtual 77, 3) := by decide +kernel
theorem d_X5_plainFact_149 : decode mX5_plainFact.2.2.1 149 = .ok (.ifCond .eq 8, 3) := by decide +kernel
theorem d_X5_plainFact_157 : decode mX5_plainFact.2.2.1 157 = .ok (.iconst (-1), 1) := by decide +kernel
theorem d_X5_plainFact_152 : decode mX5_plainFact.2.2.1 152 = .ok (.bipush 15, 2) := by decide +kernel
theorem d_X5_plainFact_154 : decode mX5_plainFact.2.2.1 154 = .ok (.goto 4, 3) := by decide +kernel
theorem d_X5_plainFact_138 : decode mX5_plainFact.2.2.1 138 = .ok (.bipush 14, 2) := by decide +kernel
theorem d_X5_plainFact_140 : decode mX5_plainFact.2.2.1 140 = .ok (.goto 18, 3) := by decide +kernel
theorem d_X5_plainFact_124 : decode mX5_plainFact.2.2.1 124 = .ok (.bipush 13, 2) := by decide +kernel
theorem d_X5_plainFact_126 : decode mX5_plainFact.2.2.1 126 = .ok (.goto 32, 3) := by decide +kernel
theorem d_X5_plainFact_113 : decode mX5_plainFact.2.2.1 113 = .ok (.iconst 0, 1) := by decide +kernel
theorem d_X5_plainFact_114 : decode mX5_plainFact.2.2.1 114 = .ok (.ireturn, 1) := by decide +kernel
theorem d_X5_plainFact_72 : decode mX5_plainFact.2.2.1 72 = .ok (.aload_n 0, 1) := by decide +kernel
theorem d_X5_plainFact_73 : decode mX5_plainFact.2.2.1 73 = .ok (.invokevirtual 74, 3) := by decide +kernel
theorem d_X5_plainFact_76 : decode mX5_plainFact.2.2.1 76 = .ok (.pop, 1) := by decide +kernel
theorem d_X5_plainFact_77 : decode mX5_plainFact.2.2.1 77 = .ok (.aload_n 0, 1) := by decide +kernel
theorem d_X5_plainFact_78 : decode mX5_plainFact.2.2.1 78 = .ok (.iconst 0, 1) := by decide +kernel
theorem d_X5_plainFact_79 : decode mX5_plainFact.2.2.1 79 = .ok (.invokevirtual 186, 3) := by decide +kernel
theorem d_X5_plainFact_82 : decode mX5_plainFact.2.2.1 82 = .ok (.istore_n 1, 1) := by decide +kernel
theorem d_X5_plainFact_83 : decode mX5_plainFact.2.2.1 83 = .ok (.aload_n 0, 1) := by decide +kernel
theorem d_X5_plainFact_84 : decode mX5_plainFact.2.2.1 84 = .ok (.getfield 32, 3) := by decide +kernel
theorem d_X5_plainFact_87 : decode mX5_plainFact.2.2.1 87 = .ok (.iconst 4, 1) := by decide +kernel
theorem d_X5_plainFact_88 : decode mX5_plainFact.2.2.1 88 = .ok (.iload_n 1, 1) := by decide +kernel
theorem d_X5_plainFact_89 : decode mX5_plainFact.2.2.1 89 = .ok (.iconst 0, 1) := by decide +kernel
theorem d_X5_plainFact_90 : decode mX5_plainFact.2.2.1 90 = .ok (.invokestatic 192, 3) := by decide +kernel
theorem d_X5_plainFact_93 : decode mX5_plainFact.2.2.1 93 = .ok (.invokevirtual 215, 3) := by decide +kernel
theorem d_X5_plainFact_96 : decode mX5_plainFact.2.2.1 96 = .ok (.iload_n 1, 1) := by decide +kernel
theorem d_X5_plainFact_97 : decode mX5_plainFact.2.2.1 97 = .ok (.ifCond .lt 7, 3) := by decide +kernel
theorem d_X5_plainFact_104 : decode mX5_plainFact.2.2.1 104 = .ok (.iconst 0, 1) := by decide +kernel
theorem d_X5_plainFact_105 : decode mX5_plainFact.2.2.1 105 = .ok (.ireturn, 1) := by decide +kernel
theorem d_X5_plainFact_100 : decode mX5_plainFact.2.2.1 100 = .ok (.iconst 1, 1) := by decide +kernel
theorem d_X5_plainFact_101 : decode mX5_plainFact.2.2.1 101 = .ok (.goto 4, 3) := by decide +kernel
theorem d_X5_plainFact_49 : decode mX5_plainFact.2.2.1 49 = .ok (.aload_n 0, 1) := by decide +kernel
theorem d_X5_plainFact_50 : decode mX5_plainFact.2.2.1 50 = .ok (.getfield 32, 3) := by decide +kernel
theorem d_X5_plainFact_53 : decode mX5_plainFact.2.2.1 53 = .ok (.iconst 0, 1) := by decide +kernel
theorem d_X5_plainFact_54 : decode mX5_plainFact.2.2.1 54 = .ok (.iconst 1, 1) := by decide +kernel
theorem d_X5_plainFact_55 : decode mX5_plainFact.2.2.1 55 = .ok (.invokevirtual 215, 3) := by decide +kernel
theorem d_X5_plainFact_58 : decode mX5_plainFact.2.2.1 58 = .ok (.aload_n 0, 1) := by decide +kernel
theorem d_X5_plainFact_59 : decode mX5_plainFact.2.2.1 59 = .ok (.invokevirtual 74, 3) := by decide +kernel
theorem d_X5_plainFact_62 : decode mX5_plainFact.2.2.1 62 = .ok (.ireturn, 1) := by decide +kernel
theorem d_X5_plainFact_9 : decode mX5_plainFact.2.2.1 9 = .ok (.aload_n 0, 1) := by decide +kernel
theorem d_X5_plainFact_10 : decode mX5_plainFact.2.2.1 10 = .ok (.bipush 91, 2) := by decide +kernel
theorem d_X5_plainFact_12 : decode mX5_plainFact.2.2.1 12 = .ok (.invokevirtual 206, 3) := by decide +kernel
theorem d_X5_plainFact_15 : decode mX5_plainFact.2.2.1 15 = .ok (.ifCond .eq 23, 3) := by decide +kernel
theorem d_X5_plainFact_38 : decode mX5_plainFact.2.2.1 38 = .ok (.iconst 0, 1) := by decide +kernel
theorem d_X5_plainFact_39 : decode mX5_plainFact.2.2.1 39 = .ok (.ireturn, 1) := by decide +kernel
theorem d_X5_plainFact_18 : decode mX5_plainFact.2.2.1 18 = .ok (.aload_n 0, 1) := by decide +kernel
theorem d_X5_plainFact_19 : decode mX5_plainFact.2.2.1 19 = .ok (.invokevirtual 177, 3) := by decide +kernel
theorem d_X5_plainFact_158 : decode mX5_plainFact.2.2.1 158 = .ok (.istore_n 1, 1) := by decide +kernel
theorem d_X5_plainFact_159 : decode mX5_plainFact.2.2.1 159 = .ok (.iload_n 1, 1) := by decide +kernel
theorem d_X5_plainFact_160 : decode mX5_plainFact.2.2.1 160 = .ok (.ifCond .ge 9, 3) := by decide +kernel
theorem d_X5_plainFact_169 : decode mX5_plainFact.2.2.1 169 = .ok (.aload_n 0, 1) := by decide +kernel
theorem d_X5_plainFact_170 : decode mX5_plainFact.2.2.1 170 = .ok (.invokevirtual 74, 3) := by decide +kernel
theorem d_X5_plainFact_173 : decode mX5_plainFact.2.2.1 173 = .ok (.pop, 1) := by decide +kernel
theorem d_X5_plainFact_174 : decode mX5_plainFact.2.2.1 174 = .ok (.aload_n 0, 1) := by decide +kernel
theorem d_X5_plainFact_175 : decode mX5_plainFact.2.2.1 175 = .ok (.invokevirtual 174, 3) := by decide +kernel
theorem d_X5_plainFact_178 : decode mX5_plainFact.2.2.1 178 = .ok (.istore_n 2, 1) := by decide +kernel
theorem d_X5_plainFact_179 : decode mX5_plainFact.2.2.1 179 = .ok (.aload_n 0, 1) := by decide +kernel
theorem d_X5_plainFact_180 : decode mX5_plainFact.2.2.1 180 = .ok (.getfield 32, 3) := by decide +kernel
theorem d_X5_plainFact_183 : decode mX5_plainFact.2.2.1 183 = .ok (.iload_n 1, 1) := by decide +kernel
theorem d_X5_plainFact_184 : decode mX5_plainFact.2.2.1 184 = .ok (.iconst 0, 1) := by decide +kernel
theorem d_X5_plainFact_185 : decode mX5_plainFact.2.2.1 185 = .ok (.invokevirtual 215, 3) := by decide +kernel
theorem d_X5_plainFact_188 : decode mX5_plainFact.2.2.1 188 = .ok (.iload_n 2, 1) := by decide +kernel
theorem d_X5_plainFact_189 : decode mX5_plainFact.2.2.1 189 = .ok (.ireturn, 1) := by decide +kernel
theorem d_X5_plainFact_163 : decode mX5_plainFact.2.2.1 163 = .ok (.aload_n 0, 1) := by decide +kernel
theorem d_X5_plainFact_164 : decode mX5_plainFact.2.2.1 164 = .ok (.iconst 1, 1) := by decide +kernel
theorem d_X5_plainFact_165 : decode mX5_plainFact.2.2.1 165 = .ok (.invokevirtual 56, 3) := by decide +kernel
theorem d_X5_plainFact_168 : decode mX5_plainFact.2.2.1 168 = .ok (.ireturn, 1) := by decide +kernel
theorem ok_X5_plainFact : e_m mX5_plainFact 0 := ⟨tblG_in (inT4 (List.mem_of_getElem? (i := 170) rfl)) rfl, plainFor_of_name (by decide), rfl, ini_5, by decide +kernel, by decide⟩
theorem d_X5_fact_45 : decode mX5_fact.2.2.1 45 = .ok (.istore_n 2, 1) := by decide +kernel
theorem d_X5_fact_46 : decode mX5_fact.2.2.1 46 = .ok (.iload_n 1, 1) := by decide +kernel
theorem d_X5_fact_47 : decode mX5_fact.2.2.1 47 = .ok (.ifCond .eq 12, 3) := by decide +kernel
theorem d_X5_fact_59 : decode mX5_fact.2.2.1 59 = .ok (.iload_n 2, 1) := by decide +kernel
theorem d_X5_fact_60 : decode mX5_fact.2.2.1 60 = .ok (.ireturn, 1) := by decide +kernel
theorem d_X5_fact_34 : decode mX5_fact.2.2.1 34 = .ok (.istore_n 1, 1) := by decide +kernel
theorem d_X5_fact_35 : decode mX5_fact.2.2.1 35 = .ok (.iinc 2 1, 3) := by decide +kernel
theorem d_X5_fact_38 : decode mX5_fact.2.2.1 38 = .ok (.goto (-34), 3) := by decide +kernel
theorem d_X5_fact_33 : decode mX5_fact.2.2.1 33 = .ok (.iconst 0, 1) := by decide +kernel
theorem d_X5_fact_50 : decode mX5_fact.2.2.1 50 = .ok (.aload_n 0, 1) := by decide +kernel
theorem d_X5_fact_51 : decode mX5_fact.2.2.1 51 = .ok (.getfield 32, 3) := by decide +kernel
theorem d_X5_fact_54 : decode mX5_fact.2.2.1 54 = .ok (.iconst 5, 1) := by decide +kernel
theorem d_X5_fact_55 : decode mX5_fact.2.2.1 55 = .ok (.iconst 0, 1) := by decide +kernel
theorem d_X5_fact_56 : decode mX5_fact.2.2.1 56 = .ok (.invokevirtual 215, 3) := by decide +kernel
theorem ok_X5_fact : e_m mX5_fact 0 := ⟨tblG_in (inT4 (List.mem_of_getElem? (i := 166) rfl)) rfl, plainFor_of_name (by decide), rfl, ini_5, by decide +kernel, by decide⟩
theorem d_X5_both_4 : decode mX5_both.2.2.1 4 = .ok (.istore_n 1, 1) := by decide +kernel
theorem d_X5_both_5 : decode mX5_both.2.2.1 5 = .ok (.iconst 0, 1) := by decide +kernel
theorem d_X5_both_6 : decode mX5_both.2.2.1 6 = .ok (.istore_n 2, 1) := by decide +kernel
theorem d_X5_both_7 : decode mX5_both.2.2.1 7 = .ok (.iload_n 2, 1) := by decide +kernel
theorem d_X5_both_8 : decode mX5_both.2.2.1 8 = .ok (.sipush 900, 3) := by decide +kernel
theorem d_X5_both_11 : decode mX5_both.2.2.1 11 = .ok (.if_icmp .ge 42, 3) := by decide +kernel
theorem d_X5_both_14 : decode mX5_both.2.2.1 14 = .ok (.iload_n 1, 1) := by decide +kernel
theorem d_X5_both_15 : decode mX5_both.2.2.1 15 = .ok (.ifCond .eq 38, 3) := by decide +kernel
theorem d_X5_both_53 : decode mX5_both.2.2.1 53 = .ok (.iload_n 1, 1) := by decide +kernel
theorem d_X5_both_54 : decode mX5_both.2.2.1 54 = .ok (.ireturn, 1) := by decide +kernel
theorem d_X5_both_18 : decode mX5_both.2.2.1 18 = .ok (.aload_n 0, 1) := by decide +kernel
theorem d_X5_both_19 : decode mX5_both.2.2.1 19 = .ok (.bipush 20, 2) := by decide +kernel
theorem d_X5_both_21 : decode mX5_both.2.2.1 21 = .ok (.invokevirtual 71, 3) := by decide +kernel
theorem d_X5_both_24 : decode mX5_both.2.2.1 24 = .ok (.ifCond .eq 29, 3) := by decide +kernel
theorem d_X5_both_27 : decode mX5_both.2.2.1 27 = .ok (.aload_n 0, 1) := by decide +kernel
theorem d_X5_both_28 : decode mX5_both.2.2.1 28 = .ok (.invokevirtual 74, 3) := by decide +kernel
theorem d_X5_both_31 : decode mX5_both.2.2.1 31 = .ok (.pop, 1) := by decide +kernel
theorem d_X5_both_32 : decode mX5_both.2.2.1 32 = .ok (.aload_n 0, 1) := by decide +kernel
theorem d_X5_both_33 : decode mX5_both.2.2.1 33 = .ok (.invokevirtual 218, 3) := by decide +kernel
theorem d_X5_both_36 : decode mX5_both.2.2.1 36 = .ok (.istore_n 1, 1) := by decide +kernel
theorem d_X5_both_37 : decode mX5_both.2.2.1 37 = .ok (.aload_n 0, 1) := by decide +kernel
theorem d_X5_both_38 : decode mX5_both.2.2.1 38 = .ok (.getfield 32, 3) := by decide +kernel
theorem d_X5_both_41 : decode mX5_both.2.2.1 41 = .ok (.bipush 16, 2) := by decide +kernel
theorem d_X5_both_43 : decode mX5_both.2.2.1 43 = .ok (.iconst 0, 1) := by decide +kernel
theorem d_X5_both_44 : decode mX5_both.2.2.1 44 = .ok (.invokevirtual 215, 3) := by decide +kernel
theorem d_X5_both_47 : decode mX5_both.2.2.1 47 = .ok (.iinc 2 1, 3) := by decide +kernel
theorem d_X5_both_50 : decode mX5_both.2.2.1 50 = .ok (.goto (-43), 3) := by decide +kernel
theorem ok_X5_both : e_m mX5_both 0 := ⟨tblG_in (inT4 (List.mem_of_getElem? (i := 162) rfl)) rfl, plainFor_of_name (by decide), rfl, ini_5, by decide +kernel, by decide⟩
theorem d_X5_test_4 : decode mX5_test.2.2.1 4 = .ok (.istore_n 1, 1) := by decide +kernel
theorem d_X5_test_5 : decode mX5_test.2.2.1 5 = .ok (.iconst 0, 1) := by decide +kernel
theorem d_X5_test_6 : decode mX5_test.2.2.1 6 = .ok (.istore_n 2, 1) := by decide +kernel
theorem d_X5_test_7 : decode mX5_test.2.2.1 7 = .ok (.iload_n 2, 1) := by decide +kernel
theorem d_X5_test_8 : decode mX5_test.2.2.1 8 = .ok (.sipush 900, 3) := by decide +kernel
theorem d_X5_test_11 : decode mX5_test.2.2.1 11 = .ok (.if_icmp .ge 42, 3) := by decide +kernel
theorem d_X5_test_14 : decode mX5_test.2.2.1 14 = .ok (.iload_n 1, 1) := by decide +kernel
theorem d_X5_test_15 : decode mX5_test.2.2.1 15 = .ok (.ifCond .eq 38, 3) := by decide +kernel
theorem d_X5_test_53 : decode mX5_test.2.2.1 53 = .ok (.iload_n 1, 1) := by decide +kernel
theorem d_X5_test_54 : decode mX5_test.2.2.1 54 = .ok (.ireturn, 1) := by decide +kernel
theorem d_X5_test_18 : decode mX5_test.2.2.1 18 = .ok (.aload_n 0, 1) := by decide +kernel
theorem d_X5_test_19 : decode mX5_test.2.2.1 19 = .ok (.bipush 19, 2) := by decide +kernel
theorem d_X5_test_21 : decode mX5_test.2.2.1 21 = .ok (.invokevirtual 71, 3) := by decide +kernel
theorem d_X5_test_24 : decode mX5_test.2.2.1 24 = .ok (.ifCond .eq 29, 3) := by decide +kernel
theorem d_X5_test_27 : decode mX5_test.2.2.1 27 = .ok (.aload_n 0, 1) := by decide +kernel
theorem d_X5_test_28 : decode mX5_test.2.2.1 28 = .ok (.invokevirtual 74, 3) := by decide +kernel
theorem d_X5_test_31 : decode mX5_test.2.2.1 31 = .ok (.pop, 1) := by decide +kernel
theorem d_X5_test_32 : decode mX5_test.2.2.1 32 = .ok (.aload_n 0, 1) := by decide +kernel
theorem d_X5_test_33 : decode mX5_test.2.2.1 33 = .ok (.invokevirtual 212, 3) := by decide +kernel
theorem d_X5_test_36 : decode mX5_test.2.2.1 36 = .ok (.istore_n 1, 1) := by decide +kernel
theorem d_X5_test_37 : decode mX5_test.2.2.1 37 = .ok (.aload_n 0, 1) := by decide +kernel
theorem d_X5_test_38 : decode mX5_test.2.2.1 38 = .ok (.getfield 32, 3) := by decide +kernel
theorem d_X5_test_41 : decode mX5_test.2.2.1 41 = .ok (.bipush 17, 2) := by decide +kernel
theorem d_X5_test_43 : decode mX5_test.2.2.1 43 = .ok (.iconst 0, 1) := by decide +kernel
theorem d_X5_test_44 : decode mX5_test.2.2.1 44 = .ok (.invokevirtual 215, 3) := by decide +kernel
theorem d_X5_test_47 : decode mX5_test.2.2.1 47 = .ok (.iinc 2 1, 3) := by decide +kernel
theorem d_X5_test_50 : decode mX5_test.2.2.1 50 = .ok (.goto (-43), 3) := by decide +kernel
theorem ok_X5_test : e_m mX5_test 0 := ⟨tblG_in (inT4 (List.mem_of_getElem? (i := 158) rfl)) rfl, plainFor_of_name (by decide), rfl, ini_5, by decide +kernel, by decide⟩
theorem d_X5_plainFact_22 : decode mX5_plainFact.2.2.1 22 = .ok (.ifCond .eq 16, 3) := by decide +kernel
theorem d_X5_plainFact_25 : decode mX5_plainFact.2.2.1 25 = .ok (.aload_n 0, 1) := by decide +kernel
theorem d_X5_plainFact_26 : decode mX5_plainFact.2.2.1 26 = .ok (.bipush 93, 2) := by decide +kernel
theorem d_X5_plainFact_28 : decode mX5_plainFact.2.2.1 28 = .ok (.invokevirtual 209, 3) := by decide +kernel
theorem d_X5_plainFact_31 : decode mX5_plainFact.2.2.1 31 = .ok (.ifCond .eq 7, 3) := by decide +kernel
theorem d_X5_plainFact_34 : decode mX5_plainFact.2.2.1 34 = .ok (.iconst 1, 1) := by decide +kernel
theorem d_X5_plainFact_35 : decode mX5_plainFact.2.2.1 35 = .ok (.goto 4, 3) := by decide +kernel
theorem d_X5_order_202 : decode mX5_order.2.2.1 202 = .ok (.ifCond .eq 15, 3) := by decide +kernel
theorem d_X5_order_217 : decode mX5_order.2.2.1 217 = .ok (.iconst 0, 1) := by decide +kernel
theorem d_X5_order_218 : decode mX5_order.2.2.1 218 = .ok (.ireturn, 1) := by decide +kernel
theorem d_X5_order_205 : decode mX5_order.2.2.1 205 = .ok (.aload_n 0, 1) := by decide +kernel
theorem d_X5_order_206 : decode mX5_order.2.2.1 206 = .ok (.iload_n 1, 1) := by decide +kernel
theorem d_X5_order_207 : decode mX5_order.2.2.1 207 = .ok (.invokevirtual 180, 3) := by decide +kernel
theorem sel_X5_yesBlock : Cond.instanceMethod mX5_yesBlock.2.1 ∈ tblG ∧ Cond.selects mX5_yesBlock.2.1.cls mX5_yesBlock.2.1 mX5_yesBlock.2.1 ∈ tblG := ⟨tblG_in (inT4 (List.mem_of_getElem? (i := 173) rfl)) rfl, tblG_in (inP3 (q := (mX5_yesBlock.2.1, 7)) (List.mem_of_getElem? (i := 7) rfl)) rfl⟩
theorem s_5_180 : e_siteV 5 180 mX5_yesBlock 5 := ⟨tblG_in (inT4 (List.mem_of_getElem? (i := 171) rfl)) rfl, sel_X5_yesBlock.1, sel_X5_yesBlock.2, rfl⟩
theorem d_X5_block_12 : decode mX5_block.2.2.1 12 = .ok (.aload_n 0, 1) := by decide +kernel
theorem d_X5_block_13 : decode mX5_block.2.2.1 13 = .ok (.iload_n 1, 1) := by decide +kernel
theorem d_X5_block_14 : decode mX5_block.2.2.1 14 = .ok (.invokevirtual 46, 3) := by decide +kernel
theorem ok_X5_yesBlock : e_m mX5_yesBlock 1 := ⟨tblG_in (inT4 (List.mem_of_getElem? (i := 174) rfl)) rfl, plainFor_of_name (by decide), rfl, ini_5, by decide +kernel, by decide⟩
theorem d_X5_order_210 : decode mX5_order.2.2.1 210 = .ok (.ifCond .eq 7, 3) := by decide +kernel
theorem d_X5_order_169 : decode mX5_order.2.2.1 169 = .ok (.aload_n 0, 1) := by decide +kernel
theorem d_X5_order_170 : decode mX5_order.2.2.1 170 = .ok (.invokevirtual 177, 3) := by decide +kernel
theorem d_X5_order_173 : decode mX5_order.2.2.1 173 = .ok (.ifCond .eq 23, 3) := by decide +kernel
theorem d_X5_order_196 : decode mX5_order.2.2.1 196 = .ok (.iconst 0, 1) := by decide +kernel
theorem d_X5_order_197 : decode mX5_order.2.2.1 197 = .ok (.ireturn, 1) := by decide +kernel
theorem d_X5_order_176 : decode mX5_order.2.2.1 176 = .ok (.aload_n 0, 1) := by decide +kernel
theorem d_X5_order_177 : decode mX5_order.2.2.1 177 = .ok (.iload_n 1, 1) := by decide +kernel
theorem d_X5_order_178 : decode mX5_order.2.2.1 178 = .ok (.invokevirtual 180, 3) := by decide +kernel
theorem d_X5_order_181 : decode mX5_order.2.2.1 181 = .ok (.ifCond .eq 15, 3) := by decide +kernel
theorem d_X5_order_147 : decode mX5_order.2.2.1 147 = .ok (.aload_n 0, 1) := by decide +kernel
theorem d_X5_order_148 : decode mX5_order.2.2.1 148 = .ok (.invokevirtual 174, 3) := by decide +kernel
theorem d_X5_order_151 : decode mX5_order.2.2.1 151 = .ok (.ifCond .eq 16, 3) := by decide +kernel
theorem d_X5_order_167 : decode mX5_order.2.2.1 167 = .ok (.iconst 0, 1) := by decide +kernel
theorem d_X5_order_168 : decode mX5_order.2.2.1 168 = .ok (.ireturn, 1) := by decide +kernel
theorem d_X5_order_154 : decode mX5_order.2.2.1 154 = .ok (.aload_n 0, 1) := by decide +kernel
theorem d_X5_order_155 : decode mX5_order.2.2.1 155 = .ok (.bipush 59, 2) := by decide +kernel
theorem d_X5_order_157 : decode mX5_order.2.2.1 157 = .ok (.invokevirtual 81, 3) := by decide +kernel
theorem d_X5_order_160 : decode mX5_order.2.2.1 160 = .ok (.ifCond .eq 7, 3) := by decide +kernel
theorem d_X5_order_163 : decode mX5_order.2.2.1 163 = .ok (.iconst 1, 1) := by decide +kernel
theorem d_X5_order_164 : decode mX5_order.2.2.1 164 = .ok (.goto 4, 3) := by decide +kernel
theorem d_X5_order_123 : decode mX5_order.2.2.1 123 = .ok (.aload_n 0, 1) := by decide +kernel
theorem d_X5_order_124 : decode mX5_order.2.2.1 124 = .ok (.iload_n 1, 1) := by decide +kernel
theorem d_X5_order_125 : decode mX5_order.2.2.1 125 = .ok (.iconst 0, 1) := by decide +kernel
theorem d_X5_order_126 : decode mX5_order.2.2.1 126 = .ok (.invokevirtual 170, 3) := by decide +kernel
def mX5_about : MD := (5, yX5_about, cX5_about, 4, some .boolean)
theorem sel_X5_about : Cond.instanceMethod mX5_about.2.1 ∈ tblG ∧ Cond.selects mX5_about.2.1.cls mX5_about.2.1 mX5_about.2.1 ∈ tblG := ⟨tblG_in (inT4 (List.mem_of_getElem? (i := 112) rfl)) rfl, tblG_in (inP2 (q := (mX5_about.2.1, 7)) (List.mem_of_getElem? (i := 10) rfl)) rfl⟩
theorem s_5_170 : e_siteV 5 170 mX5_about 5 := ⟨tblG_in (inT4 (List.mem_of_getElem? (i := 110) rfl)) rfl, sel_X5_about.1, sel_X5_about.2, rfl⟩
theorem d_X5_about_0 : decode mX5_about.2.2.1 0 = .ok (.aload_n 0, 1) := by decide +kernel
theorem d_X5_about_1 : decode mX5_about.2.2.1 1 = .ok (.iload_n 2, 1) := by decide +kernel
theorem d_X5_about_2 : decode mX5_about.2.2.1 2 = .ok (.invokevirtual 186, 3) := by decide +kernel
theorem d_X5_about_5 : decode mX5_about.2.2.1 5 = .ok (.istore_n 3, 1) := by decide +kernel
theorem d_X5_about_6 : decode mX5_about.2.2.1 6 = .ok (.aload_n 0, 1) := by decide +kernel
theorem d_X5_about_7 : decode mX5_about.2.2.1 7 = .ok (.getfield 32, 3) := by decide +kernel
theorem d_X5_about_10 : decode mX5_about.2.2.1 10 = .ok (.getfield 189, 3) := by decide +kernel
theorem f_5_189 : e_fld 5 189 4 2 13 2 true := ⟨RX4, TX4, 2, rfl, rfl, by decide, rfl, rfl, rfl, iX4, tblG_in (inT1 (List.mem_of_getElem? (i := 113) rfl)) rfl, tyX4_ok, nmX4⟩
theorem d_X5_about_13 : decode mX5_about.2.2.1 13 = .ok (.iload_n 1, 1) := by decide +kernel
theorem d_X5_about_14 : decode mX5_about.2.2.1 14 = .ok (.iload_n 3, 1) := by decide +kernel
theorem d_X5_about_15 : decode mX5_about.2.2.1 15 = .ok (.iconst 0, 1) := by decide +kernel
theorem d_X5_about_16 : decode mX5_about.2.2.1 16 = .ok (.invokestatic 192, 3) := by decide +kernel
theorem d_X5_about_19 : decode mX5_about.2.2.1 19 = .ok (.iastore, 1) := by decide +kernel
theorem d_X5_about_20 : decode mX5_about.2.2.1 20 = .ok (.iload_n 3, 1) := by decide +kernel
theorem d_X5_about_21 : decode mX5_about.2.2.1 21 = .ok (.ifCond .lt 7, 3) := by decide +kernel
end
/-! 33.07 -/
section
theorem d_X5_about_28 : decode mX5_about.2.2.1 28 = .ok (.iconst 0, 1) := by decide +kernel
theorem d_X5_about_29 : decode mX5_about.2.2.1 29 = .ok (.ireturn, 1) := by decide +kernel
theorem d_X5_about_24 : decode mX5_about.2.2.1 24 = .ok (.iconst 1, 1) := by decide +kernel
theorem d_X5_about_25 : decode mX5_about.2.2.1 25 = .ok (.goto 4, 3) := by decide +kernel
theorem ok_X5_about : e_m mX5_about 2 := ⟨tblG_in (inT4 (List.mem_of_getElem? (i := 113) rfl)) rfl, plainFor_of_name (by decide), rfl, ini_5, by decide +kernel, by decide⟩
theorem d_X5_order_129 : decode mX5_order.2.2.1 129 = .ok (.ifCond .eq 16, 3) := by decide +kernel
theorem d_X5_order_145 : decode mX5_order.2.2.1 145 = .ok (.iconst 0, 1) := by decide +kernel
theorem d_X5_order_146 : decode mX5_order.2.2.1 146 = .ok (.ireturn, 1) := by decide +kernel
theorem d_X5_order_132 : decode mX5_order.2.2.1 132 = .ok (.aload_n 0, 1) := by decide +kernel
theorem d_X5_order_133 : decode mX5_order.2.2.1 133 = .ok (.bipush 59, 2) := by decide +kernel
theorem d_X5_order_135 : decode mX5_order.2.2.1 135 = .ok (.invokevirtual 81, 3) := by decide +kernel
theorem d_X5_order_138 : decode mX5_order.2.2.1 138 = .ok (.ifCond .eq 7, 3) := by decide +kernel
theorem d_X5_order_141 : decode mX5_order.2.2.1 141 = .ok (.iconst 1, 1) := by decide +kernel
theorem d_X5_order_142 : decode mX5_order.2.2.1 142 = .ok (.goto 4, 3) := by decide +kernel
theorem d_X5_order_92 : decode mX5_order.2.2.1 92 = .ok (.aload_n 0, 1) := by decide +kernel
theorem d_X5_order_93 : decode mX5_order.2.2.1 93 = .ok (.iload_n 1, 1) := by decide +kernel
theorem d_X5_order_94 : decode mX5_order.2.2.1 94 = .ok (.iconst 0, 1) := by decide +kernel
theorem d_X5_order_95 : decode mX5_order.2.2.1 95 = .ok (.invokevirtual 170, 3) := by decide +kernel
theorem d_X5_order_98 : decode mX5_order.2.2.1 98 = .ok (.ifCond .eq 23, 3) := by decide +kernel
theorem d_X5_order_121 : decode mX5_order.2.2.1 121 = .ok (.iconst 0, 1) := by decide +kernel
theorem d_X5_order_122 : decode mX5_order.2.2.1 122 = .ok (.ireturn, 1) := by decide +kernel
theorem d_X5_order_101 : decode mX5_order.2.2.1 101 = .ok (.aload_n 0, 1) := by decide +kernel
theorem d_X5_order_102 : decode mX5_order.2.2.1 102 = .ok (.invokevirtual 174, 3) := by decide +kernel
theorem d_X5_order_105 : decode mX5_order.2.2.1 105 = .ok (.ifCond .eq 16, 3) := by decide +kernel
theorem d_X5_order_108 : decode mX5_order.2.2.1 108 = .ok (.aload_n 0, 1) := by decide +kernel
theorem d_X5_order_109 : decode mX5_order.2.2.1 109 = .ok (.bipush 59, 2) := by decide +kernel
theorem d_X5_order_111 : decode mX5_order.2.2.1 111 = .ok (.invokevirtual 81, 3) := by decide +kernel
theorem d_X5_order_114 : decode mX5_order.2.2.1 114 = .ok (.ifCond .eq 7, 3) := by decide +kernel
theorem d_X5_order_117 : decode mX5_order.2.2.1 117 = .ok (.iconst 1, 1) := by decide +kernel
theorem d_X5_order_118 : decode mX5_order.2.2.1 118 = .ok (.goto 4, 3) := by decide +kernel
theorem d_X5_order_52 : decode mX5_order.2.2.1 52 = .ok (.aload_n 0, 1) := by decide +kernel
theorem d_X5_order_53 : decode mX5_order.2.2.1 53 = .ok (.iload_n 1, 1) := by decide +kernel
theorem d_X5_order_54 : decode mX5_order.2.2.1 54 = .ok (.iconst 2, 1) := by decide +kernel
theorem d_X5_order_55 : decode mX5_order.2.2.1 55 = .ok (.invokevirtual 170, 3) := by decide +kernel
theorem d_X5_order_58 : decode mX5_order.2.2.1 58 = .ok (.ifCond .eq 32, 3) := by decide +kernel
theorem d_X5_order_90 : decode mX5_order.2.2.1 90 = .ok (.iconst 0, 1) := by decide +kernel
theorem d_X5_order_91 : decode mX5_order.2.2.1 91 = .ok (.ireturn, 1) := by decide +kernel
theorem d_X5_order_61 : decode mX5_order.2.2.1 61 = .ok (.aload_n 0, 1) := by decide +kernel
theorem d_X5_order_62 : decode mX5_order.2.2.1 62 = .ok (.bipush 61, 2) := by decide +kernel
theorem d_X5_order_64 : decode mX5_order.2.2.1 64 = .ok (.invokevirtual 81, 3) := by decide +kernel
theorem d_X5_order_67 : decode mX5_order.2.2.1 67 = .ok (.ifCond .eq 23, 3) := by decide +kernel
theorem d_X5_order_70 : decode mX5_order.2.2.1 70 = .ok (.aload_n 0, 1) := by decide +kernel
theorem d_X5_order_71 : decode mX5_order.2.2.1 71 = .ok (.invokevirtual 174, 3) := by decide +kernel
theorem d_X5_order_74 : decode mX5_order.2.2.1 74 = .ok (.ifCond .eq 16, 3) := by decide +kernel
theorem d_X5_order_77 : decode mX5_order.2.2.1 77 = .ok (.aload_n 0, 1) := by decide +kernel
theorem d_X5_order_78 : decode mX5_order.2.2.1 78 = .ok (.bipush 59, 2) := by decide +kernel
theorem d_X5_order_80 : decode mX5_order.2.2.1 80 = .ok (.invokevirtual 81, 3) := by decide +kernel
theorem d_X5_order_83 : decode mX5_order.2.2.1 83 = .ok (.ifCond .eq 7, 3) := by decide +kernel
theorem d_X5_order_86 : decode mX5_order.2.2.1 86 = .ok (.iconst 1, 1) := by decide +kernel
theorem d_X5_order_87 : decode mX5_order.2.2.1 87 = .ok (.goto 4, 3) := by decide +kernel
theorem ok_X5_order : e_m mX5_order 1 := ⟨tblG_in (inT4 (List.mem_of_getElem? (i := 109) rfl)) rfl, plainFor_of_name (by decide), rfl, ini_5, by decide +kernel, by decide⟩
theorem d_X5_orders_99 : decode mX5_orders.2.2.1 99 = .ok (.ifCond .ne 6, 3) := by decide +kernel
theorem d_X5_orders_105 : decode mX5_orders.2.2.1 105 = .ok (.iinc 4 1, 3) := by decide +kernel
theorem d_X5_orders_108 : decode mX5_orders.2.2.1 108 = .ok (.goto (-101), 3) := by decide +kernel
theorem d_X5_orders_102 : decode mX5_orders.2.2.1 102 = .ok (.bipush (-2), 2) := by decide +kernel
theorem d_X5_orders_104 : decode mX5_orders.2.2.1 104 = .ok (.ireturn, 1) := by decide +kernel
theorem d_X5_orders_74 : decode mX5_orders.2.2.1 74 = .ok (.aload_n 0, 1) := by decide +kernel
theorem d_X5_orders_75 : decode mX5_orders.2.2.1 75 = .ok (.getfield 32, 3) := by decide +kernel
theorem d_X5_orders_78 : decode mX5_orders.2.2.1 78 = .ok (.getfield 163, 3) := by decide +kernel
theorem f_5_163 : e_fld 5 163 4 6 13 2 true := ⟨RX4, TX4, 6, rfl, rfl, by decide, rfl, rfl, rfl, iX4, tblG_in (inT1 (List.mem_of_getElem? (i := 123) rfl)) rfl, tyX4_ok, nmX4⟩
theorem d_X5_orders_81 : decode mX5_orders.2.2.1 81 = .ok (.iload_n 3, 1) := by decide +kernel
theorem d_X5_orders_82 : decode mX5_orders.2.2.1 82 = .ok (.iload 5, 2) := by decide +kernel
theorem d_X5_orders_84 : decode mX5_orders.2.2.1 84 = .ok (.iastore, 1) := by decide +kernel
theorem ok_X5_orders : e_m mX5_orders 1 := ⟨tblG_in (inT4 (List.mem_of_getElem? (i := 97) rfl)) rfl, plainFor_of_name (by decide), rfl, ini_5, by decide +kernel, by decide⟩
theorem d_X5_block_17 : decode mX5_block.2.2.1 17 = .ok (.istore_n 2, 1) := by decide +kernel
theorem d_X5_block_18 : decode mX5_block.2.2.1 18 = .ok (.iload_n 2, 1) := by decide +kernel
theorem d_X5_block_19 : decode mX5_block.2.2.1 19 = .ok (.bipush (-2), 2) := by decide +kernel
theorem d_X5_block_21 : decode mX5_block.2.2.1 21 = .ok (.if_icmp .eq 12, 3) := by decide +kernel
theorem d_X5_block_33 : decode mX5_block.2.2.1 33 = .ok (.bipush (-2), 2) := by decide +kernel
theorem d_X5_block_35 : decode mX5_block.2.2.1 35 = .ok (.ireturn, 1) := by decide +kernel
theorem d_X5_block_24 : decode mX5_block.2.2.1 24 = .ok (.aload_n 0, 1) := by decide +kernel
theorem d_X5_block_25 : decode mX5_block.2.2.1 25 = .ok (.bipush 125, 2) := by decide +kernel
theorem d_X5_block_27 : decode mX5_block.2.2.1 27 = .ok (.invokevirtual 209, 3) := by decide +kernel
theorem d_X5_block_30 : decode mX5_block.2.2.1 30 = .ok (.ifCond .ne 6, 3) := by decide +kernel
theorem d_X5_block_36 : decode mX5_block.2.2.1 36 = .ok (.iload_n 2, 1) := by decide +kernel
theorem d_X5_block_37 : decode mX5_block.2.2.1 37 = .ok (.ireturn, 1) := by decide +kernel
theorem d_X5_yesBlock_22 : decode mX5_yesBlock.2.2.1 22 = .ok (.iconst 1, 1) := by decide +kernel
theorem d_X5_yesBlock_23 : decode mX5_yesBlock.2.2.1 23 = .ok (.goto 4, 3) := by decide +kernel
theorem d_X5_order_213 : decode mX5_order.2.2.1 213 = .ok (.iconst 1, 1) := by decide +kernel
theorem d_X5_order_214 : decode mX5_order.2.2.1 214 = .ok (.goto 4, 3) := by decide +kernel
theorem d_X5_order_184 : decode mX5_order.2.2.1 184 = .ok (.aload_n 0, 1) := by decide +kernel
theorem d_X5_order_185 : decode mX5_order.2.2.1 185 = .ok (.iload_n 1, 1) := by decide +kernel
theorem d_X5_order_186 : decode mX5_order.2.2.1 186 = .ok (.invokevirtual 183, 3) := by decide +kernel
def mX5_noBlock : MD := (5, yX5_noBlock, cX5_noBlock, 3, some .boolean)
theorem sel_X5_noBlock : Cond.instanceMethod mX5_noBlock.2.1 ∈ tblG ∧ Cond.selects mX5_noBlock.2.1.cls mX5_noBlock.2.1 mX5_noBlock.2.1 ∈ tblG := ⟨tblG_in (inT4 (List.mem_of_getElem? (i := 181) rfl)) rfl, tblG_in (inP3 (q := (mX5_noBlock.2.1, 7)) (List.mem_of_getElem? (i := 9) rfl)) rfl⟩
theorem s_5_183 : e_siteV 5 183 mX5_noBlock 5 := ⟨tblG_in (inT4 (List.mem_of_getElem? (i := 179) rfl)) rfl, sel_X5_noBlock.1, sel_X5_noBlock.2, rfl⟩
theorem d_X5_noBlock_0 : decode mX5_noBlock.2.2.1 0 = .ok (.aload_n 0, 1) := by decide +kernel
theorem d_X5_noBlock_1 : decode mX5_noBlock.2.2.1 1 = .ok (.bipush 13, 2) := by decide +kernel
theorem d_X5_noBlock_3 : decode mX5_noBlock.2.2.1 3 = .ok (.invokevirtual 71, 3) := by decide +kernel
theorem d_X5_noBlock_6 : decode mX5_noBlock.2.2.1 6 = .ok (.ifCond .ne 5, 3) := by decide +kernel
theorem d_X5_noBlock_11 : decode mX5_noBlock.2.2.1 11 = .ok (.aload_n 0, 1) := by decide +kernel
theorem d_X5_noBlock_12 : decode mX5_noBlock.2.2.1 12 = .ok (.invokevirtual 74, 3) := by decide +kernel
theorem d_X5_noBlock_15 : decode mX5_noBlock.2.2.1 15 = .ok (.pop, 1) := by decide +kernel
theorem d_X5_noBlock_16 : decode mX5_noBlock.2.2.1 16 = .ok (.aload_n 0, 1) := by decide +kernel
theorem d_X5_noBlock_17 : decode mX5_noBlock.2.2.1 17 = .ok (.iload_n 1, 1) := by decide +kernel
theorem d_X5_noBlock_18 : decode mX5_noBlock.2.2.1 18 = .ok (.invokevirtual 197, 3) := by decide +kernel
theorem d_X5_noBlock_21 : decode mX5_noBlock.2.2.1 21 = .ok (.istore_n 2, 1) := by decide +kernel
theorem d_X5_noBlock_22 : decode mX5_noBlock.2.2.1 22 = .ok (.aload_n 0, 1) := by decide +kernel
theorem d_X5_noBlock_23 : decode mX5_noBlock.2.2.1 23 = .ok (.getfield 32, 3) := by decide +kernel
theorem d_X5_noBlock_26 : decode mX5_noBlock.2.2.1 26 = .ok (.getfield 203, 3) := by decide +kernel
theorem f_5_203 : e_fld 5 203 4 5 13 2 true := ⟨RX4, TX4, 5, rfl, rfl, by decide, rfl, rfl, rfl, iX4, tblG_in (inT1 (List.mem_of_getElem? (i := 121) rfl)) rfl, tyX4_ok, nmX4⟩
theorem d_X5_noBlock_29 : decode mX5_noBlock.2.2.1 29 = .ok (.iload_n 1, 1) := by decide +kernel
theorem d_X5_noBlock_30 : decode mX5_noBlock.2.2.1 30 = .ok (.iload_n 2, 1) := by decide +kernel
theorem d_X5_noBlock_31 : decode mX5_noBlock.2.2.1 31 = .ok (.iastore, 1) := by decide +kernel
theorem d_X5_noBlock_32 : decode mX5_noBlock.2.2.1 32 = .ok (.iload_n 2, 1) := by decide +kernel
theorem d_X5_noBlock_33 : decode mX5_noBlock.2.2.1 33 = .ok (.bipush (-2), 2) := by decide +kernel
theorem d_X5_noBlock_35 : decode mX5_noBlock.2.2.1 35 = .ok (.if_icmp .eq 7, 3) := by decide +kernel
theorem d_X5_noBlock_42 : decode mX5_noBlock.2.2.1 42 = .ok (.iconst 0, 1) := by decide +kernel
theorem d_X5_noBlock_43 : decode mX5_noBlock.2.2.1 43 = .ok (.ireturn, 1) := by decide +kernel
theorem d_X5_noBlock_38 : decode mX5_noBlock.2.2.1 38 = .ok (.iconst 1, 1) := by decide +kernel
theorem d_X5_noBlock_39 : decode mX5_noBlock.2.2.1 39 = .ok (.goto 4, 3) := by decide +kernel
theorem d_X5_noBlock_9 : decode mX5_noBlock.2.2.1 9 = .ok (.iconst 1, 1) := by decide +kernel
theorem d_X5_noBlock_10 : decode mX5_noBlock.2.2.1 10 = .ok (.ireturn, 1) := by decide +kernel
theorem ok_X5_noBlock : e_m mX5_noBlock 1 := ⟨tblG_in (inT4 (List.mem_of_getElem? (i := 182) rfl)) rfl, plainFor_of_name (by decide), rfl, ini_5, by decide +kernel, by decide⟩
theorem d_X5_order_189 : decode mX5_order.2.2.1 189 = .ok (.ifCond .eq 7, 3) := by decide +kernel
theorem d_X5_order_192 : decode mX5_order.2.2.1 192 = .ok (.iconst 1, 1) := by decide +kernel
theorem d_X5_order_193 : decode mX5_order.2.2.1 193 = .ok (.goto 4, 3) := by decide +kernel
theorem d_X5_read_57 : decode mX5_read.2.2.1 57 = .ok (.bipush (-2), 2) := by decide +kernel
theorem d_X5_read_59 : decode mX5_read.2.2.1 59 = .ok (.if_icmp .ne 5, 3) := by decide +kernel
theorem d_X5_read_64 : decode mX5_read.2.2.1 64 = .ok (.aload_n 0, 1) := by decide +kernel
theorem d_X5_read_65 : decode mX5_read.2.2.1 65 = .ok (.getfield 18, 3) := by decide +kernel
theorem d_X5_read_68 : decode mX5_read.2.2.1 68 = .ok (.getfield 50, 3) := by decide +kernel
theorem d_X5_read_71 : decode mX5_read.2.2.1 71 = .ok (.aload_n 0, 1) := by decide +kernel
theorem d_X5_read_72 : decode mX5_read.2.2.1 72 = .ok (.getfield 36, 3) := by decide +kernel
theorem d_X5_read_75 : decode mX5_read.2.2.1 75 = .ok (.iaload, 1) := by decide +kernel
theorem d_X5_read_76 : decode mX5_read.2.2.1 76 = .ok (.ifCond .eq 9, 3) := by decide +kernel
theorem d_X5_read_85 : decode mX5_read.2.2.1 85 = .ok (.aload_n 0, 1) := by decide +kernel
theorem d_X5_read_86 : decode mX5_read.2.2.1 86 = .ok (.getfield 32, 3) := by decide +kernel
theorem d_X5_read_89 : decode mX5_read.2.2.1 89 = .ok (.invokevirtual 60, 3) := by decide +kernel
theorem sel_X4_link : Cond.instanceMethod mX4_link.2.1 ∈ tblG ∧ Cond.selects mX4_link.2.1.cls mX4_link.2.1 mX4_link.2.1 ∈ tblG := ⟨tblG_in (inT4 (List.mem_of_getElem? (i := 184) rfl)) rfl, tblG_in (inT4 (List.mem_of_getElem? (i := 185) rfl)) rfl⟩
theorem s_5_60 : e_siteV 5 60 mX4_link 4 := ⟨tblG_in (inT4 (List.mem_of_getElem? (i := 183) rfl)) rfl, sel_X4_link.1, sel_X4_link.2, rfl⟩
theorem ok_X4_link : e_m mX4_link 0 := ⟨tblG_in (inT4 (List.mem_of_getElem? (i := 186) rfl)) rfl, plainFor_of_name (by decide), rfl, ini_4, by decide +kernel, by decide⟩
theorem d_X5_read_92 : decode mX5_read.2.2.1 92 = .ok (.iconst 1, 1) := by decide +kernel
theorem d_X5_read_93 : decode mX5_read.2.2.1 93 = .ok (.ireturn, 1) := by decide +kernel
theorem d_X5_read_79 : decode mX5_read.2.2.1 79 = .ok (.aload_n 0, 1) := by decide +kernel
theorem d_X5_read_80 : decode mX5_read.2.2.1 80 = .ok (.iconst 1, 1) := by decide +kernel
theorem d_X5_read_81 : decode mX5_read.2.2.1 81 = .ok (.invokevirtual 56, 3) := by decide +kernel
theorem d_X5_read_84 : decode mX5_read.2.2.1 84 = .ok (.ireturn, 1) := by decide +kernel
theorem ok_X5_read : e_m mX5_read 2 := ⟨tblG_in (inT4 (List.mem_of_getElem? (i := 16) rfl)) rfl, plainFor_of_name (by decide), rfl, ini_5, by decide +kernel, by decide⟩
theorem d_X11_text_35 : decode mX11_text.2.2.1 35 = .ok (.ifCond .ne 5, 3) := by decide +kernel
theorem d_X11_text_40 : decode mX11_text.2.2.1 40 = .ok (.aload_n 0, 1) := by decide +kernel
theorem d_X11_text_41 : decode mX11_text.2.2.1 41 = .ok (.getfield 30, 3) := by decide +kernel
theorem d_X11_text_44 : decode mX11_text.2.2.1 44 = .ok (.astore_n 1, 1) := by decide +kernel
theorem d_X11_text_45 : decode mX11_text.2.2.1 45 = .ok (.aload_n 0, 1) := by decide +kernel
theorem d_X11_text_46 : decode mX11_text.2.2.1 46 = .ok (.aload_n 0, 1) := by decide +kernel
theorem d_X11_text_47 : decode mX11_text.2.2.1 47 = .ok (.getfield 34, 3) := by decide +kernel
theorem d_X11_text_50 : decode mX11_text.2.2.1 50 = .ok (.putfield 30, 3) := by decide +kernel
theorem d_X11_text_53 : decode mX11_text.2.2.1 53 = .ok (.aload_n 0, 1) := by decide +kernel
theorem d_X11_text_54 : decode mX11_text.2.2.1 54 = .ok (.aload_n 1, 1) := by decide +kernel
theorem d_X11_text_55 : decode mX11_text.2.2.1 55 = .ok (.putfield 34, 3) := by decide +kernel
theorem d_X11_text_58 : decode mX11_text.2.2.1 58 = .ok (.aload_n 0, 1) := by decide +kernel
theorem d_X11_text_59 : decode mX11_text.2.2.1 59 = .ok (.getfield 30, 3) := by decide +kernel
theorem d_X11_text_62 : decode mX11_text.2.2.1 62 = .ok (.getfield 100, 3) := by decide +kernel
theorem d_X11_text_65 : decode mX11_text.2.2.1 65 = .ok (.iconst 0, 1) := by decide +kernel
theorem d_X11_text_66 : decode mX11_text.2.2.1 66 = .ok (.aload_n 0, 1) := by decide +kernel
theorem d_X11_text_67 : decode mX11_text.2.2.1 67 = .ok (.getfield 37, 3) := by decide +kernel
theorem d_X11_text_70 : decode mX11_text.2.2.1 70 = .ok (.iconst 0, 1) := by decide +kernel
theorem d_X11_text_71 : decode mX11_text.2.2.1 71 = .ok (.iconst 3, 1) := by decide +kernel
theorem d_X11_text_72 : decode mX11_text.2.2.1 72 = .ok (.invokestatic 103, 3) := by decide +kernel
theorem ac_11_103 : Cond.methodLink (e_cn 11) 103 arraycopyName ∈ tblG := tblG_in (inT4 (List.mem_of_getElem? (i := 191) rfl)) rfl
theorem d_X11_text_75 : decode mX11_text.2.2.1 75 = .ok (.aload_n 0, 1) := by decide +kernel
theorem d_X11_text_76 : decode mX11_text.2.2.1 76 = .ok (.iconst 0, 1) := by decide +kernel
theorem d_X11_text_77 : decode mX11_text.2.2.1 77 = .ok (.putfield 109, 3) := by decide +kernel
theorem d_X11_text_80 : decode mX11_text.2.2.1 80 = .ok (.aload_n 0, 1) := by decide +kernel
theorem d_X11_text_81 : decode mX11_text.2.2.1 81 = .ok (.getfield 63, 3) := by decide +kernel
theorem d_X11_text_84 : decode mX11_text.2.2.1 84 = .ok (.invokevirtual 113, 3) := by decide +kernel
theorem sel_X10_clear : Cond.instanceMethod mX10_clear.2.1 ∈ tblG ∧ Cond.selects mX10_clear.2.1.cls mX10_clear.2.1 mX10_clear.2.1 ∈ tblG := ⟨tblG_in (inT4 (List.mem_of_getElem? (i := 195) rfl)) rfl, tblG_in (inT4 (List.mem_of_getElem? (i := 196) rfl)) rfl⟩
theorem s_11_113 : e_siteV 11 113 mX10_clear 10 := ⟨tblG_in (inT4 (List.mem_of_getElem? (i := 194) rfl)) rfl, sel_X10_clear.1, sel_X10_clear.2, rfl⟩
theorem ok_X10_clear : e_m mX10_clear 0 := ⟨tblG_in (inT4 (List.mem_of_getElem? (i := 197) rfl)) rfl, plainFor_of_name (by decide), rfl, ini_10, by decide +kernel, by decide⟩
theorem d_X11_text_87 : decode mX11_text.2.2.1 87 = .ok (.aload_n 0, 1) := by decide +kernel
theorem d_X11_text_88 : decode mX11_text.2.2.1 88 = .ok (.getfield 70, 3) := by decide +kernel
theorem d_X11_text_91 : decode mX11_text.2.2.1 91 = .ok (.invokevirtual 114, 3) := by decide +kernel
theorem sel_X2_clear : Cond.instanceMethod mX2_clear.2.1 ∈ tblG ∧ Cond.selects mX2_clear.2.1.cls mX2_clear.2.1 mX2_clear.2.1 ∈ tblG := ⟨tblG_in (inT4 (List.mem_of_getElem? (i := 199) rfl)) rfl, tblG_in (inT4 (List.mem_of_getElem? (i := 200) rfl)) rfl⟩
theorem s_11_114 : e_siteV 11 114 mX2_clear 2 := ⟨tblG_in (inT4 (List.mem_of_getElem? (i := 198) rfl)) rfl, sel_X2_clear.1, sel_X2_clear.2, rfl⟩
theorem ok_X2_clear : e_m mX2_clear 0 := ⟨tblG_in (inT4 (List.mem_of_getElem? (i := 201) rfl)) rfl, plainFor_of_name (by decide), rfl, ini_2, by decide +kernel, by decide⟩
theorem d_X11_text_94 : decode mX11_text.2.2.1 94 = .ok (.aload_n 0, 1) := by decide +kernel
theorem d_X11_text_95 : decode mX11_text.2.2.1 95 = .ok (.getfield 30, 3) := by decide +kernel
theorem d_X11_text_98 : decode mX11_text.2.2.1 98 = .ok (.getfield 115, 3) := by decide +kernel
theorem d_X11_text_101 : decode mX11_text.2.2.1 101 = .ok (.getfield 119, 3) := by decide +kernel
theorem d_X11_text_104 : decode mX11_text.2.2.1 104 = .ok (.ireturn, 1) := by decide +kernel
theorem d_X11_text_38 : decode mX11_text.2.2.1 38 = .ok (.iconst (-1), 1) := by decide +kernel
theorem d_X11_text_39 : decode mX11_text.2.2.1 39 = .ok (.ireturn, 1) := by decide +kernel
end
/-! 34.00 -/
section
def ws_X3_letterOf_7 : List (Int × Int) := []
def as_X3_letterOf_7 : List Int := []
def q_X3_letterOf_7 (M0 M' : Mem) (r : Option PV) : Prop := St Tru ws_X3_letterOf_7 as_X3_letterOf_7 M0 M' ∧ ∃ v : Int, r = some (0, v) ∧ (-2147483648) ≤ v ∧ v ≤ 2147483647
set_option maxRecDepth 100000 in
set_option maxHeartbeats 4000000 in
theorem sp_X3_letterOf_7 {l : Launch} {K : EC} {M0 : Mem} {xq : Int} (hI : In Tru M0) (hE : e_all K xq)  (a1 : Int) (ha1 : 0 ≤ a1 ∧ a1 ≤ 2) (a2 : Int) (ha2 : 0 ≤ a2 ∧ a2 ≤ 5) (a3 : Int) (ha3 : (-2147483648) ≤ a3 ∧ a3 ≤ 2147483647)  : Tr l K 0 mX3_letterOf 0 [(0, (2, 7)), (1, (0, a1)), (2, (0, a2)), (3, (0, a3))] [] M0 (q_X3_letterOf_7 M0) := by
  have hS : St Tru ws_X3_letterOf_7 as_X3_letterOf_7 M0 M0 := St.rf hI
  refine Tr.aload_n (pc := 0) (i := 0) d_X3_letterOf_0 rfl rfl ?_
  refine Tr.getf (pc := 1) d_X3_letterOf_1 f_3_30 (by decide) (by decide) (ty_7 hS.1.1) ?_
  refine Tr.tp 14 (fx_7_10 hS.1.1) ?_
  refine Tr.gets (pc := 4) d_X3_letterOf_4 sl_3_65 hE.2.2.2.2.1 ?_
  refine Tr.iload_n (pc := 7) (i := 1) d_X3_letterOf_7 rfl rfl ?_
  refine Tr.xld (pc := 8) (i := 2) d_X3_letterOf_8 rfl hE.2.1 (by omega) (by omega) ?_
  refine Tr.gen (P := fun v => 0 ≤ v ∧ v ≤ 9) (xT_b (q := xr_2) (by decide +kernel) (by decide) _) (fun r8 er8 br8 => ?_)
  refine Tr.iload_n (pc := 9) (i := 2) d_X3_letterOf_9 rfl rfl ?_
  refine Tr.iadd (pc := 10) d_X3_letterOf_10 ?_
  refine Tr.tp (a2 + r8) ((w32_id (by omega)).trans (by omega)) ?_
  refine Tr.iald (pc := 11) d_X3_letterOf_11 (ty_14 hS.1.1) (by omega) (by omega) ?_
  refine Tr.gen (P := fun v => (-2147483648) ≤ v ∧ v ≤ 2147483647) (ar_14 hS.1.2.1 _) (fun r11 er11 br11 => ?_)
  refine Tr.istore (pc := 12) (i := 4) (ls2 := [(4, (0, r11)), (0, (2, 7)), (1, (0, a1)), (2, (0, a2)), (3, (0, a3))]) d_X3_letterOf_12 (by decide) rfl ?_
  refine Tr.iconst (pc := 14) d_X3_letterOf_14 (by decide) ?_
  refine Tr.istore (pc := 15) (i := 5) (ls2 := [(5, (0, 0)), (4, (0, r11)), (0, (2, 7)), (1, (0, a1)), (2, (0, a2)), (3, (0, a3))]) d_X3_letterOf_15 (by decide) rfl ?_
  refine Tr.iload (pc := 17) (i := 4) d_X3_letterOf_17 rfl ?_
  refine Tr.istore (pc := 19) (i := 6) (ls2 := [(6, (0, r11)), (5, (0, 0)), (4, (0, r11)), (0, (2, 7)), (1, (0, a1)), (2, (0, a2)), (3, (0, a3))]) d_X3_letterOf_19 (by decide) rfl ?_
  have J21 : ∀ (n21 : Nat) (M : Mem) (p21_5 p21_6 : Int), St Tru ws_X3_letterOf_7 as_X3_letterOf_7 M0 M → (0 ≤ p21_5 ∧ p21_5 ≤ 6) → ((-2147483648) ≤ p21_6 ∧ p21_6 ≤ 2147483647) → rd M 14 (a2 + r8) = r11 → (6 - p21_5).toNat < n21 → Tr l K 0 mX3_letterOf 21 [(3, (0, a3)), (4, (0, r11)), (5, (0, p21_5)), (6, (0, p21_6))] [] M (q_X3_letterOf_7 M0) := by
    intro n21
    induction n21 with
    | zero => intro M p21_5 p21_6 hS bp21_5 bp21_6 k21_14_a21r810 hm21; exact absurd hm21 (Nat.not_lt_zero _)
    | succ n21 J21 =>
      intro M p21_5 p21_6 hS bp21_5 bp21_6 k21_14_a21r810 hm21
      refine Tr.iload (pc := 21) (i := 6) d_X3_letterOf_21 rfl ?_
      have J46 : ∀ (M : Mem), St Tru ws_X3_letterOf_7 as_X3_letterOf_7 M0 M → rd M 14 (a2 + r8) = r11 → Tr l K 0 mX3_letterOf 46 [(3, (0, a3)), (4, (0, r11)), (5, (0, p21_5))] [] M (q_X3_letterOf_7 M0) := by
        intro M  hS  k46_14_a21r810
        refine Tr.iload_n (pc := 46) (i := 3) d_X3_letterOf_46 rfl rfl ?_
        refine Tr.if_lt (pc := 47) (tgt := 56) d_X3_letterOf_47 rfl (fun c47 => ?_) (fun c47 => ?_)
        · refine Tr.iconst (pc := 56) d_X3_letterOf_56 (by decide) ?_
          exact Tr.iret (pc := 57) d_X3_letterOf_57 rfl ⟨hS, _, rfl, by omega, by omega⟩
        · refine Tr.iload_n (pc := 50) (i := 3) d_X3_letterOf_50 rfl rfl ?_
          refine Tr.iload (pc := 51) (i := 5) d_X3_letterOf_51 rfl ?_
          refine Tr.icmp_lt (pc := 53) (tgt := 58) d_X3_letterOf_53 rfl (fun c53 => ?_) (fun c53 => ?_)
          · refine Tr.iload (pc := 58) (i := 5) d_X3_letterOf_58 rfl ?_
            refine Tr.iconst (pc := 60) d_X3_letterOf_60 (by decide) ?_
            refine Tr.isub (pc := 61) d_X3_letterOf_61 ?_
            refine Tr.tp (p21_5 - 1) ((w32_id (by omega)).trans (by omega)) ?_
            refine Tr.istore (pc := 62) (i := 6) (ls2 := [(6, (0, (p21_5 - 1))), (3, (0, a3)), (4, (0, r11)), (5, (0, p21_5))]) d_X3_letterOf_62 (by decide) rfl ?_
            have J64 : ∀ (n64 : Nat) (M : Mem) (p64_4 p64_6 : Int), St Tru ws_X3_letterOf_7 as_X3_letterOf_7 M0 M → ((-2147483648) ≤ p64_4 ∧ p64_4 ≤ 2147483647) → (0 ≤ p64_6 ∧ p64_6 ≤ 5) → rd M 14 (a2 + r8) = r11 → (p64_6 - 0).toNat < n64 → Tr l K 0 mX3_letterOf 64 [(3, (0, a3)), (4, (0, p64_4)), (6, (0, p64_6))] [] M (q_X3_letterOf_7 M0) := by
              intro n64
              induction n64 with
              | zero => intro M p64_4 p64_6 hS bp64_4 bp64_6 k64_14_a21r810 hm64; exact absurd hm64 (Nat.not_lt_zero _)
              | succ n64 J64 =>
                intro M p64_4 p64_6 hS bp64_4 bp64_6 k64_14_a21r810 hm64
                refine Tr.iload (pc := 64) (i := 6) d_X3_letterOf_64 rfl ?_
                refine Tr.iload_n (pc := 66) (i := 3) d_X3_letterOf_66 rfl rfl ?_
                refine Tr.icmp_le (pc := 67) (tgt := 83) d_X3_letterOf_67 rfl (fun c67 => ?_) (fun c67 => ?_)
                · refine Tr.iload (pc := 83) (i := 4) d_X3_letterOf_83 rfl ?_
                  refine Tr.bipush (pc := 85) d_X3_letterOf_85 rfl (by decide) ?_
                  refine Tr.irem (pc := 87) d_X3_letterOf_87 (by omega) ?_
                  refine Tr.gen (P := fun v => (-2147483648) ≤ v ∧ v ≤ 2147483647) (rem32_b _ _ (by omega)) (fun r87 er87 br87 => ?_)
                  refine Tr.bipush (pc := 88) d_X3_letterOf_88 rfl (by decide) ?_
                  refine Tr.iadd (pc := 90) d_X3_letterOf_90 ?_
                  refine Tr.gen (P := fun v => (-2147483648) ≤ v ∧ v ≤ 2147483647) (w32_b _) (fun r90 er90 br90 => ?_)
                  exact Tr.iret (pc := 91) d_X3_letterOf_91 rfl ⟨hS, _, rfl, by omega, by omega⟩
                · refine Tr.iload (pc := 70) (i := 4) d_X3_letterOf_70 rfl ?_
                  refine Tr.bipush (pc := 72) d_X3_letterOf_72 rfl (by decide) ?_
                  refine Tr.idiv (pc := 74) d_X3_letterOf_74 (by omega) ?_
                  refine Tr.gen (P := fun v => (-2147483648) ≤ v ∧ v ≤ 2147483647) (w32_b _) (fun r74 er74 br74 => ?_)
                  refine Tr.istore (pc := 75) (i := 4) (ls2 := [(4, (0, r74)), (3, (0, a3)), (6, (0, p64_6))]) d_X3_letterOf_75 (by decide) rfl ?_
                  refine Tr.iincV (pc := 77) (n2 := (p64_6 - 1)) (ls2 := [(6, (0, (p64_6 - 1))), (4, (0, r74)), (3, (0, a3))]) d_X3_letterOf_77 rfl (by decide) ((w32_id (by omega)).trans (by omega)) rfl ?_
                  refine Tr.goto (pc := 80) (tgt := 64) d_X3_letterOf_80 rfl ?_
                  refine Tr.pick [2, 1, 0] (ls2 := [(3, (0, a3)), (4, (0, r74)), (6, (0, (p64_6 - 1)))]) rfl ?_
                  exact J64 _ _ _ hS (by omega) (by omega) k64_14_a21r810 (by omega)
            refine Tr.pick [1, 2, 0] (ls2 := [(3, (0, a3)), (4, (0, r11)), (6, (0, (p21_5 - 1)))]) rfl ?_
            exact J64 _ _ _ _ hS (by omega) (by omega) k46_14_a21r810 (Nat.lt_succ_self _)
          · refine Tr.iconst (pc := 56) d_X3_letterOf_56 (by decide) ?_
            exact Tr.iret (pc := 57) d_X3_letterOf_57 rfl ⟨hS, _, rfl, by omega, by omega⟩
      refine Tr.if_le (pc := 23) (tgt := 46) d_X3_letterOf_23 rfl (fun c23 => ?_) (fun c23 => ?_)
      · refine Tr.pick [0, 1, 2] (ls2 := [(3, (0, a3)), (4, (0, r11)), (5, (0, p21_5))]) rfl ?_
        exact J46 _ hS k21_14_a21r810
      · refine Tr.iload (pc := 26) (i := 5) d_X3_letterOf_26 rfl ?_
        refine Tr.bipush (pc := 28) d_X3_letterOf_28 rfl (by decide) ?_
        refine Tr.icmp_ge (pc := 30) (tgt := 46) d_X3_letterOf_30 rfl (fun c30 => ?_) (fun c30 => ?_)
        · refine Tr.pick [0, 1, 2] (ls2 := [(3, (0, a3)), (4, (0, r11)), (5, (0, p21_5))]) rfl ?_
          exact J46 _ hS k21_14_a21r810
        · refine Tr.iincV (pc := 33) (n2 := (p21_5 + 1)) (ls2 := [(5, (0, (p21_5 + 1))), (3, (0, a3)), (4, (0, r11)), (6, (0, p21_6))]) d_X3_letterOf_33 rfl (by decide) ((w32_id (by omega)).trans (by omega)) rfl ?_
          refine Tr.iload (pc := 36) (i := 6) d_X3_letterOf_36 rfl ?_
          refine Tr.bipush (pc := 38) d_X3_letterOf_38 rfl (by decide) ?_
          refine Tr.idiv (pc := 40) d_X3_letterOf_40 (by omega) ?_
          refine Tr.gen (P := fun v => v = p21_6 / 27 ∧ (0 ≤ v ∧ v ≤ 79536431)) (div32_l (c := 27) (by omega) (by decide) (by omega) (by omega)) (fun r40 er40 br40 => ?_)
          refine Tr.istore (pc := 41) (i := 6) (ls2 := [(6, (0, r40)), (5, (0, (p21_5 + 1))), (3, (0, a3)), (4, (0, r11))]) d_X3_letterOf_41 (by decide) rfl ?_
          refine Tr.goto (pc := 43) (tgt := 21) d_X3_letterOf_43 rfl ?_
          refine Tr.pick [2, 3, 1, 0] (ls2 := [(3, (0, a3)), (4, (0, r11)), (5, (0, (p21_5 + 1))), (6, (0, r40))]) rfl ?_
          exact J21 _ _ _ hS (by omega) (by omega) k21_14_a21r810 (by omega)
  refine Tr.pick [6, 2, 1, 0] (ls2 := [(3, (0, a3)), (4, (0, r11)), (5, (0, 0)), (6, (0, r11))]) rfl ?_
  exact J21 _ _ _ _ hS (by omega) (by omega) er11 (Nat.lt_succ_self _)

def ws_X11_letter_0 : List (Int × Int) := []
def as_X11_letter_0 : List Int := []
def q_X11_letter_0 (M0 M' : Mem) (r : Option PV) : Prop := St Tru ws_X11_letter_0 as_X11_letter_0 M0 M' ∧ ∃ v : Int, r = some (0, v) ∧ (-2147483648) ≤ v ∧ v ≤ 2147483647
set_option maxRecDepth 100000 in
set_option maxHeartbeats 4000000 in
theorem sp_X11_letter_0 {l : Launch} {K : EC} {M0 : Mem} {xq : Int} (hI : In Tru M0) (hE : e_all K xq) (en_0_4 : rd M0 0 4 = 7) (a1 : Int) (ha1 : (-2147483648) ≤ a1 ∧ a1 ≤ 2147483647) (a2 : Int) (ha2 : (-2147483648) ≤ a2 ∧ a2 ≤ 2147483647) (a3 : Int) (ha3 : (-2147483648) ≤ a3 ∧ a3 ≤ 2147483647)  : Tr l K 1 mX11_letter 0 [(0, (2, 0)), (1, (0, a1)), (2, (0, a2)), (3, (0, a3))] [] M0 (q_X11_letter_0 M0) := by
  have hS : St Tru ws_X11_letter_0 as_X11_letter_0 M0 M0 := St.rf hI
  refine Tr.iload_n (pc := 0) (i := 1) d_X11_letter_0 rfl rfl ?_
  refine Tr.if_lt (pc := 1) (tgt := 26) d_X11_letter_1 rfl (fun c1 => ?_) (fun c1 => ?_)
  · refine Tr.iconst (pc := 26) d_X11_letter_26 (by decide) ?_
    exact Tr.iret (pc := 27) d_X11_letter_27 rfl ⟨hS, _, rfl, by omega, by omega⟩
  · refine Tr.iload_n (pc := 4) (i := 1) d_X11_letter_4 rfl rfl ?_
    refine Tr.iconst (pc := 5) d_X11_letter_5 (by decide) ?_
    refine Tr.icmp_ge (pc := 6) (tgt := 26) d_X11_letter_6 rfl (fun c6 => ?_) (fun c6 => ?_)
    · refine Tr.iconst (pc := 26) d_X11_letter_26 (by decide) ?_
      exact Tr.iret (pc := 27) d_X11_letter_27 rfl ⟨hS, _, rfl, by omega, by omega⟩
    · refine Tr.iload_n (pc := 9) (i := 2) d_X11_letter_9 rfl rfl ?_
      refine Tr.if_lt (pc := 10) (tgt := 26) d_X11_letter_10 rfl (fun c10 => ?_) (fun c10 => ?_)
      · refine Tr.iconst (pc := 26) d_X11_letter_26 (by decide) ?_
        exact Tr.iret (pc := 27) d_X11_letter_27 rfl ⟨hS, _, rfl, by omega, by omega⟩
      · refine Tr.iload_n (pc := 13) (i := 2) d_X11_letter_13 rfl rfl ?_
        refine Tr.aload_n (pc := 14) (i := 0) d_X11_letter_14 rfl rfl ?_
        refine Tr.getf (pc := 15) d_X11_letter_15 f_11_30 (by decide) (by decide) (ty_0 hS.1.1) ?_
        refine Tr.tp 7 ((St.kp hS (by decide) (by decide) (by decide)).trans en_0_4) ?_
        refine Tr.getf (pc := 18) d_X11_letter_18 f_11_130 (by decide) (by decide) (ty_7 hS.1.1) ?_
        refine Tr.tp 8 (fx_7_4 hS.1.1) ?_
        refine Tr.iload_n (pc := 21) (i := 1) d_X11_letter_21 rfl rfl ?_
        refine Tr.iald (pc := 22) d_X11_letter_22 (ty_8 hS.1.1) (by omega) (by omega) ?_
        refine Tr.gen (P := fun v => 0 ≤ v ∧ v ≤ 6) (arp_8 hS.1.2.1 (by omega) (by omega)) (fun r22 er22 br22 => ?_)
        refine Tr.icmp_lt (pc := 23) (tgt := 28) d_X11_letter_23 rfl (fun c23 => ?_) (fun c23 => ?_)
        · refine Tr.aload_n (pc := 28) (i := 0) d_X11_letter_28 rfl rfl ?_
          refine Tr.getf (pc := 29) d_X11_letter_29 f_11_30 (by decide) (by decide) (ty_0 hS.1.1) ?_
          refine Tr.tp 7 ((St.kp hS (by decide) (by decide) (by decide)).trans en_0_4) ?_
          refine Tr.iload_n (pc := 32) (i := 1) d_X11_letter_32 rfl rfl ?_
          refine Tr.iload_n (pc := 33) (i := 2) d_X11_letter_33 rfl rfl ?_
          refine Tr.iload_n (pc := 34) (i := 3) d_X11_letter_34 rfl rfl ?_
          refine Tr.callV (pc := 35) (as := [_, _, _]) d_X11_letter_35 s_11_137 ok_X3_letterOf rfl rfl (Nat.le_of_ble_eq_true rfl) (Nat.le_of_ble_eq_true rfl) (by decide) (ty_7 hS.1.1) ?_
          refine Tr.imp (Tr.deep (by decide) (sp_X3_letterOf_7 hS.1 hE a1 (by omega) a2 (by omega) a3 (by omega))) ?_
          rintro M35 _ ⟨h35, r35, rfl, lr35, ur35⟩
          have hS := St.tr hS h35 (by decide) (by decide)
          refine Tr.sc [(0, r35)] rfl ?_
          exact Tr.iret (pc := 38) d_X11_letter_38 rfl ⟨hS, _, rfl, by omega, by omega⟩
        · refine Tr.iconst (pc := 26) d_X11_letter_26 (by decide) ?_
          exact Tr.iret (pc := 27) d_X11_letter_27 rfl ⟨hS, _, rfl, by omega, by omega⟩

def ws_J0_isLatin1_aae02_n8 : List (Int × Int) := []
def as_J0_isLatin1_aae02_n8 : List Int := []
def q_J0_isLatin1_aae02_n8 (M0 M' : Mem) (r : Option PV) : Prop := St Tru ws_J0_isLatin1_aae02_n8 as_J0_isLatin1_aae02_n8 M0 M' ∧ ∃ v : Int, r = some (0, v) ∧ 1 ≤ v ∧ v ≤ 1
set_option maxRecDepth 100000 in
set_option maxHeartbeats 4000000 in
theorem sp_J0_isLatin1_aae02_n8 {l : Launch} {K : EC} {M0 : Mem} {xq : Int} (hI : In Tru M0) (hE : e_all K xq)    : Tr l K 0 mJ0_isLatin1_aae02 0 [(0, (2, (-8)))] [] M0 (q_J0_isLatin1_aae02_n8 M0) := by
  have hS : St Tru ws_J0_isLatin1_aae02_n8 as_J0_isLatin1_aae02_n8 M0 M0 := St.rf hI
  refine Tr.gets (pc := 0) d_J0_isLatin1_aae02_0 sl_19_38 hE.2.2.2.2.2.2.1 ?_
  refine Tr.if_eq (pc := 3) (tgt := 17) d_J0_isLatin1_aae02_3 rfl (fun hc => absurd hc (by omega)) (fun _ => ?_)
  refine Tr.aload_n (pc := 6) (i := 0) d_J0_isLatin1_aae02_6 rfl rfl ?_
  refine Tr.xgetf (pc := 7) (i := 6) d_J0_isLatin1_aae02_7 rfl sl_19_15 hE.2.2.2.2.2.2.2.2.2.2.2.2.1 ?_
  refine Tr.if_ne (pc := 10) (tgt := 17) d_J0_isLatin1_aae02_10 rfl (fun hc => absurd (by omega) hc) (fun _ => ?_)
  refine Tr.iconst (pc := 13) d_J0_isLatin1_aae02_13 (by decide) ?_
  refine Tr.goto (pc := 14) (tgt := 18) d_J0_isLatin1_aae02_14 rfl ?_
  exact Tr.zret (pc := 18) d_J0_isLatin1_aae02_18 rfl (by omega) ⟨hS, _, rfl, by omega, by omega⟩

def ws_J0_coder_7d493_n8 : List (Int × Int) := []
def as_J0_coder_7d493_n8 : List Int := []
def q_J0_coder_7d493_n8 (M0 M' : Mem) (r : Option PV) : Prop := St Tru ws_J0_coder_7d493_n8 as_J0_coder_7d493_n8 M0 M' ∧ ∃ v : Int, r = some (0, v) ∧ 0 ≤ v ∧ v ≤ 0
set_option maxRecDepth 100000 in
set_option maxHeartbeats 4000000 in
theorem sp_J0_coder_7d493_n8 {l : Launch} {K : EC} {M0 : Mem} {xq : Int} (hI : In Tru M0) (hE : e_all K xq)    : Tr l K 0 mJ0_coder_7d493 0 [(0, (2, (-8)))] [] M0 (q_J0_coder_7d493_n8 M0) := by
  have hS : St Tru ws_J0_coder_7d493_n8 as_J0_coder_7d493_n8 M0 M0 := St.rf hI
  refine Tr.gets (pc := 0) d_J0_coder_7d493_0 sl_19_38 hE.2.2.2.2.2.2.1 ?_
  refine Tr.if_eq (pc := 3) (tgt := 13) d_J0_coder_7d493_3 rfl (fun hc => absurd hc (by omega)) (fun _ => ?_)
  refine Tr.aload_n (pc := 6) (i := 0) d_J0_coder_7d493_6 rfl rfl ?_
  refine Tr.xgetf (pc := 7) (i := 6) d_J0_coder_7d493_7 rfl sl_19_15 hE.2.2.2.2.2.2.2.2.2.2.2.2.1 ?_
  refine Tr.goto (pc := 10) (tgt := 14) d_J0_coder_7d493_10 rfl ?_
  exact Tr.nret (pc := 14) d_J0_coder_7d493_14 rfl (by first | rfl | decide +kernel) ⟨hS, _, rfl, by omega, by omega⟩

def ws_J0_length_8abf5_n8 : List (Int × Int) := []
def as_J0_length_8abf5_n8 : List Int := []
def q_J0_length_8abf5_n8 (M0 M' : Mem) (r : Option PV) : Prop := St Tru ws_J0_length_8abf5_n8 as_J0_length_8abf5_n8 M0 M' ∧ ∃ v : Int, r = some (0, v) ∧ (-2147483648) ≤ v ∧ v ≤ 2147483647
set_option maxRecDepth 100000 in
set_option maxHeartbeats 4000000 in
theorem sp_J0_length_8abf5_n8 {l : Launch} {K : EC} {M0 : Mem} {xq : Int} (hI : In Tru M0) (hE : e_all K xq)    : Tr l K 1 mJ0_length_8abf5 0 [(0, (2, (-8)))] [] M0 (q_J0_length_8abf5_n8 M0) := by
  have hS : St Tru ws_J0_length_8abf5_n8 as_J0_length_8abf5_n8 M0 M0 := St.rf hI
  refine Tr.aload_n (pc := 0) (i := 0) d_J0_length_8abf5_0 rfl rfl ?_
  refine Tr.xgetf (pc := 1) (i := 6) d_J0_length_8abf5_1 rfl sl_19_9 hE.2.2.2.2.2.2.2.2.2.2.2.2.2.1 ?_
  refine Tr.xblen (pc := 4) (i := 7) d_J0_length_8abf5_4 rfl hE.2.2.2.2.2.2.2.2.2.2.2.2.2.2.2.1 (by decide) ?_
  refine Tr.tp 16 rfl ?_
  refine Tr.aload_n (pc := 5) (i := 0) d_J0_length_8abf5_5 rfl rfl ?_
  refine Tr.callX (pc := 6) (i := 6) (as := []) d_J0_length_8abf5_6 sx_19_335 ok_J0_coder_7d493 rfl rfl (Nat.le_of_ble_eq_true rfl) (Nat.le_of_ble_eq_true rfl) rfl hE.2.2.2.2.2.2.2.2.2.2.2.1 ?_
  refine Tr.imp (Tr.deep (by decide) (sp_J0_coder_7d493_n8 hS.1 hE )) ?_
  rintro M6 _ ⟨h6, r6, rfl, lr6, ur6⟩
  have hS := St.tr hS h6 (by decide) (by decide)
  refine Tr.sc [(0, r6), (0, 16)] rfl ?_
  refine Tr.ishr (pc := 9) d_J0_length_8abf5_9 ?_
  refine Tr.gen (P := fun v => (-2147483648) ≤ v ∧ v ≤ 2147483647) (i32_b _) (fun r9 er9 br9 => ?_)
  exact Tr.iret (pc := 10) d_J0_length_8abf5_10 rfl ⟨hS, _, rfl, by omega, by omega⟩

def ws_J1_indexOfChar_4cfef_n9 : List (Int × Int) := []
def as_J1_indexOfChar_4cfef_n9 : List Int := []
def q_J1_indexOfChar_4cfef_n9 (M0 M' : Mem) (r : Option PV) : Prop := St Tru ws_J1_indexOfChar_4cfef_n9 as_J1_indexOfChar_4cfef_n9 M0 M' ∧ ∃ v : Int, r = some (0, v) ∧ (-1) ≤ v ∧ v ≤ 15
set_option maxRecDepth 100000 in
set_option maxHeartbeats 4000000 in
theorem sp_J1_indexOfChar_4cfef_n9 {l : Launch} {K : EC} {M0 : Mem} {xq : Int} (hI : In Tru M0) (hE : e_all K xq)  (a1 : Int) (ha1 : 1 ≤ a1 ∧ a1 ≤ 161) (a2 : Int) (ha2 : 0 ≤ a2 ∧ a2 ≤ 0) (a3 : Int) (ha3 : 1 ≤ a3 ∧ a3 ≤ 16)  : Tr l K 0 mJ1_indexOfChar_4cfef 0 [(0, (2, (-9))), (1, (0, a1)), (2, (0, a2)), (3, (0, a3))] [] M0 (q_J1_indexOfChar_4cfef_n9 M0) := by
  have hS : St Tru ws_J1_indexOfChar_4cfef_n9 as_J1_indexOfChar_4cfef_n9 M0 M0 := St.rf hI
  refine Tr.iload_n (pc := 0) (i := 1) d_J1_indexOfChar_4cfef_0 rfl rfl ?_
  refine Tr.i2b (pc := 1) d_J1_indexOfChar_4cfef_1 ?_
  refine Tr.gen (P := fun v => (-128) ≤ v ∧ v ≤ 127) (w8_b _) (fun r1 er1 br1 => ?_)
  refine Tr.istore (pc := 2) (i := 4) (ls2 := [(4, (0, r1)), (0, (2, (-9))), (1, (0, a1)), (2, (0, a2)), (3, (0, a3))]) d_J1_indexOfChar_4cfef_2 (by decide) rfl ?_
  refine Tr.iload_n (pc := 4) (i := 2) d_J1_indexOfChar_4cfef_4 rfl rfl ?_
  refine Tr.tp 0 (by omega) ?_
  refine Tr.istore (pc := 5) (i := 5) (ls2 := [(5, (0, 0)), (4, (0, r1)), (0, (2, (-9))), (1, (0, a1)), (2, (0, a2)), (3, (0, a3))]) d_J1_indexOfChar_4cfef_5 (by decide) rfl ?_
  have J7 : ∀ (n7 : Nat) (M : Mem) (p7_5 : Int), St Tru ws_J1_indexOfChar_4cfef_n9 as_J1_indexOfChar_4cfef_n9 M0 M → (0 ≤ p7_5 ∧ p7_5 ≤ 16) → (16 - p7_5).toNat < n7 → Tr l K 0 mJ1_indexOfChar_4cfef 7 [(0, (2, (-9))), (3, (0, a3)), (4, (0, r1)), (5, (0, p7_5))] [] M (q_J1_indexOfChar_4cfef_n9 M0) := by
    intro n7
    induction n7 with
    | zero => intro M p7_5 hS bp7_5  hm7; exact absurd hm7 (Nat.not_lt_zero _)
    | succ n7 J7 =>
      intro M p7_5 hS bp7_5  hm7
      refine Tr.iload (pc := 7) (i := 5) d_J1_indexOfChar_4cfef_7 rfl ?_
      refine Tr.iload_n (pc := 9) (i := 3) d_J1_indexOfChar_4cfef_9 rfl rfl ?_
      refine Tr.icmp_ge (pc := 10) (tgt := 31) d_J1_indexOfChar_4cfef_10 rfl (fun c10 => ?_) (fun c10 => ?_)
      · refine Tr.iconst (pc := 31) d_J1_indexOfChar_4cfef_31 (by decide) ?_
        exact Tr.iret (pc := 32) d_J1_indexOfChar_4cfef_32 rfl ⟨hS, _, rfl, by omega, by omega⟩
      · refine Tr.aload_n (pc := 13) (i := 0) d_J1_indexOfChar_4cfef_13 rfl rfl ?_
        refine Tr.iload (pc := 14) (i := 5) d_J1_indexOfChar_4cfef_14 rfl ?_
        refine Tr.xbld (pc := 16) (i := 7) d_J1_indexOfChar_4cfef_16 rfl hE.2.2.2.2.2.2.2.2.2.2.2.2.2.2.2.1 (by omega) (by omega) ?_
        refine Tr.gen (P := fun v => 0 ≤ v ∧ v ≤ 125) (xT_b (q := xr_7) (by decide +kernel) (by decide) _) (fun r16 er16 br16 => ?_)
        refine Tr.iload (pc := 17) (i := 4) d_J1_indexOfChar_4cfef_17 rfl ?_
        refine Tr.icmp_ne (pc := 19) (tgt := 25) d_J1_indexOfChar_4cfef_19 rfl (fun c19 => ?_) (fun c19 => ?_)
        · refine Tr.iincV (pc := 25) (n2 := (p7_5 + 1)) (ls2 := [(5, (0, (p7_5 + 1))), (0, (2, (-9))), (3, (0, a3)), (4, (0, r1))]) d_J1_indexOfChar_4cfef_25 rfl (by decide) ((w32_id (by omega)).trans (by omega)) rfl ?_
          refine Tr.goto (pc := 28) (tgt := 7) d_J1_indexOfChar_4cfef_28 rfl ?_
          refine Tr.pick [1, 2, 3, 0] (ls2 := [(0, (2, (-9))), (3, (0, a3)), (4, (0, r1)), (5, (0, (p7_5 + 1)))]) rfl ?_
          exact J7 _ _ hS (by omega) (by omega)
        · refine Tr.iload (pc := 22) (i := 5) d_J1_indexOfChar_4cfef_22 rfl ?_
          exact Tr.iret (pc := 24) d_J1_indexOfChar_4cfef_24 rfl ⟨hS, _, rfl, by omega, by omega⟩
  refine Tr.pick [2, 5, 1, 0] (ls2 := [(0, (2, (-9))), (3, (0, a3)), (4, (0, r1)), (5, (0, 0))]) rfl ?_
  exact J7 _ _ _ hS (by omega) (Nat.lt_succ_self _)

def ws_J1_indexOf_4cfef_n9 : List (Int × Int) := []
def as_J1_indexOf_4cfef_n9 : List Int := []
def q_J1_indexOf_4cfef_n9 (M0 M' : Mem) (r : Option PV) : Prop := St Tru ws_J1_indexOf_4cfef_n9 as_J1_indexOf_4cfef_n9 M0 M' ∧ ∃ v : Int, r = some (0, v) ∧ (-1) ≤ v ∧ v ≤ 15
set_option maxRecDepth 100000 in
set_option maxHeartbeats 4000000 in
theorem sp_J1_indexOf_4cfef_n9 {l : Launch} {K : EC} {M0 : Mem} {xq : Int} (hI : In Tru M0) (hE : e_all K xq)  (a1 : Int) (ha1 : 1 ≤ a1 ∧ a1 ≤ 161) (a2 : Int) (ha2 : 0 ≤ a2 ∧ a2 ≤ 0) (a3 : Int) (ha3 : (-2147483648) ≤ a3 ∧ a3 ≤ 2147483647)  : Tr l K 1 mJ1_indexOf_4cfef 0 [(0, (2, (-9))), (1, (0, a1)), (2, (0, a2)), (3, (0, a3))] [] M0 (q_J1_indexOf_4cfef_n9 M0) := by
  have hS : St Tru ws_J1_indexOf_4cfef_n9 as_J1_indexOf_4cfef_n9 M0 M0 := St.rf hI
  refine Tr.iload_n (pc := 0) (i := 1) d_J1_indexOf_4cfef_0 rfl rfl ?_
  refine Tr.callS (pc := 1) (as := [_]) d_J1_indexOf_4cfef_1 s_20_88 ok_J1_canEncode_9a6ad rfl rfl (Nat.le_of_ble_eq_true rfl) (Nat.le_of_ble_eq_true rfl) ?_
  refine Tr.imp (Tr.deep (by decide) (sp_J1_canEncode_9a6ad hS.1 a1 (by omega))) ?_
  rintro M1 _ ⟨h1, r1, rfl, lr1, ur1⟩
  have hS := St.tr hS h1 (by decide) (by decide)
  refine Tr.sc [(0, r1)] rfl ?_
  refine Tr.if_ne (pc := 4) (tgt := 9) d_J1_indexOf_4cfef_4 rfl (fun _ => ?_) (fun hc => absurd hc (by omega))
  refine Tr.iload_n (pc := 9) (i := 2) d_J1_indexOf_4cfef_9 rfl rfl ?_
  refine Tr.tp 0 (by omega) ?_
  refine Tr.iconst (pc := 10) d_J1_indexOf_4cfef_10 (by decide) ?_
  refine Tr.mmax (pc := 11) d_J1_indexOf_4cfef_11 ml_20_92 mw_mmax (Nat.le_of_ble_eq_true rfl) ?_
  refine Tr.gen (P := fun v => (v = 0 ∧ 0 ≤ 0) ∨ (v = 0 ∧ 0 ≤ 0)) (f_max_p _ _) (fun r11 er11 br11 => ?_)
  refine Tr.istore_n (pc := 14) (i := 2) (ls2 := [(2, (0, r11)), (0, (2, (-9))), (1, (0, a1)), (3, (0, a3))]) d_J1_indexOf_4cfef_14 rfl (by decide) rfl ?_
  refine Tr.iload_n (pc := 15) (i := 3) d_J1_indexOf_4cfef_15 rfl rfl ?_
  refine Tr.aload_n (pc := 16) (i := 0) d_J1_indexOf_4cfef_16 rfl rfl ?_
  refine Tr.xblen (pc := 17) (i := 7) d_J1_indexOf_4cfef_17 rfl hE.2.2.2.2.2.2.2.2.2.2.2.2.2.2.2.1 (by decide) ?_
  refine Tr.tp 16 rfl ?_
  refine Tr.mmin (pc := 18) d_J1_indexOf_4cfef_18 ml_20_38 mw_mmin (Nat.le_of_ble_eq_true rfl) ?_
  refine Tr.gen (P := fun v => (v = a3 ∧ a3 ≤ 16) ∨ (v = 16 ∧ 16 ≤ a3)) (f_min_p _ _) (fun r18 er18 br18 => ?_)
  refine Tr.istore_n (pc := 21) (i := 3) (ls2 := [(3, (0, r18)), (2, (0, r11)), (0, (2, (-9))), (1, (0, a1))]) d_J1_indexOf_4cfef_21 rfl (by decide) rfl ?_
  refine Tr.iload_n (pc := 22) (i := 2) d_J1_indexOf_4cfef_22 rfl rfl ?_
  refine Tr.tp 0 (by omega) ?_
  refine Tr.iload_n (pc := 23) (i := 3) d_J1_indexOf_4cfef_23 rfl rfl ?_
  refine Tr.icmp_lt (pc := 24) (tgt := 29) d_J1_indexOf_4cfef_24 rfl (fun c24 => ?_) (fun c24 => ?_)
  · refine Tr.aload_n (pc := 29) (i := 0) d_J1_indexOf_4cfef_29 rfl rfl ?_
    refine Tr.iload_n (pc := 30) (i := 1) d_J1_indexOf_4cfef_30 rfl rfl ?_
    refine Tr.iload_n (pc := 31) (i := 2) d_J1_indexOf_4cfef_31 rfl rfl ?_
    refine Tr.tp 0 (by omega) ?_
    refine Tr.iload_n (pc := 32) (i := 3) d_J1_indexOf_4cfef_32 rfl rfl ?_
    refine Tr.callS (pc := 33) (as := [_, _, _, _]) d_J1_indexOf_4cfef_33 s_20_95 ok_J1_indexOfChar_4cfef rfl rfl (Nat.le_of_ble_eq_true rfl) (Nat.le_of_ble_eq_true rfl) ?_
    refine Tr.imp (Tr.deep (by decide) (sp_J1_indexOfChar_4cfef_n9 hS.1 hE a1 (by omega) 0 (by omega) r18 (by omega))) ?_
    rintro M33 _ ⟨h33, r33, rfl, lr33, ur33⟩
    have hS := St.tr hS h33 (by decide) (by decide)
    refine Tr.sc [(0, r33)] rfl ?_
    exact Tr.iret (pc := 36) d_J1_indexOf_4cfef_36 rfl ⟨hS, _, rfl, by omega, by omega⟩
  · refine Tr.iconst (pc := 27) d_J1_indexOf_4cfef_27 (by decide) ?_
    exact Tr.iret (pc := 28) d_J1_indexOf_4cfef_28 rfl ⟨hS, _, rfl, by omega, by omega⟩

def ws_J0_indexOf_7cf53_n8 : List (Int × Int) := []
def as_J0_indexOf_7cf53_n8 : List Int := []
def q_J0_indexOf_7cf53_n8 (M0 M' : Mem) (r : Option PV) : Prop := St Tru ws_J0_indexOf_7cf53_n8 as_J0_indexOf_7cf53_n8 M0 M' ∧ ∃ v : Int, r = some (0, v) ∧ (-1) ≤ v ∧ v ≤ 15
set_option maxRecDepth 100000 in
set_option maxHeartbeats 4000000 in
theorem sp_J0_indexOf_7cf53_n8 {l : Launch} {K : EC} {M0 : Mem} {xq : Int} (hI : In Tru M0) (hE : e_all K xq)  (a1 : Int) (ha1 : 1 ≤ a1 ∧ a1 ≤ 161) (a2 : Int) (ha2 : 0 ≤ a2 ∧ a2 ≤ 0)  : Tr l K 2 mJ0_indexOf_7cf53 0 [(0, (2, (-8))), (1, (0, a1)), (2, (0, a2))] [] M0 (q_J0_indexOf_7cf53_n8 M0) := by
  have hS : St Tru ws_J0_indexOf_7cf53_n8 as_J0_indexOf_7cf53_n8 M0 M0 := St.rf hI
  refine Tr.aload_n (pc := 0) (i := 0) d_J0_indexOf_7cf53_0 rfl rfl ?_
  refine Tr.callX (pc := 1) (i := 6) (as := []) d_J0_indexOf_7cf53_1 sx_19_492 ok_J0_isLatin1_aae02 rfl rfl (Nat.le_of_ble_eq_true rfl) (Nat.le_of_ble_eq_true rfl) rfl hE.2.2.2.2.2.2.2.2.2.2.2.1 ?_
  refine Tr.imp (Tr.deep (by decide) (sp_J0_isLatin1_aae02_n8 hS.1 hE )) ?_
  rintro M1 _ ⟨h1, r1, rfl, lr1, ur1⟩
  have hS := St.tr hS h1 (by decide) (by decide)
  refine Tr.sc [(0, r1)] rfl ?_
  refine Tr.if_eq (pc := 4) (tgt := 23) d_J0_indexOf_7cf53_4 rfl (fun hc => absurd hc (by omega)) (fun _ => ?_)
  refine Tr.aload_n (pc := 7) (i := 0) d_J0_indexOf_7cf53_7 rfl rfl ?_
  refine Tr.xgetf (pc := 8) (i := 6) d_J0_indexOf_7cf53_8 rfl sl_19_9 hE.2.2.2.2.2.2.2.2.2.2.2.2.2.1 ?_
  refine Tr.iload_n (pc := 11) (i := 1) d_J0_indexOf_7cf53_11 rfl rfl ?_
  refine Tr.iload_n (pc := 12) (i := 2) d_J0_indexOf_7cf53_12 rfl rfl ?_
  refine Tr.tp 0 (by omega) ?_
  refine Tr.aload_n (pc := 13) (i := 0) d_J0_indexOf_7cf53_13 rfl rfl ?_
  refine Tr.callX (pc := 14) (i := 6) (as := []) d_J0_indexOf_7cf53_14 sx_19_505 ok_J0_length_8abf5 rfl rfl (Nat.le_of_ble_eq_true rfl) (Nat.le_of_ble_eq_true rfl) rfl hE.2.2.2.2.2.2.2.2.2.2.2.1 ?_
  refine Tr.imp (Tr.deep (by decide) (sp_J0_length_8abf5_n8 hS.1 hE )) ?_
  rintro M14 _ ⟨h14, r14, rfl, lr14, ur14⟩
  have hS := St.tr hS h14 (by decide) (by decide)
  refine Tr.sc [(0, r14), (0, 0), (0, a1), (2, (-9))] rfl ?_
  refine Tr.callS (pc := 17) (as := [_, _, _, _]) d_J0_indexOf_7cf53_17 s_19_637 ok_J1_indexOf_4cfef rfl rfl (Nat.le_of_ble_eq_true rfl) (Nat.le_of_ble_eq_true rfl) ?_
  refine Tr.imp (Tr.deep (by decide) (sp_J1_indexOf_4cfef_n9 hS.1 hE a1 (by omega) 0 (by omega) r14 (by omega))) ?_
  rintro M17 _ ⟨h17, r17, rfl, lr17, ur17⟩
  have hS := St.tr hS h17 (by decide) (by decide)
  refine Tr.sc [(0, r17)] rfl ?_
  refine Tr.goto (pc := 20) (tgt := 36) d_J0_indexOf_7cf53_20 rfl ?_
  exact Tr.iret (pc := 36) d_J0_indexOf_7cf53_36 rfl ⟨hS, _, rfl, by omega, by omega⟩

def ws_J0_indexOf_0f7a4_n8 : List (Int × Int) := []
def as_J0_indexOf_0f7a4_n8 : List Int := []
def q_J0_indexOf_0f7a4_n8 (M0 M' : Mem) (r : Option PV) : Prop := St Tru ws_J0_indexOf_0f7a4_n8 as_J0_indexOf_0f7a4_n8 M0 M' ∧ ∃ v : Int, r = some (0, v) ∧ (-1) ≤ v ∧ v ≤ 15
set_option maxRecDepth 100000 in
set_option maxHeartbeats 4000000 in
theorem sp_J0_indexOf_0f7a4_n8 {l : Launch} {K : EC} {M0 : Mem} {xq : Int} (hI : In Tru M0) (hE : e_all K xq)  (a1 : Int) (ha1 : 1 ≤ a1 ∧ a1 ≤ 161)  : Tr l K 3 mJ0_indexOf_0f7a4 0 [(0, (2, (-8))), (1, (0, a1))] [] M0 (q_J0_indexOf_0f7a4_n8 M0) := by
  have hS : St Tru ws_J0_indexOf_0f7a4_n8 as_J0_indexOf_0f7a4_n8 M0 M0 := St.rf hI
  refine Tr.aload_n (pc := 0) (i := 0) d_J0_indexOf_0f7a4_0 rfl rfl ?_
  refine Tr.iload_n (pc := 1) (i := 1) d_J0_indexOf_0f7a4_1 rfl rfl ?_
  refine Tr.iconst (pc := 2) d_J0_indexOf_0f7a4_2 (by decide) ?_
  refine Tr.callX (pc := 3) (i := 6) (as := [_, _]) d_J0_indexOf_0f7a4_3 sx_19_633 ok_J0_indexOf_7cf53 rfl rfl (Nat.le_of_ble_eq_true rfl) (Nat.le_of_ble_eq_true rfl) rfl hE.2.2.2.2.2.2.2.2.2.2.2.1 ?_
  refine Tr.imp (Tr.deep (by decide) (sp_J0_indexOf_7cf53_n8 hS.1 hE a1 (by omega) 0 (by omega))) ?_
  rintro M3 _ ⟨h3, r3, rfl, lr3, ur3⟩
  have hS := St.tr hS h3 (by decide) (by decide)
  refine Tr.sc [(0, r3)] rfl ?_
  exact Tr.iret (pc := 6) d_J0_indexOf_0f7a4_6 rfl ⟨hS, _, rfl, by omega, by omega⟩

def ws_J0_isLatin1_aae02_n6 : List (Int × Int) := []
def as_J0_isLatin1_aae02_n6 : List Int := []
def q_J0_isLatin1_aae02_n6 (M0 M' : Mem) (r : Option PV) : Prop := St Tru ws_J0_isLatin1_aae02_n6 as_J0_isLatin1_aae02_n6 M0 M' ∧ ∃ v : Int, r = some (0, v) ∧ 1 ≤ v ∧ v ≤ 1
set_option maxRecDepth 100000 in
set_option maxHeartbeats 4000000 in
theorem sp_J0_isLatin1_aae02_n6 {l : Launch} {K : EC} {M0 : Mem} {xq : Int} (hI : In Tru M0) (hE : e_all K xq)    : Tr l K 0 mJ0_isLatin1_aae02 0 [(0, (2, (-6)))] [] M0 (q_J0_isLatin1_aae02_n6 M0) := by
  have hS : St Tru ws_J0_isLatin1_aae02_n6 as_J0_isLatin1_aae02_n6 M0 M0 := St.rf hI
  refine Tr.gets (pc := 0) d_J0_isLatin1_aae02_0 sl_19_38 hE.2.2.2.2.2.2.1 ?_
  refine Tr.if_eq (pc := 3) (tgt := 17) d_J0_isLatin1_aae02_3 rfl (fun hc => absurd hc (by omega)) (fun _ => ?_)
  refine Tr.aload_n (pc := 6) (i := 0) d_J0_isLatin1_aae02_6 rfl rfl ?_
  refine Tr.xgetf (pc := 7) (i := 4) d_J0_isLatin1_aae02_7 rfl sl_19_15 hE.2.2.2.2.2.2.2.2.2.1 ?_
  refine Tr.if_ne (pc := 10) (tgt := 17) d_J0_isLatin1_aae02_10 rfl (fun hc => absurd (by omega) hc) (fun _ => ?_)
  refine Tr.iconst (pc := 13) d_J0_isLatin1_aae02_13 (by decide) ?_
  refine Tr.goto (pc := 14) (tgt := 18) d_J0_isLatin1_aae02_14 rfl ?_
  exact Tr.zret (pc := 18) d_J0_isLatin1_aae02_18 rfl (by omega) ⟨hS, _, rfl, by omega, by omega⟩

def ws_J0_checkIndex_df160 : List (Int × Int) := []
def as_J0_checkIndex_df160 : List Int := []
def q_J0_checkIndex_df160 (M0 M' : Mem) (r : Option PV) : Prop := St Tru ws_J0_checkIndex_df160 as_J0_checkIndex_df160 M0 M' ∧ r = none
set_option maxRecDepth 100000 in
set_option maxHeartbeats 4000000 in
theorem sp_J0_checkIndex_df160 {l : Launch} {K : EC} {M0 : Mem} {xq : Int} (hI : In Tru M0) (hE : e_all K xq)  (a0 : Int) (ha0 : 0 ≤ a0 ∧ a0 ≤ 161) (a1 : Int) (ha1 : 162 ≤ a1 ∧ a1 ≤ 162)  : Tr l K 1 mJ0_checkIndex_df160 0 [(0, (0, a0)), (1, (0, a1))] [] M0 (q_J0_checkIndex_df160 M0) := by
  have hS : St Tru ws_J0_checkIndex_df160 as_J0_checkIndex_df160 M0 M0 := St.rf hI
  refine Tr.iload_n (pc := 0) (i := 0) d_J0_checkIndex_df160_0 rfl rfl ?_
  refine Tr.iload_n (pc := 1) (i := 1) d_J0_checkIndex_df160_1 rfl rfl ?_
  refine Tr.tp 162 (by omega) ?_
  refine Tr.gets (pc := 2) d_J0_checkIndex_df160_2 sl_19_1053 hE.2.2.2.2.2.2.2.1 ?_
  refine Tr.callS (pc := 5) (as := [_, _, _]) d_J0_checkIndex_df160_5 s_19_1059 ok_J3_checkIndex_8e157 rfl rfl (Nat.le_of_ble_eq_true rfl) (Nat.le_of_ble_eq_true rfl) ?_
  refine Tr.imp (Tr.deep (by decide) (sp_J3_checkIndex_8e157_xq hS.1 a0 (by omega) 162 (by omega))) ?_
  rintro M5 _ ⟨h5, r5, rfl, lr5, ur5⟩
  have hS := St.tr hS h5 (by decide) (by decide)
  refine Tr.sc [(0, r5)] rfl ?_
  refine Tr.pop (pc := 8) d_J0_checkIndex_df160_8 ne01 ?_
  exact Tr.vret (pc := 9) d_J0_checkIndex_df160_9 rfl ⟨hS, rfl⟩

def ws_J1_charAt_3b067_n7 : List (Int × Int) := []
def as_J1_charAt_3b067_n7 : List Int := []
def q_J1_charAt_3b067_n7 (M0 M' : Mem) (r : Option PV) : Prop := St Tru ws_J1_charAt_3b067_n7 as_J1_charAt_3b067_n7 M0 M' ∧ ∃ v : Int, r = some (0, v) ∧ 0 ≤ v ∧ v ≤ 255
set_option maxRecDepth 100000 in
set_option maxHeartbeats 4000000 in
theorem sp_J1_charAt_3b067_n7 {l : Launch} {K : EC} {M0 : Mem} {xq : Int} (hI : In Tru M0) (hE : e_all K xq)  (a1 : Int) (ha1 : 0 ≤ a1 ∧ a1 ≤ 161)  : Tr l K 2 mJ1_charAt_3b067 0 [(0, (2, (-7))), (1, (0, a1))] [] M0 (q_J1_charAt_3b067_n7 M0) := by
  have hS : St Tru ws_J1_charAt_3b067_n7 as_J1_charAt_3b067_n7 M0 M0 := St.rf hI
  refine Tr.iload_n (pc := 0) (i := 1) d_J1_charAt_3b067_0 rfl rfl ?_
  refine Tr.aload_n (pc := 1) (i := 0) d_J1_charAt_3b067_1 rfl rfl ?_
  refine Tr.xblen (pc := 2) (i := 5) d_J1_charAt_3b067_2 rfl hE.2.2.2.2.2.2.2.2.2.2.2.2.2.2.1 (by decide) ?_
  refine Tr.tp 162 rfl ?_
  refine Tr.callS (pc := 3) (as := [_, _]) d_J1_charAt_3b067_3 s_20_9 ok_J0_checkIndex_df160 rfl rfl (Nat.le_of_ble_eq_true rfl) (Nat.le_of_ble_eq_true rfl) ?_
  refine Tr.imp (Tr.deep (by decide) (sp_J0_checkIndex_df160 hS.1 hE a1 (by omega) 162 (by omega))) ?_
  rintro M3 _ ⟨h3, rfl⟩
  have hS := St.tr hS h3 (by decide) (by decide)
  refine Tr.sc [] rfl ?_
  refine Tr.aload_n (pc := 6) (i := 0) d_J1_charAt_3b067_6 rfl rfl ?_
  refine Tr.iload_n (pc := 7) (i := 1) d_J1_charAt_3b067_7 rfl rfl ?_
  refine Tr.xbld (pc := 8) (i := 5) d_J1_charAt_3b067_8 rfl hE.2.2.2.2.2.2.2.2.2.2.2.2.2.2.1 (by omega) (by omega) ?_
  refine Tr.gen (P := fun v => 0 ≤ v ∧ v ≤ 120) (xT_b (q := xr_5) (by decide +kernel) (by decide) _) (fun r8 er8 br8 => ?_)
  refine Tr.sipush (pc := 9) d_J1_charAt_3b067_9 rfl (by decide) ?_
  refine Tr.iand (pc := 12) d_J1_charAt_3b067_12 ?_
  refine Tr.gen (P := fun v => 0 ≤ v ∧ v ≤ 255) (f_iand_m 8 (by decide +kernel) (by decide) (by decide +kernel)) (fun r12 er12 br12 => ?_)
  refine Tr.i2c (pc := 13) d_J1_charAt_3b067_13 (by omega) ?_
  exact Tr.nret (pc := 14) d_J1_charAt_3b067_14 rfl (nar_c (by omega)) ⟨hS, _, rfl, by omega, by omega⟩

def ws_J0_charAt_5068e_n6 : List (Int × Int) := []
def as_J0_charAt_5068e_n6 : List Int := []
def q_J0_charAt_5068e_n6 (M0 M' : Mem) (r : Option PV) : Prop := St Tru ws_J0_charAt_5068e_n6 as_J0_charAt_5068e_n6 M0 M' ∧ ∃ v : Int, r = some (0, v) ∧ 0 ≤ v ∧ v ≤ 255
set_option maxRecDepth 100000 in
set_option maxHeartbeats 4000000 in
theorem sp_J0_charAt_5068e_n6 {l : Launch} {K : EC} {M0 : Mem} {xq : Int} (hI : In Tru M0) (hE : e_all K xq)  (a1 : Int) (ha1 : 0 ≤ a1 ∧ a1 ≤ 161)  : Tr l K 3 mJ0_charAt_5068e 0 [(0, (2, (-6))), (1, (0, a1))] [] M0 (q_J0_charAt_5068e_n6 M0) := by
  have hS : St Tru ws_J0_charAt_5068e_n6 as_J0_charAt_5068e_n6 M0 M0 := St.rf hI
  refine Tr.aload_n (pc := 0) (i := 0) d_J0_charAt_5068e_0 rfl rfl ?_
  refine Tr.callX (pc := 1) (i := 4) (as := []) d_J0_charAt_5068e_1 sx_19_492 ok_J0_isLatin1_aae02 rfl rfl (Nat.le_of_ble_eq_true rfl) (Nat.le_of_ble_eq_true rfl) rfl hE.2.2.2.2.2.2.2.2.1 ?_
  refine Tr.imp (Tr.deep (by decide) (sp_J0_isLatin1_aae02_n6 hS.1 hE )) ?_
  rintro M1 _ ⟨h1, r1, rfl, lr1, ur1⟩
  have hS := St.tr hS h1 (by decide) (by decide)
  refine Tr.sc [(0, r1)] rfl ?_
  refine Tr.if_eq (pc := 4) (tgt := 16) d_J0_charAt_5068e_4 rfl (fun hc => absurd hc (by omega)) (fun _ => ?_)
  refine Tr.aload_n (pc := 7) (i := 0) d_J0_charAt_5068e_7 rfl rfl ?_
  refine Tr.xgetf (pc := 8) (i := 4) d_J0_charAt_5068e_8 rfl sl_19_9 hE.2.2.2.2.2.2.2.2.2.2.1 ?_
  refine Tr.iload_n (pc := 11) (i := 1) d_J0_charAt_5068e_11 rfl rfl ?_
  refine Tr.callS (pc := 12) (as := [_, _]) d_J0_charAt_5068e_12 s_19_495 ok_J1_charAt_3b067 rfl rfl (Nat.le_of_ble_eq_true rfl) (Nat.le_of_ble_eq_true rfl) ?_
  refine Tr.imp (Tr.deep (by decide) (sp_J1_charAt_3b067_n7 hS.1 hE a1 (by omega))) ?_
  rintro M12 _ ⟨h12, r12, rfl, lr12, ur12⟩
  have hS := St.tr hS h12 (by decide) (by decide)
  refine Tr.sc [(0, r12)] rfl ?_
  exact Tr.nret (pc := 15) d_J0_charAt_5068e_15 rfl (nar_c (by omega)) ⟨hS, _, rfl, by omega, by omega⟩

def ws_X7_isOwn_2 : List (Int × Int) := []
def as_X7_isOwn_2 : List Int := []
def q_X7_isOwn_2 (M0 M' : Mem) (r : Option PV) : Prop := St Tru ws_X7_isOwn_2 as_X7_isOwn_2 M0 M' ∧ ∃ v : Int, r = some (0, v) ∧ 0 ≤ v ∧ v ≤ 1
set_option maxRecDepth 100000 in
set_option maxHeartbeats 4000000 in
theorem sp_X7_isOwn_2 {l : Launch} {K : EC} {M0 : Mem} {xq : Int} (hI : In Tru M0) (hE : e_all K xq) (en_2_4 : rd M0 2 4 = 1) (a1 : Int) (ha1 : 0 ≤ a1 ∧ a1 ≤ 26) (a2 : Int) (ha2 : 0 ≤ a2 ∧ a2 ≤ 900) (a3 : Int) (ha3 : 0 ≤ a3 ∧ a3 ≤ 900)  : Tr l K 4 mX7_isOwn 0 [(0, (2, 2)), (1, (0, a1)), (2, (0, a2)), (3, (0, a3))] [] M0 (q_X7_isOwn_2 M0) := by
  have hS : St Tru ws_X7_isOwn_2 as_X7_isOwn_2 M0 M0 := St.rf hI
  refine Tr.iconst (pc := 0) d_X7_isOwn_0 (by decide) ?_
  refine Tr.istore (pc := 1) (i := 4) (ls2 := [(4, (0, 0)), (0, (2, 2)), (1, (0, a1)), (2, (0, a2)), (3, (0, a3))]) d_X7_isOwn_1 (by decide) rfl ?_
  have J3 : ∀ (n3 : Nat) (M : Mem) (p3_4 : Int), St Tru ws_X7_isOwn_2 as_X7_isOwn_2 M0 M → (0 ≤ p3_4 ∧ p3_4 ≤ 6) → (6 - p3_4).toNat < n3 → Tr l K 4 mX7_isOwn 3 [(0, (2, 2)), (1, (0, a1)), (2, (0, a2)), (3, (0, a3)), (4, (0, p3_4))] [] M (q_X7_isOwn_2 M0) := by
    intro n3
    induction n3 with
    | zero => intro M p3_4 hS bp3_4  hm3; exact absurd hm3 (Nat.not_lt_zero _)
    | succ n3 J3 =>
      intro M p3_4 hS bp3_4  hm3
      refine Tr.iload (pc := 3) (i := 4) d_X7_isOwn_3 rfl ?_
      refine Tr.bipush (pc := 5) d_X7_isOwn_5 rfl (by decide) ?_
      refine Tr.icmp_ge (pc := 7) (tgt := 59) d_X7_isOwn_7 rfl (fun c7 => ?_) (fun c7 => ?_)
      · refine Tr.iconst (pc := 59) d_X7_isOwn_59 (by decide) ?_
        exact Tr.zret (pc := 60) d_X7_isOwn_60 rfl (by omega) ⟨hS, _, rfl, by omega, by omega⟩
      · refine Tr.iload_n (pc := 10) (i := 2) d_X7_isOwn_10 rfl rfl ?_
        refine Tr.iload (pc := 11) (i := 4) d_X7_isOwn_11 rfl ?_
        refine Tr.iadd (pc := 13) d_X7_isOwn_13 ?_
        refine Tr.tp (a2 + p3_4) ((w32_id (by omega)).trans (by omega)) ?_
        refine Tr.iload_n (pc := 14) (i := 3) d_X7_isOwn_14 rfl rfl ?_
        have J32 : ∀ (M : Mem) (q32_0 : Int), St Tru ws_X7_isOwn_2 as_X7_isOwn_2 M0 M → ((-128) ≤ q32_0 ∧ q32_0 ≤ 127) → Tr l K 4 mX7_isOwn 32 [(0, (2, 2)), (1, (0, a1)), (2, (0, a2)), (3, (0, a3)), (4, (0, p3_4))] [(0, q32_0)] M (q_X7_isOwn_2 M0) := by
          intro M q32_0 hS bq32_0 
          refine Tr.istore (pc := 32) (i := 5) (ls2 := [(5, (0, q32_0)), (0, (2, 2)), (1, (0, a1)), (2, (0, a2)), (3, (0, a3)), (4, (0, p3_4))]) d_X7_isOwn_32 (by decide) rfl ?_
          refine Tr.ldcs (pc := 34) (i := 4) d_X7_isOwn_34 hE.2.2.2.2.2.2.2.2.2.2.2.2.2.2.2.2.2 ?_
          refine Tr.tp (-6) rfl ?_
          refine Tr.iload_n (pc := 36) (i := 1) d_X7_isOwn_36 rfl rfl ?_
          refine Tr.bipush (pc := 37) d_X7_isOwn_37 rfl (by decide) ?_
          refine Tr.imul (pc := 39) d_X7_isOwn_39 ?_
          refine Tr.tp (6 * a1) ((w32_id (by omega)).trans (by omega)) ?_
          refine Tr.iload (pc := 40) (i := 4) d_X7_isOwn_40 rfl ?_
          refine Tr.iadd (pc := 42) d_X7_isOwn_42 ?_
          refine Tr.tp (6 * a1 + p3_4) ((w32_id (by omega)).trans (by omega)) ?_
          refine Tr.callX (pc := 43) (i := 4) (as := [_]) d_X7_isOwn_43 sx_7_74 ok_J0_charAt_5068e rfl rfl (Nat.le_of_ble_eq_true rfl) (Nat.le_of_ble_eq_true rfl) rfl hE.2.2.2.2.2.2.2.2.1 ?_
          refine Tr.imp (Tr.deep (by decide) (sp_J0_charAt_5068e_n6 hS.1 hE (6 * a1 + p3_4) (by omega))) ?_
          rintro M43 _ ⟨h43, r43, rfl, lr43, ur43⟩
          have hS := St.tr hS h43 (by decide) (by decide)
          refine Tr.sc [(0, r43)] rfl ?_
          refine Tr.iload (pc := 46) (i := 5) d_X7_isOwn_46 rfl ?_
          refine Tr.icmp_eq (pc := 48) (tgt := 53) d_X7_isOwn_48 rfl (fun c48 => ?_) (fun c48 => ?_)
          · refine Tr.iincV (pc := 53) (n2 := (p3_4 + 1)) (ls2 := [(4, (0, (p3_4 + 1))), (5, (0, q32_0)), (0, (2, 2)), (1, (0, a1)), (2, (0, a2)), (3, (0, a3))]) d_X7_isOwn_53 rfl (by decide) ((w32_id (by omega)).trans (by omega)) rfl ?_
            refine Tr.goto (pc := 56) (tgt := 3) d_X7_isOwn_56 rfl ?_
            refine Tr.pick [2, 3, 4, 5, 0] (ls2 := [(0, (2, 2)), (1, (0, a1)), (2, (0, a2)), (3, (0, a3)), (4, (0, (p3_4 + 1)))]) rfl ?_
            exact J3 _ _ hS (by omega) (by omega)
          · refine Tr.iconst (pc := 51) d_X7_isOwn_51 (by decide) ?_
            exact Tr.zret (pc := 52) d_X7_isOwn_52 rfl (by omega) ⟨hS, _, rfl, by omega, by omega⟩
        refine Tr.icmp_ge (pc := 15) (tgt := 30) d_X7_isOwn_15 rfl (fun c15 => ?_) (fun c15 => ?_)
        · refine Tr.bipush (pc := 30) d_X7_isOwn_30 rfl (by decide) ?_
          refine Tr.pick [0, 1, 2, 3, 4] (ls2 := [(0, (2, 2)), (1, (0, a1)), (2, (0, a2)), (3, (0, a3)), (4, (0, p3_4))]) rfl ?_
          exact J32 _ _ hS (by omega)
        · refine Tr.aload_n (pc := 18) (i := 0) d_X7_isOwn_18 rfl rfl ?_
          refine Tr.getf (pc := 19) d_X7_isOwn_19 f_7_21 (by decide) (by decide) (ty_2 hS.1.1) ?_
          refine Tr.tp 1 ((St.kp hS (by decide) (by decide) (by decide)).trans en_2_4) ?_
          refine Tr.iload_n (pc := 22) (i := 2) d_X7_isOwn_22 rfl rfl ?_
          refine Tr.iload (pc := 23) (i := 4) d_X7_isOwn_23 rfl ?_
          refine Tr.iadd (pc := 25) d_X7_isOwn_25 ?_
          refine Tr.tp (a2 + p3_4) ((w32_id (by omega)).trans (by omega)) ?_
          refine Tr.bald (pc := 26) d_X7_isOwn_26 (ty_1 hS.1.1) (by omega) (by omega) ?_
          refine Tr.gen (P := fun v => (-128) ≤ v ∧ v ≤ 127) (ar_1 hS.1.2.1 _) (fun r26 er26 br26 => ?_)
          refine Tr.goto (pc := 27) (tgt := 32) d_X7_isOwn_27 rfl ?_
          refine Tr.pick [0, 1, 2, 3, 4] (ls2 := [(0, (2, 2)), (1, (0, a1)), (2, (0, a2)), (3, (0, a3)), (4, (0, p3_4))]) rfl ?_
          exact J32 _ _ hS (by omega)
  refine Tr.pick [1, 2, 3, 4, 0] (ls2 := [(0, (2, 2)), (1, (0, a1)), (2, (0, a2)), (3, (0, a3)), (4, (0, 0))]) rfl ?_
  exact J3 _ _ _ hS (by omega) (Nat.lt_succ_self _)

def ws_X7_ownWord_2 : List (Int × Int) := []
def as_X7_ownWord_2 : List Int := []
def q_X7_ownWord_2 (M0 M' : Mem) (r : Option PV) : Prop := St Tru ws_X7_ownWord_2 as_X7_ownWord_2 M0 M' ∧ ∃ v : Int, r = some (0, v) ∧ (-1) ≤ v ∧ v ≤ 26
set_option maxRecDepth 100000 in
set_option maxHeartbeats 4000000 in
theorem sp_X7_ownWord_2 {l : Launch} {K : EC} {M0 : Mem} {xq : Int} (hI : In Tru M0) (hE : e_all K xq) (en_2_4 : rd M0 2 4 = 1) (a1 : Int) (ha1 : 0 ≤ a1 ∧ a1 ≤ 899) (a2 : Int) (ha2 : 0 ≤ a2 ∧ a2 ≤ 900)  : Tr l K 5 mX7_ownWord 0 [(0, (2, 2)), (1, (0, a1)), (2, (0, a2))] [] M0 (q_X7_ownWord_2 M0) := by
  have hS : St Tru ws_X7_ownWord_2 as_X7_ownWord_2 M0 M0 := St.rf hI
  refine Tr.iconst (pc := 0) d_X7_ownWord_0 (by decide) ?_
  refine Tr.istore_n (pc := 1) (i := 3) (ls2 := [(3, (0, 0)), (0, (2, 2)), (1, (0, a1)), (2, (0, a2))]) d_X7_ownWord_1 rfl (by decide) rfl ?_
  have J2 : ∀ (n2 : Nat) (M : Mem) (p2_3 : Int), St Tru ws_X7_ownWord_2 as_X7_ownWord_2 M0 M → (0 ≤ p2_3 ∧ p2_3 ≤ 27) → (27 - p2_3).toNat < n2 → Tr l K 5 mX7_ownWord 2 [(0, (2, 2)), (1, (0, a1)), (2, (0, a2)), (3, (0, p2_3))] [] M (q_X7_ownWord_2 M0) := by
    intro n2
    induction n2 with
    | zero => intro M p2_3 hS bp2_3  hm2; exact absurd hm2 (Nat.not_lt_zero _)
    | succ n2 J2 =>
      intro M p2_3 hS bp2_3  hm2
      refine Tr.iload_n (pc := 2) (i := 3) d_X7_ownWord_2 rfl rfl ?_
      refine Tr.bipush (pc := 3) d_X7_ownWord_3 rfl (by decide) ?_
      refine Tr.icmp_ge (pc := 5) (tgt := 26) d_X7_ownWord_5 rfl (fun c5 => ?_) (fun c5 => ?_)
      · refine Tr.iconst (pc := 26) d_X7_ownWord_26 (by decide) ?_
        exact Tr.iret (pc := 27) d_X7_ownWord_27 rfl ⟨hS, _, rfl, by omega, by omega⟩
      · refine Tr.aload_n (pc := 8) (i := 0) d_X7_ownWord_8 rfl rfl ?_
        refine Tr.iload_n (pc := 9) (i := 3) d_X7_ownWord_9 rfl rfl ?_
        refine Tr.iload_n (pc := 10) (i := 1) d_X7_ownWord_10 rfl rfl ?_
        refine Tr.iload_n (pc := 11) (i := 2) d_X7_ownWord_11 rfl rfl ?_
        refine Tr.callV (pc := 12) (as := [_, _, _]) d_X7_ownWord_12 s_7_68 ok_X7_isOwn rfl rfl (Nat.le_of_ble_eq_true rfl) (Nat.le_of_ble_eq_true rfl) (by decide) (ty_2 hS.1.1) ?_
        refine Tr.imp (Tr.deep (by decide) (sp_X7_isOwn_2 hS.1 hE ((St.kp hS (by decide) (by decide) (by decide)).trans en_2_4) p2_3 (by omega) a1 (by omega) a2 (by omega))) ?_
        rintro M12 _ ⟨h12, r12, rfl, lr12, ur12⟩
        have hS := St.tr hS h12 (by decide) (by decide)
        refine Tr.sc [(0, r12)] rfl ?_
        refine Tr.if_eq (pc := 15) (tgt := 20) d_X7_ownWord_15 rfl (fun c15 => ?_) (fun c15 => ?_)
        · refine Tr.iincV (pc := 20) (n2 := (p2_3 + 1)) (ls2 := [(3, (0, (p2_3 + 1))), (0, (2, 2)), (1, (0, a1)), (2, (0, a2))]) d_X7_ownWord_20 rfl (by decide) ((w32_id (by omega)).trans (by omega)) rfl ?_
          refine Tr.goto (pc := 23) (tgt := 2) d_X7_ownWord_23 rfl ?_
          refine Tr.pick [1, 2, 3, 0] (ls2 := [(0, (2, 2)), (1, (0, a1)), (2, (0, a2)), (3, (0, (p2_3 + 1)))]) rfl ?_
          exact J2 _ _ hS (by omega) (by omega)
        · refine Tr.iload_n (pc := 18) (i := 3) d_X7_ownWord_18 rfl rfl ?_
          exact Tr.iret (pc := 19) d_X7_ownWord_19 rfl ⟨hS, _, rfl, by omega, by omega⟩
  refine Tr.pick [1, 2, 3, 0] (ls2 := [(0, (2, 2)), (1, (0, a1)), (2, (0, a2)), (3, (0, 0))]) rfl ?_
  exact J2 _ _ _ hS (by omega) (Nat.lt_succ_self _)

def ws_X7_takeWord_2 : List (Int × Int) := [(2, 3)]
def as_X7_takeWord_2 : List Int := [3, 4, 5]
def q_X7_takeWord_2 (M0 M' : Mem) (r : Option PV) : Prop := St Tru ws_X7_takeWord_2 as_X7_takeWord_2 M0 M' ∧ ∃ v : Int, r = some (0, v) ∧ (-1) ≤ v ∧ v ≤ 900
set_option maxRecDepth 100000 in
set_option maxHeartbeats 4000000 in
theorem sp_X7_takeWord_2 {l : Launch} {K : EC} {M0 : Mem} {xq : Int} (hI : In Tru M0) (hE : e_all K xq) (en_2_4 : rd M0 2 4 = 1) (a1 : Int) (ha1 : 0 ≤ a1 ∧ a1 ≤ 899)  : Tr l K 6 mX7_takeWord 0 [(0, (2, 2)), (1, (0, a1))] [] M0 (q_X7_takeWord_2 M0) := by
  have hS : St Tru ws_X7_takeWord_2 as_X7_takeWord_2 M0 M0 := St.rf hI
  refine Tr.iload_n (pc := 0) (i := 1) d_X7_takeWord_0 rfl rfl ?_
  refine Tr.istore_n (pc := 1) (i := 2) (ls2 := [(2, (0, a1)), (0, (2, 2)), (1, (0, a1))]) d_X7_takeWord_1 rfl (by decide) rfl ?_
  refine Tr.iconst (pc := 2) d_X7_takeWord_2 (by decide) ?_
  refine Tr.istore_n (pc := 3) (i := 3) (ls2 := [(3, (0, 0)), (2, (0, a1)), (0, (2, 2)), (1, (0, a1))]) d_X7_takeWord_3 rfl (by decide) rfl ?_
  have J4 : ∀ (n4 : Nat) (M : Mem) (p4_2 p4_3 : Int), St Tru ws_X7_takeWord_2 as_X7_takeWord_2 M0 M → (0 ≤ p4_2 ∧ p4_2 ≤ 900) → ((-2147483648) ≤ p4_3 ∧ p4_3 ≤ 2147483647) → (900 - p4_2).toNat < n4 → Tr l K 6 mX7_takeWord 4 [(0, (2, 2)), (1, (0, a1)), (2, (0, p4_2)), (3, (0, p4_3))] [] M (q_X7_takeWord_2 M0) := by
    intro n4
    induction n4 with
    | zero => intro M p4_2 p4_3 hS bp4_2 bp4_3  hm4; exact absurd hm4 (Nat.not_lt_zero _)
    | succ n4 J4 =>
      intro M p4_2 p4_3 hS bp4_2 bp4_3  hm4
      refine Tr.iload_n (pc := 4) (i := 2) d_X7_takeWord_4 rfl rfl ?_
      refine Tr.aload_n (pc := 5) (i := 0) d_X7_takeWord_5 rfl rfl ?_
      refine Tr.getf (pc := 6) d_X7_takeWord_6 f_7_25 (by decide) (by decide) (ty_2 hS.1.1) ?_
      refine Tr.gen (P := fun v => 0 ≤ v ∧ v ≤ 900) (ir_2_5 hS.1.2.1) (fun r6 er6 br6 => ?_)
      have J53 : ∀ (M : Mem), St Tru ws_X7_takeWord_2 as_X7_takeWord_2 M0 M → rd M 2 5 = r6 → Tr l K 6 mX7_takeWord 53 [(0, (2, 2)), (1, (0, a1)), (2, (0, p4_2)), (3, (0, p4_3))] [] M (q_X7_takeWord_2 M0) := by
        intro M  hS  k53_2_5
        refine Tr.iload_n (pc := 53) (i := 2) d_X7_takeWord_53 rfl rfl ?_
        refine Tr.iload_n (pc := 54) (i := 1) d_X7_takeWord_54 rfl rfl ?_
        refine Tr.isub (pc := 55) d_X7_takeWord_55 ?_
        refine Tr.tp (-a1 + p4_2) ((w32_id (by omega)).trans (by omega)) ?_
        refine Tr.bipush (pc := 56) d_X7_takeWord_56 rfl (by decide) ?_
        refine Tr.icmp_le (pc := 58) (tgt := 73) d_X7_takeWord_58 rfl (fun c58 => ?_) (fun c58 => ?_)
        · refine Tr.aload_n (pc := 73) (i := 0) d_X7_takeWord_73 rfl rfl ?_
          refine Tr.iload_n (pc := 74) (i := 1) d_X7_takeWord_74 rfl rfl ?_
          refine Tr.iload_n (pc := 75) (i := 2) d_X7_takeWord_75 rfl rfl ?_
          refine Tr.callV (pc := 76) (as := [_, _]) d_X7_takeWord_76 s_7_64 ok_X7_ownWord rfl rfl (Nat.le_of_ble_eq_true rfl) (Nat.le_of_ble_eq_true rfl) (by decide) (ty_2 hS.1.1) ?_
          refine Tr.imp (Tr.deep (by decide) (sp_X7_ownWord_2 hS.1 hE ((St.kp hS (by decide) (by decide) (by decide)).trans en_2_4) a1 (by omega) p4_2 (by omega))) ?_
          rintro M76 _ ⟨h76, r76, rfl, lr76, ur76⟩
          have hS := St.tr hS h76 (by decide) (by decide)
          refine Tr.sc [(0, r76)] rfl ?_
          refine Tr.istore (pc := 79) (i := 4) (ls2 := [(4, (0, r76)), (0, (2, 2)), (1, (0, a1)), (2, (0, p4_2)), (3, (0, p4_3))]) d_X7_takeWord_79 (by decide) rfl ?_
          refine Tr.iload (pc := 81) (i := 4) d_X7_takeWord_81 rfl ?_
          refine Tr.if_lt (pc := 83) (tgt := 96) d_X7_takeWord_83 rfl (fun c83 => ?_) (fun c83 => ?_)
          · refine Tr.aload_n (pc := 96) (i := 0) d_X7_takeWord_96 rfl rfl ?_
            refine Tr.iconst (pc := 97) d_X7_takeWord_97 (by decide) ?_
            refine Tr.iload_n (pc := 98) (i := 1) d_X7_takeWord_98 rfl rfl ?_
            refine Tr.iload_n (pc := 99) (i := 3) d_X7_takeWord_99 rfl rfl ?_
            refine Tr.iload_n (pc := 100) (i := 2) d_X7_takeWord_100 rfl rfl ?_
            refine Tr.callV (pc := 101) (as := [_, _, _, _]) d_X7_takeWord_101 s_7_40 ok_X7_add rfl rfl (Nat.le_of_ble_eq_true rfl) (Nat.le_of_ble_eq_true rfl) (by decide) (ty_2 hS.1.1) ?_
            refine Tr.imp (Tr.deep (by decide) (sp_X7_add_2_w3 hS.1 3 (by omega) a1 (by omega) p4_3 (by omega) p4_2 (by omega))) ?_
            rintro M101 _ ⟨h101, r101, rfl, lr101, ur101⟩
            have hS := St.tr hS h101 (by decide) (by decide)
            refine Tr.sc [(0, r101)] rfl ?_
            exact Tr.iret (pc := 104) d_X7_takeWord_104 rfl ⟨hS, _, rfl, by omega, by omega⟩
          · refine Tr.aload_n (pc := 86) (i := 0) d_X7_takeWord_86 rfl rfl ?_
            refine Tr.iconst (pc := 87) d_X7_takeWord_87 (by decide) ?_
            refine Tr.iload_n (pc := 88) (i := 1) d_X7_takeWord_88 rfl rfl ?_
            refine Tr.iload (pc := 89) (i := 4) d_X7_takeWord_89 rfl ?_
            refine Tr.iload_n (pc := 91) (i := 2) d_X7_takeWord_91 rfl rfl ?_
            refine Tr.callV (pc := 92) (as := [_, _, _, _]) d_X7_takeWord_92 s_7_40 ok_X7_add rfl rfl (Nat.le_of_ble_eq_true rfl) (Nat.le_of_ble_eq_true rfl) (by decide) (ty_2 hS.1.1) ?_
            refine Tr.imp (Tr.deep (by decide) (sp_X7_add_2_w4 hS.1 2 (by omega) a1 (by omega) r76 (by omega) p4_2 (by omega))) ?_
            rintro M92 _ ⟨h92, r92, rfl, lr92, ur92⟩
            have hS := St.tr hS h92 (by decide) (by decide)
            refine Tr.sc [(0, r92)] rfl ?_
            exact Tr.iret (pc := 95) d_X7_takeWord_95 rfl ⟨hS, _, rfl, by omega, by omega⟩
        · refine Tr.aload_n (pc := 61) (i := 0) d_X7_takeWord_61 rfl rfl ?_
          refine Tr.iconst (pc := 62) d_X7_takeWord_62 (by decide) ?_
          refine Tr.iload_n (pc := 63) (i := 1) d_X7_takeWord_63 rfl rfl ?_
          refine Tr.bipush (pc := 64) d_X7_takeWord_64 rfl (by decide) ?_
          refine Tr.iadd (pc := 66) d_X7_takeWord_66 ?_
          refine Tr.tp (a1 + 6) ((w32_id (by omega)).trans (by omega)) ?_
          refine Tr.iconst (pc := 67) d_X7_takeWord_67 (by decide) ?_
          refine Tr.iconst (pc := 68) d_X7_takeWord_68 (by decide) ?_
          refine Tr.callV (pc := 69) (as := [_, _, _, _]) d_X7_takeWord_69 s_7_40 ok_X7_add rfl rfl (Nat.le_of_ble_eq_true rfl) (Nat.le_of_ble_eq_true rfl) (by decide) (ty_2 hS.1.1) ?_
          refine Tr.imp (Tr.deep (by decide) (sp_X7_add_2_w2 hS.1 1 (by omega) (a1 + 6) (by omega) 0 (by omega) (-1) (by omega))) ?_
          rintro M69 _ ⟨h69, r69, rfl, lr69, ur69⟩
          have hS := St.tr hS h69 (by decide) (by decide)
          refine Tr.sc [(0, r69)] rfl ?_
          exact Tr.iret (pc := 72) d_X7_takeWord_72 rfl ⟨hS, _, rfl, by omega, by omega⟩
      refine Tr.icmp_ge (pc := 9) (tgt := 53) d_X7_takeWord_9 rfl (fun c9 => ?_) (fun c9 => ?_)
      · refine Tr.pick [0, 1, 2, 3] (ls2 := [(0, (2, 2)), (1, (0, a1)), (2, (0, p4_2)), (3, (0, p4_3))]) rfl ?_
        exact J53 _ hS er6
      · refine Tr.iload_n (pc := 12) (i := 2) d_X7_takeWord_12 rfl rfl ?_
        refine Tr.iload_n (pc := 13) (i := 1) d_X7_takeWord_13 rfl rfl ?_
        refine Tr.bipush (pc := 14) d_X7_takeWord_14 rfl (by decide) ?_
        refine Tr.iadd (pc := 16) d_X7_takeWord_16 ?_
        refine Tr.tp (a1 + 6) ((w32_id (by omega)).trans (by omega)) ?_
        refine Tr.icmp_gt (pc := 17) (tgt := 53) d_X7_takeWord_17 rfl (fun c17 => ?_) (fun c17 => ?_)
        · refine Tr.pick [0, 1, 2, 3] (ls2 := [(0, (2, 2)), (1, (0, a1)), (2, (0, p4_2)), (3, (0, p4_3))]) rfl ?_
          exact J53 _ hS er6
        · refine Tr.aload_n (pc := 20) (i := 0) d_X7_takeWord_20 rfl rfl ?_
          refine Tr.getf (pc := 21) d_X7_takeWord_21 f_7_21 (by decide) (by decide) (ty_2 hS.1.1) ?_
          refine Tr.tp 1 ((St.kp hS (by decide) (by decide) (by decide)).trans en_2_4) ?_
          refine Tr.iload_n (pc := 24) (i := 2) d_X7_takeWord_24 rfl rfl ?_
          refine Tr.bald (pc := 25) d_X7_takeWord_25 (ty_1 hS.1.1) (by omega) (by omega) ?_
          refine Tr.gen (P := fun v => (-128) ≤ v ∧ v ≤ 127) (ar_1 hS.1.2.1 _) (fun r25 er25 br25 => ?_)
          refine Tr.callS (pc := 26) (as := [_]) d_X7_takeWord_26 s_7_44 ok_X7_isLetter rfl rfl (Nat.le_of_ble_eq_true rfl) (Nat.le_of_ble_eq_true rfl) ?_
          refine Tr.imp (Tr.deep (by decide) (sp_X7_isLetter hS.1 r25 (by omega))) ?_
          rintro M26 _ ⟨h26, r26, rfl, lr26, ur26⟩
          have hS := St.tr hS h26 (by decide) (by decide)
          refine Tr.sc [(0, r26)] rfl ?_
          refine Tr.if_eq (pc := 29) (tgt := 53) d_X7_takeWord_29 rfl (fun c29 => ?_) (fun c29 => ?_)
          · refine Tr.pick [0, 1, 2, 3] (ls2 := [(0, (2, 2)), (1, (0, a1)), (2, (0, p4_2)), (3, (0, p4_3))]) rfl ?_
            exact J53 _ hS ((St.kp h26 (by decide) (by decide) (by decide)).trans er6)
          · refine Tr.iload_n (pc := 32) (i := 3) d_X7_takeWord_32 rfl rfl ?_
            refine Tr.bipush (pc := 33) d_X7_takeWord_33 rfl (by decide) ?_
            refine Tr.imul (pc := 35) d_X7_takeWord_35 ?_
            refine Tr.gen (P := fun v => (-2147483648) ≤ v ∧ v ≤ 2147483647) (w32_b _) (fun r35 er35 br35 => ?_)
            refine Tr.aload_n (pc := 36) (i := 0) d_X7_takeWord_36 rfl rfl ?_
            refine Tr.getf (pc := 37) d_X7_takeWord_37 f_7_21 (by decide) (by decide) (ty_2 hS.1.1) ?_
            refine Tr.tp 1 ((St.kp hS (by decide) (by decide) (by decide)).trans en_2_4) ?_
            refine Tr.iload_n (pc := 40) (i := 2) d_X7_takeWord_40 rfl rfl ?_
            refine Tr.bald (pc := 41) d_X7_takeWord_41 (ty_1 hS.1.1) (by omega) (by omega) ?_
            refine Tr.tp r25 ((St.ka h26 (by decide) (by decide) (by decide)).trans er25) ?_
            refine Tr.iadd (pc := 42) d_X7_takeWord_42 ?_
            refine Tr.gen (P := fun v => (-2147483648) ≤ v ∧ v ≤ 2147483647) (w32_b _) (fun r42 er42 br42 => ?_)
            refine Tr.bipush (pc := 43) d_X7_takeWord_43 rfl (by decide) ?_
            refine Tr.isub (pc := 45) d_X7_takeWord_45 ?_
            refine Tr.gen (P := fun v => (-2147483648) ≤ v ∧ v ≤ 2147483647) (w32_b _) (fun r45 er45 br45 => ?_)
            refine Tr.istore_n (pc := 46) (i := 3) (ls2 := [(3, (0, r45)), (0, (2, 2)), (1, (0, a1)), (2, (0, p4_2))]) d_X7_takeWord_46 rfl (by decide) rfl ?_
            refine Tr.iincV (pc := 47) (n2 := (p4_2 + 1)) (ls2 := [(2, (0, (p4_2 + 1))), (3, (0, r45)), (0, (2, 2)), (1, (0, a1))]) d_X7_takeWord_47 rfl (by decide) ((w32_id (by omega)).trans (by omega)) rfl ?_
            refine Tr.goto (pc := 50) (tgt := 4) d_X7_takeWord_50 rfl ?_
            refine Tr.pick [2, 3, 0, 1] (ls2 := [(0, (2, 2)), (1, (0, a1)), (2, (0, (p4_2 + 1))), (3, (0, r45))]) rfl ?_
            exact J4 _ _ _ hS (by omega) (by omega) (by omega)
  refine Tr.pick [2, 3, 1, 0] (ls2 := [(0, (2, 2)), (1, (0, a1)), (2, (0, a1)), (3, (0, 0))]) rfl ?_
  exact J4 _ _ _ _ hS (by omega) (by omega) (Nat.lt_succ_self _)

def ws_X7_takeOne_2_w1 : List (Int × Int) := [(2, 3)]
def as_X7_takeOne_2_w1 : List Int := [3, 4, 5]
def q_X7_takeOne_2_w1 (M0 M' : Mem) (r : Option PV) : Prop := St Tru ws_X7_takeOne_2_w1 as_X7_takeOne_2_w1 M0 M' ∧ ∃ v : Int, r = some (0, v) ∧ (-1) ≤ v ∧ v ≤ 900
set_option maxRecDepth 100000 in
set_option maxHeartbeats 4000000 in
theorem sp_X7_takeOne_2_w1 {l : Launch} {K : EC} {M0 : Mem} {xq : Int} (hI : In Tru M0) (hE : e_all K xq) (en_2_4 : rd M0 2 4 = 1) (a1 : Int) (ha1 : 0 ≤ a1 ∧ a1 ≤ 900) (a2 : Int) (ha2 : 0 ≤ a2 ∧ a2 ≤ 1)  : Tr l K 7 mX7_takeOne 0 [(0, (2, 2)), (1, (0, a1)), (2, (0, a2))] [] M0 (q_X7_takeOne_2_w1 M0) := by
  have hS : St Tru ws_X7_takeOne_2_w1 as_X7_takeOne_2_w1 M0 M0 := St.rf hI
  refine Tr.iload_n (pc := 0) (i := 1) d_X7_takeOne_0 rfl rfl ?_
  refine Tr.aload_n (pc := 1) (i := 0) d_X7_takeOne_1 rfl rfl ?_
  refine Tr.getf (pc := 2) d_X7_takeOne_2 f_7_25 (by decide) (by decide) (ty_2 hS.1.1) ?_
  refine Tr.gen (P := fun v => 0 ≤ v ∧ v ≤ 900) (ir_2_5 hS.1.2.1) (fun r2 er2 br2 => ?_)
  refine Tr.icmp_lt (pc := 5) (tgt := 17) d_X7_takeOne_5 rfl (fun c5 => ?_) (fun c5 => ?_)
  · refine Tr.aload_n (pc := 17) (i := 0) d_X7_takeOne_17 rfl rfl ?_
    refine Tr.getf (pc := 18) d_X7_takeOne_18 f_7_21 (by decide) (by decide) (ty_2 hS.1.1) ?_
    refine Tr.tp 1 ((St.kp hS (by decide) (by decide) (by decide)).trans en_2_4) ?_
    refine Tr.iload_n (pc := 21) (i := 1) d_X7_takeOne_21 rfl rfl ?_
    refine Tr.bald (pc := 22) d_X7_takeOne_22 (ty_1 hS.1.1) (by omega) (by omega) ?_
    refine Tr.gen (P := fun v => (-128) ≤ v ∧ v ≤ 127) (ar_1 hS.1.2.1 _) (fun r22 er22 br22 => ?_)
    refine Tr.istore_n (pc := 23) (i := 3) (ls2 := [(3, (0, r22)), (0, (2, 2)), (1, (0, a1)), (2, (0, a2))]) d_X7_takeOne_23 rfl (by decide) rfl ?_
    refine Tr.iload_n (pc := 24) (i := 3) d_X7_takeOne_24 rfl rfl ?_
    refine Tr.callS (pc := 25) (as := [_]) d_X7_takeOne_25 s_7_44 ok_X7_isLetter rfl rfl (Nat.le_of_ble_eq_true rfl) (Nat.le_of_ble_eq_true rfl) ?_
    refine Tr.imp (Tr.deep (by decide) (sp_X7_isLetter hS.1 r22 (by omega))) ?_
    rintro M25 _ ⟨h25, r25, rfl, lr25, ur25⟩
    have hS := St.tr hS h25 (by decide) (by decide)
    refine Tr.sc [(0, r25)] rfl ?_
    have J38 : ∀ (M : Mem), St Tru ws_X7_takeOne_2_w1 as_X7_takeOne_2_w1 M0 M → rd M 1 a1 = r22 → rd M 2 5 = r2 → Tr l K 7 mX7_takeOne 38 [(0, (2, 2)), (1, (0, a1)), (2, (0, a2)), (3, (0, r22))] [] M (q_X7_takeOne_2_w1 M0) := by
      intro M  hS  k38_1_a110 k38_2_5
      refine Tr.iload_n (pc := 38) (i := 2) d_X7_takeOne_38 rfl rfl ?_
      refine Tr.if_eq (pc := 39) (tgt := 51) d_X7_takeOne_39 rfl (fun c39 => ?_) (fun c39 => ?_)
      · refine Tr.iload_n (pc := 51) (i := 3) d_X7_takeOne_51 rfl rfl ?_
        refine Tr.callS (pc := 52) (as := [_]) d_X7_takeOne_52 s_7_44 ok_X7_isLetter rfl rfl (Nat.le_of_ble_eq_true rfl) (Nat.le_of_ble_eq_true rfl) ?_
        refine Tr.imp (Tr.deep (by decide) (sp_X7_isLetter hS.1 r22 (by omega))) ?_
        rintro M52 _ ⟨h52, r52, rfl, lr52, ur52⟩
        have hS := St.tr hS h52 (by decide) (by decide)
        refine Tr.sc [(0, r52)] rfl ?_
        refine Tr.if_eq (pc := 55) (tgt := 66) d_X7_takeOne_55 rfl (fun c55 => ?_) (fun c55 => ?_)
        · refine Tr.aload_n (pc := 66) (i := 0) d_X7_takeOne_66 rfl rfl ?_
          refine Tr.iload_n (pc := 67) (i := 1) d_X7_takeOne_67 rfl rfl ?_
          refine Tr.callV (pc := 68) (as := [_]) d_X7_takeOne_68 s_7_54 ok_X7_takeNumber rfl rfl (Nat.le_of_ble_eq_true rfl) (Nat.le_of_ble_eq_true rfl) (by decide) (ty_2 hS.1.1) ?_
          refine Tr.imp (Tr.deep (by decide) (sp_X7_takeNumber_2 hS.1 ((St.kp hS (by decide) (by decide) (by decide)).trans en_2_4) a1 (by omega))) ?_
          rintro M68 _ ⟨h68, r68, rfl, lr68, ur68⟩
          have hS := St.tr hS h68 (by decide) (by decide)
          refine Tr.sc [(0, r68)] rfl ?_
          exact Tr.iret (pc := 71) d_X7_takeOne_71 rfl ⟨hS, _, rfl, by omega, by omega⟩
        · refine Tr.aload_n (pc := 58) (i := 0) d_X7_takeOne_58 rfl rfl ?_
          refine Tr.iload_n (pc := 59) (i := 1) d_X7_takeOne_59 rfl rfl ?_
          refine Tr.callV (pc := 60) (as := [_]) d_X7_takeOne_60 s_7_51 ok_X7_takeWord rfl rfl (Nat.le_of_ble_eq_true rfl) (Nat.le_of_ble_eq_true rfl) (by decide) (ty_2 hS.1.1) ?_
          refine Tr.imp (Tr.deep (by decide) (sp_X7_takeWord_2 hS.1 hE ((St.kp hS (by decide) (by decide) (by decide)).trans en_2_4) a1 (by omega))) ?_
          rintro M60 _ ⟨h60, r60, rfl, lr60, ur60⟩
          have hS := St.tr hS h60 (by decide) (by decide)
          refine Tr.sc [(0, r60)] rfl ?_
          refine Tr.goto (pc := 63) (tgt := 71) d_X7_takeOne_63 rfl ?_
          exact Tr.iret (pc := 71) d_X7_takeOne_71 rfl ⟨hS, _, rfl, by omega, by omega⟩
      · refine Tr.aload_n (pc := 42) (i := 0) d_X7_takeOne_42 rfl rfl ?_
        refine Tr.iconst (pc := 43) d_X7_takeOne_43 (by decide) ?_
        refine Tr.iload_n (pc := 44) (i := 1) d_X7_takeOne_44 rfl rfl ?_
        refine Tr.iconst (pc := 45) d_X7_takeOne_45 (by decide) ?_
        refine Tr.iconst (pc := 46) d_X7_takeOne_46 (by decide) ?_
        refine Tr.callV (pc := 47) (as := [_, _, _, _]) d_X7_takeOne_47 s_7_40 ok_X7_add rfl rfl (Nat.le_of_ble_eq_true rfl) (Nat.le_of_ble_eq_true rfl) (by decide) (ty_2 hS.1.1) ?_
        refine Tr.imp (Tr.deep (by decide) (sp_X7_add_2_w2 hS.1 1 (by omega) a1 (by omega) 0 (by omega) (-1) (by omega))) ?_
        rintro M47 _ ⟨h47, r47, rfl, lr47, ur47⟩
        have hS := St.tr hS h47 (by decide) (by decide)
        refine Tr.sc [(0, r47)] rfl ?_
        exact Tr.iret (pc := 50) d_X7_takeOne_50 rfl ⟨hS, _, rfl, by omega, by omega⟩
    refine Tr.if_ne (pc := 28) (tgt := 38) d_X7_takeOne_28 rfl (fun c28 => ?_) (fun c28 => ?_)
    · refine Tr.pick [1, 2, 3, 0] (ls2 := [(0, (2, 2)), (1, (0, a1)), (2, (0, a2)), (3, (0, r22))]) rfl ?_
      exact J38 _ hS ((St.ka h25 (by decide) (by decide) (by decide)).trans er22) ((St.kp h25 (by decide) (by decide) (by decide)).trans er2)
    · refine Tr.iload_n (pc := 31) (i := 3) d_X7_takeOne_31 rfl rfl ?_
      refine Tr.callS (pc := 32) (as := [_]) d_X7_takeOne_32 s_7_48 ok_X7_isDigit rfl rfl (Nat.le_of_ble_eq_true rfl) (Nat.le_of_ble_eq_true rfl) ?_
      refine Tr.imp (Tr.deep (by decide) (sp_X7_isDigit hS.1 r22 (by omega))) ?_
      rintro M32 _ ⟨h32, r32, rfl, lr32, ur32⟩
      have hS := St.tr hS h32 (by decide) (by decide)
      refine Tr.sc [(0, r32)] rfl ?_
      refine Tr.if_eq (pc := 35) (tgt := 72) d_X7_takeOne_35 rfl (fun c35 => ?_) (fun c35 => ?_)
      · refine Tr.iload_n (pc := 72) (i := 3) d_X7_takeOne_72 rfl rfl ?_
        have J97 : ∀ (M : Mem), St Tru ws_X7_takeOne_2_w1 as_X7_takeOne_2_w1 M0 M → rd M 1 a1 = r22 → rd M 2 5 = r2 → Tr l K 7 mX7_takeOne 97 [(0, (2, 2)), (1, (0, a1))] [] M (q_X7_takeOne_2_w1 M0) := by
          intro M  hS  k97_1_a110 k97_2_5
          refine Tr.aload_n (pc := 97) (i := 0) d_X7_takeOne_97 rfl rfl ?_
          refine Tr.iconst (pc := 98) d_X7_takeOne_98 (by decide) ?_
          refine Tr.iload_n (pc := 99) (i := 1) d_X7_takeOne_99 rfl rfl ?_
          refine Tr.iconst (pc := 100) d_X7_takeOne_100 (by decide) ?_
          refine Tr.iconst (pc := 101) d_X7_takeOne_101 (by decide) ?_
          refine Tr.callV (pc := 102) (as := [_, _, _, _]) d_X7_takeOne_102 s_7_40 ok_X7_add rfl rfl (Nat.le_of_ble_eq_true rfl) (Nat.le_of_ble_eq_true rfl) (by decide) (ty_2 hS.1.1) ?_
          refine Tr.imp (Tr.deep (by decide) (sp_X7_add_2_w2 hS.1 1 (by omega) a1 (by omega) 0 (by omega) (-1) (by omega))) ?_
          rintro M102 _ ⟨h102, r102, rfl, lr102, ur102⟩
          have hS := St.tr hS h102 (by decide) (by decide)
          refine Tr.sc [(0, r102)] rfl ?_
          exact Tr.iret (pc := 105) d_X7_takeOne_105 rfl ⟨hS, _, rfl, by omega, by omega⟩
        refine Tr.if_le (pc := 73) (tgt := 97) d_X7_takeOne_73 rfl (fun c73 => ?_) (fun c73 => ?_)
        · refine Tr.pick [1, 2] (ls2 := [(0, (2, 2)), (1, (0, a1))]) rfl ?_
          exact J97 _ hS ((St.ka h32 (by decide) (by decide) (by decide)).trans ((St.ka h25 (by decide) (by decide) (by decide)).trans er22)) ((St.kp h32 (by decide) (by decide) (by decide)).trans ((St.kp h25 (by decide) (by decide) (by decide)).trans er2))
        · refine Tr.ldcs (pc := 76) (i := 6) d_X7_takeOne_76 hE.2.2.2.2.2.2.2.2.2.2.2.2.2.2.2.2.1 ?_
          refine Tr.tp (-8) rfl ?_
          refine Tr.iload_n (pc := 78) (i := 3) d_X7_takeOne_78 rfl rfl ?_
          refine Tr.i2c (pc := 79) d_X7_takeOne_79 (by omega) ?_
          refine Tr.callX (pc := 80) (i := 6) (as := [_]) d_X7_takeOne_80 sx_7_59 ok_J0_indexOf_0f7a4 rfl rfl (Nat.le_of_ble_eq_true rfl) (Nat.le_of_ble_eq_true rfl) rfl hE.2.2.2.2.2.2.2.2.2.2.2.1 ?_
          refine Tr.imp (Tr.deep (by decide) (sp_J0_indexOf_0f7a4_n8 hS.1 hE r22 (by omega))) ?_
          rintro M80 _ ⟨h80, r80, rfl, lr80, ur80⟩
          have hS := St.tr hS h80 (by decide) (by decide)
          refine Tr.sc [(0, r80)] rfl ?_
          refine Tr.if_lt (pc := 83) (tgt := 97) d_X7_takeOne_83 rfl (fun c83 => ?_) (fun c83 => ?_)
          · refine Tr.pick [1, 2] (ls2 := [(0, (2, 2)), (1, (0, a1))]) rfl ?_
            exact J97 _ hS ((St.ka h80 (by decide) (by decide) (by decide)).trans ((St.ka h32 (by decide) (by decide) (by decide)).trans ((St.ka h25 (by decide) (by decide) (by decide)).trans er22))) ((St.kp h80 (by decide) (by decide) (by decide)).trans ((St.kp h32 (by decide) (by decide) (by decide)).trans ((St.kp h25 (by decide) (by decide) (by decide)).trans er2)))
          · refine Tr.aload_n (pc := 86) (i := 0) d_X7_takeOne_86 rfl rfl ?_
            refine Tr.iconst (pc := 87) d_X7_takeOne_87 (by decide) ?_
            refine Tr.iload_n (pc := 88) (i := 1) d_X7_takeOne_88 rfl rfl ?_
            refine Tr.iload_n (pc := 89) (i := 3) d_X7_takeOne_89 rfl rfl ?_
            refine Tr.iload_n (pc := 90) (i := 1) d_X7_takeOne_90 rfl rfl ?_
            refine Tr.iconst (pc := 91) d_X7_takeOne_91 (by decide) ?_
            refine Tr.iadd (pc := 92) d_X7_takeOne_92 ?_
            refine Tr.tp (a1 + 1) ((w32_id (by omega)).trans (by omega)) ?_
            refine Tr.callV (pc := 93) (as := [_, _, _, _]) d_X7_takeOne_93 s_7_40 ok_X7_add rfl rfl (Nat.le_of_ble_eq_true rfl) (Nat.le_of_ble_eq_true rfl) (by decide) (ty_2 hS.1.1) ?_
            refine Tr.imp (Tr.deep (by decide) (sp_X7_add_2 hS.1 5 (by omega) a1 (by omega) r22 (by omega) (a1 + 1) (by omega))) ?_
            rintro M93 _ ⟨h93, r93, rfl, lr93, ur93⟩
            have hS := St.tr hS h93 (by decide) (by decide)
            refine Tr.sc [(0, r93)] rfl ?_
            exact Tr.iret (pc := 96) d_X7_takeOne_96 rfl ⟨hS, _, rfl, by omega, by omega⟩
      · refine Tr.pick [1, 2, 3, 0] (ls2 := [(0, (2, 2)), (1, (0, a1)), (2, (0, a2)), (3, (0, r22))]) rfl ?_
        exact J38 _ hS ((St.ka h32 (by decide) (by decide) (by decide)).trans ((St.ka h25 (by decide) (by decide) (by decide)).trans er22)) ((St.kp h32 (by decide) (by decide) (by decide)).trans ((St.kp h25 (by decide) (by decide) (by decide)).trans er2))
  · refine Tr.aload_n (pc := 8) (i := 0) d_X7_takeOne_8 rfl rfl ?_
    refine Tr.iconst (pc := 9) d_X7_takeOne_9 (by decide) ?_
    refine Tr.iload_n (pc := 10) (i := 1) d_X7_takeOne_10 rfl rfl ?_
    refine Tr.iconst (pc := 11) d_X7_takeOne_11 (by decide) ?_
    refine Tr.iconst (pc := 12) d_X7_takeOne_12 (by decide) ?_
    refine Tr.callV (pc := 13) (as := [_, _, _, _]) d_X7_takeOne_13 s_7_40 ok_X7_add rfl rfl (Nat.le_of_ble_eq_true rfl) (Nat.le_of_ble_eq_true rfl) (by decide) (ty_2 hS.1.1) ?_
    refine Tr.imp (Tr.deep (by decide) (sp_X7_add_2_w1 hS.1 0 (by omega) a1 (by omega) 0 (by omega) (-1) (by omega))) ?_
    rintro M13 _ ⟨h13, r13, rfl, lr13, ur13⟩
    have hS := St.tr hS h13 (by decide) (by decide)
    refine Tr.sc [(0, r13)] rfl ?_
    exact Tr.iret (pc := 16) d_X7_takeOne_16 rfl ⟨hS, _, rfl, by omega, by omega⟩
end
/-! 34.01 -/
section
def ws_X7_takeApart_2_1 : List (Int × Int) := [(2, 3), (2, 4), (2, 5)]
def as_X7_takeApart_2_1 : List Int := [3, 4, 5]
def q_X7_takeApart_2_1 (M0 M' : Mem) (r : Option PV) : Prop := St Tru ws_X7_takeApart_2_1 as_X7_takeApart_2_1 M0 M' ∧ rd M' 2 4 = 1 ∧ r = none
set_option maxRecDepth 100000 in
set_option maxHeartbeats 4000000 in
theorem sp_X7_takeApart_2_1 {l : Launch} {K : EC} {M0 : Mem} {xq : Int} (hI : In Tru M0) (hE : e_all K xq)  (a2 : Int) (ha2 : 0 ≤ a2 ∧ a2 ≤ 900)  : Tr l K 8 mX7_takeApart 0 [(0, (2, 2)), (1, (2, 1)), (2, (0, a2))] [] M0 (q_X7_takeApart_2_1 M0) := by
  have hS : St Tru ws_X7_takeApart_2_1 as_X7_takeApart_2_1 M0 M0 := St.rf hI
  refine Tr.aload_n (pc := 0) (i := 0) d_X7_takeApart_0 rfl rfl ?_
  refine Tr.aload_n (pc := 1) (i := 1) d_X7_takeApart_1 rfl rfl ?_
  refine Tr.putfS (pc := 2) (P := St Tru ws_X7_takeApart_2_1 as_X7_takeApart_2_1 M0) d_X7_takeApart_2 f_7_21 (by decide) (by decide) (ty_2 hS.1.1) (st_2_4 hS (by decide) (by omega) trivial) (fun M2 hS w2 => ?_)
  refine Tr.aload_n (pc := 5) (i := 0) d_X7_takeApart_5 rfl rfl ?_
  refine Tr.iload_n (pc := 6) (i := 2) d_X7_takeApart_6 rfl rfl ?_
  refine Tr.putfS (pc := 7) (P := St Tru ws_X7_takeApart_2_1 as_X7_takeApart_2_1 M0) d_X7_takeApart_7 f_7_25 (by decide) (by decide) (ty_2 hS.1.1) (st_2_5 hS (by decide) (by omega) trivial) (fun M7 hS w7 => ?_)
  refine Tr.aload_n (pc := 10) (i := 0) d_X7_takeApart_10 rfl rfl ?_
  refine Tr.iconst (pc := 11) d_X7_takeApart_11 (by decide) ?_
  refine Tr.putfS (pc := 12) (P := St Tru ws_X7_takeApart_2_1 as_X7_takeApart_2_1 M0) d_X7_takeApart_12 f_7_29 (by decide) (by decide) (ty_2 hS.1.1) (st_2_3 hS (by decide) (by omega) trivial) (fun M12 hS w12 => ?_)
  refine Tr.iconst (pc := 15) d_X7_takeApart_15 (by decide) ?_
  refine Tr.istore_n (pc := 16) (i := 3) (ls2 := [(3, (0, 0)), (0, (2, 2)), (1, (2, 1)), (2, (0, a2))]) d_X7_takeApart_16 rfl (by decide) rfl ?_
  refine Tr.iconst (pc := 17) d_X7_takeApart_17 (by decide) ?_
  refine Tr.istore (pc := 18) (i := 4) (ls2 := [(4, (0, 0)), (3, (0, 0)), (0, (2, 2)), (1, (2, 1)), (2, (0, a2))]) d_X7_takeApart_18 (by decide) rfl ?_
  refine Tr.iconst (pc := 20) d_X7_takeApart_20 (by decide) ?_
  refine Tr.istore (pc := 21) (i := 5) (ls2 := [(5, (0, 0)), (4, (0, 0)), (3, (0, 0)), (0, (2, 2)), (1, (2, 1)), (2, (0, a2))]) d_X7_takeApart_21 (by decide) rfl ?_
  have J23 : ∀ (n23 : Nat) (M : Mem) (p23_3 p23_4 p23_5 : Int), St Tru ws_X7_takeApart_2_1 as_X7_takeApart_2_1 M0 M → ((-1) ≤ p23_3 ∧ p23_3 ≤ 900) → (0 ≤ p23_4 ∧ p23_4 ≤ 1) → (0 ≤ p23_5 ∧ p23_5 ≤ 901) → rd M 2 4 = 1 → rd M 2 5 = a2 → (901 - p23_5).toNat < n23 → Tr l K 8 mX7_takeApart 23 [(0, (2, 2)), (3, (0, p23_3)), (4, (0, p23_4)), (5, (0, p23_5))] [] M (q_X7_takeApart_2_1 M0) := by
    intro n23
    induction n23 with
    | zero => intro M p23_3 p23_4 p23_5 hS bp23_3 bp23_4 bp23_5 k23_2_4 k23_2_5 hm23; exact absurd hm23 (Nat.not_lt_zero _)
    | succ n23 J23 =>
      intro M p23_3 p23_4 p23_5 hS bp23_3 bp23_4 bp23_5 k23_2_4 k23_2_5 hm23
      refine Tr.iload (pc := 23) (i := 5) d_X7_takeApart_23 rfl ?_
      refine Tr.sipush (pc := 25) d_X7_takeApart_25 rfl (by decide) ?_
      refine Tr.icmp_gt (pc := 28) (tgt := 104) d_X7_takeApart_28 rfl (fun c28 => ?_) (fun c28 => ?_)
      · exact Tr.vret (pc := 104) d_X7_takeApart_104 rfl ⟨hS, k23_2_4, rfl⟩
      · refine Tr.iload_n (pc := 31) (i := 3) d_X7_takeApart_31 rfl rfl ?_
        refine Tr.if_lt (pc := 32) (tgt := 104) d_X7_takeApart_32 rfl (fun c32 => ?_) (fun c32 => ?_)
        · exact Tr.vret (pc := 104) d_X7_takeApart_104 rfl ⟨hS, k23_2_4, rfl⟩
        · refine Tr.aload_n (pc := 35) (i := 0) d_X7_takeApart_35 rfl rfl ?_
          refine Tr.iload_n (pc := 36) (i := 3) d_X7_takeApart_36 rfl rfl ?_
          refine Tr.callV (pc := 37) (as := [_]) d_X7_takeApart_37 s_7_32 ok_X7_skipBlanks rfl rfl (Nat.le_of_ble_eq_true rfl) (Nat.le_of_ble_eq_true rfl) (by decide) (ty_2 hS.1.1) ?_
          refine Tr.imp (Tr.deep (by decide) (sp_X7_skipBlanks_2_w1 hS.1 k23_2_4 p23_3 (by omega))) ?_
          rintro M37 _ ⟨h37, r37, rfl, lr37, ur37⟩
          have hS := St.tr hS h37 (by decide) (by decide)
          refine Tr.sc [(0, r37)] rfl ?_
          refine Tr.istore (pc := 40) (i := 6) (ls2 := [(6, (0, r37)), (0, (2, 2)), (3, (0, p23_3)), (4, (0, p23_4)), (5, (0, p23_5))]) d_X7_takeApart_40 (by decide) rfl ?_
          refine Tr.iload (pc := 42) (i := 4) d_X7_takeApart_42 rfl ?_
          have J58 : ∀ (M : Mem) (q58_0 : Int), St Tru ws_X7_takeApart_2_1 as_X7_takeApart_2_1 M0 M → (0 ≤ q58_0 ∧ q58_0 ≤ 1) → rd M 2 4 = 1 → rd M 2 5 = a2 → Tr l K 8 mX7_takeApart 58 [(0, (2, 2)), (5, (0, p23_5)), (6, (0, r37))] [(0, q58_0)] M (q_X7_takeApart_2_1 M0) := by
            intro M q58_0 hS bq58_0 k58_2_4 k58_2_5
            refine Tr.istore (pc := 58) (i := 7) (ls2 := [(7, (0, q58_0)), (0, (2, 2)), (5, (0, p23_5)), (6, (0, r37))]) d_X7_takeApart_58 (by decide) rfl ?_
            refine Tr.aload_n (pc := 60) (i := 0) d_X7_takeApart_60 rfl rfl ?_
            refine Tr.iload (pc := 61) (i := 6) d_X7_takeApart_61 rfl ?_
            refine Tr.iload (pc := 63) (i := 7) d_X7_takeApart_63 rfl ?_
            refine Tr.callV (pc := 65) (as := [_, _]) d_X7_takeApart_65 s_7_36 ok_X7_takeOne rfl rfl (Nat.le_of_ble_eq_true rfl) (Nat.le_of_ble_eq_true rfl) (by decide) (ty_2 hS.1.1) ?_
            refine Tr.imp (Tr.deep (by decide) (sp_X7_takeOne_2_w1 hS.1 hE k58_2_4 r37 (by omega) q58_0 (by omega))) ?_
            rintro M65 _ ⟨h65, r65, rfl, lr65, ur65⟩
            have hS := St.tr hS h65 (by decide) (by decide)
            refine Tr.sc [(0, r65)] rfl ?_
            refine Tr.istore_n (pc := 68) (i := 3) (ls2 := [(3, (0, r65)), (7, (0, q58_0)), (0, (2, 2)), (5, (0, p23_5)), (6, (0, r37))]) d_X7_takeApart_68 rfl (by decide) rfl ?_
            refine Tr.aload_n (pc := 69) (i := 0) d_X7_takeApart_69 rfl rfl ?_
            refine Tr.getf (pc := 70) d_X7_takeApart_70 f_7_29 (by decide) (by decide) (ty_2 hS.1.1) ?_
            refine Tr.gen (P := fun v => 0 ≤ v ∧ v ≤ 901) (ir_2_3 hS.1.2.1) (fun r70 er70 br70 => ?_)
            have J96 : ∀ (M : Mem) (q96_0 : Int), St Tru ws_X7_takeApart_2_1 as_X7_takeApart_2_1 M0 M → (0 ≤ q96_0 ∧ q96_0 ≤ 1) → rd M 2 3 = r70 → rd M 2 4 = 1 → rd M 2 5 = a2 → Tr l K 8 mX7_takeApart 96 [(0, (2, 2)), (3, (0, r65)), (5, (0, p23_5))] [(0, q96_0)] M (q_X7_takeApart_2_1 M0) := by
              intro M q96_0 hS bq96_0 k96_2_3 k96_2_4 k96_2_5
              refine Tr.istore (pc := 96) (i := 4) (ls2 := [(4, (0, q96_0)), (0, (2, 2)), (3, (0, r65)), (5, (0, p23_5))]) d_X7_takeApart_96 (by decide) rfl ?_
              refine Tr.iincV (pc := 98) (n2 := (p23_5 + 1)) (ls2 := [(5, (0, (p23_5 + 1))), (4, (0, q96_0)), (0, (2, 2)), (3, (0, r65))]) d_X7_takeApart_98 rfl (by decide) ((w32_id (by omega)).trans (by omega)) rfl ?_
              refine Tr.goto (pc := 101) (tgt := 23) d_X7_takeApart_101 rfl ?_
              refine Tr.pick [2, 3, 1, 0] (ls2 := [(0, (2, 2)), (3, (0, r65)), (4, (0, q96_0)), (5, (0, (p23_5 + 1)))]) rfl ?_
              exact J23 _ _ _ _ hS (by omega) (by omega) (by omega) k96_2_4 k96_2_5 (by omega)
            have J95 : ∀ (M : Mem), St Tru ws_X7_takeApart_2_1 as_X7_takeApart_2_1 M0 M → rd M 2 3 = r70 → rd M 2 4 = 1 → rd M 2 5 = a2 → Tr l K 8 mX7_takeApart 95 [(0, (2, 2)), (3, (0, r65)), (5, (0, p23_5))] [] M (q_X7_takeApart_2_1 M0) := by
              intro M  hS  k95_2_3 k95_2_4 k95_2_5
              refine Tr.iconst (pc := 95) d_X7_takeApart_95 (by decide) ?_
              refine Tr.pick [0, 1, 2] (ls2 := [(0, (2, 2)), (3, (0, r65)), (5, (0, p23_5))]) rfl ?_
              exact J96 _ _ hS (by omega) k95_2_3 k95_2_4 k95_2_5
            refine Tr.if_le (pc := 73) (tgt := 95) d_X7_takeApart_73 rfl (fun c73 => ?_) (fun c73 => ?_)
            · refine Tr.pick [2, 0, 3] (ls2 := [(0, (2, 2)), (3, (0, r65)), (5, (0, p23_5))]) rfl ?_
              exact J95 _ hS er70 ((St.kp h65 (by decide) (by decide) (by decide)).trans k58_2_4) ((St.kp h65 (by decide) (by decide) (by decide)).trans k58_2_5)
            · refine Tr.aload_n (pc := 76) (i := 0) d_X7_takeApart_76 rfl rfl ?_
              refine Tr.getf (pc := 77) d_X7_takeApart_77 f_7_9 (by decide) (by decide) (ty_2 hS.1.1) ?_
              refine Tr.tp 3 (fx_2_0 hS.1.1) ?_
              refine Tr.aload_n (pc := 80) (i := 0) d_X7_takeApart_80 rfl rfl ?_
              refine Tr.getf (pc := 81) d_X7_takeApart_81 f_7_29 (by decide) (by decide) (ty_2 hS.1.1) ?_
              refine Tr.tp r70 er70 ?_
              refine Tr.iconst (pc := 84) d_X7_takeApart_84 (by decide) ?_
              refine Tr.isub (pc := 85) d_X7_takeApart_85 ?_
              refine Tr.tp (r70 - 1) ((w32_id (by omega)).trans (by omega)) ?_
              refine Tr.iald (pc := 86) d_X7_takeApart_86 (ty_3 hS.1.1) (by omega) (by omega) ?_
              refine Tr.gen (P := fun v => (-2147483648) ≤ v ∧ v ≤ 2147483647) (ar_3 hS.1.2.1 _) (fun r86 er86 br86 => ?_)
              refine Tr.iconst (pc := 87) d_X7_takeApart_87 (by decide) ?_
              refine Tr.icmp_eq (pc := 88) (tgt := 95) d_X7_takeApart_88 rfl (fun c88 => ?_) (fun c88 => ?_)
              · refine Tr.pick [2, 0, 3] (ls2 := [(0, (2, 2)), (3, (0, r65)), (5, (0, p23_5))]) rfl ?_
                exact J95 _ hS er70 ((St.kp h65 (by decide) (by decide) (by decide)).trans k58_2_4) ((St.kp h65 (by decide) (by decide) (by decide)).trans k58_2_5)
              · refine Tr.iconst (pc := 91) d_X7_takeApart_91 (by decide) ?_
                refine Tr.goto (pc := 92) (tgt := 96) d_X7_takeApart_92 rfl ?_
                refine Tr.pick [2, 0, 3] (ls2 := [(0, (2, 2)), (3, (0, r65)), (5, (0, p23_5))]) rfl ?_
                exact J96 _ _ hS (by omega) er70 ((St.kp h65 (by decide) (by decide) (by decide)).trans k58_2_4) ((St.kp h65 (by decide) (by decide) (by decide)).trans k58_2_5)
          have J57 : ∀ (M : Mem), St Tru ws_X7_takeApart_2_1 as_X7_takeApart_2_1 M0 M → rd M 2 4 = 1 → rd M 2 5 = a2 → Tr l K 8 mX7_takeApart 57 [(0, (2, 2)), (5, (0, p23_5)), (6, (0, r37))] [] M (q_X7_takeApart_2_1 M0) := by
            intro M  hS  k57_2_4 k57_2_5
            refine Tr.iconst (pc := 57) d_X7_takeApart_57 (by decide) ?_
            refine Tr.pick [0, 1, 2] (ls2 := [(0, (2, 2)), (5, (0, p23_5)), (6, (0, r37))]) rfl ?_
            exact J58 _ _ hS (by omega) k57_2_4 k57_2_5
          refine Tr.if_eq (pc := 44) (tgt := 57) d_X7_takeApart_44 rfl (fun c44 => ?_) (fun c44 => ?_)
          · refine Tr.pick [1, 4, 0] (ls2 := [(0, (2, 2)), (5, (0, p23_5)), (6, (0, r37))]) rfl ?_
            exact J57 _ hS ((St.kp h37 (by decide) (by decide) (by decide)).trans k23_2_4) ((St.kp h37 (by decide) (by decide) (by decide)).trans k23_2_5)
          · refine Tr.iload (pc := 47) (i := 6) d_X7_takeApart_47 rfl ?_
            refine Tr.iload_n (pc := 49) (i := 3) d_X7_takeApart_49 rfl rfl ?_
            refine Tr.icmp_ne (pc := 50) (tgt := 57) d_X7_takeApart_50 rfl (fun c50 => ?_) (fun c50 => ?_)
            · refine Tr.pick [1, 4, 0] (ls2 := [(0, (2, 2)), (5, (0, p23_5)), (6, (0, r37))]) rfl ?_
              exact J57 _ hS ((St.kp h37 (by decide) (by decide) (by decide)).trans k23_2_4) ((St.kp h37 (by decide) (by decide) (by decide)).trans k23_2_5)
            · refine Tr.iconst (pc := 53) d_X7_takeApart_53 (by decide) ?_
              refine Tr.goto (pc := 54) (tgt := 58) d_X7_takeApart_54 rfl ?_
              refine Tr.pick [1, 4, 0] (ls2 := [(0, (2, 2)), (5, (0, p23_5)), (6, (0, r37))]) rfl ?_
              exact J58 _ _ hS (by omega) ((St.kp h37 (by decide) (by decide) (by decide)).trans k23_2_4) ((St.kp h37 (by decide) (by decide) (by decide)).trans k23_2_5)
  refine Tr.pick [3, 2, 1, 0] (ls2 := [(0, (2, 2)), (3, (0, 0)), (4, (0, 0)), (5, (0, 0))]) rfl ?_
  exact J23 _ _ _ _ _ hS (by omega) (by omega) (by omega) ((Wr.b w12 rfl).trans ((Wr.b w7 rfl).trans w2.1)) ((Wr.b w12 rfl).trans w7.1) (Nat.lt_succ_self _)

def ws_X3_isFull_27 : List (Int × Int) := []
def as_X3_isFull_27 : List Int := []
def q_X3_isFull_27 (M0 M' : Mem) (r : Option PV) : Prop := St Tru ws_X3_isFull_27 as_X3_isFull_27 M0 M' ∧ ∃ v : Int, r = some (0, v) ∧ 0 ≤ v ∧ v ≤ 1
set_option maxRecDepth 100000 in
set_option maxHeartbeats 4000000 in
theorem sp_X3_isFull_27 {l : Launch} {K : EC} {M0 : Mem} {xq : Int} (hI : In Tru M0) (hE : e_all K xq)  (a1 : Int) (ha1 : 2 ≤ a1 ∧ a1 ≤ 2)  : Tr l K 0 mX3_isFull 0 [(0, (2, 27)), (1, (0, a1))] [] M0 (q_X3_isFull_27 M0) := by
  have hS : St Tru ws_X3_isFull_27 as_X3_isFull_27 M0 M0 := St.rf hI
  refine Tr.aload_n (pc := 0) (i := 0) d_X3_isFull_0 rfl rfl ?_
  refine Tr.getf (pc := 1) d_X3_isFull_1 f_3_11 (by decide) (by decide) (ty_27 hS.1.1) ?_
  refine Tr.tp 28 (fx_27_4 hS.1.1) ?_
  refine Tr.iload_n (pc := 4) (i := 1) d_X3_isFull_4 rfl rfl ?_
  refine Tr.tp 2 (by omega) ?_
  refine Tr.iald (pc := 5) d_X3_isFull_5 (ty_28 hS.1.1) (by omega) (by omega) ?_
  refine Tr.gen (P := fun v => 0 ≤ v ∧ v ≤ 6) (ir_28_2 hS.1.2.1) (fun r5 er5 br5 => ?_)
  refine Tr.gets (pc := 6) d_X3_isFull_6 sl_3_62 hE.2.2.2.1 ?_
  refine Tr.iload_n (pc := 9) (i := 1) d_X3_isFull_9 rfl rfl ?_
  refine Tr.tp 2 (by omega) ?_
  refine Tr.xld (pc := 10) (i := 1) d_X3_isFull_10 rfl hE.1 (by omega) (by omega) ?_
  refine Tr.tp 6 (by decide) ?_
  refine Tr.icmp_lt (pc := 11) (tgt := 18) d_X3_isFull_11 rfl (fun c11 => ?_) (fun c11 => ?_)
  · refine Tr.iconst (pc := 18) d_X3_isFull_18 (by decide) ?_
    exact Tr.zret (pc := 19) d_X3_isFull_19 rfl (by omega) ⟨hS, _, rfl, by omega, by omega⟩
  · refine Tr.iconst (pc := 14) d_X3_isFull_14 (by decide) ?_
    refine Tr.goto (pc := 15) (tgt := 19) d_X3_isFull_15 rfl ?_
    exact Tr.zret (pc := 19) d_X3_isFull_19 rfl (by omega) ⟨hS, _, rfl, by omega, by omega⟩

def ws_X3_name_27 : List (Int × Int) := [(28, 2)]
def as_X3_name_27 : List Int := [34]
def q_X3_name_27 (M0 M' : Mem) (r : Option PV) : Prop := St Tru ws_X3_name_27 as_X3_name_27 M0 M' ∧ r = none
set_option maxRecDepth 100000 in
set_option maxHeartbeats 4000000 in
theorem sp_X3_name_27 {l : Launch} {K : EC} {M0 : Mem} {xq : Int} (hI : In Tru M0) (hE : e_all K xq)  (a1 : Int) (ha1 : 2 ≤ a1 ∧ a1 ≤ 2) (a2 : Int) (ha2 : (-2147483648) ≤ a2 ∧ a2 ≤ 2147483647)  : Tr l K 0 mX3_name 0 [(0, (2, 27)), (1, (0, a1)), (2, (0, a2))] [] M0 (q_X3_name_27 M0) := by
  have hS : St Tru ws_X3_name_27 as_X3_name_27 M0 M0 := St.rf hI
  refine Tr.aload_n (pc := 0) (i := 0) d_X3_name_0 rfl rfl ?_
  refine Tr.getf (pc := 1) d_X3_name_1 f_3_11 (by decide) (by decide) (ty_27 hS.1.1) ?_
  refine Tr.tp 28 (fx_27_4 hS.1.1) ?_
  refine Tr.iload_n (pc := 4) (i := 1) d_X3_name_4 rfl rfl ?_
  refine Tr.tp 2 (by omega) ?_
  refine Tr.iald (pc := 5) d_X3_name_5 (ty_28 hS.1.1) (by omega) (by omega) ?_
  refine Tr.gen (P := fun v => 0 ≤ v ∧ v ≤ 6) (ir_28_2 hS.1.2.1) (fun r5 er5 br5 => ?_)
  refine Tr.gets (pc := 6) d_X3_name_6 sl_3_62 hE.2.2.2.1 ?_
  refine Tr.iload_n (pc := 9) (i := 1) d_X3_name_9 rfl rfl ?_
  refine Tr.tp 2 (by omega) ?_
  refine Tr.xld (pc := 10) (i := 1) d_X3_name_10 rfl hE.1 (by omega) (by omega) ?_
  refine Tr.tp 6 (by decide) ?_
  refine Tr.icmp_ge (pc := 11) (tgt := 42) d_X3_name_11 rfl (fun c11 => ?_) (fun c11 => ?_)
  · exact Tr.vret (pc := 42) d_X3_name_42 rfl ⟨hS, rfl⟩
  · refine Tr.aload_n (pc := 14) (i := 0) d_X3_name_14 rfl rfl ?_
    refine Tr.getf (pc := 15) d_X3_name_15 f_3_30 (by decide) (by decide) (ty_27 hS.1.1) ?_
    refine Tr.tp 34 (fx_27_10 hS.1.1) ?_
    refine Tr.gets (pc := 18) d_X3_name_18 sl_3_65 hE.2.2.2.2.1 ?_
    refine Tr.iload_n (pc := 21) (i := 1) d_X3_name_21 rfl rfl ?_
    refine Tr.tp 2 (by omega) ?_
    refine Tr.xld (pc := 22) (i := 2) d_X3_name_22 rfl hE.2.1 (by omega) (by omega) ?_
    refine Tr.tp 9 (by decide) ?_
    refine Tr.aload_n (pc := 23) (i := 0) d_X3_name_23 rfl rfl ?_
    refine Tr.getf (pc := 24) d_X3_name_24 f_3_11 (by decide) (by decide) (ty_27 hS.1.1) ?_
    refine Tr.tp 28 (fx_27_4 hS.1.1) ?_
    refine Tr.iload_n (pc := 27) (i := 1) d_X3_name_27 rfl rfl ?_
    refine Tr.tp 2 (by omega) ?_
    refine Tr.iald (pc := 28) d_X3_name_28 (ty_28 hS.1.1) (by omega) (by omega) ?_
    refine Tr.tp r5 er5 ?_
    refine Tr.iadd (pc := 29) d_X3_name_29 ?_
    refine Tr.tp (r5 + 9) ((w32_id (by omega)).trans (by omega)) ?_
    refine Tr.iload_n (pc := 30) (i := 2) d_X3_name_30 rfl rfl ?_
    refine Tr.iastS (pc := 31) (P := St Tru ws_X3_name_27 as_X3_name_27 M0) d_X3_name_31 (ty_34 hS.1.1) (by omega) (by omega) (sa_34 hS (by decide) (by omega) trivial) (fun M31 hS w31 => ?_)
    refine Tr.aload_n (pc := 32) (i := 0) d_X3_name_32 rfl rfl ?_
    refine Tr.getf (pc := 33) d_X3_name_33 f_3_11 (by decide) (by decide) (ty_27 hS.1.1) ?_
    refine Tr.tp 28 (fx_27_4 hS.1.1) ?_
    refine Tr.iload_n (pc := 36) (i := 1) d_X3_name_36 rfl rfl ?_
    refine Tr.tp 2 (by omega) ?_
    refine Tr.dup2 (pc := 37) d_X3_name_37 ne01 ne21 ?_
    refine Tr.iald (pc := 38) d_X3_name_38 (ty_28 hS.1.1) (by omega) (by omega) ?_
    refine Tr.tp r5 ((Wr.b w31 rfl).trans er5) ?_
    refine Tr.iconst (pc := 39) d_X3_name_39 (by decide) ?_
    refine Tr.iadd (pc := 40) d_X3_name_40 ?_
    refine Tr.tp (r5 + 1) ((w32_id (by omega)).trans (by omega)) ?_
    refine Tr.iastS (pc := 41) (P := St Tru ws_X3_name_27 as_X3_name_27 M0) d_X3_name_41 (ty_28 hS.1.1) (by omega) (by omega) (st_28_2 hS (by decide) (by omega) trivial) (fun M41 hS w41 => ?_)
    exact Tr.vret (pc := 42) d_X3_name_42 rfl ⟨hS, rfl⟩

def ws_X5_beginNamed_6 : List (Int × Int) := [(6, 0), (6, 1), (6, 5), (28, 2)]
def as_X5_beginNamed_6 : List Int := [34]
def q_X5_beginNamed_6 (M0 M' : Mem) (r : Option PV) : Prop := St Tru ws_X5_beginNamed_6 as_X5_beginNamed_6 M0 M' ∧ ∃ v : Int, r = some (0, v) ∧ 0 ≤ v ∧ v ≤ 1
set_option maxRecDepth 100000 in
set_option maxHeartbeats 4000000 in
theorem sp_X5_beginNamed_6 {l : Launch} {K : EC} {M0 : Mem} {xq : Int} (hI : In Tru M0) (hE : e_all K xq) (en_6_2 : rd M0 6 2 = 2) (en_6_3 : rd M0 6 3 = 27) (a1 : Int) (ha1 : 2 ≤ a1 ∧ a1 ≤ 2)  : Tr l K 1 mX5_beginNamed 0 [(0, (2, 6)), (1, (0, a1))] [] M0 (q_X5_beginNamed_6 M0) := by
  have hS : St Tru ws_X5_beginNamed_6 as_X5_beginNamed_6 M0 M0 := St.rf hI
  refine Tr.aload_n (pc := 0) (i := 0) d_X5_beginNamed_0 rfl rfl ?_
  refine Tr.getf (pc := 1) d_X5_beginNamed_1 f_5_22 (by decide) (by decide) (ty_6 hS.1.1) ?_
  refine Tr.tp 27 ((St.kp hS (by decide) (by decide) (by decide)).trans en_6_3) ?_
  refine Tr.iload_n (pc := 4) (i := 1) d_X5_beginNamed_4 rfl rfl ?_
  refine Tr.tp 2 (by omega) ?_
  refine Tr.callV (pc := 5) (as := [_]) d_X5_beginNamed_5 s_5_126 ok_X3_isFull rfl rfl (Nat.le_of_ble_eq_true rfl) (Nat.le_of_ble_eq_true rfl) (by decide) (ty_27 hS.1.1) ?_
  refine Tr.imp (Tr.deep (by decide) (sp_X3_isFull_27 hS.1 hE 2 (by omega))) ?_
  rintro M5 _ ⟨h5, r5, rfl, lr5, ur5⟩
  have hS := St.tr hS h5 (by decide) (by decide)
  refine Tr.sc [(0, r5)] rfl ?_
  refine Tr.if_eq (pc := 8) (tgt := 17) d_X5_beginNamed_8 rfl (fun c8 => ?_) (fun c8 => ?_)
  · refine Tr.aload_n (pc := 17) (i := 0) d_X5_beginNamed_17 rfl rfl ?_
    refine Tr.callV (pc := 18) (as := []) d_X5_beginNamed_18 s_5_74 ok_X5_goOn rfl rfl (Nat.le_of_ble_eq_true rfl) (Nat.le_of_ble_eq_true rfl) (by decide) (ty_6 hS.1.1) ?_
    refine Tr.imp (Tr.deep (by decide) (sp_X5_goOn_6 hS.1 )) ?_
    rintro M18 _ ⟨h18, r18, rfl, lr18, ur18⟩
    have hS := St.tr hS h18 (by decide) (by decide)
    refine Tr.sc [(0, r18)] rfl ?_
    refine Tr.pop (pc := 21) d_X5_beginNamed_21 ne01 ?_
    refine Tr.aload_n (pc := 22) (i := 0) d_X5_beginNamed_22 rfl rfl ?_
    refine Tr.getf (pc := 23) d_X5_beginNamed_23 f_5_18 (by decide) (by decide) (ty_6 hS.1.1) ?_
    refine Tr.tp 2 ((St.kp hS (by decide) (by decide) (by decide)).trans en_6_2) ?_
    refine Tr.getf (pc := 26) d_X5_beginNamed_26 f_5_50 (by decide) (by decide) (ty_2 hS.1.1) ?_
    refine Tr.tp 3 (fx_2_0 hS.1.1) ?_
    refine Tr.aload_n (pc := 29) (i := 0) d_X5_beginNamed_29 rfl rfl ?_
    refine Tr.getf (pc := 30) d_X5_beginNamed_30 f_5_36 (by decide) (by decide) (ty_6 hS.1.1) ?_
    refine Tr.gen (P := fun v => 0 ≤ v ∧ v ≤ 900) (ir_6_5 hS.1.2.1) (fun r30 er30 br30 => ?_)
    refine Tr.iald (pc := 33) d_X5_beginNamed_33 (ty_3 hS.1.1) (by omega) (by omega) ?_
    refine Tr.gen (P := fun v => (-2147483648) ≤ v ∧ v ≤ 2147483647) (ar_3 hS.1.2.1 _) (fun r33 er33 br33 => ?_)
    refine Tr.iconst (pc := 34) d_X5_beginNamed_34 (by decide) ?_
    refine Tr.icmp_eq (pc := 35) (tgt := 44) d_X5_beginNamed_35 rfl (fun c35 => ?_) (fun c35 => ?_)
    · refine Tr.aload_n (pc := 44) (i := 0) d_X5_beginNamed_44 rfl rfl ?_
      refine Tr.getf (pc := 45) d_X5_beginNamed_45 f_5_22 (by decide) (by decide) (ty_6 hS.1.1) ?_
      refine Tr.tp 27 ((St.kp hS (by decide) (by decide) (by decide)).trans en_6_3) ?_
      refine Tr.aload_n (pc := 48) (i := 0) d_X5_beginNamed_48 rfl rfl ?_
      refine Tr.getf (pc := 49) d_X5_beginNamed_49 f_5_18 (by decide) (by decide) (ty_6 hS.1.1) ?_
      refine Tr.tp 2 ((St.kp hS (by decide) (by decide) (by decide)).trans en_6_2) ?_
      refine Tr.getf (pc := 52) d_X5_beginNamed_52 f_5_68 (by decide) (by decide) (ty_2 hS.1.1) ?_
      refine Tr.tp 5 (fx_2_2 hS.1.1) ?_
      refine Tr.aload_n (pc := 55) (i := 0) d_X5_beginNamed_55 rfl rfl ?_
      refine Tr.getf (pc := 56) d_X5_beginNamed_56 f_5_36 (by decide) (by decide) (ty_6 hS.1.1) ?_
      refine Tr.tp r30 er30 ?_
      refine Tr.iald (pc := 59) d_X5_beginNamed_59 (ty_5 hS.1.1) (by omega) (by omega) ?_
      refine Tr.gen (P := fun v => (-2147483648) ≤ v ∧ v ≤ 2147483647) (ar_5 hS.1.2.1 _) (fun r59 er59 br59 => ?_)
      refine Tr.callV (pc := 60) (as := [_]) d_X5_beginNamed_60 s_5_91 ok_X3_find rfl rfl (Nat.le_of_ble_eq_true rfl) (Nat.le_of_ble_eq_true rfl) (by decide) (ty_27 hS.1.1) ?_
      refine Tr.imp (Tr.deep (by decide) (sp_X3_find_27 hS.1 r59 (by omega))) ?_
      rintro M60 _ ⟨h60, r60, rfl, lr60, ur60⟩
      have hS := St.tr hS h60 (by decide) (by decide)
      refine Tr.sc [(0, r60)] rfl ?_
      refine Tr.if_lt (pc := 63) (tgt := 72) d_X5_beginNamed_63 rfl (fun c63 => ?_) (fun c63 => ?_)
      · refine Tr.aload_n (pc := 72) (i := 0) d_X5_beginNamed_72 rfl rfl ?_
        refine Tr.getf (pc := 73) d_X5_beginNamed_73 f_5_22 (by decide) (by decide) (ty_6 hS.1.1) ?_
        refine Tr.tp 27 ((St.kp hS (by decide) (by decide) (by decide)).trans en_6_3) ?_
        refine Tr.iload_n (pc := 76) (i := 1) d_X5_beginNamed_76 rfl rfl ?_
        refine Tr.tp 2 (by omega) ?_
        refine Tr.aload_n (pc := 77) (i := 0) d_X5_beginNamed_77 rfl rfl ?_
        refine Tr.getf (pc := 78) d_X5_beginNamed_78 f_5_18 (by decide) (by decide) (ty_6 hS.1.1) ?_
        refine Tr.tp 2 ((St.kp hS (by decide) (by decide) (by decide)).trans en_6_2) ?_
        refine Tr.getf (pc := 81) d_X5_beginNamed_81 f_5_68 (by decide) (by decide) (ty_2 hS.1.1) ?_
        refine Tr.tp 5 (fx_2_2 hS.1.1) ?_
        refine Tr.aload_n (pc := 84) (i := 0) d_X5_beginNamed_84 rfl rfl ?_
        refine Tr.getf (pc := 85) d_X5_beginNamed_85 f_5_36 (by decide) (by decide) (ty_6 hS.1.1) ?_
        refine Tr.tp r30 ((St.kp h60 (by decide) (by decide) (by decide)).trans er30) ?_
        refine Tr.iald (pc := 88) d_X5_beginNamed_88 (ty_5 hS.1.1) (by omega) (by omega) ?_
        refine Tr.tp r59 ((St.ka h60 (by decide) (by decide) (by decide)).trans er59) ?_
        refine Tr.callV (pc := 89) (as := [_, _]) d_X5_beginNamed_89 s_5_129 ok_X3_name rfl rfl (Nat.le_of_ble_eq_true rfl) (Nat.le_of_ble_eq_true rfl) (by decide) (ty_27 hS.1.1) ?_
        refine Tr.imp (Tr.deep (by decide) (sp_X3_name_27 hS.1 hE 2 (by omega) r59 (by omega))) ?_
        rintro M89 _ ⟨h89, rfl⟩
        have hS := St.tr hS h89 (by decide) (by decide)
        refine Tr.sc [] rfl ?_
        refine Tr.aload_n (pc := 92) (i := 0) d_X5_beginNamed_92 rfl rfl ?_
        refine Tr.callV (pc := 93) (as := []) d_X5_beginNamed_93 s_5_74 ok_X5_goOn rfl rfl (Nat.le_of_ble_eq_true rfl) (Nat.le_of_ble_eq_true rfl) (by decide) (ty_6 hS.1.1) ?_
        refine Tr.imp (Tr.deep (by decide) (sp_X5_goOn_6 hS.1 )) ?_
        rintro M93 _ ⟨h93, r93, rfl, lr93, ur93⟩
        have hS := St.tr hS h93 (by decide) (by decide)
        refine Tr.sc [(0, r93)] rfl ?_
        exact Tr.zret (pc := 96) d_X5_beginNamed_96 rfl (by omega) ⟨hS, _, rfl, by omega, by omega⟩
      · refine Tr.aload_n (pc := 66) (i := 0) d_X5_beginNamed_66 rfl rfl ?_
        refine Tr.iconst (pc := 67) d_X5_beginNamed_67 (by decide) ?_
        refine Tr.callV (pc := 68) (as := [_]) d_X5_beginNamed_68 s_5_56 ok_X5_refuse rfl rfl (Nat.le_of_ble_eq_true rfl) (Nat.le_of_ble_eq_true rfl) (by decide) (ty_6 hS.1.1) ?_
        refine Tr.imp (Tr.deep (by decide) (sp_X5_refuse_6 hS.1 ((St.kp hS (by decide) (by decide) (by decide)).trans en_6_2) 2 (by omega))) ?_
        rintro M68 _ ⟨h68, r68, rfl, lr68, ur68⟩
        have hS := St.tr hS h68 (by decide) (by decide)
        refine Tr.sc [(0, r68)] rfl ?_
        exact Tr.zret (pc := 71) d_X5_beginNamed_71 rfl (by omega) ⟨hS, _, rfl, by omega, by omega⟩
    · refine Tr.aload_n (pc := 38) (i := 0) d_X5_beginNamed_38 rfl rfl ?_
      refine Tr.iconst (pc := 39) d_X5_beginNamed_39 (by decide) ?_
      refine Tr.callV (pc := 40) (as := [_]) d_X5_beginNamed_40 s_5_56 ok_X5_refuse rfl rfl (Nat.le_of_ble_eq_true rfl) (Nat.le_of_ble_eq_true rfl) (by decide) (ty_6 hS.1.1) ?_
      refine Tr.imp (Tr.deep (by decide) (sp_X5_refuse_6_w1 hS.1 ((St.kp hS (by decide) (by decide) (by decide)).trans en_6_2) 1 (by omega))) ?_
      rintro M40 _ ⟨h40, r40, rfl, lr40, ur40⟩
      have hS := St.tr hS h40 (by decide) (by decide)
      refine Tr.sc [(0, r40)] rfl ?_
      exact Tr.zret (pc := 43) d_X5_beginNamed_43 rfl (by omega) ⟨hS, _, rfl, by omega, by omega⟩
  · refine Tr.aload_n (pc := 11) (i := 0) d_X5_beginNamed_11 rfl rfl ?_
    refine Tr.iconst (pc := 12) d_X5_beginNamed_12 (by decide) ?_
    refine Tr.callV (pc := 13) (as := [_]) d_X5_beginNamed_13 s_5_56 ok_X5_refuse rfl rfl (Nat.le_of_ble_eq_true rfl) (Nat.le_of_ble_eq_true rfl) (by decide) (ty_6 hS.1.1) ?_
    refine Tr.imp (Tr.deep (by decide) (sp_X5_refuse_6_w2 hS.1 ((St.kp hS (by decide) (by decide) (by decide)).trans en_6_2) 5 (by omega))) ?_
    rintro M13 _ ⟨h13, r13, rfl, lr13, ur13⟩
    have hS := St.tr hS h13 (by decide) (by decide)
    refine Tr.sc [(0, r13)] rfl ?_
    exact Tr.zret (pc := 16) d_X5_beginNamed_16 rfl (by omega) ⟨hS, _, rfl, by omega, by omega⟩

def ws_X3_isFull_27_w1 : List (Int × Int) := []
def as_X3_isFull_27_w1 : List Int := []
def q_X3_isFull_27_w1 (M0 M' : Mem) (r : Option PV) : Prop := St Tru ws_X3_isFull_27_w1 as_X3_isFull_27_w1 M0 M' ∧ ∃ v : Int, r = some (0, v) ∧ 0 ≤ v ∧ v ≤ 1
set_option maxRecDepth 100000 in
set_option maxHeartbeats 4000000 in
theorem sp_X3_isFull_27_w1 {l : Launch} {K : EC} {M0 : Mem} {xq : Int} (hI : In Tru M0) (hE : e_all K xq)  (a1 : Int) (ha1 : 1 ≤ a1 ∧ a1 ≤ 1)  : Tr l K 0 mX3_isFull 0 [(0, (2, 27)), (1, (0, a1))] [] M0 (q_X3_isFull_27_w1 M0) := by
  have hS : St Tru ws_X3_isFull_27_w1 as_X3_isFull_27_w1 M0 M0 := St.rf hI
  refine Tr.aload_n (pc := 0) (i := 0) d_X3_isFull_0 rfl rfl ?_
  refine Tr.getf (pc := 1) d_X3_isFull_1 f_3_11 (by decide) (by decide) (ty_27 hS.1.1) ?_
  refine Tr.tp 28 (fx_27_4 hS.1.1) ?_
  refine Tr.iload_n (pc := 4) (i := 1) d_X3_isFull_4 rfl rfl ?_
  refine Tr.tp 1 (by omega) ?_
  refine Tr.iald (pc := 5) d_X3_isFull_5 (ty_28 hS.1.1) (by omega) (by omega) ?_
  refine Tr.gen (P := fun v => 0 ≤ v ∧ v ≤ 3) (ir_28_1 hS.1.2.1) (fun r5 er5 br5 => ?_)
  refine Tr.gets (pc := 6) d_X3_isFull_6 sl_3_62 hE.2.2.2.1 ?_
  refine Tr.iload_n (pc := 9) (i := 1) d_X3_isFull_9 rfl rfl ?_
  refine Tr.tp 1 (by omega) ?_
  refine Tr.xld (pc := 10) (i := 1) d_X3_isFull_10 rfl hE.1 (by omega) (by omega) ?_
  refine Tr.tp 3 (by decide) ?_
  refine Tr.icmp_lt (pc := 11) (tgt := 18) d_X3_isFull_11 rfl (fun c11 => ?_) (fun c11 => ?_)
  · refine Tr.iconst (pc := 18) d_X3_isFull_18 (by decide) ?_
    exact Tr.zret (pc := 19) d_X3_isFull_19 rfl (by omega) ⟨hS, _, rfl, by omega, by omega⟩
  · refine Tr.iconst (pc := 14) d_X3_isFull_14 (by decide) ?_
    refine Tr.goto (pc := 15) (tgt := 19) d_X3_isFull_15 rfl ?_
    exact Tr.zret (pc := 19) d_X3_isFull_19 rfl (by omega) ⟨hS, _, rfl, by omega, by omega⟩

def ws_X3_name_27_w1 : List (Int × Int) := [(28, 1)]
def as_X3_name_27_w1 : List Int := [34]
def q_X3_name_27_w1 (M0 M' : Mem) (r : Option PV) : Prop := St Tru ws_X3_name_27_w1 as_X3_name_27_w1 M0 M' ∧ r = none
set_option maxRecDepth 100000 in
set_option maxHeartbeats 4000000 in
theorem sp_X3_name_27_w1 {l : Launch} {K : EC} {M0 : Mem} {xq : Int} (hI : In Tru M0) (hE : e_all K xq)  (a1 : Int) (ha1 : 1 ≤ a1 ∧ a1 ≤ 1) (a2 : Int) (ha2 : (-2147483648) ≤ a2 ∧ a2 ≤ 2147483647)  : Tr l K 0 mX3_name 0 [(0, (2, 27)), (1, (0, a1)), (2, (0, a2))] [] M0 (q_X3_name_27_w1 M0) := by
  have hS : St Tru ws_X3_name_27_w1 as_X3_name_27_w1 M0 M0 := St.rf hI
  refine Tr.aload_n (pc := 0) (i := 0) d_X3_name_0 rfl rfl ?_
  refine Tr.getf (pc := 1) d_X3_name_1 f_3_11 (by decide) (by decide) (ty_27 hS.1.1) ?_
  refine Tr.tp 28 (fx_27_4 hS.1.1) ?_
  refine Tr.iload_n (pc := 4) (i := 1) d_X3_name_4 rfl rfl ?_
  refine Tr.tp 1 (by omega) ?_
  refine Tr.iald (pc := 5) d_X3_name_5 (ty_28 hS.1.1) (by omega) (by omega) ?_
  refine Tr.gen (P := fun v => 0 ≤ v ∧ v ≤ 3) (ir_28_1 hS.1.2.1) (fun r5 er5 br5 => ?_)
  refine Tr.gets (pc := 6) d_X3_name_6 sl_3_62 hE.2.2.2.1 ?_
  refine Tr.iload_n (pc := 9) (i := 1) d_X3_name_9 rfl rfl ?_
  refine Tr.tp 1 (by omega) ?_
  refine Tr.xld (pc := 10) (i := 1) d_X3_name_10 rfl hE.1 (by omega) (by omega) ?_
  refine Tr.tp 3 (by decide) ?_
  refine Tr.icmp_ge (pc := 11) (tgt := 42) d_X3_name_11 rfl (fun c11 => ?_) (fun c11 => ?_)
  · exact Tr.vret (pc := 42) d_X3_name_42 rfl ⟨hS, rfl⟩
  · refine Tr.aload_n (pc := 14) (i := 0) d_X3_name_14 rfl rfl ?_
    refine Tr.getf (pc := 15) d_X3_name_15 f_3_30 (by decide) (by decide) (ty_27 hS.1.1) ?_
    refine Tr.tp 34 (fx_27_10 hS.1.1) ?_
    refine Tr.gets (pc := 18) d_X3_name_18 sl_3_65 hE.2.2.2.2.1 ?_
    refine Tr.iload_n (pc := 21) (i := 1) d_X3_name_21 rfl rfl ?_
    refine Tr.tp 1 (by omega) ?_
    refine Tr.xld (pc := 22) (i := 2) d_X3_name_22 rfl hE.2.1 (by omega) (by omega) ?_
    refine Tr.tp 6 (by decide) ?_
    refine Tr.aload_n (pc := 23) (i := 0) d_X3_name_23 rfl rfl ?_
    refine Tr.getf (pc := 24) d_X3_name_24 f_3_11 (by decide) (by decide) (ty_27 hS.1.1) ?_
    refine Tr.tp 28 (fx_27_4 hS.1.1) ?_
    refine Tr.iload_n (pc := 27) (i := 1) d_X3_name_27 rfl rfl ?_
    refine Tr.tp 1 (by omega) ?_
    refine Tr.iald (pc := 28) d_X3_name_28 (ty_28 hS.1.1) (by omega) (by omega) ?_
    refine Tr.tp r5 er5 ?_
    refine Tr.iadd (pc := 29) d_X3_name_29 ?_
    refine Tr.tp (r5 + 6) ((w32_id (by omega)).trans (by omega)) ?_
    refine Tr.iload_n (pc := 30) (i := 2) d_X3_name_30 rfl rfl ?_
    refine Tr.iastS (pc := 31) (P := St Tru ws_X3_name_27_w1 as_X3_name_27_w1 M0) d_X3_name_31 (ty_34 hS.1.1) (by omega) (by omega) (sa_34 hS (by decide) (by omega) trivial) (fun M31 hS w31 => ?_)
    refine Tr.aload_n (pc := 32) (i := 0) d_X3_name_32 rfl rfl ?_
    refine Tr.getf (pc := 33) d_X3_name_33 f_3_11 (by decide) (by decide) (ty_27 hS.1.1) ?_
    refine Tr.tp 28 (fx_27_4 hS.1.1) ?_
    refine Tr.iload_n (pc := 36) (i := 1) d_X3_name_36 rfl rfl ?_
    refine Tr.tp 1 (by omega) ?_
    refine Tr.dup2 (pc := 37) d_X3_name_37 ne01 ne21 ?_
    refine Tr.iald (pc := 38) d_X3_name_38 (ty_28 hS.1.1) (by omega) (by omega) ?_
    refine Tr.tp r5 ((Wr.b w31 rfl).trans er5) ?_
    refine Tr.iconst (pc := 39) d_X3_name_39 (by decide) ?_
    refine Tr.iadd (pc := 40) d_X3_name_40 ?_
    refine Tr.tp (r5 + 1) ((w32_id (by omega)).trans (by omega)) ?_
    refine Tr.iastS (pc := 41) (P := St Tru ws_X3_name_27_w1 as_X3_name_27_w1 M0) d_X3_name_41 (ty_28 hS.1.1) (by omega) (by omega) (st_28_1 hS (by decide) (by omega) trivial) (fun M41 hS w41 => ?_)
    exact Tr.vret (pc := 42) d_X3_name_42 rfl ⟨hS, rfl⟩

def ws_X5_beginNamed_6_w1 : List (Int × Int) := [(6, 0), (6, 1), (6, 5), (28, 1)]
def as_X5_beginNamed_6_w1 : List Int := [34]
def q_X5_beginNamed_6_w1 (M0 M' : Mem) (r : Option PV) : Prop := St Tru ws_X5_beginNamed_6_w1 as_X5_beginNamed_6_w1 M0 M' ∧ ∃ v : Int, r = some (0, v) ∧ 0 ≤ v ∧ v ≤ 1
set_option maxRecDepth 100000 in
set_option maxHeartbeats 4000000 in
theorem sp_X5_beginNamed_6_w1 {l : Launch} {K : EC} {M0 : Mem} {xq : Int} (hI : In Tru M0) (hE : e_all K xq) (en_6_2 : rd M0 6 2 = 2) (en_6_3 : rd M0 6 3 = 27) (a1 : Int) (ha1 : 1 ≤ a1 ∧ a1 ≤ 1)  : Tr l K 1 mX5_beginNamed 0 [(0, (2, 6)), (1, (0, a1))] [] M0 (q_X5_beginNamed_6_w1 M0) := by
  have hS : St Tru ws_X5_beginNamed_6_w1 as_X5_beginNamed_6_w1 M0 M0 := St.rf hI
  refine Tr.aload_n (pc := 0) (i := 0) d_X5_beginNamed_0 rfl rfl ?_
  refine Tr.getf (pc := 1) d_X5_beginNamed_1 f_5_22 (by decide) (by decide) (ty_6 hS.1.1) ?_
  refine Tr.tp 27 ((St.kp hS (by decide) (by decide) (by decide)).trans en_6_3) ?_
  refine Tr.iload_n (pc := 4) (i := 1) d_X5_beginNamed_4 rfl rfl ?_
  refine Tr.tp 1 (by omega) ?_
  refine Tr.callV (pc := 5) (as := [_]) d_X5_beginNamed_5 s_5_126 ok_X3_isFull rfl rfl (Nat.le_of_ble_eq_true rfl) (Nat.le_of_ble_eq_true rfl) (by decide) (ty_27 hS.1.1) ?_
  refine Tr.imp (Tr.deep (by decide) (sp_X3_isFull_27_w1 hS.1 hE 1 (by omega))) ?_
  rintro M5 _ ⟨h5, r5, rfl, lr5, ur5⟩
  have hS := St.tr hS h5 (by decide) (by decide)
  refine Tr.sc [(0, r5)] rfl ?_
  refine Tr.if_eq (pc := 8) (tgt := 17) d_X5_beginNamed_8 rfl (fun c8 => ?_) (fun c8 => ?_)
  · refine Tr.aload_n (pc := 17) (i := 0) d_X5_beginNamed_17 rfl rfl ?_
    refine Tr.callV (pc := 18) (as := []) d_X5_beginNamed_18 s_5_74 ok_X5_goOn rfl rfl (Nat.le_of_ble_eq_true rfl) (Nat.le_of_ble_eq_true rfl) (by decide) (ty_6 hS.1.1) ?_
    refine Tr.imp (Tr.deep (by decide) (sp_X5_goOn_6 hS.1 )) ?_
    rintro M18 _ ⟨h18, r18, rfl, lr18, ur18⟩
    have hS := St.tr hS h18 (by decide) (by decide)
    refine Tr.sc [(0, r18)] rfl ?_
    refine Tr.pop (pc := 21) d_X5_beginNamed_21 ne01 ?_
    refine Tr.aload_n (pc := 22) (i := 0) d_X5_beginNamed_22 rfl rfl ?_
    refine Tr.getf (pc := 23) d_X5_beginNamed_23 f_5_18 (by decide) (by decide) (ty_6 hS.1.1) ?_
    refine Tr.tp 2 ((St.kp hS (by decide) (by decide) (by decide)).trans en_6_2) ?_
    refine Tr.getf (pc := 26) d_X5_beginNamed_26 f_5_50 (by decide) (by decide) (ty_2 hS.1.1) ?_
    refine Tr.tp 3 (fx_2_0 hS.1.1) ?_
    refine Tr.aload_n (pc := 29) (i := 0) d_X5_beginNamed_29 rfl rfl ?_
    refine Tr.getf (pc := 30) d_X5_beginNamed_30 f_5_36 (by decide) (by decide) (ty_6 hS.1.1) ?_
    refine Tr.gen (P := fun v => 0 ≤ v ∧ v ≤ 900) (ir_6_5 hS.1.2.1) (fun r30 er30 br30 => ?_)
    refine Tr.iald (pc := 33) d_X5_beginNamed_33 (ty_3 hS.1.1) (by omega) (by omega) ?_
    refine Tr.gen (P := fun v => (-2147483648) ≤ v ∧ v ≤ 2147483647) (ar_3 hS.1.2.1 _) (fun r33 er33 br33 => ?_)
    refine Tr.iconst (pc := 34) d_X5_beginNamed_34 (by decide) ?_
    refine Tr.icmp_eq (pc := 35) (tgt := 44) d_X5_beginNamed_35 rfl (fun c35 => ?_) (fun c35 => ?_)
    · refine Tr.aload_n (pc := 44) (i := 0) d_X5_beginNamed_44 rfl rfl ?_
      refine Tr.getf (pc := 45) d_X5_beginNamed_45 f_5_22 (by decide) (by decide) (ty_6 hS.1.1) ?_
      refine Tr.tp 27 ((St.kp hS (by decide) (by decide) (by decide)).trans en_6_3) ?_
      refine Tr.aload_n (pc := 48) (i := 0) d_X5_beginNamed_48 rfl rfl ?_
      refine Tr.getf (pc := 49) d_X5_beginNamed_49 f_5_18 (by decide) (by decide) (ty_6 hS.1.1) ?_
      refine Tr.tp 2 ((St.kp hS (by decide) (by decide) (by decide)).trans en_6_2) ?_
      refine Tr.getf (pc := 52) d_X5_beginNamed_52 f_5_68 (by decide) (by decide) (ty_2 hS.1.1) ?_
      refine Tr.tp 5 (fx_2_2 hS.1.1) ?_
      refine Tr.aload_n (pc := 55) (i := 0) d_X5_beginNamed_55 rfl rfl ?_
      refine Tr.getf (pc := 56) d_X5_beginNamed_56 f_5_36 (by decide) (by decide) (ty_6 hS.1.1) ?_
      refine Tr.tp r30 er30 ?_
      refine Tr.iald (pc := 59) d_X5_beginNamed_59 (ty_5 hS.1.1) (by omega) (by omega) ?_
      refine Tr.gen (P := fun v => (-2147483648) ≤ v ∧ v ≤ 2147483647) (ar_5 hS.1.2.1 _) (fun r59 er59 br59 => ?_)
      refine Tr.callV (pc := 60) (as := [_]) d_X5_beginNamed_60 s_5_91 ok_X3_find rfl rfl (Nat.le_of_ble_eq_true rfl) (Nat.le_of_ble_eq_true rfl) (by decide) (ty_27 hS.1.1) ?_
      refine Tr.imp (Tr.deep (by decide) (sp_X3_find_27 hS.1 r59 (by omega))) ?_
      rintro M60 _ ⟨h60, r60, rfl, lr60, ur60⟩
      have hS := St.tr hS h60 (by decide) (by decide)
      refine Tr.sc [(0, r60)] rfl ?_
      refine Tr.if_lt (pc := 63) (tgt := 72) d_X5_beginNamed_63 rfl (fun c63 => ?_) (fun c63 => ?_)
      · refine Tr.aload_n (pc := 72) (i := 0) d_X5_beginNamed_72 rfl rfl ?_
        refine Tr.getf (pc := 73) d_X5_beginNamed_73 f_5_22 (by decide) (by decide) (ty_6 hS.1.1) ?_
        refine Tr.tp 27 ((St.kp hS (by decide) (by decide) (by decide)).trans en_6_3) ?_
        refine Tr.iload_n (pc := 76) (i := 1) d_X5_beginNamed_76 rfl rfl ?_
        refine Tr.tp 1 (by omega) ?_
        refine Tr.aload_n (pc := 77) (i := 0) d_X5_beginNamed_77 rfl rfl ?_
        refine Tr.getf (pc := 78) d_X5_beginNamed_78 f_5_18 (by decide) (by decide) (ty_6 hS.1.1) ?_
        refine Tr.tp 2 ((St.kp hS (by decide) (by decide) (by decide)).trans en_6_2) ?_
        refine Tr.getf (pc := 81) d_X5_beginNamed_81 f_5_68 (by decide) (by decide) (ty_2 hS.1.1) ?_
        refine Tr.tp 5 (fx_2_2 hS.1.1) ?_
        refine Tr.aload_n (pc := 84) (i := 0) d_X5_beginNamed_84 rfl rfl ?_
        refine Tr.getf (pc := 85) d_X5_beginNamed_85 f_5_36 (by decide) (by decide) (ty_6 hS.1.1) ?_
        refine Tr.tp r30 ((St.kp h60 (by decide) (by decide) (by decide)).trans er30) ?_
        refine Tr.iald (pc := 88) d_X5_beginNamed_88 (ty_5 hS.1.1) (by omega) (by omega) ?_
        refine Tr.tp r59 ((St.ka h60 (by decide) (by decide) (by decide)).trans er59) ?_
        refine Tr.callV (pc := 89) (as := [_, _]) d_X5_beginNamed_89 s_5_129 ok_X3_name rfl rfl (Nat.le_of_ble_eq_true rfl) (Nat.le_of_ble_eq_true rfl) (by decide) (ty_27 hS.1.1) ?_
        refine Tr.imp (Tr.deep (by decide) (sp_X3_name_27_w1 hS.1 hE 1 (by omega) r59 (by omega))) ?_
        rintro M89 _ ⟨h89, rfl⟩
        have hS := St.tr hS h89 (by decide) (by decide)
        refine Tr.sc [] rfl ?_
        refine Tr.aload_n (pc := 92) (i := 0) d_X5_beginNamed_92 rfl rfl ?_
        refine Tr.callV (pc := 93) (as := []) d_X5_beginNamed_93 s_5_74 ok_X5_goOn rfl rfl (Nat.le_of_ble_eq_true rfl) (Nat.le_of_ble_eq_true rfl) (by decide) (ty_6 hS.1.1) ?_
        refine Tr.imp (Tr.deep (by decide) (sp_X5_goOn_6 hS.1 )) ?_
        rintro M93 _ ⟨h93, r93, rfl, lr93, ur93⟩
        have hS := St.tr hS h93 (by decide) (by decide)
        refine Tr.sc [(0, r93)] rfl ?_
        exact Tr.zret (pc := 96) d_X5_beginNamed_96 rfl (by omega) ⟨hS, _, rfl, by omega, by omega⟩
      · refine Tr.aload_n (pc := 66) (i := 0) d_X5_beginNamed_66 rfl rfl ?_
        refine Tr.iconst (pc := 67) d_X5_beginNamed_67 (by decide) ?_
        refine Tr.callV (pc := 68) (as := [_]) d_X5_beginNamed_68 s_5_56 ok_X5_refuse rfl rfl (Nat.le_of_ble_eq_true rfl) (Nat.le_of_ble_eq_true rfl) (by decide) (ty_6 hS.1.1) ?_
        refine Tr.imp (Tr.deep (by decide) (sp_X5_refuse_6 hS.1 ((St.kp hS (by decide) (by decide) (by decide)).trans en_6_2) 2 (by omega))) ?_
        rintro M68 _ ⟨h68, r68, rfl, lr68, ur68⟩
        have hS := St.tr hS h68 (by decide) (by decide)
        refine Tr.sc [(0, r68)] rfl ?_
        exact Tr.zret (pc := 71) d_X5_beginNamed_71 rfl (by omega) ⟨hS, _, rfl, by omega, by omega⟩
    · refine Tr.aload_n (pc := 38) (i := 0) d_X5_beginNamed_38 rfl rfl ?_
      refine Tr.iconst (pc := 39) d_X5_beginNamed_39 (by decide) ?_
      refine Tr.callV (pc := 40) (as := [_]) d_X5_beginNamed_40 s_5_56 ok_X5_refuse rfl rfl (Nat.le_of_ble_eq_true rfl) (Nat.le_of_ble_eq_true rfl) (by decide) (ty_6 hS.1.1) ?_
      refine Tr.imp (Tr.deep (by decide) (sp_X5_refuse_6_w1 hS.1 ((St.kp hS (by decide) (by decide) (by decide)).trans en_6_2) 1 (by omega))) ?_
      rintro M40 _ ⟨h40, r40, rfl, lr40, ur40⟩
      have hS := St.tr hS h40 (by decide) (by decide)
      refine Tr.sc [(0, r40)] rfl ?_
      exact Tr.zret (pc := 43) d_X5_beginNamed_43 rfl (by omega) ⟨hS, _, rfl, by omega, by omega⟩
  · refine Tr.aload_n (pc := 11) (i := 0) d_X5_beginNamed_11 rfl rfl ?_
    refine Tr.iconst (pc := 12) d_X5_beginNamed_12 (by decide) ?_
    refine Tr.callV (pc := 13) (as := [_]) d_X5_beginNamed_13 s_5_56 ok_X5_refuse rfl rfl (Nat.le_of_ble_eq_true rfl) (Nat.le_of_ble_eq_true rfl) (by decide) (ty_6 hS.1.1) ?_
    refine Tr.imp (Tr.deep (by decide) (sp_X5_refuse_6_w2 hS.1 ((St.kp hS (by decide) (by decide) (by decide)).trans en_6_2) 5 (by omega))) ?_
    rintro M13 _ ⟨h13, r13, rfl, lr13, ur13⟩
    have hS := St.tr hS h13 (by decide) (by decide)
    refine Tr.sc [(0, r13)] rfl ?_
    exact Tr.zret (pc := 16) d_X5_beginNamed_16 rfl (by omega) ⟨hS, _, rfl, by omega, by omega⟩

def ws_X5_input_6 : List (Int × Int) := [(6, 0), (6, 1), (6, 5), (28, 1)]
def as_X5_input_6 : List Int := [32, 33, 34]
def q_X5_input_6 (M0 M' : Mem) (r : Option PV) : Prop := St Tru ws_X5_input_6 as_X5_input_6 M0 M' ∧ ∃ v : Int, r = some (0, v) ∧ 0 ≤ v ∧ v ≤ 1
set_option maxRecDepth 100000 in
set_option maxHeartbeats 4000000 in
theorem sp_X5_input_6 {l : Launch} {K : EC} {M0 : Mem} {xq : Int} (hI : In Tru M0) (hE : e_all K xq) (en_6_2 : rd M0 6 2 = 2) (en_6_3 : rd M0 6 3 = 27)   : Tr l K 2 mX5_input 0 [(0, (2, 6))] [] M0 (q_X5_input_6 M0) := by
  have hS : St Tru ws_X5_input_6 as_X5_input_6 M0 M0 := St.rf hI
  refine Tr.aload_n (pc := 0) (i := 0) d_X5_input_0 rfl rfl ?_
  refine Tr.getf (pc := 1) d_X5_input_1 f_5_22 (by decide) (by decide) (ty_6 hS.1.1) ?_
  refine Tr.tp 27 ((St.kp hS (by decide) (by decide) (by decide)).trans en_6_3) ?_
  refine Tr.getf (pc := 4) d_X5_input_4 f_5_133 (by decide) (by decide) (ty_27 hS.1.1) ?_
  refine Tr.tp 28 (fx_27_4 hS.1.1) ?_
  refine Tr.iconst (pc := 7) d_X5_input_7 (by decide) ?_
  refine Tr.iald (pc := 8) d_X5_input_8 (ty_28 hS.1.1) (by omega) (by omega) ?_
  refine Tr.gen (P := fun v => 0 ≤ v ∧ v ≤ 3) (ir_28_1 hS.1.2.1) (fun r8 er8 br8 => ?_)
  refine Tr.istore_n (pc := 9) (i := 1) (ls2 := [(1, (0, r8)), (0, (2, 6))]) d_X5_input_9 rfl (by decide) rfl ?_
  refine Tr.aload_n (pc := 10) (i := 0) d_X5_input_10 rfl rfl ?_
  refine Tr.iconst (pc := 11) d_X5_input_11 (by decide) ?_
  refine Tr.callV (pc := 12) (as := [_]) d_X5_input_12 s_5_112 ok_X5_beginNamed rfl rfl (Nat.le_of_ble_eq_true rfl) (Nat.le_of_ble_eq_true rfl) (by decide) (ty_6 hS.1.1) ?_
  refine Tr.imp (Tr.deep (by decide) (sp_X5_beginNamed_6_w1 hS.1 hE ((St.kp hS (by decide) (by decide) (by decide)).trans en_6_2) ((St.kp hS (by decide) (by decide) (by decide)).trans en_6_3) 1 (by omega))) ?_
  rintro M12 _ ⟨h12, r12, rfl, lr12, ur12⟩
  have hS := St.tr hS h12 (by decide) (by decide)
  refine Tr.sc [(0, r12)] rfl ?_
  refine Tr.if_eq (pc := 15) (tgt := 23) d_X5_input_15 rfl (fun c15 => ?_) (fun c15 => ?_)
  · refine Tr.iconst (pc := 23) d_X5_input_23 (by decide) ?_
    exact Tr.zret (pc := 24) d_X5_input_24 rfl (by omega) ⟨hS, _, rfl, by omega, by omega⟩
  · refine Tr.iload_n (pc := 18) (i := 1) d_X5_input_18 rfl rfl ?_
    refine Tr.iconst (pc := 19) d_X5_input_19 (by decide) ?_
    refine Tr.icmp_lt (pc := 20) (tgt := 25) d_X5_input_20 rfl (fun c20 => ?_) (fun c20 => ?_)
    · refine Tr.aload_n (pc := 25) (i := 0) d_X5_input_25 rfl rfl ?_
      refine Tr.iconst (pc := 26) d_X5_input_26 (by decide) ?_
      refine Tr.bipush (pc := 27) d_X5_input_27 rfl (by decide) ?_
      refine Tr.callV (pc := 29) (as := [_, _]) d_X5_input_29 s_5_87 ok_X5_takeNumber rfl rfl (Nat.le_of_ble_eq_true rfl) (Nat.le_of_ble_eq_true rfl) (by decide) (ty_6 hS.1.1) ?_
      refine Tr.imp (Tr.deep (by decide) (sp_X5_takeNumber_6 hS.1 ((St.kp hS (by decide) (by decide) (by decide)).trans en_6_2) 0 (by omega) 99 (by omega))) ?_
      rintro M29 _ ⟨h29, r29, rfl, lr29, ur29⟩
      have hS := St.tr hS h29 (by decide) (by decide)
      refine Tr.sc [(0, r29)] rfl ?_
      refine Tr.istore_n (pc := 32) (i := 2) (ls2 := [(2, (0, r29)), (1, (0, r8)), (0, (2, 6))]) d_X5_input_32 rfl (by decide) rfl ?_
      refine Tr.iload_n (pc := 33) (i := 2) d_X5_input_33 rfl rfl ?_
      have J48 : ∀ (M : Mem) (q48_0 : Int), St Tru ws_X5_input_6 as_X5_input_6 M0 M → ((-1) ≤ q48_0 ∧ q48_0 ≤ 99) → Tr l K 2 mX5_input 48 [(0, (2, 6)), (1, (0, r8)), (2, (0, r29))] [(0, q48_0)] M (q_X5_input_6 M0) := by
        intro M q48_0 hS bq48_0 
        refine Tr.istore_n (pc := 48) (i := 3) (ls2 := [(3, (0, q48_0)), (0, (2, 6)), (1, (0, r8)), (2, (0, r29))]) d_X5_input_48 rfl (by decide) rfl ?_
        refine Tr.iload_n (pc := 49) (i := 3) d_X5_input_49 rfl rfl ?_
        refine Tr.if_lt (pc := 50) (tgt := 62) d_X5_input_50 rfl (fun c50 => ?_) (fun c50 => ?_)
        · refine Tr.iconst (pc := 62) d_X5_input_62 (by decide) ?_
          exact Tr.zret (pc := 63) d_X5_input_63 rfl (by omega) ⟨hS, _, rfl, by omega, by omega⟩
        · refine Tr.aload_n (pc := 53) (i := 0) d_X5_input_53 rfl rfl ?_
          refine Tr.bipush (pc := 54) d_X5_input_54 rfl (by decide) ?_
          refine Tr.callV (pc := 56) (as := [_]) d_X5_input_56 s_5_81 ok_X5_takeSign rfl rfl (Nat.le_of_ble_eq_true rfl) (Nat.le_of_ble_eq_true rfl) (by decide) (ty_6 hS.1.1) ?_
          refine Tr.imp (Tr.deep (by decide) (sp_X5_takeSign_6 hS.1 ((St.kp hS (by decide) (by decide) (by decide)).trans en_6_2) 59 (by omega))) ?_
          rintro M56 _ ⟨h56, r56, rfl, lr56, ur56⟩
          have hS := St.tr hS h56 (by decide) (by decide)
          refine Tr.sc [(0, r56)] rfl ?_
          refine Tr.if_ne (pc := 59) (tgt := 64) d_X5_input_59 rfl (fun c59 => ?_) (fun c59 => ?_)
          · refine Tr.aload_n (pc := 64) (i := 0) d_X5_input_64 rfl rfl ?_
            refine Tr.getf (pc := 65) d_X5_input_65 f_5_22 (by decide) (by decide) (ty_6 hS.1.1) ?_
            refine Tr.tp 27 ((St.kp hS (by decide) (by decide) (by decide)).trans en_6_3) ?_
            refine Tr.getf (pc := 68) d_X5_input_68 f_5_148 (by decide) (by decide) (ty_27 hS.1.1) ?_
            refine Tr.tp 32 (fx_27_8 hS.1.1) ?_
            refine Tr.iload_n (pc := 71) (i := 1) d_X5_input_71 rfl rfl ?_
            refine Tr.iload_n (pc := 72) (i := 2) d_X5_input_72 rfl rfl ?_
            refine Tr.iastS (pc := 73) (P := St Tru ws_X5_input_6 as_X5_input_6 M0) d_X5_input_73 (ty_32 hS.1.1) (by omega) (by omega) (sa_32 hS (by decide) (by omega) trivial) (fun M73 hS w73 => ?_)
            refine Tr.aload_n (pc := 74) (i := 0) d_X5_input_74 rfl rfl ?_
            refine Tr.getf (pc := 75) d_X5_input_75 f_5_22 (by decide) (by decide) (ty_6 hS.1.1) ?_
            refine Tr.tp 27 ((St.kp hS (by decide) (by decide) (by decide)).trans en_6_3) ?_
            refine Tr.getf (pc := 78) d_X5_input_78 f_5_151 (by decide) (by decide) (ty_27 hS.1.1) ?_
            refine Tr.tp 33 (fx_27_9 hS.1.1) ?_
            refine Tr.iload_n (pc := 81) (i := 1) d_X5_input_81 rfl rfl ?_
            refine Tr.iload_n (pc := 82) (i := 3) d_X5_input_82 rfl rfl ?_
            refine Tr.iastS (pc := 83) (P := St Tru ws_X5_input_6 as_X5_input_6 M0) d_X5_input_83 (ty_33 hS.1.1) (by omega) (by omega) (sa_33 hS (by decide) (by omega) trivial) (fun M83 hS w83 => ?_)
            refine Tr.iconst (pc := 84) d_X5_input_84 (by decide) ?_
            exact Tr.zret (pc := 85) d_X5_input_85 rfl (by omega) ⟨hS, _, rfl, by omega, by omega⟩
          · refine Tr.iconst (pc := 62) d_X5_input_62 (by decide) ?_
            exact Tr.zret (pc := 63) d_X5_input_63 rfl (by omega) ⟨hS, _, rfl, by omega, by omega⟩
      refine Tr.if_ge (pc := 34) (tgt := 41) d_X5_input_34 rfl (fun c34 => ?_) (fun c34 => ?_)
      · refine Tr.aload_n (pc := 41) (i := 0) d_X5_input_41 rfl rfl ?_
        refine Tr.iload_n (pc := 42) (i := 2) d_X5_input_42 rfl rfl ?_
        refine Tr.bipush (pc := 43) d_X5_input_43 rfl (by decide) ?_
        refine Tr.callV (pc := 45) (as := [_, _]) d_X5_input_45 s_5_87 ok_X5_takeNumber rfl rfl (Nat.le_of_ble_eq_true rfl) (Nat.le_of_ble_eq_true rfl) (by decide) (ty_6 hS.1.1) ?_
        refine Tr.imp (Tr.deep (by decide) (sp_X5_takeNumber_6_w1 hS.1 ((St.kp hS (by decide) (by decide) (by decide)).trans en_6_2) r29 (by omega) 99 (by omega))) ?_
        rintro M45 _ ⟨h45, r45, rfl, lr45, ur45⟩
        have hS := St.tr hS h45 (by decide) (by decide)
        refine Tr.sc [(0, r45)] rfl ?_
        refine Tr.pick [2, 1, 0] (ls2 := [(0, (2, 6)), (1, (0, r8)), (2, (0, r29))]) rfl ?_
        exact J48 _ _ hS (by omega)
      · refine Tr.iconst (pc := 37) d_X5_input_37 (by decide) ?_
        refine Tr.goto (pc := 38) (tgt := 48) d_X5_input_38 rfl ?_
        refine Tr.pick [2, 1, 0] (ls2 := [(0, (2, 6)), (1, (0, r8)), (2, (0, r29))]) rfl ?_
        exact J48 _ _ hS (by omega)
    · refine Tr.iconst (pc := 23) d_X5_input_23 (by decide) ?_
      exact Tr.zret (pc := 24) d_X5_input_24 rfl (by omega) ⟨hS, _, rfl, by omega, by omega⟩

def ws_X3_isFull_27_w2 : List (Int × Int) := []
def as_X3_isFull_27_w2 : List Int := []
def q_X3_isFull_27_w2 (M0 M' : Mem) (r : Option PV) : Prop := St Tru ws_X3_isFull_27_w2 as_X3_isFull_27_w2 M0 M' ∧ ∃ v : Int, r = some (0, v) ∧ 0 ≤ v ∧ v ≤ 1
set_option maxRecDepth 100000 in
set_option maxHeartbeats 4000000 in
theorem sp_X3_isFull_27_w2 {l : Launch} {K : EC} {M0 : Mem} {xq : Int} (hI : In Tru M0) (hE : e_all K xq)  (a1 : Int) (ha1 : 0 ≤ a1 ∧ a1 ≤ 0)  : Tr l K 0 mX3_isFull 0 [(0, (2, 27)), (1, (0, a1))] [] M0 (q_X3_isFull_27_w2 M0) := by
  have hS : St Tru ws_X3_isFull_27_w2 as_X3_isFull_27_w2 M0 M0 := St.rf hI
  refine Tr.aload_n (pc := 0) (i := 0) d_X3_isFull_0 rfl rfl ?_
  refine Tr.getf (pc := 1) d_X3_isFull_1 f_3_11 (by decide) (by decide) (ty_27 hS.1.1) ?_
  refine Tr.tp 28 (fx_27_4 hS.1.1) ?_
  refine Tr.iload_n (pc := 4) (i := 1) d_X3_isFull_4 rfl rfl ?_
  refine Tr.tp 0 (by omega) ?_
  refine Tr.iald (pc := 5) d_X3_isFull_5 (ty_28 hS.1.1) (by omega) (by omega) ?_
  refine Tr.gen (P := fun v => 0 ≤ v ∧ v ≤ 6) (ir_28_0 hS.1.2.1) (fun r5 er5 br5 => ?_)
  refine Tr.gets (pc := 6) d_X3_isFull_6 sl_3_62 hE.2.2.2.1 ?_
  refine Tr.iload_n (pc := 9) (i := 1) d_X3_isFull_9 rfl rfl ?_
  refine Tr.tp 0 (by omega) ?_
  refine Tr.xld (pc := 10) (i := 1) d_X3_isFull_10 rfl hE.1 (by omega) (by omega) ?_
  refine Tr.tp 6 (by decide) ?_
  refine Tr.icmp_lt (pc := 11) (tgt := 18) d_X3_isFull_11 rfl (fun c11 => ?_) (fun c11 => ?_)
  · refine Tr.iconst (pc := 18) d_X3_isFull_18 (by decide) ?_
    exact Tr.zret (pc := 19) d_X3_isFull_19 rfl (by omega) ⟨hS, _, rfl, by omega, by omega⟩
  · refine Tr.iconst (pc := 14) d_X3_isFull_14 (by decide) ?_
    refine Tr.goto (pc := 15) (tgt := 19) d_X3_isFull_15 rfl ?_
    exact Tr.zret (pc := 19) d_X3_isFull_19 rfl (by omega) ⟨hS, _, rfl, by omega, by omega⟩

def ws_X3_name_27_w2 : List (Int × Int) := [(28, 0)]
def as_X3_name_27_w2 : List Int := [34]
def q_X3_name_27_w2 (M0 M' : Mem) (r : Option PV) : Prop := St Tru ws_X3_name_27_w2 as_X3_name_27_w2 M0 M' ∧ r = none
set_option maxRecDepth 100000 in
set_option maxHeartbeats 4000000 in
theorem sp_X3_name_27_w2 {l : Launch} {K : EC} {M0 : Mem} {xq : Int} (hI : In Tru M0) (hE : e_all K xq)  (a1 : Int) (ha1 : 0 ≤ a1 ∧ a1 ≤ 0) (a2 : Int) (ha2 : (-2147483648) ≤ a2 ∧ a2 ≤ 2147483647)  : Tr l K 0 mX3_name 0 [(0, (2, 27)), (1, (0, a1)), (2, (0, a2))] [] M0 (q_X3_name_27_w2 M0) := by
  have hS : St Tru ws_X3_name_27_w2 as_X3_name_27_w2 M0 M0 := St.rf hI
  refine Tr.aload_n (pc := 0) (i := 0) d_X3_name_0 rfl rfl ?_
  refine Tr.getf (pc := 1) d_X3_name_1 f_3_11 (by decide) (by decide) (ty_27 hS.1.1) ?_
  refine Tr.tp 28 (fx_27_4 hS.1.1) ?_
  refine Tr.iload_n (pc := 4) (i := 1) d_X3_name_4 rfl rfl ?_
  refine Tr.tp 0 (by omega) ?_
  refine Tr.iald (pc := 5) d_X3_name_5 (ty_28 hS.1.1) (by omega) (by omega) ?_
  refine Tr.gen (P := fun v => 0 ≤ v ∧ v ≤ 6) (ir_28_0 hS.1.2.1) (fun r5 er5 br5 => ?_)
  refine Tr.gets (pc := 6) d_X3_name_6 sl_3_62 hE.2.2.2.1 ?_
  refine Tr.iload_n (pc := 9) (i := 1) d_X3_name_9 rfl rfl ?_
  refine Tr.tp 0 (by omega) ?_
  refine Tr.xld (pc := 10) (i := 1) d_X3_name_10 rfl hE.1 (by omega) (by omega) ?_
  refine Tr.tp 6 (by decide) ?_
  refine Tr.icmp_ge (pc := 11) (tgt := 42) d_X3_name_11 rfl (fun c11 => ?_) (fun c11 => ?_)
  · exact Tr.vret (pc := 42) d_X3_name_42 rfl ⟨hS, rfl⟩
  · refine Tr.aload_n (pc := 14) (i := 0) d_X3_name_14 rfl rfl ?_
    refine Tr.getf (pc := 15) d_X3_name_15 f_3_30 (by decide) (by decide) (ty_27 hS.1.1) ?_
    refine Tr.tp 34 (fx_27_10 hS.1.1) ?_
    refine Tr.gets (pc := 18) d_X3_name_18 sl_3_65 hE.2.2.2.2.1 ?_
    refine Tr.iload_n (pc := 21) (i := 1) d_X3_name_21 rfl rfl ?_
    refine Tr.tp 0 (by omega) ?_
    refine Tr.xld (pc := 22) (i := 2) d_X3_name_22 rfl hE.2.1 (by omega) (by omega) ?_
    refine Tr.tp 0 (by decide) ?_
    refine Tr.aload_n (pc := 23) (i := 0) d_X3_name_23 rfl rfl ?_
    refine Tr.getf (pc := 24) d_X3_name_24 f_3_11 (by decide) (by decide) (ty_27 hS.1.1) ?_
    refine Tr.tp 28 (fx_27_4 hS.1.1) ?_
    refine Tr.iload_n (pc := 27) (i := 1) d_X3_name_27 rfl rfl ?_
    refine Tr.tp 0 (by omega) ?_
    refine Tr.iald (pc := 28) d_X3_name_28 (ty_28 hS.1.1) (by omega) (by omega) ?_
    refine Tr.tp r5 er5 ?_
    refine Tr.iadd (pc := 29) d_X3_name_29 ?_
    refine Tr.tp r5 ((w32_id (by omega)).trans (by omega)) ?_
    refine Tr.iload_n (pc := 30) (i := 2) d_X3_name_30 rfl rfl ?_
    refine Tr.iastS (pc := 31) (P := St Tru ws_X3_name_27_w2 as_X3_name_27_w2 M0) d_X3_name_31 (ty_34 hS.1.1) (by omega) (by omega) (sa_34 hS (by decide) (by omega) trivial) (fun M31 hS w31 => ?_)
    refine Tr.aload_n (pc := 32) (i := 0) d_X3_name_32 rfl rfl ?_
    refine Tr.getf (pc := 33) d_X3_name_33 f_3_11 (by decide) (by decide) (ty_27 hS.1.1) ?_
    refine Tr.tp 28 (fx_27_4 hS.1.1) ?_
    refine Tr.iload_n (pc := 36) (i := 1) d_X3_name_36 rfl rfl ?_
    refine Tr.tp 0 (by omega) ?_
    refine Tr.dup2 (pc := 37) d_X3_name_37 ne01 ne21 ?_
    refine Tr.iald (pc := 38) d_X3_name_38 (ty_28 hS.1.1) (by omega) (by omega) ?_
    refine Tr.tp r5 ((Wr.b w31 rfl).trans er5) ?_
    refine Tr.iconst (pc := 39) d_X3_name_39 (by decide) ?_
    refine Tr.iadd (pc := 40) d_X3_name_40 ?_
    refine Tr.tp (r5 + 1) ((w32_id (by omega)).trans (by omega)) ?_
    refine Tr.iastS (pc := 41) (P := St Tru ws_X3_name_27_w2 as_X3_name_27_w2 M0) d_X3_name_41 (ty_28 hS.1.1) (by omega) (by omega) (st_28_0 hS (by decide) (by omega) trivial) (fun M41 hS w41 => ?_)
    exact Tr.vret (pc := 42) d_X3_name_42 rfl ⟨hS, rfl⟩

def ws_X5_beginNamed_6_w2 : List (Int × Int) := [(6, 0), (6, 1), (6, 5), (28, 0)]
def as_X5_beginNamed_6_w2 : List Int := [34]
def q_X5_beginNamed_6_w2 (M0 M' : Mem) (r : Option PV) : Prop := St Tru ws_X5_beginNamed_6_w2 as_X5_beginNamed_6_w2 M0 M' ∧ ∃ v : Int, r = some (0, v) ∧ 0 ≤ v ∧ v ≤ 1
set_option maxRecDepth 100000 in
set_option maxHeartbeats 4000000 in
theorem sp_X5_beginNamed_6_w2 {l : Launch} {K : EC} {M0 : Mem} {xq : Int} (hI : In Tru M0) (hE : e_all K xq) (en_6_2 : rd M0 6 2 = 2) (en_6_3 : rd M0 6 3 = 27) (a1 : Int) (ha1 : 0 ≤ a1 ∧ a1 ≤ 0)  : Tr l K 1 mX5_beginNamed 0 [(0, (2, 6)), (1, (0, a1))] [] M0 (q_X5_beginNamed_6_w2 M0) := by
  have hS : St Tru ws_X5_beginNamed_6_w2 as_X5_beginNamed_6_w2 M0 M0 := St.rf hI
  refine Tr.aload_n (pc := 0) (i := 0) d_X5_beginNamed_0 rfl rfl ?_
  refine Tr.getf (pc := 1) d_X5_beginNamed_1 f_5_22 (by decide) (by decide) (ty_6 hS.1.1) ?_
  refine Tr.tp 27 ((St.kp hS (by decide) (by decide) (by decide)).trans en_6_3) ?_
  refine Tr.iload_n (pc := 4) (i := 1) d_X5_beginNamed_4 rfl rfl ?_
  refine Tr.tp 0 (by omega) ?_
  refine Tr.callV (pc := 5) (as := [_]) d_X5_beginNamed_5 s_5_126 ok_X3_isFull rfl rfl (Nat.le_of_ble_eq_true rfl) (Nat.le_of_ble_eq_true rfl) (by decide) (ty_27 hS.1.1) ?_
  refine Tr.imp (Tr.deep (by decide) (sp_X3_isFull_27_w2 hS.1 hE 0 (by omega))) ?_
  rintro M5 _ ⟨h5, r5, rfl, lr5, ur5⟩
  have hS := St.tr hS h5 (by decide) (by decide)
  refine Tr.sc [(0, r5)] rfl ?_
  refine Tr.if_eq (pc := 8) (tgt := 17) d_X5_beginNamed_8 rfl (fun c8 => ?_) (fun c8 => ?_)
  · refine Tr.aload_n (pc := 17) (i := 0) d_X5_beginNamed_17 rfl rfl ?_
    refine Tr.callV (pc := 18) (as := []) d_X5_beginNamed_18 s_5_74 ok_X5_goOn rfl rfl (Nat.le_of_ble_eq_true rfl) (Nat.le_of_ble_eq_true rfl) (by decide) (ty_6 hS.1.1) ?_
    refine Tr.imp (Tr.deep (by decide) (sp_X5_goOn_6 hS.1 )) ?_
    rintro M18 _ ⟨h18, r18, rfl, lr18, ur18⟩
    have hS := St.tr hS h18 (by decide) (by decide)
    refine Tr.sc [(0, r18)] rfl ?_
    refine Tr.pop (pc := 21) d_X5_beginNamed_21 ne01 ?_
    refine Tr.aload_n (pc := 22) (i := 0) d_X5_beginNamed_22 rfl rfl ?_
    refine Tr.getf (pc := 23) d_X5_beginNamed_23 f_5_18 (by decide) (by decide) (ty_6 hS.1.1) ?_
    refine Tr.tp 2 ((St.kp hS (by decide) (by decide) (by decide)).trans en_6_2) ?_
    refine Tr.getf (pc := 26) d_X5_beginNamed_26 f_5_50 (by decide) (by decide) (ty_2 hS.1.1) ?_
    refine Tr.tp 3 (fx_2_0 hS.1.1) ?_
    refine Tr.aload_n (pc := 29) (i := 0) d_X5_beginNamed_29 rfl rfl ?_
    refine Tr.getf (pc := 30) d_X5_beginNamed_30 f_5_36 (by decide) (by decide) (ty_6 hS.1.1) ?_
    refine Tr.gen (P := fun v => 0 ≤ v ∧ v ≤ 900) (ir_6_5 hS.1.2.1) (fun r30 er30 br30 => ?_)
    refine Tr.iald (pc := 33) d_X5_beginNamed_33 (ty_3 hS.1.1) (by omega) (by omega) ?_
    refine Tr.gen (P := fun v => (-2147483648) ≤ v ∧ v ≤ 2147483647) (ar_3 hS.1.2.1 _) (fun r33 er33 br33 => ?_)
    refine Tr.iconst (pc := 34) d_X5_beginNamed_34 (by decide) ?_
    refine Tr.icmp_eq (pc := 35) (tgt := 44) d_X5_beginNamed_35 rfl (fun c35 => ?_) (fun c35 => ?_)
    · refine Tr.aload_n (pc := 44) (i := 0) d_X5_beginNamed_44 rfl rfl ?_
      refine Tr.getf (pc := 45) d_X5_beginNamed_45 f_5_22 (by decide) (by decide) (ty_6 hS.1.1) ?_
      refine Tr.tp 27 ((St.kp hS (by decide) (by decide) (by decide)).trans en_6_3) ?_
      refine Tr.aload_n (pc := 48) (i := 0) d_X5_beginNamed_48 rfl rfl ?_
      refine Tr.getf (pc := 49) d_X5_beginNamed_49 f_5_18 (by decide) (by decide) (ty_6 hS.1.1) ?_
      refine Tr.tp 2 ((St.kp hS (by decide) (by decide) (by decide)).trans en_6_2) ?_
      refine Tr.getf (pc := 52) d_X5_beginNamed_52 f_5_68 (by decide) (by decide) (ty_2 hS.1.1) ?_
      refine Tr.tp 5 (fx_2_2 hS.1.1) ?_
      refine Tr.aload_n (pc := 55) (i := 0) d_X5_beginNamed_55 rfl rfl ?_
      refine Tr.getf (pc := 56) d_X5_beginNamed_56 f_5_36 (by decide) (by decide) (ty_6 hS.1.1) ?_
      refine Tr.tp r30 er30 ?_
      refine Tr.iald (pc := 59) d_X5_beginNamed_59 (ty_5 hS.1.1) (by omega) (by omega) ?_
      refine Tr.gen (P := fun v => (-2147483648) ≤ v ∧ v ≤ 2147483647) (ar_5 hS.1.2.1 _) (fun r59 er59 br59 => ?_)
      refine Tr.callV (pc := 60) (as := [_]) d_X5_beginNamed_60 s_5_91 ok_X3_find rfl rfl (Nat.le_of_ble_eq_true rfl) (Nat.le_of_ble_eq_true rfl) (by decide) (ty_27 hS.1.1) ?_
      refine Tr.imp (Tr.deep (by decide) (sp_X3_find_27 hS.1 r59 (by omega))) ?_
      rintro M60 _ ⟨h60, r60, rfl, lr60, ur60⟩
      have hS := St.tr hS h60 (by decide) (by decide)
      refine Tr.sc [(0, r60)] rfl ?_
      refine Tr.if_lt (pc := 63) (tgt := 72) d_X5_beginNamed_63 rfl (fun c63 => ?_) (fun c63 => ?_)
      · refine Tr.aload_n (pc := 72) (i := 0) d_X5_beginNamed_72 rfl rfl ?_
        refine Tr.getf (pc := 73) d_X5_beginNamed_73 f_5_22 (by decide) (by decide) (ty_6 hS.1.1) ?_
        refine Tr.tp 27 ((St.kp hS (by decide) (by decide) (by decide)).trans en_6_3) ?_
        refine Tr.iload_n (pc := 76) (i := 1) d_X5_beginNamed_76 rfl rfl ?_
        refine Tr.tp 0 (by omega) ?_
        refine Tr.aload_n (pc := 77) (i := 0) d_X5_beginNamed_77 rfl rfl ?_
        refine Tr.getf (pc := 78) d_X5_beginNamed_78 f_5_18 (by decide) (by decide) (ty_6 hS.1.1) ?_
        refine Tr.tp 2 ((St.kp hS (by decide) (by decide) (by decide)).trans en_6_2) ?_
        refine Tr.getf (pc := 81) d_X5_beginNamed_81 f_5_68 (by decide) (by decide) (ty_2 hS.1.1) ?_
        refine Tr.tp 5 (fx_2_2 hS.1.1) ?_
        refine Tr.aload_n (pc := 84) (i := 0) d_X5_beginNamed_84 rfl rfl ?_
        refine Tr.getf (pc := 85) d_X5_beginNamed_85 f_5_36 (by decide) (by decide) (ty_6 hS.1.1) ?_
        refine Tr.tp r30 ((St.kp h60 (by decide) (by decide) (by decide)).trans er30) ?_
        refine Tr.iald (pc := 88) d_X5_beginNamed_88 (ty_5 hS.1.1) (by omega) (by omega) ?_
        refine Tr.tp r59 ((St.ka h60 (by decide) (by decide) (by decide)).trans er59) ?_
        refine Tr.callV (pc := 89) (as := [_, _]) d_X5_beginNamed_89 s_5_129 ok_X3_name rfl rfl (Nat.le_of_ble_eq_true rfl) (Nat.le_of_ble_eq_true rfl) (by decide) (ty_27 hS.1.1) ?_
        refine Tr.imp (Tr.deep (by decide) (sp_X3_name_27_w2 hS.1 hE 0 (by omega) r59 (by omega))) ?_
        rintro M89 _ ⟨h89, rfl⟩
        have hS := St.tr hS h89 (by decide) (by decide)
        refine Tr.sc [] rfl ?_
        refine Tr.aload_n (pc := 92) (i := 0) d_X5_beginNamed_92 rfl rfl ?_
        refine Tr.callV (pc := 93) (as := []) d_X5_beginNamed_93 s_5_74 ok_X5_goOn rfl rfl (Nat.le_of_ble_eq_true rfl) (Nat.le_of_ble_eq_true rfl) (by decide) (ty_6 hS.1.1) ?_
        refine Tr.imp (Tr.deep (by decide) (sp_X5_goOn_6 hS.1 )) ?_
        rintro M93 _ ⟨h93, r93, rfl, lr93, ur93⟩
        have hS := St.tr hS h93 (by decide) (by decide)
        refine Tr.sc [(0, r93)] rfl ?_
        exact Tr.zret (pc := 96) d_X5_beginNamed_96 rfl (by omega) ⟨hS, _, rfl, by omega, by omega⟩
      · refine Tr.aload_n (pc := 66) (i := 0) d_X5_beginNamed_66 rfl rfl ?_
        refine Tr.iconst (pc := 67) d_X5_beginNamed_67 (by decide) ?_
        refine Tr.callV (pc := 68) (as := [_]) d_X5_beginNamed_68 s_5_56 ok_X5_refuse rfl rfl (Nat.le_of_ble_eq_true rfl) (Nat.le_of_ble_eq_true rfl) (by decide) (ty_6 hS.1.1) ?_
        refine Tr.imp (Tr.deep (by decide) (sp_X5_refuse_6 hS.1 ((St.kp hS (by decide) (by decide) (by decide)).trans en_6_2) 2 (by omega))) ?_
        rintro M68 _ ⟨h68, r68, rfl, lr68, ur68⟩
        have hS := St.tr hS h68 (by decide) (by decide)
        refine Tr.sc [(0, r68)] rfl ?_
        exact Tr.zret (pc := 71) d_X5_beginNamed_71 rfl (by omega) ⟨hS, _, rfl, by omega, by omega⟩
    · refine Tr.aload_n (pc := 38) (i := 0) d_X5_beginNamed_38 rfl rfl ?_
      refine Tr.iconst (pc := 39) d_X5_beginNamed_39 (by decide) ?_
      refine Tr.callV (pc := 40) (as := [_]) d_X5_beginNamed_40 s_5_56 ok_X5_refuse rfl rfl (Nat.le_of_ble_eq_true rfl) (Nat.le_of_ble_eq_true rfl) (by decide) (ty_6 hS.1.1) ?_
      refine Tr.imp (Tr.deep (by decide) (sp_X5_refuse_6_w1 hS.1 ((St.kp hS (by decide) (by decide) (by decide)).trans en_6_2) 1 (by omega))) ?_
      rintro M40 _ ⟨h40, r40, rfl, lr40, ur40⟩
      have hS := St.tr hS h40 (by decide) (by decide)
      refine Tr.sc [(0, r40)] rfl ?_
      exact Tr.zret (pc := 43) d_X5_beginNamed_43 rfl (by omega) ⟨hS, _, rfl, by omega, by omega⟩
  · refine Tr.aload_n (pc := 11) (i := 0) d_X5_beginNamed_11 rfl rfl ?_
    refine Tr.iconst (pc := 12) d_X5_beginNamed_12 (by decide) ?_
    refine Tr.callV (pc := 13) (as := [_]) d_X5_beginNamed_13 s_5_56 ok_X5_refuse rfl rfl (Nat.le_of_ble_eq_true rfl) (Nat.le_of_ble_eq_true rfl) (by decide) (ty_6 hS.1.1) ?_
    refine Tr.imp (Tr.deep (by decide) (sp_X5_refuse_6_w2 hS.1 ((St.kp hS (by decide) (by decide) (by decide)).trans en_6_2) 5 (by omega))) ?_
    rintro M13 _ ⟨h13, r13, rfl, lr13, ur13⟩
    have hS := St.tr hS h13 (by decide) (by decide)
    refine Tr.sc [(0, r13)] rfl ?_
    exact Tr.zret (pc := 16) d_X5_beginNamed_16 rfl (by omega) ⟨hS, _, rfl, by omega, by omega⟩
end
/-! 34.02 -/
section
def ws_X5_part_6 : List (Int × Int) := [(6, 0), (6, 1), (6, 5), (28, 0)]
def as_X5_part_6 : List Int := [29, 30, 31, 34]
def q_X5_part_6 (M0 M' : Mem) (r : Option PV) : Prop := St Tru ws_X5_part_6 as_X5_part_6 M0 M' ∧ ∃ v : Int, r = some (0, v) ∧ 0 ≤ v ∧ v ≤ 1
set_option maxRecDepth 100000 in
set_option maxHeartbeats 4000000 in
theorem sp_X5_part_6 {l : Launch} {K : EC} {M0 : Mem} {xq : Int} (hI : In Tru M0) (hE : e_all K xq) (en_6_2 : rd M0 6 2 = 2) (en_6_3 : rd M0 6 3 = 27)   : Tr l K 3 mX5_part 0 [(0, (2, 6))] [] M0 (q_X5_part_6 M0) := by
  have hS : St Tru ws_X5_part_6 as_X5_part_6 M0 M0 := St.rf hI
  refine Tr.aload_n (pc := 0) (i := 0) d_X5_part_0 rfl rfl ?_
  refine Tr.getf (pc := 1) d_X5_part_1 f_5_22 (by decide) (by decide) (ty_6 hS.1.1) ?_
  refine Tr.tp 27 ((St.kp hS (by decide) (by decide) (by decide)).trans en_6_3) ?_
  refine Tr.getf (pc := 4) d_X5_part_4 f_5_133 (by decide) (by decide) (ty_27 hS.1.1) ?_
  refine Tr.tp 28 (fx_27_4 hS.1.1) ?_
  refine Tr.iconst (pc := 7) d_X5_part_7 (by decide) ?_
  refine Tr.iald (pc := 8) d_X5_part_8 (ty_28 hS.1.1) (by omega) (by omega) ?_
  refine Tr.gen (P := fun v => 0 ≤ v ∧ v ≤ 6) (ir_28_0 hS.1.2.1) (fun r8 er8 br8 => ?_)
  refine Tr.istore_n (pc := 9) (i := 1) (ls2 := [(1, (0, r8)), (0, (2, 6))]) d_X5_part_9 rfl (by decide) rfl ?_
  refine Tr.aload_n (pc := 10) (i := 0) d_X5_part_10 rfl rfl ?_
  refine Tr.iconst (pc := 11) d_X5_part_11 (by decide) ?_
  refine Tr.callV (pc := 12) (as := [_]) d_X5_part_12 s_5_112 ok_X5_beginNamed rfl rfl (Nat.le_of_ble_eq_true rfl) (Nat.le_of_ble_eq_true rfl) (by decide) (ty_6 hS.1.1) ?_
  refine Tr.imp (Tr.deep (by decide) (sp_X5_beginNamed_6_w2 hS.1 hE ((St.kp hS (by decide) (by decide) (by decide)).trans en_6_2) ((St.kp hS (by decide) (by decide) (by decide)).trans en_6_3) 0 (by omega))) ?_
  rintro M12 _ ⟨h12, r12, rfl, lr12, ur12⟩
  have hS := St.tr hS h12 (by decide) (by decide)
  refine Tr.sc [(0, r12)] rfl ?_
  refine Tr.if_eq (pc := 15) (tgt := 24) d_X5_part_15 rfl (fun c15 => ?_) (fun c15 => ?_)
  · refine Tr.iconst (pc := 24) d_X5_part_24 (by decide) ?_
    exact Tr.zret (pc := 25) d_X5_part_25 rfl (by omega) ⟨hS, _, rfl, by omega, by omega⟩
  · refine Tr.iload_n (pc := 18) (i := 1) d_X5_part_18 rfl rfl ?_
    refine Tr.bipush (pc := 19) d_X5_part_19 rfl (by decide) ?_
    refine Tr.icmp_lt (pc := 21) (tgt := 26) d_X5_part_21 rfl (fun c21 => ?_) (fun c21 => ?_)
    · refine Tr.aload_n (pc := 26) (i := 0) d_X5_part_26 rfl rfl ?_
      refine Tr.bipush (pc := 27) d_X5_part_27 rfl (by decide) ?_
      refine Tr.sipush (pc := 29) d_X5_part_29 rfl (by decide) ?_
      refine Tr.callV (pc := 32) (as := [_, _]) d_X5_part_32 s_5_136 ok_X5_takeTold rfl rfl (Nat.le_of_ble_eq_true rfl) (Nat.le_of_ble_eq_true rfl) (by decide) (ty_6 hS.1.1) ?_
      refine Tr.imp (Tr.deep (by decide) (sp_X5_takeTold_6 hS.1 ((St.kp hS (by decide) (by decide) (by decide)).trans en_6_2) 14 (by omega) 999 (by omega))) ?_
      rintro M32 _ ⟨h32, r32, rfl, lr32, ur32⟩
      have hS := St.tr hS h32 (by decide) (by decide)
      refine Tr.sc [(0, r32)] rfl ?_
      refine Tr.istore_n (pc := 35) (i := 2) (ls2 := [(2, (0, r32)), (1, (0, r8)), (0, (2, 6))]) d_X5_part_35 rfl (by decide) rfl ?_
      refine Tr.iload_n (pc := 36) (i := 2) d_X5_part_36 rfl rfl ?_
      have J52 : ∀ (M : Mem) (q52_0 : Int), St Tru ws_X5_part_6 as_X5_part_6 M0 M → ((-1) ≤ q52_0 ∧ q52_0 ≤ 20) → Tr l K 3 mX5_part 52 [(0, (2, 6)), (1, (0, r8)), (2, (0, r32))] [(0, q52_0)] M (q_X5_part_6 M0) := by
        intro M q52_0 hS bq52_0 
        refine Tr.istore_n (pc := 52) (i := 3) (ls2 := [(3, (0, q52_0)), (0, (2, 6)), (1, (0, r8)), (2, (0, r32))]) d_X5_part_52 rfl (by decide) rfl ?_
        refine Tr.iload_n (pc := 53) (i := 3) d_X5_part_53 rfl rfl ?_
        have J69 : ∀ (M : Mem) (q69_0 : Int), St Tru ws_X5_part_6 as_X5_part_6 M0 M → ((-1) ≤ q69_0 ∧ q69_0 ≤ 999) → Tr l K 3 mX5_part 69 [(0, (2, 6)), (1, (0, r8)), (2, (0, r32)), (3, (0, q52_0))] [(0, q69_0)] M (q_X5_part_6 M0) := by
          intro M q69_0 hS bq69_0 
          refine Tr.istore (pc := 69) (i := 4) (ls2 := [(4, (0, q69_0)), (0, (2, 6)), (1, (0, r8)), (2, (0, r32)), (3, (0, q52_0))]) d_X5_part_69 (by decide) rfl ?_
          refine Tr.iload (pc := 71) (i := 4) d_X5_part_71 rfl ?_
          have J89 : ∀ (M : Mem) (q89_0 : Int), St Tru ws_X5_part_6 as_X5_part_6 M0 M → ((-1) ≤ q89_0 ∧ q89_0 ≤ 999) → Tr l K 3 mX5_part 89 [(0, (2, 6)), (1, (0, r8)), (2, (0, r32)), (3, (0, q52_0)), (4, (0, q69_0))] [(0, q89_0)] M (q_X5_part_6 M0) := by
            intro M q89_0 hS bq89_0 
            refine Tr.istore (pc := 89) (i := 5) (ls2 := [(5, (0, q89_0)), (0, (2, 6)), (1, (0, r8)), (2, (0, r32)), (3, (0, q52_0)), (4, (0, q69_0))]) d_X5_part_89 (by decide) rfl ?_
            refine Tr.iload (pc := 91) (i := 5) d_X5_part_91 rfl ?_
            have J109 : ∀ (M : Mem) (q109_0 : Int), St Tru ws_X5_part_6 as_X5_part_6 M0 M → ((-1) ≤ q109_0 ∧ q109_0 ≤ 999) → Tr l K 3 mX5_part 109 [(0, (2, 6)), (1, (0, r8)), (2, (0, r32)), (3, (0, q52_0)), (4, (0, q69_0)), (5, (0, q89_0))] [(0, q109_0)] M (q_X5_part_6 M0) := by
              intro M q109_0 hS bq109_0 
              refine Tr.istore (pc := 109) (i := 6) (ls2 := [(6, (0, q109_0)), (0, (2, 6)), (1, (0, r8)), (2, (0, r32)), (3, (0, q52_0)), (4, (0, q69_0)), (5, (0, q89_0))]) d_X5_part_109 (by decide) rfl ?_
              refine Tr.iload (pc := 111) (i := 6) d_X5_part_111 rfl ?_
              have J128 : ∀ (M : Mem) (q128_0 : Int), St Tru ws_X5_part_6 as_X5_part_6 M0 M → ((-1) ≤ q128_0 ∧ q128_0 ≤ 50) → Tr l K 3 mX5_part 128 [(0, (2, 6)), (1, (0, r8)), (2, (0, r32)), (3, (0, q52_0)), (4, (0, q69_0)), (5, (0, q89_0)), (6, (0, q109_0))] [(0, q128_0)] M (q_X5_part_6 M0) := by
                intro M q128_0 hS bq128_0 
                refine Tr.istore (pc := 128) (i := 7) (ls2 := [(7, (0, q128_0)), (0, (2, 6)), (1, (0, r8)), (2, (0, r32)), (3, (0, q52_0)), (4, (0, q69_0)), (5, (0, q89_0)), (6, (0, q109_0))]) d_X5_part_128 (by decide) rfl ?_
                refine Tr.iload (pc := 130) (i := 7) d_X5_part_130 rfl ?_
                refine Tr.if_lt (pc := 132) (tgt := 144) d_X5_part_132 rfl (fun c132 => ?_) (fun c132 => ?_)
                · refine Tr.iconst (pc := 144) d_X5_part_144 (by decide) ?_
                  exact Tr.zret (pc := 145) d_X5_part_145 rfl (by omega) ⟨hS, _, rfl, by omega, by omega⟩
                · refine Tr.aload_n (pc := 135) (i := 0) d_X5_part_135 rfl rfl ?_
                  refine Tr.bipush (pc := 136) d_X5_part_136 rfl (by decide) ?_
                  refine Tr.callV (pc := 138) (as := [_]) d_X5_part_138 s_5_81 ok_X5_takeSign rfl rfl (Nat.le_of_ble_eq_true rfl) (Nat.le_of_ble_eq_true rfl) (by decide) (ty_6 hS.1.1) ?_
                  refine Tr.imp (Tr.deep (by decide) (sp_X5_takeSign_6 hS.1 ((St.kp hS (by decide) (by decide) (by decide)).trans en_6_2) 59 (by omega))) ?_
                  rintro M138 _ ⟨h138, r138, rfl, lr138, ur138⟩
                  have hS := St.tr hS h138 (by decide) (by decide)
                  refine Tr.sc [(0, r138)] rfl ?_
                  refine Tr.if_ne (pc := 141) (tgt := 146) d_X5_part_141 rfl (fun c141 => ?_) (fun c141 => ?_)
                  · refine Tr.aload_n (pc := 146) (i := 0) d_X5_part_146 rfl rfl ?_
                    refine Tr.getf (pc := 147) d_X5_part_147 f_5_22 (by decide) (by decide) (ty_6 hS.1.1) ?_
                    refine Tr.tp 27 ((St.kp hS (by decide) (by decide) (by decide)).trans en_6_3) ?_
                    refine Tr.getf (pc := 150) d_X5_part_150 f_5_139 (by decide) (by decide) (ty_27 hS.1.1) ?_
                    refine Tr.tp 29 (fx_27_5 hS.1.1) ?_
                    refine Tr.iload_n (pc := 153) (i := 1) d_X5_part_153 rfl rfl ?_
                    refine Tr.iconst (pc := 154) d_X5_part_154 (by decide) ?_
                    refine Tr.imul (pc := 155) d_X5_part_155 ?_
                    refine Tr.tp (4 * r8) ((w32_id (by omega)).trans (by omega)) ?_
                    refine Tr.iconst (pc := 156) d_X5_part_156 (by decide) ?_
                    refine Tr.iadd (pc := 157) d_X5_part_157 ?_
                    refine Tr.tp (4 * r8) ((w32_id (by omega)).trans (by omega)) ?_
                    refine Tr.iload_n (pc := 158) (i := 2) d_X5_part_158 rfl rfl ?_
                    refine Tr.iastS (pc := 159) (P := St Tru ws_X5_part_6 as_X5_part_6 M0) d_X5_part_159 (ty_29 hS.1.1) (by omega) (by omega) (sa_29 hS (by decide) (by omega) trivial) (fun M159 hS w159 => ?_)
                    refine Tr.aload_n (pc := 160) (i := 0) d_X5_part_160 rfl rfl ?_
                    refine Tr.getf (pc := 161) d_X5_part_161 f_5_22 (by decide) (by decide) (ty_6 hS.1.1) ?_
                    refine Tr.tp 27 ((St.kp hS (by decide) (by decide) (by decide)).trans en_6_3) ?_
                    refine Tr.getf (pc := 164) d_X5_part_164 f_5_139 (by decide) (by decide) (ty_27 hS.1.1) ?_
                    refine Tr.tp 29 (fx_27_5 hS.1.1) ?_
                    refine Tr.iload_n (pc := 167) (i := 1) d_X5_part_167 rfl rfl ?_
                    refine Tr.iconst (pc := 168) d_X5_part_168 (by decide) ?_
                    refine Tr.imul (pc := 169) d_X5_part_169 ?_
                    refine Tr.tp (4 * r8) ((w32_id (by omega)).trans (by omega)) ?_
                    refine Tr.iconst (pc := 170) d_X5_part_170 (by decide) ?_
                    refine Tr.iadd (pc := 171) d_X5_part_171 ?_
                    refine Tr.tp (4 * r8 + 1) ((w32_id (by omega)).trans (by omega)) ?_
                    refine Tr.iload (pc := 172) (i := 4) d_X5_part_172 rfl ?_
                    refine Tr.iastS (pc := 174) (P := St Tru ws_X5_part_6 as_X5_part_6 M0) d_X5_part_174 (ty_29 hS.1.1) (by omega) (by omega) (sa_29 hS (by decide) (by omega) trivial) (fun M174 hS w174 => ?_)
                    refine Tr.aload_n (pc := 175) (i := 0) d_X5_part_175 rfl rfl ?_
                    refine Tr.getf (pc := 176) d_X5_part_176 f_5_22 (by decide) (by decide) (ty_6 hS.1.1) ?_
                    refine Tr.tp 27 ((St.kp hS (by decide) (by decide) (by decide)).trans en_6_3) ?_
                    refine Tr.getf (pc := 179) d_X5_part_179 f_5_139 (by decide) (by decide) (ty_27 hS.1.1) ?_
                    refine Tr.tp 29 (fx_27_5 hS.1.1) ?_
                    refine Tr.iload_n (pc := 182) (i := 1) d_X5_part_182 rfl rfl ?_
                    refine Tr.iconst (pc := 183) d_X5_part_183 (by decide) ?_
                    refine Tr.imul (pc := 184) d_X5_part_184 ?_
                    refine Tr.tp (4 * r8) ((w32_id (by omega)).trans (by omega)) ?_
                    refine Tr.iconst (pc := 185) d_X5_part_185 (by decide) ?_
                    refine Tr.iadd (pc := 186) d_X5_part_186 ?_
                    refine Tr.tp (4 * r8 + 2) ((w32_id (by omega)).trans (by omega)) ?_
                    refine Tr.iload (pc := 187) (i := 5) d_X5_part_187 rfl ?_
                    refine Tr.iastS (pc := 189) (P := St Tru ws_X5_part_6 as_X5_part_6 M0) d_X5_part_189 (ty_29 hS.1.1) (by omega) (by omega) (sa_29 hS (by decide) (by omega) trivial) (fun M189 hS w189 => ?_)
                    refine Tr.aload_n (pc := 190) (i := 0) d_X5_part_190 rfl rfl ?_
                    refine Tr.getf (pc := 191) d_X5_part_191 f_5_22 (by decide) (by decide) (ty_6 hS.1.1) ?_
                    refine Tr.tp 27 ((St.kp hS (by decide) (by decide) (by decide)).trans en_6_3) ?_
                    refine Tr.getf (pc := 194) d_X5_part_194 f_5_139 (by decide) (by decide) (ty_27 hS.1.1) ?_
                    refine Tr.tp 29 (fx_27_5 hS.1.1) ?_
                    refine Tr.iload_n (pc := 197) (i := 1) d_X5_part_197 rfl rfl ?_
                    refine Tr.iconst (pc := 198) d_X5_part_198 (by decide) ?_
                    refine Tr.imul (pc := 199) d_X5_part_199 ?_
                    refine Tr.tp (4 * r8) ((w32_id (by omega)).trans (by omega)) ?_
                    refine Tr.iconst (pc := 200) d_X5_part_200 (by decide) ?_
                    refine Tr.iadd (pc := 201) d_X5_part_201 ?_
                    refine Tr.tp (4 * r8 + 3) ((w32_id (by omega)).trans (by omega)) ?_
                    refine Tr.iload (pc := 202) (i := 6) d_X5_part_202 rfl ?_
                    refine Tr.iastS (pc := 204) (P := St Tru ws_X5_part_6 as_X5_part_6 M0) d_X5_part_204 (ty_29 hS.1.1) (by omega) (by omega) (sa_29 hS (by decide) (by omega) trivial) (fun M204 hS w204 => ?_)
                    refine Tr.aload_n (pc := 205) (i := 0) d_X5_part_205 rfl rfl ?_
                    refine Tr.getf (pc := 206) d_X5_part_206 f_5_22 (by decide) (by decide) (ty_6 hS.1.1) ?_
                    refine Tr.tp 27 ((St.kp hS (by decide) (by decide) (by decide)).trans en_6_3) ?_
                    refine Tr.getf (pc := 209) d_X5_part_209 f_5_142 (by decide) (by decide) (ty_27 hS.1.1) ?_
                    refine Tr.tp 30 (fx_27_6 hS.1.1) ?_
                    refine Tr.iload_n (pc := 212) (i := 1) d_X5_part_212 rfl rfl ?_
                    refine Tr.iload_n (pc := 213) (i := 3) d_X5_part_213 rfl rfl ?_
                    refine Tr.iastS (pc := 214) (P := St Tru ws_X5_part_6 as_X5_part_6 M0) d_X5_part_214 (ty_30 hS.1.1) (by omega) (by omega) (sa_30 hS (by decide) (by omega) trivial) (fun M214 hS w214 => ?_)
                    refine Tr.aload_n (pc := 215) (i := 0) d_X5_part_215 rfl rfl ?_
                    refine Tr.getf (pc := 216) d_X5_part_216 f_5_22 (by decide) (by decide) (ty_6 hS.1.1) ?_
                    refine Tr.tp 27 ((St.kp hS (by decide) (by decide) (by decide)).trans en_6_3) ?_
                    refine Tr.getf (pc := 219) d_X5_part_219 f_5_145 (by decide) (by decide) (ty_27 hS.1.1) ?_
                    refine Tr.tp 31 (fx_27_7 hS.1.1) ?_
                    refine Tr.iload_n (pc := 222) (i := 1) d_X5_part_222 rfl rfl ?_
                    refine Tr.iload (pc := 223) (i := 7) d_X5_part_223 rfl ?_
                    refine Tr.iastS (pc := 225) (P := St Tru ws_X5_part_6 as_X5_part_6 M0) d_X5_part_225 (ty_31 hS.1.1) (by omega) (by omega) (sa_31 hS (by decide) (by omega) trivial) (fun M225 hS w225 => ?_)
                    refine Tr.iconst (pc := 226) d_X5_part_226 (by decide) ?_
                    exact Tr.zret (pc := 227) d_X5_part_227 rfl (by omega) ⟨hS, _, rfl, by omega, by omega⟩
                  · refine Tr.iconst (pc := 144) d_X5_part_144 (by decide) ?_
                    exact Tr.zret (pc := 145) d_X5_part_145 rfl (by omega) ⟨hS, _, rfl, by omega, by omega⟩
              refine Tr.if_ge (pc := 113) (tgt := 120) d_X5_part_113 rfl (fun c113 => ?_) (fun c113 => ?_)
              · refine Tr.aload_n (pc := 120) (i := 0) d_X5_part_120 rfl rfl ?_
                refine Tr.bipush (pc := 121) d_X5_part_121 rfl (by decide) ?_
                refine Tr.bipush (pc := 123) d_X5_part_123 rfl (by decide) ?_
                refine Tr.callV (pc := 125) (as := [_, _]) d_X5_part_125 s_5_136 ok_X5_takeTold rfl rfl (Nat.le_of_ble_eq_true rfl) (Nat.le_of_ble_eq_true rfl) (by decide) (ty_6 hS.1.1) ?_
                refine Tr.imp (Tr.deep (by decide) (sp_X5_takeTold_6_w4 hS.1 ((St.kp hS (by decide) (by decide) (by decide)).trans en_6_2) 18 (by omega) 50 (by omega))) ?_
                rintro M125 _ ⟨h125, r125, rfl, lr125, ur125⟩
                have hS := St.tr hS h125 (by decide) (by decide)
                refine Tr.sc [(0, r125)] rfl ?_
                refine Tr.pick [1, 2, 3, 4, 5, 6, 0] (ls2 := [(0, (2, 6)), (1, (0, r8)), (2, (0, r32)), (3, (0, q52_0)), (4, (0, q69_0)), (5, (0, q89_0)), (6, (0, q109_0))]) rfl ?_
                exact J128 _ _ hS (by omega)
              · refine Tr.iconst (pc := 116) d_X5_part_116 (by decide) ?_
                refine Tr.goto (pc := 117) (tgt := 128) d_X5_part_117 rfl ?_
                refine Tr.pick [1, 2, 3, 4, 5, 6, 0] (ls2 := [(0, (2, 6)), (1, (0, r8)), (2, (0, r32)), (3, (0, q52_0)), (4, (0, q69_0)), (5, (0, q89_0)), (6, (0, q109_0))]) rfl ?_
                exact J128 _ _ hS (by omega)
            refine Tr.if_ge (pc := 93) (tgt := 100) d_X5_part_93 rfl (fun c93 => ?_) (fun c93 => ?_)
            · refine Tr.aload_n (pc := 100) (i := 0) d_X5_part_100 rfl rfl ?_
              refine Tr.bipush (pc := 101) d_X5_part_101 rfl (by decide) ?_
              refine Tr.sipush (pc := 103) d_X5_part_103 rfl (by decide) ?_
              refine Tr.callV (pc := 106) (as := [_, _]) d_X5_part_106 s_5_136 ok_X5_takeTold rfl rfl (Nat.le_of_ble_eq_true rfl) (Nat.le_of_ble_eq_true rfl) (by decide) (ty_6 hS.1.1) ?_
              refine Tr.imp (Tr.deep (by decide) (sp_X5_takeTold_6_w3 hS.1 ((St.kp hS (by decide) (by decide) (by decide)).trans en_6_2) 17 (by omega) 999 (by omega))) ?_
              rintro M106 _ ⟨h106, r106, rfl, lr106, ur106⟩
              have hS := St.tr hS h106 (by decide) (by decide)
              refine Tr.sc [(0, r106)] rfl ?_
              refine Tr.pick [1, 2, 3, 4, 5, 0] (ls2 := [(0, (2, 6)), (1, (0, r8)), (2, (0, r32)), (3, (0, q52_0)), (4, (0, q69_0)), (5, (0, q89_0))]) rfl ?_
              exact J109 _ _ hS (by omega)
            · refine Tr.iconst (pc := 96) d_X5_part_96 (by decide) ?_
              refine Tr.goto (pc := 97) (tgt := 109) d_X5_part_97 rfl ?_
              refine Tr.pick [1, 2, 3, 4, 5, 0] (ls2 := [(0, (2, 6)), (1, (0, r8)), (2, (0, r32)), (3, (0, q52_0)), (4, (0, q69_0)), (5, (0, q89_0))]) rfl ?_
              exact J109 _ _ hS (by omega)
          refine Tr.if_ge (pc := 73) (tgt := 80) d_X5_part_73 rfl (fun c73 => ?_) (fun c73 => ?_)
          · refine Tr.aload_n (pc := 80) (i := 0) d_X5_part_80 rfl rfl ?_
            refine Tr.bipush (pc := 81) d_X5_part_81 rfl (by decide) ?_
            refine Tr.sipush (pc := 83) d_X5_part_83 rfl (by decide) ?_
            refine Tr.callV (pc := 86) (as := [_, _]) d_X5_part_86 s_5_136 ok_X5_takeTold rfl rfl (Nat.le_of_ble_eq_true rfl) (Nat.le_of_ble_eq_true rfl) (by decide) (ty_6 hS.1.1) ?_
            refine Tr.imp (Tr.deep (by decide) (sp_X5_takeTold_6_w2 hS.1 ((St.kp hS (by decide) (by decide) (by decide)).trans en_6_2) 16 (by omega) 999 (by omega))) ?_
            rintro M86 _ ⟨h86, r86, rfl, lr86, ur86⟩
            have hS := St.tr hS h86 (by decide) (by decide)
            refine Tr.sc [(0, r86)] rfl ?_
            refine Tr.pick [1, 2, 3, 4, 0] (ls2 := [(0, (2, 6)), (1, (0, r8)), (2, (0, r32)), (3, (0, q52_0)), (4, (0, q69_0))]) rfl ?_
            exact J89 _ _ hS (by omega)
          · refine Tr.iconst (pc := 76) d_X5_part_76 (by decide) ?_
            refine Tr.goto (pc := 77) (tgt := 89) d_X5_part_77 rfl ?_
            refine Tr.pick [1, 2, 3, 4, 0] (ls2 := [(0, (2, 6)), (1, (0, r8)), (2, (0, r32)), (3, (0, q52_0)), (4, (0, q69_0))]) rfl ?_
            exact J89 _ _ hS (by omega)
        refine Tr.if_ge (pc := 54) (tgt := 61) d_X5_part_54 rfl (fun c54 => ?_) (fun c54 => ?_)
        · refine Tr.aload_n (pc := 61) (i := 0) d_X5_part_61 rfl rfl ?_
          refine Tr.iconst (pc := 62) d_X5_part_62 (by decide) ?_
          refine Tr.sipush (pc := 63) d_X5_part_63 rfl (by decide) ?_
          refine Tr.callV (pc := 66) (as := [_, _]) d_X5_part_66 s_5_87 ok_X5_takeNumber rfl rfl (Nat.le_of_ble_eq_true rfl) (Nat.le_of_ble_eq_true rfl) (by decide) (ty_6 hS.1.1) ?_
          refine Tr.imp (Tr.deep (by decide) (sp_X5_takeNumber_6_w2 hS.1 ((St.kp hS (by decide) (by decide) (by decide)).trans en_6_2) 0 (by omega) 999 (by omega))) ?_
          rintro M66 _ ⟨h66, r66, rfl, lr66, ur66⟩
          have hS := St.tr hS h66 (by decide) (by decide)
          refine Tr.sc [(0, r66)] rfl ?_
          refine Tr.pick [1, 2, 3, 0] (ls2 := [(0, (2, 6)), (1, (0, r8)), (2, (0, r32)), (3, (0, q52_0))]) rfl ?_
          exact J69 _ _ hS (by omega)
        · refine Tr.iconst (pc := 57) d_X5_part_57 (by decide) ?_
          refine Tr.goto (pc := 58) (tgt := 69) d_X5_part_58 rfl ?_
          refine Tr.pick [1, 2, 3, 0] (ls2 := [(0, (2, 6)), (1, (0, r8)), (2, (0, r32)), (3, (0, q52_0))]) rfl ?_
          exact J69 _ _ hS (by omega)
      refine Tr.if_ge (pc := 37) (tgt := 44) d_X5_part_37 rfl (fun c37 => ?_) (fun c37 => ?_)
      · refine Tr.aload_n (pc := 44) (i := 0) d_X5_part_44 rfl rfl ?_
        refine Tr.bipush (pc := 45) d_X5_part_45 rfl (by decide) ?_
        refine Tr.bipush (pc := 47) d_X5_part_47 rfl (by decide) ?_
        refine Tr.callV (pc := 49) (as := [_, _]) d_X5_part_49 s_5_136 ok_X5_takeTold rfl rfl (Nat.le_of_ble_eq_true rfl) (Nat.le_of_ble_eq_true rfl) (by decide) (ty_6 hS.1.1) ?_
        refine Tr.imp (Tr.deep (by decide) (sp_X5_takeTold_6_w1 hS.1 ((St.kp hS (by decide) (by decide) (by decide)).trans en_6_2) 15 (by omega) 20 (by omega))) ?_
        rintro M49 _ ⟨h49, r49, rfl, lr49, ur49⟩
        have hS := St.tr hS h49 (by decide) (by decide)
        refine Tr.sc [(0, r49)] rfl ?_
        refine Tr.pick [2, 1, 0] (ls2 := [(0, (2, 6)), (1, (0, r8)), (2, (0, r32))]) rfl ?_
        exact J52 _ _ hS (by omega)
      · refine Tr.iconst (pc := 40) d_X5_part_40 (by decide) ?_
        refine Tr.goto (pc := 41) (tgt := 52) d_X5_part_41 rfl ?_
        refine Tr.pick [2, 1, 0] (ls2 := [(0, (2, 6)), (1, (0, r8)), (2, (0, r32))]) rfl ?_
        exact J52 _ _ hS (by omega)
    · refine Tr.iconst (pc := 24) d_X5_part_24 (by decide) ?_
      exact Tr.zret (pc := 25) d_X5_part_25 rfl (by omega) ⟨hS, _, rfl, by omega, by omega⟩

def ws_X5_declaration_6 : List (Int × Int) := [(6, 0), (6, 1), (6, 5), (27, 0), (27, 1), (27, 2), (27, 3), (28, 0), (28, 1), (28, 2)]
def as_X5_declaration_6 : List Int := [29, 30, 31, 32, 33, 34]
def q_X5_declaration_6 (M0 M' : Mem) (r : Option PV) : Prop := St Tru ws_X5_declaration_6 as_X5_declaration_6 M0 M' ∧ ∃ v : Int, r = some (0, v) ∧ 0 ≤ v ∧ v ≤ 1
set_option maxRecDepth 100000 in
set_option maxHeartbeats 4000000 in
theorem sp_X5_declaration_6 {l : Launch} {K : EC} {M0 : Mem} {xq : Int} (hI : In Tru M0) (hE : e_all K xq) (en_6_2 : rd M0 6 2 = 2) (en_6_3 : rd M0 6 3 = 27) (a1 : Int) (ha1 : (-2147483648) ≤ a1 ∧ a1 ≤ 5)  : Tr l K 4 mX5_declaration 0 [(0, (2, 6)), (1, (0, a1))] [] M0 (q_X5_declaration_6 M0) := by
  have hS : St Tru ws_X5_declaration_6 as_X5_declaration_6 M0 M0 := St.rf hI
  refine Tr.iload_n (pc := 0) (i := 1) d_X5_declaration_0 rfl rfl ?_
  rcases (show (a1 < 0 ∨ 3 < a1) ∨ a1 = 0 ∨ a1 = 1 ∨ a1 = 2 ∨ a1 = 3 by omega) with c1 | c1 | c1 | c1 | c1
  · refine Tr.tswOut (pc := 1) (tgt := 52) d_X5_declaration_1 c1 rfl ?_
    refine Tr.aload_n (pc := 52) (i := 0) d_X5_declaration_52 rfl rfl ?_
    refine Tr.iconst (pc := 53) d_X5_declaration_53 (by decide) ?_
    refine Tr.callV (pc := 54) (as := [_]) d_X5_declaration_54 s_5_112 ok_X5_beginNamed rfl rfl (Nat.le_of_ble_eq_true rfl) (Nat.le_of_ble_eq_true rfl) (by decide) (ty_6 hS.1.1) ?_
    refine Tr.imp (Tr.deep (by decide) (sp_X5_beginNamed_6 hS.1 hE ((St.kp hS (by decide) (by decide) (by decide)).trans en_6_2) ((St.kp hS (by decide) (by decide) (by decide)).trans en_6_3) 2 (by omega))) ?_
    rintro M54 _ ⟨h54, r54, rfl, lr54, ur54⟩
    have hS := St.tr hS h54 (by decide) (by decide)
    refine Tr.sc [(0, r54)] rfl ?_
    refine Tr.if_eq (pc := 57) (tgt := 73) d_X5_declaration_57 rfl (fun c57 => ?_) (fun c57 => ?_)
    · refine Tr.iconst (pc := 73) d_X5_declaration_73 (by decide) ?_
      exact Tr.zret (pc := 74) d_X5_declaration_74 rfl (by omega) ⟨hS, _, rfl, by omega, by omega⟩
    · refine Tr.aload_n (pc := 60) (i := 0) d_X5_declaration_60 rfl rfl ?_
      refine Tr.bipush (pc := 61) d_X5_declaration_61 rfl (by decide) ?_
      refine Tr.callV (pc := 63) (as := [_]) d_X5_declaration_63 s_5_81 ok_X5_takeSign rfl rfl (Nat.le_of_ble_eq_true rfl) (Nat.le_of_ble_eq_true rfl) (by decide) (ty_6 hS.1.1) ?_
      refine Tr.imp (Tr.deep (by decide) (sp_X5_takeSign_6 hS.1 ((St.kp hS (by decide) (by decide) (by decide)).trans en_6_2) 59 (by omega))) ?_
      rintro M63 _ ⟨h63, r63, rfl, lr63, ur63⟩
      have hS := St.tr hS h63 (by decide) (by decide)
      refine Tr.sc [(0, r63)] rfl ?_
      refine Tr.if_eq (pc := 66) (tgt := 73) d_X5_declaration_66 rfl (fun c66 => ?_) (fun c66 => ?_)
      · refine Tr.iconst (pc := 73) d_X5_declaration_73 (by decide) ?_
        exact Tr.zret (pc := 74) d_X5_declaration_74 rfl (by omega) ⟨hS, _, rfl, by omega, by omega⟩
      · refine Tr.iconst (pc := 69) d_X5_declaration_69 (by decide) ?_
        refine Tr.goto (pc := 70) (tgt := 74) d_X5_declaration_70 rfl ?_
        exact Tr.zret (pc := 74) d_X5_declaration_74 rfl (by omega) ⟨hS, _, rfl, by omega, by omega⟩
  · refine Tr.tp 0 c1 ?_
    refine Tr.tswIn (pc := 1) (off := 31) (tgt := 32) d_X5_declaration_1 (by decide) (by decide) rfl rfl ?_
    refine Tr.aload_n (pc := 32) (i := 0) d_X5_declaration_32 rfl rfl ?_
    refine Tr.callV (pc := 33) (as := []) d_X5_declaration_33 s_5_100 ok_X5_heart rfl rfl (Nat.le_of_ble_eq_true rfl) (Nat.le_of_ble_eq_true rfl) (by decide) (ty_6 hS.1.1) ?_
    refine Tr.imp (Tr.deep (by decide) (sp_X5_heart_6 hS.1 ((St.kp hS (by decide) (by decide) (by decide)).trans en_6_2) ((St.kp hS (by decide) (by decide) (by decide)).trans en_6_3))) ?_
    rintro M33 _ ⟨h33, r33, rfl, lr33, ur33⟩
    have hS := St.tr hS h33 (by decide) (by decide)
    refine Tr.sc [(0, r33)] rfl ?_
    exact Tr.zret (pc := 36) d_X5_declaration_36 rfl (by omega) ⟨hS, _, rfl, by omega, by omega⟩
  · refine Tr.tp 1 c1 ?_
    refine Tr.tswIn (pc := 1) (off := 36) (tgt := 37) d_X5_declaration_1 (by decide) (by decide) rfl rfl ?_
    refine Tr.aload_n (pc := 37) (i := 0) d_X5_declaration_37 rfl rfl ?_
    refine Tr.callV (pc := 38) (as := []) d_X5_declaration_38 s_5_103 ok_X5_cache rfl rfl (Nat.le_of_ble_eq_true rfl) (Nat.le_of_ble_eq_true rfl) (by decide) (ty_6 hS.1.1) ?_
    refine Tr.imp (Tr.deep (by decide) (sp_X5_cache_6 hS.1 ((St.kp hS (by decide) (by decide) (by decide)).trans en_6_2) ((St.kp hS (by decide) (by decide) (by decide)).trans en_6_3))) ?_
    rintro M38 _ ⟨h38, r38, rfl, lr38, ur38⟩
    have hS := St.tr hS h38 (by decide) (by decide)
    refine Tr.sc [(0, r38)] rfl ?_
    exact Tr.zret (pc := 41) d_X5_declaration_41 rfl (by omega) ⟨hS, _, rfl, by omega, by omega⟩
  · refine Tr.tp 2 c1 ?_
    refine Tr.tswIn (pc := 1) (off := 41) (tgt := 42) d_X5_declaration_1 (by decide) (by decide) rfl rfl ?_
    refine Tr.aload_n (pc := 42) (i := 0) d_X5_declaration_42 rfl rfl ?_
    refine Tr.callV (pc := 43) (as := []) d_X5_declaration_43 s_5_106 ok_X5_part rfl rfl (Nat.le_of_ble_eq_true rfl) (Nat.le_of_ble_eq_true rfl) (by decide) (ty_6 hS.1.1) ?_
    refine Tr.imp (Tr.deep (by decide) (sp_X5_part_6 hS.1 hE ((St.kp hS (by decide) (by decide) (by decide)).trans en_6_2) ((St.kp hS (by decide) (by decide) (by decide)).trans en_6_3))) ?_
    rintro M43 _ ⟨h43, r43, rfl, lr43, ur43⟩
    have hS := St.tr hS h43 (by decide) (by decide)
    refine Tr.sc [(0, r43)] rfl ?_
    exact Tr.zret (pc := 46) d_X5_declaration_46 rfl (by omega) ⟨hS, _, rfl, by omega, by omega⟩
  · refine Tr.tp 3 c1 ?_
    refine Tr.tswIn (pc := 1) (off := 46) (tgt := 47) d_X5_declaration_1 (by decide) (by decide) rfl rfl ?_
    refine Tr.aload_n (pc := 47) (i := 0) d_X5_declaration_47 rfl rfl ?_
    refine Tr.callV (pc := 48) (as := []) d_X5_declaration_48 s_5_109 ok_X5_input rfl rfl (Nat.le_of_ble_eq_true rfl) (Nat.le_of_ble_eq_true rfl) (by decide) (ty_6 hS.1.1) ?_
    refine Tr.imp (Tr.deep (by decide) (sp_X5_input_6 hS.1 hE ((St.kp hS (by decide) (by decide) (by decide)).trans en_6_2) ((St.kp hS (by decide) (by decide) (by decide)).trans en_6_3))) ?_
    rintro M48 _ ⟨h48, r48, rfl, lr48, ur48⟩
    have hS := St.tr hS h48 (by decide) (by decide)
    refine Tr.sc [(0, r48)] rfl ?_
    exact Tr.zret (pc := 51) d_X5_declaration_51 rfl (by omega) ⟨hS, _, rfl, by omega, by omega⟩

def ws_X5_declarations_6 : List (Int × Int) := [(6, 0), (6, 1), (6, 5), (27, 0), (27, 1), (27, 2), (27, 3), (28, 0), (28, 1), (28, 2)]
def as_X5_declarations_6 : List Int := [29, 30, 31, 32, 33, 34]
def q_X5_declarations_6 (M0 M' : Mem) (r : Option PV) : Prop := St Tru ws_X5_declarations_6 as_X5_declarations_6 M0 M' ∧ ∃ v : Int, r = some (0, v) ∧ 0 ≤ v ∧ v ≤ 1
set_option maxRecDepth 100000 in
set_option maxHeartbeats 4000000 in
theorem sp_X5_declarations_6 {l : Launch} {K : EC} {M0 : Mem} {xq : Int} (hI : In Tru M0) (hE : e_all K xq) (en_6_2 : rd M0 6 2 = 2) (en_6_3 : rd M0 6 3 = 27)   : Tr l K 5 mX5_declarations 0 [(0, (2, 6))] [] M0 (q_X5_declarations_6 M0) := by
  have hS : St Tru ws_X5_declarations_6 as_X5_declarations_6 M0 M0 := St.rf hI
  refine Tr.iconst (pc := 0) d_X5_declarations_0 (by decide) ?_
  refine Tr.istore_n (pc := 1) (i := 1) (ls2 := [(1, (0, 1)), (0, (2, 6))]) d_X5_declarations_1 rfl (by decide) rfl ?_
  refine Tr.iconst (pc := 2) d_X5_declarations_2 (by decide) ?_
  refine Tr.istore_n (pc := 3) (i := 2) (ls2 := [(2, (0, 0)), (1, (0, 1)), (0, (2, 6))]) d_X5_declarations_3 rfl (by decide) rfl ?_
  have J4 : ∀ (n4 : Nat) (M : Mem) (p4_1 p4_2 : Int), St Tru ws_X5_declarations_6 as_X5_declarations_6 M0 M → (0 ≤ p4_1 ∧ p4_1 ≤ 1) → (0 ≤ p4_2 ∧ p4_2 ≤ 900) → (900 - p4_2).toNat < n4 → Tr l K 5 mX5_declarations 4 [(0, (2, 6)), (1, (0, p4_1)), (2, (0, p4_2))] [] M (q_X5_declarations_6 M0) := by
    intro n4
    induction n4 with
    | zero => intro M p4_1 p4_2 hS bp4_1 bp4_2  hm4; exact absurd hm4 (Nat.not_lt_zero _)
    | succ n4 J4 =>
      intro M p4_1 p4_2 hS bp4_1 bp4_2  hm4
      refine Tr.iload_n (pc := 4) (i := 2) d_X5_declarations_4 rfl rfl ?_
      refine Tr.sipush (pc := 5) d_X5_declarations_5 rfl (by decide) ?_
      refine Tr.icmp_ge (pc := 8) (tgt := 70) d_X5_declarations_8 rfl (fun c8 => ?_) (fun c8 => ?_)
      · refine Tr.iload_n (pc := 70) (i := 1) d_X5_declarations_70 rfl rfl ?_
        exact Tr.zret (pc := 71) d_X5_declarations_71 rfl (by omega) ⟨hS, _, rfl, by omega, by omega⟩
      · refine Tr.iload_n (pc := 11) (i := 1) d_X5_declarations_11 rfl rfl ?_
        refine Tr.if_eq (pc := 12) (tgt := 70) d_X5_declarations_12 rfl (fun c12 => ?_) (fun c12 => ?_)
        · refine Tr.iload_n (pc := 70) (i := 1) d_X5_declarations_70 rfl rfl ?_
          exact Tr.zret (pc := 71) d_X5_declarations_71 rfl (by omega) ⟨hS, _, rfl, by omega, by omega⟩
        · refine Tr.aload_n (pc := 15) (i := 0) d_X5_declarations_15 rfl rfl ?_
          refine Tr.getf (pc := 16) d_X5_declarations_16 f_5_18 (by decide) (by decide) (ty_6 hS.1.1) ?_
          refine Tr.tp 2 ((St.kp hS (by decide) (by decide) (by decide)).trans en_6_2) ?_
          refine Tr.getf (pc := 19) d_X5_declarations_19 f_5_50 (by decide) (by decide) (ty_2 hS.1.1) ?_
          refine Tr.tp 3 (fx_2_0 hS.1.1) ?_
          refine Tr.aload_n (pc := 22) (i := 0) d_X5_declarations_22 rfl rfl ?_
          refine Tr.getf (pc := 23) d_X5_declarations_23 f_5_36 (by decide) (by decide) (ty_6 hS.1.1) ?_
          refine Tr.gen (P := fun v => 0 ≤ v ∧ v ≤ 900) (ir_6_5 hS.1.2.1) (fun r23 er23 br23 => ?_)
          refine Tr.iald (pc := 26) d_X5_declarations_26 (ty_3 hS.1.1) (by omega) (by omega) ?_
          refine Tr.gen (P := fun v => (-2147483648) ≤ v ∧ v ≤ 2147483647) (ar_3 hS.1.2.1 _) (fun r26 er26 br26 => ?_)
          refine Tr.iconst (pc := 27) d_X5_declarations_27 (by decide) ?_
          refine Tr.icmp_ne (pc := 28) (tgt := 70) d_X5_declarations_28 rfl (fun c28 => ?_) (fun c28 => ?_)
          · refine Tr.iload_n (pc := 70) (i := 1) d_X5_declarations_70 rfl rfl ?_
            exact Tr.zret (pc := 71) d_X5_declarations_71 rfl (by omega) ⟨hS, _, rfl, by omega, by omega⟩
          · refine Tr.aload_n (pc := 31) (i := 0) d_X5_declarations_31 rfl rfl ?_
            refine Tr.getf (pc := 32) d_X5_declarations_32 f_5_18 (by decide) (by decide) (ty_6 hS.1.1) ?_
            refine Tr.tp 2 ((St.kp hS (by decide) (by decide) (by decide)).trans en_6_2) ?_
            refine Tr.getf (pc := 35) d_X5_declarations_35 f_5_68 (by decide) (by decide) (ty_2 hS.1.1) ?_
            refine Tr.tp 5 (fx_2_2 hS.1.1) ?_
            refine Tr.aload_n (pc := 38) (i := 0) d_X5_declarations_38 rfl rfl ?_
            refine Tr.getf (pc := 39) d_X5_declarations_39 f_5_36 (by decide) (by decide) (ty_6 hS.1.1) ?_
            refine Tr.tp r23 er23 ?_
            refine Tr.iald (pc := 42) d_X5_declarations_42 (ty_5 hS.1.1) (by omega) (by omega) ?_
            refine Tr.gen (P := fun v => (-2147483648) ≤ v ∧ v ≤ 2147483647) (ar_5 hS.1.2.1 _) (fun r42 er42 br42 => ?_)
            refine Tr.iconst (pc := 43) d_X5_declarations_43 (by decide) ?_
            refine Tr.icmp_gt (pc := 44) (tgt := 70) d_X5_declarations_44 rfl (fun c44 => ?_) (fun c44 => ?_)
            · refine Tr.iload_n (pc := 70) (i := 1) d_X5_declarations_70 rfl rfl ?_
              exact Tr.zret (pc := 71) d_X5_declarations_71 rfl (by omega) ⟨hS, _, rfl, by omega, by omega⟩
            · refine Tr.aload_n (pc := 47) (i := 0) d_X5_declarations_47 rfl rfl ?_
              refine Tr.aload_n (pc := 48) (i := 0) d_X5_declarations_48 rfl rfl ?_
              refine Tr.getf (pc := 49) d_X5_declarations_49 f_5_18 (by decide) (by decide) (ty_6 hS.1.1) ?_
              refine Tr.tp 2 ((St.kp hS (by decide) (by decide) (by decide)).trans en_6_2) ?_
              refine Tr.getf (pc := 52) d_X5_declarations_52 f_5_68 (by decide) (by decide) (ty_2 hS.1.1) ?_
              refine Tr.tp 5 (fx_2_2 hS.1.1) ?_
              refine Tr.aload_n (pc := 55) (i := 0) d_X5_declarations_55 rfl rfl ?_
              refine Tr.getf (pc := 56) d_X5_declarations_56 f_5_36 (by decide) (by decide) (ty_6 hS.1.1) ?_
              refine Tr.tp r23 er23 ?_
              refine Tr.iald (pc := 59) d_X5_declarations_59 (ty_5 hS.1.1) (by omega) (by omega) ?_
              refine Tr.tp r42 er42 ?_
              refine Tr.callV (pc := 60) (as := [_]) d_X5_declarations_60 s_5_97 ok_X5_declaration rfl rfl (Nat.le_of_ble_eq_true rfl) (Nat.le_of_ble_eq_true rfl) (by decide) (ty_6 hS.1.1) ?_
              refine Tr.imp (Tr.deep (by decide) (sp_X5_declaration_6 hS.1 hE ((St.kp hS (by decide) (by decide) (by decide)).trans en_6_2) ((St.kp hS (by decide) (by decide) (by decide)).trans en_6_3) r42 (by omega))) ?_
              rintro M60 _ ⟨h60, r60, rfl, lr60, ur60⟩
              have hS := St.tr hS h60 (by decide) (by decide)
              refine Tr.sc [(0, r60)] rfl ?_
              refine Tr.istore_n (pc := 63) (i := 1) (ls2 := [(1, (0, r60)), (0, (2, 6)), (2, (0, p4_2))]) d_X5_declarations_63 rfl (by decide) rfl ?_
              refine Tr.iincV (pc := 64) (n2 := (p4_2 + 1)) (ls2 := [(2, (0, (p4_2 + 1))), (1, (0, r60)), (0, (2, 6))]) d_X5_declarations_64 rfl (by decide) ((w32_id (by omega)).trans (by omega)) rfl ?_
              refine Tr.goto (pc := 67) (tgt := 4) d_X5_declarations_67 rfl ?_
              refine Tr.pick [2, 1, 0] (ls2 := [(0, (2, 6)), (1, (0, r60)), (2, (0, (p4_2 + 1)))]) rfl ?_
              exact J4 _ _ _ hS (by omega) (by omega) (by omega)
  refine Tr.pick [2, 1, 0] (ls2 := [(0, (2, 6)), (1, (0, 1)), (2, (0, 0))]) rfl ?_
  exact J4 _ _ _ _ hS (by omega) (by omega) (Nat.lt_succ_self _)

def ws_X3_which_27_v1 : List (Int × Int) := []
def as_X3_which_27_v1 : List Int := []
def q_X3_which_27_v1 (a2 : Int) (M0 M' : Mem) (r : Option PV) : Prop := St Tru ws_X3_which_27_v1 as_X3_which_27_v1 M0 M' ∧ ∃ v : Int, r = some (0, v) ∧ (-1) ≤ v ∧ v ≤ 2 ∧ ((v = a2 - 6 ∧ 0 ≤ v ∧ v < rd M' 28 1) ∨ (v = -1 ∧ (a2 < 6 ∨ rd M' 28 1 ≤ a2 - 6)))
set_option maxRecDepth 100000 in
set_option maxHeartbeats 4000000 in
theorem sp_X3_which_27_v1 {l : Launch} {K : EC} {M0 : Mem} {xq : Int} (hI : In Tru M0) (hE : e_all K xq)  (a2 : Int) (ha2 : 0 ≤ a2 ∧ a2 ≤ 15)  : Tr l K 0 mX3_which 0 [(0, (2, 27)), (1, (0, 1)), (2, (0, a2))] [] M0 (q_X3_which_27_v1 a2 M0) := by
  have hS : St Tru ws_X3_which_27_v1 as_X3_which_27_v1 M0 M0 := St.rf hI
  obtain ⟨g28_1, eg28_1⟩ : ∃ v, rd M0 28 1 = v := ⟨_, rfl⟩
  have bg28_1 : 0 ≤ g28_1 ∧ g28_1 ≤ 3 := by rw [← eg28_1]; exact ir_28_1 hI.2.1
  refine Tr.iload_n (pc := 0) (i := 2) d_X3_which_0 rfl rfl ?_
  refine Tr.gets (pc := 1) d_X3_which_1 sl_3_65 hE.2.2.2.2.1 ?_
  refine Tr.iload_n (pc := 4) (i := 1) d_X3_which_4 rfl rfl ?_
  refine Tr.xld (pc := 5) (i := 2) d_X3_which_5 rfl hE.2.1 (by omega) (by omega) ?_
  refine Tr.tp 6 (by decide) ?_
  refine Tr.isub (pc := 6) d_X3_which_6 ?_
  refine Tr.tp (a2 - 6) ((w32_id (by omega)).trans (by omega)) ?_
  refine Tr.istore_n (pc := 7) (i := 3) (ls2 := [(3, (0, (a2 - 6))), (0, (2, 27)), (1, (0, 1)), (2, (0, a2))]) d_X3_which_7 rfl (by decide) rfl ?_
  refine Tr.iload_n (pc := 8) (i := 3) d_X3_which_8 rfl rfl ?_
  refine Tr.if_lt (pc := 9) (tgt := 26) d_X3_which_9 rfl (fun c9 => ?_) (fun c9 => ?_)
  · refine Tr.iconst (pc := 26) d_X3_which_26 (by decide) ?_
    have kr_28_1 : rd M0 28 1 = g28_1 := eg28_1
    exact Tr.iret (pc := 27) d_X3_which_27 rfl ⟨hS, _, rfl, by omega, by omega, by omega⟩
  · refine Tr.iload_n (pc := 12) (i := 3) d_X3_which_12 rfl rfl ?_
    refine Tr.aload_n (pc := 13) (i := 0) d_X3_which_13 rfl rfl ?_
    refine Tr.getf (pc := 14) d_X3_which_14 f_3_11 (by decide) (by decide) (ty_27 hS.1.1) ?_
    refine Tr.tp 28 (fx_27_4 hS.1.1) ?_
    refine Tr.iload_n (pc := 17) (i := 1) d_X3_which_17 rfl rfl ?_
    refine Tr.iald (pc := 18) d_X3_which_18 (ty_28 hS.1.1) (by omega) (by omega) ?_
    refine Tr.tp g28_1 eg28_1 ?_
    refine Tr.icmp_ge (pc := 19) (tgt := 26) d_X3_which_19 rfl (fun c19 => ?_) (fun c19 => ?_)
    · refine Tr.iconst (pc := 26) d_X3_which_26 (by decide) ?_
      have kr_28_1 : rd M0 28 1 = g28_1 := eg28_1
      exact Tr.iret (pc := 27) d_X3_which_27 rfl ⟨hS, _, rfl, by omega, by omega, by omega⟩
    · refine Tr.iload_n (pc := 22) (i := 3) d_X3_which_22 rfl rfl ?_
      refine Tr.goto (pc := 23) (tgt := 27) d_X3_which_23 rfl ?_
      have kr_28_1 : rd M0 28 1 = g28_1 := eg28_1
      exact Tr.iret (pc := 27) d_X3_which_27 rfl ⟨hS, _, rfl, by omega, by omega, by omega⟩

def ws_X3_which_27_v2 : List (Int × Int) := []
def as_X3_which_27_v2 : List Int := []
def q_X3_which_27_v2 (a2 : Int) (M0 M' : Mem) (r : Option PV) : Prop := St Tru ws_X3_which_27_v2 as_X3_which_27_v2 M0 M' ∧ ∃ v : Int, r = some (0, v) ∧ (-1) ≤ v ∧ v ≤ 5 ∧ ((v = a2 - 9 ∧ 0 ≤ v ∧ v < rd M' 28 2) ∨ (v = -1 ∧ (a2 < 9 ∨ rd M' 28 2 ≤ a2 - 9)))
set_option maxRecDepth 100000 in
set_option maxHeartbeats 4000000 in
theorem sp_X3_which_27_v2 {l : Launch} {K : EC} {M0 : Mem} {xq : Int} (hI : In Tru M0) (hE : e_all K xq)  (a2 : Int) (ha2 : 0 ≤ a2 ∧ a2 ≤ 15)  : Tr l K 0 mX3_which 0 [(0, (2, 27)), (1, (0, 2)), (2, (0, a2))] [] M0 (q_X3_which_27_v2 a2 M0) := by
  have hS : St Tru ws_X3_which_27_v2 as_X3_which_27_v2 M0 M0 := St.rf hI
  obtain ⟨g28_2, eg28_2⟩ : ∃ v, rd M0 28 2 = v := ⟨_, rfl⟩
  have bg28_2 : 0 ≤ g28_2 ∧ g28_2 ≤ 6 := by rw [← eg28_2]; exact ir_28_2 hI.2.1
  refine Tr.iload_n (pc := 0) (i := 2) d_X3_which_0 rfl rfl ?_
  refine Tr.gets (pc := 1) d_X3_which_1 sl_3_65 hE.2.2.2.2.1 ?_
  refine Tr.iload_n (pc := 4) (i := 1) d_X3_which_4 rfl rfl ?_
  refine Tr.xld (pc := 5) (i := 2) d_X3_which_5 rfl hE.2.1 (by omega) (by omega) ?_
  refine Tr.tp 9 (by decide) ?_
  refine Tr.isub (pc := 6) d_X3_which_6 ?_
  refine Tr.tp (a2 - 9) ((w32_id (by omega)).trans (by omega)) ?_
  refine Tr.istore_n (pc := 7) (i := 3) (ls2 := [(3, (0, (a2 - 9))), (0, (2, 27)), (1, (0, 2)), (2, (0, a2))]) d_X3_which_7 rfl (by decide) rfl ?_
  refine Tr.iload_n (pc := 8) (i := 3) d_X3_which_8 rfl rfl ?_
  refine Tr.if_lt (pc := 9) (tgt := 26) d_X3_which_9 rfl (fun c9 => ?_) (fun c9 => ?_)
  · refine Tr.iconst (pc := 26) d_X3_which_26 (by decide) ?_
    have kr_28_2 : rd M0 28 2 = g28_2 := eg28_2
    exact Tr.iret (pc := 27) d_X3_which_27 rfl ⟨hS, _, rfl, by omega, by omega, by omega⟩
  · refine Tr.iload_n (pc := 12) (i := 3) d_X3_which_12 rfl rfl ?_
    refine Tr.aload_n (pc := 13) (i := 0) d_X3_which_13 rfl rfl ?_
    refine Tr.getf (pc := 14) d_X3_which_14 f_3_11 (by decide) (by decide) (ty_27 hS.1.1) ?_
    refine Tr.tp 28 (fx_27_4 hS.1.1) ?_
    refine Tr.iload_n (pc := 17) (i := 1) d_X3_which_17 rfl rfl ?_
    refine Tr.iald (pc := 18) d_X3_which_18 (ty_28 hS.1.1) (by omega) (by omega) ?_
    refine Tr.tp g28_2 eg28_2 ?_
    refine Tr.icmp_ge (pc := 19) (tgt := 26) d_X3_which_19 rfl (fun c19 => ?_) (fun c19 => ?_)
    · refine Tr.iconst (pc := 26) d_X3_which_26 (by decide) ?_
      have kr_28_2 : rd M0 28 2 = g28_2 := eg28_2
      exact Tr.iret (pc := 27) d_X3_which_27 rfl ⟨hS, _, rfl, by omega, by omega, by omega⟩
    · refine Tr.iload_n (pc := 22) (i := 3) d_X3_which_22 rfl rfl ?_
      refine Tr.goto (pc := 23) (tgt := 27) d_X3_which_23 rfl ?_
      have kr_28_2 : rd M0 28 2 = g28_2 := eg28_2
      exact Tr.iret (pc := 27) d_X3_which_27 rfl ⟨hS, _, rfl, by omega, by omega, by omega⟩

def ws_X5_takeName_6_v2 : List (Int × Int) := [(6, 0), (6, 1), (6, 5)]
def as_X5_takeName_6_v2 : List Int := []
def q_X5_takeName_6_v2 (M0 M' : Mem) (r : Option PV) : Prop := St Tru ws_X5_takeName_6_v2 as_X5_takeName_6_v2 M0 M' ∧ ∃ v : Int, r = some (0, v) ∧ (-1) ≤ v ∧ v ≤ 5
set_option maxRecDepth 100000 in
set_option maxHeartbeats 4000000 in
theorem sp_X5_takeName_6_v2 {l : Launch} {K : EC} {M0 : Mem} {xq : Int} (hI : In Tru M0) (hE : e_all K xq) (en_6_2 : rd M0 6 2 = 2) (en_6_3 : rd M0 6 3 = 27)   : Tr l K 1 mX5_takeName 0 [(0, (2, 6)), (1, (0, 2))] [] M0 (q_X5_takeName_6_v2 M0) := by
  have hS : St Tru ws_X5_takeName_6_v2 as_X5_takeName_6_v2 M0 M0 := St.rf hI
  refine Tr.aload_n (pc := 0) (i := 0) d_X5_takeName_0 rfl rfl ?_
  refine Tr.getf (pc := 1) d_X5_takeName_1 f_5_18 (by decide) (by decide) (ty_6 hS.1.1) ?_
  refine Tr.tp 2 ((St.kp hS (by decide) (by decide) (by decide)).trans en_6_2) ?_
  refine Tr.getf (pc := 4) d_X5_takeName_4 f_5_50 (by decide) (by decide) (ty_2 hS.1.1) ?_
  refine Tr.tp 3 (fx_2_0 hS.1.1) ?_
  refine Tr.aload_n (pc := 7) (i := 0) d_X5_takeName_7 rfl rfl ?_
  refine Tr.getf (pc := 8) d_X5_takeName_8 f_5_36 (by decide) (by decide) (ty_6 hS.1.1) ?_
  refine Tr.gen (P := fun v => 0 ≤ v ∧ v ≤ 900) (ir_6_5 hS.1.2.1) (fun r8 er8 br8 => ?_)
  refine Tr.iald (pc := 11) d_X5_takeName_11 (ty_3 hS.1.1) (by omega) (by omega) ?_
  refine Tr.gen (P := fun v => (-2147483648) ≤ v ∧ v ≤ 2147483647) (ar_3 hS.1.2.1 _) (fun r11 er11 br11 => ?_)
  refine Tr.iconst (pc := 12) d_X5_takeName_12 (by decide) ?_
  refine Tr.icmp_eq (pc := 13) (tgt := 24) d_X5_takeName_13 rfl (fun c13 => ?_) (fun c13 => ?_)
  · refine Tr.aload_n (pc := 24) (i := 0) d_X5_takeName_24 rfl rfl ?_
    refine Tr.getf (pc := 25) d_X5_takeName_25 f_5_22 (by decide) (by decide) (ty_6 hS.1.1) ?_
    refine Tr.tp 27 ((St.kp hS (by decide) (by decide) (by decide)).trans en_6_3) ?_
    refine Tr.aload_n (pc := 28) (i := 0) d_X5_takeName_28 rfl rfl ?_
    refine Tr.getf (pc := 29) d_X5_takeName_29 f_5_18 (by decide) (by decide) (ty_6 hS.1.1) ?_
    refine Tr.tp 2 ((St.kp hS (by decide) (by decide) (by decide)).trans en_6_2) ?_
    refine Tr.getf (pc := 32) d_X5_takeName_32 f_5_68 (by decide) (by decide) (ty_2 hS.1.1) ?_
    refine Tr.tp 5 (fx_2_2 hS.1.1) ?_
    refine Tr.aload_n (pc := 35) (i := 0) d_X5_takeName_35 rfl rfl ?_
    refine Tr.getf (pc := 36) d_X5_takeName_36 f_5_36 (by decide) (by decide) (ty_6 hS.1.1) ?_
    refine Tr.tp r8 er8 ?_
    refine Tr.iald (pc := 39) d_X5_takeName_39 (ty_5 hS.1.1) (by omega) (by omega) ?_
    refine Tr.gen (P := fun v => (-2147483648) ≤ v ∧ v ≤ 2147483647) (ar_5 hS.1.2.1 _) (fun r39 er39 br39 => ?_)
    refine Tr.callV (pc := 40) (as := [_]) d_X5_takeName_40 s_5_91 ok_X3_find rfl rfl (Nat.le_of_ble_eq_true rfl) (Nat.le_of_ble_eq_true rfl) (by decide) (ty_27 hS.1.1) ?_
    refine Tr.imp (Tr.deep (by decide) (sp_X3_find_27 hS.1 r39 (by omega))) ?_
    rintro M40 _ ⟨h40, r40, rfl, lr40, ur40⟩
    have hS := St.tr hS h40 (by decide) (by decide)
    refine Tr.sc [(0, r40)] rfl ?_
    refine Tr.istore_n (pc := 43) (i := 2) (ls2 := [(2, (0, r40)), (0, (2, 6)), (1, (0, 2))]) d_X5_takeName_43 rfl (by decide) rfl ?_
    refine Tr.iload_n (pc := 44) (i := 2) d_X5_takeName_44 rfl rfl ?_
    have J61 : ∀ (M : Mem) (q61_0 : Int), St Tru ws_X5_takeName_6_v2 as_X5_takeName_6_v2 M0 M → ((-1) ≤ q61_0 ∧ q61_0 ≤ 5) → rd M 3 r8 = r11 → rd M 5 r8 = r39 → rd M 6 5 = r8 → Tr l K 1 mX5_takeName 61 [(0, (2, 6))] [(0, q61_0)] M (q_X5_takeName_6_v2 M0) := by
      intro M q61_0 hS bq61_0 k61_3_r810 k61_5_r810 k61_6_5
      refine Tr.istore_n (pc := 61) (i := 3) (ls2 := [(3, (0, q61_0)), (0, (2, 6))]) d_X5_takeName_61 rfl (by decide) rfl ?_
      refine Tr.iload_n (pc := 62) (i := 3) d_X5_takeName_62 rfl rfl ?_
      refine Tr.if_ge (pc := 63) (tgt := 74) d_X5_takeName_63 rfl (fun c63 => ?_) (fun c63 => ?_)
      · refine Tr.aload_n (pc := 74) (i := 0) d_X5_takeName_74 rfl rfl ?_
        refine Tr.callV (pc := 75) (as := []) d_X5_takeName_75 s_5_74 ok_X5_goOn rfl rfl (Nat.le_of_ble_eq_true rfl) (Nat.le_of_ble_eq_true rfl) (by decide) (ty_6 hS.1.1) ?_
        refine Tr.imp (Tr.deep (by decide) (sp_X5_goOn_6 hS.1 )) ?_
        rintro M75 _ ⟨h75, r75, rfl, lr75, ur75⟩
        have hS := St.tr hS h75 (by decide) (by decide)
        refine Tr.sc [(0, r75)] rfl ?_
        refine Tr.pop (pc := 78) d_X5_takeName_78 ne01 ?_
        refine Tr.iload_n (pc := 79) (i := 3) d_X5_takeName_79 rfl rfl ?_
        exact Tr.iret (pc := 80) d_X5_takeName_80 rfl ⟨hS, _, rfl, by omega, by omega⟩
      · refine Tr.aload_n (pc := 66) (i := 0) d_X5_takeName_66 rfl rfl ?_
        refine Tr.iconst (pc := 67) d_X5_takeName_67 (by decide) ?_
        refine Tr.callV (pc := 68) (as := [_]) d_X5_takeName_68 s_5_56 ok_X5_refuse rfl rfl (Nat.le_of_ble_eq_true rfl) (Nat.le_of_ble_eq_true rfl) (by decide) (ty_6 hS.1.1) ?_
        refine Tr.imp (Tr.deep (by decide) (sp_X5_refuse_6_w3 hS.1 ((St.kp hS (by decide) (by decide) (by decide)).trans en_6_2) 3 (by omega))) ?_
        rintro M68 _ ⟨h68, r68, rfl, lr68, ur68⟩
        have hS := St.tr hS h68 (by decide) (by decide)
        refine Tr.sc [(0, r68)] rfl ?_
        refine Tr.pop (pc := 71) d_X5_takeName_71 ne01 ?_
        refine Tr.iconst (pc := 72) d_X5_takeName_72 (by decide) ?_
        exact Tr.iret (pc := 73) d_X5_takeName_73 rfl ⟨hS, _, rfl, by omega, by omega⟩
    refine Tr.if_ge (pc := 45) (tgt := 52) d_X5_takeName_45 rfl (fun c45 => ?_) (fun c45 => ?_)
    · refine Tr.aload_n (pc := 52) (i := 0) d_X5_takeName_52 rfl rfl ?_
      refine Tr.getf (pc := 53) d_X5_takeName_53 f_5_22 (by decide) (by decide) (ty_6 hS.1.1) ?_
      refine Tr.tp 27 ((St.kp hS (by decide) (by decide) (by decide)).trans en_6_3) ?_
      refine Tr.iload_n (pc := 56) (i := 1) d_X5_takeName_56 rfl rfl ?_
      refine Tr.iload_n (pc := 57) (i := 2) d_X5_takeName_57 rfl rfl ?_
      refine Tr.callV (pc := 58) (as := [_, _]) d_X5_takeName_58 s_5_94 ok_X3_which rfl rfl (Nat.le_of_ble_eq_true rfl) (Nat.le_of_ble_eq_true rfl) (by decide) (ty_27 hS.1.1) ?_
      refine Tr.imp (Tr.deep (by decide) (sp_X3_which_27_v2 hS.1 hE r40 (by omega))) ?_
      rintro M58 _ ⟨h58, r58, rfl, lr58, ur58, z58_0⟩
      have hS := St.tr hS h58 (by decide) (by decide)
      obtain ⟨w58_28_2, ew58_28_2⟩ : ∃ v, rd M58 28 2 = v := ⟨_, rfl⟩
      have bw58_28_2 : 0 ≤ w58_28_2 ∧ w58_28_2 ≤ 6 := by rw [← ew58_28_2]; exact ir_28_2 hS.1.2.1
      have ka58_28_2 : rd M58 28 2 = w58_28_2 := ew58_28_2
      refine Tr.sc [(0, r58)] rfl ?_
      refine Tr.pick [1] (ls2 := [(0, (2, 6))]) rfl ?_
      exact J61 _ _ hS (by omega) ((St.ka h58 (by decide) (by decide) (by decide)).trans ((St.ka h40 (by decide) (by decide) (by decide)).trans er11)) ((St.ka h58 (by decide) (by decide) (by decide)).trans ((St.ka h40 (by decide) (by decide) (by decide)).trans er39)) ((St.kp h58 (by decide) (by decide) (by decide)).trans ((St.kp h40 (by decide) (by decide) (by decide)).trans er8))
    · refine Tr.iconst (pc := 48) d_X5_takeName_48 (by decide) ?_
      refine Tr.goto (pc := 49) (tgt := 61) d_X5_takeName_49 rfl ?_
      refine Tr.pick [1] (ls2 := [(0, (2, 6))]) rfl ?_
      exact J61 _ _ hS (by omega) ((St.ka h40 (by decide) (by decide) (by decide)).trans er11) ((St.ka h40 (by decide) (by decide) (by decide)).trans er39) ((St.kp h40 (by decide) (by decide) (by decide)).trans er8)
  · refine Tr.aload_n (pc := 16) (i := 0) d_X5_takeName_16 rfl rfl ?_
    refine Tr.iconst (pc := 17) d_X5_takeName_17 (by decide) ?_
    refine Tr.callV (pc := 18) (as := [_]) d_X5_takeName_18 s_5_56 ok_X5_refuse rfl rfl (Nat.le_of_ble_eq_true rfl) (Nat.le_of_ble_eq_true rfl) (by decide) (ty_6 hS.1.1) ?_
    refine Tr.imp (Tr.deep (by decide) (sp_X5_refuse_6_w1 hS.1 ((St.kp hS (by decide) (by decide) (by decide)).trans en_6_2) 1 (by omega))) ?_
    rintro M18 _ ⟨h18, r18, rfl, lr18, ur18⟩
    have hS := St.tr hS h18 (by decide) (by decide)
    refine Tr.sc [(0, r18)] rfl ?_
    refine Tr.pop (pc := 21) d_X5_takeName_21 ne01 ?_
    refine Tr.iconst (pc := 22) d_X5_takeName_22 (by decide) ?_
    exact Tr.iret (pc := 23) d_X5_takeName_23 rfl ⟨hS, _, rfl, by omega, by omega⟩

def ws_X5_namedPiece_6 : List (Int × Int) := [(6, 0), (6, 1), (6, 5), (35, 11)]
def as_X5_namedPiece_6 : List Int := [44, 45]
def q_X5_namedPiece_6 (M0 M' : Mem) (r : Option PV) : Prop := St Tru ws_X5_namedPiece_6 as_X5_namedPiece_6 M0 M' ∧ ∃ v : Int, r = some (0, v) ∧ 0 ≤ v ∧ v ≤ 1
set_option maxRecDepth 100000 in
set_option maxHeartbeats 4000000 in
theorem sp_X5_namedPiece_6 {l : Launch} {K : EC} {M0 : Mem} {xq : Int} (hI : In Tru M0) (hE : e_all K xq) (en_6_2 : rd M0 6 2 = 2) (en_6_3 : rd M0 6 3 = 27) (en_6_4 : rd M0 6 4 = 35)   : Tr l K 2 mX5_namedPiece 0 [(0, (2, 6))] [] M0 (q_X5_namedPiece_6 M0) := by
  have hS : St Tru ws_X5_namedPiece_6 as_X5_namedPiece_6 M0 M0 := St.rf hI
  refine Tr.aload_n (pc := 0) (i := 0) d_X5_namedPiece_0 rfl rfl ?_
  refine Tr.getf (pc := 1) d_X5_namedPiece_1 f_5_22 (by decide) (by decide) (ty_6 hS.1.1) ?_
  refine Tr.tp 27 ((St.kp hS (by decide) (by decide) (by decide)).trans en_6_3) ?_
  refine Tr.aload_n (pc := 4) (i := 0) d_X5_namedPiece_4 rfl rfl ?_
  refine Tr.getf (pc := 5) d_X5_namedPiece_5 f_5_18 (by decide) (by decide) (ty_6 hS.1.1) ?_
  refine Tr.tp 2 ((St.kp hS (by decide) (by decide) (by decide)).trans en_6_2) ?_
  refine Tr.getf (pc := 8) d_X5_namedPiece_8 f_5_68 (by decide) (by decide) (ty_2 hS.1.1) ?_
  refine Tr.tp 5 (fx_2_2 hS.1.1) ?_
  refine Tr.aload_n (pc := 11) (i := 0) d_X5_namedPiece_11 rfl rfl ?_
  refine Tr.getf (pc := 12) d_X5_namedPiece_12 f_5_36 (by decide) (by decide) (ty_6 hS.1.1) ?_
  refine Tr.gen (P := fun v => 0 ≤ v ∧ v ≤ 900) (ir_6_5 hS.1.2.1) (fun r12 er12 br12 => ?_)
  refine Tr.iald (pc := 15) d_X5_namedPiece_15 (ty_5 hS.1.1) (by omega) (by omega) ?_
  refine Tr.gen (P := fun v => (-2147483648) ≤ v ∧ v ≤ 2147483647) (ar_5 hS.1.2.1 _) (fun r15 er15 br15 => ?_)
  refine Tr.callV (pc := 16) (as := [_]) d_X5_namedPiece_16 s_5_91 ok_X3_find rfl rfl (Nat.le_of_ble_eq_true rfl) (Nat.le_of_ble_eq_true rfl) (by decide) (ty_27 hS.1.1) ?_
  refine Tr.imp (Tr.deep (by decide) (sp_X3_find_27 hS.1 r15 (by omega))) ?_
  rintro M16 _ ⟨h16, r16, rfl, lr16, ur16⟩
  have hS := St.tr hS h16 (by decide) (by decide)
  refine Tr.sc [(0, r16)] rfl ?_
  refine Tr.istore_n (pc := 19) (i := 1) (ls2 := [(1, (0, r16)), (0, (2, 6))]) d_X5_namedPiece_19 rfl (by decide) rfl ?_
  refine Tr.iload_n (pc := 20) (i := 1) d_X5_namedPiece_20 rfl rfl ?_
  have J58 : ∀ (M : Mem), St Tru ws_X5_namedPiece_6 as_X5_namedPiece_6 M0 M → rd M 5 r12 = r15 → rd M 6 5 = r12 → Tr l K 2 mX5_namedPiece 58 [(0, (2, 6))] [] M (q_X5_namedPiece_6 M0) := by
    intro M  hS  k58_5_r1210 k58_6_5
    refine Tr.aload_n (pc := 58) (i := 0) d_X5_namedPiece_58 rfl rfl ?_
    refine Tr.iconst (pc := 59) d_X5_namedPiece_59 (by decide) ?_
    refine Tr.callV (pc := 60) (as := [_]) d_X5_namedPiece_60 s_5_186 ok_X5_takeName rfl rfl (Nat.le_of_ble_eq_true rfl) (Nat.le_of_ble_eq_true rfl) (by decide) (ty_6 hS.1.1) ?_
    refine Tr.imp (Tr.deep (by decide) (sp_X5_takeName_6_v2 hS.1 hE ((St.kp hS (by decide) (by decide) (by decide)).trans en_6_2) ((St.kp hS (by decide) (by decide) (by decide)).trans en_6_3))) ?_
    rintro M60 _ ⟨h60, r60, rfl, lr60, ur60⟩
    have hS := St.tr hS h60 (by decide) (by decide)
    refine Tr.sc [(0, r60)] rfl ?_
    refine Tr.istore_n (pc := 63) (i := 2) (ls2 := [(2, (0, r60)), (0, (2, 6))]) d_X5_namedPiece_63 rfl (by decide) rfl ?_
    refine Tr.aload_n (pc := 64) (i := 0) d_X5_namedPiece_64 rfl rfl ?_
    refine Tr.getf (pc := 65) d_X5_namedPiece_65 f_5_32 (by decide) (by decide) (ty_6 hS.1.1) ?_
    refine Tr.tp 35 ((St.kp hS (by decide) (by decide) (by decide)).trans en_6_4) ?_
    refine Tr.iconst (pc := 68) d_X5_namedPiece_68 (by decide) ?_
    refine Tr.iload_n (pc := 69) (i := 2) d_X5_namedPiece_69 rfl rfl ?_
    refine Tr.iconst (pc := 70) d_X5_namedPiece_70 (by decide) ?_
    refine Tr.mmax (pc := 71) d_X5_namedPiece_71 ml_5_192 mw_mmax (Nat.le_of_ble_eq_true rfl) ?_
    refine Tr.gen (P := fun v => (v = r60 ∧ 0 ≤ r60) ∨ (v = 0 ∧ r60 ≤ 0)) (f_max_p _ _) (fun r71 er71 br71 => ?_)
    refine Tr.callV (pc := 74) (as := [_, _]) d_X5_namedPiece_74 s_5_215 ok_X4_emit rfl rfl (Nat.le_of_ble_eq_true rfl) (Nat.le_of_ble_eq_true rfl) (by decide) (ty_35 hS.1.1) ?_
    refine Tr.imp (Tr.deep (by decide) (sp_X4_emit_35_w2 hS.1.wk 2 (by omega) r71 (by omega) (by omega))) ?_
    rintro M74 _ ⟨h74, rfl⟩
    have hS := St.tr hS h74 (by decide) (by decide)
    refine Tr.sc [] rfl ?_
    refine Tr.iload_n (pc := 77) (i := 2) d_X5_namedPiece_77 rfl rfl ?_
    refine Tr.if_lt (pc := 78) (tgt := 85) d_X5_namedPiece_78 rfl (fun c78 => ?_) (fun c78 => ?_)
    · refine Tr.iconst (pc := 85) d_X5_namedPiece_85 (by decide) ?_
      exact Tr.zret (pc := 86) d_X5_namedPiece_86 rfl (by omega) ⟨hS, _, rfl, by omega, by omega⟩
    · refine Tr.iconst (pc := 81) d_X5_namedPiece_81 (by decide) ?_
      refine Tr.goto (pc := 82) (tgt := 86) d_X5_namedPiece_82 rfl ?_
      exact Tr.zret (pc := 86) d_X5_namedPiece_86 rfl (by omega) ⟨hS, _, rfl, by omega, by omega⟩
  refine Tr.if_lt (pc := 21) (tgt := 58) d_X5_namedPiece_21 rfl (fun c21 => ?_) (fun c21 => ?_)
  · refine Tr.pick [1] (ls2 := [(0, (2, 6))]) rfl ?_
    exact J58 _ hS ((St.ka h16 (by decide) (by decide) (by decide)).trans er15) ((St.kp h16 (by decide) (by decide) (by decide)).trans er12)
  · refine Tr.aload_n (pc := 24) (i := 0) d_X5_namedPiece_24 rfl rfl ?_
    refine Tr.getf (pc := 25) d_X5_namedPiece_25 f_5_22 (by decide) (by decide) (ty_6 hS.1.1) ?_
    refine Tr.tp 27 ((St.kp hS (by decide) (by decide) (by decide)).trans en_6_3) ?_
    refine Tr.iconst (pc := 28) d_X5_namedPiece_28 (by decide) ?_
    refine Tr.iload_n (pc := 29) (i := 1) d_X5_namedPiece_29 rfl rfl ?_
    refine Tr.callV (pc := 30) (as := [_, _]) d_X5_namedPiece_30 s_5_94 ok_X3_which rfl rfl (Nat.le_of_ble_eq_true rfl) (Nat.le_of_ble_eq_true rfl) (by decide) (ty_27 hS.1.1) ?_
    refine Tr.imp (Tr.deep (by decide) (sp_X3_which_27_v1 hS.1 hE r16 (by omega))) ?_
    rintro M30 _ ⟨h30, r30, rfl, lr30, ur30, z30_0⟩
    have hS := St.tr hS h30 (by decide) (by decide)
    obtain ⟨w30_28_1, ew30_28_1⟩ : ∃ v, rd M30 28 1 = v := ⟨_, rfl⟩
    have bw30_28_1 : 0 ≤ w30_28_1 ∧ w30_28_1 ≤ 3 := by rw [← ew30_28_1]; exact ir_28_1 hS.1.2.1
    have ka30_28_1 : rd M30 28 1 = w30_28_1 := ew30_28_1
    refine Tr.sc [(0, r30)] rfl ?_
    refine Tr.if_lt (pc := 33) (tgt := 58) d_X5_namedPiece_33 rfl (fun c33 => ?_) (fun c33 => ?_)
    · refine Tr.pick [1] (ls2 := [(0, (2, 6))]) rfl ?_
      exact J58 _ hS ((St.ka h30 (by decide) (by decide) (by decide)).trans ((St.ka h16 (by decide) (by decide) (by decide)).trans er15)) ((St.kp h30 (by decide) (by decide) (by decide)).trans ((St.kp h16 (by decide) (by decide) (by decide)).trans er12))
    · refine Tr.aload_n (pc := 36) (i := 0) d_X5_namedPiece_36 rfl rfl ?_
      refine Tr.getf (pc := 37) d_X5_namedPiece_37 f_5_32 (by decide) (by decide) (ty_6 hS.1.1) ?_
      refine Tr.tp 35 ((St.kp hS (by decide) (by decide) (by decide)).trans en_6_4) ?_
      refine Tr.iconst (pc := 40) d_X5_namedPiece_40 (by decide) ?_
      refine Tr.aload_n (pc := 41) (i := 0) d_X5_namedPiece_41 rfl rfl ?_
      refine Tr.getf (pc := 42) d_X5_namedPiece_42 f_5_22 (by decide) (by decide) (ty_6 hS.1.1) ?_
      refine Tr.tp 27 ((St.kp hS (by decide) (by decide) (by decide)).trans en_6_3) ?_
      refine Tr.iconst (pc := 45) d_X5_namedPiece_45 (by decide) ?_
      refine Tr.iload_n (pc := 46) (i := 1) d_X5_namedPiece_46 rfl rfl ?_
      refine Tr.callV (pc := 47) (as := [_, _]) d_X5_namedPiece_47 s_5_94 ok_X3_which rfl rfl (Nat.le_of_ble_eq_true rfl) (Nat.le_of_ble_eq_true rfl) (by decide) (ty_27 hS.1.1) ?_
      refine Tr.imp (Tr.deep (by decide) (sp_X3_which_27_v1 hS.1 hE r16 (by omega))) ?_
      rintro M47 _ ⟨h47, r47, rfl, lr47, ur47, z47_0⟩
      have hS := St.tr hS h47 (by decide) (by decide)
      have ka47_28_1 : rd M47 28 1 = w30_28_1 := ((St.kp h47 (by decide) (by decide) (by decide)).trans ew30_28_1)
      refine Tr.sc [(0, r47), (0, 1), (2, 35)] rfl ?_
      refine Tr.callV (pc := 50) (as := [_, _]) d_X5_namedPiece_50 s_5_215 ok_X4_emit rfl rfl (Nat.le_of_ble_eq_true rfl) (Nat.le_of_ble_eq_true rfl) (by decide) (ty_35 hS.1.1) ?_
      refine Tr.imp (Tr.deep (by decide) (sp_X4_emit_35_w1 hS.1.wk 1 (by omega) r47 (by omega) (by omega))) ?_
      rintro M50 _ ⟨h50, rfl⟩
      have hS := St.tr hS h50 (by decide) (by decide)
      refine Tr.sc [] rfl ?_
      refine Tr.aload_n (pc := 53) (i := 0) d_X5_namedPiece_53 rfl rfl ?_
      refine Tr.callV (pc := 54) (as := []) d_X5_namedPiece_54 s_5_74 ok_X5_goOn rfl rfl (Nat.le_of_ble_eq_true rfl) (Nat.le_of_ble_eq_true rfl) (by decide) (ty_6 hS.1.1) ?_
      refine Tr.imp (Tr.deep (by decide) (sp_X5_goOn_6 hS.1 )) ?_
      rintro M54 _ ⟨h54, r54, rfl, lr54, ur54⟩
      have hS := St.tr hS h54 (by decide) (by decide)
      refine Tr.sc [(0, r54)] rfl ?_
      exact Tr.zret (pc := 57) d_X5_namedPiece_57 rfl (by omega) ⟨hS, _, rfl, by omega, by omega⟩

def ws_X5_piece_6_w8 : List (Int × Int) := [(6, 0), (6, 1), (6, 5), (35, 11)]
def as_X5_piece_6_w8 : List Int := [44, 45]
def q_X5_piece_6_w8 (M0 M' : Mem) (r : Option PV) : Prop := St Tru ws_X5_piece_6_w8 as_X5_piece_6_w8 M0 M' ∧ ∃ v : Int, r = some (0, v) ∧ 0 ≤ v ∧ v ≤ 1
set_option maxRecDepth 100000 in
set_option maxHeartbeats 4000000 in
theorem sp_X5_piece_6_w8 {l : Launch} {K : EC} {M0 : Mem} {xq : Int} (hI : In Tru M0) (hE : e_all K xq) (en_6_2 : rd M0 6 2 = 2) (en_6_3 : rd M0 6 3 = 27) (en_6_4 : rd M0 6 4 = 35) (en_6_6 : rd M0 6 6 = 8)   : Tr l K 3 mX5_piece 0 [(0, (2, 6))] [] M0 (q_X5_piece_6_w8 M0) := by
  have hS : St Tru ws_X5_piece_6_w8 as_X5_piece_6_w8 M0 M0 := St.rf hI
  refine Tr.aload_n (pc := 0) (i := 0) d_X5_piece_0 rfl rfl ?_
  refine Tr.getf (pc := 1) d_X5_piece_1 f_5_18 (by decide) (by decide) (ty_6 hS.1.1) ?_
  refine Tr.tp 2 ((St.kp hS (by decide) (by decide) (by decide)).trans en_6_2) ?_
  refine Tr.getf (pc := 4) d_X5_piece_4 f_5_50 (by decide) (by decide) (ty_2 hS.1.1) ?_
  refine Tr.tp 3 (fx_2_0 hS.1.1) ?_
  refine Tr.aload_n (pc := 7) (i := 0) d_X5_piece_7 rfl rfl ?_
  refine Tr.getf (pc := 8) d_X5_piece_8 f_5_36 (by decide) (by decide) (ty_6 hS.1.1) ?_
  refine Tr.gen (P := fun v => 0 ≤ v ∧ v ≤ 900) (ir_6_5 hS.1.2.1) (fun r8 er8 br8 => ?_)
  refine Tr.iald (pc := 11) d_X5_piece_11 (ty_3 hS.1.1) (by omega) (by omega) ?_
  refine Tr.gen (P := fun v => (-2147483648) ≤ v ∧ v ≤ 2147483647) (ar_3 hS.1.2.1 _) (fun r11 er11 br11 => ?_)
  refine Tr.iconst (pc := 12) d_X5_piece_12 (by decide) ?_
  refine Tr.icmp_ne (pc := 13) (tgt := 44) d_X5_piece_13 rfl (fun c13 => ?_) (fun c13 => ?_)
  · refine Tr.aload_n (pc := 44) (i := 0) d_X5_piece_44 rfl rfl ?_
    refine Tr.getf (pc := 45) d_X5_piece_45 f_5_18 (by decide) (by decide) (ty_6 hS.1.1) ?_
    refine Tr.tp 2 ((St.kp hS (by decide) (by decide) (by decide)).trans en_6_2) ?_
    refine Tr.getf (pc := 48) d_X5_piece_48 f_5_50 (by decide) (by decide) (ty_2 hS.1.1) ?_
    refine Tr.tp 3 (fx_2_0 hS.1.1) ?_
    refine Tr.aload_n (pc := 51) (i := 0) d_X5_piece_51 rfl rfl ?_
    refine Tr.getf (pc := 52) d_X5_piece_52 f_5_36 (by decide) (by decide) (ty_6 hS.1.1) ?_
    refine Tr.tp r8 er8 ?_
    refine Tr.iald (pc := 55) d_X5_piece_55 (ty_3 hS.1.1) (by omega) (by omega) ?_
    refine Tr.tp r11 er11 ?_
    refine Tr.iconst (pc := 56) d_X5_piece_56 (by decide) ?_
    refine Tr.icmp_ne (pc := 57) (tgt := 65) d_X5_piece_57 rfl (fun c57 => ?_) (fun c57 => ?_)
    · refine Tr.aload_n (pc := 65) (i := 0) d_X5_piece_65 rfl rfl ?_
      refine Tr.bipush (pc := 66) d_X5_piece_66 rfl (by decide) ?_
      refine Tr.callV (pc := 68) (as := [_]) d_X5_piece_68 s_5_77 ok_X5_isSign rfl rfl (Nat.le_of_ble_eq_true rfl) (Nat.le_of_ble_eq_true rfl) (by decide) (ty_6 hS.1.1) ?_
      refine Tr.imp (Tr.deep (by decide) (sp_X5_isSign_6_w2 hS.1 ((St.kp hS (by decide) (by decide) (by decide)).trans en_6_2) 40 (by omega))) ?_
      rintro M68 _ ⟨h68, r68, rfl, lr68, ur68⟩
      have hS := St.tr hS h68 (by decide) (by decide)
      refine Tr.sc [(0, r68)] rfl ?_
      refine Tr.if_eq (pc := 71) (tgt := 105) d_X5_piece_71 rfl (fun c71 => ?_) (fun c71 => ?_)
      · refine Tr.aload_n (pc := 105) (i := 0) d_X5_piece_105 rfl rfl ?_
        refine Tr.bipush (pc := 106) d_X5_piece_106 rfl (by decide) ?_
        refine Tr.callV (pc := 108) (as := [_]) d_X5_piece_108 s_5_71 ok_X5_isOwn rfl rfl (Nat.le_of_ble_eq_true rfl) (Nat.le_of_ble_eq_true rfl) (by decide) (ty_6 hS.1.1) ?_
        refine Tr.imp (Tr.deep (by decide) (sp_X5_isOwn_6_w4 hS.1 ((St.kp hS (by decide) (by decide) (by decide)).trans en_6_2) 24 (by omega))) ?_
        rintro M108 _ ⟨h108, r108, rfl, lr108, ur108⟩
        have hS := St.tr hS h108 (by decide) (by decide)
        refine Tr.sc [(0, r108)] rfl ?_
        refine Tr.if_eq (pc := 111) (tgt := 128) d_X5_piece_111 rfl (fun c111 => ?_) (fun c111 => ?_)
        · refine Tr.aload_n (pc := 128) (i := 0) d_X5_piece_128 rfl rfl ?_
          refine Tr.bipush (pc := 129) d_X5_piece_129 rfl (by decide) ?_
          refine Tr.callV (pc := 131) (as := [_]) d_X5_piece_131 s_5_71 ok_X5_isOwn rfl rfl (Nat.le_of_ble_eq_true rfl) (Nat.le_of_ble_eq_true rfl) (by decide) (ty_6 hS.1.1) ?_
          refine Tr.imp (Tr.deep (by decide) (sp_X5_isOwn_6_w4 hS.1 ((St.kp hS (by decide) (by decide) (by decide)).trans en_6_2) 25 (by omega))) ?_
          rintro M131 _ ⟨h131, r131, rfl, lr131, ur131⟩
          have hS := St.tr hS h131 (by decide) (by decide)
          refine Tr.sc [(0, r131)] rfl ?_
          have J146 : ∀ (M : Mem), St Tru ws_X5_piece_6_w8 as_X5_piece_6_w8 M0 M → rd M 3 r8 = r11 → rd M 6 5 = r8 → rd M 6 6 = 8 → Tr l K 3 mX5_piece 146 [(0, (2, 6))] [] M (q_X5_piece_6_w8 M0) := by
            intro M  hS  k146_3_r810 k146_6_5 k146_6_6
            refine Tr.aload_n (pc := 146) (i := 0) d_X5_piece_146 rfl rfl ?_
            refine Tr.aload_n (pc := 147) (i := 0) d_X5_piece_147 rfl rfl ?_
            refine Tr.bipush (pc := 148) d_X5_piece_148 rfl (by decide) ?_
            refine Tr.callV (pc := 150) (as := [_]) d_X5_piece_150 s_5_71 ok_X5_isOwn rfl rfl (Nat.le_of_ble_eq_true rfl) (Nat.le_of_ble_eq_true rfl) (by decide) (ty_6 hS.1.1) ?_
            refine Tr.imp (Tr.deep (by decide) (sp_X5_isOwn_6_w4 hS.1 ((St.kp hS (by decide) (by decide) (by decide)).trans en_6_2) 25 (by omega))) ?_
            rintro M150 _ ⟨h150, r150, rfl, lr150, ur150⟩
            have hS := St.tr hS h150 (by decide) (by decide)
            refine Tr.sc [(0, r150), (2, 6)] rfl ?_
            have J163 : ∀ (M : Mem) (q163_1 : Int), St Tru ws_X5_piece_6_w8 as_X5_piece_6_w8 M0 M → (11 ≤ q163_1 ∧ q163_1 ≤ 12) → rd M 3 r8 = r11 → rd M 6 5 = r8 → rd M 6 6 = 8 → Tr l K 3 mX5_piece 163 [] [(0, q163_1), (2, 6)] M (q_X5_piece_6_w8 M0) := by
              intro M q163_1 hS bq163_1 k163_3_r810 k163_6_5 k163_6_6
              refine Tr.callV (pc := 163) (as := [_]) d_X5_piece_163 s_5_233 ok_X5_choice rfl rfl (Nat.le_of_ble_eq_true rfl) (Nat.le_of_ble_eq_true rfl) (by decide) (ty_6 hS.1.1) ?_
              refine Tr.imp (Tr.deep (by decide) (sp_X5_choice_6 hS.1 ((St.kp hS (by decide) (by decide) (by decide)).trans en_6_2) ((St.kp hS (by decide) (by decide) (by decide)).trans en_6_4) k163_6_6 q163_1 (by omega))) ?_
              rintro M163 _ ⟨h163, r163, rfl, lr163, ur163⟩
              have hS := St.tr hS h163 (by decide) (by decide)
              refine Tr.sc [(0, r163)] rfl ?_
              exact Tr.zret (pc := 166) d_X5_piece_166 rfl (by omega) ⟨hS, _, rfl, by omega, by omega⟩
            refine Tr.if_eq (pc := 153) (tgt := 161) d_X5_piece_153 rfl (fun c153 => ?_) (fun c153 => ?_)
            · refine Tr.bipush (pc := 161) d_X5_piece_161 rfl (by decide) ?_
              refine Tr.pick [] (ls2 := []) rfl ?_
              exact J163 _ _ hS (by omega) ((St.ka h150 (by decide) (by decide) (by decide)).trans k146_3_r810) ((St.kp h150 (by decide) (by decide) (by decide)).trans k146_6_5) ((St.kp h150 (by decide) (by decide) (by decide)).trans k146_6_6)
            · refine Tr.bipush (pc := 156) d_X5_piece_156 rfl (by decide) ?_
              refine Tr.goto (pc := 158) (tgt := 163) d_X5_piece_158 rfl ?_
              refine Tr.pick [] (ls2 := []) rfl ?_
              exact J163 _ _ hS (by omega) ((St.ka h150 (by decide) (by decide) (by decide)).trans k146_3_r810) ((St.kp h150 (by decide) (by decide) (by decide)).trans k146_6_5) ((St.kp h150 (by decide) (by decide) (by decide)).trans k146_6_6)
          refine Tr.if_ne (pc := 134) (tgt := 146) d_X5_piece_134 rfl (fun c134 => ?_) (fun c134 => ?_)
          · refine Tr.pick [0] (ls2 := [(0, (2, 6))]) rfl ?_
            exact J146 _ hS ((St.ka h131 (by decide) (by decide) (by decide)).trans ((St.ka h108 (by decide) (by decide) (by decide)).trans ((St.ka h68 (by decide) (by decide) (by decide)).trans er11))) ((St.kp h131 (by decide) (by decide) (by decide)).trans ((St.kp h108 (by decide) (by decide) (by decide)).trans ((St.kp h68 (by decide) (by decide) (by decide)).trans er8))) ((St.kp h131 (by decide) (by decide) (by decide)).trans ((St.kp h108 (by decide) (by decide) (by decide)).trans ((St.kp h68 (by decide) (by decide) (by decide)).trans en_6_6)))
          · refine Tr.aload_n (pc := 137) (i := 0) d_X5_piece_137 rfl rfl ?_
            refine Tr.bipush (pc := 138) d_X5_piece_138 rfl (by decide) ?_
            refine Tr.callV (pc := 140) (as := [_]) d_X5_piece_140 s_5_71 ok_X5_isOwn rfl rfl (Nat.le_of_ble_eq_true rfl) (Nat.le_of_ble_eq_true rfl) (by decide) (ty_6 hS.1.1) ?_
            refine Tr.imp (Tr.deep (by decide) (sp_X5_isOwn_6_w4 hS.1 ((St.kp hS (by decide) (by decide) (by decide)).trans en_6_2) 26 (by omega))) ?_
            rintro M140 _ ⟨h140, r140, rfl, lr140, ur140⟩
            have hS := St.tr hS h140 (by decide) (by decide)
            refine Tr.sc [(0, r140)] rfl ?_
            refine Tr.if_eq (pc := 143) (tgt := 167) d_X5_piece_143 rfl (fun c143 => ?_) (fun c143 => ?_)
            · refine Tr.aload_n (pc := 167) (i := 0) d_X5_piece_167 rfl rfl ?_
              refine Tr.iconst (pc := 168) d_X5_piece_168 (by decide) ?_
              refine Tr.callV (pc := 169) (as := [_]) d_X5_piece_169 s_5_56 ok_X5_refuse rfl rfl (Nat.le_of_ble_eq_true rfl) (Nat.le_of_ble_eq_true rfl) (by decide) (ty_6 hS.1.1) ?_
              refine Tr.imp (Tr.deep (by decide) (sp_X5_refuse_6_w1 hS.1 ((St.kp hS (by decide) (by decide) (by decide)).trans en_6_2) 1 (by omega))) ?_
              rintro M169 _ ⟨h169, r169, rfl, lr169, ur169⟩
              have hS := St.tr hS h169 (by decide) (by decide)
              refine Tr.sc [(0, r169)] rfl ?_
              exact Tr.zret (pc := 172) d_X5_piece_172 rfl (by omega) ⟨hS, _, rfl, by omega, by omega⟩
            · refine Tr.pick [0] (ls2 := [(0, (2, 6))]) rfl ?_
              exact J146 _ hS ((St.ka h140 (by decide) (by decide) (by decide)).trans ((St.ka h131 (by decide) (by decide) (by decide)).trans ((St.ka h108 (by decide) (by decide) (by decide)).trans ((St.ka h68 (by decide) (by decide) (by decide)).trans er11)))) ((St.kp h140 (by decide) (by decide) (by decide)).trans ((St.kp h131 (by decide) (by decide) (by decide)).trans ((St.kp h108 (by decide) (by decide) (by decide)).trans ((St.kp h68 (by decide) (by decide) (by decide)).trans er8)))) ((St.kp h140 (by decide) (by decide) (by decide)).trans ((St.kp h131 (by decide) (by decide) (by decide)).trans ((St.kp h108 (by decide) (by decide) (by decide)).trans ((St.kp h68 (by decide) (by decide) (by decide)).trans en_6_6))))
        · refine Tr.aload_n (pc := 114) (i := 0) d_X5_piece_114 rfl rfl ?_
          refine Tr.getf (pc := 115) d_X5_piece_115 f_5_32 (by decide) (by decide) (ty_6 hS.1.1) ?_
          refine Tr.tp 35 ((St.kp hS (by decide) (by decide) (by decide)).trans en_6_4) ?_
          refine Tr.iconst (pc := 118) d_X5_piece_118 (by decide) ?_
          refine Tr.iconst (pc := 119) d_X5_piece_119 (by decide) ?_
          refine Tr.callV (pc := 120) (as := [_, _]) d_X5_piece_120 s_5_215 ok_X4_emit rfl rfl (Nat.le_of_ble_eq_true rfl) (Nat.le_of_ble_eq_true rfl) (by decide) (ty_35 hS.1.1) ?_
          refine Tr.imp (Tr.deep (by decide) (sp_X4_emit_35 hS.1.wk 3 (by omega) 0 (by omega) (by omega))) ?_
          rintro M120 _ ⟨h120, rfl⟩
          have hS := St.tr hS h120 (by decide) (by decide)
          refine Tr.sc [] rfl ?_
          refine Tr.aload_n (pc := 123) (i := 0) d_X5_piece_123 rfl rfl ?_
          refine Tr.callV (pc := 124) (as := []) d_X5_piece_124 s_5_74 ok_X5_goOn rfl rfl (Nat.le_of_ble_eq_true rfl) (Nat.le_of_ble_eq_true rfl) (by decide) (ty_6 hS.1.1) ?_
          refine Tr.imp (Tr.deep (by decide) (sp_X5_goOn_6 hS.1 )) ?_
          rintro M124 _ ⟨h124, r124, rfl, lr124, ur124⟩
          have hS := St.tr hS h124 (by decide) (by decide)
          refine Tr.sc [(0, r124)] rfl ?_
          exact Tr.zret (pc := 127) d_X5_piece_127 rfl (by omega) ⟨hS, _, rfl, by omega, by omega⟩
      · refine Tr.aload_n (pc := 74) (i := 0) d_X5_piece_74 rfl rfl ?_
        refine Tr.bipush (pc := 75) d_X5_piece_75 rfl (by decide) ?_
        refine Tr.callV (pc := 77) (as := [_]) d_X5_piece_77 s_5_206 ok_X5_takeOpening rfl rfl (Nat.le_of_ble_eq_true rfl) (Nat.le_of_ble_eq_true rfl) (by decide) (ty_6 hS.1.1) ?_
        refine Tr.imp (Tr.deep (by decide) (sp_X5_takeOpening_6_w8 hS.1 ((St.kp hS (by decide) (by decide) (by decide)).trans en_6_2) ((St.kp h68 (by decide) (by decide) (by decide)).trans en_6_6) 40 (by omega))) ?_
        rintro M77 _ ⟨h77, r77, rfl, lr77, ur77⟩
        have hS := St.tr hS h77 (by decide) (by decide)
        refine Tr.sc [(0, r77)] rfl ?_
        refine Tr.if_eq (pc := 80) (tgt := 103) d_X5_piece_80 rfl (fun _ => ?_) (fun hc => absurd (by omega) hc)
        refine Tr.iconst (pc := 103) d_X5_piece_103 (by decide) ?_
        exact Tr.zret (pc := 104) d_X5_piece_104 rfl (by omega) ⟨hS, _, rfl, by omega, by omega⟩
    · refine Tr.aload_n (pc := 60) (i := 0) d_X5_piece_60 rfl rfl ?_
      refine Tr.callV (pc := 61) (as := []) d_X5_piece_61 s_5_230 ok_X5_namedPiece rfl rfl (Nat.le_of_ble_eq_true rfl) (Nat.le_of_ble_eq_true rfl) (by decide) (ty_6 hS.1.1) ?_
      refine Tr.imp (Tr.deep (by decide) (sp_X5_namedPiece_6 hS.1 hE ((St.kp hS (by decide) (by decide) (by decide)).trans en_6_2) ((St.kp hS (by decide) (by decide) (by decide)).trans en_6_3) ((St.kp hS (by decide) (by decide) (by decide)).trans en_6_4))) ?_
      rintro M61 _ ⟨h61, r61, rfl, lr61, ur61⟩
      have hS := St.tr hS h61 (by decide) (by decide)
      refine Tr.sc [(0, r61)] rfl ?_
      exact Tr.zret (pc := 64) d_X5_piece_64 rfl (by omega) ⟨hS, _, rfl, by omega, by omega⟩
  · refine Tr.aload_n (pc := 16) (i := 0) d_X5_piece_16 rfl rfl ?_
    refine Tr.iconst (pc := 17) d_X5_piece_17 (by decide) ?_
    refine Tr.sipush (pc := 18) d_X5_piece_18 rfl (by decide) ?_
    refine Tr.callV (pc := 21) (as := [_, _]) d_X5_piece_21 s_5_87 ok_X5_takeNumber rfl rfl (Nat.le_of_ble_eq_true rfl) (Nat.le_of_ble_eq_true rfl) (by decide) (ty_6 hS.1.1) ?_
    refine Tr.imp (Tr.deep (by decide) (sp_X5_takeNumber_6_w2 hS.1 ((St.kp hS (by decide) (by decide) (by decide)).trans en_6_2) 0 (by omega) 999 (by omega))) ?_
    rintro M21 _ ⟨h21, r21, rfl, lr21, ur21⟩
    have hS := St.tr hS h21 (by decide) (by decide)
    refine Tr.sc [(0, r21)] rfl ?_
    refine Tr.istore_n (pc := 24) (i := 1) (ls2 := [(1, (0, r21)), (0, (2, 6))]) d_X5_piece_24 rfl (by decide) rfl ?_
    refine Tr.aload_n (pc := 25) (i := 0) d_X5_piece_25 rfl rfl ?_
    refine Tr.getf (pc := 26) d_X5_piece_26 f_5_32 (by decide) (by decide) (ty_6 hS.1.1) ?_
    refine Tr.tp 35 ((St.kp hS (by decide) (by decide) (by decide)).trans en_6_4) ?_
    refine Tr.iconst (pc := 29) d_X5_piece_29 (by decide) ?_
    refine Tr.iload_n (pc := 30) (i := 1) d_X5_piece_30 rfl rfl ?_
    refine Tr.callV (pc := 31) (as := [_, _]) d_X5_piece_31 s_5_215 ok_X4_emit rfl rfl (Nat.le_of_ble_eq_true rfl) (Nat.le_of_ble_eq_true rfl) (by decide) (ty_35 hS.1.1) ?_
    refine Tr.imp (Tr.deep (by decide) (sp_X4_emit_35_w3 hS.1.wk 0 (by omega) r21 (by omega) (by omega))) ?_
    rintro M31 _ ⟨h31, rfl⟩
    have hS := St.tr hS h31 (by decide) (by decide)
    refine Tr.sc [] rfl ?_
    refine Tr.iload_n (pc := 34) (i := 1) d_X5_piece_34 rfl rfl ?_
    refine Tr.if_lt (pc := 35) (tgt := 42) d_X5_piece_35 rfl (fun c35 => ?_) (fun c35 => ?_)
    · refine Tr.iconst (pc := 42) d_X5_piece_42 (by decide) ?_
      exact Tr.zret (pc := 43) d_X5_piece_43 rfl (by omega) ⟨hS, _, rfl, by omega, by omega⟩
    · refine Tr.iconst (pc := 38) d_X5_piece_38 (by decide) ?_
      refine Tr.goto (pc := 39) (tgt := 43) d_X5_piece_39 rfl ?_
      exact Tr.zret (pc := 43) d_X5_piece_43 rfl (by omega) ⟨hS, _, rfl, by omega, by omega⟩
end
