def ws_X5_takeOpening_6_w17 : List (Int × Int) := [(6, 0), (6, 1)]
def as_X5_takeOpening_6_w17 : List Int := []
def q_X5_takeOpening_6_w17 (M0 M' : Mem) (r : Option PV) : Prop := St Tru ws_X5_takeOpening_6_w17 as_X5_takeOpening_6_w17 M0 M' ∧ ∃ v : Int, r = some (0, v) ∧ 0 ≤ v ∧ v ≤ 0
set_option maxRecDepth 100000 in
set_option maxHeartbeats 4000000 in
theorem sp_X5_takeOpening_6_w17 {l : Launch} {K : EC} {M0 : Mem} (hI : In Tru M0) (en_6_2 : rd M0 6 2 = 2) (en_6_6 : rd M0 6 6 = 8) (a1 : Int) (ha1 : 64 ≤ a1 ∧ a1 ≤ 99)  : Tr l K 1 mX5_takeOpening 0 [(0, (2, 6)), (1, (0, a1))] [] M0 (q_X5_takeOpening_6_w17 M0) := by
  have hS : St Tru ws_X5_takeOpening_6_w17 as_X5_takeOpening_6_w17 M0 M0 := St.rf hI
  refine Tr.aload_n (pc := 0) (i := 0) d_X5_takeOpening_0 rfl rfl ?_
  refine Tr.iload_n (pc := 1) (i := 1) d_X5_takeOpening_1 rfl rfl ?_
  refine Tr.callV (pc := 2) (as := [_]) d_X5_takeOpening_2 s_5_77 ok_X5_isSign rfl rfl (Nat.le_of_ble_eq_true rfl) (Nat.le_of_ble_eq_true rfl) (by decide) (ty_6 hS.1.1) ?_
  refine Tr.imp (Tr.deep (by decide) (sp_X5_isSign_6_w1 hS.1 ((St.kp hS (by decide) (by decide) (by decide)).trans en_6_2) a1 (by omega))) ?_
  rintro M2 _ ⟨h2, r2, rfl, lr2, ur2⟩
  have hS := St.tr hS h2 (by decide) (by decide)
  refine Tr.sc [(0, r2)] rfl ?_
  refine Tr.if_ne (pc := 5) (tgt := 14) d_X5_takeOpening_5 rfl (fun c5 => ?_) (fun c5 => ?_)
  · refine Tr.aload_n (pc := 14) (i := 0) d_X5_takeOpening_14 rfl rfl ?_
    refine Tr.getf (pc := 15) d_X5_takeOpening_15 f_5_39 (by decide) (by decide) (ty_6 hS.1.1) ?_
    refine Tr.tp 8 ((St.kp h2 (by decide) (by decide) (by decide)).trans en_6_6) ?_
    refine Tr.bipush (pc := 18) d_X5_takeOpening_18 rfl (by decide) ?_
    refine Tr.icmp_ne (pc := 20) (tgt := 29) d_X5_takeOpening_20 rfl (fun hc => absurd (by omega) hc) (fun _ => ?_)
    refine Tr.aload_n (pc := 23) (i := 0) d_X5_takeOpening_23 rfl rfl ?_
    refine Tr.iconst (pc := 24) d_X5_takeOpening_24 (by decide) ?_
    refine Tr.callV (pc := 25) (as := [_]) d_X5_takeOpening_25 s_5_56 ok_X5_refuse rfl rfl (Nat.le_of_ble_eq_true rfl) (Nat.le_of_ble_eq_true rfl) (by decide) (ty_6 hS.1.1) ?_
    refine Tr.imp (Tr.deep (by decide) (sp_X5_refuse_6_w2 hS.1 ((St.kp hS (by decide) (by decide) (by decide)).trans en_6_2) 5 (by omega))) ?_
    rintro M25 _ ⟨h25, r25, rfl, lr25, ur25⟩
    have hS := St.tr hS h25 (by decide) (by decide)
    refine Tr.sc [(0, r25)] rfl ?_
    exact Tr.zret (pc := 28) d_X5_takeOpening_28 rfl (by omega) ⟨hS, _, rfl, by omega, by omega⟩
  · refine Tr.aload_n (pc := 8) (i := 0) d_X5_takeOpening_8 rfl rfl ?_
    refine Tr.iconst (pc := 9) d_X5_takeOpening_9 (by decide) ?_
    refine Tr.callV (pc := 10) (as := [_]) d_X5_takeOpening_10 s_5_56 ok_X5_refuse rfl rfl (Nat.le_of_ble_eq_true rfl) (Nat.le_of_ble_eq_true rfl) (by decide) (ty_6 hS.1.1) ?_
    refine Tr.imp (Tr.deep (by decide) (sp_X5_refuse_6_w1 hS.1 ((St.kp hS (by decide) (by decide) (by decide)).trans en_6_2) 1 (by omega))) ?_
    rintro M10 _ ⟨h10, r10, rfl, lr10, ur10⟩
    have hS := St.tr hS h10 (by decide) (by decide)
    refine Tr.sc [(0, r10)] rfl ?_
    exact Tr.zret (pc := 13) d_X5_takeOpening_13 rfl (by omega) ⟨hS, _, rfl, by omega, by omega⟩

def ws_X4_emit_35_w8 : List (Int × Int) := [(35, 11)]
def as_X4_emit_35_w8 : List Int := [44, 45]
def q_X4_emit_35_w8 (M0 M' : Mem) (r : Option PV) : Prop := St Tru ws_X4_emit_35_w8 as_X4_emit_35_w8 M0 M' ∧ r = none
set_option maxRecDepth 100000 in
set_option maxHeartbeats 4000000 in
theorem sp_X4_emit_35_w8 {l : Launch} {K : EC} {M0 : Mem} (hI : In Tru M0)  (a1 : Int) (ha1 : 0 ≤ a1 ∧ a1 ≤ 15) (a2 : Int) (ha2 : 0 ≤ a2 ∧ a2 ≤ 0) (hp0 : (a1 = 1 → 0 ≤ a2 ∧ a2 ≤ 2) ∧ (a1 = 2 ∨ a1 = 4 → 0 ≤ a2 ∧ a2 ≤ 5)) : Tr l K 0 mX4_emit 0 [(0, (2, 35)), (1, (0, a1)), (2, (0, a2))] [] M0 (q_X4_emit_35_w8 M0) := by
  have hS : St Tru ws_X4_emit_35_w8 as_X4_emit_35_w8 M0 M0 := St.rf hI
  refine Tr.aload_n (pc := 0) (i := 0) d_X4_emit_0 rfl rfl ?_
  refine Tr.getf (pc := 1) d_X4_emit_1 f_4_49 (by decide) (by decide) (ty_35 hS.1.1) ?_
  refine Tr.gen (P := fun v => 0 ≤ v ∧ v ≤ 900) (ir_35_11 hS.1.2.1) (fun r1 er1 br1 => ?_)
  refine Tr.sipush (pc := 4) d_X4_emit_4 rfl (by decide) ?_
  refine Tr.icmp_ge (pc := 7) (tgt := 40) d_X4_emit_7 rfl (fun c7 => ?_) (fun c7 => ?_)
  · exact Tr.vret (pc := 40) d_X4_emit_40 rfl ⟨hS, rfl⟩
  · refine Tr.aload_n (pc := 10) (i := 0) d_X4_emit_10 rfl rfl ?_
    refine Tr.getf (pc := 11) d_X4_emit_11 f_4_36 (by decide) (by decide) (ty_35 hS.1.1) ?_
    refine Tr.tp 44 (fx_35_9 hS.1.1) ?_
    refine Tr.aload_n (pc := 14) (i := 0) d_X4_emit_14 rfl rfl ?_
    refine Tr.getf (pc := 15) d_X4_emit_15 f_4_49 (by decide) (by decide) (ty_35 hS.1.1) ?_
    refine Tr.tp r1 er1 ?_
    refine Tr.iload_n (pc := 18) (i := 1) d_X4_emit_18 rfl rfl ?_
    refine Tr.iast (pc := 19) d_X4_emit_19 (ty_44 hS.1.1) (by omega) (by omega) ?_
    refine Tr.aload_n (pc := 20) (i := 0) d_X4_emit_20 rfl rfl ?_
    refine Tr.getf (pc := 21) d_X4_emit_21 f_4_39 (by decide) (by decide) (show mT (wr M0 44 r1 a1) 35 = (4, 13) from ty_35 (M := M0) hS.1.1) ?_
    refine Tr.tp 45 ((rd_wb _ rfl).trans (fx_35_10 (M := M0) hS.1.1)) ?_
    refine Tr.aload_n (pc := 24) (i := 0) d_X4_emit_24 rfl rfl ?_
    refine Tr.getf (pc := 25) d_X4_emit_25 f_4_49 (by decide) (by decide) (show mT (wr M0 44 r1 a1) 35 = (4, 13) from ty_35 (M := M0) hS.1.1) ?_
    refine Tr.tp r1 ((rd_wb _ rfl).trans er1) ?_
    refine Tr.iload_n (pc := 28) (i := 2) d_X4_emit_28 rfl rfl ?_
    refine Tr.iastS (pc := 29) (P := St Tru ws_X4_emit_35_w8 as_X4_emit_35_w8 M0) d_X4_emit_29 (show mT (wr M0 44 r1 a1) 45 = (20, 900) from ty_45 (M := M0) hS.1.1) (by omega) (by omega) (St.two (x := 44) (y := 45) 35 36 hS (by decide) hp0 (by decide) (by decide) rfl (by decide +kernel) (by decide +kernel) (by decide +kernel) (by omega) rfl (by decide +kernel) (by decide +kernel) (by decide +kernel) (by omega) trivial) (fun M29 hS w29 => ?_)
    refine Tr.aload_n (pc := 30) (i := 0) d_X4_emit_30 rfl rfl ?_
    refine Tr.dup (pc := 31) d_X4_emit_31 ne21 ?_
    refine Tr.getf (pc := 32) d_X4_emit_32 f_4_49 (by decide) (by decide) (ty_35 hS.1.1) ?_
    refine Tr.tp r1 ((Wr.b w29 rfl).trans ((rd_wb _ rfl).trans er1)) ?_
    refine Tr.iconst (pc := 35) d_X4_emit_35 (by decide) ?_
    refine Tr.iadd (pc := 36) d_X4_emit_36 ?_
    refine Tr.tp (r1 + 1) ((w32_id (by omega)).trans (by omega)) ?_
    refine Tr.putfS (pc := 37) (P := St Tru ws_X4_emit_35_w8 as_X4_emit_35_w8 M0) d_X4_emit_37 f_4_49 (by decide) (by decide) (ty_35 hS.1.1) (st_35_11 hS (by decide) (by omega) trivial) (fun M37 hS w37 => ?_)
    exact Tr.vret (pc := 40) d_X4_emit_40 rfl ⟨hS, rfl⟩

def ws_X4_emit_35_w9 : List (Int × Int) := [(35, 11)]
def as_X4_emit_35_w9 : List Int := [44, 45]
def q_X4_emit_35_w9 (M0 M' : Mem) (r : Option PV) : Prop := St Tru ws_X4_emit_35_w9 as_X4_emit_35_w9 M0 M' ∧ r = none
set_option maxRecDepth 100000 in
set_option maxHeartbeats 4000000 in
theorem sp_X4_emit_35_w9 {l : Launch} {K : EC} {M0 : Mem} (hI : In Tru M0)  (a1 : Int) (ha1 : 16 ≤ a1 ∧ a1 ≤ 16) (a2 : Int) (ha2 : 0 ≤ a2 ∧ a2 ≤ 0) (hp0 : (a1 = 1 → 0 ≤ a2 ∧ a2 ≤ 2) ∧ (a1 = 2 ∨ a1 = 4 → 0 ≤ a2 ∧ a2 ≤ 5)) : Tr l K 0 mX4_emit 0 [(0, (2, 35)), (1, (0, a1)), (2, (0, a2))] [] M0 (q_X4_emit_35_w9 M0) := by
  have hS : St Tru ws_X4_emit_35_w9 as_X4_emit_35_w9 M0 M0 := St.rf hI
  refine Tr.aload_n (pc := 0) (i := 0) d_X4_emit_0 rfl rfl ?_
  refine Tr.getf (pc := 1) d_X4_emit_1 f_4_49 (by decide) (by decide) (ty_35 hS.1.1) ?_
  refine Tr.gen (P := fun v => 0 ≤ v ∧ v ≤ 900) (ir_35_11 hS.1.2.1) (fun r1 er1 br1 => ?_)
  refine Tr.sipush (pc := 4) d_X4_emit_4 rfl (by decide) ?_
  refine Tr.icmp_ge (pc := 7) (tgt := 40) d_X4_emit_7 rfl (fun c7 => ?_) (fun c7 => ?_)
  · exact Tr.vret (pc := 40) d_X4_emit_40 rfl ⟨hS, rfl⟩
  · refine Tr.aload_n (pc := 10) (i := 0) d_X4_emit_10 rfl rfl ?_
    refine Tr.getf (pc := 11) d_X4_emit_11 f_4_36 (by decide) (by decide) (ty_35 hS.1.1) ?_
    refine Tr.tp 44 (fx_35_9 hS.1.1) ?_
    refine Tr.aload_n (pc := 14) (i := 0) d_X4_emit_14 rfl rfl ?_
    refine Tr.getf (pc := 15) d_X4_emit_15 f_4_49 (by decide) (by decide) (ty_35 hS.1.1) ?_
    refine Tr.tp r1 er1 ?_
    refine Tr.iload_n (pc := 18) (i := 1) d_X4_emit_18 rfl rfl ?_
    refine Tr.iast (pc := 19) d_X4_emit_19 (ty_44 hS.1.1) (by omega) (by omega) ?_
    refine Tr.aload_n (pc := 20) (i := 0) d_X4_emit_20 rfl rfl ?_
    refine Tr.getf (pc := 21) d_X4_emit_21 f_4_39 (by decide) (by decide) (show mT (wr M0 44 r1 a1) 35 = (4, 13) from ty_35 (M := M0) hS.1.1) ?_
    refine Tr.tp 45 ((rd_wb _ rfl).trans (fx_35_10 (M := M0) hS.1.1)) ?_
    refine Tr.aload_n (pc := 24) (i := 0) d_X4_emit_24 rfl rfl ?_
    refine Tr.getf (pc := 25) d_X4_emit_25 f_4_49 (by decide) (by decide) (show mT (wr M0 44 r1 a1) 35 = (4, 13) from ty_35 (M := M0) hS.1.1) ?_
    refine Tr.tp r1 ((rd_wb _ rfl).trans er1) ?_
    refine Tr.iload_n (pc := 28) (i := 2) d_X4_emit_28 rfl rfl ?_
    refine Tr.iastS (pc := 29) (P := St Tru ws_X4_emit_35_w9 as_X4_emit_35_w9 M0) d_X4_emit_29 (show mT (wr M0 44 r1 a1) 45 = (20, 900) from ty_45 (M := M0) hS.1.1) (by omega) (by omega) (St.two (x := 44) (y := 45) 35 36 hS (by decide) hp0 (by decide) (by decide) rfl (by decide +kernel) (by decide +kernel) (by decide +kernel) (by omega) rfl (by decide +kernel) (by decide +kernel) (by decide +kernel) (by omega) trivial) (fun M29 hS w29 => ?_)
    refine Tr.aload_n (pc := 30) (i := 0) d_X4_emit_30 rfl rfl ?_
    refine Tr.dup (pc := 31) d_X4_emit_31 ne21 ?_
    refine Tr.getf (pc := 32) d_X4_emit_32 f_4_49 (by decide) (by decide) (ty_35 hS.1.1) ?_
    refine Tr.tp r1 ((Wr.b w29 rfl).trans ((rd_wb _ rfl).trans er1)) ?_
    refine Tr.iconst (pc := 35) d_X4_emit_35 (by decide) ?_
    refine Tr.iadd (pc := 36) d_X4_emit_36 ?_
    refine Tr.tp (r1 + 1) ((w32_id (by omega)).trans (by omega)) ?_
    refine Tr.putfS (pc := 37) (P := St Tru ws_X4_emit_35_w9 as_X4_emit_35_w9 M0) d_X4_emit_37 f_4_49 (by decide) (by decide) (ty_35 hS.1.1) (st_35_11 hS (by decide) (by omega) trivial) (fun M37 hS w37 => ?_)
    exact Tr.vret (pc := 40) d_X4_emit_40 rfl ⟨hS, rfl⟩

def ws_X4_emit_35_w10 : List (Int × Int) := [(35, 11)]
def as_X4_emit_35_w10 : List Int := [44, 45]
def q_X4_emit_35_w10 (M0 M' : Mem) (r : Option PV) : Prop := St Tru ws_X4_emit_35_w10 as_X4_emit_35_w10 M0 M' ∧ r = none
set_option maxRecDepth 100000 in
set_option maxHeartbeats 4000000 in
theorem sp_X4_emit_35_w10 {l : Launch} {K : EC} {M0 : Mem} (hI : In Tru M0)  (a1 : Int) (ha1 : 17 ≤ a1 ∧ a1 ≤ 17) (a2 : Int) (ha2 : 0 ≤ a2 ∧ a2 ≤ 0) (hp0 : (a1 = 1 → 0 ≤ a2 ∧ a2 ≤ 2) ∧ (a1 = 2 ∨ a1 = 4 → 0 ≤ a2 ∧ a2 ≤ 5)) : Tr l K 0 mX4_emit 0 [(0, (2, 35)), (1, (0, a1)), (2, (0, a2))] [] M0 (q_X4_emit_35_w10 M0) := by
  have hS : St Tru ws_X4_emit_35_w10 as_X4_emit_35_w10 M0 M0 := St.rf hI
  refine Tr.aload_n (pc := 0) (i := 0) d_X4_emit_0 rfl rfl ?_
  refine Tr.getf (pc := 1) d_X4_emit_1 f_4_49 (by decide) (by decide) (ty_35 hS.1.1) ?_
  refine Tr.gen (P := fun v => 0 ≤ v ∧ v ≤ 900) (ir_35_11 hS.1.2.1) (fun r1 er1 br1 => ?_)
  refine Tr.sipush (pc := 4) d_X4_emit_4 rfl (by decide) ?_
  refine Tr.icmp_ge (pc := 7) (tgt := 40) d_X4_emit_7 rfl (fun c7 => ?_) (fun c7 => ?_)
  · exact Tr.vret (pc := 40) d_X4_emit_40 rfl ⟨hS, rfl⟩
  · refine Tr.aload_n (pc := 10) (i := 0) d_X4_emit_10 rfl rfl ?_
    refine Tr.getf (pc := 11) d_X4_emit_11 f_4_36 (by decide) (by decide) (ty_35 hS.1.1) ?_
    refine Tr.tp 44 (fx_35_9 hS.1.1) ?_
    refine Tr.aload_n (pc := 14) (i := 0) d_X4_emit_14 rfl rfl ?_
    refine Tr.getf (pc := 15) d_X4_emit_15 f_4_49 (by decide) (by decide) (ty_35 hS.1.1) ?_
    refine Tr.tp r1 er1 ?_
    refine Tr.iload_n (pc := 18) (i := 1) d_X4_emit_18 rfl rfl ?_
    refine Tr.iast (pc := 19) d_X4_emit_19 (ty_44 hS.1.1) (by omega) (by omega) ?_
    refine Tr.aload_n (pc := 20) (i := 0) d_X4_emit_20 rfl rfl ?_
    refine Tr.getf (pc := 21) d_X4_emit_21 f_4_39 (by decide) (by decide) (show mT (wr M0 44 r1 a1) 35 = (4, 13) from ty_35 (M := M0) hS.1.1) ?_
    refine Tr.tp 45 ((rd_wb _ rfl).trans (fx_35_10 (M := M0) hS.1.1)) ?_
    refine Tr.aload_n (pc := 24) (i := 0) d_X4_emit_24 rfl rfl ?_
    refine Tr.getf (pc := 25) d_X4_emit_25 f_4_49 (by decide) (by decide) (show mT (wr M0 44 r1 a1) 35 = (4, 13) from ty_35 (M := M0) hS.1.1) ?_
    refine Tr.tp r1 ((rd_wb _ rfl).trans er1) ?_
    refine Tr.iload_n (pc := 28) (i := 2) d_X4_emit_28 rfl rfl ?_
    refine Tr.iastS (pc := 29) (P := St Tru ws_X4_emit_35_w10 as_X4_emit_35_w10 M0) d_X4_emit_29 (show mT (wr M0 44 r1 a1) 45 = (20, 900) from ty_45 (M := M0) hS.1.1) (by omega) (by omega) (St.two (x := 44) (y := 45) 35 36 hS (by decide) hp0 (by decide) (by decide) rfl (by decide +kernel) (by decide +kernel) (by decide +kernel) (by omega) rfl (by decide +kernel) (by decide +kernel) (by decide +kernel) (by omega) trivial) (fun M29 hS w29 => ?_)
    refine Tr.aload_n (pc := 30) (i := 0) d_X4_emit_30 rfl rfl ?_
    refine Tr.dup (pc := 31) d_X4_emit_31 ne21 ?_
    refine Tr.getf (pc := 32) d_X4_emit_32 f_4_49 (by decide) (by decide) (ty_35 hS.1.1) ?_
    refine Tr.tp r1 ((Wr.b w29 rfl).trans ((rd_wb _ rfl).trans er1)) ?_
    refine Tr.iconst (pc := 35) d_X4_emit_35 (by decide) ?_
    refine Tr.iadd (pc := 36) d_X4_emit_36 ?_
    refine Tr.tp (r1 + 1) ((w32_id (by omega)).trans (by omega)) ?_
    refine Tr.putfS (pc := 37) (P := St Tru ws_X4_emit_35_w10 as_X4_emit_35_w10 M0) d_X4_emit_37 f_4_49 (by decide) (by decide) (ty_35 hS.1.1) (st_35_11 hS (by decide) (by omega) trivial) (fun M37 hS w37 => ?_)
    exact Tr.vret (pc := 40) d_X4_emit_40 rfl ⟨hS, rfl⟩

def ws_X5_takeSign_6_w2 : List (Int × Int) := [(6, 0), (6, 1), (6, 5)]
def as_X5_takeSign_6_w2 : List Int := []
def q_X5_takeSign_6_w2 (M0 M' : Mem) (r : Option PV) : Prop := St Tru ws_X5_takeSign_6_w2 as_X5_takeSign_6_w2 M0 M' ∧ ∃ v : Int, r = some (0, v) ∧ 0 ≤ v ∧ v ≤ 1
set_option maxRecDepth 100000 in
set_option maxHeartbeats 4000000 in
theorem sp_X5_takeSign_6_w2 {l : Launch} {K : EC} {M0 : Mem} (hI : In Tru M0) (en_6_2 : rd M0 6 2 = 2) (a1 : Int) (ha1 : 64 ≤ a1 ∧ a1 ≤ 99)  : Tr l K 1 mX5_takeSign 0 [(0, (2, 6)), (1, (0, a1))] [] M0 (q_X5_takeSign_6_w2 M0) := by
  have hS : St Tru ws_X5_takeSign_6_w2 as_X5_takeSign_6_w2 M0 M0 := St.rf hI
  refine Tr.aload_n (pc := 0) (i := 0) d_X5_takeSign_0 rfl rfl ?_
  refine Tr.iload_n (pc := 1) (i := 1) d_X5_takeSign_1 rfl rfl ?_
  refine Tr.callV (pc := 2) (as := [_]) d_X5_takeSign_2 s_5_77 ok_X5_isSign rfl rfl (Nat.le_of_ble_eq_true rfl) (Nat.le_of_ble_eq_true rfl) (by decide) (ty_6 hS.1.1) ?_
  refine Tr.imp (Tr.deep (by decide) (sp_X5_isSign_6_w1 hS.1 ((St.kp hS (by decide) (by decide) (by decide)).trans en_6_2) a1 (by omega))) ?_
  rintro M2 _ ⟨h2, r2, rfl, lr2, ur2⟩
  have hS := St.tr hS h2 (by decide) (by decide)
  refine Tr.sc [(0, r2)] rfl ?_
  refine Tr.if_eq (pc := 5) (tgt := 15) d_X5_takeSign_5 rfl (fun c5 => ?_) (fun c5 => ?_)
  · refine Tr.aload_n (pc := 15) (i := 0) d_X5_takeSign_15 rfl rfl ?_
    refine Tr.iconst (pc := 16) d_X5_takeSign_16 (by decide) ?_
    refine Tr.callV (pc := 17) (as := [_]) d_X5_takeSign_17 s_5_56 ok_X5_refuse rfl rfl (Nat.le_of_ble_eq_true rfl) (Nat.le_of_ble_eq_true rfl) (by decide) (ty_6 hS.1.1) ?_
    refine Tr.imp (Tr.deep (by decide) (sp_X5_refuse_6_w1 hS.1 ((St.kp hS (by decide) (by decide) (by decide)).trans en_6_2) 1 (by omega))) ?_
    rintro M17 _ ⟨h17, r17, rfl, lr17, ur17⟩
    have hS := St.tr hS h17 (by decide) (by decide)
    refine Tr.sc [(0, r17)] rfl ?_
    exact Tr.zret (pc := 20) d_X5_takeSign_20 rfl (by omega) ⟨hS, _, rfl, by omega, by omega⟩
  · refine Tr.aload_n (pc := 8) (i := 0) d_X5_takeSign_8 rfl rfl ?_
    refine Tr.callV (pc := 9) (as := []) d_X5_takeSign_9 s_5_74 ok_X5_goOn rfl rfl (Nat.le_of_ble_eq_true rfl) (Nat.le_of_ble_eq_true rfl) (by decide) (ty_6 hS.1.1) ?_
    refine Tr.imp (Tr.deep (by decide) (sp_X5_goOn_6 hS.1 )) ?_
    rintro M9 _ ⟨h9, r9, rfl, lr9, ur9⟩
    have hS := St.tr hS h9 (by decide) (by decide)
    refine Tr.sc [(0, r9)] rfl ?_
    refine Tr.goto (pc := 12) (tgt := 20) d_X5_takeSign_12 rfl ?_
    exact Tr.zret (pc := 20) d_X5_takeSign_20 rfl (by omega) ⟨hS, _, rfl, by omega, by omega⟩

def ws_X5_takeClosing_6_w8 : List (Int × Int) := [(6, 0), (6, 1), (6, 5), (6, 6)]
def as_X5_takeClosing_6_w8 : List Int := []
def q_X5_takeClosing_6_w8 (M0 M' : Mem) (r : Option PV) : Prop := St Tru ws_X5_takeClosing_6_w8 as_X5_takeClosing_6_w8 M0 M' ∧ ∃ v : Int, r = some (0, v) ∧ 0 ≤ v ∧ v ≤ 1 ∧ ((1 ≤ v ∧ v ≤ 1) → rd M' 6 6 = 7)
set_option maxRecDepth 100000 in
set_option maxHeartbeats 4000000 in
theorem sp_X5_takeClosing_6_w8 {l : Launch} {K : EC} {M0 : Mem} (hI : In Tru M0) (en_6_2 : rd M0 6 2 = 2) (en_6_6 : rd M0 6 6 = 8) (a1 : Int) (ha1 : 64 ≤ a1 ∧ a1 ≤ 99)  : Tr l K 2 mX5_takeClosing 0 [(0, (2, 6)), (1, (0, a1))] [] M0 (q_X5_takeClosing_6_w8 M0) := by
  have hS : St Tru ws_X5_takeClosing_6_w8 as_X5_takeClosing_6_w8 M0 M0 := St.rf hI
  refine Tr.aload_n (pc := 0) (i := 0) d_X5_takeClosing_0 rfl rfl ?_
  refine Tr.iload_n (pc := 1) (i := 1) d_X5_takeClosing_1 rfl rfl ?_
  refine Tr.callV (pc := 2) (as := [_]) d_X5_takeClosing_2 s_5_81 ok_X5_takeSign rfl rfl (Nat.le_of_ble_eq_true rfl) (Nat.le_of_ble_eq_true rfl) (by decide) (ty_6 hS.1.1) ?_
  refine Tr.imp (Tr.deep (by decide) (sp_X5_takeSign_6_w2 hS.1 ((St.kp hS (by decide) (by decide) (by decide)).trans en_6_2) a1 (by omega))) ?_
  rintro M2 _ ⟨h2, r2, rfl, lr2, ur2⟩
  have hS := St.tr hS h2 (by decide) (by decide)
  refine Tr.sc [(0, r2)] rfl ?_
  refine Tr.if_ne (pc := 5) (tgt := 10) d_X5_takeClosing_5 rfl (fun c5 => ?_) (fun c5 => ?_)
  · refine Tr.aload_n (pc := 10) (i := 0) d_X5_takeClosing_10 rfl rfl ?_
    refine Tr.dup (pc := 11) d_X5_takeClosing_11 ne21 ?_
    refine Tr.getf (pc := 12) d_X5_takeClosing_12 f_5_39 (by decide) (by decide) (ty_6 hS.1.1) ?_
    refine Tr.tp 8 ((St.kp h2 (by decide) (by decide) (by decide)).trans en_6_6) ?_
    refine Tr.iconst (pc := 15) d_X5_takeClosing_15 (by decide) ?_
    refine Tr.isub (pc := 16) d_X5_takeClosing_16 ?_
    refine Tr.tp 7 (by decide) ?_
    refine Tr.putfS (pc := 17) (P := St Tru ws_X5_takeClosing_6_w8 as_X5_takeClosing_6_w8 M0) d_X5_takeClosing_17 f_5_39 (by decide) (by decide) (ty_6 hS.1.1) (st_6_6 hS (by decide) (by omega) trivial) (fun M17 hS w17 => ?_)
    refine Tr.iconst (pc := 20) d_X5_takeClosing_20 (by decide) ?_
    exact Tr.zret (pc := 21) d_X5_takeClosing_21 rfl (by omega) ⟨hS, _, rfl, by omega, by omega, fun _ => w17.1⟩
  · refine Tr.iconst (pc := 8) d_X5_takeClosing_8 (by decide) ?_
    exact Tr.zret (pc := 9) d_X5_takeClosing_9 rfl (by omega) ⟨hS, _, rfl, by omega, by omega, fun hq => absurd hq (by omega)⟩

def ws_X5_takeClosing_6_w9 : List (Int × Int) := [(6, 0), (6, 1), (6, 5), (6, 6)]
def as_X5_takeClosing_6_w9 : List Int := []
def q_X5_takeClosing_6_w9 (M0 M' : Mem) (r : Option PV) : Prop := St Tru ws_X5_takeClosing_6_w9 as_X5_takeClosing_6_w9 M0 M' ∧ ∃ v : Int, r = some (0, v) ∧ 0 ≤ v ∧ v ≤ 1 ∧ ((1 ≤ v ∧ v ≤ 1) → rd M' 6 6 = 6)
set_option maxRecDepth 100000 in
set_option maxHeartbeats 4000000 in
theorem sp_X5_takeClosing_6_w9 {l : Launch} {K : EC} {M0 : Mem} (hI : In Tru M0) (en_6_2 : rd M0 6 2 = 2) (en_6_6 : rd M0 6 6 = 7) (a1 : Int) (ha1 : 64 ≤ a1 ∧ a1 ≤ 99)  : Tr l K 2 mX5_takeClosing 0 [(0, (2, 6)), (1, (0, a1))] [] M0 (q_X5_takeClosing_6_w9 M0) := by
  have hS : St Tru ws_X5_takeClosing_6_w9 as_X5_takeClosing_6_w9 M0 M0 := St.rf hI
  refine Tr.aload_n (pc := 0) (i := 0) d_X5_takeClosing_0 rfl rfl ?_
  refine Tr.iload_n (pc := 1) (i := 1) d_X5_takeClosing_1 rfl rfl ?_
  refine Tr.callV (pc := 2) (as := [_]) d_X5_takeClosing_2 s_5_81 ok_X5_takeSign rfl rfl (Nat.le_of_ble_eq_true rfl) (Nat.le_of_ble_eq_true rfl) (by decide) (ty_6 hS.1.1) ?_
  refine Tr.imp (Tr.deep (by decide) (sp_X5_takeSign_6_w2 hS.1 ((St.kp hS (by decide) (by decide) (by decide)).trans en_6_2) a1 (by omega))) ?_
  rintro M2 _ ⟨h2, r2, rfl, lr2, ur2⟩
  have hS := St.tr hS h2 (by decide) (by decide)
  refine Tr.sc [(0, r2)] rfl ?_
  refine Tr.if_ne (pc := 5) (tgt := 10) d_X5_takeClosing_5 rfl (fun c5 => ?_) (fun c5 => ?_)
  · refine Tr.aload_n (pc := 10) (i := 0) d_X5_takeClosing_10 rfl rfl ?_
    refine Tr.dup (pc := 11) d_X5_takeClosing_11 ne21 ?_
    refine Tr.getf (pc := 12) d_X5_takeClosing_12 f_5_39 (by decide) (by decide) (ty_6 hS.1.1) ?_
    refine Tr.tp 7 ((St.kp h2 (by decide) (by decide) (by decide)).trans en_6_6) ?_
    refine Tr.iconst (pc := 15) d_X5_takeClosing_15 (by decide) ?_
    refine Tr.isub (pc := 16) d_X5_takeClosing_16 ?_
    refine Tr.tp 6 (by decide) ?_
    refine Tr.putfS (pc := 17) (P := St Tru ws_X5_takeClosing_6_w9 as_X5_takeClosing_6_w9 M0) d_X5_takeClosing_17 f_5_39 (by decide) (by decide) (ty_6 hS.1.1) (st_6_6 hS (by decide) (by omega) trivial) (fun M17 hS w17 => ?_)
    refine Tr.iconst (pc := 20) d_X5_takeClosing_20 (by decide) ?_
    exact Tr.zret (pc := 21) d_X5_takeClosing_21 rfl (by omega) ⟨hS, _, rfl, by omega, by omega, fun _ => w17.1⟩
  · refine Tr.iconst (pc := 8) d_X5_takeClosing_8 (by decide) ?_
    exact Tr.zret (pc := 9) d_X5_takeClosing_9 rfl (by omega) ⟨hS, _, rfl, by omega, by omega, fun hq => absurd hq (by omega)⟩

def ws_X5_takeClosing_6_w10 : List (Int × Int) := [(6, 0), (6, 1), (6, 5), (6, 6)]
def as_X5_takeClosing_6_w10 : List Int := []
def q_X5_takeClosing_6_w10 (M0 M' : Mem) (r : Option PV) : Prop := St Tru ws_X5_takeClosing_6_w10 as_X5_takeClosing_6_w10 M0 M' ∧ ∃ v : Int, r = some (0, v) ∧ 0 ≤ v ∧ v ≤ 1 ∧ ((1 ≤ v ∧ v ≤ 1) → rd M' 6 6 = 5)
set_option maxRecDepth 100000 in
set_option maxHeartbeats 4000000 in
theorem sp_X5_takeClosing_6_w10 {l : Launch} {K : EC} {M0 : Mem} (hI : In Tru M0) (en_6_2 : rd M0 6 2 = 2) (en_6_6 : rd M0 6 6 = 6) (a1 : Int) (ha1 : 64 ≤ a1 ∧ a1 ≤ 99)  : Tr l K 2 mX5_takeClosing 0 [(0, (2, 6)), (1, (0, a1))] [] M0 (q_X5_takeClosing_6_w10 M0) := by
  have hS : St Tru ws_X5_takeClosing_6_w10 as_X5_takeClosing_6_w10 M0 M0 := St.rf hI
  refine Tr.aload_n (pc := 0) (i := 0) d_X5_takeClosing_0 rfl rfl ?_
  refine Tr.iload_n (pc := 1) (i := 1) d_X5_takeClosing_1 rfl rfl ?_
  refine Tr.callV (pc := 2) (as := [_]) d_X5_takeClosing_2 s_5_81 ok_X5_takeSign rfl rfl (Nat.le_of_ble_eq_true rfl) (Nat.le_of_ble_eq_true rfl) (by decide) (ty_6 hS.1.1) ?_
  refine Tr.imp (Tr.deep (by decide) (sp_X5_takeSign_6_w2 hS.1 ((St.kp hS (by decide) (by decide) (by decide)).trans en_6_2) a1 (by omega))) ?_
  rintro M2 _ ⟨h2, r2, rfl, lr2, ur2⟩
  have hS := St.tr hS h2 (by decide) (by decide)
  refine Tr.sc [(0, r2)] rfl ?_
  refine Tr.if_ne (pc := 5) (tgt := 10) d_X5_takeClosing_5 rfl (fun c5 => ?_) (fun c5 => ?_)
  · refine Tr.aload_n (pc := 10) (i := 0) d_X5_takeClosing_10 rfl rfl ?_
    refine Tr.dup (pc := 11) d_X5_takeClosing_11 ne21 ?_
    refine Tr.getf (pc := 12) d_X5_takeClosing_12 f_5_39 (by decide) (by decide) (ty_6 hS.1.1) ?_
    refine Tr.tp 6 ((St.kp h2 (by decide) (by decide) (by decide)).trans en_6_6) ?_
    refine Tr.iconst (pc := 15) d_X5_takeClosing_15 (by decide) ?_
    refine Tr.isub (pc := 16) d_X5_takeClosing_16 ?_
    refine Tr.tp 5 (by decide) ?_
    refine Tr.putfS (pc := 17) (P := St Tru ws_X5_takeClosing_6_w10 as_X5_takeClosing_6_w10 M0) d_X5_takeClosing_17 f_5_39 (by decide) (by decide) (ty_6 hS.1.1) (st_6_6 hS (by decide) (by omega) trivial) (fun M17 hS w17 => ?_)
    refine Tr.iconst (pc := 20) d_X5_takeClosing_20 (by decide) ?_
    exact Tr.zret (pc := 21) d_X5_takeClosing_21 rfl (by omega) ⟨hS, _, rfl, by omega, by omega, fun _ => w17.1⟩
  · refine Tr.iconst (pc := 8) d_X5_takeClosing_8 (by decide) ?_
    exact Tr.zret (pc := 9) d_X5_takeClosing_9 rfl (by omega) ⟨hS, _, rfl, by omega, by omega, fun hq => absurd hq (by omega)⟩

def ws_X5_takeClosing_6_w11 : List (Int × Int) := [(6, 0), (6, 1), (6, 5), (6, 6)]
def as_X5_takeClosing_6_w11 : List Int := []
def q_X5_takeClosing_6_w11 (M0 M' : Mem) (r : Option PV) : Prop := St Tru ws_X5_takeClosing_6_w11 as_X5_takeClosing_6_w11 M0 M' ∧ ∃ v : Int, r = some (0, v) ∧ 0 ≤ v ∧ v ≤ 1 ∧ ((1 ≤ v ∧ v ≤ 1) → rd M' 6 6 = 4)
set_option maxRecDepth 100000 in
set_option maxHeartbeats 4000000 in
theorem sp_X5_takeClosing_6_w11 {l : Launch} {K : EC} {M0 : Mem} (hI : In Tru M0) (en_6_2 : rd M0 6 2 = 2) (en_6_6 : rd M0 6 6 = 5) (a1 : Int) (ha1 : 64 ≤ a1 ∧ a1 ≤ 99)  : Tr l K 2 mX5_takeClosing 0 [(0, (2, 6)), (1, (0, a1))] [] M0 (q_X5_takeClosing_6_w11 M0) := by
  have hS : St Tru ws_X5_takeClosing_6_w11 as_X5_takeClosing_6_w11 M0 M0 := St.rf hI
  refine Tr.aload_n (pc := 0) (i := 0) d_X5_takeClosing_0 rfl rfl ?_
  refine Tr.iload_n (pc := 1) (i := 1) d_X5_takeClosing_1 rfl rfl ?_
  refine Tr.callV (pc := 2) (as := [_]) d_X5_takeClosing_2 s_5_81 ok_X5_takeSign rfl rfl (Nat.le_of_ble_eq_true rfl) (Nat.le_of_ble_eq_true rfl) (by decide) (ty_6 hS.1.1) ?_
  refine Tr.imp (Tr.deep (by decide) (sp_X5_takeSign_6_w2 hS.1 ((St.kp hS (by decide) (by decide) (by decide)).trans en_6_2) a1 (by omega))) ?_
  rintro M2 _ ⟨h2, r2, rfl, lr2, ur2⟩
  have hS := St.tr hS h2 (by decide) (by decide)
  refine Tr.sc [(0, r2)] rfl ?_
  refine Tr.if_ne (pc := 5) (tgt := 10) d_X5_takeClosing_5 rfl (fun c5 => ?_) (fun c5 => ?_)
  · refine Tr.aload_n (pc := 10) (i := 0) d_X5_takeClosing_10 rfl rfl ?_
    refine Tr.dup (pc := 11) d_X5_takeClosing_11 ne21 ?_
    refine Tr.getf (pc := 12) d_X5_takeClosing_12 f_5_39 (by decide) (by decide) (ty_6 hS.1.1) ?_
    refine Tr.tp 5 ((St.kp h2 (by decide) (by decide) (by decide)).trans en_6_6) ?_
    refine Tr.iconst (pc := 15) d_X5_takeClosing_15 (by decide) ?_
    refine Tr.isub (pc := 16) d_X5_takeClosing_16 ?_
    refine Tr.tp 4 (by decide) ?_
    refine Tr.putfS (pc := 17) (P := St Tru ws_X5_takeClosing_6_w11 as_X5_takeClosing_6_w11 M0) d_X5_takeClosing_17 f_5_39 (by decide) (by decide) (ty_6 hS.1.1) (st_6_6 hS (by decide) (by omega) trivial) (fun M17 hS w17 => ?_)
    refine Tr.iconst (pc := 20) d_X5_takeClosing_20 (by decide) ?_
    exact Tr.zret (pc := 21) d_X5_takeClosing_21 rfl (by omega) ⟨hS, _, rfl, by omega, by omega, fun _ => w17.1⟩
  · refine Tr.iconst (pc := 8) d_X5_takeClosing_8 (by decide) ?_
    exact Tr.zret (pc := 9) d_X5_takeClosing_9 rfl (by omega) ⟨hS, _, rfl, by omega, by omega, fun hq => absurd hq (by omega)⟩

def ws_X5_takeClosing_6_w12 : List (Int × Int) := [(6, 0), (6, 1), (6, 5), (6, 6)]
def as_X5_takeClosing_6_w12 : List Int := []
def q_X5_takeClosing_6_w12 (M0 M' : Mem) (r : Option PV) : Prop := St Tru ws_X5_takeClosing_6_w12 as_X5_takeClosing_6_w12 M0 M' ∧ ∃ v : Int, r = some (0, v) ∧ 0 ≤ v ∧ v ≤ 1 ∧ ((1 ≤ v ∧ v ≤ 1) → rd M' 6 6 = 3)
set_option maxRecDepth 100000 in
set_option maxHeartbeats 4000000 in
theorem sp_X5_takeClosing_6_w12 {l : Launch} {K : EC} {M0 : Mem} (hI : In Tru M0) (en_6_2 : rd M0 6 2 = 2) (en_6_6 : rd M0 6 6 = 4) (a1 : Int) (ha1 : 64 ≤ a1 ∧ a1 ≤ 99)  : Tr l K 2 mX5_takeClosing 0 [(0, (2, 6)), (1, (0, a1))] [] M0 (q_X5_takeClosing_6_w12 M0) := by
  have hS : St Tru ws_X5_takeClosing_6_w12 as_X5_takeClosing_6_w12 M0 M0 := St.rf hI
  refine Tr.aload_n (pc := 0) (i := 0) d_X5_takeClosing_0 rfl rfl ?_
  refine Tr.iload_n (pc := 1) (i := 1) d_X5_takeClosing_1 rfl rfl ?_
  refine Tr.callV (pc := 2) (as := [_]) d_X5_takeClosing_2 s_5_81 ok_X5_takeSign rfl rfl (Nat.le_of_ble_eq_true rfl) (Nat.le_of_ble_eq_true rfl) (by decide) (ty_6 hS.1.1) ?_
  refine Tr.imp (Tr.deep (by decide) (sp_X5_takeSign_6_w2 hS.1 ((St.kp hS (by decide) (by decide) (by decide)).trans en_6_2) a1 (by omega))) ?_
  rintro M2 _ ⟨h2, r2, rfl, lr2, ur2⟩
  have hS := St.tr hS h2 (by decide) (by decide)
  refine Tr.sc [(0, r2)] rfl ?_
  refine Tr.if_ne (pc := 5) (tgt := 10) d_X5_takeClosing_5 rfl (fun c5 => ?_) (fun c5 => ?_)
  · refine Tr.aload_n (pc := 10) (i := 0) d_X5_takeClosing_10 rfl rfl ?_
    refine Tr.dup (pc := 11) d_X5_takeClosing_11 ne21 ?_
    refine Tr.getf (pc := 12) d_X5_takeClosing_12 f_5_39 (by decide) (by decide) (ty_6 hS.1.1) ?_
    refine Tr.tp 4 ((St.kp h2 (by decide) (by decide) (by decide)).trans en_6_6) ?_
    refine Tr.iconst (pc := 15) d_X5_takeClosing_15 (by decide) ?_
    refine Tr.isub (pc := 16) d_X5_takeClosing_16 ?_
    refine Tr.tp 3 (by decide) ?_
    refine Tr.putfS (pc := 17) (P := St Tru ws_X5_takeClosing_6_w12 as_X5_takeClosing_6_w12 M0) d_X5_takeClosing_17 f_5_39 (by decide) (by decide) (ty_6 hS.1.1) (st_6_6 hS (by decide) (by omega) trivial) (fun M17 hS w17 => ?_)
    refine Tr.iconst (pc := 20) d_X5_takeClosing_20 (by decide) ?_
    exact Tr.zret (pc := 21) d_X5_takeClosing_21 rfl (by omega) ⟨hS, _, rfl, by omega, by omega, fun _ => w17.1⟩
  · refine Tr.iconst (pc := 8) d_X5_takeClosing_8 (by decide) ?_
    exact Tr.zret (pc := 9) d_X5_takeClosing_9 rfl (by omega) ⟨hS, _, rfl, by omega, by omega, fun hq => absurd hq (by omega)⟩

def ws_X5_takeClosing_6_w13 : List (Int × Int) := [(6, 0), (6, 1), (6, 5), (6, 6)]
def as_X5_takeClosing_6_w13 : List Int := []
def q_X5_takeClosing_6_w13 (M0 M' : Mem) (r : Option PV) : Prop := St Tru ws_X5_takeClosing_6_w13 as_X5_takeClosing_6_w13 M0 M' ∧ ∃ v : Int, r = some (0, v) ∧ 0 ≤ v ∧ v ≤ 1 ∧ ((1 ≤ v ∧ v ≤ 1) → rd M' 6 6 = 2)
set_option maxRecDepth 100000 in
set_option maxHeartbeats 4000000 in
theorem sp_X5_takeClosing_6_w13 {l : Launch} {K : EC} {M0 : Mem} (hI : In Tru M0) (en_6_2 : rd M0 6 2 = 2) (en_6_6 : rd M0 6 6 = 3) (a1 : Int) (ha1 : 64 ≤ a1 ∧ a1 ≤ 99)  : Tr l K 2 mX5_takeClosing 0 [(0, (2, 6)), (1, (0, a1))] [] M0 (q_X5_takeClosing_6_w13 M0) := by
  have hS : St Tru ws_X5_takeClosing_6_w13 as_X5_takeClosing_6_w13 M0 M0 := St.rf hI
  refine Tr.aload_n (pc := 0) (i := 0) d_X5_takeClosing_0 rfl rfl ?_
  refine Tr.iload_n (pc := 1) (i := 1) d_X5_takeClosing_1 rfl rfl ?_
  refine Tr.callV (pc := 2) (as := [_]) d_X5_takeClosing_2 s_5_81 ok_X5_takeSign rfl rfl (Nat.le_of_ble_eq_true rfl) (Nat.le_of_ble_eq_true rfl) (by decide) (ty_6 hS.1.1) ?_
  refine Tr.imp (Tr.deep (by decide) (sp_X5_takeSign_6_w2 hS.1 ((St.kp hS (by decide) (by decide) (by decide)).trans en_6_2) a1 (by omega))) ?_
  rintro M2 _ ⟨h2, r2, rfl, lr2, ur2⟩
  have hS := St.tr hS h2 (by decide) (by decide)
  refine Tr.sc [(0, r2)] rfl ?_
  refine Tr.if_ne (pc := 5) (tgt := 10) d_X5_takeClosing_5 rfl (fun c5 => ?_) (fun c5 => ?_)
  · refine Tr.aload_n (pc := 10) (i := 0) d_X5_takeClosing_10 rfl rfl ?_
    refine Tr.dup (pc := 11) d_X5_takeClosing_11 ne21 ?_
    refine Tr.getf (pc := 12) d_X5_takeClosing_12 f_5_39 (by decide) (by decide) (ty_6 hS.1.1) ?_
    refine Tr.tp 3 ((St.kp h2 (by decide) (by decide) (by decide)).trans en_6_6) ?_
    refine Tr.iconst (pc := 15) d_X5_takeClosing_15 (by decide) ?_
    refine Tr.isub (pc := 16) d_X5_takeClosing_16 ?_
    refine Tr.tp 2 (by decide) ?_
    refine Tr.putfS (pc := 17) (P := St Tru ws_X5_takeClosing_6_w13 as_X5_takeClosing_6_w13 M0) d_X5_takeClosing_17 f_5_39 (by decide) (by decide) (ty_6 hS.1.1) (st_6_6 hS (by decide) (by omega) trivial) (fun M17 hS w17 => ?_)
    refine Tr.iconst (pc := 20) d_X5_takeClosing_20 (by decide) ?_
    exact Tr.zret (pc := 21) d_X5_takeClosing_21 rfl (by omega) ⟨hS, _, rfl, by omega, by omega, fun _ => w17.1⟩
  · refine Tr.iconst (pc := 8) d_X5_takeClosing_8 (by decide) ?_
    exact Tr.zret (pc := 9) d_X5_takeClosing_9 rfl (by omega) ⟨hS, _, rfl, by omega, by omega, fun hq => absurd hq (by omega)⟩

def ws_X5_takeClosing_6_w14 : List (Int × Int) := [(6, 0), (6, 1), (6, 5), (6, 6)]
def as_X5_takeClosing_6_w14 : List Int := []
def q_X5_takeClosing_6_w14 (M0 M' : Mem) (r : Option PV) : Prop := St Tru ws_X5_takeClosing_6_w14 as_X5_takeClosing_6_w14 M0 M' ∧ ∃ v : Int, r = some (0, v) ∧ 0 ≤ v ∧ v ≤ 1 ∧ ((1 ≤ v ∧ v ≤ 1) → rd M' 6 6 = 1)
set_option maxRecDepth 100000 in
set_option maxHeartbeats 4000000 in
theorem sp_X5_takeClosing_6_w14 {l : Launch} {K : EC} {M0 : Mem} (hI : In Tru M0) (en_6_2 : rd M0 6 2 = 2) (en_6_6 : rd M0 6 6 = 2) (a1 : Int) (ha1 : 64 ≤ a1 ∧ a1 ≤ 99)  : Tr l K 2 mX5_takeClosing 0 [(0, (2, 6)), (1, (0, a1))] [] M0 (q_X5_takeClosing_6_w14 M0) := by
  have hS : St Tru ws_X5_takeClosing_6_w14 as_X5_takeClosing_6_w14 M0 M0 := St.rf hI
  refine Tr.aload_n (pc := 0) (i := 0) d_X5_takeClosing_0 rfl rfl ?_
  refine Tr.iload_n (pc := 1) (i := 1) d_X5_takeClosing_1 rfl rfl ?_
  refine Tr.callV (pc := 2) (as := [_]) d_X5_takeClosing_2 s_5_81 ok_X5_takeSign rfl rfl (Nat.le_of_ble_eq_true rfl) (Nat.le_of_ble_eq_true rfl) (by decide) (ty_6 hS.1.1) ?_
  refine Tr.imp (Tr.deep (by decide) (sp_X5_takeSign_6_w2 hS.1 ((St.kp hS (by decide) (by decide) (by decide)).trans en_6_2) a1 (by omega))) ?_
  rintro M2 _ ⟨h2, r2, rfl, lr2, ur2⟩
  have hS := St.tr hS h2 (by decide) (by decide)
  refine Tr.sc [(0, r2)] rfl ?_
  refine Tr.if_ne (pc := 5) (tgt := 10) d_X5_takeClosing_5 rfl (fun c5 => ?_) (fun c5 => ?_)
  · refine Tr.aload_n (pc := 10) (i := 0) d_X5_takeClosing_10 rfl rfl ?_
    refine Tr.dup (pc := 11) d_X5_takeClosing_11 ne21 ?_
    refine Tr.getf (pc := 12) d_X5_takeClosing_12 f_5_39 (by decide) (by decide) (ty_6 hS.1.1) ?_
    refine Tr.tp 2 ((St.kp h2 (by decide) (by decide) (by decide)).trans en_6_6) ?_
    refine Tr.iconst (pc := 15) d_X5_takeClosing_15 (by decide) ?_
    refine Tr.isub (pc := 16) d_X5_takeClosing_16 ?_
    refine Tr.tp 1 (by decide) ?_
    refine Tr.putfS (pc := 17) (P := St Tru ws_X5_takeClosing_6_w14 as_X5_takeClosing_6_w14 M0) d_X5_takeClosing_17 f_5_39 (by decide) (by decide) (ty_6 hS.1.1) (st_6_6 hS (by decide) (by omega) trivial) (fun M17 hS w17 => ?_)
    refine Tr.iconst (pc := 20) d_X5_takeClosing_20 (by decide) ?_
    exact Tr.zret (pc := 21) d_X5_takeClosing_21 rfl (by omega) ⟨hS, _, rfl, by omega, by omega, fun _ => w17.1⟩
  · refine Tr.iconst (pc := 8) d_X5_takeClosing_8 (by decide) ?_
    exact Tr.zret (pc := 9) d_X5_takeClosing_9 rfl (by omega) ⟨hS, _, rfl, by omega, by omega, fun hq => absurd hq (by omega)⟩

def ws_X5_takeClosing_6_w15 : List (Int × Int) := [(6, 0), (6, 1), (6, 5), (6, 6)]
def as_X5_takeClosing_6_w15 : List Int := []
def q_X5_takeClosing_6_w15 (M0 M' : Mem) (r : Option PV) : Prop := St Tru ws_X5_takeClosing_6_w15 as_X5_takeClosing_6_w15 M0 M' ∧ ∃ v : Int, r = some (0, v) ∧ 0 ≤ v ∧ v ≤ 1 ∧ ((1 ≤ v ∧ v ≤ 1) → rd M' 6 6 = 0)
set_option maxRecDepth 100000 in
set_option maxHeartbeats 4000000 in
theorem sp_X5_takeClosing_6_w15 {l : Launch} {K : EC} {M0 : Mem} (hI : In Tru M0) (en_6_2 : rd M0 6 2 = 2) (en_6_6 : rd M0 6 6 = 1) (a1 : Int) (ha1 : 64 ≤ a1 ∧ a1 ≤ 99)  : Tr l K 2 mX5_takeClosing 0 [(0, (2, 6)), (1, (0, a1))] [] M0 (q_X5_takeClosing_6_w15 M0) := by
  have hS : St Tru ws_X5_takeClosing_6_w15 as_X5_takeClosing_6_w15 M0 M0 := St.rf hI
  refine Tr.aload_n (pc := 0) (i := 0) d_X5_takeClosing_0 rfl rfl ?_
  refine Tr.iload_n (pc := 1) (i := 1) d_X5_takeClosing_1 rfl rfl ?_
  refine Tr.callV (pc := 2) (as := [_]) d_X5_takeClosing_2 s_5_81 ok_X5_takeSign rfl rfl (Nat.le_of_ble_eq_true rfl) (Nat.le_of_ble_eq_true rfl) (by decide) (ty_6 hS.1.1) ?_
  refine Tr.imp (Tr.deep (by decide) (sp_X5_takeSign_6_w2 hS.1 ((St.kp hS (by decide) (by decide) (by decide)).trans en_6_2) a1 (by omega))) ?_
  rintro M2 _ ⟨h2, r2, rfl, lr2, ur2⟩
  have hS := St.tr hS h2 (by decide) (by decide)
  refine Tr.sc [(0, r2)] rfl ?_
  refine Tr.if_ne (pc := 5) (tgt := 10) d_X5_takeClosing_5 rfl (fun c5 => ?_) (fun c5 => ?_)
  · refine Tr.aload_n (pc := 10) (i := 0) d_X5_takeClosing_10 rfl rfl ?_
    refine Tr.dup (pc := 11) d_X5_takeClosing_11 ne21 ?_
    refine Tr.getf (pc := 12) d_X5_takeClosing_12 f_5_39 (by decide) (by decide) (ty_6 hS.1.1) ?_
    refine Tr.tp 1 ((St.kp h2 (by decide) (by decide) (by decide)).trans en_6_6) ?_
    refine Tr.iconst (pc := 15) d_X5_takeClosing_15 (by decide) ?_
    refine Tr.isub (pc := 16) d_X5_takeClosing_16 ?_
    refine Tr.tp 0 (by decide) ?_
    refine Tr.putfS (pc := 17) (P := St Tru ws_X5_takeClosing_6_w15 as_X5_takeClosing_6_w15 M0) d_X5_takeClosing_17 f_5_39 (by decide) (by decide) (ty_6 hS.1.1) (st_6_6 hS (by decide) (by omega) trivial) (fun M17 hS w17 => ?_)
    refine Tr.iconst (pc := 20) d_X5_takeClosing_20 (by decide) ?_
    exact Tr.zret (pc := 21) d_X5_takeClosing_21 rfl (by omega) ⟨hS, _, rfl, by omega, by omega, fun _ => w17.1⟩
  · refine Tr.iconst (pc := 8) d_X5_takeClosing_8 (by decide) ?_
    exact Tr.zret (pc := 9) d_X5_takeClosing_9 rfl (by omega) ⟨hS, _, rfl, by omega, by omega, fun hq => absurd hq (by omega)⟩

def ws_X5_isSign_6_w5 : List (Int × Int) := []
def as_X5_isSign_6_w5 : List Int := []
def q_X5_isSign_6_w5 (M0 M' : Mem) (r : Option PV) : Prop := St Tru ws_X5_isSign_6_w5 as_X5_isSign_6_w5 M0 M' ∧ ∃ v : Int, r = some (0, v) ∧ 0 ≤ v ∧ v ≤ 1
set_option maxRecDepth 100000 in
set_option maxHeartbeats 4000000 in
theorem sp_X5_isSign_6_w5 {l : Launch} {K : EC} {M0 : Mem} (hI : In Tru M0) (en_6_2 : rd M0 6 2 = 2) (a1 : Int) (ha1 : 123 ≤ a1 ∧ a1 ≤ 123)  : Tr l K 0 mX5_isSign 0 [(0, (2, 6)), (1, (0, a1))] [] M0 (q_X5_isSign_6_w5 M0) := by
  have hS : St Tru ws_X5_isSign_6_w5 as_X5_isSign_6_w5 M0 M0 := St.rf hI
  refine Tr.aload_n (pc := 0) (i := 0) d_X5_isSign_0 rfl rfl ?_
  refine Tr.getf (pc := 1) d_X5_isSign_1 f_5_18 (by decide) (by decide) (ty_6 hS.1.1) ?_
  refine Tr.tp 2 ((St.kp hS (by decide) (by decide) (by decide)).trans en_6_2) ?_
  refine Tr.getf (pc := 4) d_X5_isSign_4 f_5_50 (by decide) (by decide) (ty_2 hS.1.1) ?_
  refine Tr.tp 3 (fx_2_0 hS.1.1) ?_
  refine Tr.aload_n (pc := 7) (i := 0) d_X5_isSign_7 rfl rfl ?_
  refine Tr.getf (pc := 8) d_X5_isSign_8 f_5_36 (by decide) (by decide) (ty_6 hS.1.1) ?_
  refine Tr.gen (P := fun v => 0 ≤ v ∧ v ≤ 900) (ir_6_5 hS.1.2.1) (fun r8 er8 br8 => ?_)
  refine Tr.iald (pc := 11) d_X5_isSign_11 (ty_3 hS.1.1) (by omega) (by omega) ?_
  refine Tr.gen (P := fun v => (-2147483648) ≤ v ∧ v ≤ 2147483647) (ar_3 hS.1.2.1 _) (fun r11 er11 br11 => ?_)
  refine Tr.iconst (pc := 12) d_X5_isSign_12 (by decide) ?_
  refine Tr.icmp_ne (pc := 13) (tgt := 36) d_X5_isSign_13 rfl (fun c13 => ?_) (fun c13 => ?_)
  · refine Tr.iconst (pc := 36) d_X5_isSign_36 (by decide) ?_
    exact Tr.zret (pc := 37) d_X5_isSign_37 rfl (by omega) ⟨hS, _, rfl, by omega, by omega⟩
  · refine Tr.aload_n (pc := 16) (i := 0) d_X5_isSign_16 rfl rfl ?_
    refine Tr.getf (pc := 17) d_X5_isSign_17 f_5_18 (by decide) (by decide) (ty_6 hS.1.1) ?_
    refine Tr.tp 2 ((St.kp hS (by decide) (by decide) (by decide)).trans en_6_2) ?_
    refine Tr.getf (pc := 20) d_X5_isSign_20 f_5_68 (by decide) (by decide) (ty_2 hS.1.1) ?_
    refine Tr.tp 5 (fx_2_2 hS.1.1) ?_
    refine Tr.aload_n (pc := 23) (i := 0) d_X5_isSign_23 rfl rfl ?_
    refine Tr.getf (pc := 24) d_X5_isSign_24 f_5_36 (by decide) (by decide) (ty_6 hS.1.1) ?_
    refine Tr.tp r8 er8 ?_
    refine Tr.iald (pc := 27) d_X5_isSign_27 (ty_5 hS.1.1) (by omega) (by omega) ?_
    refine Tr.gen (P := fun v => (-2147483648) ≤ v ∧ v ≤ 2147483647) (ar_5 hS.1.2.1 _) (fun r27 er27 br27 => ?_)
    refine Tr.iload_n (pc := 28) (i := 1) d_X5_isSign_28 rfl rfl ?_
    refine Tr.tp 123 (by omega) ?_
    refine Tr.icmp_ne (pc := 29) (tgt := 36) d_X5_isSign_29 rfl (fun c29 => ?_) (fun c29 => ?_)
    · refine Tr.iconst (pc := 36) d_X5_isSign_36 (by decide) ?_
      exact Tr.zret (pc := 37) d_X5_isSign_37 rfl (by omega) ⟨hS, _, rfl, by omega, by omega⟩
    · refine Tr.iconst (pc := 32) d_X5_isSign_32 (by decide) ?_
      refine Tr.goto (pc := 33) (tgt := 37) d_X5_isSign_33 rfl ?_
      exact Tr.zret (pc := 37) d_X5_isSign_37 rfl (by omega) ⟨hS, _, rfl, by omega, by omega⟩

def ws_X5_takeOpening_6_w18 : List (Int × Int) := [(6, 0), (6, 1), (6, 5), (6, 6)]
def as_X5_takeOpening_6_w18 : List Int := []
def q_X5_takeOpening_6_w18 (M0 M' : Mem) (r : Option PV) : Prop := St Tru ws_X5_takeOpening_6_w18 as_X5_takeOpening_6_w18 M0 M' ∧ ∃ v : Int, r = some (0, v) ∧ 0 ≤ v ∧ v ≤ 1 ∧ ((1 ≤ v ∧ v ≤ 1) → rd M' 6 6 = 1)
set_option maxRecDepth 100000 in
set_option maxHeartbeats 4000000 in
theorem sp_X5_takeOpening_6_w18 {l : Launch} {K : EC} {M0 : Mem} (hI : In Tru M0) (en_6_2 : rd M0 6 2 = 2) (en_6_6 : rd M0 6 6 = 0) (a1 : Int) (ha1 : 123 ≤ a1 ∧ a1 ≤ 123)  : Tr l K 1 mX5_takeOpening 0 [(0, (2, 6)), (1, (0, a1))] [] M0 (q_X5_takeOpening_6_w18 M0) := by
  have hS : St Tru ws_X5_takeOpening_6_w18 as_X5_takeOpening_6_w18 M0 M0 := St.rf hI
  refine Tr.aload_n (pc := 0) (i := 0) d_X5_takeOpening_0 rfl rfl ?_
  refine Tr.iload_n (pc := 1) (i := 1) d_X5_takeOpening_1 rfl rfl ?_
  refine Tr.tp 123 (by omega) ?_
  refine Tr.callV (pc := 2) (as := [_]) d_X5_takeOpening_2 s_5_77 ok_X5_isSign rfl rfl (Nat.le_of_ble_eq_true rfl) (Nat.le_of_ble_eq_true rfl) (by decide) (ty_6 hS.1.1) ?_
  refine Tr.imp (Tr.deep (by decide) (sp_X5_isSign_6_w5 hS.1 ((St.kp hS (by decide) (by decide) (by decide)).trans en_6_2) 123 (by omega))) ?_
  rintro M2 _ ⟨h2, r2, rfl, lr2, ur2⟩
  have hS := St.tr hS h2 (by decide) (by decide)
  refine Tr.sc [(0, r2)] rfl ?_
  refine Tr.if_ne (pc := 5) (tgt := 14) d_X5_takeOpening_5 rfl (fun c5 => ?_) (fun c5 => ?_)
  · refine Tr.aload_n (pc := 14) (i := 0) d_X5_takeOpening_14 rfl rfl ?_
    refine Tr.getf (pc := 15) d_X5_takeOpening_15 f_5_39 (by decide) (by decide) (ty_6 hS.1.1) ?_
    refine Tr.tp 0 ((St.kp h2 (by decide) (by decide) (by decide)).trans en_6_6) ?_
    refine Tr.bipush (pc := 18) d_X5_takeOpening_18 rfl (by decide) ?_
    refine Tr.icmp_ne (pc := 20) (tgt := 29) d_X5_takeOpening_20 rfl (fun _ => ?_) (fun hc => absurd hc (by omega))
    refine Tr.aload_n (pc := 29) (i := 0) d_X5_takeOpening_29 rfl rfl ?_
    refine Tr.dup (pc := 30) d_X5_takeOpening_30 ne21 ?_
    refine Tr.getf (pc := 31) d_X5_takeOpening_31 f_5_39 (by decide) (by decide) (ty_6 hS.1.1) ?_
    refine Tr.tp 0 ((St.kp h2 (by decide) (by decide) (by decide)).trans en_6_6) ?_
    refine Tr.iconst (pc := 34) d_X5_takeOpening_34 (by decide) ?_
    refine Tr.iadd (pc := 35) d_X5_takeOpening_35 ?_
    refine Tr.tp 1 (by decide) ?_
    refine Tr.putfS (pc := 36) (P := St Tru ws_X5_takeOpening_6_w18 as_X5_takeOpening_6_w18 M0) d_X5_takeOpening_36 f_5_39 (by decide) (by decide) (ty_6 hS.1.1) (st_6_6 hS (by decide) (by omega) trivial) (fun M36 hS w36 => ?_)
    refine Tr.aload_n (pc := 39) (i := 0) d_X5_takeOpening_39 rfl rfl ?_
    refine Tr.callV (pc := 40) (as := []) d_X5_takeOpening_40 s_5_74 ok_X5_goOn rfl rfl (Nat.le_of_ble_eq_true rfl) (Nat.le_of_ble_eq_true rfl) (by decide) (ty_6 hS.1.1) ?_
    refine Tr.imp (Tr.deep (by decide) (sp_X5_goOn_6 hS.1 )) ?_
    rintro M40 _ ⟨h40, r40, rfl, lr40, ur40⟩
    have hS := St.tr hS h40 (by decide) (by decide)
    refine Tr.sc [(0, r40)] rfl ?_
    exact Tr.zret (pc := 43) d_X5_takeOpening_43 rfl (by omega) ⟨hS, _, rfl, by omega, by omega, fun _ => ((St.kp h40 (by decide) (by decide) (by decide)).trans w36.1)⟩
  · refine Tr.aload_n (pc := 8) (i := 0) d_X5_takeOpening_8 rfl rfl ?_
    refine Tr.iconst (pc := 9) d_X5_takeOpening_9 (by decide) ?_
    refine Tr.callV (pc := 10) (as := [_]) d_X5_takeOpening_10 s_5_56 ok_X5_refuse rfl rfl (Nat.le_of_ble_eq_true rfl) (Nat.le_of_ble_eq_true rfl) (by decide) (ty_6 hS.1.1) ?_
    refine Tr.imp (Tr.deep (by decide) (sp_X5_refuse_6_w1 hS.1 ((St.kp hS (by decide) (by decide) (by decide)).trans en_6_2) 1 (by omega))) ?_
    rintro M10 _ ⟨h10, r10, rfl, lr10, ur10⟩
    have hS := St.tr hS h10 (by decide) (by decide)
    refine Tr.sc [(0, r10)] rfl ?_
    exact Tr.zret (pc := 13) d_X5_takeOpening_13 rfl (by omega) ⟨hS, _, rfl, by omega, by omega, fun hq => absurd hq (by omega)⟩

def ws_X4_open_35_w1 : List (Int × Int) := [(35, 0)]
def as_X4_open_35_w1 : List Int := [36, 37, 38, 39, 40, 41, 42]
def q_X4_open_35_w1 (M0 M' : Mem) (r : Option PV) : Prop := St Tru ws_X4_open_35_w1 as_X4_open_35_w1 M0 M' ∧ ∃ v : Int, r = some (0, v) ∧ 0 ≤ v ∧ v ≤ 59
set_option maxRecDepth 100000 in
set_option maxHeartbeats 4000000 in
theorem sp_X4_open_35_w1 {l : Launch} {K : EC} {M0 : Mem} (hI : In Tru M0)  (a1 : Int) (ha1 : (-2147483648) ≤ a1 ∧ a1 ≤ 2147483647) (a2 : Int) (ha2 : 0 ≤ a2 ∧ a2 ≤ 59)  (hpm : rd M0 35 0 ≤ 59) : Tr l K 0 mX4_open 0 [(0, (2, 35)), (1, (0, a1)), (2, (0, a2))] [] M0 (q_X4_open_35_w1 M0) := by
  have hS : St Tru ws_X4_open_35_w1 as_X4_open_35_w1 M0 M0 := St.rf hI
  refine Tr.aload_n (pc := 0) (i := 0) d_X4_open_0 rfl rfl ?_
  refine Tr.getf (pc := 1) d_X4_open_1 f_4_45 (by decide) (by decide) (ty_35 hS.1.1) ?_
  refine Tr.gen (P := fun v => 0 ≤ v ∧ v ≤ 59) (by have h8 := ir_35_0 hS.1.2.1; exact ⟨h8.1, hpm⟩) (fun r1 er1 br1 => ?_)
  refine Tr.istore_n (pc := 4) (i := 3) (ls2 := [(3, (0, r1)), (0, (2, 35)), (1, (0, a1)), (2, (0, a2))]) d_X4_open_4 rfl (by decide) rfl ?_
  refine Tr.aload_n (pc := 5) (i := 0) d_X4_open_5 rfl rfl ?_
  refine Tr.getf (pc := 6) d_X4_open_6 f_4_9 (by decide) (by decide) (ty_35 hS.1.1) ?_
  refine Tr.tp 36 (fx_35_1 hS.1.1) ?_
  refine Tr.iload_n (pc := 9) (i := 3) d_X4_open_9 rfl rfl ?_
  refine Tr.iload_n (pc := 10) (i := 1) d_X4_open_10 rfl rfl ?_
  refine Tr.iastS (pc := 11) (P := St Tru ws_X4_open_35_w1 as_X4_open_35_w1 M0) d_X4_open_11 (ty_36 hS.1.1) (by omega) (by omega) (sa_36 hS (by decide) (by omega) trivial) (fun M11 hS w11 => ?_)
  refine Tr.aload_n (pc := 12) (i := 0) d_X4_open_12 rfl rfl ?_
  refine Tr.getf (pc := 13) d_X4_open_13 f_4_15 (by decide) (by decide) (ty_35 hS.1.1) ?_
  refine Tr.tp 37 (fx_35_2 hS.1.1) ?_
  refine Tr.iload_n (pc := 16) (i := 3) d_X4_open_16 rfl rfl ?_
  refine Tr.iconst (pc := 17) d_X4_open_17 (by decide) ?_
  refine Tr.iastS (pc := 18) (P := St Tru ws_X4_open_35_w1 as_X4_open_35_w1 M0) d_X4_open_18 (ty_37 hS.1.1) (by omega) (by omega) (sa_37 hS (by decide) (by omega) trivial) (fun M18 hS w18 => ?_)
  refine Tr.aload_n (pc := 19) (i := 0) d_X4_open_19 rfl rfl ?_
  refine Tr.getf (pc := 20) d_X4_open_20 f_4_18 (by decide) (by decide) (ty_35 hS.1.1) ?_
  refine Tr.tp 38 (fx_35_3 hS.1.1) ?_
  refine Tr.iload_n (pc := 23) (i := 3) d_X4_open_23 rfl rfl ?_
  refine Tr.aload_n (pc := 24) (i := 0) d_X4_open_24 rfl rfl ?_
  refine Tr.getf (pc := 25) d_X4_open_25 f_4_49 (by decide) (by decide) (ty_35 hS.1.1) ?_
  refine Tr.gen (P := fun v => 0 ≤ v ∧ v ≤ 900) (ir_35_11 hS.1.2.1) (fun r25 er25 br25 => ?_)
  refine Tr.iastS (pc := 28) (P := St Tru ws_X4_open_35_w1 as_X4_open_35_w1 M0) d_X4_open_28 (ty_38 hS.1.1) (by omega) (by omega) (sa_38 hS (by decide) (by omega) trivial) (fun M28 hS w28 => ?_)
  refine Tr.aload_n (pc := 29) (i := 0) d_X4_open_29 rfl rfl ?_
  refine Tr.getf (pc := 30) d_X4_open_30 f_4_21 (by decide) (by decide) (ty_35 hS.1.1) ?_
  refine Tr.tp 39 (fx_35_4 hS.1.1) ?_
  refine Tr.iload_n (pc := 33) (i := 3) d_X4_open_33 rfl rfl ?_
  refine Tr.iconst (pc := 34) d_X4_open_34 (by decide) ?_
  refine Tr.iastS (pc := 35) (P := St Tru ws_X4_open_35_w1 as_X4_open_35_w1 M0) d_X4_open_35 (ty_39 hS.1.1) (by omega) (by omega) (sa_39 hS (by decide) (by omega) trivial) (fun M35 hS w35 => ?_)
  refine Tr.aload_n (pc := 36) (i := 0) d_X4_open_36 rfl rfl ?_
  refine Tr.getf (pc := 37) d_X4_open_37 f_4_24 (by decide) (by decide) (ty_35 hS.1.1) ?_
  refine Tr.tp 40 (fx_35_5 hS.1.1) ?_
  refine Tr.iload_n (pc := 40) (i := 3) d_X4_open_40 rfl rfl ?_
  refine Tr.iconst (pc := 41) d_X4_open_41 (by decide) ?_
  refine Tr.iastS (pc := 42) (P := St Tru ws_X4_open_35_w1 as_X4_open_35_w1 M0) d_X4_open_42 (ty_40 hS.1.1) (by omega) (by omega) (sa_40 hS (by decide) (by omega) trivial) (fun M42 hS w42 => ?_)
  refine Tr.aload_n (pc := 43) (i := 0) d_X4_open_43 rfl rfl ?_
  refine Tr.getf (pc := 44) d_X4_open_44 f_4_27 (by decide) (by decide) (ty_35 hS.1.1) ?_
  refine Tr.tp 41 (fx_35_6 hS.1.1) ?_
  refine Tr.iload_n (pc := 47) (i := 3) d_X4_open_47 rfl rfl ?_
  refine Tr.iconst (pc := 48) d_X4_open_48 (by decide) ?_
  refine Tr.iastS (pc := 49) (P := St Tru ws_X4_open_35_w1 as_X4_open_35_w1 M0) d_X4_open_49 (ty_41 hS.1.1) (by omega) (by omega) (sa_41 hS (by decide) (by omega) trivial) (fun M49 hS w49 => ?_)
  refine Tr.aload_n (pc := 50) (i := 0) d_X4_open_50 rfl rfl ?_
  refine Tr.getf (pc := 51) d_X4_open_51 f_4_30 (by decide) (by decide) (ty_35 hS.1.1) ?_
  refine Tr.tp 42 (fx_35_7 hS.1.1) ?_
  refine Tr.iload_n (pc := 54) (i := 3) d_X4_open_54 rfl rfl ?_
  refine Tr.iload_n (pc := 55) (i := 2) d_X4_open_55 rfl rfl ?_
  refine Tr.iastS (pc := 56) (P := St Tru ws_X4_open_35_w1 as_X4_open_35_w1 M0) d_X4_open_56 (ty_42 hS.1.1) (by omega) (by omega) (sa_42 hS (by decide) (by omega) trivial) (fun M56 hS w56 => ?_)
  refine Tr.aload_n (pc := 57) (i := 0) d_X4_open_57 rfl rfl ?_
  refine Tr.dup (pc := 58) d_X4_open_58 ne21 ?_
  refine Tr.getf (pc := 59) d_X4_open_59 f_4_45 (by decide) (by decide) (ty_35 hS.1.1) ?_
  refine Tr.tp r1 ((Wr.b w56 rfl).trans ((Wr.b w49 rfl).trans ((Wr.b w42 rfl).trans ((Wr.b w35 rfl).trans ((Wr.b w28 rfl).trans ((Wr.b w18 rfl).trans ((Wr.b w11 rfl).trans er1))))))) ?_
  refine Tr.iconst (pc := 62) d_X4_open_62 (by decide) ?_
  refine Tr.iadd (pc := 63) d_X4_open_63 ?_
  refine Tr.tp (r1 + 1) ((w32_id (by omega)).trans (by omega)) ?_
  refine Tr.putfS (pc := 64) (P := St Tru ws_X4_open_35_w1 as_X4_open_35_w1 M0) d_X4_open_64 f_4_45 (by decide) (by decide) (ty_35 hS.1.1) (st_35_0 hS (by decide) (by omega) trivial) (fun M64 hS w64 => ?_)
  refine Tr.iload_n (pc := 67) (i := 3) d_X4_open_67 rfl rfl ?_
  exact Tr.iret (pc := 68) d_X4_open_68 rfl ⟨hS, _, rfl, by omega, by omega⟩

def ws_X5_takeOpening_6_w19 : List (Int × Int) := [(6, 0), (6, 1), (6, 5), (6, 6)]
def as_X5_takeOpening_6_w19 : List Int := []
def q_X5_takeOpening_6_w19 (M0 M' : Mem) (r : Option PV) : Prop := St Tru ws_X5_takeOpening_6_w19 as_X5_takeOpening_6_w19 M0 M' ∧ ∃ v : Int, r = some (0, v) ∧ 0 ≤ v ∧ v ≤ 1 ∧ ((1 ≤ v ∧ v ≤ 1) → rd M' 6 6 = 2)
set_option maxRecDepth 100000 in
set_option maxHeartbeats 4000000 in
theorem sp_X5_takeOpening_6_w19 {l : Launch} {K : EC} {M0 : Mem} (hI : In Tru M0) (en_6_2 : rd M0 6 2 = 2) (en_6_6 : rd M0 6 6 = 1) (a1 : Int) (ha1 : 123 ≤ a1 ∧ a1 ≤ 123)  : Tr l K 1 mX5_takeOpening 0 [(0, (2, 6)), (1, (0, a1))] [] M0 (q_X5_takeOpening_6_w19 M0) := by
  have hS : St Tru ws_X5_takeOpening_6_w19 as_X5_takeOpening_6_w19 M0 M0 := St.rf hI
  refine Tr.aload_n (pc := 0) (i := 0) d_X5_takeOpening_0 rfl rfl ?_
  refine Tr.iload_n (pc := 1) (i := 1) d_X5_takeOpening_1 rfl rfl ?_
  refine Tr.tp 123 (by omega) ?_
  refine Tr.callV (pc := 2) (as := [_]) d_X5_takeOpening_2 s_5_77 ok_X5_isSign rfl rfl (Nat.le_of_ble_eq_true rfl) (Nat.le_of_ble_eq_true rfl) (by decide) (ty_6 hS.1.1) ?_
  refine Tr.imp (Tr.deep (by decide) (sp_X5_isSign_6_w5 hS.1 ((St.kp hS (by decide) (by decide) (by decide)).trans en_6_2) 123 (by omega))) ?_
  rintro M2 _ ⟨h2, r2, rfl, lr2, ur2⟩
  have hS := St.tr hS h2 (by decide) (by decide)
  refine Tr.sc [(0, r2)] rfl ?_
  refine Tr.if_ne (pc := 5) (tgt := 14) d_X5_takeOpening_5 rfl (fun c5 => ?_) (fun c5 => ?_)
  · refine Tr.aload_n (pc := 14) (i := 0) d_X5_takeOpening_14 rfl rfl ?_
    refine Tr.getf (pc := 15) d_X5_takeOpening_15 f_5_39 (by decide) (by decide) (ty_6 hS.1.1) ?_
    refine Tr.tp 1 ((St.kp h2 (by decide) (by decide) (by decide)).trans en_6_6) ?_
    refine Tr.bipush (pc := 18) d_X5_takeOpening_18 rfl (by decide) ?_
    refine Tr.icmp_ne (pc := 20) (tgt := 29) d_X5_takeOpening_20 rfl (fun _ => ?_) (fun hc => absurd hc (by omega))
    refine Tr.aload_n (pc := 29) (i := 0) d_X5_takeOpening_29 rfl rfl ?_
    refine Tr.dup (pc := 30) d_X5_takeOpening_30 ne21 ?_
    refine Tr.getf (pc := 31) d_X5_takeOpening_31 f_5_39 (by decide) (by decide) (ty_6 hS.1.1) ?_
    refine Tr.tp 1 ((St.kp h2 (by decide) (by decide) (by decide)).trans en_6_6) ?_
    refine Tr.iconst (pc := 34) d_X5_takeOpening_34 (by decide) ?_
    refine Tr.iadd (pc := 35) d_X5_takeOpening_35 ?_
    refine Tr.tp 2 (by decide) ?_
    refine Tr.putfS (pc := 36) (P := St Tru ws_X5_takeOpening_6_w19 as_X5_takeOpening_6_w19 M0) d_X5_takeOpening_36 f_5_39 (by decide) (by decide) (ty_6 hS.1.1) (st_6_6 hS (by decide) (by omega) trivial) (fun M36 hS w36 => ?_)
    refine Tr.aload_n (pc := 39) (i := 0) d_X5_takeOpening_39 rfl rfl ?_
    refine Tr.callV (pc := 40) (as := []) d_X5_takeOpening_40 s_5_74 ok_X5_goOn rfl rfl (Nat.le_of_ble_eq_true rfl) (Nat.le_of_ble_eq_true rfl) (by decide) (ty_6 hS.1.1) ?_
    refine Tr.imp (Tr.deep (by decide) (sp_X5_goOn_6 hS.1 )) ?_
    rintro M40 _ ⟨h40, r40, rfl, lr40, ur40⟩
    have hS := St.tr hS h40 (by decide) (by decide)
    refine Tr.sc [(0, r40)] rfl ?_
    exact Tr.zret (pc := 43) d_X5_takeOpening_43 rfl (by omega) ⟨hS, _, rfl, by omega, by omega, fun _ => ((St.kp h40 (by decide) (by decide) (by decide)).trans w36.1)⟩
  · refine Tr.aload_n (pc := 8) (i := 0) d_X5_takeOpening_8 rfl rfl ?_
    refine Tr.iconst (pc := 9) d_X5_takeOpening_9 (by decide) ?_
    refine Tr.callV (pc := 10) (as := [_]) d_X5_takeOpening_10 s_5_56 ok_X5_refuse rfl rfl (Nat.le_of_ble_eq_true rfl) (Nat.le_of_ble_eq_true rfl) (by decide) (ty_6 hS.1.1) ?_
    refine Tr.imp (Tr.deep (by decide) (sp_X5_refuse_6_w1 hS.1 ((St.kp hS (by decide) (by decide) (by decide)).trans en_6_2) 1 (by omega))) ?_
    rintro M10 _ ⟨h10, r10, rfl, lr10, ur10⟩
    have hS := St.tr hS h10 (by decide) (by decide)
    refine Tr.sc [(0, r10)] rfl ?_
    exact Tr.zret (pc := 13) d_X5_takeOpening_13 rfl (by omega) ⟨hS, _, rfl, by omega, by omega, fun hq => absurd hq (by omega)⟩

def ws_X5_takeOpening_6_w20 : List (Int × Int) := [(6, 0), (6, 1), (6, 5), (6, 6)]
def as_X5_takeOpening_6_w20 : List Int := []
def q_X5_takeOpening_6_w20 (M0 M' : Mem) (r : Option PV) : Prop := St Tru ws_X5_takeOpening_6_w20 as_X5_takeOpening_6_w20 M0 M' ∧ ∃ v : Int, r = some (0, v) ∧ 0 ≤ v ∧ v ≤ 1 ∧ ((1 ≤ v ∧ v ≤ 1) → rd M' 6 6 = 3)
set_option maxRecDepth 100000 in
set_option maxHeartbeats 4000000 in
theorem sp_X5_takeOpening_6_w20 {l : Launch} {K : EC} {M0 : Mem} (hI : In Tru M0) (en_6_2 : rd M0 6 2 = 2) (en_6_6 : rd M0 6 6 = 2) (a1 : Int) (ha1 : 123 ≤ a1 ∧ a1 ≤ 123)  : Tr l K 1 mX5_takeOpening 0 [(0, (2, 6)), (1, (0, a1))] [] M0 (q_X5_takeOpening_6_w20 M0) := by
  have hS : St Tru ws_X5_takeOpening_6_w20 as_X5_takeOpening_6_w20 M0 M0 := St.rf hI
  refine Tr.aload_n (pc := 0) (i := 0) d_X5_takeOpening_0 rfl rfl ?_
  refine Tr.iload_n (pc := 1) (i := 1) d_X5_takeOpening_1 rfl rfl ?_
  refine Tr.tp 123 (by omega) ?_
  refine Tr.callV (pc := 2) (as := [_]) d_X5_takeOpening_2 s_5_77 ok_X5_isSign rfl rfl (Nat.le_of_ble_eq_true rfl) (Nat.le_of_ble_eq_true rfl) (by decide) (ty_6 hS.1.1) ?_
  refine Tr.imp (Tr.deep (by decide) (sp_X5_isSign_6_w5 hS.1 ((St.kp hS (by decide) (by decide) (by decide)).trans en_6_2) 123 (by omega))) ?_
  rintro M2 _ ⟨h2, r2, rfl, lr2, ur2⟩
  have hS := St.tr hS h2 (by decide) (by decide)
  refine Tr.sc [(0, r2)] rfl ?_
  refine Tr.if_ne (pc := 5) (tgt := 14) d_X5_takeOpening_5 rfl (fun c5 => ?_) (fun c5 => ?_)
  · refine Tr.aload_n (pc := 14) (i := 0) d_X5_takeOpening_14 rfl rfl ?_
    refine Tr.getf (pc := 15) d_X5_takeOpening_15 f_5_39 (by decide) (by decide) (ty_6 hS.1.1) ?_
    refine Tr.tp 2 ((St.kp h2 (by decide) (by decide) (by decide)).trans en_6_6) ?_
    refine Tr.bipush (pc := 18) d_X5_takeOpening_18 rfl (by decide) ?_
    refine Tr.icmp_ne (pc := 20) (tgt := 29) d_X5_takeOpening_20 rfl (fun _ => ?_) (fun hc => absurd hc (by omega))
    refine Tr.aload_n (pc := 29) (i := 0) d_X5_takeOpening_29 rfl rfl ?_
    refine Tr.dup (pc := 30) d_X5_takeOpening_30 ne21 ?_
    refine Tr.getf (pc := 31) d_X5_takeOpening_31 f_5_39 (by decide) (by decide) (ty_6 hS.1.1) ?_
    refine Tr.tp 2 ((St.kp h2 (by decide) (by decide) (by decide)).trans en_6_6) ?_
    refine Tr.iconst (pc := 34) d_X5_takeOpening_34 (by decide) ?_
    refine Tr.iadd (pc := 35) d_X5_takeOpening_35 ?_
    refine Tr.tp 3 (by decide) ?_
    refine Tr.putfS (pc := 36) (P := St Tru ws_X5_takeOpening_6_w20 as_X5_takeOpening_6_w20 M0) d_X5_takeOpening_36 f_5_39 (by decide) (by decide) (ty_6 hS.1.1) (st_6_6 hS (by decide) (by omega) trivial) (fun M36 hS w36 => ?_)
    refine Tr.aload_n (pc := 39) (i := 0) d_X5_takeOpening_39 rfl rfl ?_
    refine Tr.callV (pc := 40) (as := []) d_X5_takeOpening_40 s_5_74 ok_X5_goOn rfl rfl (Nat.le_of_ble_eq_true rfl) (Nat.le_of_ble_eq_true rfl) (by decide) (ty_6 hS.1.1) ?_
    refine Tr.imp (Tr.deep (by decide) (sp_X5_goOn_6 hS.1 )) ?_
    rintro M40 _ ⟨h40, r40, rfl, lr40, ur40⟩
    have hS := St.tr hS h40 (by decide) (by decide)
    refine Tr.sc [(0, r40)] rfl ?_
    exact Tr.zret (pc := 43) d_X5_takeOpening_43 rfl (by omega) ⟨hS, _, rfl, by omega, by omega, fun _ => ((St.kp h40 (by decide) (by decide) (by decide)).trans w36.1)⟩
  · refine Tr.aload_n (pc := 8) (i := 0) d_X5_takeOpening_8 rfl rfl ?_
    refine Tr.iconst (pc := 9) d_X5_takeOpening_9 (by decide) ?_
    refine Tr.callV (pc := 10) (as := [_]) d_X5_takeOpening_10 s_5_56 ok_X5_refuse rfl rfl (Nat.le_of_ble_eq_true rfl) (Nat.le_of_ble_eq_true rfl) (by decide) (ty_6 hS.1.1) ?_
    refine Tr.imp (Tr.deep (by decide) (sp_X5_refuse_6_w1 hS.1 ((St.kp hS (by decide) (by decide) (by decide)).trans en_6_2) 1 (by omega))) ?_
    rintro M10 _ ⟨h10, r10, rfl, lr10, ur10⟩
    have hS := St.tr hS h10 (by decide) (by decide)
    refine Tr.sc [(0, r10)] rfl ?_
    exact Tr.zret (pc := 13) d_X5_takeOpening_13 rfl (by omega) ⟨hS, _, rfl, by omega, by omega, fun hq => absurd hq (by omega)⟩

def ws_X5_takeOpening_6_w21 : List (Int × Int) := [(6, 0), (6, 1), (6, 5), (6, 6)]
def as_X5_takeOpening_6_w21 : List Int := []
def q_X5_takeOpening_6_w21 (M0 M' : Mem) (r : Option PV) : Prop := St Tru ws_X5_takeOpening_6_w21 as_X5_takeOpening_6_w21 M0 M' ∧ ∃ v : Int, r = some (0, v) ∧ 0 ≤ v ∧ v ≤ 1 ∧ ((1 ≤ v ∧ v ≤ 1) → rd M' 6 6 = 4)
set_option maxRecDepth 100000 in
set_option maxHeartbeats 4000000 in
theorem sp_X5_takeOpening_6_w21 {l : Launch} {K : EC} {M0 : Mem} (hI : In Tru M0) (en_6_2 : rd M0 6 2 = 2) (en_6_6 : rd M0 6 6 = 3) (a1 : Int) (ha1 : 123 ≤ a1 ∧ a1 ≤ 123)  : Tr l K 1 mX5_takeOpening 0 [(0, (2, 6)), (1, (0, a1))] [] M0 (q_X5_takeOpening_6_w21 M0) := by
  have hS : St Tru ws_X5_takeOpening_6_w21 as_X5_takeOpening_6_w21 M0 M0 := St.rf hI
  refine Tr.aload_n (pc := 0) (i := 0) d_X5_takeOpening_0 rfl rfl ?_
  refine Tr.iload_n (pc := 1) (i := 1) d_X5_takeOpening_1 rfl rfl ?_
  refine Tr.tp 123 (by omega) ?_
  refine Tr.callV (pc := 2) (as := [_]) d_X5_takeOpening_2 s_5_77 ok_X5_isSign rfl rfl (Nat.le_of_ble_eq_true rfl) (Nat.le_of_ble_eq_true rfl) (by decide) (ty_6 hS.1.1) ?_
  refine Tr.imp (Tr.deep (by decide) (sp_X5_isSign_6_w5 hS.1 ((St.kp hS (by decide) (by decide) (by decide)).trans en_6_2) 123 (by omega))) ?_
  rintro M2 _ ⟨h2, r2, rfl, lr2, ur2⟩
  have hS := St.tr hS h2 (by decide) (by decide)
  refine Tr.sc [(0, r2)] rfl ?_
  refine Tr.if_ne (pc := 5) (tgt := 14) d_X5_takeOpening_5 rfl (fun c5 => ?_) (fun c5 => ?_)
  · refine Tr.aload_n (pc := 14) (i := 0) d_X5_takeOpening_14 rfl rfl ?_
    refine Tr.getf (pc := 15) d_X5_takeOpening_15 f_5_39 (by decide) (by decide) (ty_6 hS.1.1) ?_
    refine Tr.tp 3 ((St.kp h2 (by decide) (by decide) (by decide)).trans en_6_6) ?_
    refine Tr.bipush (pc := 18) d_X5_takeOpening_18 rfl (by decide) ?_
    refine Tr.icmp_ne (pc := 20) (tgt := 29) d_X5_takeOpening_20 rfl (fun _ => ?_) (fun hc => absurd hc (by omega))
    refine Tr.aload_n (pc := 29) (i := 0) d_X5_takeOpening_29 rfl rfl ?_
    refine Tr.dup (pc := 30) d_X5_takeOpening_30 ne21 ?_
    refine Tr.getf (pc := 31) d_X5_takeOpening_31 f_5_39 (by decide) (by decide) (ty_6 hS.1.1) ?_
    refine Tr.tp 3 ((St.kp h2 (by decide) (by decide) (by decide)).trans en_6_6) ?_
    refine Tr.iconst (pc := 34) d_X5_takeOpening_34 (by decide) ?_
    refine Tr.iadd (pc := 35) d_X5_takeOpening_35 ?_
    refine Tr.tp 4 (by decide) ?_
    refine Tr.putfS (pc := 36) (P := St Tru ws_X5_takeOpening_6_w21 as_X5_takeOpening_6_w21 M0) d_X5_takeOpening_36 f_5_39 (by decide) (by decide) (ty_6 hS.1.1) (st_6_6 hS (by decide) (by omega) trivial) (fun M36 hS w36 => ?_)
    refine Tr.aload_n (pc := 39) (i := 0) d_X5_takeOpening_39 rfl rfl ?_
    refine Tr.callV (pc := 40) (as := []) d_X5_takeOpening_40 s_5_74 ok_X5_goOn rfl rfl (Nat.le_of_ble_eq_true rfl) (Nat.le_of_ble_eq_true rfl) (by decide) (ty_6 hS.1.1) ?_
    refine Tr.imp (Tr.deep (by decide) (sp_X5_goOn_6 hS.1 )) ?_
    rintro M40 _ ⟨h40, r40, rfl, lr40, ur40⟩
    have hS := St.tr hS h40 (by decide) (by decide)
    refine Tr.sc [(0, r40)] rfl ?_
    exact Tr.zret (pc := 43) d_X5_takeOpening_43 rfl (by omega) ⟨hS, _, rfl, by omega, by omega, fun _ => ((St.kp h40 (by decide) (by decide) (by decide)).trans w36.1)⟩
  · refine Tr.aload_n (pc := 8) (i := 0) d_X5_takeOpening_8 rfl rfl ?_
    refine Tr.iconst (pc := 9) d_X5_takeOpening_9 (by decide) ?_
    refine Tr.callV (pc := 10) (as := [_]) d_X5_takeOpening_10 s_5_56 ok_X5_refuse rfl rfl (Nat.le_of_ble_eq_true rfl) (Nat.le_of_ble_eq_true rfl) (by decide) (ty_6 hS.1.1) ?_
    refine Tr.imp (Tr.deep (by decide) (sp_X5_refuse_6_w1 hS.1 ((St.kp hS (by decide) (by decide) (by decide)).trans en_6_2) 1 (by omega))) ?_
    rintro M10 _ ⟨h10, r10, rfl, lr10, ur10⟩
    have hS := St.tr hS h10 (by decide) (by decide)
    refine Tr.sc [(0, r10)] rfl ?_
    exact Tr.zret (pc := 13) d_X5_takeOpening_13 rfl (by omega) ⟨hS, _, rfl, by omega, by omega, fun hq => absurd hq (by omega)⟩

def ws_X5_takeOpening_6_w22 : List (Int × Int) := [(6, 0), (6, 1), (6, 5), (6, 6)]
def as_X5_takeOpening_6_w22 : List Int := []
def q_X5_takeOpening_6_w22 (M0 M' : Mem) (r : Option PV) : Prop := St Tru ws_X5_takeOpening_6_w22 as_X5_takeOpening_6_w22 M0 M' ∧ ∃ v : Int, r = some (0, v) ∧ 0 ≤ v ∧ v ≤ 1 ∧ ((1 ≤ v ∧ v ≤ 1) → rd M' 6 6 = 5)
set_option maxRecDepth 100000 in
set_option maxHeartbeats 4000000 in
theorem sp_X5_takeOpening_6_w22 {l : Launch} {K : EC} {M0 : Mem} (hI : In Tru M0) (en_6_2 : rd M0 6 2 = 2) (en_6_6 : rd M0 6 6 = 4) (a1 : Int) (ha1 : 123 ≤ a1 ∧ a1 ≤ 123)  : Tr l K 1 mX5_takeOpening 0 [(0, (2, 6)), (1, (0, a1))] [] M0 (q_X5_takeOpening_6_w22 M0) := by
  have hS : St Tru ws_X5_takeOpening_6_w22 as_X5_takeOpening_6_w22 M0 M0 := St.rf hI
  refine Tr.aload_n (pc := 0) (i := 0) d_X5_takeOpening_0 rfl rfl ?_
  refine Tr.iload_n (pc := 1) (i := 1) d_X5_takeOpening_1 rfl rfl ?_
  refine Tr.tp 123 (by omega) ?_
  refine Tr.callV (pc := 2) (as := [_]) d_X5_takeOpening_2 s_5_77 ok_X5_isSign rfl rfl (Nat.le_of_ble_eq_true rfl) (Nat.le_of_ble_eq_true rfl) (by decide) (ty_6 hS.1.1) ?_
  refine Tr.imp (Tr.deep (by decide) (sp_X5_isSign_6_w5 hS.1 ((St.kp hS (by decide) (by decide) (by decide)).trans en_6_2) 123 (by omega))) ?_
  rintro M2 _ ⟨h2, r2, rfl, lr2, ur2⟩
  have hS := St.tr hS h2 (by decide) (by decide)
  refine Tr.sc [(0, r2)] rfl ?_
  refine Tr.if_ne (pc := 5) (tgt := 14) d_X5_takeOpening_5 rfl (fun c5 => ?_) (fun c5 => ?_)
  · refine Tr.aload_n (pc := 14) (i := 0) d_X5_takeOpening_14 rfl rfl ?_
    refine Tr.getf (pc := 15) d_X5_takeOpening_15 f_5_39 (by decide) (by decide) (ty_6 hS.1.1) ?_
    refine Tr.tp 4 ((St.kp h2 (by decide) (by decide) (by decide)).trans en_6_6) ?_
    refine Tr.bipush (pc := 18) d_X5_takeOpening_18 rfl (by decide) ?_
    refine Tr.icmp_ne (pc := 20) (tgt := 29) d_X5_takeOpening_20 rfl (fun _ => ?_) (fun hc => absurd hc (by omega))
    refine Tr.aload_n (pc := 29) (i := 0) d_X5_takeOpening_29 rfl rfl ?_
    refine Tr.dup (pc := 30) d_X5_takeOpening_30 ne21 ?_
    refine Tr.getf (pc := 31) d_X5_takeOpening_31 f_5_39 (by decide) (by decide) (ty_6 hS.1.1) ?_
    refine Tr.tp 4 ((St.kp h2 (by decide) (by decide) (by decide)).trans en_6_6) ?_
    refine Tr.iconst (pc := 34) d_X5_takeOpening_34 (by decide) ?_
    refine Tr.iadd (pc := 35) d_X5_takeOpening_35 ?_
    refine Tr.tp 5 (by decide) ?_
    refine Tr.putfS (pc := 36) (P := St Tru ws_X5_takeOpening_6_w22 as_X5_takeOpening_6_w22 M0) d_X5_takeOpening_36 f_5_39 (by decide) (by decide) (ty_6 hS.1.1) (st_6_6 hS (by decide) (by omega) trivial) (fun M36 hS w36 => ?_)
    refine Tr.aload_n (pc := 39) (i := 0) d_X5_takeOpening_39 rfl rfl ?_
    refine Tr.callV (pc := 40) (as := []) d_X5_takeOpening_40 s_5_74 ok_X5_goOn rfl rfl (Nat.le_of_ble_eq_true rfl) (Nat.le_of_ble_eq_true rfl) (by decide) (ty_6 hS.1.1) ?_
    refine Tr.imp (Tr.deep (by decide) (sp_X5_goOn_6 hS.1 )) ?_
    rintro M40 _ ⟨h40, r40, rfl, lr40, ur40⟩
    have hS := St.tr hS h40 (by decide) (by decide)
    refine Tr.sc [(0, r40)] rfl ?_
    exact Tr.zret (pc := 43) d_X5_takeOpening_43 rfl (by omega) ⟨hS, _, rfl, by omega, by omega, fun _ => ((St.kp h40 (by decide) (by decide) (by decide)).trans w36.1)⟩
  · refine Tr.aload_n (pc := 8) (i := 0) d_X5_takeOpening_8 rfl rfl ?_
    refine Tr.iconst (pc := 9) d_X5_takeOpening_9 (by decide) ?_
    refine Tr.callV (pc := 10) (as := [_]) d_X5_takeOpening_10 s_5_56 ok_X5_refuse rfl rfl (Nat.le_of_ble_eq_true rfl) (Nat.le_of_ble_eq_true rfl) (by decide) (ty_6 hS.1.1) ?_
    refine Tr.imp (Tr.deep (by decide) (sp_X5_refuse_6_w1 hS.1 ((St.kp hS (by decide) (by decide) (by decide)).trans en_6_2) 1 (by omega))) ?_
    rintro M10 _ ⟨h10, r10, rfl, lr10, ur10⟩
    have hS := St.tr hS h10 (by decide) (by decide)
    refine Tr.sc [(0, r10)] rfl ?_
    exact Tr.zret (pc := 13) d_X5_takeOpening_13 rfl (by omega) ⟨hS, _, rfl, by omega, by omega, fun hq => absurd hq (by omega)⟩
