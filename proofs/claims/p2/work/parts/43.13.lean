def ws_X4_emit_15 : List (Int × Int) := [(15, 11)]
def as_X4_emit_15 : List Int := [24, 25]
def q_X4_emit_15 (M0 M' : Mem) (r : Option PV) : Prop := St Tru ws_X4_emit_15 as_X4_emit_15 M0 M' ∧ r = none
set_option maxRecDepth 100000 in
set_option maxHeartbeats 4000000 in
theorem sp_X4_emit_15 {l : Launch} {K : EC} {M0 : Mem} (hI : In Tru M0)  (a1 : Int) (ha1 : 3 ≤ a1 ∧ a1 ≤ 3) (a2 : Int) (ha2 : 0 ≤ a2 ∧ a2 ≤ 0) (hp0 : (a1 = 1 → 0 ≤ a2 ∧ a2 ≤ 2) ∧ (a1 = 2 ∨ a1 = 4 → 0 ≤ a2 ∧ a2 ≤ 5)) : Tr l K 0 mX4_emit 0 [(0, (2, 15)), (1, (0, a1)), (2, (0, a2))] [] M0 (q_X4_emit_15 M0) := by
  have hS : St Tru ws_X4_emit_15 as_X4_emit_15 M0 M0 := St.rf hI
  refine Tr.aload_n (pc := 0) (i := 0) d_X4_emit_0 rfl rfl ?_
  refine Tr.getf (pc := 1) d_X4_emit_1 f_4_49 (by decide) (by decide) (ty_15 hS.1.1) ?_
  refine Tr.gen (P := fun v => 0 ≤ v ∧ v ≤ 900) (ir_15_11 hS.1.2.1) (fun r1 er1 br1 => ?_)
  refine Tr.sipush (pc := 4) d_X4_emit_4 rfl (by decide) ?_
  refine Tr.icmp_ge (pc := 7) (tgt := 40) d_X4_emit_7 rfl (fun c7 => ?_) (fun c7 => ?_)
  · exact Tr.vret (pc := 40) d_X4_emit_40 rfl ⟨hS, rfl⟩
  · refine Tr.aload_n (pc := 10) (i := 0) d_X4_emit_10 rfl rfl ?_
    refine Tr.getf (pc := 11) d_X4_emit_11 f_4_36 (by decide) (by decide) (ty_15 hS.1.1) ?_
    refine Tr.tp 24 (fx_15_9 hS.1.1) ?_
    refine Tr.aload_n (pc := 14) (i := 0) d_X4_emit_14 rfl rfl ?_
    refine Tr.getf (pc := 15) d_X4_emit_15 f_4_49 (by decide) (by decide) (ty_15 hS.1.1) ?_
    refine Tr.tp r1 er1 ?_
    refine Tr.iload_n (pc := 18) (i := 1) d_X4_emit_18 rfl rfl ?_
    refine Tr.iast (pc := 19) d_X4_emit_19 (ty_24 hS.1.1) (by omega) (by omega) ?_
    refine Tr.aload_n (pc := 20) (i := 0) d_X4_emit_20 rfl rfl ?_
    refine Tr.getf (pc := 21) d_X4_emit_21 f_4_39 (by decide) (by decide) (show mT (wr M0 24 r1 a1) 15 = (4, 13) from ty_15 (M := M0) hS.1.1) ?_
    refine Tr.tp 25 ((rd_wb _ rfl).trans (fx_15_10 (M := M0) hS.1.1)) ?_
    refine Tr.aload_n (pc := 24) (i := 0) d_X4_emit_24 rfl rfl ?_
    refine Tr.getf (pc := 25) d_X4_emit_25 f_4_49 (by decide) (by decide) (show mT (wr M0 24 r1 a1) 15 = (4, 13) from ty_15 (M := M0) hS.1.1) ?_
    refine Tr.tp r1 ((rd_wb _ rfl).trans er1) ?_
    refine Tr.iload_n (pc := 28) (i := 2) d_X4_emit_28 rfl rfl ?_
    refine Tr.iastS (pc := 29) (P := St Tru ws_X4_emit_15 as_X4_emit_15 M0) d_X4_emit_29 (show mT (wr M0 24 r1 a1) 25 = (20, 900) from ty_25 (M := M0) hS.1.1) (by omega) (by omega) (St.two (x := 24) (y := 25) 18 19 hS (by decide) hp0 (by decide) (by decide) rfl (by decide +kernel) (by decide +kernel) (by decide +kernel) (by omega) rfl (by decide +kernel) (by decide +kernel) (by decide +kernel) (by omega) trivial) (fun M29 hS w29 => ?_)
    refine Tr.aload_n (pc := 30) (i := 0) d_X4_emit_30 rfl rfl ?_
    refine Tr.dup (pc := 31) d_X4_emit_31 ne21 ?_
    refine Tr.getf (pc := 32) d_X4_emit_32 f_4_49 (by decide) (by decide) (ty_15 hS.1.1) ?_
    refine Tr.tp r1 ((Wr.b w29 rfl).trans ((rd_wb _ rfl).trans er1)) ?_
    refine Tr.iconst (pc := 35) d_X4_emit_35 (by decide) ?_
    refine Tr.iadd (pc := 36) d_X4_emit_36 ?_
    refine Tr.tp (r1 + 1) ((w32_id (by omega)).trans (by omega)) ?_
    refine Tr.putfS (pc := 37) (P := St Tru ws_X4_emit_15 as_X4_emit_15 M0) d_X4_emit_37 f_4_49 (by decide) (by decide) (ty_15 hS.1.1) (st_15_11 hS (by decide) (by omega) trivial) (fun M37 hS w37 => ?_)
    exact Tr.vret (pc := 40) d_X4_emit_40 rfl ⟨hS, rfl⟩

def ws_X3_which_7_v1 : List (Int × Int) := []
def as_X3_which_7_v1 : List Int := []
def q_X3_which_7_v1 (a2 : Int) (M0 M' : Mem) (r : Option PV) : Prop := St Tru ws_X3_which_7_v1 as_X3_which_7_v1 M0 M' ∧ ∃ v : Int, r = some (0, v) ∧ (-1) ≤ v ∧ v ≤ 2 ∧ ((v = a2 - 6 ∧ 0 ≤ v ∧ v < rd M' 8 1) ∨ (v = -1 ∧ (a2 < 6 ∨ rd M' 8 1 ≤ a2 - 6)))
set_option maxRecDepth 100000 in
set_option maxHeartbeats 4000000 in
theorem sp_X3_which_7_v1 {l : Launch} {K : EC} {M0 : Mem} {xq : Int} (hI : In Tru M0) (hE : e_all K xq)  (a2 : Int) (ha2 : 0 ≤ a2 ∧ a2 ≤ 15)  : Tr l K 0 mX3_which 0 [(0, (2, 7)), (1, (0, 1)), (2, (0, a2))] [] M0 (q_X3_which_7_v1 a2 M0) := by
  have hS : St Tru ws_X3_which_7_v1 as_X3_which_7_v1 M0 M0 := St.rf hI
  obtain ⟨g8_1, eg8_1⟩ : ∃ v, rd M0 8 1 = v := ⟨_, rfl⟩
  have bg8_1 : 0 ≤ g8_1 ∧ g8_1 ≤ 3 := by rw [← eg8_1]; exact ir_8_1 hI.2.1
  refine Tr.iload_n (pc := 0) (i := 2) d_X3_which_0 rfl rfl ?_
  refine Tr.gets (pc := 1) d_X3_which_1 sl_3_65 hE.2.2.2.2.1 ?_
  refine Tr.iload_n (pc := 4) (i := 1) d_X3_which_4 rfl rfl ?_
  refine Tr.xld (pc := 5) (i := 2) d_X3_which_5 rfl hE.2.1 (by omega) (by omega) ?_
  refine Tr.tp 6 (by decide) ?_
  refine Tr.isub (pc := 6) d_X3_which_6 ?_
  refine Tr.tp (a2 - 6) ((w32_id (by omega)).trans (by omega)) ?_
  refine Tr.istore_n (pc := 7) (i := 3) (ls2 := [(3, (0, (a2 - 6))), (0, (2, 7)), (1, (0, 1)), (2, (0, a2))]) d_X3_which_7 rfl (by decide) rfl ?_
  refine Tr.iload_n (pc := 8) (i := 3) d_X3_which_8 rfl rfl ?_
  refine Tr.if_lt (pc := 9) (tgt := 26) d_X3_which_9 rfl (fun c9 => ?_) (fun c9 => ?_)
  · refine Tr.iconst (pc := 26) d_X3_which_26 (by decide) ?_
    have kr_8_1 : rd M0 8 1 = g8_1 := eg8_1
    exact Tr.iret (pc := 27) d_X3_which_27 rfl ⟨hS, _, rfl, by omega, by omega, by omega⟩
  · refine Tr.iload_n (pc := 12) (i := 3) d_X3_which_12 rfl rfl ?_
    refine Tr.aload_n (pc := 13) (i := 0) d_X3_which_13 rfl rfl ?_
    refine Tr.getf (pc := 14) d_X3_which_14 f_3_11 (by decide) (by decide) (ty_7 hS.1.1) ?_
    refine Tr.tp 8 (fx_7_4 hS.1.1) ?_
    refine Tr.iload_n (pc := 17) (i := 1) d_X3_which_17 rfl rfl ?_
    refine Tr.iald (pc := 18) d_X3_which_18 (ty_8 hS.1.1) (by omega) (by omega) ?_
    refine Tr.tp g8_1 eg8_1 ?_
    refine Tr.icmp_ge (pc := 19) (tgt := 26) d_X3_which_19 rfl (fun c19 => ?_) (fun c19 => ?_)
    · refine Tr.iconst (pc := 26) d_X3_which_26 (by decide) ?_
      have kr_8_1 : rd M0 8 1 = g8_1 := eg8_1
      exact Tr.iret (pc := 27) d_X3_which_27 rfl ⟨hS, _, rfl, by omega, by omega, by omega⟩
    · refine Tr.iload_n (pc := 22) (i := 3) d_X3_which_22 rfl rfl ?_
      refine Tr.goto (pc := 23) (tgt := 27) d_X3_which_23 rfl ?_
      have kr_8_1 : rd M0 8 1 = g8_1 := eg8_1
      exact Tr.iret (pc := 27) d_X3_which_27 rfl ⟨hS, _, rfl, by omega, by omega, by omega⟩

def ws_X4_emit_15_w1 : List (Int × Int) := [(15, 11)]
def as_X4_emit_15_w1 : List Int := [24, 25]
def q_X4_emit_15_w1 (M0 M' : Mem) (r : Option PV) : Prop := St Tru ws_X4_emit_15_w1 as_X4_emit_15_w1 M0 M' ∧ r = none
set_option maxRecDepth 100000 in
set_option maxHeartbeats 4000000 in
theorem sp_X4_emit_15_w1 {l : Launch} {K : EC} {M0 : Mem} (hI : In Tru M0)  (a1 : Int) (ha1 : 1 ≤ a1 ∧ a1 ≤ 1) (a2 : Int) (ha2 : (-1) ≤ a2 ∧ a2 ≤ 2) (hp0 : (a1 = 1 → 0 ≤ a2 ∧ a2 ≤ 2) ∧ (a1 = 2 ∨ a1 = 4 → 0 ≤ a2 ∧ a2 ≤ 5)) : Tr l K 0 mX4_emit 0 [(0, (2, 15)), (1, (0, a1)), (2, (0, a2))] [] M0 (q_X4_emit_15_w1 M0) := by
  have hS : St Tru ws_X4_emit_15_w1 as_X4_emit_15_w1 M0 M0 := St.rf hI
  refine Tr.aload_n (pc := 0) (i := 0) d_X4_emit_0 rfl rfl ?_
  refine Tr.getf (pc := 1) d_X4_emit_1 f_4_49 (by decide) (by decide) (ty_15 hS.1.1) ?_
  refine Tr.gen (P := fun v => 0 ≤ v ∧ v ≤ 900) (ir_15_11 hS.1.2.1) (fun r1 er1 br1 => ?_)
  refine Tr.sipush (pc := 4) d_X4_emit_4 rfl (by decide) ?_
  refine Tr.icmp_ge (pc := 7) (tgt := 40) d_X4_emit_7 rfl (fun c7 => ?_) (fun c7 => ?_)
  · exact Tr.vret (pc := 40) d_X4_emit_40 rfl ⟨hS, rfl⟩
  · refine Tr.aload_n (pc := 10) (i := 0) d_X4_emit_10 rfl rfl ?_
    refine Tr.getf (pc := 11) d_X4_emit_11 f_4_36 (by decide) (by decide) (ty_15 hS.1.1) ?_
    refine Tr.tp 24 (fx_15_9 hS.1.1) ?_
    refine Tr.aload_n (pc := 14) (i := 0) d_X4_emit_14 rfl rfl ?_
    refine Tr.getf (pc := 15) d_X4_emit_15 f_4_49 (by decide) (by decide) (ty_15 hS.1.1) ?_
    refine Tr.tp r1 er1 ?_
    refine Tr.iload_n (pc := 18) (i := 1) d_X4_emit_18 rfl rfl ?_
    refine Tr.iast (pc := 19) d_X4_emit_19 (ty_24 hS.1.1) (by omega) (by omega) ?_
    refine Tr.aload_n (pc := 20) (i := 0) d_X4_emit_20 rfl rfl ?_
    refine Tr.getf (pc := 21) d_X4_emit_21 f_4_39 (by decide) (by decide) (show mT (wr M0 24 r1 a1) 15 = (4, 13) from ty_15 (M := M0) hS.1.1) ?_
    refine Tr.tp 25 ((rd_wb _ rfl).trans (fx_15_10 (M := M0) hS.1.1)) ?_
    refine Tr.aload_n (pc := 24) (i := 0) d_X4_emit_24 rfl rfl ?_
    refine Tr.getf (pc := 25) d_X4_emit_25 f_4_49 (by decide) (by decide) (show mT (wr M0 24 r1 a1) 15 = (4, 13) from ty_15 (M := M0) hS.1.1) ?_
    refine Tr.tp r1 ((rd_wb _ rfl).trans er1) ?_
    refine Tr.iload_n (pc := 28) (i := 2) d_X4_emit_28 rfl rfl ?_
    refine Tr.iastS (pc := 29) (P := St Tru ws_X4_emit_15_w1 as_X4_emit_15_w1 M0) d_X4_emit_29 (show mT (wr M0 24 r1 a1) 25 = (20, 900) from ty_25 (M := M0) hS.1.1) (by omega) (by omega) (St.two (x := 24) (y := 25) 18 19 hS (by decide) hp0 (by decide) (by decide) rfl (by decide +kernel) (by decide +kernel) (by decide +kernel) (by omega) rfl (by decide +kernel) (by decide +kernel) (by decide +kernel) (by omega) trivial) (fun M29 hS w29 => ?_)
    refine Tr.aload_n (pc := 30) (i := 0) d_X4_emit_30 rfl rfl ?_
    refine Tr.dup (pc := 31) d_X4_emit_31 ne21 ?_
    refine Tr.getf (pc := 32) d_X4_emit_32 f_4_49 (by decide) (by decide) (ty_15 hS.1.1) ?_
    refine Tr.tp r1 ((Wr.b w29 rfl).trans ((rd_wb _ rfl).trans er1)) ?_
    refine Tr.iconst (pc := 35) d_X4_emit_35 (by decide) ?_
    refine Tr.iadd (pc := 36) d_X4_emit_36 ?_
    refine Tr.tp (r1 + 1) ((w32_id (by omega)).trans (by omega)) ?_
    refine Tr.putfS (pc := 37) (P := St Tru ws_X4_emit_15_w1 as_X4_emit_15_w1 M0) d_X4_emit_37 f_4_49 (by decide) (by decide) (ty_15 hS.1.1) (st_15_11 hS (by decide) (by omega) trivial) (fun M37 hS w37 => ?_)
    exact Tr.vret (pc := 40) d_X4_emit_40 rfl ⟨hS, rfl⟩

def ws_X3_which_7_v2 : List (Int × Int) := []
def as_X3_which_7_v2 : List Int := []
def q_X3_which_7_v2 (a2 : Int) (M0 M' : Mem) (r : Option PV) : Prop := St Tru ws_X3_which_7_v2 as_X3_which_7_v2 M0 M' ∧ ∃ v : Int, r = some (0, v) ∧ (-1) ≤ v ∧ v ≤ 5 ∧ ((v = a2 - 9 ∧ 0 ≤ v ∧ v < rd M' 8 2) ∨ (v = -1 ∧ (a2 < 9 ∨ rd M' 8 2 ≤ a2 - 9)))
set_option maxRecDepth 100000 in
set_option maxHeartbeats 4000000 in
theorem sp_X3_which_7_v2 {l : Launch} {K : EC} {M0 : Mem} {xq : Int} (hI : In Tru M0) (hE : e_all K xq)  (a2 : Int) (ha2 : 0 ≤ a2 ∧ a2 ≤ 15)  : Tr l K 0 mX3_which 0 [(0, (2, 7)), (1, (0, 2)), (2, (0, a2))] [] M0 (q_X3_which_7_v2 a2 M0) := by
  have hS : St Tru ws_X3_which_7_v2 as_X3_which_7_v2 M0 M0 := St.rf hI
  obtain ⟨g8_2, eg8_2⟩ : ∃ v, rd M0 8 2 = v := ⟨_, rfl⟩
  have bg8_2 : 0 ≤ g8_2 ∧ g8_2 ≤ 6 := by rw [← eg8_2]; exact ir_8_2 hI.2.1
  refine Tr.iload_n (pc := 0) (i := 2) d_X3_which_0 rfl rfl ?_
  refine Tr.gets (pc := 1) d_X3_which_1 sl_3_65 hE.2.2.2.2.1 ?_
  refine Tr.iload_n (pc := 4) (i := 1) d_X3_which_4 rfl rfl ?_
  refine Tr.xld (pc := 5) (i := 2) d_X3_which_5 rfl hE.2.1 (by omega) (by omega) ?_
  refine Tr.tp 9 (by decide) ?_
  refine Tr.isub (pc := 6) d_X3_which_6 ?_
  refine Tr.tp (a2 - 9) ((w32_id (by omega)).trans (by omega)) ?_
  refine Tr.istore_n (pc := 7) (i := 3) (ls2 := [(3, (0, (a2 - 9))), (0, (2, 7)), (1, (0, 2)), (2, (0, a2))]) d_X3_which_7 rfl (by decide) rfl ?_
  refine Tr.iload_n (pc := 8) (i := 3) d_X3_which_8 rfl rfl ?_
  refine Tr.if_lt (pc := 9) (tgt := 26) d_X3_which_9 rfl (fun c9 => ?_) (fun c9 => ?_)
  · refine Tr.iconst (pc := 26) d_X3_which_26 (by decide) ?_
    have kr_8_2 : rd M0 8 2 = g8_2 := eg8_2
    exact Tr.iret (pc := 27) d_X3_which_27 rfl ⟨hS, _, rfl, by omega, by omega, by omega⟩
  · refine Tr.iload_n (pc := 12) (i := 3) d_X3_which_12 rfl rfl ?_
    refine Tr.aload_n (pc := 13) (i := 0) d_X3_which_13 rfl rfl ?_
    refine Tr.getf (pc := 14) d_X3_which_14 f_3_11 (by decide) (by decide) (ty_7 hS.1.1) ?_
    refine Tr.tp 8 (fx_7_4 hS.1.1) ?_
    refine Tr.iload_n (pc := 17) (i := 1) d_X3_which_17 rfl rfl ?_
    refine Tr.iald (pc := 18) d_X3_which_18 (ty_8 hS.1.1) (by omega) (by omega) ?_
    refine Tr.tp g8_2 eg8_2 ?_
    refine Tr.icmp_ge (pc := 19) (tgt := 26) d_X3_which_19 rfl (fun c19 => ?_) (fun c19 => ?_)
    · refine Tr.iconst (pc := 26) d_X3_which_26 (by decide) ?_
      have kr_8_2 : rd M0 8 2 = g8_2 := eg8_2
      exact Tr.iret (pc := 27) d_X3_which_27 rfl ⟨hS, _, rfl, by omega, by omega, by omega⟩
    · refine Tr.iload_n (pc := 22) (i := 3) d_X3_which_22 rfl rfl ?_
      refine Tr.goto (pc := 23) (tgt := 27) d_X3_which_23 rfl ?_
      have kr_8_2 : rd M0 8 2 = g8_2 := eg8_2
      exact Tr.iret (pc := 27) d_X3_which_27 rfl ⟨hS, _, rfl, by omega, by omega, by omega⟩

def ws_X5_takeName_6_v2_w1 : List (Int × Int) := [(6, 0), (6, 1), (6, 5)]
def as_X5_takeName_6_v2_w1 : List Int := []
def q_X5_takeName_6_v2_w1 (M0 M' : Mem) (r : Option PV) : Prop := St Tru ws_X5_takeName_6_v2_w1 as_X5_takeName_6_v2_w1 M0 M' ∧ ∃ v : Int, r = some (0, v) ∧ (-1) ≤ v ∧ v ≤ 5
set_option maxRecDepth 100000 in
set_option maxHeartbeats 4000000 in
theorem sp_X5_takeName_6_v2_w1 {l : Launch} {K : EC} {M0 : Mem} {xq : Int} (hI : In Tru M0) (hE : e_all K xq) (en_6_2 : rd M0 6 2 = 2) (en_6_3 : rd M0 6 3 = 7)   : Tr l K 1 mX5_takeName 0 [(0, (2, 6)), (1, (0, 2))] [] M0 (q_X5_takeName_6_v2_w1 M0) := by
  have hS : St Tru ws_X5_takeName_6_v2_w1 as_X5_takeName_6_v2_w1 M0 M0 := St.rf hI
  refine Tr.aload_n (pc := 0) (i := 0) d_X5_takeName_0 rfl rfl ?_
  refine Tr.getf (pc := 1) d_X5_takeName_1 f_5_18 (by decide) (by decide) (ty_6 hS.1.1) ?_
  refine Tr.tp 2 ((St.kp hS (by decide) (by decide) (by decide)).trans en_6_2) ?_
  refine Tr.getf (pc := 4) d_X5_takeName_4 f_5_50 (by decide) (by decide) (ty_2 hS.1.1) ?_
  refine Tr.tp 3 (fx_2_0 hS.1.1) ?_
  refine Tr.aload_n (pc := 7) (i := 0) d_X5_takeName_7 rfl rfl ?_
  refine Tr.getf (pc := 8) d_X5_takeName_8 f_5_36 (by decide) (by decide) (ty_6 hS.1.1) ?_
  refine Tr.gen (P := fun v => 0 ≤ v ∧ v ≤ 900) (ir_6_5 hS.1.2.1) (fun r8 er8 br8 => ?_)
  refine Tr.iald (pc := 11) d_X5_takeName_11 (ty_3 hS.1.1) (by omega) (by omega) ?_
  refine Tr.gen (P := fun v => (-2147483648) ≤ v ∧ v ≤ 2147483647) (ar_3 hS.1.2.1 _) (fun r11 er11 br11 => ?_)
  refine Tr.iconst (pc := 12) d_X5_takeName_12 (by decide) ?_
  refine Tr.icmp_eq (pc := 13) (tgt := 24) d_X5_takeName_13 rfl (fun c13 => ?_) (fun c13 => ?_)
  · refine Tr.aload_n (pc := 24) (i := 0) d_X5_takeName_24 rfl rfl ?_
    refine Tr.getf (pc := 25) d_X5_takeName_25 f_5_22 (by decide) (by decide) (ty_6 hS.1.1) ?_
    refine Tr.tp 7 ((St.kp hS (by decide) (by decide) (by decide)).trans en_6_3) ?_
    refine Tr.aload_n (pc := 28) (i := 0) d_X5_takeName_28 rfl rfl ?_
    refine Tr.getf (pc := 29) d_X5_takeName_29 f_5_18 (by decide) (by decide) (ty_6 hS.1.1) ?_
    refine Tr.tp 2 ((St.kp hS (by decide) (by decide) (by decide)).trans en_6_2) ?_
    refine Tr.getf (pc := 32) d_X5_takeName_32 f_5_68 (by decide) (by decide) (ty_2 hS.1.1) ?_
    refine Tr.tp 5 (fx_2_2 hS.1.1) ?_
    refine Tr.aload_n (pc := 35) (i := 0) d_X5_takeName_35 rfl rfl ?_
    refine Tr.getf (pc := 36) d_X5_takeName_36 f_5_36 (by decide) (by decide) (ty_6 hS.1.1) ?_
    refine Tr.tp r8 er8 ?_
    refine Tr.iald (pc := 39) d_X5_takeName_39 (ty_5 hS.1.1) (by omega) (by omega) ?_
    refine Tr.gen (P := fun v => (-2147483648) ≤ v ∧ v ≤ 2147483647) (ar_5 hS.1.2.1 _) (fun r39 er39 br39 => ?_)
    refine Tr.callV (pc := 40) (as := [_]) d_X5_takeName_40 s_5_91 ok_X3_find rfl rfl (Nat.le_of_ble_eq_true rfl) (Nat.le_of_ble_eq_true rfl) (by decide) (ty_7 hS.1.1) ?_
    refine Tr.imp (Tr.deep (by decide) (sp_X3_find_7 hS.1 r39 (by omega))) ?_
    rintro M40 _ ⟨h40, r40, rfl, lr40, ur40⟩
    have hS := St.tr hS h40 (by decide) (by decide)
    refine Tr.sc [(0, r40)] rfl ?_
    refine Tr.istore_n (pc := 43) (i := 2) (ls2 := [(2, (0, r40)), (0, (2, 6)), (1, (0, 2))]) d_X5_takeName_43 rfl (by decide) rfl ?_
    refine Tr.iload_n (pc := 44) (i := 2) d_X5_takeName_44 rfl rfl ?_
    have J61 : ∀ (M : Mem) (q61_0 : Int), St Tru ws_X5_takeName_6_v2_w1 as_X5_takeName_6_v2_w1 M0 M → ((-1) ≤ q61_0 ∧ q61_0 ≤ 5) → rd M 3 r8 = r11 → rd M 5 r8 = r39 → rd M 6 5 = r8 → Tr l K 1 mX5_takeName 61 [(0, (2, 6))] [(0, q61_0)] M (q_X5_takeName_6_v2_w1 M0) := by
      intro M q61_0 hS bq61_0 k61_3_r810 k61_5_r810 k61_6_5
      refine Tr.istore_n (pc := 61) (i := 3) (ls2 := [(3, (0, q61_0)), (0, (2, 6))]) d_X5_takeName_61 rfl (by decide) rfl ?_
      refine Tr.iload_n (pc := 62) (i := 3) d_X5_takeName_62 rfl rfl ?_
      refine Tr.if_ge (pc := 63) (tgt := 74) d_X5_takeName_63 rfl (fun c63 => ?_) (fun c63 => ?_)
      · refine Tr.aload_n (pc := 74) (i := 0) d_X5_takeName_74 rfl rfl ?_
        refine Tr.callV (pc := 75) (as := []) d_X5_takeName_75 s_5_74 ok_X5_goOn rfl rfl (Nat.le_of_ble_eq_true rfl) (Nat.le_of_ble_eq_true rfl) (by decide) (ty_6 hS.1.1) ?_
        refine Tr.imp (Tr.deep (by decide) (sp_X5_goOn_6 hS.1 )) ?_
        rintro M75 _ ⟨h75, r75, rfl, lr75, ur75⟩
        have hS := St.tr hS h75 (by decide) (by decide)
        refine Tr.sc [(0, r75)] rfl ?_
        refine Tr.pop (pc := 78) d_X5_takeName_78 ne01 ?_
        refine Tr.iload_n (pc := 79) (i := 3) d_X5_takeName_79 rfl rfl ?_
        exact Tr.iret (pc := 80) d_X5_takeName_80 rfl ⟨hS, _, rfl, by omega, by omega⟩
      · refine Tr.aload_n (pc := 66) (i := 0) d_X5_takeName_66 rfl rfl ?_
        refine Tr.iconst (pc := 67) d_X5_takeName_67 (by decide) ?_
        refine Tr.callV (pc := 68) (as := [_]) d_X5_takeName_68 s_5_56 ok_X5_refuse rfl rfl (Nat.le_of_ble_eq_true rfl) (Nat.le_of_ble_eq_true rfl) (by decide) (ty_6 hS.1.1) ?_
        refine Tr.imp (Tr.deep (by decide) (sp_X5_refuse_6_w3 hS.1 ((St.kp hS (by decide) (by decide) (by decide)).trans en_6_2) 3 (by omega))) ?_
        rintro M68 _ ⟨h68, r68, rfl, lr68, ur68⟩
        have hS := St.tr hS h68 (by decide) (by decide)
        refine Tr.sc [(0, r68)] rfl ?_
        refine Tr.pop (pc := 71) d_X5_takeName_71 ne01 ?_
        refine Tr.iconst (pc := 72) d_X5_takeName_72 (by decide) ?_
        exact Tr.iret (pc := 73) d_X5_takeName_73 rfl ⟨hS, _, rfl, by omega, by omega⟩
    refine Tr.if_ge (pc := 45) (tgt := 52) d_X5_takeName_45 rfl (fun c45 => ?_) (fun c45 => ?_)
    · refine Tr.aload_n (pc := 52) (i := 0) d_X5_takeName_52 rfl rfl ?_
      refine Tr.getf (pc := 53) d_X5_takeName_53 f_5_22 (by decide) (by decide) (ty_6 hS.1.1) ?_
      refine Tr.tp 7 ((St.kp hS (by decide) (by decide) (by decide)).trans en_6_3) ?_
      refine Tr.iload_n (pc := 56) (i := 1) d_X5_takeName_56 rfl rfl ?_
      refine Tr.iload_n (pc := 57) (i := 2) d_X5_takeName_57 rfl rfl ?_
      refine Tr.callV (pc := 58) (as := [_, _]) d_X5_takeName_58 s_5_94 ok_X3_which rfl rfl (Nat.le_of_ble_eq_true rfl) (Nat.le_of_ble_eq_true rfl) (by decide) (ty_7 hS.1.1) ?_
      refine Tr.imp (Tr.deep (by decide) (sp_X3_which_7_v2 hS.1 hE r40 (by omega))) ?_
      rintro M58 _ ⟨h58, r58, rfl, lr58, ur58, z58_0⟩
      have hS := St.tr hS h58 (by decide) (by decide)
      obtain ⟨w58_8_2, ew58_8_2⟩ : ∃ v, rd M58 8 2 = v := ⟨_, rfl⟩
      have bw58_8_2 : 0 ≤ w58_8_2 ∧ w58_8_2 ≤ 6 := by rw [← ew58_8_2]; exact ir_8_2 hS.1.2.1
      have ka58_8_2 : rd M58 8 2 = w58_8_2 := ew58_8_2
      refine Tr.sc [(0, r58)] rfl ?_
      refine Tr.pick [1] (ls2 := [(0, (2, 6))]) rfl ?_
      exact J61 _ _ hS (by omega) ((St.ka h58 (by decide) (by decide) (by decide)).trans ((St.ka h40 (by decide) (by decide) (by decide)).trans er11)) ((St.ka h58 (by decide) (by decide) (by decide)).trans ((St.ka h40 (by decide) (by decide) (by decide)).trans er39)) ((St.kp h58 (by decide) (by decide) (by decide)).trans ((St.kp h40 (by decide) (by decide) (by decide)).trans er8))
    · refine Tr.iconst (pc := 48) d_X5_takeName_48 (by decide) ?_
      refine Tr.goto (pc := 49) (tgt := 61) d_X5_takeName_49 rfl ?_
      refine Tr.pick [1] (ls2 := [(0, (2, 6))]) rfl ?_
      exact J61 _ _ hS (by omega) ((St.ka h40 (by decide) (by decide) (by decide)).trans er11) ((St.ka h40 (by decide) (by decide) (by decide)).trans er39) ((St.kp h40 (by decide) (by decide) (by decide)).trans er8)
  · refine Tr.aload_n (pc := 16) (i := 0) d_X5_takeName_16 rfl rfl ?_
    refine Tr.iconst (pc := 17) d_X5_takeName_17 (by decide) ?_
    refine Tr.callV (pc := 18) (as := [_]) d_X5_takeName_18 s_5_56 ok_X5_refuse rfl rfl (Nat.le_of_ble_eq_true rfl) (Nat.le_of_ble_eq_true rfl) (by decide) (ty_6 hS.1.1) ?_
    refine Tr.imp (Tr.deep (by decide) (sp_X5_refuse_6_w1 hS.1 ((St.kp hS (by decide) (by decide) (by decide)).trans en_6_2) 1 (by omega))) ?_
    rintro M18 _ ⟨h18, r18, rfl, lr18, ur18⟩
    have hS := St.tr hS h18 (by decide) (by decide)
    refine Tr.sc [(0, r18)] rfl ?_
    refine Tr.pop (pc := 21) d_X5_takeName_21 ne01 ?_
    refine Tr.iconst (pc := 22) d_X5_takeName_22 (by decide) ?_
    exact Tr.iret (pc := 23) d_X5_takeName_23 rfl ⟨hS, _, rfl, by omega, by omega⟩

def ws_X4_emit_15_w2 : List (Int × Int) := [(15, 11)]
def as_X4_emit_15_w2 : List Int := [24, 25]
def q_X4_emit_15_w2 (M0 M' : Mem) (r : Option PV) : Prop := St Tru ws_X4_emit_15_w2 as_X4_emit_15_w2 M0 M' ∧ r = none
set_option maxRecDepth 100000 in
set_option maxHeartbeats 4000000 in
theorem sp_X4_emit_15_w2 {l : Launch} {K : EC} {M0 : Mem} (hI : In Tru M0)  (a1 : Int) (ha1 : 2 ≤ a1 ∧ a1 ≤ 2) (a2 : Int) (ha2 : 0 ≤ a2 ∧ a2 ≤ 5) (hp0 : (a1 = 1 → 0 ≤ a2 ∧ a2 ≤ 2) ∧ (a1 = 2 ∨ a1 = 4 → 0 ≤ a2 ∧ a2 ≤ 5)) : Tr l K 0 mX4_emit 0 [(0, (2, 15)), (1, (0, a1)), (2, (0, a2))] [] M0 (q_X4_emit_15_w2 M0) := by
  have hS : St Tru ws_X4_emit_15_w2 as_X4_emit_15_w2 M0 M0 := St.rf hI
  refine Tr.aload_n (pc := 0) (i := 0) d_X4_emit_0 rfl rfl ?_
  refine Tr.getf (pc := 1) d_X4_emit_1 f_4_49 (by decide) (by decide) (ty_15 hS.1.1) ?_
  refine Tr.gen (P := fun v => 0 ≤ v ∧ v ≤ 900) (ir_15_11 hS.1.2.1) (fun r1 er1 br1 => ?_)
  refine Tr.sipush (pc := 4) d_X4_emit_4 rfl (by decide) ?_
  refine Tr.icmp_ge (pc := 7) (tgt := 40) d_X4_emit_7 rfl (fun c7 => ?_) (fun c7 => ?_)
  · exact Tr.vret (pc := 40) d_X4_emit_40 rfl ⟨hS, rfl⟩
  · refine Tr.aload_n (pc := 10) (i := 0) d_X4_emit_10 rfl rfl ?_
    refine Tr.getf (pc := 11) d_X4_emit_11 f_4_36 (by decide) (by decide) (ty_15 hS.1.1) ?_
    refine Tr.tp 24 (fx_15_9 hS.1.1) ?_
    refine Tr.aload_n (pc := 14) (i := 0) d_X4_emit_14 rfl rfl ?_
    refine Tr.getf (pc := 15) d_X4_emit_15 f_4_49 (by decide) (by decide) (ty_15 hS.1.1) ?_
    refine Tr.tp r1 er1 ?_
    refine Tr.iload_n (pc := 18) (i := 1) d_X4_emit_18 rfl rfl ?_
    refine Tr.iast (pc := 19) d_X4_emit_19 (ty_24 hS.1.1) (by omega) (by omega) ?_
    refine Tr.aload_n (pc := 20) (i := 0) d_X4_emit_20 rfl rfl ?_
    refine Tr.getf (pc := 21) d_X4_emit_21 f_4_39 (by decide) (by decide) (show mT (wr M0 24 r1 a1) 15 = (4, 13) from ty_15 (M := M0) hS.1.1) ?_
    refine Tr.tp 25 ((rd_wb _ rfl).trans (fx_15_10 (M := M0) hS.1.1)) ?_
    refine Tr.aload_n (pc := 24) (i := 0) d_X4_emit_24 rfl rfl ?_
    refine Tr.getf (pc := 25) d_X4_emit_25 f_4_49 (by decide) (by decide) (show mT (wr M0 24 r1 a1) 15 = (4, 13) from ty_15 (M := M0) hS.1.1) ?_
    refine Tr.tp r1 ((rd_wb _ rfl).trans er1) ?_
    refine Tr.iload_n (pc := 28) (i := 2) d_X4_emit_28 rfl rfl ?_
    refine Tr.iastS (pc := 29) (P := St Tru ws_X4_emit_15_w2 as_X4_emit_15_w2 M0) d_X4_emit_29 (show mT (wr M0 24 r1 a1) 25 = (20, 900) from ty_25 (M := M0) hS.1.1) (by omega) (by omega) (St.two (x := 24) (y := 25) 18 19 hS (by decide) hp0 (by decide) (by decide) rfl (by decide +kernel) (by decide +kernel) (by decide +kernel) (by omega) rfl (by decide +kernel) (by decide +kernel) (by decide +kernel) (by omega) trivial) (fun M29 hS w29 => ?_)
    refine Tr.aload_n (pc := 30) (i := 0) d_X4_emit_30 rfl rfl ?_
    refine Tr.dup (pc := 31) d_X4_emit_31 ne21 ?_
    refine Tr.getf (pc := 32) d_X4_emit_32 f_4_49 (by decide) (by decide) (ty_15 hS.1.1) ?_
    refine Tr.tp r1 ((Wr.b w29 rfl).trans ((rd_wb _ rfl).trans er1)) ?_
    refine Tr.iconst (pc := 35) d_X4_emit_35 (by decide) ?_
    refine Tr.iadd (pc := 36) d_X4_emit_36 ?_
    refine Tr.tp (r1 + 1) ((w32_id (by omega)).trans (by omega)) ?_
    refine Tr.putfS (pc := 37) (P := St Tru ws_X4_emit_15_w2 as_X4_emit_15_w2 M0) d_X4_emit_37 f_4_49 (by decide) (by decide) (ty_15 hS.1.1) (st_15_11 hS (by decide) (by omega) trivial) (fun M37 hS w37 => ?_)
    exact Tr.vret (pc := 40) d_X4_emit_40 rfl ⟨hS, rfl⟩

def ws_X5_namedPiece_6_w1 : List (Int × Int) := [(6, 0), (6, 1), (6, 5), (15, 11)]
def as_X5_namedPiece_6_w1 : List Int := [24, 25]
def q_X5_namedPiece_6_w1 (M0 M' : Mem) (r : Option PV) : Prop := St Tru ws_X5_namedPiece_6_w1 as_X5_namedPiece_6_w1 M0 M' ∧ ∃ v : Int, r = some (0, v) ∧ 0 ≤ v ∧ v ≤ 1
set_option maxRecDepth 100000 in
set_option maxHeartbeats 4000000 in
theorem sp_X5_namedPiece_6_w1 {l : Launch} {K : EC} {M0 : Mem} {xq : Int} (hI : In Tru M0) (hE : e_all K xq) (en_6_2 : rd M0 6 2 = 2) (en_6_3 : rd M0 6 3 = 7) (en_6_4 : rd M0 6 4 = 15)   : Tr l K 2 mX5_namedPiece 0 [(0, (2, 6))] [] M0 (q_X5_namedPiece_6_w1 M0) := by
  have hS : St Tru ws_X5_namedPiece_6_w1 as_X5_namedPiece_6_w1 M0 M0 := St.rf hI
  refine Tr.aload_n (pc := 0) (i := 0) d_X5_namedPiece_0 rfl rfl ?_
  refine Tr.getf (pc := 1) d_X5_namedPiece_1 f_5_22 (by decide) (by decide) (ty_6 hS.1.1) ?_
  refine Tr.tp 7 ((St.kp hS (by decide) (by decide) (by decide)).trans en_6_3) ?_
  refine Tr.aload_n (pc := 4) (i := 0) d_X5_namedPiece_4 rfl rfl ?_
  refine Tr.getf (pc := 5) d_X5_namedPiece_5 f_5_18 (by decide) (by decide) (ty_6 hS.1.1) ?_
  refine Tr.tp 2 ((St.kp hS (by decide) (by decide) (by decide)).trans en_6_2) ?_
  refine Tr.getf (pc := 8) d_X5_namedPiece_8 f_5_68 (by decide) (by decide) (ty_2 hS.1.1) ?_
  refine Tr.tp 5 (fx_2_2 hS.1.1) ?_
  refine Tr.aload_n (pc := 11) (i := 0) d_X5_namedPiece_11 rfl rfl ?_
  refine Tr.getf (pc := 12) d_X5_namedPiece_12 f_5_36 (by decide) (by decide) (ty_6 hS.1.1) ?_
  refine Tr.gen (P := fun v => 0 ≤ v ∧ v ≤ 900) (ir_6_5 hS.1.2.1) (fun r12 er12 br12 => ?_)
  refine Tr.iald (pc := 15) d_X5_namedPiece_15 (ty_5 hS.1.1) (by omega) (by omega) ?_
  refine Tr.gen (P := fun v => (-2147483648) ≤ v ∧ v ≤ 2147483647) (ar_5 hS.1.2.1 _) (fun r15 er15 br15 => ?_)
  refine Tr.callV (pc := 16) (as := [_]) d_X5_namedPiece_16 s_5_91 ok_X3_find rfl rfl (Nat.le_of_ble_eq_true rfl) (Nat.le_of_ble_eq_true rfl) (by decide) (ty_7 hS.1.1) ?_
  refine Tr.imp (Tr.deep (by decide) (sp_X3_find_7 hS.1 r15 (by omega))) ?_
  rintro M16 _ ⟨h16, r16, rfl, lr16, ur16⟩
  have hS := St.tr hS h16 (by decide) (by decide)
  refine Tr.sc [(0, r16)] rfl ?_
  refine Tr.istore_n (pc := 19) (i := 1) (ls2 := [(1, (0, r16)), (0, (2, 6))]) d_X5_namedPiece_19 rfl (by decide) rfl ?_
  refine Tr.iload_n (pc := 20) (i := 1) d_X5_namedPiece_20 rfl rfl ?_
  have J58 : ∀ (M : Mem), St Tru ws_X5_namedPiece_6_w1 as_X5_namedPiece_6_w1 M0 M → rd M 5 r12 = r15 → rd M 6 5 = r12 → Tr l K 2 mX5_namedPiece 58 [(0, (2, 6))] [] M (q_X5_namedPiece_6_w1 M0) := by
    intro M  hS  k58_5_r1210 k58_6_5
    refine Tr.aload_n (pc := 58) (i := 0) d_X5_namedPiece_58 rfl rfl ?_
    refine Tr.iconst (pc := 59) d_X5_namedPiece_59 (by decide) ?_
    refine Tr.callV (pc := 60) (as := [_]) d_X5_namedPiece_60 s_5_186 ok_X5_takeName rfl rfl (Nat.le_of_ble_eq_true rfl) (Nat.le_of_ble_eq_true rfl) (by decide) (ty_6 hS.1.1) ?_
    refine Tr.imp (Tr.deep (by decide) (sp_X5_takeName_6_v2_w1 hS.1 hE ((St.kp hS (by decide) (by decide) (by decide)).trans en_6_2) ((St.kp hS (by decide) (by decide) (by decide)).trans en_6_3))) ?_
    rintro M60 _ ⟨h60, r60, rfl, lr60, ur60⟩
    have hS := St.tr hS h60 (by decide) (by decide)
    refine Tr.sc [(0, r60)] rfl ?_
    refine Tr.istore_n (pc := 63) (i := 2) (ls2 := [(2, (0, r60)), (0, (2, 6))]) d_X5_namedPiece_63 rfl (by decide) rfl ?_
    refine Tr.aload_n (pc := 64) (i := 0) d_X5_namedPiece_64 rfl rfl ?_
    refine Tr.getf (pc := 65) d_X5_namedPiece_65 f_5_32 (by decide) (by decide) (ty_6 hS.1.1) ?_
    refine Tr.tp 15 ((St.kp hS (by decide) (by decide) (by decide)).trans en_6_4) ?_
    refine Tr.iconst (pc := 68) d_X5_namedPiece_68 (by decide) ?_
    refine Tr.iload_n (pc := 69) (i := 2) d_X5_namedPiece_69 rfl rfl ?_
    refine Tr.iconst (pc := 70) d_X5_namedPiece_70 (by decide) ?_
    refine Tr.mmax (pc := 71) d_X5_namedPiece_71 ml_5_192 mw_mmax (Nat.le_of_ble_eq_true rfl) ?_
    refine Tr.gen (P := fun v => (v = r60 ∧ 0 ≤ r60) ∨ (v = 0 ∧ r60 ≤ 0)) (f_max_p _ _) (fun r71 er71 br71 => ?_)
    refine Tr.callV (pc := 74) (as := [_, _]) d_X5_namedPiece_74 s_5_215 ok_X4_emit rfl rfl (Nat.le_of_ble_eq_true rfl) (Nat.le_of_ble_eq_true rfl) (by decide) (ty_15 hS.1.1) ?_
    refine Tr.imp (Tr.deep (by decide) (sp_X4_emit_15_w2 hS.1.wk 2 (by omega) r71 (by omega) (by omega))) ?_
    rintro M74 _ ⟨h74, rfl⟩
    have hS := St.tr hS h74 (by decide) (by decide)
    refine Tr.sc [] rfl ?_
    refine Tr.iload_n (pc := 77) (i := 2) d_X5_namedPiece_77 rfl rfl ?_
    refine Tr.if_lt (pc := 78) (tgt := 85) d_X5_namedPiece_78 rfl (fun c78 => ?_) (fun c78 => ?_)
    · refine Tr.iconst (pc := 85) d_X5_namedPiece_85 (by decide) ?_
      exact Tr.zret (pc := 86) d_X5_namedPiece_86 rfl (by omega) ⟨hS, _, rfl, by omega, by omega⟩
    · refine Tr.iconst (pc := 81) d_X5_namedPiece_81 (by decide) ?_
      refine Tr.goto (pc := 82) (tgt := 86) d_X5_namedPiece_82 rfl ?_
      exact Tr.zret (pc := 86) d_X5_namedPiece_86 rfl (by omega) ⟨hS, _, rfl, by omega, by omega⟩
  refine Tr.if_lt (pc := 21) (tgt := 58) d_X5_namedPiece_21 rfl (fun c21 => ?_) (fun c21 => ?_)
  · refine Tr.pick [1] (ls2 := [(0, (2, 6))]) rfl ?_
    exact J58 _ hS ((St.ka h16 (by decide) (by decide) (by decide)).trans er15) ((St.kp h16 (by decide) (by decide) (by decide)).trans er12)
  · refine Tr.aload_n (pc := 24) (i := 0) d_X5_namedPiece_24 rfl rfl ?_
    refine Tr.getf (pc := 25) d_X5_namedPiece_25 f_5_22 (by decide) (by decide) (ty_6 hS.1.1) ?_
    refine Tr.tp 7 ((St.kp hS (by decide) (by decide) (by decide)).trans en_6_3) ?_
    refine Tr.iconst (pc := 28) d_X5_namedPiece_28 (by decide) ?_
    refine Tr.iload_n (pc := 29) (i := 1) d_X5_namedPiece_29 rfl rfl ?_
    refine Tr.callV (pc := 30) (as := [_, _]) d_X5_namedPiece_30 s_5_94 ok_X3_which rfl rfl (Nat.le_of_ble_eq_true rfl) (Nat.le_of_ble_eq_true rfl) (by decide) (ty_7 hS.1.1) ?_
    refine Tr.imp (Tr.deep (by decide) (sp_X3_which_7_v1 hS.1 hE r16 (by omega))) ?_
    rintro M30 _ ⟨h30, r30, rfl, lr30, ur30, z30_0⟩
    have hS := St.tr hS h30 (by decide) (by decide)
    obtain ⟨w30_8_1, ew30_8_1⟩ : ∃ v, rd M30 8 1 = v := ⟨_, rfl⟩
    have bw30_8_1 : 0 ≤ w30_8_1 ∧ w30_8_1 ≤ 3 := by rw [← ew30_8_1]; exact ir_8_1 hS.1.2.1
    have ka30_8_1 : rd M30 8 1 = w30_8_1 := ew30_8_1
    refine Tr.sc [(0, r30)] rfl ?_
    refine Tr.if_lt (pc := 33) (tgt := 58) d_X5_namedPiece_33 rfl (fun c33 => ?_) (fun c33 => ?_)
    · refine Tr.pick [1] (ls2 := [(0, (2, 6))]) rfl ?_
      exact J58 _ hS ((St.ka h30 (by decide) (by decide) (by decide)).trans ((St.ka h16 (by decide) (by decide) (by decide)).trans er15)) ((St.kp h30 (by decide) (by decide) (by decide)).trans ((St.kp h16 (by decide) (by decide) (by decide)).trans er12))
    · refine Tr.aload_n (pc := 36) (i := 0) d_X5_namedPiece_36 rfl rfl ?_
      refine Tr.getf (pc := 37) d_X5_namedPiece_37 f_5_32 (by decide) (by decide) (ty_6 hS.1.1) ?_
      refine Tr.tp 15 ((St.kp hS (by decide) (by decide) (by decide)).trans en_6_4) ?_
      refine Tr.iconst (pc := 40) d_X5_namedPiece_40 (by decide) ?_
      refine Tr.aload_n (pc := 41) (i := 0) d_X5_namedPiece_41 rfl rfl ?_
      refine Tr.getf (pc := 42) d_X5_namedPiece_42 f_5_22 (by decide) (by decide) (ty_6 hS.1.1) ?_
      refine Tr.tp 7 ((St.kp hS (by decide) (by decide) (by decide)).trans en_6_3) ?_
      refine Tr.iconst (pc := 45) d_X5_namedPiece_45 (by decide) ?_
      refine Tr.iload_n (pc := 46) (i := 1) d_X5_namedPiece_46 rfl rfl ?_
      refine Tr.callV (pc := 47) (as := [_, _]) d_X5_namedPiece_47 s_5_94 ok_X3_which rfl rfl (Nat.le_of_ble_eq_true rfl) (Nat.le_of_ble_eq_true rfl) (by decide) (ty_7 hS.1.1) ?_
      refine Tr.imp (Tr.deep (by decide) (sp_X3_which_7_v1 hS.1 hE r16 (by omega))) ?_
      rintro M47 _ ⟨h47, r47, rfl, lr47, ur47, z47_0⟩
      have hS := St.tr hS h47 (by decide) (by decide)
      have ka47_8_1 : rd M47 8 1 = w30_8_1 := ((St.kp h47 (by decide) (by decide) (by decide)).trans ew30_8_1)
      refine Tr.sc [(0, r47), (0, 1), (2, 15)] rfl ?_
      refine Tr.callV (pc := 50) (as := [_, _]) d_X5_namedPiece_50 s_5_215 ok_X4_emit rfl rfl (Nat.le_of_ble_eq_true rfl) (Nat.le_of_ble_eq_true rfl) (by decide) (ty_15 hS.1.1) ?_
      refine Tr.imp (Tr.deep (by decide) (sp_X4_emit_15_w1 hS.1.wk 1 (by omega) r47 (by omega) (by omega))) ?_
      rintro M50 _ ⟨h50, rfl⟩
      have hS := St.tr hS h50 (by decide) (by decide)
      refine Tr.sc [] rfl ?_
      refine Tr.aload_n (pc := 53) (i := 0) d_X5_namedPiece_53 rfl rfl ?_
      refine Tr.callV (pc := 54) (as := []) d_X5_namedPiece_54 s_5_74 ok_X5_goOn rfl rfl (Nat.le_of_ble_eq_true rfl) (Nat.le_of_ble_eq_true rfl) (by decide) (ty_6 hS.1.1) ?_
      refine Tr.imp (Tr.deep (by decide) (sp_X5_goOn_6 hS.1 )) ?_
      rintro M54 _ ⟨h54, r54, rfl, lr54, ur54⟩
      have hS := St.tr hS h54 (by decide) (by decide)
      refine Tr.sc [(0, r54)] rfl ?_
      exact Tr.zret (pc := 57) d_X5_namedPiece_57 rfl (by omega) ⟨hS, _, rfl, by omega, by omega⟩

def ws_X4_emit_15_w3 : List (Int × Int) := [(15, 11)]
def as_X4_emit_15_w3 : List Int := [24, 25]
def q_X4_emit_15_w3 (M0 M' : Mem) (r : Option PV) : Prop := St Tru ws_X4_emit_15_w3 as_X4_emit_15_w3 M0 M' ∧ r = none
set_option maxRecDepth 100000 in
set_option maxHeartbeats 4000000 in
theorem sp_X4_emit_15_w3 {l : Launch} {K : EC} {M0 : Mem} (hI : In Tru M0)  (a1 : Int) (ha1 : 0 ≤ a1 ∧ a1 ≤ 0) (a2 : Int) (ha2 : (-1) ≤ a2 ∧ a2 ≤ 999) (hp0 : (a1 = 1 → 0 ≤ a2 ∧ a2 ≤ 2) ∧ (a1 = 2 ∨ a1 = 4 → 0 ≤ a2 ∧ a2 ≤ 5)) : Tr l K 0 mX4_emit 0 [(0, (2, 15)), (1, (0, a1)), (2, (0, a2))] [] M0 (q_X4_emit_15_w3 M0) := by
  have hS : St Tru ws_X4_emit_15_w3 as_X4_emit_15_w3 M0 M0 := St.rf hI
  refine Tr.aload_n (pc := 0) (i := 0) d_X4_emit_0 rfl rfl ?_
  refine Tr.getf (pc := 1) d_X4_emit_1 f_4_49 (by decide) (by decide) (ty_15 hS.1.1) ?_
  refine Tr.gen (P := fun v => 0 ≤ v ∧ v ≤ 900) (ir_15_11 hS.1.2.1) (fun r1 er1 br1 => ?_)
  refine Tr.sipush (pc := 4) d_X4_emit_4 rfl (by decide) ?_
  refine Tr.icmp_ge (pc := 7) (tgt := 40) d_X4_emit_7 rfl (fun c7 => ?_) (fun c7 => ?_)
  · exact Tr.vret (pc := 40) d_X4_emit_40 rfl ⟨hS, rfl⟩
  · refine Tr.aload_n (pc := 10) (i := 0) d_X4_emit_10 rfl rfl ?_
    refine Tr.getf (pc := 11) d_X4_emit_11 f_4_36 (by decide) (by decide) (ty_15 hS.1.1) ?_
    refine Tr.tp 24 (fx_15_9 hS.1.1) ?_
    refine Tr.aload_n (pc := 14) (i := 0) d_X4_emit_14 rfl rfl ?_
    refine Tr.getf (pc := 15) d_X4_emit_15 f_4_49 (by decide) (by decide) (ty_15 hS.1.1) ?_
    refine Tr.tp r1 er1 ?_
    refine Tr.iload_n (pc := 18) (i := 1) d_X4_emit_18 rfl rfl ?_
    refine Tr.iast (pc := 19) d_X4_emit_19 (ty_24 hS.1.1) (by omega) (by omega) ?_
    refine Tr.aload_n (pc := 20) (i := 0) d_X4_emit_20 rfl rfl ?_
    refine Tr.getf (pc := 21) d_X4_emit_21 f_4_39 (by decide) (by decide) (show mT (wr M0 24 r1 a1) 15 = (4, 13) from ty_15 (M := M0) hS.1.1) ?_
    refine Tr.tp 25 ((rd_wb _ rfl).trans (fx_15_10 (M := M0) hS.1.1)) ?_
    refine Tr.aload_n (pc := 24) (i := 0) d_X4_emit_24 rfl rfl ?_
    refine Tr.getf (pc := 25) d_X4_emit_25 f_4_49 (by decide) (by decide) (show mT (wr M0 24 r1 a1) 15 = (4, 13) from ty_15 (M := M0) hS.1.1) ?_
    refine Tr.tp r1 ((rd_wb _ rfl).trans er1) ?_
    refine Tr.iload_n (pc := 28) (i := 2) d_X4_emit_28 rfl rfl ?_
    refine Tr.iastS (pc := 29) (P := St Tru ws_X4_emit_15_w3 as_X4_emit_15_w3 M0) d_X4_emit_29 (show mT (wr M0 24 r1 a1) 25 = (20, 900) from ty_25 (M := M0) hS.1.1) (by omega) (by omega) (St.two (x := 24) (y := 25) 18 19 hS (by decide) hp0 (by decide) (by decide) rfl (by decide +kernel) (by decide +kernel) (by decide +kernel) (by omega) rfl (by decide +kernel) (by decide +kernel) (by decide +kernel) (by omega) trivial) (fun M29 hS w29 => ?_)
    refine Tr.aload_n (pc := 30) (i := 0) d_X4_emit_30 rfl rfl ?_
    refine Tr.dup (pc := 31) d_X4_emit_31 ne21 ?_
    refine Tr.getf (pc := 32) d_X4_emit_32 f_4_49 (by decide) (by decide) (ty_15 hS.1.1) ?_
    refine Tr.tp r1 ((Wr.b w29 rfl).trans ((rd_wb _ rfl).trans er1)) ?_
    refine Tr.iconst (pc := 35) d_X4_emit_35 (by decide) ?_
    refine Tr.iadd (pc := 36) d_X4_emit_36 ?_
    refine Tr.tp (r1 + 1) ((w32_id (by omega)).trans (by omega)) ?_
    refine Tr.putfS (pc := 37) (P := St Tru ws_X4_emit_15_w3 as_X4_emit_15_w3 M0) d_X4_emit_37 f_4_49 (by decide) (by decide) (ty_15 hS.1.1) (st_15_11 hS (by decide) (by omega) trivial) (fun M37 hS w37 => ?_)
    exact Tr.vret (pc := 40) d_X4_emit_40 rfl ⟨hS, rfl⟩

def ws_X4_emit_15_w4 : List (Int × Int) := [(15, 11)]
def as_X4_emit_15_w4 : List Int := [24, 25]
def q_X4_emit_15_w4 (M0 M' : Mem) (r : Option PV) : Prop := St Tru ws_X4_emit_15_w4 as_X4_emit_15_w4 M0 M' ∧ r = none
set_option maxRecDepth 100000 in
set_option maxHeartbeats 4000000 in
theorem sp_X4_emit_15_w4 {l : Launch} {K : EC} {M0 : Mem} (hI : In Tru M0)  (a1 : Int) (ha1 : 10 ≤ a1 ∧ a1 ≤ 15) (a2 : Int) (ha2 : 0 ≤ a2 ∧ a2 ≤ 0) (hp0 : (a1 = 1 → 0 ≤ a2 ∧ a2 ≤ 2) ∧ (a1 = 2 ∨ a1 = 4 → 0 ≤ a2 ∧ a2 ≤ 5)) : Tr l K 0 mX4_emit 0 [(0, (2, 15)), (1, (0, a1)), (2, (0, a2))] [] M0 (q_X4_emit_15_w4 M0) := by
  have hS : St Tru ws_X4_emit_15_w4 as_X4_emit_15_w4 M0 M0 := St.rf hI
  refine Tr.aload_n (pc := 0) (i := 0) d_X4_emit_0 rfl rfl ?_
  refine Tr.getf (pc := 1) d_X4_emit_1 f_4_49 (by decide) (by decide) (ty_15 hS.1.1) ?_
  refine Tr.gen (P := fun v => 0 ≤ v ∧ v ≤ 900) (ir_15_11 hS.1.2.1) (fun r1 er1 br1 => ?_)
  refine Tr.sipush (pc := 4) d_X4_emit_4 rfl (by decide) ?_
  refine Tr.icmp_ge (pc := 7) (tgt := 40) d_X4_emit_7 rfl (fun c7 => ?_) (fun c7 => ?_)
  · exact Tr.vret (pc := 40) d_X4_emit_40 rfl ⟨hS, rfl⟩
  · refine Tr.aload_n (pc := 10) (i := 0) d_X4_emit_10 rfl rfl ?_
    refine Tr.getf (pc := 11) d_X4_emit_11 f_4_36 (by decide) (by decide) (ty_15 hS.1.1) ?_
    refine Tr.tp 24 (fx_15_9 hS.1.1) ?_
    refine Tr.aload_n (pc := 14) (i := 0) d_X4_emit_14 rfl rfl ?_
    refine Tr.getf (pc := 15) d_X4_emit_15 f_4_49 (by decide) (by decide) (ty_15 hS.1.1) ?_
    refine Tr.tp r1 er1 ?_
    refine Tr.iload_n (pc := 18) (i := 1) d_X4_emit_18 rfl rfl ?_
    refine Tr.iast (pc := 19) d_X4_emit_19 (ty_24 hS.1.1) (by omega) (by omega) ?_
    refine Tr.aload_n (pc := 20) (i := 0) d_X4_emit_20 rfl rfl ?_
    refine Tr.getf (pc := 21) d_X4_emit_21 f_4_39 (by decide) (by decide) (show mT (wr M0 24 r1 a1) 15 = (4, 13) from ty_15 (M := M0) hS.1.1) ?_
    refine Tr.tp 25 ((rd_wb _ rfl).trans (fx_15_10 (M := M0) hS.1.1)) ?_
    refine Tr.aload_n (pc := 24) (i := 0) d_X4_emit_24 rfl rfl ?_
    refine Tr.getf (pc := 25) d_X4_emit_25 f_4_49 (by decide) (by decide) (show mT (wr M0 24 r1 a1) 15 = (4, 13) from ty_15 (M := M0) hS.1.1) ?_
    refine Tr.tp r1 ((rd_wb _ rfl).trans er1) ?_
    refine Tr.iload_n (pc := 28) (i := 2) d_X4_emit_28 rfl rfl ?_
    refine Tr.iastS (pc := 29) (P := St Tru ws_X4_emit_15_w4 as_X4_emit_15_w4 M0) d_X4_emit_29 (show mT (wr M0 24 r1 a1) 25 = (20, 900) from ty_25 (M := M0) hS.1.1) (by omega) (by omega) (St.two (x := 24) (y := 25) 18 19 hS (by decide) hp0 (by decide) (by decide) rfl (by decide +kernel) (by decide +kernel) (by decide +kernel) (by omega) rfl (by decide +kernel) (by decide +kernel) (by decide +kernel) (by omega) trivial) (fun M29 hS w29 => ?_)
    refine Tr.aload_n (pc := 30) (i := 0) d_X4_emit_30 rfl rfl ?_
    refine Tr.dup (pc := 31) d_X4_emit_31 ne21 ?_
    refine Tr.getf (pc := 32) d_X4_emit_32 f_4_49 (by decide) (by decide) (ty_15 hS.1.1) ?_
    refine Tr.tp r1 ((Wr.b w29 rfl).trans ((rd_wb _ rfl).trans er1)) ?_
    refine Tr.iconst (pc := 35) d_X4_emit_35 (by decide) ?_
    refine Tr.iadd (pc := 36) d_X4_emit_36 ?_
    refine Tr.tp (r1 + 1) ((w32_id (by omega)).trans (by omega)) ?_
    refine Tr.putfS (pc := 37) (P := St Tru ws_X4_emit_15_w4 as_X4_emit_15_w4 M0) d_X4_emit_37 f_4_49 (by decide) (by decide) (ty_15 hS.1.1) (st_15_11 hS (by decide) (by omega) trivial) (fun M37 hS w37 => ?_)
    exact Tr.vret (pc := 40) d_X4_emit_40 rfl ⟨hS, rfl⟩

def ws_X5_choice_6_w9 : List (Int × Int) := [(6, 0), (6, 1), (6, 5), (15, 11)]
def as_X5_choice_6_w9 : List Int := [24, 25]
def q_X5_choice_6_w9 (M0 M' : Mem) (r : Option PV) : Prop := St Tru ws_X5_choice_6_w9 as_X5_choice_6_w9 M0 M' ∧ ∃ v : Int, r = some (0, v) ∧ 0 ≤ v ∧ v ≤ 0
set_option maxRecDepth 100000 in
set_option maxHeartbeats 4000000 in
theorem sp_X5_choice_6_w9 {l : Launch} {K : EC} {M0 : Mem} (hI : In Tru M0) (en_6_2 : rd M0 6 2 = 2) (en_6_4 : rd M0 6 4 = 15) (en_6_6 : rd M0 6 6 = 8) (a1 : Int) (ha1 : 10 ≤ a1 ∧ a1 ≤ 15)  : Tr l K 2 mX5_choice 0 [(0, (2, 6)), (1, (0, a1))] [] M0 (q_X5_choice_6_w9 M0) := by
  have hS : St Tru ws_X5_choice_6_w9 as_X5_choice_6_w9 M0 M0 := St.rf hI
  refine Tr.aload_n (pc := 0) (i := 0) d_X5_choice_0 rfl rfl ?_
  refine Tr.callV (pc := 1) (as := []) d_X5_choice_1 s_5_74 ok_X5_goOn rfl rfl (Nat.le_of_ble_eq_true rfl) (Nat.le_of_ble_eq_true rfl) (by decide) (ty_6 hS.1.1) ?_
  refine Tr.imp (Tr.deep (by decide) (sp_X5_goOn_6 hS.1 )) ?_
  rintro M1 _ ⟨h1, r1, rfl, lr1, ur1⟩
  have hS := St.tr hS h1 (by decide) (by decide)
  refine Tr.sc [(0, r1)] rfl ?_
  refine Tr.pop (pc := 4) d_X5_choice_4 ne01 ?_
  refine Tr.aload_n (pc := 5) (i := 0) d_X5_choice_5 rfl rfl ?_
  refine Tr.bipush (pc := 6) d_X5_choice_6 rfl (by decide) ?_
  refine Tr.callV (pc := 8) (as := [_]) d_X5_choice_8 s_5_206 ok_X5_takeOpening rfl rfl (Nat.le_of_ble_eq_true rfl) (Nat.le_of_ble_eq_true rfl) (by decide) (ty_6 hS.1.1) ?_
  refine Tr.imp (Tr.deep (by decide) (sp_X5_takeOpening_6_w8 hS.1 ((St.kp hS (by decide) (by decide) (by decide)).trans en_6_2) ((St.kp h1 (by decide) (by decide) (by decide)).trans en_6_6) 40 (by omega))) ?_
  rintro M8 _ ⟨h8, r8, rfl, lr8, ur8⟩
  have hS := St.tr hS h8 (by decide) (by decide)
  refine Tr.sc [(0, r8)] rfl ?_
  refine Tr.if_eq (pc := 11) (tgt := 50) d_X5_choice_11 rfl (fun _ => ?_) (fun hc => absurd (by omega) hc)
  refine Tr.iconst (pc := 50) d_X5_choice_50 (by decide) ?_
  refine Tr.istore_n (pc := 51) (i := 2) (ls2 := [(2, (0, 0)), (0, (2, 6)), (1, (0, a1))]) d_X5_choice_51 rfl (by decide) rfl ?_
  refine Tr.aload_n (pc := 52) (i := 0) d_X5_choice_52 rfl rfl ?_
  refine Tr.getf (pc := 53) d_X5_choice_53 f_5_32 (by decide) (by decide) (ty_6 hS.1.1) ?_
  refine Tr.tp 15 ((St.kp hS (by decide) (by decide) (by decide)).trans en_6_4) ?_
  refine Tr.iload_n (pc := 56) (i := 1) d_X5_choice_56 rfl rfl ?_
  refine Tr.iconst (pc := 57) d_X5_choice_57 (by decide) ?_
  refine Tr.callV (pc := 58) (as := [_, _]) d_X5_choice_58 s_5_215 ok_X4_emit rfl rfl (Nat.le_of_ble_eq_true rfl) (Nat.le_of_ble_eq_true rfl) (by decide) (ty_15 hS.1.1) ?_
  refine Tr.imp (Tr.deep (by decide) (sp_X4_emit_15_w4 hS.1.wk a1 (by omega) 0 (by omega) (by omega))) ?_
  rintro M58 _ ⟨h58, rfl⟩
  have hS := St.tr hS h58 (by decide) (by decide)
  refine Tr.sc [] rfl ?_
  refine Tr.iload_n (pc := 61) (i := 2) d_X5_choice_61 rfl rfl ?_
  exact Tr.zret (pc := 62) d_X5_choice_62 rfl (by omega) ⟨hS, _, rfl, by omega, by omega⟩

def ws_X5_piece_6_w17 : List (Int × Int) := [(6, 0), (6, 1), (6, 5), (15, 11)]
def as_X5_piece_6_w17 : List Int := [24, 25]
def q_X5_piece_6_w17 (M0 M' : Mem) (r : Option PV) : Prop := St Tru ws_X5_piece_6_w17 as_X5_piece_6_w17 M0 M' ∧ ∃ v : Int, r = some (0, v) ∧ 0 ≤ v ∧ v ≤ 1
set_option maxRecDepth 100000 in
set_option maxHeartbeats 4000000 in
theorem sp_X5_piece_6_w17 {l : Launch} {K : EC} {M0 : Mem} {xq : Int} (hI : In Tru M0) (hE : e_all K xq) (en_6_2 : rd M0 6 2 = 2) (en_6_3 : rd M0 6 3 = 7) (en_6_4 : rd M0 6 4 = 15) (en_6_6 : rd M0 6 6 = 8)   : Tr l K 3 mX5_piece 0 [(0, (2, 6))] [] M0 (q_X5_piece_6_w17 M0) := by
  have hS : St Tru ws_X5_piece_6_w17 as_X5_piece_6_w17 M0 M0 := St.rf hI
  refine Tr.aload_n (pc := 0) (i := 0) d_X5_piece_0 rfl rfl ?_
  refine Tr.getf (pc := 1) d_X5_piece_1 f_5_18 (by decide) (by decide) (ty_6 hS.1.1) ?_
  refine Tr.tp 2 ((St.kp hS (by decide) (by decide) (by decide)).trans en_6_2) ?_
  refine Tr.getf (pc := 4) d_X5_piece_4 f_5_50 (by decide) (by decide) (ty_2 hS.1.1) ?_
  refine Tr.tp 3 (fx_2_0 hS.1.1) ?_
  refine Tr.aload_n (pc := 7) (i := 0) d_X5_piece_7 rfl rfl ?_
  refine Tr.getf (pc := 8) d_X5_piece_8 f_5_36 (by decide) (by decide) (ty_6 hS.1.1) ?_
  refine Tr.gen (P := fun v => 0 ≤ v ∧ v ≤ 900) (ir_6_5 hS.1.2.1) (fun r8 er8 br8 => ?_)
  refine Tr.iald (pc := 11) d_X5_piece_11 (ty_3 hS.1.1) (by omega) (by omega) ?_
  refine Tr.gen (P := fun v => (-2147483648) ≤ v ∧ v ≤ 2147483647) (ar_3 hS.1.2.1 _) (fun r11 er11 br11 => ?_)
  refine Tr.iconst (pc := 12) d_X5_piece_12 (by decide) ?_
  refine Tr.icmp_ne (pc := 13) (tgt := 44) d_X5_piece_13 rfl (fun c13 => ?_) (fun c13 => ?_)
  · refine Tr.aload_n (pc := 44) (i := 0) d_X5_piece_44 rfl rfl ?_
    refine Tr.getf (pc := 45) d_X5_piece_45 f_5_18 (by decide) (by decide) (ty_6 hS.1.1) ?_
    refine Tr.tp 2 ((St.kp hS (by decide) (by decide) (by decide)).trans en_6_2) ?_
    refine Tr.getf (pc := 48) d_X5_piece_48 f_5_50 (by decide) (by decide) (ty_2 hS.1.1) ?_
    refine Tr.tp 3 (fx_2_0 hS.1.1) ?_
    refine Tr.aload_n (pc := 51) (i := 0) d_X5_piece_51 rfl rfl ?_
    refine Tr.getf (pc := 52) d_X5_piece_52 f_5_36 (by decide) (by decide) (ty_6 hS.1.1) ?_
    refine Tr.tp r8 er8 ?_
    refine Tr.iald (pc := 55) d_X5_piece_55 (ty_3 hS.1.1) (by omega) (by omega) ?_
    refine Tr.tp r11 er11 ?_
    refine Tr.iconst (pc := 56) d_X5_piece_56 (by decide) ?_
    refine Tr.icmp_ne (pc := 57) (tgt := 65) d_X5_piece_57 rfl (fun c57 => ?_) (fun c57 => ?_)
    · refine Tr.aload_n (pc := 65) (i := 0) d_X5_piece_65 rfl rfl ?_
      refine Tr.bipush (pc := 66) d_X5_piece_66 rfl (by decide) ?_
      refine Tr.callV (pc := 68) (as := [_]) d_X5_piece_68 s_5_77 ok_X5_isSign rfl rfl (Nat.le_of_ble_eq_true rfl) (Nat.le_of_ble_eq_true rfl) (by decide) (ty_6 hS.1.1) ?_
      refine Tr.imp (Tr.deep (by decide) (sp_X5_isSign_6_w2 hS.1 ((St.kp hS (by decide) (by decide) (by decide)).trans en_6_2) 40 (by omega))) ?_
      rintro M68 _ ⟨h68, r68, rfl, lr68, ur68⟩
      have hS := St.tr hS h68 (by decide) (by decide)
      refine Tr.sc [(0, r68)] rfl ?_
      refine Tr.if_eq (pc := 71) (tgt := 105) d_X5_piece_71 rfl (fun c71 => ?_) (fun c71 => ?_)
      · refine Tr.aload_n (pc := 105) (i := 0) d_X5_piece_105 rfl rfl ?_
        refine Tr.bipush (pc := 106) d_X5_piece_106 rfl (by decide) ?_
        refine Tr.callV (pc := 108) (as := [_]) d_X5_piece_108 s_5_71 ok_X5_isOwn rfl rfl (Nat.le_of_ble_eq_true rfl) (Nat.le_of_ble_eq_true rfl) (by decide) (ty_6 hS.1.1) ?_
        refine Tr.imp (Tr.deep (by decide) (sp_X5_isOwn_6_w4 hS.1 ((St.kp hS (by decide) (by decide) (by decide)).trans en_6_2) 24 (by omega))) ?_
        rintro M108 _ ⟨h108, r108, rfl, lr108, ur108⟩
        have hS := St.tr hS h108 (by decide) (by decide)
        refine Tr.sc [(0, r108)] rfl ?_
        refine Tr.if_eq (pc := 111) (tgt := 128) d_X5_piece_111 rfl (fun c111 => ?_) (fun c111 => ?_)
        · refine Tr.aload_n (pc := 128) (i := 0) d_X5_piece_128 rfl rfl ?_
          refine Tr.bipush (pc := 129) d_X5_piece_129 rfl (by decide) ?_
          refine Tr.callV (pc := 131) (as := [_]) d_X5_piece_131 s_5_71 ok_X5_isOwn rfl rfl (Nat.le_of_ble_eq_true rfl) (Nat.le_of_ble_eq_true rfl) (by decide) (ty_6 hS.1.1) ?_
          refine Tr.imp (Tr.deep (by decide) (sp_X5_isOwn_6_w4 hS.1 ((St.kp hS (by decide) (by decide) (by decide)).trans en_6_2) 25 (by omega))) ?_
          rintro M131 _ ⟨h131, r131, rfl, lr131, ur131⟩
          have hS := St.tr hS h131 (by decide) (by decide)
          refine Tr.sc [(0, r131)] rfl ?_
          have J146 : ∀ (M : Mem), St Tru ws_X5_piece_6_w17 as_X5_piece_6_w17 M0 M → rd M 3 r8 = r11 → rd M 6 5 = r8 → rd M 6 6 = 8 → Tr l K 3 mX5_piece 146 [(0, (2, 6))] [] M (q_X5_piece_6_w17 M0) := by
            intro M  hS  k146_3_r810 k146_6_5 k146_6_6
            refine Tr.aload_n (pc := 146) (i := 0) d_X5_piece_146 rfl rfl ?_
            refine Tr.aload_n (pc := 147) (i := 0) d_X5_piece_147 rfl rfl ?_
            refine Tr.bipush (pc := 148) d_X5_piece_148 rfl (by decide) ?_
            refine Tr.callV (pc := 150) (as := [_]) d_X5_piece_150 s_5_71 ok_X5_isOwn rfl rfl (Nat.le_of_ble_eq_true rfl) (Nat.le_of_ble_eq_true rfl) (by decide) (ty_6 hS.1.1) ?_
            refine Tr.imp (Tr.deep (by decide) (sp_X5_isOwn_6_w4 hS.1 ((St.kp hS (by decide) (by decide) (by decide)).trans en_6_2) 25 (by omega))) ?_
            rintro M150 _ ⟨h150, r150, rfl, lr150, ur150⟩
            have hS := St.tr hS h150 (by decide) (by decide)
            refine Tr.sc [(0, r150), (2, 6)] rfl ?_
            have J163 : ∀ (M : Mem) (q163_1 : Int), St Tru ws_X5_piece_6_w17 as_X5_piece_6_w17 M0 M → (11 ≤ q163_1 ∧ q163_1 ≤ 12) → rd M 3 r8 = r11 → rd M 6 5 = r8 → rd M 6 6 = 8 → Tr l K 3 mX5_piece 163 [] [(0, q163_1), (2, 6)] M (q_X5_piece_6_w17 M0) := by
              intro M q163_1 hS bq163_1 k163_3_r810 k163_6_5 k163_6_6
              refine Tr.callV (pc := 163) (as := [_]) d_X5_piece_163 s_5_233 ok_X5_choice rfl rfl (Nat.le_of_ble_eq_true rfl) (Nat.le_of_ble_eq_true rfl) (by decide) (ty_6 hS.1.1) ?_
              refine Tr.imp (Tr.deep (by decide) (sp_X5_choice_6_w9 hS.1 ((St.kp hS (by decide) (by decide) (by decide)).trans en_6_2) ((St.kp hS (by decide) (by decide) (by decide)).trans en_6_4) k163_6_6 q163_1 (by omega))) ?_
              rintro M163 _ ⟨h163, r163, rfl, lr163, ur163⟩
              have hS := St.tr hS h163 (by decide) (by decide)
              refine Tr.sc [(0, r163)] rfl ?_
              exact Tr.zret (pc := 166) d_X5_piece_166 rfl (by omega) ⟨hS, _, rfl, by omega, by omega⟩
            refine Tr.if_eq (pc := 153) (tgt := 161) d_X5_piece_153 rfl (fun c153 => ?_) (fun c153 => ?_)
            · refine Tr.bipush (pc := 161) d_X5_piece_161 rfl (by decide) ?_
              refine Tr.pick [] (ls2 := []) rfl ?_
              exact J163 _ _ hS (by omega) ((St.ka h150 (by decide) (by decide) (by decide)).trans k146_3_r810) ((St.kp h150 (by decide) (by decide) (by decide)).trans k146_6_5) ((St.kp h150 (by decide) (by decide) (by decide)).trans k146_6_6)
            · refine Tr.bipush (pc := 156) d_X5_piece_156 rfl (by decide) ?_
              refine Tr.goto (pc := 158) (tgt := 163) d_X5_piece_158 rfl ?_
              refine Tr.pick [] (ls2 := []) rfl ?_
              exact J163 _ _ hS (by omega) ((St.ka h150 (by decide) (by decide) (by decide)).trans k146_3_r810) ((St.kp h150 (by decide) (by decide) (by decide)).trans k146_6_5) ((St.kp h150 (by decide) (by decide) (by decide)).trans k146_6_6)
          refine Tr.if_ne (pc := 134) (tgt := 146) d_X5_piece_134 rfl (fun c134 => ?_) (fun c134 => ?_)
          · refine Tr.pick [0] (ls2 := [(0, (2, 6))]) rfl ?_
            exact J146 _ hS ((St.ka h131 (by decide) (by decide) (by decide)).trans ((St.ka h108 (by decide) (by decide) (by decide)).trans ((St.ka h68 (by decide) (by decide) (by decide)).trans er11))) ((St.kp h131 (by decide) (by decide) (by decide)).trans ((St.kp h108 (by decide) (by decide) (by decide)).trans ((St.kp h68 (by decide) (by decide) (by decide)).trans er8))) ((St.kp h131 (by decide) (by decide) (by decide)).trans ((St.kp h108 (by decide) (by decide) (by decide)).trans ((St.kp h68 (by decide) (by decide) (by decide)).trans en_6_6)))
          · refine Tr.aload_n (pc := 137) (i := 0) d_X5_piece_137 rfl rfl ?_
            refine Tr.bipush (pc := 138) d_X5_piece_138 rfl (by decide) ?_
            refine Tr.callV (pc := 140) (as := [_]) d_X5_piece_140 s_5_71 ok_X5_isOwn rfl rfl (Nat.le_of_ble_eq_true rfl) (Nat.le_of_ble_eq_true rfl) (by decide) (ty_6 hS.1.1) ?_
            refine Tr.imp (Tr.deep (by decide) (sp_X5_isOwn_6_w4 hS.1 ((St.kp hS (by decide) (by decide) (by decide)).trans en_6_2) 26 (by omega))) ?_
            rintro M140 _ ⟨h140, r140, rfl, lr140, ur140⟩
            have hS := St.tr hS h140 (by decide) (by decide)
            refine Tr.sc [(0, r140)] rfl ?_
            refine Tr.if_eq (pc := 143) (tgt := 167) d_X5_piece_143 rfl (fun c143 => ?_) (fun c143 => ?_)
            · refine Tr.aload_n (pc := 167) (i := 0) d_X5_piece_167 rfl rfl ?_
              refine Tr.iconst (pc := 168) d_X5_piece_168 (by decide) ?_
              refine Tr.callV (pc := 169) (as := [_]) d_X5_piece_169 s_5_56 ok_X5_refuse rfl rfl (Nat.le_of_ble_eq_true rfl) (Nat.le_of_ble_eq_true rfl) (by decide) (ty_6 hS.1.1) ?_
              refine Tr.imp (Tr.deep (by decide) (sp_X5_refuse_6_w1 hS.1 ((St.kp hS (by decide) (by decide) (by decide)).trans en_6_2) 1 (by omega))) ?_
              rintro M169 _ ⟨h169, r169, rfl, lr169, ur169⟩
              have hS := St.tr hS h169 (by decide) (by decide)
              refine Tr.sc [(0, r169)] rfl ?_
              exact Tr.zret (pc := 172) d_X5_piece_172 rfl (by omega) ⟨hS, _, rfl, by omega, by omega⟩
            · refine Tr.pick [0] (ls2 := [(0, (2, 6))]) rfl ?_
              exact J146 _ hS ((St.ka h140 (by decide) (by decide) (by decide)).trans ((St.ka h131 (by decide) (by decide) (by decide)).trans ((St.ka h108 (by decide) (by decide) (by decide)).trans ((St.ka h68 (by decide) (by decide) (by decide)).trans er11)))) ((St.kp h140 (by decide) (by decide) (by decide)).trans ((St.kp h131 (by decide) (by decide) (by decide)).trans ((St.kp h108 (by decide) (by decide) (by decide)).trans ((St.kp h68 (by decide) (by decide) (by decide)).trans er8)))) ((St.kp h140 (by decide) (by decide) (by decide)).trans ((St.kp h131 (by decide) (by decide) (by decide)).trans ((St.kp h108 (by decide) (by decide) (by decide)).trans ((St.kp h68 (by decide) (by decide) (by decide)).trans en_6_6))))
        · refine Tr.aload_n (pc := 114) (i := 0) d_X5_piece_114 rfl rfl ?_
          refine Tr.getf (pc := 115) d_X5_piece_115 f_5_32 (by decide) (by decide) (ty_6 hS.1.1) ?_
          refine Tr.tp 15 ((St.kp hS (by decide) (by decide) (by decide)).trans en_6_4) ?_
          refine Tr.iconst (pc := 118) d_X5_piece_118 (by decide) ?_
          refine Tr.iconst (pc := 119) d_X5_piece_119 (by decide) ?_
          refine Tr.callV (pc := 120) (as := [_, _]) d_X5_piece_120 s_5_215 ok_X4_emit rfl rfl (Nat.le_of_ble_eq_true rfl) (Nat.le_of_ble_eq_true rfl) (by decide) (ty_15 hS.1.1) ?_
          refine Tr.imp (Tr.deep (by decide) (sp_X4_emit_15 hS.1.wk 3 (by omega) 0 (by omega) (by omega))) ?_
          rintro M120 _ ⟨h120, rfl⟩
          have hS := St.tr hS h120 (by decide) (by decide)
          refine Tr.sc [] rfl ?_
          refine Tr.aload_n (pc := 123) (i := 0) d_X5_piece_123 rfl rfl ?_
          refine Tr.callV (pc := 124) (as := []) d_X5_piece_124 s_5_74 ok_X5_goOn rfl rfl (Nat.le_of_ble_eq_true rfl) (Nat.le_of_ble_eq_true rfl) (by decide) (ty_6 hS.1.1) ?_
          refine Tr.imp (Tr.deep (by decide) (sp_X5_goOn_6 hS.1 )) ?_
          rintro M124 _ ⟨h124, r124, rfl, lr124, ur124⟩
          have hS := St.tr hS h124 (by decide) (by decide)
          refine Tr.sc [(0, r124)] rfl ?_
          exact Tr.zret (pc := 127) d_X5_piece_127 rfl (by omega) ⟨hS, _, rfl, by omega, by omega⟩
      · refine Tr.aload_n (pc := 74) (i := 0) d_X5_piece_74 rfl rfl ?_
        refine Tr.bipush (pc := 75) d_X5_piece_75 rfl (by decide) ?_
        refine Tr.callV (pc := 77) (as := [_]) d_X5_piece_77 s_5_206 ok_X5_takeOpening rfl rfl (Nat.le_of_ble_eq_true rfl) (Nat.le_of_ble_eq_true rfl) (by decide) (ty_6 hS.1.1) ?_
        refine Tr.imp (Tr.deep (by decide) (sp_X5_takeOpening_6_w8 hS.1 ((St.kp hS (by decide) (by decide) (by decide)).trans en_6_2) ((St.kp h68 (by decide) (by decide) (by decide)).trans en_6_6) 40 (by omega))) ?_
        rintro M77 _ ⟨h77, r77, rfl, lr77, ur77⟩
        have hS := St.tr hS h77 (by decide) (by decide)
        refine Tr.sc [(0, r77)] rfl ?_
        refine Tr.if_eq (pc := 80) (tgt := 103) d_X5_piece_80 rfl (fun _ => ?_) (fun hc => absurd (by omega) hc)
        refine Tr.iconst (pc := 103) d_X5_piece_103 (by decide) ?_
        exact Tr.zret (pc := 104) d_X5_piece_104 rfl (by omega) ⟨hS, _, rfl, by omega, by omega⟩
    · refine Tr.aload_n (pc := 60) (i := 0) d_X5_piece_60 rfl rfl ?_
      refine Tr.callV (pc := 61) (as := []) d_X5_piece_61 s_5_230 ok_X5_namedPiece rfl rfl (Nat.le_of_ble_eq_true rfl) (Nat.le_of_ble_eq_true rfl) (by decide) (ty_6 hS.1.1) ?_
      refine Tr.imp (Tr.deep (by decide) (sp_X5_namedPiece_6_w1 hS.1 hE ((St.kp hS (by decide) (by decide) (by decide)).trans en_6_2) ((St.kp hS (by decide) (by decide) (by decide)).trans en_6_3) ((St.kp hS (by decide) (by decide) (by decide)).trans en_6_4))) ?_
      rintro M61 _ ⟨h61, r61, rfl, lr61, ur61⟩
      have hS := St.tr hS h61 (by decide) (by decide)
      refine Tr.sc [(0, r61)] rfl ?_
      exact Tr.zret (pc := 64) d_X5_piece_64 rfl (by omega) ⟨hS, _, rfl, by omega, by omega⟩
  · refine Tr.aload_n (pc := 16) (i := 0) d_X5_piece_16 rfl rfl ?_
    refine Tr.iconst (pc := 17) d_X5_piece_17 (by decide) ?_
    refine Tr.sipush (pc := 18) d_X5_piece_18 rfl (by decide) ?_
    refine Tr.callV (pc := 21) (as := [_, _]) d_X5_piece_21 s_5_87 ok_X5_takeNumber rfl rfl (Nat.le_of_ble_eq_true rfl) (Nat.le_of_ble_eq_true rfl) (by decide) (ty_6 hS.1.1) ?_
    refine Tr.imp (Tr.deep (by decide) (sp_X5_takeNumber_6_w2 hS.1 ((St.kp hS (by decide) (by decide) (by decide)).trans en_6_2) 0 (by omega) 999 (by omega))) ?_
    rintro M21 _ ⟨h21, r21, rfl, lr21, ur21⟩
    have hS := St.tr hS h21 (by decide) (by decide)
    refine Tr.sc [(0, r21)] rfl ?_
    refine Tr.istore_n (pc := 24) (i := 1) (ls2 := [(1, (0, r21)), (0, (2, 6))]) d_X5_piece_24 rfl (by decide) rfl ?_
    refine Tr.aload_n (pc := 25) (i := 0) d_X5_piece_25 rfl rfl ?_
    refine Tr.getf (pc := 26) d_X5_piece_26 f_5_32 (by decide) (by decide) (ty_6 hS.1.1) ?_
    refine Tr.tp 15 ((St.kp hS (by decide) (by decide) (by decide)).trans en_6_4) ?_
    refine Tr.iconst (pc := 29) d_X5_piece_29 (by decide) ?_
    refine Tr.iload_n (pc := 30) (i := 1) d_X5_piece_30 rfl rfl ?_
    refine Tr.callV (pc := 31) (as := [_, _]) d_X5_piece_31 s_5_215 ok_X4_emit rfl rfl (Nat.le_of_ble_eq_true rfl) (Nat.le_of_ble_eq_true rfl) (by decide) (ty_15 hS.1.1) ?_
    refine Tr.imp (Tr.deep (by decide) (sp_X4_emit_15_w3 hS.1.wk 0 (by omega) r21 (by omega) (by omega))) ?_
    rintro M31 _ ⟨h31, rfl⟩
    have hS := St.tr hS h31 (by decide) (by decide)
    refine Tr.sc [] rfl ?_
    refine Tr.iload_n (pc := 34) (i := 1) d_X5_piece_34 rfl rfl ?_
    refine Tr.if_lt (pc := 35) (tgt := 42) d_X5_piece_35 rfl (fun c35 => ?_) (fun c35 => ?_)
    · refine Tr.iconst (pc := 42) d_X5_piece_42 (by decide) ?_
      exact Tr.zret (pc := 43) d_X5_piece_43 rfl (by omega) ⟨hS, _, rfl, by omega, by omega⟩
    · refine Tr.iconst (pc := 38) d_X5_piece_38 (by decide) ?_
      refine Tr.goto (pc := 39) (tgt := 43) d_X5_piece_39 rfl ?_
      exact Tr.zret (pc := 43) d_X5_piece_43 rfl (by omega) ⟨hS, _, rfl, by omega, by omega⟩

def ws_X4_emit_15_w5 : List (Int × Int) := [(15, 11)]
def as_X4_emit_15_w5 : List Int := [24, 25]
def q_X4_emit_15_w5 (M0 M' : Mem) (r : Option PV) : Prop := St Tru ws_X4_emit_15_w5 as_X4_emit_15_w5 M0 M' ∧ r = none
set_option maxRecDepth 100000 in
set_option maxHeartbeats 4000000 in
theorem sp_X4_emit_15_w5 {l : Launch} {K : EC} {M0 : Mem} (hI : In Tru M0)  (a1 : Int) (ha1 : 8 ≤ a1 ∧ a1 ≤ 10) (a2 : Int) (ha2 : 0 ≤ a2 ∧ a2 ≤ 0) (hp0 : (a1 = 1 → 0 ≤ a2 ∧ a2 ≤ 2) ∧ (a1 = 2 ∨ a1 = 4 → 0 ≤ a2 ∧ a2 ≤ 5)) : Tr l K 0 mX4_emit 0 [(0, (2, 15)), (1, (0, a1)), (2, (0, a2))] [] M0 (q_X4_emit_15_w5 M0) := by
  have hS : St Tru ws_X4_emit_15_w5 as_X4_emit_15_w5 M0 M0 := St.rf hI
  refine Tr.aload_n (pc := 0) (i := 0) d_X4_emit_0 rfl rfl ?_
  refine Tr.getf (pc := 1) d_X4_emit_1 f_4_49 (by decide) (by decide) (ty_15 hS.1.1) ?_
  refine Tr.gen (P := fun v => 0 ≤ v ∧ v ≤ 900) (ir_15_11 hS.1.2.1) (fun r1 er1 br1 => ?_)
  refine Tr.sipush (pc := 4) d_X4_emit_4 rfl (by decide) ?_
  refine Tr.icmp_ge (pc := 7) (tgt := 40) d_X4_emit_7 rfl (fun c7 => ?_) (fun c7 => ?_)
  · exact Tr.vret (pc := 40) d_X4_emit_40 rfl ⟨hS, rfl⟩
  · refine Tr.aload_n (pc := 10) (i := 0) d_X4_emit_10 rfl rfl ?_
    refine Tr.getf (pc := 11) d_X4_emit_11 f_4_36 (by decide) (by decide) (ty_15 hS.1.1) ?_
    refine Tr.tp 24 (fx_15_9 hS.1.1) ?_
    refine Tr.aload_n (pc := 14) (i := 0) d_X4_emit_14 rfl rfl ?_
    refine Tr.getf (pc := 15) d_X4_emit_15 f_4_49 (by decide) (by decide) (ty_15 hS.1.1) ?_
    refine Tr.tp r1 er1 ?_
    refine Tr.iload_n (pc := 18) (i := 1) d_X4_emit_18 rfl rfl ?_
    refine Tr.iast (pc := 19) d_X4_emit_19 (ty_24 hS.1.1) (by omega) (by omega) ?_
    refine Tr.aload_n (pc := 20) (i := 0) d_X4_emit_20 rfl rfl ?_
    refine Tr.getf (pc := 21) d_X4_emit_21 f_4_39 (by decide) (by decide) (show mT (wr M0 24 r1 a1) 15 = (4, 13) from ty_15 (M := M0) hS.1.1) ?_
    refine Tr.tp 25 ((rd_wb _ rfl).trans (fx_15_10 (M := M0) hS.1.1)) ?_
    refine Tr.aload_n (pc := 24) (i := 0) d_X4_emit_24 rfl rfl ?_
    refine Tr.getf (pc := 25) d_X4_emit_25 f_4_49 (by decide) (by decide) (show mT (wr M0 24 r1 a1) 15 = (4, 13) from ty_15 (M := M0) hS.1.1) ?_
    refine Tr.tp r1 ((rd_wb _ rfl).trans er1) ?_
    refine Tr.iload_n (pc := 28) (i := 2) d_X4_emit_28 rfl rfl ?_
    refine Tr.iastS (pc := 29) (P := St Tru ws_X4_emit_15_w5 as_X4_emit_15_w5 M0) d_X4_emit_29 (show mT (wr M0 24 r1 a1) 25 = (20, 900) from ty_25 (M := M0) hS.1.1) (by omega) (by omega) (St.two (x := 24) (y := 25) 18 19 hS (by decide) hp0 (by decide) (by decide) rfl (by decide +kernel) (by decide +kernel) (by decide +kernel) (by omega) rfl (by decide +kernel) (by decide +kernel) (by decide +kernel) (by omega) trivial) (fun M29 hS w29 => ?_)
    refine Tr.aload_n (pc := 30) (i := 0) d_X4_emit_30 rfl rfl ?_
    refine Tr.dup (pc := 31) d_X4_emit_31 ne21 ?_
    refine Tr.getf (pc := 32) d_X4_emit_32 f_4_49 (by decide) (by decide) (ty_15 hS.1.1) ?_
    refine Tr.tp r1 ((Wr.b w29 rfl).trans ((rd_wb _ rfl).trans er1)) ?_
    refine Tr.iconst (pc := 35) d_X4_emit_35 (by decide) ?_
    refine Tr.iadd (pc := 36) d_X4_emit_36 ?_
    refine Tr.tp (r1 + 1) ((w32_id (by omega)).trans (by omega)) ?_
    refine Tr.putfS (pc := 37) (P := St Tru ws_X4_emit_15_w5 as_X4_emit_15_w5 M0) d_X4_emit_37 f_4_49 (by decide) (by decide) (ty_15 hS.1.1) (st_15_11 hS (by decide) (by omega) trivial) (fun M37 hS w37 => ?_)
    exact Tr.vret (pc := 40) d_X4_emit_40 rfl ⟨hS, rfl⟩

def ws_X5_product_6_w17 : List (Int × Int) := [(6, 0), (6, 1), (6, 5), (15, 11)]
def as_X5_product_6_w17 : List Int := [24, 25]
def q_X5_product_6_w17 (M0 M' : Mem) (r : Option PV) : Prop := St Tru ws_X5_product_6_w17 as_X5_product_6_w17 M0 M' ∧ ∃ v : Int, r = some (0, v) ∧ 0 ≤ v ∧ v ≤ 1
set_option maxRecDepth 100000 in
set_option maxHeartbeats 4000000 in
theorem sp_X5_product_6_w17 {l : Launch} {K : EC} {M0 : Mem} {xq : Int} (hI : In Tru M0) (hE : e_all K xq) (en_6_2 : rd M0 6 2 = 2) (en_6_3 : rd M0 6 3 = 7) (en_6_4 : rd M0 6 4 = 15) (en_6_6 : rd M0 6 6 = 8)   : Tr l K 4 mX5_product 0 [(0, (2, 6))] [] M0 (q_X5_product_6_w17 M0) := by
  have hS : St Tru ws_X5_product_6_w17 as_X5_product_6_w17 M0 M0 := St.rf hI
  refine Tr.aload_n (pc := 0) (i := 0) d_X5_product_0 rfl rfl ?_
  refine Tr.callV (pc := 1) (as := []) d_X5_product_1 s_5_227 ok_X5_piece rfl rfl (Nat.le_of_ble_eq_true rfl) (Nat.le_of_ble_eq_true rfl) (by decide) (ty_6 hS.1.1) ?_
  refine Tr.imp (Tr.deep (by decide) (sp_X5_piece_6_w17 hS.1 hE ((St.kp hS (by decide) (by decide) (by decide)).trans en_6_2) ((St.kp hS (by decide) (by decide) (by decide)).trans en_6_3) ((St.kp hS (by decide) (by decide) (by decide)).trans en_6_4) en_6_6)) ?_
  rintro M1 _ ⟨h1, r1, rfl, lr1, ur1⟩
  have hS := St.tr hS h1 (by decide) (by decide)
  refine Tr.sc [(0, r1)] rfl ?_
  refine Tr.istore_n (pc := 4) (i := 1) (ls2 := [(1, (0, r1)), (0, (2, 6))]) d_X5_product_4 rfl (by decide) rfl ?_
  refine Tr.iconst (pc := 5) d_X5_product_5 (by decide) ?_
  refine Tr.istore_n (pc := 6) (i := 2) (ls2 := [(2, (0, 0)), (1, (0, r1)), (0, (2, 6))]) d_X5_product_6 rfl (by decide) rfl ?_
  have J7 : ∀ (n7 : Nat) (M : Mem) (p7_1 p7_2 : Int), St Tru ws_X5_product_6_w17 as_X5_product_6_w17 M0 M → (0 ≤ p7_1 ∧ p7_1 ≤ 1) → (0 ≤ p7_2 ∧ p7_2 ≤ 900) → rd M 6 6 = 8 → (900 - p7_2).toNat < n7 → Tr l K 4 mX5_product 7 [(0, (2, 6)), (1, (0, p7_1)), (2, (0, p7_2))] [] M (q_X5_product_6_w17 M0) := by
    intro n7
    induction n7 with
    | zero => intro M p7_1 p7_2 hS bp7_1 bp7_2 k7_6_6 hm7; exact absurd hm7 (Nat.not_lt_zero _)
    | succ n7 J7 =>
      intro M p7_1 p7_2 hS bp7_1 bp7_2 k7_6_6 hm7
      refine Tr.iload_n (pc := 7) (i := 2) d_X5_product_7 rfl rfl ?_
      refine Tr.sipush (pc := 8) d_X5_product_8 rfl (by decide) ?_
      refine Tr.icmp_ge (pc := 11) (tgt := 101) d_X5_product_11 rfl (fun c11 => ?_) (fun c11 => ?_)
      · refine Tr.iload_n (pc := 101) (i := 1) d_X5_product_101 rfl rfl ?_
        exact Tr.zret (pc := 102) d_X5_product_102 rfl (by omega) ⟨hS, _, rfl, by omega, by omega⟩
      · refine Tr.iload_n (pc := 14) (i := 1) d_X5_product_14 rfl rfl ?_
        refine Tr.if_eq (pc := 15) (tgt := 101) d_X5_product_15 rfl (fun c15 => ?_) (fun c15 => ?_)
        · refine Tr.iload_n (pc := 101) (i := 1) d_X5_product_101 rfl rfl ?_
          exact Tr.zret (pc := 102) d_X5_product_102 rfl (by omega) ⟨hS, _, rfl, by omega, by omega⟩
        · refine Tr.aload_n (pc := 18) (i := 0) d_X5_product_18 rfl rfl ?_
          refine Tr.bipush (pc := 19) d_X5_product_19 rfl (by decide) ?_
          refine Tr.callV (pc := 21) (as := [_]) d_X5_product_21 s_5_77 ok_X5_isSign rfl rfl (Nat.le_of_ble_eq_true rfl) (Nat.le_of_ble_eq_true rfl) (by decide) (ty_6 hS.1.1) ?_
          refine Tr.imp (Tr.deep (by decide) (sp_X5_isSign_6_w2 hS.1 ((St.kp hS (by decide) (by decide) (by decide)).trans en_6_2) 42 (by omega))) ?_
          rintro M21 _ ⟨h21, r21, rfl, lr21, ur21⟩
          have hS := St.tr hS h21 (by decide) (by decide)
          refine Tr.sc [(0, r21)] rfl ?_
          have J45 : ∀ (M : Mem), St Tru ws_X5_product_6_w17 as_X5_product_6_w17 M0 M → rd M 6 6 = 8 → Tr l K 4 mX5_product 45 [(0, (2, 6)), (2, (0, p7_2))] [] M (q_X5_product_6_w17 M0) := by
            intro M  hS  k45_6_6
            refine Tr.aload_n (pc := 45) (i := 0) d_X5_product_45 rfl rfl ?_
            refine Tr.bipush (pc := 46) d_X5_product_46 rfl (by decide) ?_
            refine Tr.callV (pc := 48) (as := [_]) d_X5_product_48 s_5_77 ok_X5_isSign rfl rfl (Nat.le_of_ble_eq_true rfl) (Nat.le_of_ble_eq_true rfl) (by decide) (ty_6 hS.1.1) ?_
            refine Tr.imp (Tr.deep (by decide) (sp_X5_isSign_6_w2 hS.1 ((St.kp hS (by decide) (by decide) (by decide)).trans en_6_2) 42 (by omega))) ?_
            rintro M48 _ ⟨h48, r48, rfl, lr48, ur48⟩
            have hS := St.tr hS h48 (by decide) (by decide)
            refine Tr.sc [(0, r48)] rfl ?_
            have J75 : ∀ (M : Mem) (q75_0 : Int), St Tru ws_X5_product_6_w17 as_X5_product_6_w17 M0 M → (8 ≤ q75_0 ∧ q75_0 ≤ 10) → rd M 6 6 = 8 → Tr l K 4 mX5_product 75 [(0, (2, 6)), (2, (0, p7_2))] [(0, q75_0)] M (q_X5_product_6_w17 M0) := by
              intro M q75_0 hS bq75_0 k75_6_6
              refine Tr.istore_n (pc := 75) (i := 3) (ls2 := [(3, (0, q75_0)), (0, (2, 6)), (2, (0, p7_2))]) d_X5_product_75 rfl (by decide) rfl ?_
              refine Tr.aload_n (pc := 76) (i := 0) d_X5_product_76 rfl rfl ?_
              refine Tr.callV (pc := 77) (as := []) d_X5_product_77 s_5_74 ok_X5_goOn rfl rfl (Nat.le_of_ble_eq_true rfl) (Nat.le_of_ble_eq_true rfl) (by decide) (ty_6 hS.1.1) ?_
              refine Tr.imp (Tr.deep (by decide) (sp_X5_goOn_6 hS.1 )) ?_
              rintro M77 _ ⟨h77, r77, rfl, lr77, ur77⟩
              have hS := St.tr hS h77 (by decide) (by decide)
              refine Tr.sc [(0, r77)] rfl ?_
              refine Tr.pop (pc := 80) d_X5_product_80 ne01 ?_
              refine Tr.aload_n (pc := 81) (i := 0) d_X5_product_81 rfl rfl ?_
              refine Tr.callV (pc := 82) (as := []) d_X5_product_82 s_5_227 ok_X5_piece rfl rfl (Nat.le_of_ble_eq_true rfl) (Nat.le_of_ble_eq_true rfl) (by decide) (ty_6 hS.1.1) ?_
              refine Tr.imp (Tr.deep (by decide) (sp_X5_piece_6_w17 hS.1 hE ((St.kp hS (by decide) (by decide) (by decide)).trans en_6_2) ((St.kp hS (by decide) (by decide) (by decide)).trans en_6_3) ((St.kp hS (by decide) (by decide) (by decide)).trans en_6_4) ((St.kp h77 (by decide) (by decide) (by decide)).trans k75_6_6))) ?_
              rintro M82 _ ⟨h82, r82, rfl, lr82, ur82⟩
              have hS := St.tr hS h82 (by decide) (by decide)
              refine Tr.sc [(0, r82)] rfl ?_
              refine Tr.istore_n (pc := 85) (i := 1) (ls2 := [(1, (0, r82)), (3, (0, q75_0)), (0, (2, 6)), (2, (0, p7_2))]) d_X5_product_85 rfl (by decide) rfl ?_
              refine Tr.aload_n (pc := 86) (i := 0) d_X5_product_86 rfl rfl ?_
              refine Tr.getf (pc := 87) d_X5_product_87 f_5_32 (by decide) (by decide) (ty_6 hS.1.1) ?_
              refine Tr.tp 15 ((St.kp hS (by decide) (by decide) (by decide)).trans en_6_4) ?_
              refine Tr.iload_n (pc := 90) (i := 3) d_X5_product_90 rfl rfl ?_
              refine Tr.iconst (pc := 91) d_X5_product_91 (by decide) ?_
              refine Tr.callV (pc := 92) (as := [_, _]) d_X5_product_92 s_5_215 ok_X4_emit rfl rfl (Nat.le_of_ble_eq_true rfl) (Nat.le_of_ble_eq_true rfl) (by decide) (ty_15 hS.1.1) ?_
              refine Tr.imp (Tr.deep (by decide) (sp_X4_emit_15_w5 hS.1.wk q75_0 (by omega) 0 (by omega) (by omega))) ?_
              rintro M92 _ ⟨h92, rfl⟩
              have hS := St.tr hS h92 (by decide) (by decide)
              refine Tr.sc [] rfl ?_
              refine Tr.iincV (pc := 95) (n2 := (p7_2 + 1)) (ls2 := [(2, (0, (p7_2 + 1))), (1, (0, r82)), (3, (0, q75_0)), (0, (2, 6))]) d_X5_product_95 rfl (by decide) ((w32_id (by omega)).trans (by omega)) rfl ?_
              refine Tr.goto (pc := 98) (tgt := 7) d_X5_product_98 rfl ?_
              refine Tr.pick [3, 1, 0] (ls2 := [(0, (2, 6)), (1, (0, r82)), (2, (0, (p7_2 + 1)))]) rfl ?_
              exact J7 _ _ _ hS (by omega) (by omega) ((St.kp h92 (by decide) (by decide) (by decide)).trans ((St.kp h82 (by decide) (by decide) (by decide)).trans ((St.kp h77 (by decide) (by decide) (by decide)).trans k75_6_6))) (by omega)
            refine Tr.if_eq (pc := 51) (tgt := 59) d_X5_product_51 rfl (fun c51 => ?_) (fun c51 => ?_)
            · refine Tr.aload_n (pc := 59) (i := 0) d_X5_product_59 rfl rfl ?_
              refine Tr.bipush (pc := 60) d_X5_product_60 rfl (by decide) ?_
              refine Tr.callV (pc := 62) (as := [_]) d_X5_product_62 s_5_77 ok_X5_isSign rfl rfl (Nat.le_of_ble_eq_true rfl) (Nat.le_of_ble_eq_true rfl) (by decide) (ty_6 hS.1.1) ?_
              refine Tr.imp (Tr.deep (by decide) (sp_X5_isSign_6_w2 hS.1 ((St.kp hS (by decide) (by decide) (by decide)).trans en_6_2) 47 (by omega))) ?_
              rintro M62 _ ⟨h62, r62, rfl, lr62, ur62⟩
              have hS := St.tr hS h62 (by decide) (by decide)
              refine Tr.sc [(0, r62)] rfl ?_
              refine Tr.if_eq (pc := 65) (tgt := 73) d_X5_product_65 rfl (fun c65 => ?_) (fun c65 => ?_)
              · refine Tr.bipush (pc := 73) d_X5_product_73 rfl (by decide) ?_
                refine Tr.pick [0, 1] (ls2 := [(0, (2, 6)), (2, (0, p7_2))]) rfl ?_
                exact J75 _ _ hS (by omega) ((St.kp h62 (by decide) (by decide) (by decide)).trans ((St.kp h48 (by decide) (by decide) (by decide)).trans k45_6_6))
              · refine Tr.bipush (pc := 68) d_X5_product_68 rfl (by decide) ?_
                refine Tr.goto (pc := 70) (tgt := 75) d_X5_product_70 rfl ?_
                refine Tr.pick [0, 1] (ls2 := [(0, (2, 6)), (2, (0, p7_2))]) rfl ?_
                exact J75 _ _ hS (by omega) ((St.kp h62 (by decide) (by decide) (by decide)).trans ((St.kp h48 (by decide) (by decide) (by decide)).trans k45_6_6))
            · refine Tr.bipush (pc := 54) d_X5_product_54 rfl (by decide) ?_
              refine Tr.goto (pc := 56) (tgt := 75) d_X5_product_56 rfl ?_
              refine Tr.pick [0, 1] (ls2 := [(0, (2, 6)), (2, (0, p7_2))]) rfl ?_
              exact J75 _ _ hS (by omega) ((St.kp h48 (by decide) (by decide) (by decide)).trans k45_6_6)
          refine Tr.if_ne (pc := 24) (tgt := 45) d_X5_product_24 rfl (fun c24 => ?_) (fun c24 => ?_)
          · refine Tr.pick [0, 2] (ls2 := [(0, (2, 6)), (2, (0, p7_2))]) rfl ?_
            exact J45 _ hS ((St.kp h21 (by decide) (by decide) (by decide)).trans k7_6_6)
          · refine Tr.aload_n (pc := 27) (i := 0) d_X5_product_27 rfl rfl ?_
            refine Tr.bipush (pc := 28) d_X5_product_28 rfl (by decide) ?_
            refine Tr.callV (pc := 30) (as := [_]) d_X5_product_30 s_5_77 ok_X5_isSign rfl rfl (Nat.le_of_ble_eq_true rfl) (Nat.le_of_ble_eq_true rfl) (by decide) (ty_6 hS.1.1) ?_
            refine Tr.imp (Tr.deep (by decide) (sp_X5_isSign_6_w2 hS.1 ((St.kp hS (by decide) (by decide) (by decide)).trans en_6_2) 47 (by omega))) ?_
            rintro M30 _ ⟨h30, r30, rfl, lr30, ur30⟩
            have hS := St.tr hS h30 (by decide) (by decide)
            refine Tr.sc [(0, r30)] rfl ?_
            refine Tr.if_ne (pc := 33) (tgt := 45) d_X5_product_33 rfl (fun c33 => ?_) (fun c33 => ?_)
            · refine Tr.pick [0, 2] (ls2 := [(0, (2, 6)), (2, (0, p7_2))]) rfl ?_
              exact J45 _ hS ((St.kp h30 (by decide) (by decide) (by decide)).trans ((St.kp h21 (by decide) (by decide) (by decide)).trans k7_6_6))
            · refine Tr.aload_n (pc := 36) (i := 0) d_X5_product_36 rfl rfl ?_
              refine Tr.bipush (pc := 37) d_X5_product_37 rfl (by decide) ?_
              refine Tr.callV (pc := 39) (as := [_]) d_X5_product_39 s_5_77 ok_X5_isSign rfl rfl (Nat.le_of_ble_eq_true rfl) (Nat.le_of_ble_eq_true rfl) (by decide) (ty_6 hS.1.1) ?_
              refine Tr.imp (Tr.deep (by decide) (sp_X5_isSign_6_w2 hS.1 ((St.kp hS (by decide) (by decide) (by decide)).trans en_6_2) 37 (by omega))) ?_
              rintro M39 _ ⟨h39, r39, rfl, lr39, ur39⟩
              have hS := St.tr hS h39 (by decide) (by decide)
              refine Tr.sc [(0, r39)] rfl ?_
              refine Tr.if_eq (pc := 42) (tgt := 101) d_X5_product_42 rfl (fun c42 => ?_) (fun c42 => ?_)
              · refine Tr.iload_n (pc := 101) (i := 1) d_X5_product_101 rfl rfl ?_
                exact Tr.zret (pc := 102) d_X5_product_102 rfl (by omega) ⟨hS, _, rfl, by omega, by omega⟩
              · refine Tr.pick [0, 2] (ls2 := [(0, (2, 6)), (2, (0, p7_2))]) rfl ?_
                exact J45 _ hS ((St.kp h39 (by decide) (by decide) (by decide)).trans ((St.kp h30 (by decide) (by decide) (by decide)).trans ((St.kp h21 (by decide) (by decide) (by decide)).trans k7_6_6)))
  refine Tr.pick [2, 1, 0] (ls2 := [(0, (2, 6)), (1, (0, r1)), (2, (0, 0))]) rfl ?_
  exact J7 _ _ _ _ hS (by omega) (by omega) ((St.kp h1 (by decide) (by decide) (by decide)).trans en_6_6) (Nat.lt_succ_self _)
