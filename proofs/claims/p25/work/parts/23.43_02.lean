/-! 43.02 -/
section
def ws_X11_stretch_0_w2 : List (Int × Int) := []
def as_X11_stretch_0_w2 : List Int := []
def q_X11_stretch_0_w2 (M0 M' : Mem) (r : Option PV) : Prop := St Tru ws_X11_stretch_0_w2 as_X11_stretch_0_w2 M0 M' ∧ ∃ v : Int, r = some (0, v) ∧ (-2147483648) ≤ v ∧ v ≤ 2147483647
set_option maxRecDepth 100000 in
set_option maxHeartbeats 4000000 in
theorem sp_X11_stretch_0_w2 {l : Launch} {K : EC} {M0 : Mem} (hI : In Tru M0) (en_0_4 : rd M0 0 4 = 27) (en_0_9 : rd M0 0 9 = 1) (a1 : Int) (ha1 : (-2147483648) ≤ a1 ∧ a1 ≤ 2147483647) (a2 : Int) (ha2 : (-2147483648) ≤ a2 ∧ a2 ≤ 2147483647) (a3 : Int) (ha3 : (-2147483648) ≤ a3 ∧ a3 ≤ 2147483647)  : Tr l K 2 mX11_stretch 0 [(0, (2, 0)), (1, (0, a1)), (2, (0, a2)), (3, (0, a3))] [] M0 (q_X11_stretch_0_w2 M0) := by
  have hS : St Tru ws_X11_stretch_0_w2 as_X11_stretch_0_w2 M0 M0 := St.rf hI
  obtain ⟨g63_1, eg63_1⟩ : ∃ v, rd M0 63 1 = v := ⟨_, rfl⟩
  have bg63_1 : (-1000000000) ≤ g63_1 ∧ g63_1 ≤ 1000000000 := by rw [← eg63_1]; exact ir_63_1 hI.2.1
  obtain ⟨g63_0, eg63_0⟩ : ∃ v, rd M0 63 0 = v := ⟨_, rfl⟩
  have bg63_0 : (-2147483648) ≤ g63_0 ∧ g63_0 ≤ 2147483647 := by rw [← eg63_0]; exact ir_63_0 hI.2.1
  refine Tr.aload_n (pc := 0) (i := 0) d_X11_stretch_0 rfl rfl ?_
  refine Tr.iload_n (pc := 1) (i := 1) d_X11_stretch_1 rfl rfl ?_
  refine Tr.iload_n (pc := 2) (i := 2) d_X11_stretch_2 rfl rfl ?_
  refine Tr.callV (pc := 3) (as := [_, _]) d_X11_stretch_3 s_11_214 ok_X11_stretchPlace rfl rfl (Nat.le_of_ble_eq_true rfl) (Nat.le_of_ble_eq_true rfl) (by decide) (ty_0 hS.1.1) ?_
  refine Tr.imp (Tr.deep (by decide) (sp_X11_stretchPlace_0_w2 hS.1 ((St.kp hS (by decide) (by decide) (by decide)).trans en_0_4) ((St.kp hS (by decide) (by decide) (by decide)).trans en_0_9) a1 (by omega) a2 (by omega))) ?_
  rintro M3 _ ⟨h3, r3, rfl, lr3, ur3, z3_0⟩
  have hS := St.tr hS h3 (by decide) (by decide)
  have ka3_63_0 : rd M3 63 0 = g63_0 := ((St.kp h3 (by decide) (by decide) (by decide)).trans eg63_0)
  refine Tr.sc [(0, r3)] rfl ?_
  refine Tr.istore (pc := 6) (i := 4) (ls2 := [(4, (0, r3)), (0, (2, 0)), (1, (0, a1)), (2, (0, a2)), (3, (0, a3))]) d_X11_stretch_6 (by decide) rfl ?_
  refine Tr.iload (pc := 8) (i := 4) d_X11_stretch_8 rfl ?_
  refine Tr.if_ge (pc := 10) (tgt := 15) d_X11_stretch_10 rfl (fun c10 => ?_) (fun c10 => ?_)
  · refine Tr.aload_n (pc := 15) (i := 0) d_X11_stretch_15 rfl rfl ?_
    refine Tr.getf (pc := 16) d_X11_stretch_16 f_11_46 (by decide) (by decide) (ty_0 hS.1.1) ?_
    refine Tr.tp 48 (fx_0_7 hS.1.1) ?_
    refine Tr.getf (pc := 19) d_X11_stretch_19 f_11_178 (by decide) (by decide) (ty_48 hS.1.1) ?_
    refine Tr.tp 56 (fx_48_0 hS.1.1) ?_
    refine Tr.getf (pc := 22) d_X11_stretch_22 f_11_201 (by decide) (by decide) (ty_56 hS.1.1) ?_
    refine Tr.tp 63 (fx_56_8 hS.1.1) ?_
    refine Tr.astore (pc := 25) (i := 5) (ls2 := [(5, (2, 63)), (4, (0, r3)), (0, (2, 0)), (1, (0, a1)), (2, (0, a2)), (3, (0, a3))]) d_X11_stretch_25 (by decide) rfl ?_
    refine Tr.iload_n (pc := 27) (i := 3) d_X11_stretch_27 rfl rfl ?_
    rcases (show (a3 < 0 ∨ 2 < a3) ∨ a3 = 0 ∨ a3 = 1 ∨ a3 = 2 by omega) with c28 | c28 | c28 | c28
    · refine Tr.tswOut (pc := 28) (tgt := 83) d_X11_stretch_28 c28 rfl ?_
      refine Tr.iconst (pc := 83) d_X11_stretch_83 (by decide) ?_
      exact Tr.iret (pc := 84) d_X11_stretch_84 rfl ⟨hS, _, rfl, by omega, by omega⟩
    · refine Tr.tp 0 c28 ?_
      refine Tr.tswIn (pc := 28) (off := 28) (tgt := 56) d_X11_stretch_28 (by decide) (by decide) rfl rfl ?_
      refine Tr.aload (pc := 56) (i := 5) d_X11_stretch_56 rfl ?_
      refine Tr.getf (pc := 58) d_X11_stretch_58 f_11_217 (by decide) (by decide) (ty_63 hS.1.1) ?_
      refine Tr.gen (P := fun v => v = tref g63_1 2) (tl_ref hS ((St.kp h3 (by decide) (by decide) (by decide)).trans eg63_1) (by decide)) (fun t58 et58 bt58 => ?_)
      refine Tr.iload (pc := 61) (i := 4) d_X11_stretch_61 rfl ?_
      have nk63_0 : rd M3 63 0 = g63_0 := ((St.kp h3 (by decide) (by decide) (by decide)).trans eg63_0)
      have nn63 := tl_n hS ((St.kp h3 (by decide) (by decide) (by decide)).trans eg63_1)
      refine Tr.iald (pc := 63) d_X11_stretch_63 (tl_tyI hS ((St.kp h3 (by decide) (by decide) (by decide)).trans eg63_1) (j := 2) (by decide) (by decide) bt58) (by omega) (by omega) ?_
      refine Tr.gen (P := fun v => (-2147483648) ≤ v ∧ v ≤ 2147483647) (tl_eI hS ((St.kp h3 (by decide) (by decide) (by decide)).trans eg63_1) (j := 2) (by decide) (by decide) bt58 (by omega) (by omega)) (fun r63 er63 br63 => ?_)
      exact Tr.iret (pc := 64) d_X11_stretch_64 rfl ⟨hS, _, rfl, by omega, by omega⟩
    · refine Tr.tp 1 c28 ?_
      refine Tr.tswIn (pc := 28) (off := 37) (tgt := 65) d_X11_stretch_28 (by decide) (by decide) rfl rfl ?_
      refine Tr.aload (pc := 65) (i := 5) d_X11_stretch_65 rfl ?_
      refine Tr.getf (pc := 67) d_X11_stretch_67 f_11_220 (by decide) (by decide) (ty_63 hS.1.1) ?_
      refine Tr.gen (P := fun v => v = tref g63_1 3) (tl_ref hS ((St.kp h3 (by decide) (by decide) (by decide)).trans eg63_1) (by decide)) (fun t67 et67 bt67 => ?_)
      refine Tr.iload (pc := 70) (i := 4) d_X11_stretch_70 rfl ?_
      have nk72_0 : rd M3 63 0 = g63_0 := ((St.kp h3 (by decide) (by decide) (by decide)).trans eg63_0)
      have nn72 := tl_n hS ((St.kp h3 (by decide) (by decide) (by decide)).trans eg63_1)
      refine Tr.iald (pc := 72) d_X11_stretch_72 (tl_tyI hS ((St.kp h3 (by decide) (by decide) (by decide)).trans eg63_1) (j := 3) (by decide) (by decide) bt67) (by omega) (by omega) ?_
      refine Tr.gen (P := fun v => (-2147483648) ≤ v ∧ v ≤ 2147483647) (tl_eI hS ((St.kp h3 (by decide) (by decide) (by decide)).trans eg63_1) (j := 3) (by decide) (by decide) bt67 (by omega) (by omega)) (fun r72 er72 br72 => ?_)
      exact Tr.iret (pc := 73) d_X11_stretch_73 rfl ⟨hS, _, rfl, by omega, by omega⟩
    · refine Tr.tp 2 c28 ?_
      refine Tr.tswIn (pc := 28) (off := 46) (tgt := 74) d_X11_stretch_28 (by decide) (by decide) rfl rfl ?_
      refine Tr.aload (pc := 74) (i := 5) d_X11_stretch_74 rfl ?_
      refine Tr.getf (pc := 76) d_X11_stretch_76 f_11_223 (by decide) (by decide) (ty_63 hS.1.1) ?_
      refine Tr.gen (P := fun v => v = tref g63_1 4) (tl_ref hS ((St.kp h3 (by decide) (by decide) (by decide)).trans eg63_1) (by decide)) (fun t76 et76 bt76 => ?_)
      refine Tr.iload (pc := 79) (i := 4) d_X11_stretch_79 rfl ?_
      have nk81_0 : rd M3 63 0 = g63_0 := ((St.kp h3 (by decide) (by decide) (by decide)).trans eg63_0)
      have nn81 := tl_n hS ((St.kp h3 (by decide) (by decide) (by decide)).trans eg63_1)
      refine Tr.iald (pc := 81) d_X11_stretch_81 (tl_tyI hS ((St.kp h3 (by decide) (by decide) (by decide)).trans eg63_1) (j := 4) (by decide) (by decide) bt76) (by omega) (by omega) ?_
      refine Tr.gen (P := fun v => (-2147483648) ≤ v ∧ v ≤ 2147483647) (tl_eI hS ((St.kp h3 (by decide) (by decide) (by decide)).trans eg63_1) (j := 4) (by decide) (by decide) bt76 (by omega) (by omega)) (fun r81 er81 br81 => ?_)
      exact Tr.iret (pc := 82) d_X11_stretch_82 rfl ⟨hS, _, rfl, by omega, by omega⟩
  · refine Tr.iconst (pc := 13) d_X11_stretch_13 (by decide) ?_
    exact Tr.iret (pc := 14) d_X11_stretch_14 rfl ⟨hS, _, rfl, by omega, by omega⟩

def ws_X11_lines_0_w2 : List (Int × Int) := []
def as_X11_lines_0_w2 : List Int := []
def q_X11_lines_0_w2 (M0 M' : Mem) (r : Option PV) : Prop := St Tru ws_X11_lines_0_w2 as_X11_lines_0_w2 M0 M' ∧ ∃ v : Int, r = some (1, v) ∧ (-9223372036854775808) ≤ v ∧ v ≤ 9223372036854775807
set_option maxRecDepth 100000 in
set_option maxHeartbeats 4000000 in
theorem sp_X11_lines_0_w2 {l : Launch} {K : EC} {M0 : Mem} (hI : In Tru M0) (en_0_4 : rd M0 0 4 = 27) (en_0_9 : rd M0 0 9 = 1) (a1 : Int) (ha1 : (-2147483648) ≤ a1 ∧ a1 ≤ 2147483647) (a2 : Int) (ha2 : (-2147483648) ≤ a2 ∧ a2 ≤ 2147483647)  : Tr l K 2 mX11_lines 0 [(0, (2, 0)), (1, (0, a1)), (2, (0, a2))] [] M0 (q_X11_lines_0_w2 M0) := by
  have hS : St Tru ws_X11_lines_0_w2 as_X11_lines_0_w2 M0 M0 := St.rf hI
  obtain ⟨g63_1, eg63_1⟩ : ∃ v, rd M0 63 1 = v := ⟨_, rfl⟩
  have bg63_1 : (-1000000000) ≤ g63_1 ∧ g63_1 ≤ 1000000000 := by rw [← eg63_1]; exact ir_63_1 hI.2.1
  obtain ⟨g63_0, eg63_0⟩ : ∃ v, rd M0 63 0 = v := ⟨_, rfl⟩
  have bg63_0 : (-2147483648) ≤ g63_0 ∧ g63_0 ≤ 2147483647 := by rw [← eg63_0]; exact ir_63_0 hI.2.1
  refine Tr.aload_n (pc := 0) (i := 0) d_X11_lines_0 rfl rfl ?_
  refine Tr.iload_n (pc := 1) (i := 1) d_X11_lines_1 rfl rfl ?_
  refine Tr.iload_n (pc := 2) (i := 2) d_X11_lines_2 rfl rfl ?_
  refine Tr.callV (pc := 3) (as := [_, _]) d_X11_lines_3 s_11_214 ok_X11_stretchPlace rfl rfl (Nat.le_of_ble_eq_true rfl) (Nat.le_of_ble_eq_true rfl) (by decide) (ty_0 hS.1.1) ?_
  refine Tr.imp (Tr.deep (by decide) (sp_X11_stretchPlace_0_w2 hS.1 ((St.kp hS (by decide) (by decide) (by decide)).trans en_0_4) ((St.kp hS (by decide) (by decide) (by decide)).trans en_0_9) a1 (by omega) a2 (by omega))) ?_
  rintro M3 _ ⟨h3, r3, rfl, lr3, ur3, z3_0⟩
  have hS := St.tr hS h3 (by decide) (by decide)
  have ka3_63_0 : rd M3 63 0 = g63_0 := ((St.kp h3 (by decide) (by decide) (by decide)).trans eg63_0)
  refine Tr.sc [(0, r3)] rfl ?_
  refine Tr.istore_n (pc := 6) (i := 3) (ls2 := [(3, (0, r3)), (0, (2, 0)), (1, (0, a1)), (2, (0, a2))]) d_X11_lines_6 rfl (by decide) rfl ?_
  refine Tr.iload_n (pc := 7) (i := 3) d_X11_lines_7 rfl rfl ?_
  refine Tr.if_ge (pc := 8) (tgt := 15) d_X11_lines_8 rfl (fun c8 => ?_) (fun c8 => ?_)
  · refine Tr.aload_n (pc := 15) (i := 0) d_X11_lines_15 rfl rfl ?_
    refine Tr.getf (pc := 16) d_X11_lines_16 f_11_46 (by decide) (by decide) (ty_0 hS.1.1) ?_
    refine Tr.tp 48 (fx_0_7 hS.1.1) ?_
    refine Tr.getf (pc := 19) d_X11_lines_19 f_11_178 (by decide) (by decide) (ty_48 hS.1.1) ?_
    refine Tr.tp 56 (fx_48_0 hS.1.1) ?_
    refine Tr.getf (pc := 22) d_X11_lines_22 f_11_201 (by decide) (by decide) (ty_56 hS.1.1) ?_
    refine Tr.tp 63 (fx_56_8 hS.1.1) ?_
    refine Tr.getf (pc := 25) d_X11_lines_25 f_11_226 (by decide) (by decide) (ty_63 hS.1.1) ?_
    refine Tr.gen (P := fun v => v = tref g63_1 5) (tl_ref hS ((St.kp h3 (by decide) (by decide) (by decide)).trans eg63_1) (by decide)) (fun t25 et25 bt25 => ?_)
    refine Tr.iload_n (pc := 28) (i := 3) d_X11_lines_28 rfl rfl ?_
    have nk29_0 : rd M3 63 0 = g63_0 := ((St.kp h3 (by decide) (by decide) (by decide)).trans eg63_0)
    have nn29 := tl_n hS ((St.kp h3 (by decide) (by decide) (by decide)).trans eg63_1)
    refine Tr.lald (pc := 29) d_X11_lines_29 (tl_tyL hS ((St.kp h3 (by decide) (by decide) (by decide)).trans eg63_1) bt25) (by omega) (by omega) ?_
    refine Tr.gen (P := fun v => (-9223372036854775808) ≤ v ∧ v ≤ 9223372036854775807) (tl_eL hS ((St.kp h3 (by decide) (by decide) (by decide)).trans eg63_1) bt25 (by omega) (by omega)) (fun r29 er29 br29 => ?_)
    exact Tr.lret (pc := 30) d_X11_lines_30 rfl ⟨hS, _, rfl, by omega, by omega⟩
  · refine Tr.lconst (pc := 11) (v := 0) d_X11_lines_11 rfl (by decide) ?_
    refine Tr.goto (pc := 12) (tgt := 30) d_X11_lines_12 rfl ?_
    exact Tr.lret (pc := 30) d_X11_lines_30 rfl ⟨hS, _, rfl, by omega, by omega⟩

def ws_X3_wakeCost_27 : List (Int × Int) := []
def as_X3_wakeCost_27 : List Int := []
def q_X3_wakeCost_27 (M0 M' : Mem) (r : Option PV) : Prop := St Tru ws_X3_wakeCost_27 as_X3_wakeCost_27 M0 M' ∧ ∃ v : Int, r = some (0, v) ∧ (-2147483648) ≤ v ∧ v ≤ 2147483647
set_option maxRecDepth 100000 in
set_option maxHeartbeats 4000000 in
theorem sp_X3_wakeCost_27 {l : Launch} {K : EC} {M0 : Mem} (hI : In Tru M0)  (a1 : Int) (ha1 : 0 ≤ a1 ∧ a1 ≤ 5)  : Tr l K 0 mX3_wakeCost 0 [(0, (2, 27)), (1, (0, a1))] [] M0 (q_X3_wakeCost_27 M0) := by
  have hS : St Tru ws_X3_wakeCost_27 as_X3_wakeCost_27 M0 M0 := St.rf hI
  refine Tr.aload_n (pc := 0) (i := 0) d_X3_wakeCost_0 rfl rfl ?_
  refine Tr.getf (pc := 1) d_X3_wakeCost_1 f_3_18 (by decide) (by decide) (ty_27 hS.1.1) ?_
  refine Tr.tp 30 (fx_27_6 hS.1.1) ?_
  refine Tr.iload_n (pc := 4) (i := 1) d_X3_wakeCost_4 rfl rfl ?_
  refine Tr.iald (pc := 5) d_X3_wakeCost_5 (ty_30 hS.1.1) (by omega) (by omega) ?_
  refine Tr.gen (P := fun v => (-1) ≤ v ∧ v ≤ 20) (ar_30 hS.1.2.1 _) (fun r5 er5 br5 => ?_)
  refine Tr.aload_n (pc := 6) (i := 0) d_X3_wakeCost_6 rfl rfl ?_
  refine Tr.getf (pc := 7) d_X3_wakeCost_7 f_3_15 (by decide) (by decide) (ty_27 hS.1.1) ?_
  refine Tr.tp 29 (fx_27_5 hS.1.1) ?_
  refine Tr.iload_n (pc := 10) (i := 1) d_X3_wakeCost_10 rfl rfl ?_
  refine Tr.iconst (pc := 11) d_X3_wakeCost_11 (by decide) ?_
  refine Tr.imul (pc := 12) d_X3_wakeCost_12 ?_
  refine Tr.tp (4 * a1) ((w32_id (by omega)).trans (by omega)) ?_
  refine Tr.iconst (pc := 13) d_X3_wakeCost_13 (by decide) ?_
  refine Tr.iadd (pc := 14) d_X3_wakeCost_14 ?_
  refine Tr.tp (4 * a1 + 1) ((w32_id (by omega)).trans (by omega)) ?_
  refine Tr.iald (pc := 15) d_X3_wakeCost_15 (ty_29 hS.1.1) (by omega) (by omega) ?_
  refine Tr.gen (P := fun v => (-1) ≤ v ∧ v ≤ 999) (ar_29 hS.1.2.1 _) (fun r15 er15 br15 => ?_)
  refine Tr.imul (pc := 16) d_X3_wakeCost_16 ?_
  refine Tr.gen (P := fun v => (-2147483648) ≤ v ∧ v ≤ 2147483647) (w32_b _) (fun r16 er16 br16 => ?_)
  exact Tr.iret (pc := 17) d_X3_wakeCost_17 rfl ⟨hS, _, rfl, by omega, by omega⟩

def ws_X9_weigh_100_27_63 : List (Int × Int) := [(100, 2), (100, 3)]
def as_X9_weigh_100_27_63 : List Int := [101, 102]
def q_X9_weigh_100_27_63 (a3 : Int) (M0 M' : Mem) (r : Option PV) : Prop := St Tru ws_X9_weigh_100_27_63 as_X9_weigh_100_27_63 M0 M' ∧ r = none ∧ (TU M' a3 ∧ rd M' 100 3 = a3)
set_option maxRecDepth 100000 in
set_option maxHeartbeats 4000000 in
theorem sp_X9_weigh_100_27_63 {l : Launch} {K : EC} {M0 : Mem} (hI : In Tru M0)  (a3 : Int) (ha3 : 0 ≤ a3 ∧ a3 ≤ 2016)  (hq0 : a3 < rd M0 63 0) (hq1 : TW M0) : Tr l K 3 mX9_weigh 0 [(0, (2, 100)), (1, (2, 27)), (2, (2, 63)), (3, (0, a3))] [] M0 (q_X9_weigh_100_27_63 a3 M0) := by
  have hS : St Tru ws_X9_weigh_100_27_63 as_X9_weigh_100_27_63 M0 M0 := St.rf hI
  obtain ⟨g63_1, eg63_1⟩ : ∃ v, rd M0 63 1 = v := ⟨_, rfl⟩
  have bg63_1 : (-1000000000) ≤ g63_1 ∧ g63_1 ≤ 1000000000 := by rw [← eg63_1]; exact ir_63_1 hI.2.1
  obtain ⟨g63_0, eg63_0⟩ : ∃ v, rd M0 63 0 = v := ⟨_, rfl⟩
  have bg63_0 : (-2147483648) ≤ g63_0 ∧ g63_0 ≤ 2147483647 := by rw [← eg63_0]; exact ir_63_0 hI.2.1
  obtain ⟨g63_7, eg63_7⟩ : ∃ v, rd M0 63 7 = v := ⟨_, rfl⟩
  have bg63_7 : (-2147483648) ≤ g63_7 ∧ g63_7 ≤ 2147483647 := by rw [← eg63_7]; exact ir_63_7 hI.2.1
  refine Tr.aload_n (pc := 0) (i := 0) d_X9_weigh_0 rfl rfl ?_
  refine Tr.getf (pc := 1) d_X9_weigh_1 f_9_19 (by decide) (by decide) (ty_100 hS.1.1) ?_
  refine Tr.gen (P := fun v => (-2147483648) ≤ v ∧ v ≤ 2147483647) (ir_100_3 hS.1.2.1) (fun r1 er1 br1 => ?_)
  refine Tr.iload_n (pc := 4) (i := 3) d_X9_weigh_4 rfl rfl ?_
  refine Tr.icmp_ne (pc := 5) (tgt := 9) d_X9_weigh_5 rfl (fun c5 => ?_) (fun c5 => ?_)
  · refine Tr.aload_n (pc := 9) (i := 0) d_X9_weigh_9 rfl rfl ?_
    refine Tr.iload_n (pc := 10) (i := 3) d_X9_weigh_10 rfl rfl ?_
    refine Tr.putfS (pc := 11) (P := St Tru ws_X9_weigh_100_27_63 as_X9_weigh_100_27_63 M0) d_X9_weigh_11 f_9_19 (by decide) (by decide) (ty_100 hS.1.1) (st_100_3 hS (by decide) (by omega) trivial) (fun M11 hS w11 => ?_)
    refine Tr.aload_n (pc := 14) (i := 0) d_X9_weigh_14 rfl rfl ?_
    refine Tr.aload_n (pc := 15) (i := 2) d_X9_weigh_15 rfl rfl ?_
    refine Tr.getf (pc := 16) d_X9_weigh_16 f_9_23 (by decide) (by decide) (ty_63 hS.1.1) ?_
    refine Tr.gen (P := fun v => v = tref g63_1 5) (tl_ref hS ((Wr.b w11 rfl).trans eg63_1) (by decide)) (fun t16 et16 bt16 => ?_)
    refine Tr.iload_n (pc := 19) (i := 3) d_X9_weigh_19 rfl rfl ?_
    have nk20_0 : rd M11 63 0 = g63_0 := ((Wr.b w11 rfl).trans eg63_0)
    have nk20_7 : rd M11 63 7 = g63_7 := ((Wr.b w11 rfl).trans eg63_7)
    have nn20 := tl_n hS ((Wr.b w11 rfl).trans eg63_1)
    refine Tr.lald (pc := 20) d_X9_weigh_20 (tl_tyL hS ((Wr.b w11 rfl).trans eg63_1) bt16) (by omega) (by omega) ?_
    refine Tr.gen (P := fun v => (-9223372036854775808) ≤ v ∧ v ≤ 9223372036854775807) (tl_eL hS ((Wr.b w11 rfl).trans eg63_1) bt16 (by omega) (by omega)) (fun r20 er20 br20 => ?_)
    refine Tr.putfS (pc := 21) (P := St Tru ws_X9_weigh_100_27_63 as_X9_weigh_100_27_63 M0) d_X9_weigh_21 f_9_28 (by decide) (by decide) (ty_100 hS.1.1) (st_100_2 hS (by decide) (by omega) trivial) (fun M21 hS w21 => ?_)
    have htu := TU.new (a := a3) hS w21 (by rw [et16]; exact er20)
    refine Tr.aload_n (pc := 24) (i := 0) d_X9_weigh_24 rfl rfl ?_
    refine Tr.getf (pc := 25) d_X9_weigh_25 f_9_11 (by decide) (by decide) (ty_100 hS.1.1) ?_
    refine Tr.tp 101 (fx_100_0 hS.1.1) ?_
    refine Tr.lconst (pc := 28) (v := 0) d_X9_weigh_28 rfl (by decide) ?_
    refine Tr.callS (pc := 29) (as := [_, _]) d_X9_weigh_29 s_9_31 ok_J7_fill_d0a16 rfl rfl (Nat.le_of_ble_eq_true rfl) (Nat.le_of_ble_eq_true rfl) ?_
    refine Tr.imp (Tr.deep (by decide) (sp_J7_fill_d0a16_101 hS.1 0 (by omega))) ?_
    rintro M29 _ ⟨h29, rfl⟩
    have hS := St.tr hS h29 (by decide) (by decide)
    refine Tr.sc [] rfl ?_
    refine Tr.aload_n (pc := 32) (i := 0) d_X9_weigh_32 rfl rfl ?_
    refine Tr.getf (pc := 33) d_X9_weigh_33 f_9_15 (by decide) (by decide) (ty_100 hS.1.1) ?_
    refine Tr.tp 102 (fx_100_1 hS.1.1) ?_
    refine Tr.iconst (pc := 36) d_X9_weigh_36 (by decide) ?_
    refine Tr.callS (pc := 37) (as := [_, _]) d_X9_weigh_37 s_9_37 ok_J7_fill_53178 rfl rfl (Nat.le_of_ble_eq_true rfl) (Nat.le_of_ble_eq_true rfl) ?_
    refine Tr.imp (sp_fill (N := 256) (ty_102 hS.1.1) (by decide)) ?_
    rintro _ _ ⟨rfl, rfl⟩
    refine Tr.nmA (P := St Tru ws_X9_weigh_100_27_63 as_X9_weigh_100_27_63 M0) (sf_102 (v := (-1)) 256 hS (by decide) (by omega) trivial) (fil_wa _ _ _ _) (fun M37 hS w37 => ?_)
    refine Tr.sc [] rfl ?_
    refine Tr.aload_n (pc := 40) (i := 2) d_X9_weigh_40 rfl rfl ?_
    refine Tr.getf (pc := 41) d_X9_weigh_41 f_9_40 (by decide) (by decide) (ty_63 hS.1.1) ?_
    refine Tr.gen (P := fun v => v = tref g63_1 1) (tl_ref hS ((Wa.b w37 rfl).trans ((St.kp h29 (by decide) (by decide) (by decide)).trans ((Wr.b w21 rfl).trans ((Wr.b w11 rfl).trans eg63_1)))) (by decide)) (fun t41 et41 bt41 => ?_)
    refine Tr.iload_n (pc := 44) (i := 3) d_X9_weigh_44 rfl rfl ?_
    have nk45_0 : rd M37 63 0 = g63_0 := ((Wa.b w37 rfl).trans ((St.kp h29 (by decide) (by decide) (by decide)).trans ((Wr.b w21 rfl).trans ((Wr.b w11 rfl).trans eg63_0))))
    have nk45_7 : rd M37 63 7 = g63_7 := ((Wa.b w37 rfl).trans ((St.kp h29 (by decide) (by decide) (by decide)).trans ((Wr.b w21 rfl).trans ((Wr.b w11 rfl).trans eg63_7))))
    have nn45 := tl_n hS ((Wa.b w37 rfl).trans ((St.kp h29 (by decide) (by decide) (by decide)).trans ((Wr.b w21 rfl).trans ((Wr.b w11 rfl).trans eg63_1))))
    refine Tr.iald (pc := 45) d_X9_weigh_45 (tl_tyI hS ((Wa.b w37 rfl).trans ((St.kp h29 (by decide) (by decide) (by decide)).trans ((Wr.b w21 rfl).trans ((Wr.b w11 rfl).trans eg63_1)))) (j := 1) (by decide) (by decide) bt41) (by omega) (by omega) ?_
    refine Tr.gen (P := fun v => 0 ≤ v ∧ v ≤ 5) (tl_eP hS ((Wa.b w37 rfl).trans ((St.kp h29 (by decide) (by decide) (by decide)).trans ((Wr.b w21 rfl).trans ((Wr.b w11 rfl).trans eg63_1)))) (j := 1) (by decide) (by decide) bt41 (by omega) (by omega)) (fun r45 er45 br45 => ?_)
    refine Tr.istore (pc := 46) (i := 4) (ls2 := [(4, (0, r45)), (0, (2, 100)), (1, (2, 27)), (2, (2, 63)), (3, (0, a3))]) d_X9_weigh_46 (by decide) rfl ?_
    refine Tr.aload_n (pc := 48) (i := 1) d_X9_weigh_48 rfl rfl ?_
    refine Tr.getf (pc := 49) d_X9_weigh_49 f_9_43 (by decide) (by decide) (ty_27 hS.1.1) ?_
    refine Tr.tp 29 (fx_27_5 hS.1.1) ?_
    refine Tr.iload (pc := 52) (i := 4) d_X9_weigh_52 rfl ?_
    refine Tr.iconst (pc := 54) d_X9_weigh_54 (by decide) ?_
    refine Tr.imul (pc := 55) d_X9_weigh_55 ?_
    refine Tr.tp (4 * r45) ((w32_id (by omega)).trans (by omega)) ?_
    refine Tr.iconst (pc := 56) d_X9_weigh_56 (by decide) ?_
    refine Tr.iadd (pc := 57) d_X9_weigh_57 ?_
    refine Tr.tp (4 * r45 + 2) ((w32_id (by omega)).trans (by omega)) ?_
    refine Tr.iald (pc := 58) d_X9_weigh_58 (ty_29 hS.1.1) (by omega) (by omega) ?_
    refine Tr.gen (P := fun v => (-1) ≤ v ∧ v ≤ 999) (ar_29 hS.1.2.1 _) (fun r58 er58 br58 => ?_)
    refine Tr.istore (pc := 59) (i := 5) (ls2 := [(5, (0, r58)), (4, (0, r45)), (0, (2, 100)), (1, (2, 27)), (2, (2, 63)), (3, (0, a3))]) d_X9_weigh_59 (by decide) rfl ?_
    refine Tr.aload_n (pc := 61) (i := 1) d_X9_weigh_61 rfl rfl ?_
    refine Tr.iload (pc := 62) (i := 4) d_X9_weigh_62 rfl ?_
    refine Tr.callV (pc := 64) (as := [_]) d_X9_weigh_64 s_9_48 ok_X3_wakeCost rfl rfl (Nat.le_of_ble_eq_true rfl) (Nat.le_of_ble_eq_true rfl) (by decide) (ty_27 hS.1.1) ?_
    refine Tr.imp (Tr.deep (by decide) (sp_X3_wakeCost_27 hS.1 r45 (by omega))) ?_
    rintro M64 _ ⟨h64, r64, rfl, lr64, ur64⟩
    have hS := St.tr hS h64 (by decide) (by decide)
    refine Tr.sc [(0, r64)] rfl ?_
    refine Tr.istore (pc := 67) (i := 6) (ls2 := [(6, (0, r64)), (5, (0, r58)), (4, (0, r45)), (0, (2, 100)), (1, (2, 27)), (2, (2, 63)), (3, (0, a3))]) d_X9_weigh_67 (by decide) rfl ?_
    refine Tr.iconst (pc := 69) d_X9_weigh_69 (by decide) ?_
    refine Tr.istore (pc := 70) (i := 7) (ls2 := [(7, (0, 0)), (6, (0, r64)), (5, (0, r58)), (4, (0, r45)), (0, (2, 100)), (1, (2, 27)), (2, (2, 63)), (3, (0, a3))]) d_X9_weigh_70 (by decide) rfl ?_
    have J72 : ∀ (n72 : Nat) (M : Mem) (p72_7 : Int), St Tru ws_X9_weigh_100_27_63 as_X9_weigh_100_27_63 M0 M → (0 ≤ p72_7 ∧ p72_7 ≤ 2016) → rd M 100 2 = r20 → rd M 100 3 = a3 → rd M 29 (4 * r45 + 2) = r58 → rd M 63 0 = g63_0 → rd M 63 1 = g63_1 → rd M 63 7 = g63_7 → (TU M a3) → (2016 - p72_7).toNat < n72 → Tr l K 3 mX9_weigh 72 [(0, (2, 100)), (1, (2, 27)), (2, (2, 63)), (3, (0, a3)), (4, (0, r45)), (5, (0, r58)), (6, (0, r64)), (7, (0, p72_7))] [] M (q_X9_weigh_100_27_63 a3 M0) := by
      intro n72
      induction n72 with
      | zero => intro M p72_7 hS bp72_7 k72_100_2 k72_100_3 k72_29_r4542 k72_63_0 k72_63_1 k72_63_7 tp72_0 hm72; exact absurd hm72 (Nat.not_lt_zero _)
      | succ n72 J72 =>
        intro M p72_7 hS bp72_7 k72_100_2 k72_100_3 k72_29_r4542 k72_63_0 k72_63_1 k72_63_7 tp72_0 hm72
        refine Tr.iload (pc := 72) (i := 7) d_X9_weigh_72 rfl ?_
        refine Tr.aload_n (pc := 74) (i := 2) d_X9_weigh_74 rfl rfl ?_
        refine Tr.getf (pc := 75) d_X9_weigh_75 f_9_52 (by decide) (by decide) (ty_63 hS.1.1) ?_
        refine Tr.tp g63_7 k72_63_7 ?_
        refine Tr.icmp_ge (pc := 78) (tgt := 179) d_X9_weigh_78 rfl (fun c78 => ?_) (fun c78 => ?_)
        · have kz_100_3 : rd M 100 3 = a3 := k72_100_3
          exact Tr.vret (pc := 179) d_X9_weigh_179 rfl ⟨hS, rfl, ⟨tp72_0, by omega⟩⟩
        · refine Tr.aload_n (pc := 81) (i := 2) d_X9_weigh_81 rfl rfl ?_
          refine Tr.getf (pc := 82) d_X9_weigh_82 f_9_55 (by decide) (by decide) (ty_63 hS.1.1) ?_
          refine Tr.gen (P := fun v => v = tref g63_1 10) (tl_ref hS k72_63_1 (by decide)) (fun t82 et82 bt82 => ?_)
          refine Tr.iload (pc := 85) (i := 7) d_X9_weigh_85 rfl ?_
          have nk87_0 : rd M 63 0 = g63_0 := k72_63_0
          have nk87_7 : rd M 63 7 = g63_7 := k72_63_7
          have nn87 := tl_n hS k72_63_1
          refine Tr.iald (pc := 87) d_X9_weigh_87 (tl_tyI hS k72_63_1 (j := 10) (by decide) (by decide) bt82) (by omega) (by omega) ?_
          refine Tr.gen (P := fun v => (-2147483648) ≤ v ∧ v ≤ 2147483647) (tl_eI hS k72_63_1 (j := 10) (by decide) (by decide) bt82 (by omega) (by omega)) (fun r87 er87 br87 => ?_)
          refine Tr.istore (pc := 88) (i := 8) (ls2 := [(8, (0, r87)), (0, (2, 100)), (1, (2, 27)), (2, (2, 63)), (3, (0, a3)), (4, (0, r45)), (5, (0, r58)), (6, (0, r64)), (7, (0, p72_7))]) d_X9_weigh_88 (by decide) rfl ?_
          refine Tr.aload_n (pc := 90) (i := 2) d_X9_weigh_90 rfl rfl ?_
          refine Tr.getf (pc := 91) d_X9_weigh_91 f_9_58 (by decide) (by decide) (ty_63 hS.1.1) ?_
          refine Tr.gen (P := fun v => v = tref g63_1 8) (tl_ref hS k72_63_1 (by decide)) (fun t91 et91 bt91 => ?_)
          refine Tr.iload (pc := 94) (i := 7) d_X9_weigh_94 rfl ?_
          have nk96_0 : rd M 63 0 = g63_0 := k72_63_0
          have nk96_7 : rd M 63 7 = g63_7 := k72_63_7
          have nn96 := tl_n hS k72_63_1
          refine Tr.iald (pc := 96) d_X9_weigh_96 (tl_tyI hS k72_63_1 (j := 8) (by decide) (by decide) bt91) (by omega) (by omega) ?_
          refine Tr.gen (P := fun v => 0 ≤ v ∧ v ≤ 5) (tl_eP hS k72_63_1 (j := 8) (by decide) (by decide) bt91 (by omega) (by omega)) (fun r96 er96 br96 => ?_)
          refine Tr.iload (pc := 97) (i := 4) d_X9_weigh_97 rfl ?_
          have J173 : ∀ (M : Mem), St Tru ws_X9_weigh_100_27_63 as_X9_weigh_100_27_63 M0 M → rd M 100 2 = r20 → rd M 100 3 = a3 → rd M 29 (4 * r45 + 2) = r58 → rd M 63 0 = g63_0 → rd M 63 1 = g63_1 → rd M 63 7 = g63_7 → (TU M a3) → Tr l K 3 mX9_weigh 173 [(0, (2, 100)), (1, (2, 27)), (2, (2, 63)), (3, (0, a3)), (4, (0, r45)), (5, (0, r58)), (6, (0, r64)), (7, (0, p72_7))] [] M (q_X9_weigh_100_27_63 a3 M0) := by
            intro M  hS  k173_100_2 k173_100_3 k173_29_r4542 k173_63_0 k173_63_1 k173_63_7 tp173_0
            refine Tr.iincV (pc := 173) (n2 := (p72_7 + 1)) (ls2 := [(7, (0, (p72_7 + 1))), (0, (2, 100)), (1, (2, 27)), (2, (2, 63)), (3, (0, a3)), (4, (0, r45)), (5, (0, r58)), (6, (0, r64))]) d_X9_weigh_173 rfl (by decide) ((w32_id (by omega)).trans (by omega)) rfl ?_
            refine Tr.goto (pc := 176) (tgt := 72) d_X9_weigh_176 rfl ?_
            refine Tr.pick [1, 2, 3, 4, 5, 6, 7, 0] (ls2 := [(0, (2, 100)), (1, (2, 27)), (2, (2, 63)), (3, (0, a3)), (4, (0, r45)), (5, (0, r58)), (6, (0, r64)), (7, (0, (p72_7 + 1)))]) rfl ?_
            exact J72 _ _ hS (by omega) k173_100_2 k173_100_3 k173_29_r4542 k173_63_0 k173_63_1 k173_63_7 tp173_0 (by omega)
          refine Tr.icmp_ne (pc := 99) (tgt := 173) d_X9_weigh_99 rfl (fun c99 => ?_) (fun c99 => ?_)
          · refine Tr.pick [1, 2, 3, 4, 5, 6, 7, 8] (ls2 := [(0, (2, 100)), (1, (2, 27)), (2, (2, 63)), (3, (0, a3)), (4, (0, r45)), (5, (0, r58)), (6, (0, r64)), (7, (0, p72_7))]) rfl ?_
            exact J173 _ hS k72_100_2 k72_100_3 k72_29_r4542 k72_63_0 k72_63_1 k72_63_7 tp72_0
          · refine Tr.iload (pc := 102) (i := 8) d_X9_weigh_102 rfl ?_
            refine Tr.aload_n (pc := 104) (i := 2) d_X9_weigh_104 rfl rfl ?_
            refine Tr.getf (pc := 105) d_X9_weigh_105 f_9_61 (by decide) (by decide) (ty_63 hS.1.1) ?_
            refine Tr.gen (P := fun v => v = tref g63_1 2) (tl_ref hS k72_63_1 (by decide)) (fun t105 et105 bt105 => ?_)
            refine Tr.iload_n (pc := 108) (i := 3) d_X9_weigh_108 rfl rfl ?_
            have nk109_0 : rd M 63 0 = g63_0 := k72_63_0
            have nk109_7 : rd M 63 7 = g63_7 := k72_63_7
            have nn109 := tl_n hS k72_63_1
            refine Tr.iald (pc := 109) d_X9_weigh_109 (tl_tyI hS k72_63_1 (j := 2) (by decide) (by decide) bt105) (by omega) (by omega) ?_
            refine Tr.gen (P := fun v => (-2147483648) ≤ v ∧ v ≤ 2147483647) (tl_eI hS k72_63_1 (j := 2) (by decide) (by decide) bt105 (by omega) (by omega)) (fun r109 er109 br109 => ?_)
            refine Tr.icmp_lt (pc := 110) (tgt := 173) d_X9_weigh_110 rfl (fun c110 => ?_) (fun c110 => ?_)
            · refine Tr.pick [1, 2, 3, 4, 5, 6, 7, 8] (ls2 := [(0, (2, 100)), (1, (2, 27)), (2, (2, 63)), (3, (0, a3)), (4, (0, r45)), (5, (0, r58)), (6, (0, r64)), (7, (0, p72_7))]) rfl ?_
              exact J173 _ hS k72_100_2 k72_100_3 k72_29_r4542 k72_63_0 k72_63_1 k72_63_7 tp72_0
            · refine Tr.iload (pc := 113) (i := 8) d_X9_weigh_113 rfl ?_
              refine Tr.aload_n (pc := 115) (i := 2) d_X9_weigh_115 rfl rfl ?_
              refine Tr.getf (pc := 116) d_X9_weigh_116 f_9_64 (by decide) (by decide) (ty_63 hS.1.1) ?_
              refine Tr.gen (P := fun v => v = tref g63_1 3) (tl_ref hS k72_63_1 (by decide)) (fun t116 et116 bt116 => ?_)
              refine Tr.iload_n (pc := 119) (i := 3) d_X9_weigh_119 rfl rfl ?_
              have nk120_0 : rd M 63 0 = g63_0 := k72_63_0
              have nk120_7 : rd M 63 7 = g63_7 := k72_63_7
              have nn120 := tl_n hS k72_63_1
              refine Tr.iald (pc := 120) d_X9_weigh_120 (tl_tyI hS k72_63_1 (j := 3) (by decide) (by decide) bt116) (by omega) (by omega) ?_
              refine Tr.gen (P := fun v => (-2147483648) ≤ v ∧ v ≤ 2147483647) (tl_eI hS k72_63_1 (j := 3) (by decide) (by decide) bt116 (by omega) (by omega)) (fun r120 er120 br120 => ?_)
              refine Tr.icmp_ge (pc := 121) (tgt := 173) d_X9_weigh_121 rfl (fun c121 => ?_) (fun c121 => ?_)
              · refine Tr.pick [1, 2, 3, 4, 5, 6, 7, 8] (ls2 := [(0, (2, 100)), (1, (2, 27)), (2, (2, 63)), (3, (0, a3)), (4, (0, r45)), (5, (0, r58)), (6, (0, r64)), (7, (0, p72_7))]) rfl ?_
                exact J173 _ hS k72_100_2 k72_100_3 k72_29_r4542 k72_63_0 k72_63_1 k72_63_7 tp72_0
              · refine Tr.aload_n (pc := 124) (i := 2) d_X9_weigh_124 rfl rfl ?_
                refine Tr.getf (pc := 125) d_X9_weigh_125 f_9_67 (by decide) (by decide) (ty_63 hS.1.1) ?_
                refine Tr.gen (P := fun v => v = tref g63_1 11) (tl_ref hS k72_63_1 (by decide)) (fun t125 et125 bt125 => ?_)
                refine Tr.iload (pc := 128) (i := 7) d_X9_weigh_128 rfl ?_
                have nk130_0 : rd M 63 0 = g63_0 := k72_63_0
                have nk130_7 : rd M 63 7 = g63_7 := k72_63_7
                have nn130 := tl_n hS k72_63_1
                refine Tr.iald (pc := 130) d_X9_weigh_130 (tl_tyI hS k72_63_1 (j := 11) (by decide) (by decide) bt125) (by omega) (by omega) ?_
                refine Tr.gen (P := fun v => (-2147483648) ≤ v ∧ v ≤ 2147483647) (tl_eI hS k72_63_1 (j := 11) (by decide) (by decide) bt125 (by omega) (by omega)) (fun r130 er130 br130 => ?_)
                refine Tr.aload_n (pc := 131) (i := 1) d_X9_weigh_131 rfl rfl ?_
                refine Tr.getf (pc := 132) d_X9_weigh_132 f_9_70 (by decide) (by decide) (ty_27 hS.1.1) ?_
                refine Tr.tp 31 (fx_27_7 hS.1.1) ?_
                refine Tr.iload (pc := 135) (i := 4) d_X9_weigh_135 rfl ?_
                refine Tr.iald (pc := 137) d_X9_weigh_137 (ty_31 hS.1.1) (by omega) (by omega) ?_
                refine Tr.gen (P := fun v => 0 ≤ v ∧ v ≤ 50) (ar_31 hS.1.2.1 _) (fun r137 er137 br137 => ?_)
                refine Tr.iadd (pc := 138) d_X9_weigh_138 ?_
                refine Tr.gen (P := fun v => (-2147483648) ≤ v ∧ v ≤ 2147483647) (w32_b _) (fun r138 er138 br138 => ?_)
                refine Tr.aload_n (pc := 139) (i := 2) d_X9_weigh_139 rfl rfl ?_
                refine Tr.getf (pc := 140) d_X9_weigh_140 f_9_64 (by decide) (by decide) (ty_63 hS.1.1) ?_
                refine Tr.gen (P := fun v => v = tref g63_1 3) (tl_ref hS k72_63_1 (by decide)) (fun t140 et140 bt140 => ?_)
                refine Tr.iload_n (pc := 143) (i := 3) d_X9_weigh_143 rfl rfl ?_
                have nk144_0 : rd M 63 0 = g63_0 := k72_63_0
                have nk144_7 : rd M 63 7 = g63_7 := k72_63_7
                have nn144 := tl_n hS k72_63_1
                refine Tr.iald (pc := 144) d_X9_weigh_144 (tl_tyI hS k72_63_1 (j := 3) (by decide) (by decide) bt140) (by omega) (by omega) ?_
                refine Tr.gen (P := fun v => (-2147483648) ≤ v ∧ v ≤ 2147483647) (tl_eI hS k72_63_1 (j := 3) (by decide) (by decide) bt140 (by omega) (by omega)) (fun r144 er144 br144 => ?_)
                refine Tr.mmin (pc := 145) d_X9_weigh_145 ml_9_73 mw_mmin (Nat.le_of_ble_eq_true rfl) ?_
                refine Tr.gen (P := fun v => (v = r138 ∧ r138 ≤ r144) ∨ (v = r144 ∧ r144 ≤ r138)) (f_min_p _ _) (fun r145 er145 br145 => ?_)
                refine Tr.istore (pc := 148) (i := 9) (ls2 := [(9, (0, r145)), (8, (0, r87)), (0, (2, 100)), (1, (2, 27)), (2, (2, 63)), (3, (0, a3)), (4, (0, r45)), (5, (0, r58)), (6, (0, r64)), (7, (0, p72_7))]) d_X9_weigh_148 (by decide) rfl ?_
                refine Tr.aload_n (pc := 150) (i := 0) d_X9_weigh_150 rfl rfl ?_
                refine Tr.aload_n (pc := 151) (i := 0) d_X9_weigh_151 rfl rfl ?_
                refine Tr.aload_n (pc := 152) (i := 2) d_X9_weigh_152 rfl rfl ?_
                refine Tr.getf (pc := 153) d_X9_weigh_153 f_9_79 (by decide) (by decide) (ty_63 hS.1.1) ?_
                refine Tr.gen (P := fun v => v = tref g63_1 9) (tl_ref hS k72_63_1 (by decide)) (fun t153 et153 bt153 => ?_)
                refine Tr.iload (pc := 156) (i := 7) d_X9_weigh_156 rfl ?_
                have nk158_0 : rd M 63 0 = g63_0 := k72_63_0
                have nk158_7 : rd M 63 7 = g63_7 := k72_63_7
                have nn158 := tl_n hS k72_63_1
                refine Tr.iald (pc := 158) d_X9_weigh_158 (tl_tyI hS k72_63_1 (j := 9) (by decide) (by decide) bt153) (by omega) (by omega) ?_
                refine Tr.gen (P := fun v => (-2147483648) ≤ v ∧ v ≤ 2147483647) (tl_eI hS k72_63_1 (j := 9) (by decide) (by decide) bt153 (by omega) (by omega)) (fun r158 er158 br158 => ?_)
                refine Tr.callV (pc := 159) (as := [_]) d_X9_weigh_159 s_9_82 ok_X9_bitOf rfl rfl (Nat.le_of_ble_eq_true rfl) (Nat.le_of_ble_eq_true rfl) (by decide) (ty_100 hS.1.1) ?_
                refine Tr.imp (Tr.deep (by decide) (sp_X9_bitOf_100 hS.1 r158 (by omega))) ?_
                rintro M159 _ ⟨h159, r159, rfl, lr159, ur159, z159_0⟩
                have hS := St.tr hS h159 (by decide) (by decide)
                refine Tr.sc [(0, r159), (2, 100)] rfl ?_
                refine Tr.iload (pc := 162) (i := 8) d_X9_weigh_162 rfl ?_
                refine Tr.iload (pc := 164) (i := 9) d_X9_weigh_164 rfl ?_
                refine Tr.iload (pc := 166) (i := 5) d_X9_weigh_166 rfl ?_
                refine Tr.iload (pc := 168) (i := 6) d_X9_weigh_168 rfl ?_
                refine Tr.callV (pc := 170) (as := [_, _, _, _, _]) d_X9_weigh_170 s_9_85 ok_X9_spread rfl rfl (Nat.le_of_ble_eq_true rfl) (Nat.le_of_ble_eq_true rfl) (by decide) (ty_100 hS.1.1) ?_
                refine Tr.imp (Tr.deep (by decide) (sp_X9_spread_100 hS.1 r159 (by omega) r87 (by omega) r145 (by omega) r58 (by omega) r64 (by omega))) ?_
                rintro M170 _ ⟨h170, rfl⟩
                have hS := St.tr hS h170 (by decide) (by decide)
                refine Tr.sc [] rfl ?_
                refine Tr.pick [2, 3, 4, 5, 6, 7, 8, 9] (ls2 := [(0, (2, 100)), (1, (2, 27)), (2, (2, 63)), (3, (0, a3)), (4, (0, r45)), (5, (0, r58)), (6, (0, r64)), (7, (0, p72_7))]) rfl ?_
                exact J173 _ hS ((St.kp h170 (by decide) (by decide) (by decide)).trans ((St.kp h159 (by decide) (by decide) (by decide)).trans k72_100_2)) ((St.kp h170 (by decide) (by decide) (by decide)).trans ((St.kp h159 (by decide) (by decide) (by decide)).trans k72_100_3)) ((St.ka h170 (by decide) (by decide) (by decide)).trans ((St.ka h159 (by decide) (by decide) (by decide)).trans k72_29_r4542)) ((St.kp h170 (by decide) (by decide) (by decide)).trans ((St.kp h159 (by decide) (by decide) (by decide)).trans k72_63_0)) ((St.kp h170 (by decide) (by decide) (by decide)).trans ((St.kp h159 (by decide) (by decide) (by decide)).trans k72_63_1)) ((St.kp h170 (by decide) (by decide) (by decide)).trans ((St.kp h159 (by decide) (by decide) (by decide)).trans k72_63_7)) (TU.st (TU.st tp72_0 h159 (by decide)) h170 (by decide))
    refine Tr.pick [4, 5, 6, 7, 3, 2, 1, 0] (ls2 := [(0, (2, 100)), (1, (2, 27)), (2, (2, 63)), (3, (0, a3)), (4, (0, r45)), (5, (0, r58)), (6, (0, r64)), (7, (0, 0))]) rfl ?_
    exact J72 _ _ _ hS (by omega) ((St.kp h64 (by decide) (by decide) (by decide)).trans ((Wa.b w37 rfl).trans ((St.kp h29 (by decide) (by decide) (by decide)).trans w21.1))) ((St.kp h64 (by decide) (by decide) (by decide)).trans ((Wa.b w37 rfl).trans ((St.kp h29 (by decide) (by decide) (by decide)).trans ((Wr.b w21 rfl).trans w11.1)))) ((St.ka h64 (by decide) (by decide) (by decide)).trans er58) ((St.kp h64 (by decide) (by decide) (by decide)).trans ((Wa.b w37 rfl).trans ((St.kp h29 (by decide) (by decide) (by decide)).trans ((Wr.b w21 rfl).trans ((Wr.b w11 rfl).trans eg63_0))))) ((St.kp h64 (by decide) (by decide) (by decide)).trans ((Wa.b w37 rfl).trans ((St.kp h29 (by decide) (by decide) (by decide)).trans ((Wr.b w21 rfl).trans ((Wr.b w11 rfl).trans eg63_1))))) ((St.kp h64 (by decide) (by decide) (by decide)).trans ((Wa.b w37 rfl).trans ((St.kp h29 (by decide) (by decide) (by decide)).trans ((Wr.b w21 rfl).trans ((Wr.b w11 rfl).trans eg63_7))))) (TU.st (TU.wa (TU.st htu h29 (by decide)) w37 (by decide)) h64 (by decide)) (Nat.lt_succ_self _)
  · exact Tr.vret (pc := 8) d_X9_weigh_8 rfl ⟨hS, rfl, ⟨TU.of1 hS hq1 (er1.trans (by omega)) (by omega), er1.trans (by omega)⟩⟩

def ws_X11_byTurns_0_w2 : List (Int × Int) := [(100, 2), (100, 3)]
def as_X11_byTurns_0_w2 : List Int := [101, 102]
def q_X11_byTurns_0_w2 (a1 : Int) (a2 : Int) (a3 : Int) (a4 : Int) (M0 M' : Mem) (r : Option PV) : Prop := St Tru ws_X11_byTurns_0_w2 as_X11_byTurns_0_w2 M0 M' ∧ ∃ v : Int, r = some (1, v) ∧ (-9223372036854775808) ≤ v ∧ v ≤ 9223372036854775807 ∧ (TW M')
set_option maxRecDepth 100000 in
set_option maxHeartbeats 4000000 in
theorem sp_X11_byTurns_0_w2 {l : Launch} {K : EC} {M0 : Mem} {xq : Int} (hI : In Tru M0) (hE : e_all K xq) (en_0_4 : rd M0 0 4 = 27) (en_0_9 : rd M0 0 9 = 1) (a1 : Int) (ha1 : (-2147483648) ≤ a1 ∧ a1 ≤ 2147483647) (a2 : Int) (ha2 : (-2147483648) ≤ a2 ∧ a2 ≤ 2147483647) (a3 : Int) (ha3 : (-2147483648) ≤ a3 ∧ a3 ≤ 2147483647) (a4 : Int) (ha4 : 0 ≤ a4 ∧ a4 ≤ 1)  (hq0 : TW M0) : Tr l K 4 mX11_byTurns 0 [(0, (2, 0)), (1, (0, a1)), (2, (0, a2)), (3, (0, a3)), (4, (0, a4))] [] M0 (q_X11_byTurns_0_w2 a1 a2 a3 a4 M0) := by
  have hS : St Tru ws_X11_byTurns_0_w2 as_X11_byTurns_0_w2 M0 M0 := St.rf hI
  obtain ⟨g63_1, eg63_1⟩ : ∃ v, rd M0 63 1 = v := ⟨_, rfl⟩
  have bg63_1 : (-1000000000) ≤ g63_1 ∧ g63_1 ≤ 1000000000 := by rw [← eg63_1]; exact ir_63_1 hI.2.1
  obtain ⟨g63_0, eg63_0⟩ : ∃ v, rd M0 63 0 = v := ⟨_, rfl⟩
  have bg63_0 : (-2147483648) ≤ g63_0 ∧ g63_0 ≤ 2147483647 := by rw [← eg63_0]; exact ir_63_0 hI.2.1
  refine Tr.aload_n (pc := 0) (i := 0) d_X11_byTurns_0 rfl rfl ?_
  refine Tr.iload_n (pc := 1) (i := 1) d_X11_byTurns_1 rfl rfl ?_
  refine Tr.iload_n (pc := 2) (i := 2) d_X11_byTurns_2 rfl rfl ?_
  refine Tr.callV (pc := 3) (as := [_, _]) d_X11_byTurns_3 s_11_214 ok_X11_stretchPlace rfl rfl (Nat.le_of_ble_eq_true rfl) (Nat.le_of_ble_eq_true rfl) (by decide) (ty_0 hS.1.1) ?_
  refine Tr.imp (Tr.deep (by decide) (sp_X11_stretchPlace_0_w2 hS.1 ((St.kp hS (by decide) (by decide) (by decide)).trans en_0_4) ((St.kp hS (by decide) (by decide) (by decide)).trans en_0_9) a1 (by omega) a2 (by omega))) ?_
  rintro M3 _ ⟨h3, r3, rfl, lr3, ur3, z3_0⟩
  have hS := St.tr hS h3 (by decide) (by decide)
  have ka3_63_0 : rd M3 63 0 = g63_0 := ((St.kp h3 (by decide) (by decide) (by decide)).trans eg63_0)
  refine Tr.sc [(0, r3)] rfl ?_
  refine Tr.istore (pc := 6) (i := 5) (ls2 := [(5, (0, r3)), (0, (2, 0)), (1, (0, a1)), (2, (0, a2)), (3, (0, a3)), (4, (0, a4))]) d_X11_byTurns_6 (by decide) rfl ?_
  refine Tr.iload (pc := 8) (i := 5) d_X11_byTurns_8 rfl ?_
  refine Tr.if_lt (pc := 10) (tgt := 21) d_X11_byTurns_10 rfl (fun c10 => ?_) (fun c10 => ?_)
  · refine Tr.ldc2 (pc := 21) d_X11_byTurns_21 kl_11_230 (by decide) ?_
    exact Tr.lret (pc := 24) d_X11_byTurns_24 rfl ⟨hS, _, rfl, by omega, by omega, (TW.st hq0 h3 (by decide))⟩
  · refine Tr.aload_n (pc := 13) (i := 0) d_X11_byTurns_13 rfl rfl ?_
    refine Tr.iload_n (pc := 14) (i := 3) d_X11_byTurns_14 rfl rfl ?_
    refine Tr.callV (pc := 15) (as := [_]) d_X11_byTurns_15 s_11_191 ok_X11_isLine rfl rfl (Nat.le_of_ble_eq_true rfl) (Nat.le_of_ble_eq_true rfl) (by decide) (ty_0 hS.1.1) ?_
    refine Tr.imp (Tr.deep (by decide) (sp_X11_isLine_0_w1 hS.1 ((St.kp hS (by decide) (by decide) (by decide)).trans en_0_4) a3 (by omega))) ?_
    rintro M15 _ ⟨h15, r15, rfl, lr15, ur15, wr15⟩
    have hS := St.tr hS h15 (by decide) (by decide)
    refine Tr.sc [(0, r15)] rfl ?_
    refine Tr.if_ne (pc := 18) (tgt := 25) d_X11_byTurns_18 rfl (fun c18 => ?_) (fun c18 => ?_)
    · refine Tr.aload_n (pc := 25) (i := 0) d_X11_byTurns_25 rfl rfl ?_
      refine Tr.getf (pc := 26) d_X11_byTurns_26 f_11_46 (by decide) (by decide) (ty_0 hS.1.1) ?_
      refine Tr.tp 48 (fx_0_7 hS.1.1) ?_
      refine Tr.getf (pc := 29) d_X11_byTurns_29 f_11_178 (by decide) (by decide) (ty_48 hS.1.1) ?_
      refine Tr.tp 56 (fx_48_0 hS.1.1) ?_
      refine Tr.getf (pc := 32) d_X11_byTurns_32 f_11_201 (by decide) (by decide) (ty_56 hS.1.1) ?_
      refine Tr.tp 63 (fx_56_8 hS.1.1) ?_
      refine Tr.getf (pc := 35) d_X11_byTurns_35 f_11_226 (by decide) (by decide) (ty_63 hS.1.1) ?_
      refine Tr.gen (P := fun v => v = tref g63_1 5) (tl_ref hS ((St.kp h15 (by decide) (by decide) (by decide)).trans ((St.kp h3 (by decide) (by decide) (by decide)).trans eg63_1)) (by decide)) (fun t35 et35 bt35 => ?_)
      refine Tr.iload (pc := 38) (i := 5) d_X11_byTurns_38 rfl ?_
      have nk40_0 : rd M15 63 0 = g63_0 := ((St.kp h15 (by decide) (by decide) (by decide)).trans ((St.kp h3 (by decide) (by decide) (by decide)).trans eg63_0))
      have nn40 := tl_n hS ((St.kp h15 (by decide) (by decide) (by decide)).trans ((St.kp h3 (by decide) (by decide) (by decide)).trans eg63_1))
      refine Tr.lald (pc := 40) d_X11_byTurns_40 (tl_tyL hS ((St.kp h15 (by decide) (by decide) (by decide)).trans ((St.kp h3 (by decide) (by decide) (by decide)).trans eg63_1)) bt35) (by omega) (by omega) ?_
      refine Tr.gen (P := fun v => (-9223372036854775808) ≤ v ∧ v ≤ 9223372036854775807) (tl_eL hS ((St.kp h15 (by decide) (by decide) (by decide)).trans ((St.kp h3 (by decide) (by decide) (by decide)).trans eg63_1)) bt35 (by omega) (by omega)) (fun r40 er40 br40 => ?_)
      refine Tr.lstore (pc := 41) (i := 6) (ls2 := [(6, (1, r40)), (5, (0, r3)), (0, (2, 0)), (1, (0, a1)), (2, (0, a2)), (3, (0, a3)), (4, (0, a4))]) d_X11_byTurns_41 (by decide) rfl ?_
      refine Tr.lload (pc := 43) (i := 6) d_X11_byTurns_43 rfl ?_
      refine Tr.iload_n (pc := 45) (i := 3) d_X11_byTurns_45 rfl rfl ?_
      refine Tr.lshr (pc := 46) d_X11_byTurns_46 ?_
      refine Tr.gen (P := fun v => (-9223372036854775808) ≤ v ∧ v ≤ 9223372036854775807) (i64_b _) (fun r46 er46 br46 => ?_)
      refine Tr.lconst (pc := 47) (v := 1) d_X11_byTurns_47 rfl (by decide) ?_
      refine Tr.land (pc := 48) d_X11_byTurns_48 ?_
      refine Tr.gen (P := fun v => v = r46 % 2 ∧ (0 ≤ v ∧ v ≤ 1)) ⟨(f_land_1 _).1, (f_land_1 _).2⟩ (fun r48 er48 br48 => ?_)
      refine Tr.lconst (pc := 49) (v := 0) d_X11_byTurns_49 rfl (by decide) ?_
      refine Tr.lcmp (pc := 50) d_X11_byTurns_50 ?_
      refine Tr.gen (P := fun v => (v = 1 ∧ 0 < r48) ∨ (v = 0 ∧ r48 = 0) ∨ (v = -1 ∧ r48 < 0)) (f_lcmp_c _ _) (fun r50 er50 br50 => ?_)
      refine Tr.if_eq (pc := 51) (tgt := 64) d_X11_byTurns_51 rfl (fun c51 => ?_) (fun c51 => ?_)
      · refine Tr.ldc2 (pc := 64) d_X11_byTurns_64 kl_11_230 (by decide) ?_
        exact Tr.lret (pc := 67) d_X11_byTurns_67 rfl ⟨hS, _, rfl, by omega, by omega, (TW.st (TW.st hq0 h3 (by decide)) h15 (by decide))⟩
      · refine Tr.lload (pc := 54) (i := 6) d_X11_byTurns_54 rfl ?_
        refine Tr.callS (pc := 56) (as := [_]) d_X11_byTurns_56 s_11_232 ok_J13_bitCount_95d88 rfl rfl (Nat.le_of_ble_eq_true rfl) (Nat.le_of_ble_eq_true rfl) ?_
        refine Tr.imp (Tr.deep (by decide) (sp_J13_bitCount_95d88 hS.1 r40 (by omega))) ?_
        rintro M56 _ ⟨h56, r56, rfl, lr56, ur56, wr56⟩
        have hS := St.tr hS h56 (by decide) (by decide)
        refine Tr.sc [(0, r56)] rfl ?_
        refine Tr.bipush (pc := 59) d_X11_byTurns_59 rfl (by decide) ?_
        refine Tr.icmp_le (pc := 61) (tgt := 68) d_X11_byTurns_61 rfl (fun c61 => ?_) (fun c61 => ?_)
        · refine Tr.aload_n (pc := 68) (i := 0) d_X11_byTurns_68 rfl rfl ?_
          refine Tr.getf (pc := 69) d_X11_byTurns_69 f_11_56 (by decide) (by decide) (ty_0 hS.1.1) ?_
          refine Tr.tp 100 (fx_0_10 hS.1.1) ?_
          refine Tr.aload_n (pc := 72) (i := 0) d_X11_byTurns_72 rfl rfl ?_
          refine Tr.getf (pc := 73) d_X11_byTurns_73 f_11_30 (by decide) (by decide) (ty_0 hS.1.1) ?_
          refine Tr.tp 27 ((St.kp hS (by decide) (by decide) (by decide)).trans en_0_4) ?_
          refine Tr.aload_n (pc := 76) (i := 0) d_X11_byTurns_76 rfl rfl ?_
          refine Tr.getf (pc := 77) d_X11_byTurns_77 f_11_46 (by decide) (by decide) (ty_0 hS.1.1) ?_
          refine Tr.tp 48 (fx_0_7 hS.1.1) ?_
          refine Tr.getf (pc := 80) d_X11_byTurns_80 f_11_178 (by decide) (by decide) (ty_48 hS.1.1) ?_
          refine Tr.tp 56 (fx_48_0 hS.1.1) ?_
          refine Tr.getf (pc := 83) d_X11_byTurns_83 f_11_201 (by decide) (by decide) (ty_56 hS.1.1) ?_
          refine Tr.tp 63 (fx_56_8 hS.1.1) ?_
          refine Tr.iload (pc := 86) (i := 5) d_X11_byTurns_86 rfl ?_
          refine Tr.callV (pc := 88) (as := [_, _, _]) d_X11_byTurns_88 s_11_238 ok_X9_weigh rfl rfl (Nat.le_of_ble_eq_true rfl) (Nat.le_of_ble_eq_true rfl) (by decide) (ty_100 hS.1.1) ?_
          have kb88_63_0 : rd M56 63 0 = g63_0 := ((St.kp h56 (by decide) (by decide) (by decide)).trans ((St.kp h15 (by decide) (by decide) (by decide)).trans ((St.kp h3 (by decide) (by decide) (by decide)).trans eg63_0)))
          refine Tr.imp (Tr.deep (by decide) (sp_X9_weigh_100_27_63 hS.1 r3 (by omega) (by omega) (TW.st (TW.st (TW.st hq0 h3 (by decide)) h15 (by decide)) h56 (by decide)))) ?_
          rintro M88 _ ⟨h88, rfl, z88_0⟩
          have hS := St.tr hS h88 (by decide) (by decide)
          refine Tr.sc [] rfl ?_
          have hus : rd M88 100 2 = r40 := z88_0.1.1.trans ((St.ud h88 (by decide) _).trans ((St.ud h56 (by decide) _).trans (by rw [et35]; exact er40)))
          refine Tr.aload_n (pc := 91) (i := 0) d_X11_byTurns_91 rfl rfl ?_
          refine Tr.getf (pc := 92) d_X11_byTurns_92 f_11_56 (by decide) (by decide) (ty_0 hS.1.1) ?_
          refine Tr.tp 100 (fx_0_10 hS.1.1) ?_
          refine Tr.iload_n (pc := 95) (i := 3) d_X11_byTurns_95 rfl rfl ?_
          refine Tr.iload (pc := 96) (i := 4) d_X11_byTurns_96 rfl ?_
          refine Tr.callV (pc := 98) (as := [_, _]) d_X11_byTurns_98 s_11_242 ok_X9_share rfl rfl (Nat.le_of_ble_eq_true rfl) (Nat.le_of_ble_eq_true rfl) (by decide) (ty_100 hS.1.1) ?_
          refine Tr.imp (Tr.deep (by decide) (sp_X9_share_100 hS.1 hE a3 (by omega) a4 (by omega) (by rw [hus]; exact bt_of er46 (by omega) (by omega) (by rw [er48]; omega)))) ?_
          rintro M98 _ ⟨h98, r98, rfl, lr98, ur98⟩
          have hS := St.tr hS h98 (by decide) (by decide)
          refine Tr.sc [(1, r98)] rfl ?_
          exact Tr.lret (pc := 101) d_X11_byTurns_101 rfl ⟨hS, _, rfl, by omega, by omega, (TW.st (Or.inr (by rw [z88_0.2]; exact z88_0.1.1)) h98 (by decide))⟩
        · refine Tr.ldc2 (pc := 64) d_X11_byTurns_64 kl_11_230 (by decide) ?_
          exact Tr.lret (pc := 67) d_X11_byTurns_67 rfl ⟨hS, _, rfl, by omega, by omega, (TW.st (TW.st (TW.st hq0 h3 (by decide)) h15 (by decide)) h56 (by decide))⟩
    · refine Tr.ldc2 (pc := 21) d_X11_byTurns_21 kl_11_230 (by decide) ?_
      exact Tr.lret (pc := 24) d_X11_byTurns_24 rfl ⟨hS, _, rfl, by omega, by omega, (TW.st (TW.st hq0 h3 (by decide)) h15 (by decide))⟩

def ws_X11_wasted_0_w2 : List (Int × Int) := []
def as_X11_wasted_0_w2 : List Int := []
def q_X11_wasted_0_w2 (M0 M' : Mem) (r : Option PV) : Prop := St Tru ws_X11_wasted_0_w2 as_X11_wasted_0_w2 M0 M' ∧ ∃ v : Int, r = some (0, v) ∧ (-2147483648) ≤ v ∧ v ≤ 2147483647
set_option maxRecDepth 100000 in
set_option maxHeartbeats 4000000 in
theorem sp_X11_wasted_0_w2 {l : Launch} {K : EC} {M0 : Mem} (hI : In Tru M0) (en_0_4 : rd M0 0 4 = 27) (en_0_9 : rd M0 0 9 = 1) (a1 : Int) (ha1 : (-2147483648) ≤ a1 ∧ a1 ≤ 2147483647)  : Tr l K 1 mX11_wasted 0 [(0, (2, 0)), (1, (0, a1))] [] M0 (q_X11_wasted_0_w2 M0) := by
  have hS : St Tru ws_X11_wasted_0_w2 as_X11_wasted_0_w2 M0 M0 := St.rf hI
  refine Tr.aload_n (pc := 0) (i := 0) d_X11_wasted_0 rfl rfl ?_
  refine Tr.getz (pc := 1) d_X11_wasted_1 f_11_109 (by decide) (ty_0 hS.1.1) ?_
  refine Tr.tp 1 ((St.kp hS (by decide) (by decide) (by decide)).trans en_0_9) ?_
  refine Tr.if_eq (pc := 4) (tgt := 15) d_X11_wasted_4 rfl (fun hc => absurd hc (by omega)) (fun _ => ?_)
  refine Tr.aload_n (pc := 7) (i := 0) d_X11_wasted_7 rfl rfl ?_
  refine Tr.iload_n (pc := 8) (i := 1) d_X11_wasted_8 rfl rfl ?_
  refine Tr.callV (pc := 9) (as := [_]) d_X11_wasted_9 s_11_191 ok_X11_isLine rfl rfl (Nat.le_of_ble_eq_true rfl) (Nat.le_of_ble_eq_true rfl) (by decide) (ty_0 hS.1.1) ?_
  refine Tr.imp (Tr.deep (by decide) (sp_X11_isLine_0_w1 hS.1 ((St.kp hS (by decide) (by decide) (by decide)).trans en_0_4) a1 (by omega))) ?_
  rintro M9 _ ⟨h9, r9, rfl, lr9, ur9, wr9⟩
  have hS := St.tr hS h9 (by decide) (by decide)
  refine Tr.sc [(0, r9)] rfl ?_
  refine Tr.if_ne (pc := 12) (tgt := 17) d_X11_wasted_12 rfl (fun c12 => ?_) (fun c12 => ?_)
  · refine Tr.aload_n (pc := 17) (i := 0) d_X11_wasted_17 rfl rfl ?_
    refine Tr.getf (pc := 18) d_X11_wasted_18 f_11_46 (by decide) (by decide) (ty_0 hS.1.1) ?_
    refine Tr.tp 48 (fx_0_7 hS.1.1) ?_
    refine Tr.getf (pc := 21) d_X11_wasted_21 f_11_178 (by decide) (by decide) (ty_48 hS.1.1) ?_
    refine Tr.tp 56 (fx_48_0 hS.1.1) ?_
    refine Tr.getf (pc := 24) d_X11_wasted_24 f_11_246 (by decide) (by decide) (ty_56 hS.1.1) ?_
    refine Tr.tp 62 (fx_56_7 hS.1.1) ?_
    refine Tr.iload_n (pc := 27) (i := 1) d_X11_wasted_27 rfl rfl ?_
    refine Tr.iald (pc := 28) d_X11_wasted_28 (ty_62 hS.1.1) (by omega) (by omega) ?_
    refine Tr.gen (P := fun v => (-2147483648) ≤ v ∧ v ≤ 2147483647) (ar_62 hS.1.2.1 _) (fun r28 er28 br28 => ?_)
    exact Tr.iret (pc := 29) d_X11_wasted_29 rfl ⟨hS, _, rfl, by omega, by omega⟩
  · refine Tr.iconst (pc := 15) d_X11_wasted_15 (by decide) ?_
    exact Tr.iret (pc := 16) d_X11_wasted_16 rfl ⟨hS, _, rfl, by omega, by omega⟩

def ws_X11_where_0_w1 : List (Int × Int) := []
def as_X11_where_0_w1 : List Int := []
def q_X11_where_0_w1 (M0 M' : Mem) (r : Option PV) : Prop := St Tru ws_X11_where_0_w1 as_X11_where_0_w1 M0 M' ∧ ∃ v : Int, r = some (0, v) ∧ (-2147483648) ≤ v ∧ v ≤ 2147483647
set_option maxRecDepth 100000 in
set_option maxHeartbeats 4000000 in
theorem sp_X11_where_0_w1 {l : Launch} {K : EC} {M0 : Mem} (hI : In Tru M0) (en_0_4 : rd M0 0 4 = 27) (a1 : Int) (ha1 : (-2147483648) ≤ a1 ∧ a1 ≤ 2147483647)  : Tr l K 1 mX11_where 0 [(0, (2, 0)), (1, (0, a1))] [] M0 (q_X11_where_0_w1 M0) := by
  have hS : St Tru ws_X11_where_0_w1 as_X11_where_0_w1 M0 M0 := St.rf hI
  refine Tr.iload_n (pc := 0) (i := 1) d_X11_where_0 rfl rfl ?_
  refine Tr.if_lt (pc := 1) (tgt := 17) d_X11_where_1 rfl (fun c1 => ?_) (fun c1 => ?_)
  · refine Tr.iconst (pc := 17) d_X11_where_17 (by decide) ?_
    exact Tr.iret (pc := 18) d_X11_where_18 rfl ⟨hS, _, rfl, by omega, by omega⟩
  · refine Tr.iload_n (pc := 4) (i := 1) d_X11_where_4 rfl rfl ?_
    refine Tr.aload_n (pc := 5) (i := 0) d_X11_where_5 rfl rfl ?_
    refine Tr.getf (pc := 6) d_X11_where_6 f_11_30 (by decide) (by decide) (ty_0 hS.1.1) ?_
    refine Tr.tp 27 ((St.kp hS (by decide) (by decide) (by decide)).trans en_0_4) ?_
    refine Tr.getf (pc := 9) d_X11_where_9 f_11_130 (by decide) (by decide) (ty_27 hS.1.1) ?_
    refine Tr.tp 28 (fx_27_4 hS.1.1) ?_
    refine Tr.iconst (pc := 12) d_X11_where_12 (by decide) ?_
    refine Tr.iald (pc := 13) d_X11_where_13 (ty_28 hS.1.1) (by omega) (by omega) ?_
    refine Tr.gen (P := fun v => 0 ≤ v ∧ v ≤ 3) (ir_28_1 hS.1.2.1) (fun r13 er13 br13 => ?_)
    refine Tr.icmp_lt (pc := 14) (tgt := 19) d_X11_where_14 rfl (fun c14 => ?_) (fun c14 => ?_)
    · refine Tr.aload_n (pc := 19) (i := 0) d_X11_where_19 rfl rfl ?_
      refine Tr.getf (pc := 20) d_X11_where_20 f_11_63 (by decide) (by decide) (ty_0 hS.1.1) ?_
      refine Tr.tp 103 (fx_0_11 hS.1.1) ?_
      refine Tr.iload_n (pc := 23) (i := 1) d_X11_where_23 rfl rfl ?_
      refine Tr.callV (pc := 24) (as := [_]) d_X11_where_24 s_11_268 ok_X10_chosenInput rfl rfl (Nat.le_of_ble_eq_true rfl) (Nat.le_of_ble_eq_true rfl) (by decide) (ty_103 hS.1.1) ?_
      refine Tr.imp (Tr.deep (by decide) (sp_X10_chosenInput_103 hS.1 a1 (by omega))) ?_
      rintro M24 _ ⟨h24, r24, rfl, lr24, ur24⟩
      have hS := St.tr hS h24 (by decide) (by decide)
      refine Tr.sc [(0, r24)] rfl ?_
      exact Tr.iret (pc := 27) d_X11_where_27 rfl ⟨hS, _, rfl, by omega, by omega⟩
    · refine Tr.iconst (pc := 17) d_X11_where_17 (by decide) ?_
      exact Tr.iret (pc := 18) d_X11_where_18 rfl ⟨hS, _, rfl, by omega, by omega⟩

def ws_X2_ownSips_107_27 : List (Int × Int) := []
def as_X2_ownSips_107_27 : List Int := []
def q_X2_ownSips_107_27 (M0 M' : Mem) (r : Option PV) : Prop := St Tru ws_X2_ownSips_107_27 as_X2_ownSips_107_27 M0 M' ∧ ∃ v : Int, r = some (0, v) ∧ (-2147483648) ≤ v ∧ v ≤ 2147483647
set_option maxRecDepth 100000 in
set_option maxHeartbeats 4000000 in
theorem sp_X2_ownSips_107_27 {l : Launch} {K : EC} {M0 : Mem} (hI : In Tru M0)  (a2 : Int) (ha2 : 0 ≤ a2 ∧ a2 ≤ 5) (a3 : Int) (ha3 : 0 ≤ a3 ∧ a3 ≤ 11)  : Tr l K 0 mX2_ownSips 0 [(0, (2, 107)), (1, (2, 27)), (2, (0, a2)), (3, (0, a3))] [] M0 (q_X2_ownSips_107_27 M0) := by
  have hS : St Tru ws_X2_ownSips_107_27 as_X2_ownSips_107_27 M0 M0 := St.rf hI
  refine Tr.iconst (pc := 0) d_X2_ownSips_0 (by decide) ?_
  refine Tr.istore (pc := 1) (i := 4) (ls2 := [(4, (0, 0)), (0, (2, 107)), (1, (2, 27)), (2, (0, a2)), (3, (0, a3))]) d_X2_ownSips_1 (by decide) rfl ?_
  refine Tr.iconst (pc := 3) d_X2_ownSips_3 (by decide) ?_
  refine Tr.istore (pc := 4) (i := 5) (ls2 := [(5, (0, 0)), (4, (0, 0)), (0, (2, 107)), (1, (2, 27)), (2, (0, a2)), (3, (0, a3))]) d_X2_ownSips_4 (by decide) rfl ?_
  have J6 : ∀ (n6 : Nat) (M : Mem) (p6_4 p6_5 : Int), St Tru ws_X2_ownSips_107_27 as_X2_ownSips_107_27 M0 M → ((-2147483648) ≤ p6_4 ∧ p6_4 ≤ 2147483647) → (0 ≤ p6_5 ∧ p6_5 ≤ 4) → (4 - p6_5).toNat < n6 → Tr l K 0 mX2_ownSips 6 [(0, (2, 107)), (1, (2, 27)), (2, (0, a2)), (3, (0, a3)), (4, (0, p6_4)), (5, (0, p6_5))] [] M (q_X2_ownSips_107_27 M0) := by
    intro n6
    induction n6 with
    | zero => intro M p6_4 p6_5 hS bp6_4 bp6_5  hm6; exact absurd hm6 (Nat.not_lt_zero _)
    | succ n6 J6 =>
      intro M p6_4 p6_5 hS bp6_4 bp6_5  hm6
      refine Tr.iload (pc := 6) (i := 5) d_X2_ownSips_6 rfl ?_
      refine Tr.iconst (pc := 8) d_X2_ownSips_8 (by decide) ?_
      refine Tr.icmp_ge (pc := 9) (tgt := 57) d_X2_ownSips_9 rfl (fun c9 => ?_) (fun c9 => ?_)
      · refine Tr.iload (pc := 57) (i := 4) d_X2_ownSips_57 rfl ?_
        exact Tr.iret (pc := 59) d_X2_ownSips_59 rfl ⟨hS, _, rfl, by omega, by omega⟩
      · refine Tr.iload (pc := 12) (i := 5) d_X2_ownSips_12 rfl ?_
        refine Tr.iconst (pc := 14) d_X2_ownSips_14 (by decide) ?_
        have J51 : ∀ (M : Mem) (p51_4 : Int), St Tru ws_X2_ownSips_107_27 as_X2_ownSips_107_27 M0 M → ((-2147483648) ≤ p51_4 ∧ p51_4 ≤ 2147483647) → Tr l K 0 mX2_ownSips 51 [(0, (2, 107)), (1, (2, 27)), (2, (0, a2)), (3, (0, a3)), (4, (0, p51_4)), (5, (0, p6_5))] [] M (q_X2_ownSips_107_27 M0) := by
          intro M p51_4 hS bp51_4 
          refine Tr.iincV (pc := 51) (n2 := (p6_5 + 1)) (ls2 := [(5, (0, (p6_5 + 1))), (0, (2, 107)), (1, (2, 27)), (2, (0, a2)), (3, (0, a3)), (4, (0, p51_4))]) d_X2_ownSips_51 rfl (by decide) ((w32_id (by omega)).trans (by omega)) rfl ?_
          refine Tr.goto (pc := 54) (tgt := 6) d_X2_ownSips_54 rfl ?_
          refine Tr.pick [1, 2, 3, 4, 5, 0] (ls2 := [(0, (2, 107)), (1, (2, 27)), (2, (0, a2)), (3, (0, a3)), (4, (0, p51_4)), (5, (0, (p6_5 + 1)))]) rfl ?_
          exact J6 _ _ _ hS (by omega) (by omega) (by omega)
        refine Tr.icmp_eq (pc := 15) (tgt := 51) d_X2_ownSips_15 rfl (fun c15 => ?_) (fun c15 => ?_)
        · refine Tr.pick [0, 1, 2, 3, 4, 5] (ls2 := [(0, (2, 107)), (1, (2, 27)), (2, (0, a2)), (3, (0, a3)), (4, (0, p6_4)), (5, (0, p6_5))]) rfl ?_
          exact J51 _ _ hS (by omega)
        · refine Tr.iload (pc := 18) (i := 4) d_X2_ownSips_18 rfl ?_
          refine Tr.aload_n (pc := 20) (i := 1) d_X2_ownSips_20 rfl rfl ?_
          refine Tr.getf (pc := 21) d_X2_ownSips_21 f_2_62 (by decide) (by decide) (ty_27 hS.1.1) ?_
          refine Tr.tp 29 (fx_27_5 hS.1.1) ?_
          refine Tr.iload_n (pc := 24) (i := 2) d_X2_ownSips_24 rfl rfl ?_
          refine Tr.iconst (pc := 25) d_X2_ownSips_25 (by decide) ?_
          refine Tr.imul (pc := 26) d_X2_ownSips_26 ?_
          refine Tr.tp (4 * a2) ((w32_id (by omega)).trans (by omega)) ?_
          refine Tr.iload (pc := 27) (i := 5) d_X2_ownSips_27 rfl ?_
          refine Tr.iadd (pc := 29) d_X2_ownSips_29 ?_
          refine Tr.tp (4 * a2 + p6_5) ((w32_id (by omega)).trans (by omega)) ?_
          refine Tr.iald (pc := 30) d_X2_ownSips_30 (ty_29 hS.1.1) (by omega) (by omega) ?_
          refine Tr.gen (P := fun v => (-1) ≤ v ∧ v ≤ 999) (ar_29 hS.1.2.1 _) (fun r30 er30 br30 => ?_)
          refine Tr.aload_n (pc := 31) (i := 0) d_X2_ownSips_31 rfl rfl ?_
          refine Tr.getf (pc := 32) d_X2_ownSips_32 f_2_21 (by decide) (by decide) (ty_107 hS.1.1) ?_
          refine Tr.tp 111 (fx_107_5 hS.1.1) ?_
          refine Tr.iload_n (pc := 35) (i := 3) d_X2_ownSips_35 rfl rfl ?_
          refine Tr.bipush (pc := 36) d_X2_ownSips_36 rfl (by decide) ?_
          refine Tr.imul (pc := 38) d_X2_ownSips_38 ?_
          refine Tr.tp (24 * a3) ((w32_id (by omega)).trans (by omega)) ?_
          refine Tr.iload_n (pc := 39) (i := 2) d_X2_ownSips_39 rfl rfl ?_
          refine Tr.iconst (pc := 40) d_X2_ownSips_40 (by decide) ?_
          refine Tr.imul (pc := 41) d_X2_ownSips_41 ?_
          refine Tr.tp (4 * a2) ((w32_id (by omega)).trans (by omega)) ?_
          refine Tr.iadd (pc := 42) d_X2_ownSips_42 ?_
          refine Tr.tp (4 * a2 + 24 * a3) ((w32_id (by omega)).trans (by omega)) ?_
          refine Tr.iload (pc := 43) (i := 5) d_X2_ownSips_43 rfl ?_
          refine Tr.iadd (pc := 45) d_X2_ownSips_45 ?_
          refine Tr.tp (4 * a2 + 24 * a3 + p6_5) ((w32_id (by omega)).trans (by omega)) ?_
          refine Tr.iald (pc := 46) d_X2_ownSips_46 (ty_111 hS.1.1) (by omega) (by omega) ?_
          refine Tr.gen (P := fun v => (-2147483648) ≤ v ∧ v ≤ 2147483647) (ar_111 hS.1.2.1 _) (fun r46 er46 br46 => ?_)
          refine Tr.imul (pc := 47) d_X2_ownSips_47 ?_
          refine Tr.gen (P := fun v => (-2147483648) ≤ v ∧ v ≤ 2147483647) (w32_b _) (fun r47 er47 br47 => ?_)
          refine Tr.iadd (pc := 48) d_X2_ownSips_48 ?_
          refine Tr.gen (P := fun v => (-2147483648) ≤ v ∧ v ≤ 2147483647) (w32_b _) (fun r48 er48 br48 => ?_)
          refine Tr.istore (pc := 49) (i := 4) (ls2 := [(4, (0, r48)), (0, (2, 107)), (1, (2, 27)), (2, (0, a2)), (3, (0, a3)), (5, (0, p6_5))]) d_X2_ownSips_49 (by decide) rfl ?_
          refine Tr.pick [1, 2, 3, 4, 0, 5] (ls2 := [(0, (2, 107)), (1, (2, 27)), (2, (0, a2)), (3, (0, a3)), (4, (0, r48)), (5, (0, p6_5))]) rfl ?_
          exact J51 _ _ hS (by omega)
  refine Tr.pick [2, 3, 4, 5, 1, 0] (ls2 := [(0, (2, 107)), (1, (2, 27)), (2, (0, a2)), (3, (0, a3)), (4, (0, 0)), (5, (0, 0))]) rfl ?_
  exact J6 _ _ _ _ hS (by omega) (by omega) (Nat.lt_succ_self _)

def ws_X2_search_107_27 : List (Int × Int) := [(107, 1)]
def as_X2_search_107_27 : List Int := [108, 112]
def q_X2_search_107_27 (M0 M' : Mem) (r : Option PV) : Prop := St Tru ws_X2_search_107_27 as_X2_search_107_27 M0 M' ∧ ∃ v : Int, r = some (0, v) ∧ (-2147483648) ≤ v ∧ v ≤ 2147483647
set_option maxRecDepth 100000 in
set_option maxHeartbeats 4000000 in
theorem sp_X2_search_107_27 {l : Launch} {K : EC} {M0 : Mem} (hI : In Tru M0)  (a2 : Int) (ha2 : 0 ≤ a2 ∧ a2 ≤ 5)  : Tr l K 2 mX2_search 0 [(0, (2, 107)), (1, (2, 27)), (2, (0, a2))] [] M0 (q_X2_search_107_27 M0) := by
  have hS : St Tru ws_X2_search_107_27 as_X2_search_107_27 M0 M0 := St.rf hI
  refine Tr.iconst (pc := 0) d_X2_search_0 (by decide) ?_
  refine Tr.istore_n (pc := 1) (i := 3) (ls2 := [(3, (0, 0)), (0, (2, 107)), (1, (2, 27)), (2, (0, a2))]) d_X2_search_1 rfl (by decide) rfl ?_
  have J2 : ∀ (n2 : Nat) (M : Mem) (p2_3 : Int), St Tru ws_X2_search_107_27 as_X2_search_107_27 M0 M → (0 ≤ p2_3 ∧ p2_3 ≤ 12) → (12 - p2_3).toNat < n2 → Tr l K 2 mX2_search 2 [(0, (2, 107)), (1, (2, 27)), (2, (0, a2)), (3, (0, p2_3))] [] M (q_X2_search_107_27 M0) := by
    intro n2
    induction n2 with
    | zero => intro M p2_3 hS bp2_3  hm2; exact absurd hm2 (Nat.not_lt_zero _)
    | succ n2 J2 =>
      intro M p2_3 hS bp2_3  hm2
      refine Tr.iload_n (pc := 2) (i := 3) d_X2_search_2 rfl rfl ?_
      refine Tr.aload_n (pc := 3) (i := 0) d_X2_search_3 rfl rfl ?_
      refine Tr.getf (pc := 4) d_X2_search_4 f_2_27 (by decide) (by decide) (ty_107 hS.1.1) ?_
      refine Tr.gen (P := fun v => 0 ≤ v ∧ v ≤ 12) (ir_107_0 hS.1.2.1) (fun r4 er4 br4 => ?_)
      refine Tr.icmp_ge (pc := 7) (tgt := 43) d_X2_search_7 rfl (fun c7 => ?_) (fun c7 => ?_)
      · refine Tr.iconst (pc := 43) d_X2_search_43 (by decide) ?_
        refine Tr.istore_n (pc := 44) (i := 3) (ls2 := [(3, (0, 0)), (0, (2, 107)), (1, (2, 27)), (2, (0, a2))]) d_X2_search_44 rfl (by decide) rfl ?_
        refine Tr.iconst (pc := 45) d_X2_search_45 (by decide) ?_
        refine Tr.istore (pc := 46) (i := 4) (ls2 := [(4, (0, 0)), (3, (0, 0)), (0, (2, 107)), (1, (2, 27)), (2, (0, a2))]) d_X2_search_46 (by decide) rfl ?_
        have J48 : ∀ (n48 : Nat) (M : Mem) (p48_3 p48_4 : Int), St Tru ws_X2_search_107_27 as_X2_search_107_27 M0 M → ((-2147483648) ≤ p48_3 ∧ p48_3 ≤ 2147483647) → (0 ≤ p48_4 ∧ p48_4 ≤ 4097) → rd M 107 0 = r4 → (4097 - p48_4).toNat < n48 → Tr l K 2 mX2_search 48 [(0, (2, 107)), (2, (0, a2)), (3, (0, p48_3)), (4, (0, p48_4))] [] M (q_X2_search_107_27 M0) := by
          intro n48
          induction n48 with
          | zero => intro M p48_3 p48_4 hS bp48_3 bp48_4 k48_107_0 hm48; exact absurd hm48 (Nat.not_lt_zero _)
          | succ n48 J48 =>
            intro M p48_3 p48_4 hS bp48_3 bp48_4 k48_107_0 hm48
            refine Tr.iload (pc := 48) (i := 4) d_X2_search_48 rfl ?_
            refine Tr.sipush (pc := 50) d_X2_search_50 rfl (by decide) ?_
            refine Tr.icmp_ge (pc := 53) (tgt := 162) d_X2_search_53 rfl (fun c53 => ?_) (fun c53 => ?_)
            · refine Tr.aload_n (pc := 162) (i := 0) d_X2_search_162 rfl rfl ?_
              refine Tr.iconst (pc := 163) d_X2_search_163 (by decide) ?_
              refine Tr.putzS (pc := 164) (P := St Tru ws_X2_search_107_27 as_X2_search_107_27 M0) d_X2_search_164 f_2_31 (by decide) (ty_107 hS.1.1) (by omega) (st_107_1 hS (by decide) (by omega) trivial) (fun M164 hS w164 => ?_)
              refine Tr.iload_n (pc := 167) (i := 3) d_X2_search_167 rfl rfl ?_
              exact Tr.iret (pc := 168) d_X2_search_168 rfl ⟨hS, _, rfl, by omega, by omega⟩
            · refine Tr.aload_n (pc := 56) (i := 0) d_X2_search_56 rfl rfl ?_
              refine Tr.iload_n (pc := 57) (i := 2) d_X2_search_57 rfl rfl ?_
              refine Tr.iload (pc := 58) (i := 4) d_X2_search_58 rfl ?_
              refine Tr.sipush (pc := 60) d_X2_search_60 rfl (by decide) ?_
              refine Tr.idiv (pc := 63) d_X2_search_63 (by omega) ?_
              refine Tr.gen (P := fun v => v = p48_4 / 256 ∧ (0 ≤ v ∧ v ≤ 15)) (div32_l (c := 256) (by omega) (by decide) (by omega) (by omega)) (fun r63 er63 br63 => ?_)
              refine Tr.iload (pc := 64) (i := 4) d_X2_search_64 rfl ?_
              refine Tr.bipush (pc := 66) d_X2_search_66 rfl (by decide) ?_
              refine Tr.idiv (pc := 68) d_X2_search_68 (by omega) ?_
              refine Tr.gen (P := fun v => v = p48_4 / 16 ∧ (0 ≤ v ∧ v ≤ 255)) (div32_l (c := 16) (by omega) (by decide) (by omega) (by omega)) (fun r68 er68 br68 => ?_)
              refine Tr.bipush (pc := 69) d_X2_search_69 rfl (by decide) ?_
              refine Tr.irem (pc := 71) d_X2_search_71 (by omega) ?_
              refine Tr.gen (P := fun v => v = r68 % 16 ∧ (0 ≤ v ∧ v ≤ 15)) (rem_l (c := 16) (by omega) (by decide) (by omega)) (fun r71 er71 br71 => ?_)
              refine Tr.iload (pc := 72) (i := 4) d_X2_search_72 rfl ?_
              refine Tr.bipush (pc := 74) d_X2_search_74 rfl (by decide) ?_
              refine Tr.irem (pc := 76) d_X2_search_76 (by omega) ?_
              refine Tr.gen (P := fun v => v = p48_4 % 16 ∧ (0 ≤ v ∧ v ≤ 15)) (rem_l (c := 16) (by omega) (by decide) (by omega)) (fun r76 er76 br76 => ?_)
              refine Tr.callV (pc := 77) (as := [_, _, _, _]) d_X2_search_77 s_2_58 ok_X2_differences rfl rfl (Nat.le_of_ble_eq_true rfl) (Nat.le_of_ble_eq_true rfl) (by decide) (ty_107 hS.1.1) ?_
              refine Tr.imp (Tr.deep (by decide) (sp_X2_differences_107_w20 hS.1 a2 (by omega) r63 (by omega) r71 (by omega) r76 (by omega))) ?_
              rintro M77 _ ⟨h77, r77, rfl, lr77, ur77⟩
              have hS := St.tr hS h77 (by decide) (by decide)
              refine Tr.sc [(0, r77)] rfl ?_
              refine Tr.istore (pc := 80) (i := 5) (ls2 := [(5, (0, r77)), (0, (2, 107)), (2, (0, a2)), (3, (0, p48_3)), (4, (0, p48_4))]) d_X2_search_80 (by decide) rfl ?_
              refine Tr.iload (pc := 82) (i := 4) d_X2_search_82 rfl ?_
              have J140 : ∀ (M : Mem) (p140_3 : Int), St Tru ws_X2_search_107_27 as_X2_search_107_27 M0 M → ((-2147483648) ≤ p140_3 ∧ p140_3 ≤ 2147483647) → rd M 107 0 = r4 → Tr l K 2 mX2_search 140 [(0, (2, 107)), (2, (0, a2)), (3, (0, p140_3)), (4, (0, p48_4)), (5, (0, r77))] [] M (q_X2_search_107_27 M0) := by
                intro M p140_3 hS bp140_3 k140_107_0
                refine Tr.iload (pc := 140) (i := 5) d_X2_search_140 rfl ?_
                refine Tr.iload_n (pc := 142) (i := 3) d_X2_search_142 rfl rfl ?_
                have J156 : ∀ (M : Mem), St Tru ws_X2_search_107_27 as_X2_search_107_27 M0 M → rd M 107 0 = r4 → Tr l K 2 mX2_search 156 [(0, (2, 107)), (2, (0, a2)), (3, (0, p140_3)), (4, (0, p48_4))] [] M (q_X2_search_107_27 M0) := by
                  intro M  hS  k156_107_0
                  refine Tr.iincV (pc := 156) (n2 := (p48_4 + 1)) (ls2 := [(4, (0, (p48_4 + 1))), (0, (2, 107)), (2, (0, a2)), (3, (0, p140_3))]) d_X2_search_156 rfl (by decide) ((w32_id (by omega)).trans (by omega)) rfl ?_
                  refine Tr.goto (pc := 159) (tgt := 48) d_X2_search_159 rfl ?_
                  refine Tr.pick [1, 2, 3, 0] (ls2 := [(0, (2, 107)), (2, (0, a2)), (3, (0, p140_3)), (4, (0, (p48_4 + 1)))]) rfl ?_
                  exact J48 _ _ _ hS (by omega) (by omega) k156_107_0 (by omega)
                refine Tr.icmp_ne (pc := 143) (tgt := 156) d_X2_search_143 rfl (fun c143 => ?_) (fun c143 => ?_)
                · refine Tr.pick [0, 1, 2, 3] (ls2 := [(0, (2, 107)), (2, (0, a2)), (3, (0, p140_3)), (4, (0, p48_4))]) rfl ?_
                  exact J156 _ hS k140_107_0
                · refine Tr.aload_n (pc := 146) (i := 0) d_X2_search_146 rfl rfl ?_
                  refine Tr.getf (pc := 147) d_X2_search_147 f_2_9 (by decide) (by decide) (ty_107 hS.1.1) ?_
                  refine Tr.tp 108 (fx_107_2 hS.1.1) ?_
                  refine Tr.iconst (pc := 150) d_X2_search_150 (by decide) ?_
                  refine Tr.dup2 (pc := 151) d_X2_search_151 ne01 ne21 ?_
                  refine Tr.iald (pc := 152) d_X2_search_152 (ty_108 hS.1.1) (by omega) (by omega) ?_
                  refine Tr.gen (P := fun v => (-2147483648) ≤ v ∧ v ≤ 2147483647) (ar_108 hS.1.2.1 _) (fun r152 er152 br152 => ?_)
                  refine Tr.iconst (pc := 153) d_X2_search_153 (by decide) ?_
                  refine Tr.iadd (pc := 154) d_X2_search_154 ?_
                  refine Tr.gen (P := fun v => (-2147483648) ≤ v ∧ v ≤ 2147483647) (w32_b _) (fun r154 er154 br154 => ?_)
                  refine Tr.iastS (pc := 155) (P := St Tru ws_X2_search_107_27 as_X2_search_107_27 M0) d_X2_search_155 (ty_108 hS.1.1) (by omega) (by omega) (sa_108 hS (by decide) (by omega) trivial) (fun M155 hS w155 => ?_)
                  refine Tr.pick [0, 1, 2, 3] (ls2 := [(0, (2, 107)), (2, (0, a2)), (3, (0, p140_3)), (4, (0, p48_4))]) rfl ?_
                  exact J156 _ hS ((Wr.b w155 rfl).trans k140_107_0)
              have J93 : ∀ (M : Mem), St Tru ws_X2_search_107_27 as_X2_search_107_27 M0 M → rd M 107 0 = r4 → Tr l K 2 mX2_search 93 [(0, (2, 107)), (2, (0, a2)), (4, (0, p48_4)), (5, (0, r77))] [] M (q_X2_search_107_27 M0) := by
                intro M  hS  k93_107_0
                refine Tr.iload (pc := 93) (i := 5) d_X2_search_93 rfl ?_
                refine Tr.istore_n (pc := 95) (i := 3) (ls2 := [(3, (0, r77)), (0, (2, 107)), (2, (0, a2)), (4, (0, p48_4)), (5, (0, r77))]) d_X2_search_95 rfl (by decide) rfl ?_
                refine Tr.aload_n (pc := 96) (i := 0) d_X2_search_96 rfl rfl ?_
                refine Tr.getf (pc := 97) d_X2_search_97 f_2_9 (by decide) (by decide) (ty_107 hS.1.1) ?_
                refine Tr.tp 108 (fx_107_2 hS.1.1) ?_
                refine Tr.iconst (pc := 100) d_X2_search_100 (by decide) ?_
                refine Tr.iload (pc := 101) (i := 4) d_X2_search_101 rfl ?_
                refine Tr.sipush (pc := 103) d_X2_search_103 rfl (by decide) ?_
                refine Tr.idiv (pc := 106) d_X2_search_106 (by omega) ?_
                refine Tr.gen (P := fun v => v = p48_4 / 256 ∧ (0 ≤ v ∧ v ≤ 15)) (div32_l (c := 256) (by omega) (by decide) (by omega) (by omega)) (fun r106 er106 br106 => ?_)
                refine Tr.iastS (pc := 107) (P := St Tru ws_X2_search_107_27 as_X2_search_107_27 M0) d_X2_search_107 (ty_108 hS.1.1) (by omega) (by omega) (sa_108 hS (by decide) (by omega) trivial) (fun M107 hS w107 => ?_)
                refine Tr.aload_n (pc := 108) (i := 0) d_X2_search_108 rfl rfl ?_
                refine Tr.getf (pc := 109) d_X2_search_109 f_2_9 (by decide) (by decide) (ty_107 hS.1.1) ?_
                refine Tr.tp 108 (fx_107_2 hS.1.1) ?_
                refine Tr.iconst (pc := 112) d_X2_search_112 (by decide) ?_
                refine Tr.iload (pc := 113) (i := 4) d_X2_search_113 rfl ?_
                refine Tr.bipush (pc := 115) d_X2_search_115 rfl (by decide) ?_
                refine Tr.idiv (pc := 117) d_X2_search_117 (by omega) ?_
                refine Tr.gen (P := fun v => v = p48_4 / 16 ∧ (0 ≤ v ∧ v ≤ 255)) (div32_l (c := 16) (by omega) (by decide) (by omega) (by omega)) (fun r117 er117 br117 => ?_)
                refine Tr.bipush (pc := 118) d_X2_search_118 rfl (by decide) ?_
                refine Tr.irem (pc := 120) d_X2_search_120 (by omega) ?_
                refine Tr.gen (P := fun v => v = r117 % 16 ∧ (0 ≤ v ∧ v ≤ 15)) (rem_l (c := 16) (by omega) (by decide) (by omega)) (fun r120 er120 br120 => ?_)
                refine Tr.iastS (pc := 121) (P := St Tru ws_X2_search_107_27 as_X2_search_107_27 M0) d_X2_search_121 (ty_108 hS.1.1) (by omega) (by omega) (sa_108 hS (by decide) (by omega) trivial) (fun M121 hS w121 => ?_)
                refine Tr.aload_n (pc := 122) (i := 0) d_X2_search_122 rfl rfl ?_
                refine Tr.getf (pc := 123) d_X2_search_123 f_2_9 (by decide) (by decide) (ty_107 hS.1.1) ?_
                refine Tr.tp 108 (fx_107_2 hS.1.1) ?_
                refine Tr.iconst (pc := 126) d_X2_search_126 (by decide) ?_
                refine Tr.iload (pc := 127) (i := 4) d_X2_search_127 rfl ?_
                refine Tr.bipush (pc := 129) d_X2_search_129 rfl (by decide) ?_
                refine Tr.irem (pc := 131) d_X2_search_131 (by omega) ?_
                refine Tr.gen (P := fun v => v = p48_4 % 16 ∧ (0 ≤ v ∧ v ≤ 15)) (rem_l (c := 16) (by omega) (by decide) (by omega)) (fun r131 er131 br131 => ?_)
                refine Tr.iastS (pc := 132) (P := St Tru ws_X2_search_107_27 as_X2_search_107_27 M0) d_X2_search_132 (ty_108 hS.1.1) (by omega) (by omega) (sa_108 hS (by decide) (by omega) trivial) (fun M132 hS w132 => ?_)
                refine Tr.aload_n (pc := 133) (i := 0) d_X2_search_133 rfl rfl ?_
                refine Tr.getf (pc := 134) d_X2_search_134 f_2_9 (by decide) (by decide) (ty_107 hS.1.1) ?_
                refine Tr.tp 108 (fx_107_2 hS.1.1) ?_
                refine Tr.iconst (pc := 137) d_X2_search_137 (by decide) ?_
                refine Tr.iconst (pc := 138) d_X2_search_138 (by decide) ?_
                refine Tr.iastS (pc := 139) (P := St Tru ws_X2_search_107_27 as_X2_search_107_27 M0) d_X2_search_139 (ty_108 hS.1.1) (by omega) (by omega) (sa_108 hS (by decide) (by omega) trivial) (fun M139 hS w139 => ?_)
                refine Tr.pick [1, 2, 0, 3, 4] (ls2 := [(0, (2, 107)), (2, (0, a2)), (3, (0, r77)), (4, (0, p48_4)), (5, (0, r77))]) rfl ?_
                exact J140 _ _ hS (by omega) ((Wr.b w139 rfl).trans ((Wr.b w132 rfl).trans ((Wr.b w121 rfl).trans ((Wr.b w107 rfl).trans k93_107_0))))
              refine Tr.if_eq (pc := 84) (tgt := 93) d_X2_search_84 rfl (fun c84 => ?_) (fun c84 => ?_)
              · refine Tr.pick [1, 2, 4, 0] (ls2 := [(0, (2, 107)), (2, (0, a2)), (4, (0, p48_4)), (5, (0, r77))]) rfl ?_
                exact J93 _ hS ((St.kp h77 (by decide) (by decide) (by decide)).trans k48_107_0)
              · refine Tr.iload (pc := 87) (i := 5) d_X2_search_87 rfl ?_
                refine Tr.iload_n (pc := 89) (i := 3) d_X2_search_89 rfl rfl ?_
                refine Tr.icmp_ge (pc := 90) (tgt := 140) d_X2_search_90 rfl (fun c90 => ?_) (fun c90 => ?_)
                · refine Tr.pick [1, 2, 3, 4, 0] (ls2 := [(0, (2, 107)), (2, (0, a2)), (3, (0, p48_3)), (4, (0, p48_4)), (5, (0, r77))]) rfl ?_
                  exact J140 _ _ hS (by omega) ((St.kp h77 (by decide) (by decide) (by decide)).trans k48_107_0)
                · refine Tr.pick [1, 2, 4, 0] (ls2 := [(0, (2, 107)), (2, (0, a2)), (4, (0, p48_4)), (5, (0, r77))]) rfl ?_
                  exact J93 _ hS ((St.kp h77 (by decide) (by decide) (by decide)).trans k48_107_0)
        refine Tr.pick [2, 4, 1, 0] (ls2 := [(0, (2, 107)), (2, (0, a2)), (3, (0, 0)), (4, (0, 0))]) rfl ?_
        exact J48 _ _ _ _ hS (by omega) (by omega) er4 (Nat.lt_succ_self _)
      · refine Tr.aload_n (pc := 10) (i := 0) d_X2_search_10 rfl rfl ?_
        refine Tr.getf (pc := 11) d_X2_search_11 f_2_24 (by decide) (by decide) (ty_107 hS.1.1) ?_
        refine Tr.tp 112 (fx_107_6 hS.1.1) ?_
        refine Tr.iload_n (pc := 14) (i := 3) d_X2_search_14 rfl rfl ?_
        refine Tr.aload_n (pc := 15) (i := 0) d_X2_search_15 rfl rfl ?_
        refine Tr.getf (pc := 16) d_X2_search_16 f_2_18 (by decide) (by decide) (ty_107 hS.1.1) ?_
        refine Tr.tp 110 (fx_107_4 hS.1.1) ?_
        refine Tr.iload_n (pc := 19) (i := 3) d_X2_search_19 rfl rfl ?_
        refine Tr.iald (pc := 20) d_X2_search_20 (ty_110 hS.1.1) (by omega) (by omega) ?_
        refine Tr.gen (P := fun v => (-2147483648) ≤ v ∧ v ≤ 2147483647) (ar_110 hS.1.2.1 _) (fun r20 er20 br20 => ?_)
        refine Tr.aload_n (pc := 21) (i := 0) d_X2_search_21 rfl rfl ?_
        refine Tr.getf (pc := 22) d_X2_search_22 f_2_15 (by decide) (by decide) (ty_107 hS.1.1) ?_
        refine Tr.tp 109 (fx_107_3 hS.1.1) ?_
        refine Tr.iload_n (pc := 25) (i := 3) d_X2_search_25 rfl rfl ?_
        refine Tr.iald (pc := 26) d_X2_search_26 (ty_109 hS.1.1) (by omega) (by omega) ?_
        refine Tr.gen (P := fun v => (-2147483648) ≤ v ∧ v ≤ 2147483647) (ar_109 hS.1.2.1 _) (fun r26 er26 br26 => ?_)
        refine Tr.isub (pc := 27) d_X2_search_27 ?_
        refine Tr.gen (P := fun v => (-2147483648) ≤ v ∧ v ≤ 2147483647) (w32_b _) (fun r27 er27 br27 => ?_)
        refine Tr.aload_n (pc := 28) (i := 0) d_X2_search_28 rfl rfl ?_
        refine Tr.aload_n (pc := 29) (i := 1) d_X2_search_29 rfl rfl ?_
        refine Tr.iload_n (pc := 30) (i := 2) d_X2_search_30 rfl rfl ?_
        refine Tr.iload_n (pc := 31) (i := 3) d_X2_search_31 rfl rfl ?_
        refine Tr.callV (pc := 32) (as := [_, _, _]) d_X2_search_32 s_2_54 ok_X2_ownSips rfl rfl (Nat.le_of_ble_eq_true rfl) (Nat.le_of_ble_eq_true rfl) (by decide) (ty_107 hS.1.1) ?_
        refine Tr.imp (Tr.deep (by decide) (sp_X2_ownSips_107_27 hS.1 a2 (by omega) p2_3 (by omega))) ?_
        rintro M32 _ ⟨h32, r32, rfl, lr32, ur32⟩
        have hS := St.tr hS h32 (by decide) (by decide)
        refine Tr.sc [(0, r32), (0, r27), (0, p2_3), (2, 112)] rfl ?_
        refine Tr.isub (pc := 35) d_X2_search_35 ?_
        refine Tr.gen (P := fun v => (-2147483648) ≤ v ∧ v ≤ 2147483647) (w32_b _) (fun r35 er35 br35 => ?_)
        refine Tr.iastS (pc := 36) (P := St Tru ws_X2_search_107_27 as_X2_search_107_27 M0) d_X2_search_36 (ty_112 hS.1.1) (by omega) (by omega) (sa_112 hS (by decide) (by omega) trivial) (fun M36 hS w36 => ?_)
        refine Tr.iincV (pc := 37) (n2 := (p2_3 + 1)) (ls2 := [(3, (0, (p2_3 + 1))), (0, (2, 107)), (1, (2, 27)), (2, (0, a2))]) d_X2_search_37 rfl (by decide) ((w32_id (by omega)).trans (by omega)) rfl ?_
        refine Tr.goto (pc := 40) (tgt := 2) d_X2_search_40 rfl ?_
        refine Tr.pick [1, 2, 3, 0] (ls2 := [(0, (2, 107)), (1, (2, 27)), (2, (0, a2)), (3, (0, (p2_3 + 1)))]) rfl ?_
        exact J2 _ _ hS (by omega) (by omega)
  refine Tr.pick [1, 2, 3, 0] (ls2 := [(0, (2, 107)), (1, (2, 27)), (2, (0, a2)), (3, (0, 0))]) rfl ?_
  exact J2 _ _ _ hS (by omega) (Nat.lt_succ_self _)
end
/-! 43.03 -/
section
def ws_X11_fit_0_w1 : List (Int × Int) := [(107, 1)]
def as_X11_fit_0_w1 : List Int := [108, 112]
def q_X11_fit_0_w1 (M0 M' : Mem) (r : Option PV) : Prop := St Tru ws_X11_fit_0_w1 as_X11_fit_0_w1 M0 M' ∧ ∃ v : Int, r = some (0, v) ∧ (-2147483648) ≤ v ∧ v ≤ 2147483647
set_option maxRecDepth 100000 in
set_option maxHeartbeats 4000000 in
theorem sp_X11_fit_0_w1 {l : Launch} {K : EC} {M0 : Mem} (hI : In Tru M0) (en_0_4 : rd M0 0 4 = 27) (a1 : Int) (ha1 : (-2147483648) ≤ a1 ∧ a1 ≤ 2147483647)  : Tr l K 3 mX11_fit 0 [(0, (2, 0)), (1, (0, a1))] [] M0 (q_X11_fit_0_w1 M0) := by
  have hS : St Tru ws_X11_fit_0_w1 as_X11_fit_0_w1 M0 M0 := St.rf hI
  refine Tr.aload_n (pc := 0) (i := 0) d_X11_fit_0 rfl rfl ?_
  refine Tr.iload_n (pc := 1) (i := 1) d_X11_fit_1 rfl rfl ?_
  refine Tr.callV (pc := 2) (as := [_]) d_X11_fit_2 s_11_174 ok_X11_isPart rfl rfl (Nat.le_of_ble_eq_true rfl) (Nat.le_of_ble_eq_true rfl) (by decide) (ty_0 hS.1.1) ?_
  refine Tr.imp (Tr.deep (by decide) (sp_X11_isPart_0_w1 hS.1 ((St.kp hS (by decide) (by decide) (by decide)).trans en_0_4) a1 (by omega))) ?_
  rintro M2 _ ⟨h2, r2, rfl, lr2, ur2, wr2⟩
  have hS := St.tr hS h2 (by decide) (by decide)
  refine Tr.sc [(0, r2)] rfl ?_
  refine Tr.if_eq (pc := 5) (tgt := 18) d_X11_fit_5 rfl (fun c5 => ?_) (fun c5 => ?_)
  · refine Tr.iconst (pc := 18) d_X11_fit_18 (by decide) ?_
    exact Tr.iret (pc := 19) d_X11_fit_19 rfl ⟨hS, _, rfl, by omega, by omega⟩
  · refine Tr.aload_n (pc := 8) (i := 0) d_X11_fit_8 rfl rfl ?_
    refine Tr.getf (pc := 9) d_X11_fit_9 f_11_70 (by decide) (by decide) (ty_0 hS.1.1) ?_
    refine Tr.tp 107 (fx_0_12 hS.1.1) ?_
    refine Tr.getf (pc := 12) d_X11_fit_12 f_11_133 (by decide) (by decide) (ty_107 hS.1.1) ?_
    refine Tr.gen (P := fun v => 0 ≤ v ∧ v ≤ 12) (ir_107_0 hS.1.2.1) (fun r12 er12 br12 => ?_)
    refine Tr.if_ne (pc := 15) (tgt := 20) d_X11_fit_15 rfl (fun c15 => ?_) (fun c15 => ?_)
    · refine Tr.aload_n (pc := 20) (i := 0) d_X11_fit_20 rfl rfl ?_
      refine Tr.getf (pc := 21) d_X11_fit_21 f_11_70 (by decide) (by decide) (ty_0 hS.1.1) ?_
      refine Tr.tp 107 (fx_0_12 hS.1.1) ?_
      refine Tr.aload_n (pc := 24) (i := 0) d_X11_fit_24 rfl rfl ?_
      refine Tr.getf (pc := 25) d_X11_fit_25 f_11_30 (by decide) (by decide) (ty_0 hS.1.1) ?_
      refine Tr.tp 27 ((St.kp hS (by decide) (by decide) (by decide)).trans en_0_4) ?_
      refine Tr.iload_n (pc := 28) (i := 1) d_X11_fit_28 rfl rfl ?_
      refine Tr.callV (pc := 29) (as := [_, _]) d_X11_fit_29 s_11_276 ok_X2_search rfl rfl (Nat.le_of_ble_eq_true rfl) (Nat.le_of_ble_eq_true rfl) (by decide) (ty_107 hS.1.1) ?_
      refine Tr.imp (Tr.deep (by decide) (sp_X2_search_107_27 hS.1 a1 (by omega))) ?_
      rintro M29 _ ⟨h29, r29, rfl, lr29, ur29⟩
      have hS := St.tr hS h29 (by decide) (by decide)
      refine Tr.sc [(0, r29)] rfl ?_
      exact Tr.iret (pc := 32) d_X11_fit_32 rfl ⟨hS, _, rfl, by omega, by omega⟩
    · refine Tr.iconst (pc := 18) d_X11_fit_18 (by decide) ?_
      exact Tr.iret (pc := 19) d_X11_fit_19 rfl ⟨hS, _, rfl, by omega, by omega⟩

def ws_X11_together_0_w1 : List (Int × Int) := [(113, 7)]
def as_X11_together_0_w1 : List Int := [117, 118, 119]
def q_X11_together_0_w1 (M0 M' : Mem) (r : Option PV) : Prop := St Tru ws_X11_together_0_w1 as_X11_together_0_w1 M0 M' ∧ ∃ v : Int, r = some (0, v) ∧ (-2147483648) ≤ v ∧ v ≤ 2147483647
set_option maxRecDepth 100000 in
set_option maxHeartbeats 4000000 in
theorem sp_X11_together_0_w1 {l : Launch} {K : EC} {M0 : Mem} (hI : In Tru M0) (en_0_4 : rd M0 0 4 = 27) (a1 : Int) (ha1 : (-2147483648) ≤ a1 ∧ a1 ≤ 2147483647)  : Tr l K 3 mX11_together 0 [(0, (2, 0)), (1, (0, a1))] [] M0 (q_X11_together_0_w1 M0) := by
  have hS : St Tru ws_X11_together_0_w1 as_X11_together_0_w1 M0 M0 := St.rf hI
  refine Tr.aload_n (pc := 0) (i := 0) d_X11_together_0 rfl rfl ?_
  refine Tr.iload_n (pc := 1) (i := 1) d_X11_together_1 rfl rfl ?_
  refine Tr.callV (pc := 2) (as := [_]) d_X11_together_2 s_11_174 ok_X11_isPart rfl rfl (Nat.le_of_ble_eq_true rfl) (Nat.le_of_ble_eq_true rfl) (by decide) (ty_0 hS.1.1) ?_
  refine Tr.imp (Tr.deep (by decide) (sp_X11_isPart_0_w1 hS.1 ((St.kp hS (by decide) (by decide) (by decide)).trans en_0_4) a1 (by omega))) ?_
  rintro M2 _ ⟨h2, r2, rfl, lr2, ur2, wr2⟩
  have hS := St.tr hS h2 (by decide) (by decide)
  refine Tr.sc [(0, r2)] rfl ?_
  refine Tr.if_eq (pc := 5) (tgt := 18) d_X11_together_5 rfl (fun c5 => ?_) (fun c5 => ?_)
  · refine Tr.iconst (pc := 18) d_X11_together_18 (by decide) ?_
    exact Tr.iret (pc := 19) d_X11_together_19 rfl ⟨hS, _, rfl, by omega, by omega⟩
  · refine Tr.aload_n (pc := 8) (i := 0) d_X11_together_8 rfl rfl ?_
    refine Tr.getf (pc := 9) d_X11_together_9 f_11_77 (by decide) (by decide) (ty_0 hS.1.1) ?_
    refine Tr.tp 113 (fx_0_13 hS.1.1) ?_
    refine Tr.getf (pc := 12) d_X11_together_12 f_11_136 (by decide) (by decide) (ty_113 hS.1.1) ?_
    refine Tr.gen (P := fun v => 0 ≤ v ∧ v ≤ 6) (ir_113_0 hS.1.2.1) (fun r12 er12 br12 => ?_)
    refine Tr.if_ne (pc := 15) (tgt := 20) d_X11_together_15 rfl (fun c15 => ?_) (fun c15 => ?_)
    · refine Tr.aload_n (pc := 20) (i := 0) d_X11_together_20 rfl rfl ?_
      refine Tr.getf (pc := 21) d_X11_together_21 f_11_77 (by decide) (by decide) (ty_0 hS.1.1) ?_
      refine Tr.tp 113 (fx_0_13 hS.1.1) ?_
      refine Tr.aload_n (pc := 24) (i := 0) d_X11_together_24 rfl rfl ?_
      refine Tr.getf (pc := 25) d_X11_together_25 f_11_30 (by decide) (by decide) (ty_0 hS.1.1) ?_
      refine Tr.tp 27 ((St.kp hS (by decide) (by decide) (by decide)).trans en_0_4) ?_
      refine Tr.getf (pc := 28) d_X11_together_28 f_11_289 (by decide) (by decide) (ty_27 hS.1.1) ?_
      refine Tr.tp 29 (fx_27_5 hS.1.1) ?_
      refine Tr.iload_n (pc := 31) (i := 1) d_X11_together_31 rfl rfl ?_
      refine Tr.iconst (pc := 32) d_X11_together_32 (by decide) ?_
      refine Tr.imul (pc := 33) d_X11_together_33 ?_
      refine Tr.tp (4 * a1) ((w32_id (by omega)).trans (by omega)) ?_
      refine Tr.iconst (pc := 34) d_X11_together_34 (by decide) ?_
      refine Tr.iadd (pc := 35) d_X11_together_35 ?_
      refine Tr.tp (4 * a1 + 2) ((w32_id (by omega)).trans (by omega)) ?_
      refine Tr.iald (pc := 36) d_X11_together_36 (ty_29 hS.1.1) (by omega) (by omega) ?_
      refine Tr.gen (P := fun v => (-1) ≤ v ∧ v ≤ 999) (ar_29 hS.1.2.1 _) (fun r36 er36 br36 => ?_)
      refine Tr.aload_n (pc := 37) (i := 0) d_X11_together_37 rfl rfl ?_
      refine Tr.getf (pc := 38) d_X11_together_38 f_11_30 (by decide) (by decide) (ty_0 hS.1.1) ?_
      refine Tr.tp 27 ((St.kp hS (by decide) (by decide) (by decide)).trans en_0_4) ?_
      refine Tr.iload_n (pc := 41) (i := 1) d_X11_together_41 rfl rfl ?_
      refine Tr.callV (pc := 42) (as := [_]) d_X11_together_42 s_11_292 ok_X3_wakeCost rfl rfl (Nat.le_of_ble_eq_true rfl) (Nat.le_of_ble_eq_true rfl) (by decide) (ty_27 hS.1.1) ?_
      refine Tr.imp (Tr.deep (by decide) (sp_X3_wakeCost_27 hS.1 a1 (by omega))) ?_
      rintro M42 _ ⟨h42, r42, rfl, lr42, ur42⟩
      have hS := St.tr hS h42 (by decide) (by decide)
      refine Tr.sc [(0, r42), (0, r36), (2, 113)] rfl ?_
      refine Tr.aload_n (pc := 45) (i := 0) d_X11_together_45 rfl rfl ?_
      refine Tr.getf (pc := 46) d_X11_together_46 f_11_30 (by decide) (by decide) (ty_0 hS.1.1) ?_
      refine Tr.tp 27 ((St.kp hS (by decide) (by decide) (by decide)).trans en_0_4) ?_
      refine Tr.getf (pc := 49) d_X11_together_49 f_11_295 (by decide) (by decide) (ty_27 hS.1.1) ?_
      refine Tr.tp 31 (fx_27_7 hS.1.1) ?_
      refine Tr.iload_n (pc := 52) (i := 1) d_X11_together_52 rfl rfl ?_
      refine Tr.iald (pc := 53) d_X11_together_53 (ty_31 hS.1.1) (by omega) (by omega) ?_
      refine Tr.gen (P := fun v => 0 ≤ v ∧ v ≤ 50) (ar_31 hS.1.2.1 _) (fun r53 er53 br53 => ?_)
      refine Tr.callV (pc := 54) (as := [_, _, _]) d_X11_together_54 s_11_298 ok_X0_arrange rfl rfl (Nat.le_of_ble_eq_true rfl) (Nat.le_of_ble_eq_true rfl) (by decide) (ty_113 hS.1.1) ?_
      refine Tr.imp (Tr.deep (by decide) (sp_X0_arrange_113 hS.1 r36 (by omega) r42 (by omega) r53 (by omega))) ?_
      rintro M54 _ ⟨h54, r54, rfl, lr54, ur54⟩
      have hS := St.tr hS h54 (by decide) (by decide)
      refine Tr.sc [(0, r54)] rfl ?_
      exact Tr.iret (pc := 57) d_X11_together_57 rfl ⟨hS, _, rfl, by omega, by omega⟩
    · refine Tr.iconst (pc := 18) d_X11_together_18 (by decide) ?_
      exact Tr.iret (pc := 19) d_X11_together_19 rfl ⟨hS, _, rfl, by omega, by omega⟩

def ws_X4_spread_35 : List (Int × Int) := []
def as_X4_spread_35 : List Int := [46]
def q_X4_spread_35 (M0 M' : Mem) (r : Option PV) : Prop := St Tru ws_X4_spread_35 as_X4_spread_35 M0 M' ∧ ∃ v : Int, r = some (0, v) ∧ 0 ≤ v ∧ v ≤ 1
set_option maxRecDepth 100000 in
set_option maxHeartbeats 4000000 in
theorem sp_X4_spread_35 {l : Launch} {K : EC} {M0 : Mem} (hI : In Tru M0)  (a1 : Int) (ha1 : (-2147483648) ≤ a1 ∧ a1 ≤ 2147483647) (a2 : Int) (ha2 : (-2147483648) ≤ a2 ∧ a2 ≤ 2147483647)  : Tr l K 0 mX4_spread 0 [(0, (2, 35)), (1, (0, a1)), (2, (0, a2))] [] M0 (q_X4_spread_35 M0) := by
  have hS : St Tru ws_X4_spread_35 as_X4_spread_35 M0 M0 := St.rf hI
  refine Tr.iload_n (pc := 0) (i := 1) d_X4_spread_0 rfl rfl ?_
  refine Tr.if_lt (pc := 1) (tgt := 29) d_X4_spread_1 rfl (fun c1 => ?_) (fun c1 => ?_)
  · refine Tr.iconst (pc := 29) d_X4_spread_29 (by decide) ?_
    exact Tr.zret (pc := 30) d_X4_spread_30 rfl (by omega) ⟨hS, _, rfl, by omega, by omega⟩
  · refine Tr.iload_n (pc := 4) (i := 1) d_X4_spread_4 rfl rfl ?_
    refine Tr.aload_n (pc := 5) (i := 0) d_X4_spread_5 rfl rfl ?_
    refine Tr.getf (pc := 6) d_X4_spread_6 f_4_45 (by decide) (by decide) (ty_35 hS.1.1) ?_
    refine Tr.gen (P := fun v => 0 ≤ v ∧ v ≤ 60) (ir_35_0 hS.1.2.1) (fun r6 er6 br6 => ?_)
    refine Tr.icmp_gt (pc := 9) (tgt := 29) d_X4_spread_9 rfl (fun c9 => ?_) (fun c9 => ?_)
    · refine Tr.iconst (pc := 29) d_X4_spread_29 (by decide) ?_
      exact Tr.zret (pc := 30) d_X4_spread_30 rfl (by omega) ⟨hS, _, rfl, by omega, by omega⟩
    · refine Tr.aload_n (pc := 12) (i := 0) d_X4_spread_12 rfl rfl ?_
      refine Tr.getf (pc := 13) d_X4_spread_13 f_4_42 (by decide) (by decide) (ty_35 hS.1.1) ?_
      refine Tr.tp 46 (fx_35_12 hS.1.1) ?_
      refine Tr.iload_n (pc := 16) (i := 1) d_X4_spread_16 rfl rfl ?_
      refine Tr.iald (pc := 17) d_X4_spread_17 (ty_46 hS.1.1) (by omega) (by omega) ?_
      refine Tr.gen (P := fun v => (-2147483648) ≤ v ∧ v ≤ 2147483647) (ar_46 hS.1.2.1 _) (fun r17 er17 br17 => ?_)
      refine Tr.iload_n (pc := 18) (i := 2) d_X4_spread_18 rfl rfl ?_
      refine Tr.ior (pc := 19) d_X4_spread_19 ?_
      refine Tr.gen (P := fun v => (-2147483648) ≤ v ∧ v ≤ 2147483647) (i32_b _) (fun r19 er19 br19 => ?_)
      refine Tr.aload_n (pc := 20) (i := 0) d_X4_spread_20 rfl rfl ?_
      refine Tr.getf (pc := 21) d_X4_spread_21 f_4_42 (by decide) (by decide) (ty_35 hS.1.1) ?_
      refine Tr.tp 46 (fx_35_12 hS.1.1) ?_
      refine Tr.iload_n (pc := 24) (i := 1) d_X4_spread_24 rfl rfl ?_
      refine Tr.iald (pc := 25) d_X4_spread_25 (ty_46 hS.1.1) (by omega) (by omega) ?_
      refine Tr.tp r17 er17 ?_
      refine Tr.icmp_ne (pc := 26) (tgt := 31) d_X4_spread_26 rfl (fun c26 => ?_) (fun c26 => ?_)
      · refine Tr.aload_n (pc := 31) (i := 0) d_X4_spread_31 rfl rfl ?_
        refine Tr.getf (pc := 32) d_X4_spread_32 f_4_42 (by decide) (by decide) (ty_35 hS.1.1) ?_
        refine Tr.tp 46 (fx_35_12 hS.1.1) ?_
        refine Tr.iload_n (pc := 35) (i := 1) d_X4_spread_35 rfl rfl ?_
        refine Tr.dup2 (pc := 36) d_X4_spread_36 ne01 ne21 ?_
        refine Tr.iald (pc := 37) d_X4_spread_37 (ty_46 hS.1.1) (by omega) (by omega) ?_
        refine Tr.tp r17 er17 ?_
        refine Tr.iload_n (pc := 38) (i := 2) d_X4_spread_38 rfl rfl ?_
        refine Tr.ior (pc := 39) d_X4_spread_39 ?_
        refine Tr.gen (P := fun v => (-2147483648) ≤ v ∧ v ≤ 2147483647) (i32_b _) (fun r39 er39 br39 => ?_)
        refine Tr.iastS (pc := 40) (P := St Tru ws_X4_spread_35 as_X4_spread_35 M0) d_X4_spread_40 (ty_46 hS.1.1) (by omega) (by omega) (sa_46 hS (by decide) (by omega) trivial) (fun M40 hS w40 => ?_)
        refine Tr.iconst (pc := 41) d_X4_spread_41 (by decide) ?_
        exact Tr.zret (pc := 42) d_X4_spread_42 rfl (by omega) ⟨hS, _, rfl, by omega, by omega⟩
      · refine Tr.iconst (pc := 29) d_X4_spread_29 (by decide) ?_
        exact Tr.zret (pc := 30) d_X4_spread_30 rfl (by omega) ⟨hS, _, rfl, by omega, by omega⟩

def ws_X4_heldBehind_35_w13 : List (Int × Int) := []
def as_X4_heldBehind_35_w13 : List Int := []
def q_X4_heldBehind_35_w13 (M0 M' : Mem) (r : Option PV) : Prop := St Tru ws_X4_heldBehind_35_w13 as_X4_heldBehind_35_w13 M0 M' ∧ ∃ v : Int, r = some (0, v) ∧ (-2147483648) ≤ v ∧ v ≤ 2147483647
set_option maxRecDepth 100000 in
set_option maxHeartbeats 4000000 in
theorem sp_X4_heldBehind_35_w13 {l : Launch} {K : EC} {M0 : Mem} (hI : In Tru M0)  (a1 : Int) (ha1 : 0 ≤ a1 ∧ a1 ≤ 59)  : Tr l K 0 mX4_heldBehind 0 [(0, (2, 35)), (1, (0, a1))] [] M0 (q_X4_heldBehind_35_w13 M0) := by
  have hS : St Tru ws_X4_heldBehind_35_w13 as_X4_heldBehind_35_w13 M0 M0 := St.rf hI
  refine Tr.iconst (pc := 0) d_X4_heldBehind_0 (by decide) ?_
  refine Tr.aload_n (pc := 1) (i := 0) d_X4_heldBehind_1 rfl rfl ?_
  refine Tr.getf (pc := 2) d_X4_heldBehind_2 f_4_15 (by decide) (by decide) (ty_35 hS.1.1) ?_
  refine Tr.tp 37 (fx_35_2 hS.1.1) ?_
  refine Tr.iload_n (pc := 5) (i := 1) d_X4_heldBehind_5 rfl rfl ?_
  refine Tr.iald (pc := 6) d_X4_heldBehind_6 (ty_37 hS.1.1) (by omega) (by omega) ?_
  refine Tr.gen (P := fun v => 0 ≤ v ∧ v ≤ 5) (ar_37 hS.1.2.1 _) (fun r6 er6 br6 => ?_)
  refine Tr.ishl (pc := 7) d_X4_heldBehind_7 ?_
  refine Tr.gen (P := fun v => (-2147483648) ≤ v ∧ v ≤ 2147483647) (i32_b _) (fun r7 er7 br7 => ?_)
  refine Tr.istore_n (pc := 8) (i := 2) (ls2 := [(2, (0, r7)), (0, (2, 35)), (1, (0, a1))]) d_X4_heldBehind_8 rfl (by decide) rfl ?_
  refine Tr.aload_n (pc := 9) (i := 0) d_X4_heldBehind_9 rfl rfl ?_
  refine Tr.getf (pc := 10) d_X4_heldBehind_10 f_4_9 (by decide) (by decide) (ty_35 hS.1.1) ?_
  refine Tr.tp 36 (fx_35_1 hS.1.1) ?_
  refine Tr.iload_n (pc := 13) (i := 1) d_X4_heldBehind_13 rfl rfl ?_
  refine Tr.iald (pc := 14) d_X4_heldBehind_14 (ty_36 hS.1.1) (by omega) (by omega) ?_
  refine Tr.gen (P := fun v => (-2147483648) ≤ v ∧ v ≤ 2147483647) (ar_36 hS.1.2.1 _) (fun r14 er14 br14 => ?_)
  refine Tr.bipush (pc := 15) d_X4_heldBehind_15 rfl (by decide) ?_
  refine Tr.icmp_ne (pc := 17) (tgt := 29) d_X4_heldBehind_17 rfl (fun c17 => ?_) (fun c17 => ?_)
  · refine Tr.aload_n (pc := 29) (i := 0) d_X4_heldBehind_29 rfl rfl ?_
    refine Tr.getf (pc := 30) d_X4_heldBehind_30 f_4_9 (by decide) (by decide) (ty_35 hS.1.1) ?_
    refine Tr.tp 36 (fx_35_1 hS.1.1) ?_
    refine Tr.iload_n (pc := 33) (i := 1) d_X4_heldBehind_33 rfl rfl ?_
    refine Tr.iald (pc := 34) d_X4_heldBehind_34 (ty_36 hS.1.1) (by omega) (by omega) ?_
    refine Tr.tp r14 er14 ?_
    refine Tr.bipush (pc := 35) d_X4_heldBehind_35 rfl (by decide) ?_
    refine Tr.icmp_ne (pc := 37) (tgt := 53) d_X4_heldBehind_37 rfl (fun c37 => ?_) (fun c37 => ?_)
    · refine Tr.aload_n (pc := 53) (i := 0) d_X4_heldBehind_53 rfl rfl ?_
      refine Tr.getf (pc := 54) d_X4_heldBehind_54 f_4_42 (by decide) (by decide) (ty_35 hS.1.1) ?_
      refine Tr.tp 46 (fx_35_12 hS.1.1) ?_
      refine Tr.iload_n (pc := 57) (i := 1) d_X4_heldBehind_57 rfl rfl ?_
      refine Tr.iald (pc := 58) d_X4_heldBehind_58 (ty_46 hS.1.1) (by omega) (by omega) ?_
      refine Tr.gen (P := fun v => (-2147483648) ≤ v ∧ v ≤ 2147483647) (ar_46 hS.1.2.1 _) (fun r58 er58 br58 => ?_)
      exact Tr.iret (pc := 59) d_X4_heldBehind_59 rfl ⟨hS, _, rfl, by omega, by omega⟩
    · refine Tr.aload_n (pc := 40) (i := 0) d_X4_heldBehind_40 rfl rfl ?_
      refine Tr.getf (pc := 41) d_X4_heldBehind_41 f_4_42 (by decide) (by decide) (ty_35 hS.1.1) ?_
      refine Tr.tp 46 (fx_35_12 hS.1.1) ?_
      refine Tr.iload_n (pc := 44) (i := 1) d_X4_heldBehind_44 rfl rfl ?_
      refine Tr.iald (pc := 45) d_X4_heldBehind_45 (ty_46 hS.1.1) (by omega) (by omega) ?_
      refine Tr.gen (P := fun v => (-2147483648) ≤ v ∧ v ≤ 2147483647) (ar_46 hS.1.2.1 _) (fun r45 er45 br45 => ?_)
      refine Tr.iload_n (pc := 46) (i := 2) d_X4_heldBehind_46 rfl rfl ?_
      refine Tr.iconst (pc := 47) d_X4_heldBehind_47 (by decide) ?_
      refine Tr.ixor (pc := 48) d_X4_heldBehind_48 ?_
      refine Tr.gen (P := fun v => ((v < 0 ↔ ¬ (r7 < 0 ↔ (-1) < 0)) ∧ (-2147483648 ≤ v ∧ v ≤ 2147483647))) (f_ixor_s (by omega) (by omega)) (fun r48 er48 br48 => ?_)
      refine Tr.iand (pc := 49) d_X4_heldBehind_49 ?_
      refine Tr.gen (P := fun v => (-2147483648) ≤ v ∧ v ≤ 2147483647) (i32_b _) (fun r49 er49 br49 => ?_)
      refine Tr.goto (pc := 50) (tgt := 59) d_X4_heldBehind_50 rfl ?_
      exact Tr.iret (pc := 59) d_X4_heldBehind_59 rfl ⟨hS, _, rfl, by omega, by omega⟩
  · refine Tr.aload_n (pc := 20) (i := 0) d_X4_heldBehind_20 rfl rfl ?_
    refine Tr.getf (pc := 21) d_X4_heldBehind_21 f_4_42 (by decide) (by decide) (ty_35 hS.1.1) ?_
    refine Tr.tp 46 (fx_35_12 hS.1.1) ?_
    refine Tr.iload_n (pc := 24) (i := 1) d_X4_heldBehind_24 rfl rfl ?_
    refine Tr.iald (pc := 25) d_X4_heldBehind_25 (ty_46 hS.1.1) (by omega) (by omega) ?_
    refine Tr.gen (P := fun v => (-2147483648) ≤ v ∧ v ≤ 2147483647) (ar_46 hS.1.2.1 _) (fun r25 er25 br25 => ?_)
    refine Tr.iload_n (pc := 26) (i := 2) d_X4_heldBehind_26 rfl rfl ?_
    refine Tr.ior (pc := 27) d_X4_heldBehind_27 ?_
    refine Tr.gen (P := fun v => (-2147483648) ≤ v ∧ v ≤ 2147483647) (i32_b _) (fun r27 er27 br27 => ?_)
    exact Tr.iret (pc := 28) d_X4_heldBehind_28 rfl ⟨hS, _, rfl, by omega, by omega⟩

def ws_X4_heldAtEnd_35 : List (Int × Int) := []
def as_X4_heldAtEnd_35 : List Int := [46]
def q_X4_heldAtEnd_35 (M0 M' : Mem) (r : Option PV) : Prop := St Tru ws_X4_heldAtEnd_35 as_X4_heldAtEnd_35 M0 M' ∧ ∃ v : Int, r = some (0, v) ∧ (-2147483648) ≤ v ∧ v ≤ 2147483647
set_option maxRecDepth 100000 in
set_option maxHeartbeats 4000000 in
theorem sp_X4_heldAtEnd_35 {l : Launch} {K : EC} {M0 : Mem} (hI : In Tru M0)    : Tr l K 1 mX4_heldAtEnd 0 [(0, (2, 35))] [] M0 (q_X4_heldAtEnd_35 M0) := by
  have hS : St Tru ws_X4_heldAtEnd_35 as_X4_heldAtEnd_35 M0 M0 := St.rf hI
  refine Tr.aload_n (pc := 0) (i := 0) d_X4_heldAtEnd_0 rfl rfl ?_
  refine Tr.getf (pc := 1) d_X4_heldAtEnd_1 f_4_42 (by decide) (by decide) (ty_35 hS.1.1) ?_
  refine Tr.tp 46 (fx_35_12 hS.1.1) ?_
  refine Tr.iconst (pc := 4) d_X4_heldAtEnd_4 (by decide) ?_
  refine Tr.callS (pc := 5) (as := [_, _]) d_X4_heldAtEnd_5 s_4_58 ok_J7_fill_53178 rfl rfl (Nat.le_of_ble_eq_true rfl) (Nat.le_of_ble_eq_true rfl) ?_
  refine Tr.imp (sp_fill (N := 61) (ty_46 hS.1.1) (by decide)) ?_
  rintro _ _ ⟨rfl, rfl⟩
  refine Tr.nmA (P := St Tru ws_X4_heldAtEnd_35 as_X4_heldAtEnd_35 M0) (sf_46 (v := 0) 61 hS (by decide) (by omega) trivial) (fil_wa _ _ _ _) (fun M5 hS w5 => ?_)
  refine Tr.sc [] rfl ?_
  refine Tr.iconst (pc := 8) d_X4_heldAtEnd_8 (by decide) ?_
  refine Tr.istore_n (pc := 9) (i := 1) (ls2 := [(1, (0, 1)), (0, (2, 35))]) d_X4_heldAtEnd_9 rfl (by decide) rfl ?_
  refine Tr.iconst (pc := 10) d_X4_heldAtEnd_10 (by decide) ?_
  refine Tr.istore_n (pc := 11) (i := 2) (ls2 := [(2, (0, 0)), (1, (0, 1)), (0, (2, 35))]) d_X4_heldAtEnd_11 rfl (by decide) rfl ?_
  have J12 : ∀ (n12 : Nat) (M : Mem) (p12_1 p12_2 : Int), St Tru ws_X4_heldAtEnd_35 as_X4_heldAtEnd_35 M0 M → (0 ≤ p12_1 ∧ p12_1 ≤ 1) → (0 ≤ p12_2 ∧ p12_2 ≤ 400) → (400 - p12_2).toNat < n12 → Tr l K 1 mX4_heldAtEnd 12 [(0, (2, 35)), (1, (0, p12_1)), (2, (0, p12_2))] [] M (q_X4_heldAtEnd_35 M0) := by
    intro n12
    induction n12 with
    | zero => intro M p12_1 p12_2 hS bp12_1 bp12_2  hm12; exact absurd hm12 (Nat.not_lt_zero _)
    | succ n12 J12 =>
      intro M p12_1 p12_2 hS bp12_1 bp12_2  hm12
      refine Tr.iload_n (pc := 12) (i := 2) d_X4_heldAtEnd_12 rfl rfl ?_
      refine Tr.sipush (pc := 13) d_X4_heldAtEnd_13 rfl (by decide) ?_
      refine Tr.icmp_gt (pc := 16) (tgt := 102) d_X4_heldAtEnd_16 rfl (fun c16 => ?_) (fun c16 => ?_)
      · refine Tr.aload_n (pc := 102) (i := 0) d_X4_heldAtEnd_102 rfl rfl ?_
        refine Tr.getf (pc := 103) d_X4_heldAtEnd_103 f_4_42 (by decide) (by decide) (ty_35 hS.1.1) ?_
        refine Tr.tp 46 (fx_35_12 hS.1.1) ?_
        refine Tr.aload_n (pc := 106) (i := 0) d_X4_heldAtEnd_106 rfl rfl ?_
        refine Tr.getf (pc := 107) d_X4_heldAtEnd_107 f_4_45 (by decide) (by decide) (ty_35 hS.1.1) ?_
        refine Tr.gen (P := fun v => 0 ≤ v ∧ v ≤ 60) (ir_35_0 hS.1.2.1) (fun r107 er107 br107 => ?_)
        refine Tr.iald (pc := 110) d_X4_heldAtEnd_110 (ty_46 hS.1.1) (by omega) (by omega) ?_
        refine Tr.gen (P := fun v => (-2147483648) ≤ v ∧ v ≤ 2147483647) (ar_46 hS.1.2.1 _) (fun r110 er110 br110 => ?_)
        exact Tr.iret (pc := 111) d_X4_heldAtEnd_111 rfl ⟨hS, _, rfl, by omega, by omega⟩
      · refine Tr.iload_n (pc := 19) (i := 1) d_X4_heldAtEnd_19 rfl rfl ?_
        refine Tr.if_eq (pc := 20) (tgt := 102) d_X4_heldAtEnd_20 rfl (fun c20 => ?_) (fun c20 => ?_)
        · refine Tr.aload_n (pc := 102) (i := 0) d_X4_heldAtEnd_102 rfl rfl ?_
          refine Tr.getf (pc := 103) d_X4_heldAtEnd_103 f_4_42 (by decide) (by decide) (ty_35 hS.1.1) ?_
          refine Tr.tp 46 (fx_35_12 hS.1.1) ?_
          refine Tr.aload_n (pc := 106) (i := 0) d_X4_heldAtEnd_106 rfl rfl ?_
          refine Tr.getf (pc := 107) d_X4_heldAtEnd_107 f_4_45 (by decide) (by decide) (ty_35 hS.1.1) ?_
          refine Tr.gen (P := fun v => 0 ≤ v ∧ v ≤ 60) (ir_35_0 hS.1.2.1) (fun r107 er107 br107 => ?_)
          refine Tr.iald (pc := 110) d_X4_heldAtEnd_110 (ty_46 hS.1.1) (by omega) (by omega) ?_
          refine Tr.gen (P := fun v => (-2147483648) ≤ v ∧ v ≤ 2147483647) (ar_46 hS.1.2.1 _) (fun r110 er110 br110 => ?_)
          exact Tr.iret (pc := 111) d_X4_heldAtEnd_111 rfl ⟨hS, _, rfl, by omega, by omega⟩
        · refine Tr.iconst (pc := 23) d_X4_heldAtEnd_23 (by decide) ?_
          refine Tr.istore_n (pc := 24) (i := 1) (ls2 := [(1, (0, 0)), (0, (2, 35)), (2, (0, p12_2))]) d_X4_heldAtEnd_24 rfl (by decide) rfl ?_
          refine Tr.iconst (pc := 25) d_X4_heldAtEnd_25 (by decide) ?_
          refine Tr.istore_n (pc := 26) (i := 3) (ls2 := [(3, (0, 0)), (1, (0, 0)), (0, (2, 35)), (2, (0, p12_2))]) d_X4_heldAtEnd_26 rfl (by decide) rfl ?_
          have J27 : ∀ (n27 : Nat) (M : Mem) (p27_1 p27_3 : Int), St Tru ws_X4_heldAtEnd_35 as_X4_heldAtEnd_35 M0 M → (0 ≤ p27_1 ∧ p27_1 ≤ 1) → (0 ≤ p27_3 ∧ p27_3 ≤ 60) → (0 ≤ p12_2 ∧ p12_2 ≤ 399) → (60 - p27_3).toNat < n27 → Tr l K 1 mX4_heldAtEnd 27 [(0, (2, 35)), (1, (0, p27_1)), (2, (0, p12_2)), (3, (0, p27_3))] [] M (q_X4_heldAtEnd_35 M0) := by
            intro n27
            induction n27 with
            | zero => intro M p27_1 p27_3 hS bp27_1 bp27_3 z27p12_2  hm27; exact absurd hm27 (Nat.not_lt_zero _)
            | succ n27 J27 =>
              intro M p27_1 p27_3 hS bp27_1 bp27_3 z27p12_2  hm27
              refine Tr.iload_n (pc := 27) (i := 3) d_X4_heldAtEnd_27 rfl rfl ?_
              refine Tr.aload_n (pc := 28) (i := 0) d_X4_heldAtEnd_28 rfl rfl ?_
              refine Tr.getf (pc := 29) d_X4_heldAtEnd_29 f_4_45 (by decide) (by decide) (ty_35 hS.1.1) ?_
              refine Tr.gen (P := fun v => 0 ≤ v ∧ v ≤ 60) (ir_35_0 hS.1.2.1) (fun r29 er29 br29 => ?_)
              refine Tr.icmp_ge (pc := 32) (tgt := 96) d_X4_heldAtEnd_32 rfl (fun c32 => ?_) (fun c32 => ?_)
              · refine Tr.iincV (pc := 96) (n2 := (p12_2 + 1)) (ls2 := [(2, (0, (p12_2 + 1))), (0, (2, 35)), (1, (0, p27_1)), (3, (0, p27_3))]) d_X4_heldAtEnd_96 rfl (by decide) ((w32_id (by omega)).trans (by omega)) rfl ?_
                refine Tr.goto (pc := 99) (tgt := 12) d_X4_heldAtEnd_99 rfl ?_
                refine Tr.pick [1, 2, 0] (ls2 := [(0, (2, 35)), (1, (0, p27_1)), (2, (0, (p12_2 + 1)))]) rfl ?_
                exact J12 _ _ _ hS (by omega) (by omega) (by omega)
              · refine Tr.aload_n (pc := 35) (i := 0) d_X4_heldAtEnd_35 rfl rfl ?_
                refine Tr.iload_n (pc := 36) (i := 3) d_X4_heldAtEnd_36 rfl rfl ?_
                refine Tr.callV (pc := 37) (as := [_]) d_X4_heldAtEnd_37 s_4_64 ok_X4_heldBehind rfl rfl (Nat.le_of_ble_eq_true rfl) (Nat.le_of_ble_eq_true rfl) (by decide) (ty_35 hS.1.1) ?_
                refine Tr.imp (Tr.deep (by decide) (sp_X4_heldBehind_35_w13 hS.1 p27_3 (by omega))) ?_
                rintro M37 _ ⟨h37, r37, rfl, lr37, ur37⟩
                have hS := St.tr hS h37 (by decide) (by decide)
                refine Tr.sc [(0, r37)] rfl ?_
                refine Tr.istore (pc := 40) (i := 4) (ls2 := [(4, (0, r37)), (0, (2, 35)), (1, (0, p27_1)), (2, (0, p12_2)), (3, (0, p27_3))]) d_X4_heldAtEnd_40 (by decide) rfl ?_
                refine Tr.aload_n (pc := 42) (i := 0) d_X4_heldAtEnd_42 rfl rfl ?_
                refine Tr.aload_n (pc := 43) (i := 0) d_X4_heldAtEnd_43 rfl rfl ?_
                refine Tr.getf (pc := 44) d_X4_heldAtEnd_44 f_4_21 (by decide) (by decide) (ty_35 hS.1.1) ?_
                refine Tr.tp 39 (fx_35_4 hS.1.1) ?_
                refine Tr.iload_n (pc := 47) (i := 3) d_X4_heldAtEnd_47 rfl rfl ?_
                refine Tr.iald (pc := 48) d_X4_heldAtEnd_48 (ty_39 hS.1.1) (by omega) (by omega) ?_
                refine Tr.gen (P := fun v => (-2147483648) ≤ v ∧ v ≤ 2147483647) (ar_39 hS.1.2.1 _) (fun r48 er48 br48 => ?_)
                refine Tr.iload (pc := 49) (i := 4) d_X4_heldAtEnd_49 rfl ?_
                refine Tr.callV (pc := 51) (as := [_, _]) d_X4_heldAtEnd_51 s_4_67 ok_X4_spread rfl rfl (Nat.le_of_ble_eq_true rfl) (Nat.le_of_ble_eq_true rfl) (by decide) (ty_35 hS.1.1) ?_
                refine Tr.imp (Tr.deep (by decide) (sp_X4_spread_35 hS.1 r48 (by omega) r37 (by omega))) ?_
                rintro M51 _ ⟨h51, r51, rfl, lr51, ur51⟩
                have hS := St.tr hS h51 (by decide) (by decide)
                refine Tr.sc [(0, r51)] rfl ?_
                refine Tr.istore (pc := 54) (i := 5) (ls2 := [(5, (0, r51)), (4, (0, r37)), (0, (2, 35)), (1, (0, p27_1)), (2, (0, p12_2)), (3, (0, p27_3))]) d_X4_heldAtEnd_54 (by decide) rfl ?_
                refine Tr.aload_n (pc := 56) (i := 0) d_X4_heldAtEnd_56 rfl rfl ?_
                refine Tr.aload_n (pc := 57) (i := 0) d_X4_heldAtEnd_57 rfl rfl ?_
                refine Tr.getf (pc := 58) d_X4_heldAtEnd_58 f_4_24 (by decide) (by decide) (ty_35 hS.1.1) ?_
                refine Tr.tp 40 (fx_35_5 hS.1.1) ?_
                refine Tr.iload_n (pc := 61) (i := 3) d_X4_heldAtEnd_61 rfl rfl ?_
                refine Tr.iald (pc := 62) d_X4_heldAtEnd_62 (ty_40 hS.1.1) (by omega) (by omega) ?_
                refine Tr.gen (P := fun v => (-2147483648) ≤ v ∧ v ≤ 2147483647) (ar_40 hS.1.2.1 _) (fun r62 er62 br62 => ?_)
                refine Tr.iload (pc := 63) (i := 4) d_X4_heldAtEnd_63 rfl ?_
                refine Tr.callV (pc := 65) (as := [_, _]) d_X4_heldAtEnd_65 s_4_67 ok_X4_spread rfl rfl (Nat.le_of_ble_eq_true rfl) (Nat.le_of_ble_eq_true rfl) (by decide) (ty_35 hS.1.1) ?_
                refine Tr.imp (Tr.deep (by decide) (sp_X4_spread_35 hS.1 r62 (by omega) r37 (by omega))) ?_
                rintro M65 _ ⟨h65, r65, rfl, lr65, ur65⟩
                have hS := St.tr hS h65 (by decide) (by decide)
                refine Tr.sc [(0, r65)] rfl ?_
                refine Tr.istore (pc := 68) (i := 6) (ls2 := [(6, (0, r65)), (5, (0, r51)), (4, (0, r37)), (0, (2, 35)), (1, (0, p27_1)), (2, (0, p12_2)), (3, (0, p27_3))]) d_X4_heldAtEnd_68 (by decide) rfl ?_
                refine Tr.iload_n (pc := 70) (i := 1) d_X4_heldAtEnd_70 rfl rfl ?_
                have J89 : ∀ (M : Mem) (q89_0 : Int), St Tru ws_X4_heldAtEnd_35 as_X4_heldAtEnd_35 M0 M → (0 ≤ q89_0 ∧ q89_0 ≤ 1) → rd M 35 0 = r29 → rd M 39 p27_3 = r48 → rd M 40 p27_3 = r62 → Tr l K 1 mX4_heldAtEnd 89 [(0, (2, 35)), (2, (0, p12_2)), (3, (0, p27_3))] [(0, q89_0)] M (q_X4_heldAtEnd_35 M0) := by
                  intro M q89_0 hS bq89_0 k89_35_0 k89_39_p27_310 k89_40_p27_310
                  refine Tr.istore_n (pc := 89) (i := 1) (ls2 := [(1, (0, q89_0)), (0, (2, 35)), (2, (0, p12_2)), (3, (0, p27_3))]) d_X4_heldAtEnd_89 rfl (by decide) rfl ?_
                  refine Tr.iincV (pc := 90) (n2 := (p27_3 + 1)) (ls2 := [(3, (0, (p27_3 + 1))), (1, (0, q89_0)), (0, (2, 35)), (2, (0, p12_2))]) d_X4_heldAtEnd_90 rfl (by decide) ((w32_id (by omega)).trans (by omega)) rfl ?_
                  refine Tr.goto (pc := 93) (tgt := 27) d_X4_heldAtEnd_93 rfl ?_
                  refine Tr.pick [2, 1, 3, 0] (ls2 := [(0, (2, 35)), (1, (0, q89_0)), (2, (0, p12_2)), (3, (0, (p27_3 + 1)))]) rfl ?_
                  exact J27 _ _ _ hS (by omega) (by omega) (by omega) (by omega)
                have J84 : ∀ (M : Mem), St Tru ws_X4_heldAtEnd_35 as_X4_heldAtEnd_35 M0 M → rd M 35 0 = r29 → rd M 39 p27_3 = r48 → rd M 40 p27_3 = r62 → Tr l K 1 mX4_heldAtEnd 84 [(0, (2, 35)), (2, (0, p12_2)), (3, (0, p27_3))] [] M (q_X4_heldAtEnd_35 M0) := by
                  intro M  hS  k84_35_0 k84_39_p27_310 k84_40_p27_310
                  refine Tr.iconst (pc := 84) d_X4_heldAtEnd_84 (by decide) ?_
                  refine Tr.goto (pc := 85) (tgt := 89) d_X4_heldAtEnd_85 rfl ?_
                  refine Tr.pick [0, 1, 2] (ls2 := [(0, (2, 35)), (2, (0, p12_2)), (3, (0, p27_3))]) rfl ?_
                  exact J89 _ _ hS (by omega) k84_35_0 k84_39_p27_310 k84_40_p27_310
                refine Tr.if_ne (pc := 71) (tgt := 84) d_X4_heldAtEnd_71 rfl (fun c71 => ?_) (fun c71 => ?_)
                · refine Tr.pick [3, 5, 6] (ls2 := [(0, (2, 35)), (2, (0, p12_2)), (3, (0, p27_3))]) rfl ?_
                  exact J84 _ hS ((St.kp h65 (by decide) (by decide) (by decide)).trans ((St.kp h51 (by decide) (by decide) (by decide)).trans ((St.kp h37 (by decide) (by decide) (by decide)).trans er29))) ((St.ka h65 (by decide) (by decide) (by decide)).trans ((St.ka h51 (by decide) (by decide) (by decide)).trans er48)) ((St.ka h65 (by decide) (by decide) (by decide)).trans er62)
                · refine Tr.iload (pc := 74) (i := 5) d_X4_heldAtEnd_74 rfl ?_
                  refine Tr.if_ne (pc := 76) (tgt := 84) d_X4_heldAtEnd_76 rfl (fun c76 => ?_) (fun c76 => ?_)
                  · refine Tr.pick [3, 5, 6] (ls2 := [(0, (2, 35)), (2, (0, p12_2)), (3, (0, p27_3))]) rfl ?_
                    exact J84 _ hS ((St.kp h65 (by decide) (by decide) (by decide)).trans ((St.kp h51 (by decide) (by decide) (by decide)).trans ((St.kp h37 (by decide) (by decide) (by decide)).trans er29))) ((St.ka h65 (by decide) (by decide) (by decide)).trans ((St.ka h51 (by decide) (by decide) (by decide)).trans er48)) ((St.ka h65 (by decide) (by decide) (by decide)).trans er62)
                  · refine Tr.iload (pc := 79) (i := 6) d_X4_heldAtEnd_79 rfl ?_
                    refine Tr.if_eq (pc := 81) (tgt := 88) d_X4_heldAtEnd_81 rfl (fun c81 => ?_) (fun c81 => ?_)
                    · refine Tr.iconst (pc := 88) d_X4_heldAtEnd_88 (by decide) ?_
                      refine Tr.pick [3, 5, 6] (ls2 := [(0, (2, 35)), (2, (0, p12_2)), (3, (0, p27_3))]) rfl ?_
                      exact J89 _ _ hS (by omega) ((St.kp h65 (by decide) (by decide) (by decide)).trans ((St.kp h51 (by decide) (by decide) (by decide)).trans ((St.kp h37 (by decide) (by decide) (by decide)).trans er29))) ((St.ka h65 (by decide) (by decide) (by decide)).trans ((St.ka h51 (by decide) (by decide) (by decide)).trans er48)) ((St.ka h65 (by decide) (by decide) (by decide)).trans er62)
                    · refine Tr.pick [3, 5, 6] (ls2 := [(0, (2, 35)), (2, (0, p12_2)), (3, (0, p27_3))]) rfl ?_
                      exact J84 _ hS ((St.kp h65 (by decide) (by decide) (by decide)).trans ((St.kp h51 (by decide) (by decide) (by decide)).trans ((St.kp h37 (by decide) (by decide) (by decide)).trans er29))) ((St.ka h65 (by decide) (by decide) (by decide)).trans ((St.ka h51 (by decide) (by decide) (by decide)).trans er48)) ((St.ka h65 (by decide) (by decide) (by decide)).trans er62)
          refine Tr.pick [2, 1, 3, 0] (ls2 := [(0, (2, 35)), (1, (0, 0)), (2, (0, p12_2)), (3, (0, 0))]) rfl ?_
          exact J27 _ _ _ _ hS (by omega) (by omega) (by omega) (Nat.lt_succ_self _)
  refine Tr.pick [2, 1, 0] (ls2 := [(0, (2, 35)), (1, (0, 1)), (2, (0, 0))]) rfl ?_
  exact J12 _ _ _ _ hS (by omega) (by omega) (Nat.lt_succ_self _)

def ws_X11_never_0_w1 : List (Int × Int) := []
def as_X11_never_0_w1 : List Int := [46]
def q_X11_never_0_w1 (M0 M' : Mem) (r : Option PV) : Prop := St Tru ws_X11_never_0_w1 as_X11_never_0_w1 M0 M' ∧ ∃ v : Int, r = some (0, v) ∧ (-2147483648) ≤ v ∧ v ≤ 2147483647
set_option maxRecDepth 100000 in
set_option maxHeartbeats 4000000 in
theorem sp_X11_never_0_w1 {l : Launch} {K : EC} {M0 : Mem} (hI : In Tru M0) (en_0_4 : rd M0 0 4 = 27)   : Tr l K 2 mX11_never 0 [(0, (2, 0))] [] M0 (q_X11_never_0_w1 M0) := by
  have hS : St Tru ws_X11_never_0_w1 as_X11_never_0_w1 M0 M0 := St.rf hI
  refine Tr.aload_n (pc := 0) (i := 0) d_X11_never_0 rfl rfl ?_
  refine Tr.getf (pc := 1) d_X11_never_1 f_11_30 (by decide) (by decide) (ty_0 hS.1.1) ?_
  refine Tr.tp 27 ((St.kp hS (by decide) (by decide) (by decide)).trans en_0_4) ?_
  refine Tr.getf (pc := 4) d_X11_never_4 f_11_115 (by decide) (by decide) (ty_27 hS.1.1) ?_
  refine Tr.tp 35 (fx_27_11 hS.1.1) ?_
  refine Tr.callV (pc := 7) (as := []) d_X11_never_7 s_11_307 ok_X4_heldAtEnd rfl rfl (Nat.le_of_ble_eq_true rfl) (Nat.le_of_ble_eq_true rfl) (by decide) (ty_35 hS.1.1) ?_
  refine Tr.imp (Tr.deep (by decide) (sp_X4_heldAtEnd_35 hS.1 )) ?_
  rintro M7 _ ⟨h7, r7, rfl, lr7, ur7⟩
  have hS := St.tr hS h7 (by decide) (by decide)
  refine Tr.sc [(0, r7)] rfl ?_
  exact Tr.iret (pc := 10) d_X11_never_10 rfl ⟨hS, _, rfl, by omega, by omega⟩

def ws_X3_sleepOfAll_27 : List (Int × Int) := []
def as_X3_sleepOfAll_27 : List Int := []
def q_X3_sleepOfAll_27 (M0 M' : Mem) (r : Option PV) : Prop := St Tru ws_X3_sleepOfAll_27 as_X3_sleepOfAll_27 M0 M' ∧ ∃ v : Int, r = some (0, v) ∧ (-2147483648) ≤ v ∧ v ≤ 2147483647
set_option maxRecDepth 100000 in
set_option maxHeartbeats 4000000 in
theorem sp_X3_sleepOfAll_27 {l : Launch} {K : EC} {M0 : Mem} (hI : In Tru M0)    : Tr l K 0 mX3_sleepOfAll 0 [(0, (2, 27))] [] M0 (q_X3_sleepOfAll_27 M0) := by
  have hS : St Tru ws_X3_sleepOfAll_27 as_X3_sleepOfAll_27 M0 M0 := St.rf hI
  refine Tr.iconst (pc := 0) d_X3_sleepOfAll_0 (by decide) ?_
  refine Tr.istore_n (pc := 1) (i := 1) (ls2 := [(1, (0, 0)), (0, (2, 27))]) d_X3_sleepOfAll_1 rfl (by decide) rfl ?_
  refine Tr.iconst (pc := 2) d_X3_sleepOfAll_2 (by decide) ?_
  refine Tr.istore_n (pc := 3) (i := 2) (ls2 := [(2, (0, 0)), (1, (0, 0)), (0, (2, 27))]) d_X3_sleepOfAll_3 rfl (by decide) rfl ?_
  have J4 : ∀ (n4 : Nat) (M : Mem) (p4_1 p4_2 : Int), St Tru ws_X3_sleepOfAll_27 as_X3_sleepOfAll_27 M0 M → ((-2147483648) ≤ p4_1 ∧ p4_1 ≤ 2147483647) → (0 ≤ p4_2 ∧ p4_2 ≤ 6) → (6 - p4_2).toNat < n4 → Tr l K 0 mX3_sleepOfAll 4 [(0, (2, 27)), (1, (0, p4_1)), (2, (0, p4_2))] [] M (q_X3_sleepOfAll_27 M0) := by
    intro n4
    induction n4 with
    | zero => intro M p4_1 p4_2 hS bp4_1 bp4_2  hm4; exact absurd hm4 (Nat.not_lt_zero _)
    | succ n4 J4 =>
      intro M p4_1 p4_2 hS bp4_1 bp4_2  hm4
      refine Tr.iload_n (pc := 4) (i := 2) d_X3_sleepOfAll_4 rfl rfl ?_
      refine Tr.aload_n (pc := 5) (i := 0) d_X3_sleepOfAll_5 rfl rfl ?_
      refine Tr.getf (pc := 6) d_X3_sleepOfAll_6 f_3_11 (by decide) (by decide) (ty_27 hS.1.1) ?_
      refine Tr.tp 28 (fx_27_4 hS.1.1) ?_
      refine Tr.iconst (pc := 9) d_X3_sleepOfAll_9 (by decide) ?_
      refine Tr.iald (pc := 10) d_X3_sleepOfAll_10 (ty_28 hS.1.1) (by omega) (by omega) ?_
      refine Tr.gen (P := fun v => 0 ≤ v ∧ v ≤ 6) (ir_28_0 hS.1.2.1) (fun r10 er10 br10 => ?_)
      refine Tr.icmp_ge (pc := 11) (tgt := 33) d_X3_sleepOfAll_11 rfl (fun c11 => ?_) (fun c11 => ?_)
      · refine Tr.iload_n (pc := 33) (i := 1) d_X3_sleepOfAll_33 rfl rfl ?_
        exact Tr.iret (pc := 34) d_X3_sleepOfAll_34 rfl ⟨hS, _, rfl, by omega, by omega⟩
      · refine Tr.iload_n (pc := 14) (i := 1) d_X3_sleepOfAll_14 rfl rfl ?_
        refine Tr.aload_n (pc := 15) (i := 0) d_X3_sleepOfAll_15 rfl rfl ?_
        refine Tr.getf (pc := 16) d_X3_sleepOfAll_16 f_3_15 (by decide) (by decide) (ty_27 hS.1.1) ?_
        refine Tr.tp 29 (fx_27_5 hS.1.1) ?_
        refine Tr.iload_n (pc := 19) (i := 2) d_X3_sleepOfAll_19 rfl rfl ?_
        refine Tr.iconst (pc := 20) d_X3_sleepOfAll_20 (by decide) ?_
        refine Tr.imul (pc := 21) d_X3_sleepOfAll_21 ?_
        refine Tr.tp (4 * p4_2) ((w32_id (by omega)).trans (by omega)) ?_
        refine Tr.iconst (pc := 22) d_X3_sleepOfAll_22 (by decide) ?_
        refine Tr.iadd (pc := 23) d_X3_sleepOfAll_23 ?_
        refine Tr.tp (4 * p4_2) ((w32_id (by omega)).trans (by omega)) ?_
        refine Tr.iald (pc := 24) d_X3_sleepOfAll_24 (ty_29 hS.1.1) (by omega) (by omega) ?_
        refine Tr.gen (P := fun v => (-1) ≤ v ∧ v ≤ 999) (ar_29 hS.1.2.1 _) (fun r24 er24 br24 => ?_)
        refine Tr.iadd (pc := 25) d_X3_sleepOfAll_25 ?_
        refine Tr.gen (P := fun v => (-2147483648) ≤ v ∧ v ≤ 2147483647) (w32_b _) (fun r25 er25 br25 => ?_)
        refine Tr.istore_n (pc := 26) (i := 1) (ls2 := [(1, (0, r25)), (0, (2, 27)), (2, (0, p4_2))]) d_X3_sleepOfAll_26 rfl (by decide) rfl ?_
        refine Tr.iincV (pc := 27) (n2 := (p4_2 + 1)) (ls2 := [(2, (0, (p4_2 + 1))), (1, (0, r25)), (0, (2, 27))]) d_X3_sleepOfAll_27 rfl (by decide) ((w32_id (by omega)).trans (by omega)) rfl ?_
        refine Tr.goto (pc := 30) (tgt := 4) d_X3_sleepOfAll_30 rfl ?_
        refine Tr.pick [2, 1, 0] (ls2 := [(0, (2, 27)), (1, (0, r25)), (2, (0, (p4_2 + 1)))]) rfl ?_
        exact J4 _ _ _ hS (by omega) (by omega) (by omega)
  refine Tr.pick [2, 1, 0] (ls2 := [(0, (2, 27)), (1, (0, 0)), (2, (0, 0))]) rfl ?_
  exact J4 _ _ _ _ hS (by omega) (by omega) (Nat.lt_succ_self _)

def ws_X11_lasts_0_w2 : List (Int × Int) := []
def as_X11_lasts_0_w2 : List Int := []
def q_X11_lasts_0_w2 (M0 M' : Mem) (r : Option PV) : Prop := St Tru ws_X11_lasts_0_w2 as_X11_lasts_0_w2 M0 M' ∧ ∃ v : Int, r = some (0, v) ∧ (-2147483648) ≤ v ∧ v ≤ 2147483647
set_option maxRecDepth 100000 in
set_option maxHeartbeats 4000000 in
theorem sp_X11_lasts_0_w2 {l : Launch} {K : EC} {M0 : Mem} (hI : In Tru M0) (en_0_4 : rd M0 0 4 = 27) (en_0_9 : rd M0 0 9 = 1) (a1 : Int) (ha1 : (-2147483648) ≤ a1 ∧ a1 ≤ 2147483647) (a2 : Int) (ha2 : (-2147483648) ≤ a2 ∧ a2 ≤ 2147483647) (a3 : Int) (ha3 : (-2147483648) ≤ a3 ∧ a3 ≤ 2147483647)  : Tr l K 1 mX11_lasts 0 [(0, (2, 0)), (1, (0, a1)), (2, (0, a2)), (3, (0, a3))] [] M0 (q_X11_lasts_0_w2 M0) := by
  have hS : St Tru ws_X11_lasts_0_w2 as_X11_lasts_0_w2 M0 M0 := St.rf hI
  refine Tr.aload_n (pc := 0) (i := 0) d_X11_lasts_0 rfl rfl ?_
  refine Tr.getz (pc := 1) d_X11_lasts_1 f_11_109 (by decide) (ty_0 hS.1.1) ?_
  refine Tr.tp 1 ((St.kp hS (by decide) (by decide) (by decide)).trans en_0_9) ?_
  refine Tr.if_eq (pc := 4) (tgt := 18) d_X11_lasts_4 rfl (fun hc => absurd hc (by omega)) (fun _ => ?_)
  refine Tr.iload_n (pc := 7) (i := 1) d_X11_lasts_7 rfl rfl ?_
  refine Tr.if_lt (pc := 8) (tgt := 18) d_X11_lasts_8 rfl (fun c8 => ?_) (fun c8 => ?_)
  · refine Tr.iconst (pc := 18) d_X11_lasts_18 (by decide) ?_
    exact Tr.iret (pc := 19) d_X11_lasts_19 rfl ⟨hS, _, rfl, by omega, by omega⟩
  · refine Tr.iload_n (pc := 11) (i := 1) d_X11_lasts_11 rfl rfl ?_
    refine Tr.ldcw (pc := 12) d_X11_lasts_12 k_11_310 (by decide) ?_
    refine Tr.icmp_le (pc := 15) (tgt := 20) d_X11_lasts_15 rfl (fun c15 => ?_) (fun c15 => ?_)
    · refine Tr.iload_n (pc := 20) (i := 2) d_X11_lasts_20 rfl rfl ?_
      refine Tr.if_lt (pc := 21) (tgt := 42) d_X11_lasts_21 rfl (fun c21 => ?_) (fun c21 => ?_)
      · refine Tr.iconst (pc := 42) d_X11_lasts_42 (by decide) ?_
        exact Tr.iret (pc := 43) d_X11_lasts_43 rfl ⟨hS, _, rfl, by omega, by omega⟩
      · refine Tr.iload_n (pc := 24) (i := 2) d_X11_lasts_24 rfl rfl ?_
        refine Tr.sipush (pc := 25) d_X11_lasts_25 rfl (by decide) ?_
        refine Tr.icmp_gt (pc := 28) (tgt := 42) d_X11_lasts_28 rfl (fun c28 => ?_) (fun c28 => ?_)
        · refine Tr.iconst (pc := 42) d_X11_lasts_42 (by decide) ?_
          exact Tr.iret (pc := 43) d_X11_lasts_43 rfl ⟨hS, _, rfl, by omega, by omega⟩
        · refine Tr.iload_n (pc := 31) (i := 3) d_X11_lasts_31 rfl rfl ?_
          refine Tr.if_lt (pc := 32) (tgt := 42) d_X11_lasts_32 rfl (fun c32 => ?_) (fun c32 => ?_)
          · refine Tr.iconst (pc := 42) d_X11_lasts_42 (by decide) ?_
            exact Tr.iret (pc := 43) d_X11_lasts_43 rfl ⟨hS, _, rfl, by omega, by omega⟩
          · refine Tr.iload_n (pc := 35) (i := 3) d_X11_lasts_35 rfl rfl ?_
            refine Tr.ldcw (pc := 36) d_X11_lasts_36 k_11_311 (by decide) ?_
            refine Tr.icmp_le (pc := 39) (tgt := 44) d_X11_lasts_39 rfl (fun c39 => ?_) (fun c39 => ?_)
            · refine Tr.iload_n (pc := 44) (i := 2) d_X11_lasts_44 rfl rfl ?_
              refine Tr.i2l (pc := 45) d_X11_lasts_45 ?_
              refine Tr.aload_n (pc := 46) (i := 0) d_X11_lasts_46 rfl rfl ?_
              refine Tr.getf (pc := 47) d_X11_lasts_47 f_11_46 (by decide) (by decide) (ty_0 hS.1.1) ?_
              refine Tr.tp 48 (fx_0_7 hS.1.1) ?_
              refine Tr.getf (pc := 50) d_X11_lasts_50 f_11_155 (by decide) (by decide) (ty_48 hS.1.1) ?_
              refine Tr.gen (P := fun v => (-2147483648) ≤ v ∧ v ≤ 2147483647) (ir_48_10 hS.1.2.1) (fun r50 er50 br50 => ?_)
              refine Tr.i2l (pc := 53) d_X11_lasts_53 ?_
              refine Tr.lmul (pc := 54) d_X11_lasts_54 ?_
              refine Tr.gen (P := fun v => (-9223372036854775808) ≤ v ∧ v ≤ 9223372036854775807) (w64_b _) (fun r54 er54 br54 => ?_)
              refine Tr.iload_n (pc := 55) (i := 3) d_X11_lasts_55 rfl rfl ?_
              refine Tr.i2l (pc := 56) d_X11_lasts_56 ?_
              refine Tr.aload_n (pc := 57) (i := 0) d_X11_lasts_57 rfl rfl ?_
              refine Tr.getf (pc := 58) d_X11_lasts_58 f_11_30 (by decide) (by decide) (ty_0 hS.1.1) ?_
              refine Tr.tp 27 ((St.kp hS (by decide) (by decide) (by decide)).trans en_0_4) ?_
              refine Tr.callV (pc := 61) (as := []) d_X11_lasts_61 s_11_312 ok_X3_sleepOfAll rfl rfl (Nat.le_of_ble_eq_true rfl) (Nat.le_of_ble_eq_true rfl) (by decide) (ty_27 hS.1.1) ?_
              refine Tr.imp (Tr.deep (by decide) (sp_X3_sleepOfAll_27 hS.1 )) ?_
              rintro M61 _ ⟨h61, r61, rfl, lr61, ur61⟩
              have hS := St.tr hS h61 (by decide) (by decide)
              refine Tr.sc [(0, r61), (1, a3), (1, r54)] rfl ?_
              refine Tr.i2l (pc := 64) d_X11_lasts_64 ?_
              refine Tr.lmul (pc := 65) d_X11_lasts_65 ?_
              refine Tr.gen (P := fun v => (-9223372036854775808) ≤ v ∧ v ≤ 9223372036854775807) (w64_b _) (fun r65 er65 br65 => ?_)
              refine Tr.ladd (pc := 66) d_X11_lasts_66 ?_
              refine Tr.gen (P := fun v => (-9223372036854775808) ≤ v ∧ v ≤ 9223372036854775807) (w64_b _) (fun r66 er66 br66 => ?_)
              refine Tr.lstore (pc := 67) (i := 4) (ls2 := [(4, (1, r66)), (0, (2, 0)), (1, (0, a1)), (2, (0, a2)), (3, (0, a3))]) d_X11_lasts_67 (by decide) rfl ?_
              refine Tr.lload (pc := 69) (i := 4) d_X11_lasts_69 rfl ?_
              refine Tr.lconst (pc := 71) (v := 0) d_X11_lasts_71 rfl (by decide) ?_
              refine Tr.lcmp (pc := 72) d_X11_lasts_72 ?_
              refine Tr.gen (P := fun v => (v = 1 ∧ 0 < r66) ∨ (v = 0 ∧ r66 = 0) ∨ (v = -1 ∧ r66 < 0)) (f_lcmp_c _ _) (fun r72 er72 br72 => ?_)
              refine Tr.if_gt (pc := 73) (tgt := 80) d_X11_lasts_73 rfl (fun c73 => ?_) (fun c73 => ?_)
              · refine Tr.iload_n (pc := 80) (i := 1) d_X11_lasts_80 rfl rfl ?_
                refine Tr.i2l (pc := 81) d_X11_lasts_81 ?_
                refine Tr.lload (pc := 82) (i := 4) d_X11_lasts_82 rfl ?_
                refine Tr.ldiv (pc := 84) d_X11_lasts_84 (by omega) ?_
                refine Tr.gen (P := fun v => (-9223372036854775808) ≤ v ∧ v ≤ 9223372036854775807) (w64_b _) (fun r84 er84 br84 => ?_)
                refine Tr.l2i (pc := 85) d_X11_lasts_85 ?_
                refine Tr.gen (P := fun v => (-2147483648) ≤ v ∧ v ≤ 2147483647) (w32_b _) (fun r85 er85 br85 => ?_)
                exact Tr.iret (pc := 86) d_X11_lasts_86 rfl ⟨hS, _, rfl, by omega, by omega⟩
              · refine Tr.iconst (pc := 76) d_X11_lasts_76 (by decide) ?_
                refine Tr.goto (pc := 77) (tgt := 86) d_X11_lasts_77 rfl ?_
                exact Tr.iret (pc := 86) d_X11_lasts_86 rfl ⟨hS, _, rfl, by omega, by omega⟩
            · refine Tr.iconst (pc := 42) d_X11_lasts_42 (by decide) ?_
              exact Tr.iret (pc := 43) d_X11_lasts_43 rfl ⟨hS, _, rfl, by omega, by omega⟩
    · refine Tr.iconst (pc := 18) d_X11_lasts_18 (by decide) ?_
      exact Tr.iret (pc := 19) d_X11_lasts_19 rfl ⟨hS, _, rfl, by omega, by omega⟩

def ws_X1_begin_82_27 : List (Int × Int) := [(82, 1)]
def as_X1_begin_82_27 : List Int := [83]
def q_X1_begin_82_27 (M0 M' : Mem) (r : Option PV) : Prop := St Tru ws_X1_begin_82_27 as_X1_begin_82_27 M0 M' ∧ rd M' 82 1 = 27 ∧ r = none
set_option maxRecDepth 100000 in
set_option maxHeartbeats 4000000 in
theorem sp_X1_begin_82_27 {l : Launch} {K : EC} {M0 : Mem} (hI : In Tru M0)    : Tr l K 1 mX1_begin 0 [(0, (2, 82)), (1, (2, 27))] [] M0 (q_X1_begin_82_27 M0) := by
  have hS : St Tru ws_X1_begin_82_27 as_X1_begin_82_27 M0 M0 := St.rf hI
  refine Tr.aload_n (pc := 0) (i := 0) d_X1_begin_0 rfl rfl ?_
  refine Tr.aload_n (pc := 1) (i := 1) d_X1_begin_1 rfl rfl ?_
  refine Tr.putfS (pc := 2) (P := St Tru ws_X1_begin_82_27 as_X1_begin_82_27 M0) d_X1_begin_2 f_1_41 (by decide) (by decide) (ty_82 hS.1.1) (st_82_1 hS (by decide) (by omega) trivial) (fun M2 hS w2 => ?_)
  refine Tr.aload_n (pc := 5) (i := 0) d_X1_begin_5 rfl rfl ?_
  refine Tr.getf (pc := 6) d_X1_begin_6 f_1_9 (by decide) (by decide) (ty_82 hS.1.1) ?_
  refine Tr.tp 83 (fx_82_2 hS.1.1) ?_
  refine Tr.iconst (pc := 9) d_X1_begin_9 (by decide) ?_
  refine Tr.callS (pc := 10) (as := [_, _]) d_X1_begin_10 s_1_45 ok_J7_fill_53178 rfl rfl (Nat.le_of_ble_eq_true rfl) (Nat.le_of_ble_eq_true rfl) ?_
  refine Tr.imp (sp_fill (N := 24) (ty_83 hS.1.1) (by decide)) ?_
  rintro _ _ ⟨rfl, rfl⟩
  refine Tr.nmA (P := St Tru ws_X1_begin_82_27 as_X1_begin_82_27 M0) (sf_83 (v := 0) 24 hS (by decide) (by omega) trivial) (fil_wa _ _ _ _) (fun M10 hS w10 => ?_)
  refine Tr.sc [] rfl ?_
  refine Tr.aload_n (pc := 13) (i := 0) d_X1_begin_13 rfl rfl ?_
  refine Tr.getz (pc := 14) d_X1_begin_14 f_1_37 (by decide) (ty_82 hS.1.1) ?_
  refine Tr.tp 0 (fx_82_0 hS.1.1) ?_
  refine Tr.if_eq (pc := 17) (tgt := 67) d_X1_begin_17 rfl (fun _ => ?_) (fun hc => absurd (by omega) hc)
  exact Tr.vret (pc := 67) d_X1_begin_67 rfl ⟨hS, ((Wa.b w10 rfl).trans w2.1), rfl⟩

def ws_X6_begin_74_27_47 : List (Int × Int) := [(74, 1), (74, 9), (74, 11), (74, 12), (74, 13), (74, 14), (74, 15), (74, 16), (74, 17), (82, 1)]
def as_X6_begin_74_27_47 : List Int := [75, 76, 78, 79, 80, 81, 83]
def q_X6_begin_74_27_47 (a3 : Int) (M0 M' : Mem) (r : Option PV) : Prop := St Tru ws_X6_begin_74_27_47 as_X6_begin_74_27_47 M0 M' ∧ rd M' 74 1 = 27 ∧ rd M' 82 1 = 27 ∧ r = none
set_option maxRecDepth 100000 in
set_option maxHeartbeats 4000000 in
theorem sp_X6_begin_74_27_47 {l : Launch} {K : EC} {M0 : Mem} (hI : In Tru M0)  (a3 : Int) (ha3 : (-1) ≤ a3 ∧ a3 ≤ (-1))  : Tr l K 2 mX6_begin 0 [(0, (2, 74)), (1, (2, 27)), (2, (2, 47)), (3, (0, a3))] [] M0 (q_X6_begin_74_27_47 a3 M0) := by
  have hS : St Tru ws_X6_begin_74_27_47 as_X6_begin_74_27_47 M0 M0 := St.rf hI
  refine Tr.aload_n (pc := 0) (i := 0) d_X6_begin_0 rfl rfl ?_
  refine Tr.aload_n (pc := 1) (i := 1) d_X6_begin_1 rfl rfl ?_
  refine Tr.putfS (pc := 2) (P := St Tru ws_X6_begin_74_27_47 as_X6_begin_74_27_47 M0) d_X6_begin_2 f_6_46 (by decide) (by decide) (ty_74 hS.1.1) (st_74_1 hS (by decide) (by omega) trivial) (fun M2 hS w2 => ?_)
  refine Tr.aload_n (pc := 5) (i := 2) d_X6_begin_5 rfl rfl ?_
  refine Tr.iconst (pc := 6) d_X6_begin_6 (by decide) ?_
  refine Tr.aload_n (pc := 7) (i := 0) d_X6_begin_7 rfl rfl ?_
  refine Tr.getf (pc := 8) d_X6_begin_8 f_6_9 (by decide) (by decide) (ty_74 hS.1.1) ?_
  refine Tr.tp 75 (fx_74_2 hS.1.1) ?_
  refine Tr.iconst (pc := 11) d_X6_begin_11 (by decide) ?_
  refine Tr.iconst (pc := 12) d_X6_begin_12 (by decide) ?_
  refine Tr.acopyS (pc := 13) (x := 47) (y := 75) (P := St Tru ws_X6_begin_74_27_47 as_X6_begin_74_27_47 M0) d_X6_begin_13 ac_6_85 acw.1 acw.2.1 acw.2.2 (ty_47 hS.1.1) (ty_75 hS.1.1) (by omega) (by omega) (by omega) (by omega) (by omega) (Nat.le_of_ble_eq_true rfl) (sw_75 hS (by decide) rfl rfl rfl (fun z i hz => by rw [rd_cpy, if_neg (fun c => hz c.1)]) (fun i => by rw [rd_cpy]; split; exact And.intro (by have := ar_47 hS.1.2.1 (0 + (i - 0)); omega) (by have := ar_47 hS.1.2.1 (0 + (i - 0)); omega); exact ar_75 hS.1.2.1 i) trivial) (fun M13 hS w13 => ?_)
  refine Tr.aload_n (pc := 16) (i := 0) d_X6_begin_16 rfl rfl ?_
  refine Tr.getf (pc := 17) d_X6_begin_17 f_6_15 (by decide) (by decide) (ty_74 hS.1.1) ?_
  refine Tr.tp 76 (fx_74_3 hS.1.1) ?_
  refine Tr.iconst (pc := 20) d_X6_begin_20 (by decide) ?_
  refine Tr.callS (pc := 21) (as := [_, _]) d_X6_begin_21 s_6_91 ok_J7_fill_53178 rfl rfl (Nat.le_of_ble_eq_true rfl) (Nat.le_of_ble_eq_true rfl) ?_
  refine Tr.imp (sp_fill (N := 6) (ty_76 hS.1.1) (by decide)) ?_
  rintro _ _ ⟨rfl, rfl⟩
  refine Tr.nmA (P := St Tru ws_X6_begin_74_27_47 as_X6_begin_74_27_47 M0) (sf_76 (v := 0) 6 hS (by decide) (by omega) trivial) (fil_wa _ _ _ _) (fun M21 hS w21 => ?_)
  refine Tr.sc [] rfl ?_
  refine Tr.aload_n (pc := 24) (i := 0) d_X6_begin_24 rfl rfl ?_
  refine Tr.getf (pc := 25) d_X6_begin_25 f_6_21 (by decide) (by decide) (ty_74 hS.1.1) ?_
  refine Tr.tp 78 (fx_74_5 hS.1.1) ?_
  refine Tr.iconst (pc := 28) d_X6_begin_28 (by decide) ?_
  refine Tr.callS (pc := 29) (as := [_, _]) d_X6_begin_29 s_6_91 ok_J7_fill_53178 rfl rfl (Nat.le_of_ble_eq_true rfl) (Nat.le_of_ble_eq_true rfl) ?_
  refine Tr.imp (sp_fill (N := 8) (ty_78 hS.1.1) (by decide)) ?_
  rintro _ _ ⟨rfl, rfl⟩
  refine Tr.nmA (P := St Tru ws_X6_begin_74_27_47 as_X6_begin_74_27_47 M0) (sf_78 (v := (-1)) 8 hS (by decide) (by omega) trivial) (fil_wa _ _ _ _) (fun M29 hS w29 => ?_)
  refine Tr.sc [] rfl ?_
  refine Tr.aload_n (pc := 32) (i := 0) d_X6_begin_32 rfl rfl ?_
  refine Tr.getf (pc := 33) d_X6_begin_33 f_6_24 (by decide) (by decide) (ty_74 hS.1.1) ?_
  refine Tr.tp 79 (fx_74_6 hS.1.1) ?_
  refine Tr.iconst (pc := 36) d_X6_begin_36 (by decide) ?_
  refine Tr.callS (pc := 37) (as := [_, _]) d_X6_begin_37 s_6_91 ok_J7_fill_53178 rfl rfl (Nat.le_of_ble_eq_true rfl) (Nat.le_of_ble_eq_true rfl) ?_
  refine Tr.imp (sp_fill (N := 6) (ty_79 hS.1.1) (by decide)) ?_
  rintro _ _ ⟨rfl, rfl⟩
  refine Tr.nmA (P := St Tru ws_X6_begin_74_27_47 as_X6_begin_74_27_47 M0) (sf_79 (v := 0) 6 hS (by decide) (by omega) trivial) (fil_wa _ _ _ _) (fun M37 hS w37 => ?_)
  refine Tr.sc [] rfl ?_
  refine Tr.aload_n (pc := 40) (i := 0) d_X6_begin_40 rfl rfl ?_
  refine Tr.getf (pc := 41) d_X6_begin_41 f_6_27 (by decide) (by decide) (ty_74 hS.1.1) ?_
  refine Tr.tp 80 (fx_74_7 hS.1.1) ?_
  refine Tr.iconst (pc := 44) d_X6_begin_44 (by decide) ?_
  refine Tr.callS (pc := 45) (as := [_, _]) d_X6_begin_45 s_6_91 ok_J7_fill_53178 rfl rfl (Nat.le_of_ble_eq_true rfl) (Nat.le_of_ble_eq_true rfl) ?_
  refine Tr.imp (sp_fill (N := 6) (ty_80 hS.1.1) (by decide)) ?_
  rintro _ _ ⟨rfl, rfl⟩
  refine Tr.nmA (P := St Tru ws_X6_begin_74_27_47 as_X6_begin_74_27_47 M0) (sf_80 (v := 0) 6 hS (by decide) (by omega) trivial) (fil_wa _ _ _ _) (fun M45 hS w45 => ?_)
  refine Tr.sc [] rfl ?_
  refine Tr.aload_n (pc := 48) (i := 0) d_X6_begin_48 rfl rfl ?_
  refine Tr.getf (pc := 49) d_X6_begin_49 f_6_30 (by decide) (by decide) (ty_74 hS.1.1) ?_
  refine Tr.tp 81 (fx_74_8 hS.1.1) ?_
  refine Tr.iconst (pc := 52) d_X6_begin_52 (by decide) ?_
  refine Tr.callS (pc := 53) (as := [_, _]) d_X6_begin_53 s_6_91 ok_J7_fill_53178 rfl rfl (Nat.le_of_ble_eq_true rfl) (Nat.le_of_ble_eq_true rfl) ?_
  refine Tr.imp (sp_fill (N := 6) (ty_81 hS.1.1) (by decide)) ?_
  rintro _ _ ⟨rfl, rfl⟩
  refine Tr.nmA (P := St Tru ws_X6_begin_74_27_47 as_X6_begin_74_27_47 M0) (sf_81 (v := 0) 6 hS (by decide) (by omega) trivial) (fil_wa _ _ _ _) (fun M53 hS w53 => ?_)
  refine Tr.sc [] rfl ?_
  refine Tr.aload_n (pc := 56) (i := 0) d_X6_begin_56 rfl rfl ?_
  refine Tr.iconst (pc := 57) d_X6_begin_57 (by decide) ?_
  refine Tr.putfS (pc := 58) (P := St Tru ws_X6_begin_74_27_47 as_X6_begin_74_27_47 M0) d_X6_begin_58 f_6_68 (by decide) (by decide) (ty_74 hS.1.1) (st_74_9 hS (by decide) (by omega) trivial) (fun M58 hS w58 => ?_)
  refine Tr.aload_n (pc := 61) (i := 0) d_X6_begin_61 rfl rfl ?_
  refine Tr.iconst (pc := 62) d_X6_begin_62 (by decide) ?_
  refine Tr.putfS (pc := 63) (P := St Tru ws_X6_begin_74_27_47 as_X6_begin_74_27_47 M0) d_X6_begin_63 f_6_97 (by decide) (by decide) (ty_74 hS.1.1) (st_74_11 hS (by decide) (by omega) trivial) (fun M63 hS w63 => ?_)
  refine Tr.aload_n (pc := 66) (i := 0) d_X6_begin_66 rfl rfl ?_
  refine Tr.iconst (pc := 67) d_X6_begin_67 (by decide) ?_
  refine Tr.putfS (pc := 68) (P := St Tru ws_X6_begin_74_27_47 as_X6_begin_74_27_47 M0) d_X6_begin_68 f_6_100 (by decide) (by decide) (ty_74 hS.1.1) (st_74_12 hS (by decide) (by omega) trivial) (fun M68 hS w68 => ?_)
  refine Tr.aload_n (pc := 71) (i := 0) d_X6_begin_71 rfl rfl ?_
  refine Tr.iconst (pc := 72) d_X6_begin_72 (by decide) ?_
  refine Tr.putfS (pc := 73) (P := St Tru ws_X6_begin_74_27_47 as_X6_begin_74_27_47 M0) d_X6_begin_73 f_6_103 (by decide) (by decide) (ty_74 hS.1.1) (st_74_13 hS (by decide) (by omega) trivial) (fun M73 hS w73 => ?_)
  refine Tr.aload_n (pc := 76) (i := 0) d_X6_begin_76 rfl rfl ?_
  refine Tr.iconst (pc := 77) d_X6_begin_77 (by decide) ?_
  refine Tr.putfS (pc := 78) (P := St Tru ws_X6_begin_74_27_47 as_X6_begin_74_27_47 M0) d_X6_begin_78 f_6_62 (by decide) (by decide) (ty_74 hS.1.1) (st_74_14 hS (by decide) (by omega) trivial) (fun M78 hS w78 => ?_)
  refine Tr.aload_n (pc := 81) (i := 0) d_X6_begin_81 rfl rfl ?_
  refine Tr.iconst (pc := 82) d_X6_begin_82 (by decide) ?_
  refine Tr.putfS (pc := 83) (P := St Tru ws_X6_begin_74_27_47 as_X6_begin_74_27_47 M0) d_X6_begin_83 f_6_79 (by decide) (by decide) (ty_74 hS.1.1) (st_74_15 hS (by decide) (by omega) trivial) (fun M83 hS w83 => ?_)
  refine Tr.aload_n (pc := 86) (i := 0) d_X6_begin_86 rfl rfl ?_
  refine Tr.iload_n (pc := 87) (i := 3) d_X6_begin_87 rfl rfl ?_
  refine Tr.tp (-1) (by omega) ?_
  refine Tr.if_lt (pc := 88) (tgt := 95) d_X6_begin_88 rfl (fun _ => ?_) (fun hc => absurd (by omega) hc)
  refine Tr.iconst (pc := 95) d_X6_begin_95 (by decide) ?_
  refine Tr.putzS (pc := 96) (P := St Tru ws_X6_begin_74_27_47 as_X6_begin_74_27_47 M0) d_X6_begin_96 f_6_106 (by decide) (ty_74 hS.1.1) (by omega) (st_74_16 hS (by decide) (by omega) trivial) (fun M96 hS w96 => ?_)
  refine Tr.aload_n (pc := 99) (i := 0) d_X6_begin_99 rfl rfl ?_
  refine Tr.iload_n (pc := 100) (i := 3) d_X6_begin_100 rfl rfl ?_
  refine Tr.tp (-1) (by omega) ?_
  refine Tr.putfS (pc := 101) (P := St Tru ws_X6_begin_74_27_47 as_X6_begin_74_27_47 M0) d_X6_begin_101 f_6_110 (by decide) (by decide) (ty_74 hS.1.1) (st_74_17 hS (by decide) (by omega) trivial) (fun M101 hS w101 => ?_)
  refine Tr.aload_n (pc := 104) (i := 0) d_X6_begin_104 rfl rfl ?_
  refine Tr.getf (pc := 105) d_X6_begin_105 f_6_38 (by decide) (by decide) (ty_74 hS.1.1) ?_
  refine Tr.tp 82 (fx_74_0 hS.1.1) ?_
  refine Tr.aload_n (pc := 108) (i := 1) d_X6_begin_108 rfl rfl ?_
  refine Tr.callV (pc := 109) (as := [_]) d_X6_begin_109 s_6_113 ok_X1_begin rfl rfl (Nat.le_of_ble_eq_true rfl) (Nat.le_of_ble_eq_true rfl) (by decide) (ty_82 hS.1.1) ?_
  refine Tr.imp (Tr.deep (by decide) (sp_X1_begin_82_27 hS.1 )) ?_
  rintro M109 _ ⟨h109, o109_82_1, rfl⟩
  have hS := St.tr hS h109 (by decide) (by decide)
  refine Tr.sc [] rfl ?_
  exact Tr.vret (pc := 112) d_X6_begin_112 rfl ⟨hS, ((St.kp h109 (by decide) (by decide) (by decide)).trans ((Wr.b w101 rfl).trans ((Wr.b w96 rfl).trans ((Wr.b w83 rfl).trans ((Wr.b w78 rfl).trans ((Wr.b w73 rfl).trans ((Wr.b w68 rfl).trans ((Wr.b w63 rfl).trans ((Wr.b w58 rfl).trans ((Wa.b w53 rfl).trans ((Wa.b w45 rfl).trans ((Wa.b w37 rfl).trans ((Wa.b w29 rfl).trans ((Wa.b w21 rfl).trans ((Wa.b w13 rfl).trans w2.1))))))))))))))), o109_82_1, rfl⟩

def ws_X6_sipsAt_74_w3 : List (Int × Int) := []
def as_X6_sipsAt_74_w3 : List Int := []
def q_X6_sipsAt_74_w3 (M0 M' : Mem) (r : Option PV) : Prop := St Tru ws_X6_sipsAt_74_w3 as_X6_sipsAt_74_w3 M0 M' ∧ ∃ v : Int, r = some (0, v) ∧ (-2147483648) ≤ v ∧ v ≤ 2147483647
set_option maxRecDepth 100000 in
set_option maxHeartbeats 4000000 in
theorem sp_X6_sipsAt_74_w3 {l : Launch} {K : EC} {M0 : Mem} (hI : In Tru M0) (en_74_1 : rd M0 74 1 = 27) (a1 : Int) (ha1 : (-2147483648) ≤ a1 ∧ a1 ≤ 2147483647) (a2 : Int) (ha2 : (-1) ≤ a2 ∧ a2 ≤ (-1)) (a3 : Int) (ha3 : 0 ≤ a3 ∧ a3 ≤ 0)  : Tr l K 0 mX6_sipsAt 0 [(0, (2, 74)), (1, (0, a1)), (2, (0, a2)), (3, (0, a3))] [] M0 (q_X6_sipsAt_74_w3 M0) := by
  have hS : St Tru ws_X6_sipsAt_74_w3 as_X6_sipsAt_74_w3 M0 M0 := St.rf hI
  refine Tr.aload_n (pc := 0) (i := 0) d_X6_sipsAt_0 rfl rfl ?_
  refine Tr.getf (pc := 1) d_X6_sipsAt_1 f_6_46 (by decide) (by decide) (ty_74 hS.1.1) ?_
  refine Tr.tp 27 ((St.kp hS (by decide) (by decide) (by decide)).trans en_74_1) ?_
  refine Tr.getf (pc := 4) d_X6_sipsAt_4 f_6_135 (by decide) (by decide) (ty_27 hS.1.1) ?_
  refine Tr.gen (P := fun v => (-1) ≤ v ∧ v ≤ 999) (ir_27_0 hS.1.2.1) (fun r4 er4 br4 => ?_)
  refine Tr.istore (pc := 7) (i := 4) (ls2 := [(4, (0, r4)), (0, (2, 74)), (1, (0, a1)), (2, (0, a2)), (3, (0, a3))]) d_X6_sipsAt_7 (by decide) rfl ?_
  refine Tr.iconst (pc := 9) d_X6_sipsAt_9 (by decide) ?_
  refine Tr.istore (pc := 10) (i := 5) (ls2 := [(5, (0, 0)), (4, (0, r4)), (0, (2, 74)), (1, (0, a1)), (2, (0, a2)), (3, (0, a3))]) d_X6_sipsAt_10 (by decide) rfl ?_
  have J12 : ∀ (n12 : Nat) (M : Mem) (p12_4 p12_5 : Int), St Tru ws_X6_sipsAt_74_w3 as_X6_sipsAt_74_w3 M0 M → ((-2147483648) ≤ p12_4 ∧ p12_4 ≤ 2147483647) → (0 ≤ p12_5 ∧ p12_5 ≤ 6) → rd M 27 0 = r4 → (6 - p12_5).toNat < n12 → Tr l K 0 mX6_sipsAt 12 [(0, (2, 74)), (1, (0, a1)), (2, (0, a2)), (3, (0, a3)), (4, (0, p12_4)), (5, (0, p12_5))] [] M (q_X6_sipsAt_74_w3 M0) := by
    intro n12
    induction n12 with
    | zero => intro M p12_4 p12_5 hS bp12_4 bp12_5 k12_27_0 hm12; exact absurd hm12 (Nat.not_lt_zero _)
    | succ n12 J12 =>
      intro M p12_4 p12_5 hS bp12_4 bp12_5 k12_27_0 hm12
      refine Tr.iload (pc := 12) (i := 5) d_X6_sipsAt_12 rfl ?_
      refine Tr.aload_n (pc := 14) (i := 0) d_X6_sipsAt_14 rfl rfl ?_
      refine Tr.getf (pc := 15) d_X6_sipsAt_15 f_6_46 (by decide) (by decide) (ty_74 hS.1.1) ?_
      refine Tr.tp 27 ((St.kp hS (by decide) (by decide) (by decide)).trans en_74_1) ?_
      refine Tr.getf (pc := 18) d_X6_sipsAt_18 f_6_116 (by decide) (by decide) (ty_27 hS.1.1) ?_
      refine Tr.tp 28 (fx_27_4 hS.1.1) ?_
      refine Tr.iconst (pc := 21) d_X6_sipsAt_21 (by decide) ?_
      refine Tr.iald (pc := 22) d_X6_sipsAt_22 (ty_28 hS.1.1) (by omega) (by omega) ?_
      refine Tr.gen (P := fun v => 0 ≤ v ∧ v ≤ 6) (ir_28_0 hS.1.2.1) (fun r22 er22 br22 => ?_)
      refine Tr.icmp_ge (pc := 23) (tgt := 91) d_X6_sipsAt_23 rfl (fun c23 => ?_) (fun c23 => ?_)
      · refine Tr.iload (pc := 91) (i := 4) d_X6_sipsAt_91 rfl ?_
        exact Tr.iret (pc := 93) d_X6_sipsAt_93 rfl ⟨hS, _, rfl, by omega, by omega⟩
      · refine Tr.aload_n (pc := 26) (i := 0) d_X6_sipsAt_26 rfl rfl ?_
        refine Tr.getf (pc := 27) d_X6_sipsAt_27 f_6_24 (by decide) (by decide) (ty_74 hS.1.1) ?_
        refine Tr.tp 79 (fx_74_6 hS.1.1) ?_
        refine Tr.iload (pc := 30) (i := 5) d_X6_sipsAt_30 rfl ?_
        refine Tr.iald (pc := 32) d_X6_sipsAt_32 (ty_79 hS.1.1) (by omega) (by omega) ?_
        refine Tr.gen (P := fun v => 0 ≤ v ∧ v ≤ 1) (ar_79 hS.1.2.1 _) (fun r32 er32 br32 => ?_)
        refine Tr.iconst (pc := 33) d_X6_sipsAt_33 (by decide) ?_
        have J53 : ∀ (M : Mem) (q53_0 : Int), St Tru ws_X6_sipsAt_74_w3 as_X6_sipsAt_74_w3 M0 M → (0 ≤ q53_0 ∧ q53_0 ≤ 2) → rd M 27 0 = r4 → rd M 28 0 = r22 → rd M 79 p12_5 = r32 → Tr l K 0 mX6_sipsAt 53 [(0, (2, 74)), (1, (0, a1)), (2, (0, a2)), (3, (0, a3)), (4, (0, p12_4)), (5, (0, p12_5))] [(0, q53_0)] M (q_X6_sipsAt_74_w3 M0) := by
          intro M q53_0 hS bq53_0 k53_27_0 k53_28_0 k53_79_p12_510
          refine Tr.istore (pc := 53) (i := 6) (ls2 := [(6, (0, q53_0)), (0, (2, 74)), (1, (0, a1)), (2, (0, a2)), (3, (0, a3)), (4, (0, p12_4)), (5, (0, p12_5))]) d_X6_sipsAt_53 (by decide) rfl ?_
          refine Tr.iload (pc := 55) (i := 4) d_X6_sipsAt_55 rfl ?_
          refine Tr.aload_n (pc := 57) (i := 0) d_X6_sipsAt_57 rfl rfl ?_
          refine Tr.getf (pc := 58) d_X6_sipsAt_58 f_6_46 (by decide) (by decide) (ty_74 hS.1.1) ?_
          refine Tr.tp 27 ((St.kp hS (by decide) (by decide) (by decide)).trans en_74_1) ?_
          refine Tr.getf (pc := 61) d_X6_sipsAt_61 f_6_189 (by decide) (by decide) (ty_27 hS.1.1) ?_
          refine Tr.tp 29 (fx_27_5 hS.1.1) ?_
          refine Tr.iload (pc := 64) (i := 5) d_X6_sipsAt_64 rfl ?_
          refine Tr.iconst (pc := 66) d_X6_sipsAt_66 (by decide) ?_
          refine Tr.imul (pc := 67) d_X6_sipsAt_67 ?_
          refine Tr.tp (4 * p12_5) ((w32_id (by omega)).trans (by omega)) ?_
          refine Tr.iload (pc := 68) (i := 5) d_X6_sipsAt_68 rfl ?_
          refine Tr.iload_n (pc := 70) (i := 2) d_X6_sipsAt_70 rfl rfl ?_
          refine Tr.tp (-1) (by omega) ?_
          refine Tr.icmp_ne (pc := 71) (tgt := 78) d_X6_sipsAt_71 rfl (fun _ => ?_) (fun hc => absurd hc (by omega))
          refine Tr.iload (pc := 78) (i := 6) d_X6_sipsAt_78 rfl ?_
          refine Tr.iadd (pc := 80) d_X6_sipsAt_80 ?_
          refine Tr.tp (4 * p12_5 + q53_0) ((w32_id (by omega)).trans (by omega)) ?_
          refine Tr.iald (pc := 81) d_X6_sipsAt_81 (ty_29 hS.1.1) (by omega) (by omega) ?_
          refine Tr.gen (P := fun v => (-1) ≤ v ∧ v ≤ 999) (ar_29 hS.1.2.1 _) (fun r81 er81 br81 => ?_)
          refine Tr.iadd (pc := 82) d_X6_sipsAt_82 ?_
          refine Tr.gen (P := fun v => (-2147483648) ≤ v ∧ v ≤ 2147483647) (w32_b _) (fun r82 er82 br82 => ?_)
          refine Tr.istore (pc := 83) (i := 4) (ls2 := [(4, (0, r82)), (6, (0, q53_0)), (0, (2, 74)), (1, (0, a1)), (2, (0, a2)), (3, (0, a3)), (5, (0, p12_5))]) d_X6_sipsAt_83 (by decide) rfl ?_
          refine Tr.iincV (pc := 85) (n2 := (p12_5 + 1)) (ls2 := [(5, (0, (p12_5 + 1))), (4, (0, r82)), (6, (0, q53_0)), (0, (2, 74)), (1, (0, a1)), (2, (0, a2)), (3, (0, a3))]) d_X6_sipsAt_85 rfl (by decide) ((w32_id (by omega)).trans (by omega)) rfl ?_
          refine Tr.goto (pc := 88) (tgt := 12) d_X6_sipsAt_88 rfl ?_
          refine Tr.pick [3, 4, 5, 6, 1, 0] (ls2 := [(0, (2, 74)), (1, (0, a1)), (2, (0, a2)), (3, (0, a3)), (4, (0, r82)), (5, (0, (p12_5 + 1)))]) rfl ?_
          exact J12 _ _ _ hS (by omega) (by omega) k53_27_0 (by omega)
        have J48 : ∀ (M : Mem), St Tru ws_X6_sipsAt_74_w3 as_X6_sipsAt_74_w3 M0 M → rd M 27 0 = r4 → rd M 28 0 = r22 → rd M 79 p12_5 = r32 → Tr l K 0 mX6_sipsAt 48 [(0, (2, 74)), (1, (0, a1)), (2, (0, a2)), (3, (0, a3)), (4, (0, p12_4)), (5, (0, p12_5))] [] M (q_X6_sipsAt_74_w3 M0) := by
          intro M  hS  k48_27_0 k48_28_0 k48_79_p12_510
          refine Tr.iconst (pc := 48) d_X6_sipsAt_48 (by decide) ?_
          refine Tr.goto (pc := 49) (tgt := 53) d_X6_sipsAt_49 rfl ?_
          refine Tr.pick [0, 1, 2, 3, 4, 5] (ls2 := [(0, (2, 74)), (1, (0, a1)), (2, (0, a2)), (3, (0, a3)), (4, (0, p12_4)), (5, (0, p12_5))]) rfl ?_
          exact J53 _ _ hS (by omega) k48_27_0 k48_28_0 k48_79_p12_510
        refine Tr.icmp_eq (pc := 34) (tgt := 48) d_X6_sipsAt_34 rfl (fun c34 => ?_) (fun c34 => ?_)
        · refine Tr.pick [0, 1, 2, 3, 4, 5] (ls2 := [(0, (2, 74)), (1, (0, a1)), (2, (0, a2)), (3, (0, a3)), (4, (0, p12_4)), (5, (0, p12_5))]) rfl ?_
          exact J48 _ hS k12_27_0 er22 er32
        · refine Tr.iload_n (pc := 37) (i := 1) d_X6_sipsAt_37 rfl rfl ?_
          refine Tr.aload_n (pc := 38) (i := 0) d_X6_sipsAt_38 rfl rfl ?_
          refine Tr.getf (pc := 39) d_X6_sipsAt_39 f_6_27 (by decide) (by decide) (ty_74 hS.1.1) ?_
          refine Tr.tp 80 (fx_74_7 hS.1.1) ?_
          refine Tr.iload (pc := 42) (i := 5) d_X6_sipsAt_42 rfl ?_
          refine Tr.iald (pc := 44) d_X6_sipsAt_44 (ty_80 hS.1.1) (by omega) (by omega) ?_
          refine Tr.gen (P := fun v => (-2147483648) ≤ v ∧ v ≤ 2147483647) (ar_80 hS.1.2.1 _) (fun r44 er44 br44 => ?_)
          refine Tr.icmp_ge (pc := 45) (tgt := 52) d_X6_sipsAt_45 rfl (fun c45 => ?_) (fun c45 => ?_)
          · refine Tr.iconst (pc := 52) d_X6_sipsAt_52 (by decide) ?_
            refine Tr.pick [0, 1, 2, 3, 4, 5] (ls2 := [(0, (2, 74)), (1, (0, a1)), (2, (0, a2)), (3, (0, a3)), (4, (0, p12_4)), (5, (0, p12_5))]) rfl ?_
            exact J53 _ _ hS (by omega) k12_27_0 er22 er32
          · refine Tr.pick [0, 1, 2, 3, 4, 5] (ls2 := [(0, (2, 74)), (1, (0, a1)), (2, (0, a2)), (3, (0, a3)), (4, (0, p12_4)), (5, (0, p12_5))]) rfl ?_
            exact J48 _ hS k12_27_0 er22 er32
  refine Tr.pick [2, 3, 4, 5, 1, 0] (ls2 := [(0, (2, 74)), (1, (0, a1)), (2, (0, a2)), (3, (0, a3)), (4, (0, r4)), (5, (0, 0))]) rfl ?_
  exact J12 _ _ _ _ hS (by omega) (by omega) er4 (Nat.lt_succ_self _)
end
/-! 43.04 -/
section
def ws_X6_afforded_74_w5 : List (Int × Int) := [(74, 17)]
def as_X6_afforded_74_w5 : List Int := []
def q_X6_afforded_74_w5 (M0 M' : Mem) (r : Option PV) : Prop := St Tru ws_X6_afforded_74_w5 as_X6_afforded_74_w5 M0 M' ∧ ∃ v : Int, r = some (0, v) ∧ (-2147483648) ≤ v ∧ v ≤ 1
set_option maxRecDepth 100000 in
set_option maxHeartbeats 4000000 in
theorem sp_X6_afforded_74_w5 {l : Launch} {K : EC} {M0 : Mem} (hI : In Tru M0) (en_74_1 : rd M0 74 1 = 27) (a1 : Int) (ha1 : (-2147483648) ≤ a1 ∧ a1 ≤ 1) (a2 : Int) (ha2 : (-1) ≤ a2 ∧ a2 ≤ (-1)) (a3 : Int) (ha3 : 0 ≤ a3 ∧ a3 ≤ 0)  : Tr l K 1 mX6_afforded 0 [(0, (2, 74)), (1, (0, a1)), (2, (0, a2)), (3, (0, a3))] [] M0 (q_X6_afforded_74_w5 M0) := by
  have hS : St Tru ws_X6_afforded_74_w5 as_X6_afforded_74_w5 M0 M0 := St.rf hI
  refine Tr.iconst (pc := 0) d_X6_afforded_0 (by decide) ?_
  refine Tr.istore (pc := 1) (i := 4) (ls2 := [(4, (0, 0)), (0, (2, 74)), (1, (0, a1)), (2, (0, a2)), (3, (0, a3))]) d_X6_afforded_1 (by decide) rfl ?_
  have J3 : ∀ (n3 : Nat) (M : Mem) (p3_4 : Int), St Tru ws_X6_afforded_74_w5 as_X6_afforded_74_w5 M0 M → (0 ≤ p3_4 ∧ p3_4 ≤ 1) → (1 - p3_4).toNat < n3 → Tr l K 1 mX6_afforded 3 [(0, (2, 74)), (1, (0, a1)), (2, (0, a2)), (3, (0, a3)), (4, (0, p3_4))] [] M (q_X6_afforded_74_w5 M0) := by
    intro n3
    induction n3 with
    | zero => intro M p3_4 hS bp3_4  hm3; exact absurd hm3 (Nat.not_lt_zero _)
    | succ n3 J3 =>
      intro M p3_4 hS bp3_4  hm3
      refine Tr.iload (pc := 3) (i := 4) d_X6_afforded_3 rfl ?_
      refine Tr.iload_n (pc := 5) (i := 1) d_X6_afforded_5 rfl rfl ?_
      refine Tr.icmp_ge (pc := 6) (tgt := 53) d_X6_afforded_6 rfl (fun c6 => ?_) (fun c6 => ?_)
      · refine Tr.iload_n (pc := 53) (i := 1) d_X6_afforded_53 rfl rfl ?_
        exact Tr.iret (pc := 54) d_X6_afforded_54 rfl ⟨hS, _, rfl, by omega, by omega⟩
      · refine Tr.aload_n (pc := 9) (i := 0) d_X6_afforded_9 rfl rfl ?_
        refine Tr.aload_n (pc := 10) (i := 0) d_X6_afforded_10 rfl rfl ?_
        refine Tr.getf (pc := 11) d_X6_afforded_11 f_6_68 (by decide) (by decide) (ty_74 hS.1.1) ?_
        refine Tr.gen (P := fun v => (-2147483648) ≤ v ∧ v ≤ 2147483647) (ir_74_9 hS.1.2.1) (fun r11 er11 br11 => ?_)
        refine Tr.iload (pc := 14) (i := 4) d_X6_afforded_14 rfl ?_
        refine Tr.iadd (pc := 16) d_X6_afforded_16 ?_
        refine Tr.tp (p3_4 + r11) ((w32_id (by omega)).trans (by omega)) ?_
        refine Tr.iload_n (pc := 17) (i := 2) d_X6_afforded_17 rfl rfl ?_
        refine Tr.tp (-1) (by omega) ?_
        refine Tr.iload_n (pc := 18) (i := 3) d_X6_afforded_18 rfl rfl ?_
        refine Tr.tp 0 (by omega) ?_
        refine Tr.callV (pc := 19) (as := [_, _, _]) d_X6_afforded_19 s_6_186 ok_X6_sipsAt rfl rfl (Nat.le_of_ble_eq_true rfl) (Nat.le_of_ble_eq_true rfl) (by decide) (ty_74 hS.1.1) ?_
        refine Tr.imp (Tr.deep (by decide) (sp_X6_sipsAt_74_w3 hS.1 ((St.kp hS (by decide) (by decide) (by decide)).trans en_74_1) (p3_4 + r11) (by omega) (-1) (by omega) 0 (by omega))) ?_
        rintro M19 _ ⟨h19, r19, rfl, lr19, ur19⟩
        have hS := St.tr hS h19 (by decide) (by decide)
        refine Tr.sc [(0, r19)] rfl ?_
        refine Tr.istore (pc := 22) (i := 5) (ls2 := [(5, (0, r19)), (0, (2, 74)), (1, (0, a1)), (2, (0, a2)), (3, (0, a3)), (4, (0, p3_4))]) d_X6_afforded_22 (by decide) rfl ?_
        refine Tr.iload (pc := 24) (i := 5) d_X6_afforded_24 rfl ?_
        refine Tr.aload_n (pc := 26) (i := 0) d_X6_afforded_26 rfl rfl ?_
        refine Tr.getf (pc := 27) d_X6_afforded_27 f_6_110 (by decide) (by decide) (ty_74 hS.1.1) ?_
        refine Tr.gen (P := fun v => (-2147483648) ≤ v ∧ v ≤ 2147483647) (ir_74_17 hS.1.2.1) (fun r27 er27 br27 => ?_)
        refine Tr.icmp_le (pc := 30) (tgt := 36) d_X6_afforded_30 rfl (fun c30 => ?_) (fun c30 => ?_)
        · refine Tr.aload_n (pc := 36) (i := 0) d_X6_afforded_36 rfl rfl ?_
          refine Tr.dup (pc := 37) d_X6_afforded_37 ne21 ?_
          refine Tr.getf (pc := 38) d_X6_afforded_38 f_6_110 (by decide) (by decide) (ty_74 hS.1.1) ?_
          refine Tr.tp r27 er27 ?_
          refine Tr.iload (pc := 41) (i := 5) d_X6_afforded_41 rfl ?_
          refine Tr.isub (pc := 43) d_X6_afforded_43 ?_
          refine Tr.gen (P := fun v => (-2147483648) ≤ v ∧ v ≤ 2147483647) (w32_b _) (fun r43 er43 br43 => ?_)
          refine Tr.putfS (pc := 44) (P := St Tru ws_X6_afforded_74_w5 as_X6_afforded_74_w5 M0) d_X6_afforded_44 f_6_110 (by decide) (by decide) (ty_74 hS.1.1) (st_74_17 hS (by decide) (by omega) trivial) (fun M44 hS w44 => ?_)
          refine Tr.iincV (pc := 47) (n2 := (p3_4 + 1)) (ls2 := [(4, (0, (p3_4 + 1))), (5, (0, r19)), (0, (2, 74)), (1, (0, a1)), (2, (0, a2)), (3, (0, a3))]) d_X6_afforded_47 rfl (by decide) ((w32_id (by omega)).trans (by omega)) rfl ?_
          refine Tr.goto (pc := 50) (tgt := 3) d_X6_afforded_50 rfl ?_
          refine Tr.pick [2, 3, 4, 5, 0] (ls2 := [(0, (2, 74)), (1, (0, a1)), (2, (0, a2)), (3, (0, a3)), (4, (0, (p3_4 + 1)))]) rfl ?_
          exact J3 _ _ hS (by omega) (by omega)
        · refine Tr.iload (pc := 33) (i := 4) d_X6_afforded_33 rfl ?_
          exact Tr.iret (pc := 35) d_X6_afforded_35 rfl ⟨hS, _, rfl, by omega, by omega⟩
  refine Tr.pick [1, 2, 3, 4, 0] (ls2 := [(0, (2, 74)), (1, (0, a1)), (2, (0, a2)), (3, (0, a3)), (4, (0, 0))]) rfl ?_
  exact J3 _ _ _ hS (by omega) (Nat.lt_succ_self _)

def ws_X6_pass_74_w5 : List (Int × Int) := [(74, 9), (74, 14), (74, 17)]
def as_X6_pass_74_w5 : List Int := []
def q_X6_pass_74_w5 (M0 M' : Mem) (r : Option PV) : Prop := St Tru ws_X6_pass_74_w5 as_X6_pass_74_w5 M0 M' ∧ ∃ v : Int, r = some (0, v) ∧ (-2147483648) ≤ v ∧ v ≤ 1
set_option maxRecDepth 100000 in
set_option maxHeartbeats 4000000 in
theorem sp_X6_pass_74_w5 {l : Launch} {K : EC} {M0 : Mem} (hI : In Tru M0) (en_74_1 : rd M0 74 1 = 27) (a1 : Int) (ha1 : 1 ≤ a1 ∧ a1 ≤ 1) (a2 : Int) (ha2 : (-1) ≤ a2 ∧ a2 ≤ (-1)) (a3 : Int) (ha3 : 0 ≤ a3 ∧ a3 ≤ 0)  : Tr l K 2 mX6_pass 0 [(0, (2, 74)), (1, (0, a1)), (2, (0, a2)), (3, (0, a3))] [] M0 (q_X6_pass_74_w5 M0) := by
  have hS : St Tru ws_X6_pass_74_w5 as_X6_pass_74_w5 M0 M0 := St.rf hI
  refine Tr.iload_n (pc := 0) (i := 1) d_X6_pass_0 rfl rfl ?_
  refine Tr.tp 1 (by omega) ?_
  refine Tr.sipush (pc := 1) d_X6_pass_1 rfl (by decide) ?_
  refine Tr.aload_n (pc := 4) (i := 0) d_X6_pass_4 rfl rfl ?_
  refine Tr.getf (pc := 5) d_X6_pass_5 f_6_68 (by decide) (by decide) (ty_74 hS.1.1) ?_
  refine Tr.gen (P := fun v => (-2147483648) ≤ v ∧ v ≤ 2147483647) (ir_74_9 hS.1.2.1) (fun r5 er5 br5 => ?_)
  refine Tr.isub (pc := 8) d_X6_pass_8 ?_
  refine Tr.gen (P := fun v => (-2147483648) ≤ v ∧ v ≤ 2147483647) (w32_b _) (fun r8 er8 br8 => ?_)
  refine Tr.mmin (pc := 9) d_X6_pass_9 ml_6_158 mw_mmin (Nat.le_of_ble_eq_true rfl) ?_
  refine Tr.gen (P := fun v => (v = 1 ∧ 1 ≤ r8) ∨ (v = r8 ∧ r8 ≤ 1)) (f_min_p _ _) (fun r9 er9 br9 => ?_)
  refine Tr.istore (pc := 12) (i := 4) (ls2 := [(4, (0, r9)), (0, (2, 74)), (1, (0, a1)), (2, (0, a2)), (3, (0, a3))]) d_X6_pass_12 (by decide) rfl ?_
  refine Tr.aload_n (pc := 14) (i := 0) d_X6_pass_14 rfl rfl ?_
  refine Tr.getz (pc := 15) d_X6_pass_15 f_6_106 (by decide) (ty_74 hS.1.1) ?_
  refine Tr.gen (P := fun v => 0 ≤ v ∧ v ≤ 1) (ir_74_16 hS.1.2.1) (fun r15 er15 br15 => ?_)
  have J34 : ∀ (M : Mem) (q34_0 : Int), St Tru ws_X6_pass_74_w5 as_X6_pass_74_w5 M0 M → ((-2147483648) ≤ q34_0 ∧ q34_0 ≤ 1) → rd M 74 16 = r15 → rd M 74 9 = r5 → Tr l K 2 mX6_pass 34 [(0, (2, 74)), (1, (0, a1)), (4, (0, r9))] [(0, q34_0)] M (q_X6_pass_74_w5 M0) := by
    intro M q34_0 hS bq34_0 k34_74_16 k34_74_9
    refine Tr.istore (pc := 34) (i := 5) (ls2 := [(5, (0, q34_0)), (0, (2, 74)), (1, (0, a1)), (4, (0, r9))]) d_X6_pass_34 (by decide) rfl ?_
    refine Tr.aload_n (pc := 36) (i := 0) d_X6_pass_36 rfl rfl ?_
    refine Tr.dup (pc := 37) d_X6_pass_37 ne21 ?_
    refine Tr.getf (pc := 38) d_X6_pass_38 f_6_68 (by decide) (by decide) (ty_74 hS.1.1) ?_
    refine Tr.tp r5 k34_74_9 ?_
    refine Tr.iload (pc := 41) (i := 5) d_X6_pass_41 rfl ?_
    refine Tr.iadd (pc := 43) d_X6_pass_43 ?_
    refine Tr.gen (P := fun v => (-2147483648) ≤ v ∧ v ≤ 2147483647) (w32_b _) (fun r43 er43 br43 => ?_)
    refine Tr.putfS (pc := 44) (P := St Tru ws_X6_pass_74_w5 as_X6_pass_74_w5 M0) d_X6_pass_44 f_6_68 (by decide) (by decide) (ty_74 hS.1.1) (st_74_9 hS (by decide) (by omega) trivial) (fun M44 hS w44 => ?_)
    refine Tr.iload (pc := 47) (i := 5) d_X6_pass_47 rfl ?_
    refine Tr.iload_n (pc := 49) (i := 1) d_X6_pass_49 rfl rfl ?_
    refine Tr.tp 1 (by omega) ?_
    refine Tr.icmp_ge (pc := 50) (tgt := 69) d_X6_pass_50 rfl (fun c50 => ?_) (fun c50 => ?_)
    · refine Tr.iload (pc := 69) (i := 5) d_X6_pass_69 rfl ?_
      refine Tr.tp 1 (by omega) ?_
      exact Tr.iret (pc := 71) d_X6_pass_71 rfl ⟨hS, _, rfl, by omega, by omega⟩
    · refine Tr.aload_n (pc := 53) (i := 0) d_X6_pass_53 rfl rfl ?_
      refine Tr.iload (pc := 54) (i := 5) d_X6_pass_54 rfl ?_
      refine Tr.iload (pc := 56) (i := 4) d_X6_pass_56 rfl ?_
      refine Tr.icmp_ne (pc := 58) (tgt := 65) d_X6_pass_58 rfl (fun c58 => ?_) (fun c58 => ?_)
      · refine Tr.iconst (pc := 65) d_X6_pass_65 (by decide) ?_
        refine Tr.putfS (pc := 66) (P := St Tru ws_X6_pass_74_w5 as_X6_pass_74_w5 M0) d_X6_pass_66 f_6_62 (by decide) (by decide) (ty_74 hS.1.1) (st_74_14 hS (by decide) (by omega) trivial) (fun M66 hS w66 => ?_)
        refine Tr.iload (pc := 69) (i := 5) d_X6_pass_69 rfl ?_
        exact Tr.iret (pc := 71) d_X6_pass_71 rfl ⟨hS, _, rfl, by omega, by omega⟩
      · refine Tr.iconst (pc := 61) d_X6_pass_61 (by decide) ?_
        refine Tr.goto (pc := 62) (tgt := 66) d_X6_pass_62 rfl ?_
        refine Tr.putfS (pc := 66) (P := St Tru ws_X6_pass_74_w5 as_X6_pass_74_w5 M0) d_X6_pass_66 f_6_62 (by decide) (by decide) (ty_74 hS.1.1) (st_74_14 hS (by decide) (by omega) trivial) (fun M66 hS w66 => ?_)
        refine Tr.iload (pc := 69) (i := 5) d_X6_pass_69 rfl ?_
        exact Tr.iret (pc := 71) d_X6_pass_71 rfl ⟨hS, _, rfl, by omega, by omega⟩
  refine Tr.if_eq (pc := 18) (tgt := 32) d_X6_pass_18 rfl (fun c18 => ?_) (fun c18 => ?_)
  · refine Tr.iload (pc := 32) (i := 4) d_X6_pass_32 rfl ?_
    refine Tr.pick [1, 2, 0] (ls2 := [(0, (2, 74)), (1, (0, a1)), (4, (0, r9))]) rfl ?_
    exact J34 _ _ hS (by omega) er15 er5
  · refine Tr.aload_n (pc := 21) (i := 0) d_X6_pass_21 rfl rfl ?_
    refine Tr.iload (pc := 22) (i := 4) d_X6_pass_22 rfl ?_
    refine Tr.iload_n (pc := 24) (i := 2) d_X6_pass_24 rfl rfl ?_
    refine Tr.tp (-1) (by omega) ?_
    refine Tr.iload_n (pc := 25) (i := 3) d_X6_pass_25 rfl rfl ?_
    refine Tr.tp 0 (by omega) ?_
    refine Tr.callV (pc := 26) (as := [_, _, _]) d_X6_pass_26 s_6_183 ok_X6_afforded rfl rfl (Nat.le_of_ble_eq_true rfl) (Nat.le_of_ble_eq_true rfl) (by decide) (ty_74 hS.1.1) ?_
    refine Tr.imp (Tr.deep (by decide) (sp_X6_afforded_74_w5 hS.1 ((St.kp hS (by decide) (by decide) (by decide)).trans en_74_1) r9 (by omega) (-1) (by omega) 0 (by omega))) ?_
    rintro M26 _ ⟨h26, r26, rfl, lr26, ur26⟩
    have hS := St.tr hS h26 (by decide) (by decide)
    refine Tr.sc [(0, r26)] rfl ?_
    refine Tr.goto (pc := 29) (tgt := 34) d_X6_pass_29 rfl ?_
    refine Tr.pick [1, 2, 0] (ls2 := [(0, (2, 74)), (1, (0, a1)), (4, (0, r9))]) rfl ?_
    exact J34 _ _ hS (by omega) ((St.kp h26 (by decide) (by decide) (by decide)).trans er15) ((St.kp h26 (by decide) (by decide) (by decide)).trans er5)

def ws_X6_afforded_74_w6 : List (Int × Int) := [(74, 17)]
def as_X6_afforded_74_w6 : List Int := []
def q_X6_afforded_74_w6 (M0 M' : Mem) (r : Option PV) : Prop := St Tru ws_X6_afforded_74_w6 as_X6_afforded_74_w6 M0 M' ∧ ∃ v : Int, r = some (0, v) ∧ (-2147483648) ≤ v ∧ v ≤ 20
set_option maxRecDepth 100000 in
set_option maxHeartbeats 4000000 in
theorem sp_X6_afforded_74_w6 {l : Launch} {K : EC} {M0 : Mem} (hI : In Tru M0) (en_74_1 : rd M0 74 1 = 27) (a1 : Int) (ha1 : (-2147483648) ≤ a1 ∧ a1 ≤ 20) (a2 : Int) (ha2 : (-1) ≤ a2 ∧ a2 ≤ (-1)) (a3 : Int) (ha3 : 0 ≤ a3 ∧ a3 ≤ 0)  : Tr l K 1 mX6_afforded 0 [(0, (2, 74)), (1, (0, a1)), (2, (0, a2)), (3, (0, a3))] [] M0 (q_X6_afforded_74_w6 M0) := by
  have hS : St Tru ws_X6_afforded_74_w6 as_X6_afforded_74_w6 M0 M0 := St.rf hI
  refine Tr.iconst (pc := 0) d_X6_afforded_0 (by decide) ?_
  refine Tr.istore (pc := 1) (i := 4) (ls2 := [(4, (0, 0)), (0, (2, 74)), (1, (0, a1)), (2, (0, a2)), (3, (0, a3))]) d_X6_afforded_1 (by decide) rfl ?_
  have J3 : ∀ (n3 : Nat) (M : Mem) (p3_4 : Int), St Tru ws_X6_afforded_74_w6 as_X6_afforded_74_w6 M0 M → (0 ≤ p3_4 ∧ p3_4 ≤ 20) → (20 - p3_4).toNat < n3 → Tr l K 1 mX6_afforded 3 [(0, (2, 74)), (1, (0, a1)), (2, (0, a2)), (3, (0, a3)), (4, (0, p3_4))] [] M (q_X6_afforded_74_w6 M0) := by
    intro n3
    induction n3 with
    | zero => intro M p3_4 hS bp3_4  hm3; exact absurd hm3 (Nat.not_lt_zero _)
    | succ n3 J3 =>
      intro M p3_4 hS bp3_4  hm3
      refine Tr.iload (pc := 3) (i := 4) d_X6_afforded_3 rfl ?_
      refine Tr.iload_n (pc := 5) (i := 1) d_X6_afforded_5 rfl rfl ?_
      refine Tr.icmp_ge (pc := 6) (tgt := 53) d_X6_afforded_6 rfl (fun c6 => ?_) (fun c6 => ?_)
      · refine Tr.iload_n (pc := 53) (i := 1) d_X6_afforded_53 rfl rfl ?_
        exact Tr.iret (pc := 54) d_X6_afforded_54 rfl ⟨hS, _, rfl, by omega, by omega⟩
      · refine Tr.aload_n (pc := 9) (i := 0) d_X6_afforded_9 rfl rfl ?_
        refine Tr.aload_n (pc := 10) (i := 0) d_X6_afforded_10 rfl rfl ?_
        refine Tr.getf (pc := 11) d_X6_afforded_11 f_6_68 (by decide) (by decide) (ty_74 hS.1.1) ?_
        refine Tr.gen (P := fun v => (-2147483648) ≤ v ∧ v ≤ 2147483647) (ir_74_9 hS.1.2.1) (fun r11 er11 br11 => ?_)
        refine Tr.iload (pc := 14) (i := 4) d_X6_afforded_14 rfl ?_
        refine Tr.iadd (pc := 16) d_X6_afforded_16 ?_
        refine Tr.gen (P := fun v => (-2147483648) ≤ v ∧ v ≤ 2147483647) (w32_b _) (fun r16 er16 br16 => ?_)
        refine Tr.iload_n (pc := 17) (i := 2) d_X6_afforded_17 rfl rfl ?_
        refine Tr.tp (-1) (by omega) ?_
        refine Tr.iload_n (pc := 18) (i := 3) d_X6_afforded_18 rfl rfl ?_
        refine Tr.tp 0 (by omega) ?_
        refine Tr.callV (pc := 19) (as := [_, _, _]) d_X6_afforded_19 s_6_186 ok_X6_sipsAt rfl rfl (Nat.le_of_ble_eq_true rfl) (Nat.le_of_ble_eq_true rfl) (by decide) (ty_74 hS.1.1) ?_
        refine Tr.imp (Tr.deep (by decide) (sp_X6_sipsAt_74_w3 hS.1 ((St.kp hS (by decide) (by decide) (by decide)).trans en_74_1) r16 (by omega) (-1) (by omega) 0 (by omega))) ?_
        rintro M19 _ ⟨h19, r19, rfl, lr19, ur19⟩
        have hS := St.tr hS h19 (by decide) (by decide)
        refine Tr.sc [(0, r19)] rfl ?_
        refine Tr.istore (pc := 22) (i := 5) (ls2 := [(5, (0, r19)), (0, (2, 74)), (1, (0, a1)), (2, (0, a2)), (3, (0, a3)), (4, (0, p3_4))]) d_X6_afforded_22 (by decide) rfl ?_
        refine Tr.iload (pc := 24) (i := 5) d_X6_afforded_24 rfl ?_
        refine Tr.aload_n (pc := 26) (i := 0) d_X6_afforded_26 rfl rfl ?_
        refine Tr.getf (pc := 27) d_X6_afforded_27 f_6_110 (by decide) (by decide) (ty_74 hS.1.1) ?_
        refine Tr.gen (P := fun v => (-2147483648) ≤ v ∧ v ≤ 2147483647) (ir_74_17 hS.1.2.1) (fun r27 er27 br27 => ?_)
        refine Tr.icmp_le (pc := 30) (tgt := 36) d_X6_afforded_30 rfl (fun c30 => ?_) (fun c30 => ?_)
        · refine Tr.aload_n (pc := 36) (i := 0) d_X6_afforded_36 rfl rfl ?_
          refine Tr.dup (pc := 37) d_X6_afforded_37 ne21 ?_
          refine Tr.getf (pc := 38) d_X6_afforded_38 f_6_110 (by decide) (by decide) (ty_74 hS.1.1) ?_
          refine Tr.tp r27 er27 ?_
          refine Tr.iload (pc := 41) (i := 5) d_X6_afforded_41 rfl ?_
          refine Tr.isub (pc := 43) d_X6_afforded_43 ?_
          refine Tr.gen (P := fun v => (-2147483648) ≤ v ∧ v ≤ 2147483647) (w32_b _) (fun r43 er43 br43 => ?_)
          refine Tr.putfS (pc := 44) (P := St Tru ws_X6_afforded_74_w6 as_X6_afforded_74_w6 M0) d_X6_afforded_44 f_6_110 (by decide) (by decide) (ty_74 hS.1.1) (st_74_17 hS (by decide) (by omega) trivial) (fun M44 hS w44 => ?_)
          refine Tr.iincV (pc := 47) (n2 := (p3_4 + 1)) (ls2 := [(4, (0, (p3_4 + 1))), (5, (0, r19)), (0, (2, 74)), (1, (0, a1)), (2, (0, a2)), (3, (0, a3))]) d_X6_afforded_47 rfl (by decide) ((w32_id (by omega)).trans (by omega)) rfl ?_
          refine Tr.goto (pc := 50) (tgt := 3) d_X6_afforded_50 rfl ?_
          refine Tr.pick [2, 3, 4, 5, 0] (ls2 := [(0, (2, 74)), (1, (0, a1)), (2, (0, a2)), (3, (0, a3)), (4, (0, (p3_4 + 1)))]) rfl ?_
          exact J3 _ _ hS (by omega) (by omega)
        · refine Tr.iload (pc := 33) (i := 4) d_X6_afforded_33 rfl ?_
          exact Tr.iret (pc := 35) d_X6_afforded_35 rfl ⟨hS, _, rfl, by omega, by omega⟩
  refine Tr.pick [1, 2, 3, 4, 0] (ls2 := [(0, (2, 74)), (1, (0, a1)), (2, (0, a2)), (3, (0, a3)), (4, (0, 0))]) rfl ?_
  exact J3 _ _ _ hS (by omega) (Nat.lt_succ_self _)

def ws_X6_pass_74_w6 : List (Int × Int) := [(74, 9), (74, 14), (74, 17)]
def as_X6_pass_74_w6 : List Int := []
def q_X6_pass_74_w6 (M0 M' : Mem) (r : Option PV) : Prop := St Tru ws_X6_pass_74_w6 as_X6_pass_74_w6 M0 M' ∧ ∃ v : Int, r = some (0, v) ∧ (-2147483648) ≤ v ∧ v ≤ 20
set_option maxRecDepth 100000 in
set_option maxHeartbeats 4000000 in
theorem sp_X6_pass_74_w6 {l : Launch} {K : EC} {M0 : Mem} (hI : In Tru M0) (en_74_1 : rd M0 74 1 = 27) (a1 : Int) (ha1 : (-1) ≤ a1 ∧ a1 ≤ 20) (a2 : Int) (ha2 : (-1) ≤ a2 ∧ a2 ≤ (-1)) (a3 : Int) (ha3 : 0 ≤ a3 ∧ a3 ≤ 0)  : Tr l K 2 mX6_pass 0 [(0, (2, 74)), (1, (0, a1)), (2, (0, a2)), (3, (0, a3))] [] M0 (q_X6_pass_74_w6 M0) := by
  have hS : St Tru ws_X6_pass_74_w6 as_X6_pass_74_w6 M0 M0 := St.rf hI
  refine Tr.iload_n (pc := 0) (i := 1) d_X6_pass_0 rfl rfl ?_
  refine Tr.sipush (pc := 1) d_X6_pass_1 rfl (by decide) ?_
  refine Tr.aload_n (pc := 4) (i := 0) d_X6_pass_4 rfl rfl ?_
  refine Tr.getf (pc := 5) d_X6_pass_5 f_6_68 (by decide) (by decide) (ty_74 hS.1.1) ?_
  refine Tr.gen (P := fun v => (-2147483648) ≤ v ∧ v ≤ 2147483647) (ir_74_9 hS.1.2.1) (fun r5 er5 br5 => ?_)
  refine Tr.isub (pc := 8) d_X6_pass_8 ?_
  refine Tr.gen (P := fun v => (-2147483648) ≤ v ∧ v ≤ 2147483647) (w32_b _) (fun r8 er8 br8 => ?_)
  refine Tr.mmin (pc := 9) d_X6_pass_9 ml_6_158 mw_mmin (Nat.le_of_ble_eq_true rfl) ?_
  refine Tr.gen (P := fun v => (v = a1 ∧ a1 ≤ r8) ∨ (v = r8 ∧ r8 ≤ a1)) (f_min_p _ _) (fun r9 er9 br9 => ?_)
  refine Tr.istore (pc := 12) (i := 4) (ls2 := [(4, (0, r9)), (0, (2, 74)), (1, (0, a1)), (2, (0, a2)), (3, (0, a3))]) d_X6_pass_12 (by decide) rfl ?_
  refine Tr.aload_n (pc := 14) (i := 0) d_X6_pass_14 rfl rfl ?_
  refine Tr.getz (pc := 15) d_X6_pass_15 f_6_106 (by decide) (ty_74 hS.1.1) ?_
  refine Tr.gen (P := fun v => 0 ≤ v ∧ v ≤ 1) (ir_74_16 hS.1.2.1) (fun r15 er15 br15 => ?_)
  have J34 : ∀ (M : Mem) (q34_0 : Int), St Tru ws_X6_pass_74_w6 as_X6_pass_74_w6 M0 M → ((-2147483648) ≤ q34_0 ∧ q34_0 ≤ 20) → rd M 74 16 = r15 → rd M 74 9 = r5 → Tr l K 2 mX6_pass 34 [(0, (2, 74)), (1, (0, a1)), (4, (0, r9))] [(0, q34_0)] M (q_X6_pass_74_w6 M0) := by
    intro M q34_0 hS bq34_0 k34_74_16 k34_74_9
    refine Tr.istore (pc := 34) (i := 5) (ls2 := [(5, (0, q34_0)), (0, (2, 74)), (1, (0, a1)), (4, (0, r9))]) d_X6_pass_34 (by decide) rfl ?_
    refine Tr.aload_n (pc := 36) (i := 0) d_X6_pass_36 rfl rfl ?_
    refine Tr.dup (pc := 37) d_X6_pass_37 ne21 ?_
    refine Tr.getf (pc := 38) d_X6_pass_38 f_6_68 (by decide) (by decide) (ty_74 hS.1.1) ?_
    refine Tr.tp r5 k34_74_9 ?_
    refine Tr.iload (pc := 41) (i := 5) d_X6_pass_41 rfl ?_
    refine Tr.iadd (pc := 43) d_X6_pass_43 ?_
    refine Tr.gen (P := fun v => (-2147483648) ≤ v ∧ v ≤ 2147483647) (w32_b _) (fun r43 er43 br43 => ?_)
    refine Tr.putfS (pc := 44) (P := St Tru ws_X6_pass_74_w6 as_X6_pass_74_w6 M0) d_X6_pass_44 f_6_68 (by decide) (by decide) (ty_74 hS.1.1) (st_74_9 hS (by decide) (by omega) trivial) (fun M44 hS w44 => ?_)
    refine Tr.iload (pc := 47) (i := 5) d_X6_pass_47 rfl ?_
    refine Tr.iload_n (pc := 49) (i := 1) d_X6_pass_49 rfl rfl ?_
    refine Tr.icmp_ge (pc := 50) (tgt := 69) d_X6_pass_50 rfl (fun c50 => ?_) (fun c50 => ?_)
    · refine Tr.iload (pc := 69) (i := 5) d_X6_pass_69 rfl ?_
      exact Tr.iret (pc := 71) d_X6_pass_71 rfl ⟨hS, _, rfl, by omega, by omega⟩
    · refine Tr.aload_n (pc := 53) (i := 0) d_X6_pass_53 rfl rfl ?_
      refine Tr.iload (pc := 54) (i := 5) d_X6_pass_54 rfl ?_
      refine Tr.iload (pc := 56) (i := 4) d_X6_pass_56 rfl ?_
      refine Tr.icmp_ne (pc := 58) (tgt := 65) d_X6_pass_58 rfl (fun c58 => ?_) (fun c58 => ?_)
      · refine Tr.iconst (pc := 65) d_X6_pass_65 (by decide) ?_
        refine Tr.putfS (pc := 66) (P := St Tru ws_X6_pass_74_w6 as_X6_pass_74_w6 M0) d_X6_pass_66 f_6_62 (by decide) (by decide) (ty_74 hS.1.1) (st_74_14 hS (by decide) (by omega) trivial) (fun M66 hS w66 => ?_)
        refine Tr.iload (pc := 69) (i := 5) d_X6_pass_69 rfl ?_
        exact Tr.iret (pc := 71) d_X6_pass_71 rfl ⟨hS, _, rfl, by omega, by omega⟩
      · refine Tr.iconst (pc := 61) d_X6_pass_61 (by decide) ?_
        refine Tr.goto (pc := 62) (tgt := 66) d_X6_pass_62 rfl ?_
        refine Tr.putfS (pc := 66) (P := St Tru ws_X6_pass_74_w6 as_X6_pass_74_w6 M0) d_X6_pass_66 f_6_62 (by decide) (by decide) (ty_74 hS.1.1) (st_74_14 hS (by decide) (by omega) trivial) (fun M66 hS w66 => ?_)
        refine Tr.iload (pc := 69) (i := 5) d_X6_pass_69 rfl ?_
        exact Tr.iret (pc := 71) d_X6_pass_71 rfl ⟨hS, _, rfl, by omega, by omega⟩
  refine Tr.if_eq (pc := 18) (tgt := 32) d_X6_pass_18 rfl (fun c18 => ?_) (fun c18 => ?_)
  · refine Tr.iload (pc := 32) (i := 4) d_X6_pass_32 rfl ?_
    refine Tr.pick [1, 2, 0] (ls2 := [(0, (2, 74)), (1, (0, a1)), (4, (0, r9))]) rfl ?_
    exact J34 _ _ hS (by omega) er15 er5
  · refine Tr.aload_n (pc := 21) (i := 0) d_X6_pass_21 rfl rfl ?_
    refine Tr.iload (pc := 22) (i := 4) d_X6_pass_22 rfl ?_
    refine Tr.iload_n (pc := 24) (i := 2) d_X6_pass_24 rfl rfl ?_
    refine Tr.tp (-1) (by omega) ?_
    refine Tr.iload_n (pc := 25) (i := 3) d_X6_pass_25 rfl rfl ?_
    refine Tr.tp 0 (by omega) ?_
    refine Tr.callV (pc := 26) (as := [_, _, _]) d_X6_pass_26 s_6_183 ok_X6_afforded rfl rfl (Nat.le_of_ble_eq_true rfl) (Nat.le_of_ble_eq_true rfl) (by decide) (ty_74 hS.1.1) ?_
    refine Tr.imp (Tr.deep (by decide) (sp_X6_afforded_74_w6 hS.1 ((St.kp hS (by decide) (by decide) (by decide)).trans en_74_1) r9 (by omega) (-1) (by omega) 0 (by omega))) ?_
    rintro M26 _ ⟨h26, r26, rfl, lr26, ur26⟩
    have hS := St.tr hS h26 (by decide) (by decide)
    refine Tr.sc [(0, r26)] rfl ?_
    refine Tr.goto (pc := 29) (tgt := 34) d_X6_pass_29 rfl ?_
    refine Tr.pick [1, 2, 0] (ls2 := [(0, (2, 74)), (1, (0, a1)), (4, (0, r9))]) rfl ?_
    exact J34 _ _ hS (by omega) ((St.kp h26 (by decide) (by decide) (by decide)).trans er15) ((St.kp h26 (by decide) (by decide) (by decide)).trans er5)

def ws_X6_touch_74_w1 : List (Int × Int) := [(74, 9), (74, 12), (74, 13), (74, 14), (74, 17)]
def as_X6_touch_74_w1 : List Int := [78]
def q_X6_touch_74_w1 (M0 M' : Mem) (r : Option PV) : Prop := St Tru ws_X6_touch_74_w1 as_X6_touch_74_w1 M0 M' ∧ r = none
set_option maxRecDepth 100000 in
set_option maxHeartbeats 4000000 in
theorem sp_X6_touch_74_w1 {l : Launch} {K : EC} {M0 : Mem} (hI : In Tru M0) (en_74_1 : rd M0 74 1 = 27) (a1 : Int) (ha1 : 0 ≤ a1 ∧ a1 ≤ 999)  : Tr l K 3 mX6_touch 0 [(0, (2, 74)), (1, (0, a1))] [] M0 (q_X6_touch_74_w1 M0) := by
  have hS : St Tru ws_X6_touch_74_w1 as_X6_touch_74_w1 M0 M0 := St.rf hI
  refine Tr.aload_n (pc := 0) (i := 0) d_X6_touch_0 rfl rfl ?_
  refine Tr.dup (pc := 1) d_X6_touch_1 ne21 ?_
  refine Tr.getf (pc := 2) d_X6_touch_2 f_6_103 (by decide) (by decide) (ty_74 hS.1.1) ?_
  refine Tr.gen (P := fun v => (-2147483648) ≤ v ∧ v ≤ 2147483647) (ir_74_13 hS.1.2.1) (fun r2 er2 br2 => ?_)
  refine Tr.iconst (pc := 5) d_X6_touch_5 (by decide) ?_
  refine Tr.iadd (pc := 6) d_X6_touch_6 ?_
  refine Tr.gen (P := fun v => (-2147483648) ≤ v ∧ v ≤ 2147483647) (w32_b _) (fun r6 er6 br6 => ?_)
  refine Tr.putfS (pc := 7) (P := St Tru ws_X6_touch_74_w1 as_X6_touch_74_w1 M0) d_X6_touch_7 f_6_103 (by decide) (by decide) (ty_74 hS.1.1) (st_74_13 hS (by decide) (by omega) trivial) (fun M7 hS w7 => ?_)
  refine Tr.aload_n (pc := 10) (i := 0) d_X6_touch_10 rfl rfl ?_
  refine Tr.getf (pc := 11) d_X6_touch_11 f_6_46 (by decide) (by decide) (ty_74 hS.1.1) ?_
  refine Tr.tp 27 ((St.kp hS (by decide) (by decide) (by decide)).trans en_74_1) ?_
  refine Tr.getf (pc := 14) d_X6_touch_14 f_6_217 (by decide) (by decide) (ty_27 hS.1.1) ?_
  refine Tr.gen (P := fun v => (-1) ≤ v ∧ v ≤ 8) (ir_27_2 hS.1.2.1) (fun r14 er14 br14 => ?_)
  refine Tr.if_le (pc := 17) (tgt := 42) d_X6_touch_17 rfl (fun c17 => ?_) (fun c17 => ?_)
  · exact Tr.vret (pc := 42) d_X6_touch_42 rfl ⟨hS, rfl⟩
  · refine Tr.aload_n (pc := 20) (i := 0) d_X6_touch_20 rfl rfl ?_
    refine Tr.getf (pc := 21) d_X6_touch_21 f_6_46 (by decide) (by decide) (ty_74 hS.1.1) ?_
    refine Tr.tp 27 ((St.kp hS (by decide) (by decide) (by decide)).trans en_74_1) ?_
    refine Tr.getf (pc := 24) d_X6_touch_24 f_6_220 (by decide) (by decide) (ty_27 hS.1.1) ?_
    refine Tr.gen (P := fun v => (-1) ≤ v ∧ v ≤ 8) (ir_27_1 hS.1.2.1) (fun r24 er24 br24 => ?_)
    refine Tr.if_le (pc := 27) (tgt := 42) d_X6_touch_27 rfl (fun c27 => ?_) (fun c27 => ?_)
    · exact Tr.vret (pc := 42) d_X6_touch_42 rfl ⟨hS, rfl⟩
    · refine Tr.aload_n (pc := 30) (i := 0) d_X6_touch_30 rfl rfl ?_
      refine Tr.getf (pc := 31) d_X6_touch_31 f_6_46 (by decide) (by decide) (ty_74 hS.1.1) ?_
      refine Tr.tp 27 ((St.kp hS (by decide) (by decide) (by decide)).trans en_74_1) ?_
      refine Tr.getf (pc := 34) d_X6_touch_34 f_6_220 (by decide) (by decide) (ty_27 hS.1.1) ?_
      refine Tr.tp r24 er24 ?_
      refine Tr.bipush (pc := 37) d_X6_touch_37 rfl (by decide) ?_
      refine Tr.icmp_le (pc := 39) (tgt := 43) d_X6_touch_39 rfl (fun _ => ?_) (fun hc => absurd (by omega) hc)
      refine Tr.iload_n (pc := 43) (i := 1) d_X6_touch_43 rfl rfl ?_
      refine Tr.aload_n (pc := 44) (i := 0) d_X6_touch_44 rfl rfl ?_
      refine Tr.getf (pc := 45) d_X6_touch_45 f_6_46 (by decide) (by decide) (ty_74 hS.1.1) ?_
      refine Tr.tp 27 ((St.kp hS (by decide) (by decide) (by decide)).trans en_74_1) ?_
      refine Tr.getf (pc := 48) d_X6_touch_48 f_6_217 (by decide) (by decide) (ty_27 hS.1.1) ?_
      refine Tr.tp r14 er14 ?_
      refine Tr.idiv (pc := 51) d_X6_touch_51 (by omega) ?_
      refine Tr.gen (P := fun v => 0 ≤ v ∧ v ≤ 999) (div32_p (A := 999) (by omega) (by omega) (by omega) (by omega)) (fun r51 er51 br51 => ?_)
      refine Tr.istore_n (pc := 52) (i := 2) (ls2 := [(2, (0, r51)), (0, (2, 74)), (1, (0, a1))]) d_X6_touch_52 rfl (by decide) rfl ?_
      refine Tr.iload_n (pc := 53) (i := 2) d_X6_touch_53 rfl rfl ?_
      refine Tr.aload_n (pc := 54) (i := 0) d_X6_touch_54 rfl rfl ?_
      refine Tr.getf (pc := 55) d_X6_touch_55 f_6_46 (by decide) (by decide) (ty_74 hS.1.1) ?_
      refine Tr.tp 27 ((St.kp hS (by decide) (by decide) (by decide)).trans en_74_1) ?_
      refine Tr.getf (pc := 58) d_X6_touch_58 f_6_220 (by decide) (by decide) (ty_27 hS.1.1) ?_
      refine Tr.tp r24 er24 ?_
      refine Tr.irem (pc := 61) d_X6_touch_61 (by omega) ?_
      refine Tr.gen (P := fun v => 0 ≤ v ∧ v ≤ 7) (rem_p (A := 7) (by omega) (by omega) (by omega)) (fun r61 er61 br61 => ?_)
      refine Tr.istore_n (pc := 62) (i := 3) (ls2 := [(3, (0, r61)), (2, (0, r51)), (0, (2, 74)), (1, (0, a1))]) d_X6_touch_62 rfl (by decide) rfl ?_
      refine Tr.aload_n (pc := 63) (i := 0) d_X6_touch_63 rfl rfl ?_
      refine Tr.getf (pc := 64) d_X6_touch_64 f_6_21 (by decide) (by decide) (ty_74 hS.1.1) ?_
      refine Tr.tp 78 (fx_74_5 hS.1.1) ?_
      refine Tr.iload_n (pc := 67) (i := 3) d_X6_touch_67 rfl rfl ?_
      refine Tr.iald (pc := 68) d_X6_touch_68 (ty_78 hS.1.1) (by omega) (by omega) ?_
      refine Tr.gen (P := fun v => (-2147483648) ≤ v ∧ v ≤ 2147483647) (ar_78 hS.1.2.1 _) (fun r68 er68 br68 => ?_)
      refine Tr.iload_n (pc := 69) (i := 2) d_X6_touch_69 rfl rfl ?_
      refine Tr.icmp_eq (pc := 70) (tgt := 104) d_X6_touch_70 rfl (fun c70 => ?_) (fun c70 => ?_)
      · exact Tr.vret (pc := 104) d_X6_touch_104 rfl ⟨hS, rfl⟩
      · refine Tr.aload_n (pc := 73) (i := 0) d_X6_touch_73 rfl rfl ?_
        refine Tr.dup (pc := 74) d_X6_touch_74 ne21 ?_
        refine Tr.getf (pc := 75) d_X6_touch_75 f_6_100 (by decide) (by decide) (ty_74 hS.1.1) ?_
        refine Tr.gen (P := fun v => (-2147483648) ≤ v ∧ v ≤ 2147483647) (ir_74_12 hS.1.2.1) (fun r75 er75 br75 => ?_)
        refine Tr.iconst (pc := 78) d_X6_touch_78 (by decide) ?_
        refine Tr.iadd (pc := 79) d_X6_touch_79 ?_
        refine Tr.gen (P := fun v => (-2147483648) ≤ v ∧ v ≤ 2147483647) (w32_b _) (fun r79 er79 br79 => ?_)
        refine Tr.putfS (pc := 80) (P := St Tru ws_X6_touch_74_w1 as_X6_touch_74_w1 M0) d_X6_touch_80 f_6_100 (by decide) (by decide) (ty_74 hS.1.1) (st_74_12 hS (by decide) (by omega) trivial) (fun M80 hS w80 => ?_)
        refine Tr.aload_n (pc := 83) (i := 0) d_X6_touch_83 rfl rfl ?_
        refine Tr.getf (pc := 84) d_X6_touch_84 f_6_21 (by decide) (by decide) (ty_74 hS.1.1) ?_
        refine Tr.tp 78 (fx_74_5 hS.1.1) ?_
        refine Tr.iload_n (pc := 87) (i := 3) d_X6_touch_87 rfl rfl ?_
        refine Tr.iload_n (pc := 88) (i := 2) d_X6_touch_88 rfl rfl ?_
        refine Tr.iastS (pc := 89) (P := St Tru ws_X6_touch_74_w1 as_X6_touch_74_w1 M0) d_X6_touch_89 (ty_78 hS.1.1) (by omega) (by omega) (sa_78 hS (by decide) (by omega) trivial) (fun M89 hS w89 => ?_)
        refine Tr.aload_n (pc := 90) (i := 0) d_X6_touch_90 rfl rfl ?_
        refine Tr.aload_n (pc := 91) (i := 0) d_X6_touch_91 rfl rfl ?_
        refine Tr.getf (pc := 92) d_X6_touch_92 f_6_46 (by decide) (by decide) (ty_74 hS.1.1) ?_
        refine Tr.tp 27 ((St.kp hS (by decide) (by decide) (by decide)).trans en_74_1) ?_
        refine Tr.getf (pc := 95) d_X6_touch_95 f_6_223 (by decide) (by decide) (ty_27 hS.1.1) ?_
        refine Tr.gen (P := fun v => (-1) ≤ v ∧ v ≤ 20) (ir_27_3 hS.1.2.1) (fun r95 er95 br95 => ?_)
        refine Tr.iconst (pc := 98) d_X6_touch_98 (by decide) ?_
        refine Tr.iconst (pc := 99) d_X6_touch_99 (by decide) ?_
        refine Tr.callV (pc := 100) (as := [_, _, _]) d_X6_touch_100 s_6_145 ok_X6_pass rfl rfl (Nat.le_of_ble_eq_true rfl) (Nat.le_of_ble_eq_true rfl) (by decide) (ty_74 hS.1.1) ?_
        refine Tr.imp (Tr.deep (by decide) (sp_X6_pass_74_w6 hS.1 ((St.kp hS (by decide) (by decide) (by decide)).trans en_74_1) r95 (by omega) (-1) (by omega) 0 (by omega))) ?_
        rintro M100 _ ⟨h100, r100, rfl, lr100, ur100⟩
        have hS := St.tr hS h100 (by decide) (by decide)
        refine Tr.sc [(0, r100)] rfl ?_
        refine Tr.pop (pc := 103) d_X6_touch_103 ne01 ?_
        exact Tr.vret (pc := 104) d_X6_touch_104 rfl ⟨hS, rfl⟩

def ws_X6_afforded_74_w7 : List (Int × Int) := [(74, 17)]
def as_X6_afforded_74_w7 : List Int := []
def q_X6_afforded_74_w7 (M0 M' : Mem) (r : Option PV) : Prop := St Tru ws_X6_afforded_74_w7 as_X6_afforded_74_w7 M0 M' ∧ ∃ v : Int, r = some (0, v) ∧ (-2147483648) ≤ v ∧ v ≤ 100
set_option maxRecDepth 100000 in
set_option maxHeartbeats 4000000 in
theorem sp_X6_afforded_74_w7 {l : Launch} {K : EC} {M0 : Mem} (hI : In Tru M0) (en_74_1 : rd M0 74 1 = 27) (a1 : Int) (ha1 : (-2147483648) ≤ a1 ∧ a1 ≤ 100) (a2 : Int) (ha2 : (-1) ≤ a2 ∧ a2 ≤ (-1)) (a3 : Int) (ha3 : 0 ≤ a3 ∧ a3 ≤ 0)  : Tr l K 1 mX6_afforded 0 [(0, (2, 74)), (1, (0, a1)), (2, (0, a2)), (3, (0, a3))] [] M0 (q_X6_afforded_74_w7 M0) := by
  have hS : St Tru ws_X6_afforded_74_w7 as_X6_afforded_74_w7 M0 M0 := St.rf hI
  refine Tr.iconst (pc := 0) d_X6_afforded_0 (by decide) ?_
  refine Tr.istore (pc := 1) (i := 4) (ls2 := [(4, (0, 0)), (0, (2, 74)), (1, (0, a1)), (2, (0, a2)), (3, (0, a3))]) d_X6_afforded_1 (by decide) rfl ?_
  have J3 : ∀ (n3 : Nat) (M : Mem) (p3_4 : Int), St Tru ws_X6_afforded_74_w7 as_X6_afforded_74_w7 M0 M → (0 ≤ p3_4 ∧ p3_4 ≤ 100) → (100 - p3_4).toNat < n3 → Tr l K 1 mX6_afforded 3 [(0, (2, 74)), (1, (0, a1)), (2, (0, a2)), (3, (0, a3)), (4, (0, p3_4))] [] M (q_X6_afforded_74_w7 M0) := by
    intro n3
    induction n3 with
    | zero => intro M p3_4 hS bp3_4  hm3; exact absurd hm3 (Nat.not_lt_zero _)
    | succ n3 J3 =>
      intro M p3_4 hS bp3_4  hm3
      refine Tr.iload (pc := 3) (i := 4) d_X6_afforded_3 rfl ?_
      refine Tr.iload_n (pc := 5) (i := 1) d_X6_afforded_5 rfl rfl ?_
      refine Tr.icmp_ge (pc := 6) (tgt := 53) d_X6_afforded_6 rfl (fun c6 => ?_) (fun c6 => ?_)
      · refine Tr.iload_n (pc := 53) (i := 1) d_X6_afforded_53 rfl rfl ?_
        exact Tr.iret (pc := 54) d_X6_afforded_54 rfl ⟨hS, _, rfl, by omega, by omega⟩
      · refine Tr.aload_n (pc := 9) (i := 0) d_X6_afforded_9 rfl rfl ?_
        refine Tr.aload_n (pc := 10) (i := 0) d_X6_afforded_10 rfl rfl ?_
        refine Tr.getf (pc := 11) d_X6_afforded_11 f_6_68 (by decide) (by decide) (ty_74 hS.1.1) ?_
        refine Tr.gen (P := fun v => (-2147483648) ≤ v ∧ v ≤ 2147483647) (ir_74_9 hS.1.2.1) (fun r11 er11 br11 => ?_)
        refine Tr.iload (pc := 14) (i := 4) d_X6_afforded_14 rfl ?_
        refine Tr.iadd (pc := 16) d_X6_afforded_16 ?_
        refine Tr.gen (P := fun v => (-2147483648) ≤ v ∧ v ≤ 2147483647) (w32_b _) (fun r16 er16 br16 => ?_)
        refine Tr.iload_n (pc := 17) (i := 2) d_X6_afforded_17 rfl rfl ?_
        refine Tr.tp (-1) (by omega) ?_
        refine Tr.iload_n (pc := 18) (i := 3) d_X6_afforded_18 rfl rfl ?_
        refine Tr.tp 0 (by omega) ?_
        refine Tr.callV (pc := 19) (as := [_, _, _]) d_X6_afforded_19 s_6_186 ok_X6_sipsAt rfl rfl (Nat.le_of_ble_eq_true rfl) (Nat.le_of_ble_eq_true rfl) (by decide) (ty_74 hS.1.1) ?_
        refine Tr.imp (Tr.deep (by decide) (sp_X6_sipsAt_74_w3 hS.1 ((St.kp hS (by decide) (by decide) (by decide)).trans en_74_1) r16 (by omega) (-1) (by omega) 0 (by omega))) ?_
        rintro M19 _ ⟨h19, r19, rfl, lr19, ur19⟩
        have hS := St.tr hS h19 (by decide) (by decide)
        refine Tr.sc [(0, r19)] rfl ?_
        refine Tr.istore (pc := 22) (i := 5) (ls2 := [(5, (0, r19)), (0, (2, 74)), (1, (0, a1)), (2, (0, a2)), (3, (0, a3)), (4, (0, p3_4))]) d_X6_afforded_22 (by decide) rfl ?_
        refine Tr.iload (pc := 24) (i := 5) d_X6_afforded_24 rfl ?_
        refine Tr.aload_n (pc := 26) (i := 0) d_X6_afforded_26 rfl rfl ?_
        refine Tr.getf (pc := 27) d_X6_afforded_27 f_6_110 (by decide) (by decide) (ty_74 hS.1.1) ?_
        refine Tr.gen (P := fun v => (-2147483648) ≤ v ∧ v ≤ 2147483647) (ir_74_17 hS.1.2.1) (fun r27 er27 br27 => ?_)
        refine Tr.icmp_le (pc := 30) (tgt := 36) d_X6_afforded_30 rfl (fun c30 => ?_) (fun c30 => ?_)
        · refine Tr.aload_n (pc := 36) (i := 0) d_X6_afforded_36 rfl rfl ?_
          refine Tr.dup (pc := 37) d_X6_afforded_37 ne21 ?_
          refine Tr.getf (pc := 38) d_X6_afforded_38 f_6_110 (by decide) (by decide) (ty_74 hS.1.1) ?_
          refine Tr.tp r27 er27 ?_
          refine Tr.iload (pc := 41) (i := 5) d_X6_afforded_41 rfl ?_
          refine Tr.isub (pc := 43) d_X6_afforded_43 ?_
          refine Tr.gen (P := fun v => (-2147483648) ≤ v ∧ v ≤ 2147483647) (w32_b _) (fun r43 er43 br43 => ?_)
          refine Tr.putfS (pc := 44) (P := St Tru ws_X6_afforded_74_w7 as_X6_afforded_74_w7 M0) d_X6_afforded_44 f_6_110 (by decide) (by decide) (ty_74 hS.1.1) (st_74_17 hS (by decide) (by omega) trivial) (fun M44 hS w44 => ?_)
          refine Tr.iincV (pc := 47) (n2 := (p3_4 + 1)) (ls2 := [(4, (0, (p3_4 + 1))), (5, (0, r19)), (0, (2, 74)), (1, (0, a1)), (2, (0, a2)), (3, (0, a3))]) d_X6_afforded_47 rfl (by decide) ((w32_id (by omega)).trans (by omega)) rfl ?_
          refine Tr.goto (pc := 50) (tgt := 3) d_X6_afforded_50 rfl ?_
          refine Tr.pick [2, 3, 4, 5, 0] (ls2 := [(0, (2, 74)), (1, (0, a1)), (2, (0, a2)), (3, (0, a3)), (4, (0, (p3_4 + 1)))]) rfl ?_
          exact J3 _ _ hS (by omega) (by omega)
        · refine Tr.iload (pc := 33) (i := 4) d_X6_afforded_33 rfl ?_
          exact Tr.iret (pc := 35) d_X6_afforded_35 rfl ⟨hS, _, rfl, by omega, by omega⟩
  refine Tr.pick [1, 2, 3, 4, 0] (ls2 := [(0, (2, 74)), (1, (0, a1)), (2, (0, a2)), (3, (0, a3)), (4, (0, 0))]) rfl ?_
  exact J3 _ _ _ hS (by omega) (Nat.lt_succ_self _)

def ws_X6_pass_74_w7 : List (Int × Int) := [(74, 9), (74, 14), (74, 17)]
def as_X6_pass_74_w7 : List Int := []
def q_X6_pass_74_w7 (M0 M' : Mem) (r : Option PV) : Prop := St Tru ws_X6_pass_74_w7 as_X6_pass_74_w7 M0 M' ∧ ∃ v : Int, r = some (0, v) ∧ (-2147483648) ≤ v ∧ v ≤ 100
set_option maxRecDepth 100000 in
set_option maxHeartbeats 4000000 in
theorem sp_X6_pass_74_w7 {l : Launch} {K : EC} {M0 : Mem} (hI : In Tru M0) (en_74_1 : rd M0 74 1 = 27) (a1 : Int) (ha1 : 0 ≤ a1 ∧ a1 ≤ 100) (a2 : Int) (ha2 : (-1) ≤ a2 ∧ a2 ≤ (-1)) (a3 : Int) (ha3 : 0 ≤ a3 ∧ a3 ≤ 0)  : Tr l K 2 mX6_pass 0 [(0, (2, 74)), (1, (0, a1)), (2, (0, a2)), (3, (0, a3))] [] M0 (q_X6_pass_74_w7 M0) := by
  have hS : St Tru ws_X6_pass_74_w7 as_X6_pass_74_w7 M0 M0 := St.rf hI
  refine Tr.iload_n (pc := 0) (i := 1) d_X6_pass_0 rfl rfl ?_
  refine Tr.sipush (pc := 1) d_X6_pass_1 rfl (by decide) ?_
  refine Tr.aload_n (pc := 4) (i := 0) d_X6_pass_4 rfl rfl ?_
  refine Tr.getf (pc := 5) d_X6_pass_5 f_6_68 (by decide) (by decide) (ty_74 hS.1.1) ?_
  refine Tr.gen (P := fun v => (-2147483648) ≤ v ∧ v ≤ 2147483647) (ir_74_9 hS.1.2.1) (fun r5 er5 br5 => ?_)
  refine Tr.isub (pc := 8) d_X6_pass_8 ?_
  refine Tr.gen (P := fun v => (-2147483648) ≤ v ∧ v ≤ 2147483647) (w32_b _) (fun r8 er8 br8 => ?_)
  refine Tr.mmin (pc := 9) d_X6_pass_9 ml_6_158 mw_mmin (Nat.le_of_ble_eq_true rfl) ?_
  refine Tr.gen (P := fun v => (v = a1 ∧ a1 ≤ r8) ∨ (v = r8 ∧ r8 ≤ a1)) (f_min_p _ _) (fun r9 er9 br9 => ?_)
  refine Tr.istore (pc := 12) (i := 4) (ls2 := [(4, (0, r9)), (0, (2, 74)), (1, (0, a1)), (2, (0, a2)), (3, (0, a3))]) d_X6_pass_12 (by decide) rfl ?_
  refine Tr.aload_n (pc := 14) (i := 0) d_X6_pass_14 rfl rfl ?_
  refine Tr.getz (pc := 15) d_X6_pass_15 f_6_106 (by decide) (ty_74 hS.1.1) ?_
  refine Tr.gen (P := fun v => 0 ≤ v ∧ v ≤ 1) (ir_74_16 hS.1.2.1) (fun r15 er15 br15 => ?_)
  have J34 : ∀ (M : Mem) (q34_0 : Int), St Tru ws_X6_pass_74_w7 as_X6_pass_74_w7 M0 M → ((-2147483648) ≤ q34_0 ∧ q34_0 ≤ 100) → rd M 74 16 = r15 → rd M 74 9 = r5 → Tr l K 2 mX6_pass 34 [(0, (2, 74)), (1, (0, a1)), (4, (0, r9))] [(0, q34_0)] M (q_X6_pass_74_w7 M0) := by
    intro M q34_0 hS bq34_0 k34_74_16 k34_74_9
    refine Tr.istore (pc := 34) (i := 5) (ls2 := [(5, (0, q34_0)), (0, (2, 74)), (1, (0, a1)), (4, (0, r9))]) d_X6_pass_34 (by decide) rfl ?_
    refine Tr.aload_n (pc := 36) (i := 0) d_X6_pass_36 rfl rfl ?_
    refine Tr.dup (pc := 37) d_X6_pass_37 ne21 ?_
    refine Tr.getf (pc := 38) d_X6_pass_38 f_6_68 (by decide) (by decide) (ty_74 hS.1.1) ?_
    refine Tr.tp r5 k34_74_9 ?_
    refine Tr.iload (pc := 41) (i := 5) d_X6_pass_41 rfl ?_
    refine Tr.iadd (pc := 43) d_X6_pass_43 ?_
    refine Tr.gen (P := fun v => (-2147483648) ≤ v ∧ v ≤ 2147483647) (w32_b _) (fun r43 er43 br43 => ?_)
    refine Tr.putfS (pc := 44) (P := St Tru ws_X6_pass_74_w7 as_X6_pass_74_w7 M0) d_X6_pass_44 f_6_68 (by decide) (by decide) (ty_74 hS.1.1) (st_74_9 hS (by decide) (by omega) trivial) (fun M44 hS w44 => ?_)
    refine Tr.iload (pc := 47) (i := 5) d_X6_pass_47 rfl ?_
    refine Tr.iload_n (pc := 49) (i := 1) d_X6_pass_49 rfl rfl ?_
    refine Tr.icmp_ge (pc := 50) (tgt := 69) d_X6_pass_50 rfl (fun c50 => ?_) (fun c50 => ?_)
    · refine Tr.iload (pc := 69) (i := 5) d_X6_pass_69 rfl ?_
      exact Tr.iret (pc := 71) d_X6_pass_71 rfl ⟨hS, _, rfl, by omega, by omega⟩
    · refine Tr.aload_n (pc := 53) (i := 0) d_X6_pass_53 rfl rfl ?_
      refine Tr.iload (pc := 54) (i := 5) d_X6_pass_54 rfl ?_
      refine Tr.iload (pc := 56) (i := 4) d_X6_pass_56 rfl ?_
      refine Tr.icmp_ne (pc := 58) (tgt := 65) d_X6_pass_58 rfl (fun c58 => ?_) (fun c58 => ?_)
      · refine Tr.iconst (pc := 65) d_X6_pass_65 (by decide) ?_
        refine Tr.putfS (pc := 66) (P := St Tru ws_X6_pass_74_w7 as_X6_pass_74_w7 M0) d_X6_pass_66 f_6_62 (by decide) (by decide) (ty_74 hS.1.1) (st_74_14 hS (by decide) (by omega) trivial) (fun M66 hS w66 => ?_)
        refine Tr.iload (pc := 69) (i := 5) d_X6_pass_69 rfl ?_
        exact Tr.iret (pc := 71) d_X6_pass_71 rfl ⟨hS, _, rfl, by omega, by omega⟩
      · refine Tr.iconst (pc := 61) d_X6_pass_61 (by decide) ?_
        refine Tr.goto (pc := 62) (tgt := 66) d_X6_pass_62 rfl ?_
        refine Tr.putfS (pc := 66) (P := St Tru ws_X6_pass_74_w7 as_X6_pass_74_w7 M0) d_X6_pass_66 f_6_62 (by decide) (by decide) (ty_74 hS.1.1) (st_74_14 hS (by decide) (by omega) trivial) (fun M66 hS w66 => ?_)
        refine Tr.iload (pc := 69) (i := 5) d_X6_pass_69 rfl ?_
        exact Tr.iret (pc := 71) d_X6_pass_71 rfl ⟨hS, _, rfl, by omega, by omega⟩
  refine Tr.if_eq (pc := 18) (tgt := 32) d_X6_pass_18 rfl (fun c18 => ?_) (fun c18 => ?_)
  · refine Tr.iload (pc := 32) (i := 4) d_X6_pass_32 rfl ?_
    refine Tr.pick [1, 2, 0] (ls2 := [(0, (2, 74)), (1, (0, a1)), (4, (0, r9))]) rfl ?_
    exact J34 _ _ hS (by omega) er15 er5
  · refine Tr.aload_n (pc := 21) (i := 0) d_X6_pass_21 rfl rfl ?_
    refine Tr.iload (pc := 22) (i := 4) d_X6_pass_22 rfl ?_
    refine Tr.iload_n (pc := 24) (i := 2) d_X6_pass_24 rfl rfl ?_
    refine Tr.tp (-1) (by omega) ?_
    refine Tr.iload_n (pc := 25) (i := 3) d_X6_pass_25 rfl rfl ?_
    refine Tr.tp 0 (by omega) ?_
    refine Tr.callV (pc := 26) (as := [_, _, _]) d_X6_pass_26 s_6_183 ok_X6_afforded rfl rfl (Nat.le_of_ble_eq_true rfl) (Nat.le_of_ble_eq_true rfl) (by decide) (ty_74 hS.1.1) ?_
    refine Tr.imp (Tr.deep (by decide) (sp_X6_afforded_74_w7 hS.1 ((St.kp hS (by decide) (by decide) (by decide)).trans en_74_1) r9 (by omega) (-1) (by omega) 0 (by omega))) ?_
    rintro M26 _ ⟨h26, r26, rfl, lr26, ur26⟩
    have hS := St.tr hS h26 (by decide) (by decide)
    refine Tr.sc [(0, r26)] rfl ?_
    refine Tr.goto (pc := 29) (tgt := 34) d_X6_pass_29 rfl ?_
    refine Tr.pick [1, 2, 0] (ls2 := [(0, (2, 74)), (1, (0, a1)), (4, (0, r9))]) rfl ?_
    exact J34 _ _ hS (by omega) ((St.kp h26 (by decide) (by decide) (by decide)).trans er15) ((St.kp h26 (by decide) (by decide) (by decide)).trans er5)

def ws_X6_wakeOf_74_w1 : List (Int × Int) := []
def as_X6_wakeOf_74_w1 : List Int := []
def q_X6_wakeOf_74_w1 (M0 M' : Mem) (r : Option PV) : Prop := St Tru ws_X6_wakeOf_74_w1 as_X6_wakeOf_74_w1 M0 M' ∧ ∃ v : Int, r = some (0, v) ∧ (-1) ≤ v ∧ v ≤ 20
set_option maxRecDepth 100000 in
set_option maxHeartbeats 4000000 in
theorem sp_X6_wakeOf_74_w1 {l : Launch} {K : EC} {M0 : Mem} (hI : In Tru M0) (en_74_1 : rd M0 74 1 = 27) (a1 : Int) (ha1 : 0 ≤ a1 ∧ a1 ≤ 5)  : Tr l K 0 mX6_wakeOf 0 [(0, (2, 74)), (1, (0, a1))] [] M0 (q_X6_wakeOf_74_w1 M0) := by
  have hS : St Tru ws_X6_wakeOf_74_w1 as_X6_wakeOf_74_w1 M0 M0 := St.rf hI
  refine Tr.aload_n (pc := 0) (i := 0) d_X6_wakeOf_0 rfl rfl ?_
  refine Tr.getf (pc := 1) d_X6_wakeOf_1 f_6_24 (by decide) (by decide) (ty_74 hS.1.1) ?_
  refine Tr.tp 79 (fx_74_6 hS.1.1) ?_
  refine Tr.iload_n (pc := 4) (i := 1) d_X6_wakeOf_4 rfl rfl ?_
  refine Tr.iald (pc := 5) d_X6_wakeOf_5 (ty_79 hS.1.1) (by omega) (by omega) ?_
  refine Tr.gen (P := fun v => 0 ≤ v ∧ v ≤ 1) (ar_79 hS.1.2.1 _) (fun r5 er5 br5 => ?_)
  refine Tr.if_ne (pc := 6) (tgt := 34) d_X6_wakeOf_6 rfl (fun c6 => ?_) (fun c6 => ?_)
  · refine Tr.iconst (pc := 34) d_X6_wakeOf_34 (by decide) ?_
    exact Tr.iret (pc := 35) d_X6_wakeOf_35 rfl ⟨hS, _, rfl, by omega, by omega⟩
  · refine Tr.aload_n (pc := 9) (i := 0) d_X6_wakeOf_9 rfl rfl ?_
    refine Tr.getf (pc := 10) d_X6_wakeOf_10 f_6_27 (by decide) (by decide) (ty_74 hS.1.1) ?_
    refine Tr.tp 80 (fx_74_7 hS.1.1) ?_
    refine Tr.iload_n (pc := 13) (i := 1) d_X6_wakeOf_13 rfl rfl ?_
    refine Tr.iald (pc := 14) d_X6_wakeOf_14 (ty_80 hS.1.1) (by omega) (by omega) ?_
    refine Tr.gen (P := fun v => (-2147483648) ≤ v ∧ v ≤ 2147483647) (ar_80 hS.1.2.1 _) (fun r14 er14 br14 => ?_)
    refine Tr.aload_n (pc := 15) (i := 0) d_X6_wakeOf_15 rfl rfl ?_
    refine Tr.getf (pc := 16) d_X6_wakeOf_16 f_6_68 (by decide) (by decide) (ty_74 hS.1.1) ?_
    refine Tr.gen (P := fun v => (-2147483648) ≤ v ∧ v ≤ 2147483647) (ir_74_9 hS.1.2.1) (fun r16 er16 br16 => ?_)
    refine Tr.icmp_gt (pc := 19) (tgt := 34) d_X6_wakeOf_19 rfl (fun c19 => ?_) (fun c19 => ?_)
    · refine Tr.iconst (pc := 34) d_X6_wakeOf_34 (by decide) ?_
      exact Tr.iret (pc := 35) d_X6_wakeOf_35 rfl ⟨hS, _, rfl, by omega, by omega⟩
    · refine Tr.aload_n (pc := 22) (i := 0) d_X6_wakeOf_22 rfl rfl ?_
      refine Tr.getf (pc := 23) d_X6_wakeOf_23 f_6_46 (by decide) (by decide) (ty_74 hS.1.1) ?_
      refine Tr.tp 27 ((St.kp hS (by decide) (by decide) (by decide)).trans en_74_1) ?_
      refine Tr.getf (pc := 26) d_X6_wakeOf_26 f_6_196 (by decide) (by decide) (ty_27 hS.1.1) ?_
      refine Tr.tp 30 (fx_27_6 hS.1.1) ?_
      refine Tr.iload_n (pc := 29) (i := 1) d_X6_wakeOf_29 rfl rfl ?_
      refine Tr.iald (pc := 30) d_X6_wakeOf_30 (ty_30 hS.1.1) (by omega) (by omega) ?_
      refine Tr.gen (P := fun v => (-1) ≤ v ∧ v ≤ 20) (ar_30 hS.1.2.1 _) (fun r30 er30 br30 => ?_)
      refine Tr.goto (pc := 31) (tgt := 35) d_X6_wakeOf_31 rfl ?_
      exact Tr.iret (pc := 35) d_X6_wakeOf_35 rfl ⟨hS, _, rfl, by omega, by omega⟩

def ws_X6_sipsAt_74_w4 : List (Int × Int) := []
def as_X6_sipsAt_74_w4 : List Int := []
def q_X6_sipsAt_74_w4 (M0 M' : Mem) (r : Option PV) : Prop := St Tru ws_X6_sipsAt_74_w4 as_X6_sipsAt_74_w4 M0 M' ∧ ∃ v : Int, r = some (0, v) ∧ (-2147483648) ≤ v ∧ v ≤ 2147483647
set_option maxRecDepth 100000 in
set_option maxHeartbeats 4000000 in
theorem sp_X6_sipsAt_74_w4 {l : Launch} {K : EC} {M0 : Mem} (hI : In Tru M0) (en_74_1 : rd M0 74 1 = 27) (a1 : Int) (ha1 : (-2147483648) ≤ a1 ∧ a1 ≤ 2147483647) (a2 : Int) (ha2 : 0 ≤ a2 ∧ a2 ≤ 5) (a3 : Int) (ha3 : 1 ≤ a3 ∧ a3 ≤ 1)  : Tr l K 0 mX6_sipsAt 0 [(0, (2, 74)), (1, (0, a1)), (2, (0, a2)), (3, (0, a3))] [] M0 (q_X6_sipsAt_74_w4 M0) := by
  have hS : St Tru ws_X6_sipsAt_74_w4 as_X6_sipsAt_74_w4 M0 M0 := St.rf hI
  refine Tr.aload_n (pc := 0) (i := 0) d_X6_sipsAt_0 rfl rfl ?_
  refine Tr.getf (pc := 1) d_X6_sipsAt_1 f_6_46 (by decide) (by decide) (ty_74 hS.1.1) ?_
  refine Tr.tp 27 ((St.kp hS (by decide) (by decide) (by decide)).trans en_74_1) ?_
  refine Tr.getf (pc := 4) d_X6_sipsAt_4 f_6_135 (by decide) (by decide) (ty_27 hS.1.1) ?_
  refine Tr.gen (P := fun v => (-1) ≤ v ∧ v ≤ 999) (ir_27_0 hS.1.2.1) (fun r4 er4 br4 => ?_)
  refine Tr.istore (pc := 7) (i := 4) (ls2 := [(4, (0, r4)), (0, (2, 74)), (1, (0, a1)), (2, (0, a2)), (3, (0, a3))]) d_X6_sipsAt_7 (by decide) rfl ?_
  refine Tr.iconst (pc := 9) d_X6_sipsAt_9 (by decide) ?_
  refine Tr.istore (pc := 10) (i := 5) (ls2 := [(5, (0, 0)), (4, (0, r4)), (0, (2, 74)), (1, (0, a1)), (2, (0, a2)), (3, (0, a3))]) d_X6_sipsAt_10 (by decide) rfl ?_
  have J12 : ∀ (n12 : Nat) (M : Mem) (p12_4 p12_5 : Int), St Tru ws_X6_sipsAt_74_w4 as_X6_sipsAt_74_w4 M0 M → ((-2147483648) ≤ p12_4 ∧ p12_4 ≤ 2147483647) → (0 ≤ p12_5 ∧ p12_5 ≤ 6) → rd M 27 0 = r4 → (6 - p12_5).toNat < n12 → Tr l K 0 mX6_sipsAt 12 [(0, (2, 74)), (1, (0, a1)), (2, (0, a2)), (3, (0, a3)), (4, (0, p12_4)), (5, (0, p12_5))] [] M (q_X6_sipsAt_74_w4 M0) := by
    intro n12
    induction n12 with
    | zero => intro M p12_4 p12_5 hS bp12_4 bp12_5 k12_27_0 hm12; exact absurd hm12 (Nat.not_lt_zero _)
    | succ n12 J12 =>
      intro M p12_4 p12_5 hS bp12_4 bp12_5 k12_27_0 hm12
      refine Tr.iload (pc := 12) (i := 5) d_X6_sipsAt_12 rfl ?_
      refine Tr.aload_n (pc := 14) (i := 0) d_X6_sipsAt_14 rfl rfl ?_
      refine Tr.getf (pc := 15) d_X6_sipsAt_15 f_6_46 (by decide) (by decide) (ty_74 hS.1.1) ?_
      refine Tr.tp 27 ((St.kp hS (by decide) (by decide) (by decide)).trans en_74_1) ?_
      refine Tr.getf (pc := 18) d_X6_sipsAt_18 f_6_116 (by decide) (by decide) (ty_27 hS.1.1) ?_
      refine Tr.tp 28 (fx_27_4 hS.1.1) ?_
      refine Tr.iconst (pc := 21) d_X6_sipsAt_21 (by decide) ?_
      refine Tr.iald (pc := 22) d_X6_sipsAt_22 (ty_28 hS.1.1) (by omega) (by omega) ?_
      refine Tr.gen (P := fun v => 0 ≤ v ∧ v ≤ 6) (ir_28_0 hS.1.2.1) (fun r22 er22 br22 => ?_)
      refine Tr.icmp_ge (pc := 23) (tgt := 91) d_X6_sipsAt_23 rfl (fun c23 => ?_) (fun c23 => ?_)
      · refine Tr.iload (pc := 91) (i := 4) d_X6_sipsAt_91 rfl ?_
        exact Tr.iret (pc := 93) d_X6_sipsAt_93 rfl ⟨hS, _, rfl, by omega, by omega⟩
      · refine Tr.aload_n (pc := 26) (i := 0) d_X6_sipsAt_26 rfl rfl ?_
        refine Tr.getf (pc := 27) d_X6_sipsAt_27 f_6_24 (by decide) (by decide) (ty_74 hS.1.1) ?_
        refine Tr.tp 79 (fx_74_6 hS.1.1) ?_
        refine Tr.iload (pc := 30) (i := 5) d_X6_sipsAt_30 rfl ?_
        refine Tr.iald (pc := 32) d_X6_sipsAt_32 (ty_79 hS.1.1) (by omega) (by omega) ?_
        refine Tr.gen (P := fun v => 0 ≤ v ∧ v ≤ 1) (ar_79 hS.1.2.1 _) (fun r32 er32 br32 => ?_)
        refine Tr.iconst (pc := 33) d_X6_sipsAt_33 (by decide) ?_
        have J53 : ∀ (M : Mem) (q53_0 : Int), St Tru ws_X6_sipsAt_74_w4 as_X6_sipsAt_74_w4 M0 M → (0 ≤ q53_0 ∧ q53_0 ≤ 2) → rd M 27 0 = r4 → rd M 28 0 = r22 → rd M 79 p12_5 = r32 → Tr l K 0 mX6_sipsAt 53 [(0, (2, 74)), (1, (0, a1)), (2, (0, a2)), (3, (0, a3)), (4, (0, p12_4)), (5, (0, p12_5))] [(0, q53_0)] M (q_X6_sipsAt_74_w4 M0) := by
          intro M q53_0 hS bq53_0 k53_27_0 k53_28_0 k53_79_p12_510
          refine Tr.istore (pc := 53) (i := 6) (ls2 := [(6, (0, q53_0)), (0, (2, 74)), (1, (0, a1)), (2, (0, a2)), (3, (0, a3)), (4, (0, p12_4)), (5, (0, p12_5))]) d_X6_sipsAt_53 (by decide) rfl ?_
          refine Tr.iload (pc := 55) (i := 4) d_X6_sipsAt_55 rfl ?_
          refine Tr.aload_n (pc := 57) (i := 0) d_X6_sipsAt_57 rfl rfl ?_
          refine Tr.getf (pc := 58) d_X6_sipsAt_58 f_6_46 (by decide) (by decide) (ty_74 hS.1.1) ?_
          refine Tr.tp 27 ((St.kp hS (by decide) (by decide) (by decide)).trans en_74_1) ?_
          refine Tr.getf (pc := 61) d_X6_sipsAt_61 f_6_189 (by decide) (by decide) (ty_27 hS.1.1) ?_
          refine Tr.tp 29 (fx_27_5 hS.1.1) ?_
          refine Tr.iload (pc := 64) (i := 5) d_X6_sipsAt_64 rfl ?_
          refine Tr.iconst (pc := 66) d_X6_sipsAt_66 (by decide) ?_
          refine Tr.imul (pc := 67) d_X6_sipsAt_67 ?_
          refine Tr.tp (4 * p12_5) ((w32_id (by omega)).trans (by omega)) ?_
          refine Tr.iload (pc := 68) (i := 5) d_X6_sipsAt_68 rfl ?_
          refine Tr.iload_n (pc := 70) (i := 2) d_X6_sipsAt_70 rfl rfl ?_
          have J80 : ∀ (M : Mem) (q80_3 : Int), St Tru ws_X6_sipsAt_74_w4 as_X6_sipsAt_74_w4 M0 M → (0 ≤ q80_3 ∧ q80_3 ≤ 2) → rd M 27 0 = r4 → rd M 28 0 = r22 → rd M 79 p12_5 = r32 → Tr l K 0 mX6_sipsAt 80 [(0, (2, 74)), (1, (0, a1)), (2, (0, a2)), (3, (0, a3)), (5, (0, p12_5))] [(0, q80_3), (0, (4 * p12_5)), (2, 29), (0, p12_4)] M (q_X6_sipsAt_74_w4 M0) := by
            intro M q80_3 hS bq80_3 k80_27_0 k80_28_0 k80_79_p12_510
            refine Tr.iadd (pc := 80) d_X6_sipsAt_80 ?_
            refine Tr.tp (4 * p12_5 + q80_3) ((w32_id (by omega)).trans (by omega)) ?_
            refine Tr.iald (pc := 81) d_X6_sipsAt_81 (ty_29 hS.1.1) (by omega) (by omega) ?_
            refine Tr.gen (P := fun v => (-1) ≤ v ∧ v ≤ 999) (ar_29 hS.1.2.1 _) (fun r81 er81 br81 => ?_)
            refine Tr.iadd (pc := 82) d_X6_sipsAt_82 ?_
            refine Tr.gen (P := fun v => (-2147483648) ≤ v ∧ v ≤ 2147483647) (w32_b _) (fun r82 er82 br82 => ?_)
            refine Tr.istore (pc := 83) (i := 4) (ls2 := [(4, (0, r82)), (0, (2, 74)), (1, (0, a1)), (2, (0, a2)), (3, (0, a3)), (5, (0, p12_5))]) d_X6_sipsAt_83 (by decide) rfl ?_
            refine Tr.iincV (pc := 85) (n2 := (p12_5 + 1)) (ls2 := [(5, (0, (p12_5 + 1))), (4, (0, r82)), (0, (2, 74)), (1, (0, a1)), (2, (0, a2)), (3, (0, a3))]) d_X6_sipsAt_85 rfl (by decide) ((w32_id (by omega)).trans (by omega)) rfl ?_
            refine Tr.goto (pc := 88) (tgt := 12) d_X6_sipsAt_88 rfl ?_
            refine Tr.pick [2, 3, 4, 5, 1, 0] (ls2 := [(0, (2, 74)), (1, (0, a1)), (2, (0, a2)), (3, (0, a3)), (4, (0, r82)), (5, (0, (p12_5 + 1)))]) rfl ?_
            exact J12 _ _ _ hS (by omega) (by omega) k80_27_0 (by omega)
          refine Tr.icmp_ne (pc := 71) (tgt := 78) d_X6_sipsAt_71 rfl (fun c71 => ?_) (fun c71 => ?_)
          · refine Tr.iload (pc := 78) (i := 6) d_X6_sipsAt_78 rfl ?_
            refine Tr.pick [1, 2, 3, 4, 6] (ls2 := [(0, (2, 74)), (1, (0, a1)), (2, (0, a2)), (3, (0, a3)), (5, (0, p12_5))]) rfl ?_
            exact J80 _ _ hS (by omega) k53_27_0 k53_28_0 k53_79_p12_510
          · refine Tr.iload_n (pc := 74) (i := 3) d_X6_sipsAt_74 rfl rfl ?_
            refine Tr.tp 1 (by omega) ?_
            refine Tr.goto (pc := 75) (tgt := 80) d_X6_sipsAt_75 rfl ?_
            refine Tr.pick [1, 2, 3, 4, 6] (ls2 := [(0, (2, 74)), (1, (0, a1)), (2, (0, a2)), (3, (0, a3)), (5, (0, p12_5))]) rfl ?_
            exact J80 _ _ hS (by omega) k53_27_0 k53_28_0 k53_79_p12_510
        have J48 : ∀ (M : Mem), St Tru ws_X6_sipsAt_74_w4 as_X6_sipsAt_74_w4 M0 M → rd M 27 0 = r4 → rd M 28 0 = r22 → rd M 79 p12_5 = r32 → Tr l K 0 mX6_sipsAt 48 [(0, (2, 74)), (1, (0, a1)), (2, (0, a2)), (3, (0, a3)), (4, (0, p12_4)), (5, (0, p12_5))] [] M (q_X6_sipsAt_74_w4 M0) := by
          intro M  hS  k48_27_0 k48_28_0 k48_79_p12_510
          refine Tr.iconst (pc := 48) d_X6_sipsAt_48 (by decide) ?_
          refine Tr.goto (pc := 49) (tgt := 53) d_X6_sipsAt_49 rfl ?_
          refine Tr.pick [0, 1, 2, 3, 4, 5] (ls2 := [(0, (2, 74)), (1, (0, a1)), (2, (0, a2)), (3, (0, a3)), (4, (0, p12_4)), (5, (0, p12_5))]) rfl ?_
          exact J53 _ _ hS (by omega) k48_27_0 k48_28_0 k48_79_p12_510
        refine Tr.icmp_eq (pc := 34) (tgt := 48) d_X6_sipsAt_34 rfl (fun c34 => ?_) (fun c34 => ?_)
        · refine Tr.pick [0, 1, 2, 3, 4, 5] (ls2 := [(0, (2, 74)), (1, (0, a1)), (2, (0, a2)), (3, (0, a3)), (4, (0, p12_4)), (5, (0, p12_5))]) rfl ?_
          exact J48 _ hS k12_27_0 er22 er32
        · refine Tr.iload_n (pc := 37) (i := 1) d_X6_sipsAt_37 rfl rfl ?_
          refine Tr.aload_n (pc := 38) (i := 0) d_X6_sipsAt_38 rfl rfl ?_
          refine Tr.getf (pc := 39) d_X6_sipsAt_39 f_6_27 (by decide) (by decide) (ty_74 hS.1.1) ?_
          refine Tr.tp 80 (fx_74_7 hS.1.1) ?_
          refine Tr.iload (pc := 42) (i := 5) d_X6_sipsAt_42 rfl ?_
          refine Tr.iald (pc := 44) d_X6_sipsAt_44 (ty_80 hS.1.1) (by omega) (by omega) ?_
          refine Tr.gen (P := fun v => (-2147483648) ≤ v ∧ v ≤ 2147483647) (ar_80 hS.1.2.1 _) (fun r44 er44 br44 => ?_)
          refine Tr.icmp_ge (pc := 45) (tgt := 52) d_X6_sipsAt_45 rfl (fun c45 => ?_) (fun c45 => ?_)
          · refine Tr.iconst (pc := 52) d_X6_sipsAt_52 (by decide) ?_
            refine Tr.pick [0, 1, 2, 3, 4, 5] (ls2 := [(0, (2, 74)), (1, (0, a1)), (2, (0, a2)), (3, (0, a3)), (4, (0, p12_4)), (5, (0, p12_5))]) rfl ?_
            exact J53 _ _ hS (by omega) k12_27_0 er22 er32
          · refine Tr.pick [0, 1, 2, 3, 4, 5] (ls2 := [(0, (2, 74)), (1, (0, a1)), (2, (0, a2)), (3, (0, a3)), (4, (0, p12_4)), (5, (0, p12_5))]) rfl ?_
            exact J48 _ hS k12_27_0 er22 er32
  refine Tr.pick [2, 3, 4, 5, 1, 0] (ls2 := [(0, (2, 74)), (1, (0, a1)), (2, (0, a2)), (3, (0, a3)), (4, (0, r4)), (5, (0, 0))]) rfl ?_
  exact J12 _ _ _ _ hS (by omega) (by omega) er4 (Nat.lt_succ_self _)

def ws_X6_afforded_74_w8 : List (Int × Int) := [(74, 17)]
def as_X6_afforded_74_w8 : List Int := []
def q_X6_afforded_74_w8 (M0 M' : Mem) (r : Option PV) : Prop := St Tru ws_X6_afforded_74_w8 as_X6_afforded_74_w8 M0 M' ∧ ∃ v : Int, r = some (0, v) ∧ (-2147483648) ≤ v ∧ v ≤ 20
set_option maxRecDepth 100000 in
set_option maxHeartbeats 4000000 in
theorem sp_X6_afforded_74_w8 {l : Launch} {K : EC} {M0 : Mem} (hI : In Tru M0) (en_74_1 : rd M0 74 1 = 27) (a1 : Int) (ha1 : (-2147483648) ≤ a1 ∧ a1 ≤ 20) (a2 : Int) (ha2 : 0 ≤ a2 ∧ a2 ≤ 5) (a3 : Int) (ha3 : 1 ≤ a3 ∧ a3 ≤ 1)  : Tr l K 1 mX6_afforded 0 [(0, (2, 74)), (1, (0, a1)), (2, (0, a2)), (3, (0, a3))] [] M0 (q_X6_afforded_74_w8 M0) := by
  have hS : St Tru ws_X6_afforded_74_w8 as_X6_afforded_74_w8 M0 M0 := St.rf hI
  refine Tr.iconst (pc := 0) d_X6_afforded_0 (by decide) ?_
  refine Tr.istore (pc := 1) (i := 4) (ls2 := [(4, (0, 0)), (0, (2, 74)), (1, (0, a1)), (2, (0, a2)), (3, (0, a3))]) d_X6_afforded_1 (by decide) rfl ?_
  have J3 : ∀ (n3 : Nat) (M : Mem) (p3_4 : Int), St Tru ws_X6_afforded_74_w8 as_X6_afforded_74_w8 M0 M → (0 ≤ p3_4 ∧ p3_4 ≤ 20) → (20 - p3_4).toNat < n3 → Tr l K 1 mX6_afforded 3 [(0, (2, 74)), (1, (0, a1)), (2, (0, a2)), (3, (0, a3)), (4, (0, p3_4))] [] M (q_X6_afforded_74_w8 M0) := by
    intro n3
    induction n3 with
    | zero => intro M p3_4 hS bp3_4  hm3; exact absurd hm3 (Nat.not_lt_zero _)
    | succ n3 J3 =>
      intro M p3_4 hS bp3_4  hm3
      refine Tr.iload (pc := 3) (i := 4) d_X6_afforded_3 rfl ?_
      refine Tr.iload_n (pc := 5) (i := 1) d_X6_afforded_5 rfl rfl ?_
      refine Tr.icmp_ge (pc := 6) (tgt := 53) d_X6_afforded_6 rfl (fun c6 => ?_) (fun c6 => ?_)
      · refine Tr.iload_n (pc := 53) (i := 1) d_X6_afforded_53 rfl rfl ?_
        exact Tr.iret (pc := 54) d_X6_afforded_54 rfl ⟨hS, _, rfl, by omega, by omega⟩
      · refine Tr.aload_n (pc := 9) (i := 0) d_X6_afforded_9 rfl rfl ?_
        refine Tr.aload_n (pc := 10) (i := 0) d_X6_afforded_10 rfl rfl ?_
        refine Tr.getf (pc := 11) d_X6_afforded_11 f_6_68 (by decide) (by decide) (ty_74 hS.1.1) ?_
        refine Tr.gen (P := fun v => (-2147483648) ≤ v ∧ v ≤ 2147483647) (ir_74_9 hS.1.2.1) (fun r11 er11 br11 => ?_)
        refine Tr.iload (pc := 14) (i := 4) d_X6_afforded_14 rfl ?_
        refine Tr.iadd (pc := 16) d_X6_afforded_16 ?_
        refine Tr.gen (P := fun v => (-2147483648) ≤ v ∧ v ≤ 2147483647) (w32_b _) (fun r16 er16 br16 => ?_)
        refine Tr.iload_n (pc := 17) (i := 2) d_X6_afforded_17 rfl rfl ?_
        refine Tr.iload_n (pc := 18) (i := 3) d_X6_afforded_18 rfl rfl ?_
        refine Tr.tp 1 (by omega) ?_
        refine Tr.callV (pc := 19) (as := [_, _, _]) d_X6_afforded_19 s_6_186 ok_X6_sipsAt rfl rfl (Nat.le_of_ble_eq_true rfl) (Nat.le_of_ble_eq_true rfl) (by decide) (ty_74 hS.1.1) ?_
        refine Tr.imp (Tr.deep (by decide) (sp_X6_sipsAt_74_w4 hS.1 ((St.kp hS (by decide) (by decide) (by decide)).trans en_74_1) r16 (by omega) a2 (by omega) 1 (by omega))) ?_
        rintro M19 _ ⟨h19, r19, rfl, lr19, ur19⟩
        have hS := St.tr hS h19 (by decide) (by decide)
        refine Tr.sc [(0, r19)] rfl ?_
        refine Tr.istore (pc := 22) (i := 5) (ls2 := [(5, (0, r19)), (0, (2, 74)), (1, (0, a1)), (2, (0, a2)), (3, (0, a3)), (4, (0, p3_4))]) d_X6_afforded_22 (by decide) rfl ?_
        refine Tr.iload (pc := 24) (i := 5) d_X6_afforded_24 rfl ?_
        refine Tr.aload_n (pc := 26) (i := 0) d_X6_afforded_26 rfl rfl ?_
        refine Tr.getf (pc := 27) d_X6_afforded_27 f_6_110 (by decide) (by decide) (ty_74 hS.1.1) ?_
        refine Tr.gen (P := fun v => (-2147483648) ≤ v ∧ v ≤ 2147483647) (ir_74_17 hS.1.2.1) (fun r27 er27 br27 => ?_)
        refine Tr.icmp_le (pc := 30) (tgt := 36) d_X6_afforded_30 rfl (fun c30 => ?_) (fun c30 => ?_)
        · refine Tr.aload_n (pc := 36) (i := 0) d_X6_afforded_36 rfl rfl ?_
          refine Tr.dup (pc := 37) d_X6_afforded_37 ne21 ?_
          refine Tr.getf (pc := 38) d_X6_afforded_38 f_6_110 (by decide) (by decide) (ty_74 hS.1.1) ?_
          refine Tr.tp r27 er27 ?_
          refine Tr.iload (pc := 41) (i := 5) d_X6_afforded_41 rfl ?_
          refine Tr.isub (pc := 43) d_X6_afforded_43 ?_
          refine Tr.gen (P := fun v => (-2147483648) ≤ v ∧ v ≤ 2147483647) (w32_b _) (fun r43 er43 br43 => ?_)
          refine Tr.putfS (pc := 44) (P := St Tru ws_X6_afforded_74_w8 as_X6_afforded_74_w8 M0) d_X6_afforded_44 f_6_110 (by decide) (by decide) (ty_74 hS.1.1) (st_74_17 hS (by decide) (by omega) trivial) (fun M44 hS w44 => ?_)
          refine Tr.iincV (pc := 47) (n2 := (p3_4 + 1)) (ls2 := [(4, (0, (p3_4 + 1))), (5, (0, r19)), (0, (2, 74)), (1, (0, a1)), (2, (0, a2)), (3, (0, a3))]) d_X6_afforded_47 rfl (by decide) ((w32_id (by omega)).trans (by omega)) rfl ?_
          refine Tr.goto (pc := 50) (tgt := 3) d_X6_afforded_50 rfl ?_
          refine Tr.pick [2, 3, 4, 5, 0] (ls2 := [(0, (2, 74)), (1, (0, a1)), (2, (0, a2)), (3, (0, a3)), (4, (0, (p3_4 + 1)))]) rfl ?_
          exact J3 _ _ hS (by omega) (by omega)
        · refine Tr.iload (pc := 33) (i := 4) d_X6_afforded_33 rfl ?_
          exact Tr.iret (pc := 35) d_X6_afforded_35 rfl ⟨hS, _, rfl, by omega, by omega⟩
  refine Tr.pick [1, 2, 3, 4, 0] (ls2 := [(0, (2, 74)), (1, (0, a1)), (2, (0, a2)), (3, (0, a3)), (4, (0, 0))]) rfl ?_
  exact J3 _ _ _ hS (by omega) (Nat.lt_succ_self _)

def ws_X6_pass_74_w8 : List (Int × Int) := [(74, 9), (74, 14), (74, 17)]
def as_X6_pass_74_w8 : List Int := []
def q_X6_pass_74_w8 (M0 M' : Mem) (r : Option PV) : Prop := St Tru ws_X6_pass_74_w8 as_X6_pass_74_w8 M0 M' ∧ ∃ v : Int, r = some (0, v) ∧ (-2147483648) ≤ v ∧ v ≤ 20
set_option maxRecDepth 100000 in
set_option maxHeartbeats 4000000 in
theorem sp_X6_pass_74_w8 {l : Launch} {K : EC} {M0 : Mem} (hI : In Tru M0) (en_74_1 : rd M0 74 1 = 27) (a1 : Int) (ha1 : (-1) ≤ a1 ∧ a1 ≤ 20) (a2 : Int) (ha2 : 0 ≤ a2 ∧ a2 ≤ 5) (a3 : Int) (ha3 : 1 ≤ a3 ∧ a3 ≤ 1)  : Tr l K 2 mX6_pass 0 [(0, (2, 74)), (1, (0, a1)), (2, (0, a2)), (3, (0, a3))] [] M0 (q_X6_pass_74_w8 M0) := by
  have hS : St Tru ws_X6_pass_74_w8 as_X6_pass_74_w8 M0 M0 := St.rf hI
  refine Tr.iload_n (pc := 0) (i := 1) d_X6_pass_0 rfl rfl ?_
  refine Tr.sipush (pc := 1) d_X6_pass_1 rfl (by decide) ?_
  refine Tr.aload_n (pc := 4) (i := 0) d_X6_pass_4 rfl rfl ?_
  refine Tr.getf (pc := 5) d_X6_pass_5 f_6_68 (by decide) (by decide) (ty_74 hS.1.1) ?_
  refine Tr.gen (P := fun v => (-2147483648) ≤ v ∧ v ≤ 2147483647) (ir_74_9 hS.1.2.1) (fun r5 er5 br5 => ?_)
  refine Tr.isub (pc := 8) d_X6_pass_8 ?_
  refine Tr.gen (P := fun v => (-2147483648) ≤ v ∧ v ≤ 2147483647) (w32_b _) (fun r8 er8 br8 => ?_)
  refine Tr.mmin (pc := 9) d_X6_pass_9 ml_6_158 mw_mmin (Nat.le_of_ble_eq_true rfl) ?_
  refine Tr.gen (P := fun v => (v = a1 ∧ a1 ≤ r8) ∨ (v = r8 ∧ r8 ≤ a1)) (f_min_p _ _) (fun r9 er9 br9 => ?_)
  refine Tr.istore (pc := 12) (i := 4) (ls2 := [(4, (0, r9)), (0, (2, 74)), (1, (0, a1)), (2, (0, a2)), (3, (0, a3))]) d_X6_pass_12 (by decide) rfl ?_
  refine Tr.aload_n (pc := 14) (i := 0) d_X6_pass_14 rfl rfl ?_
  refine Tr.getz (pc := 15) d_X6_pass_15 f_6_106 (by decide) (ty_74 hS.1.1) ?_
  refine Tr.gen (P := fun v => 0 ≤ v ∧ v ≤ 1) (ir_74_16 hS.1.2.1) (fun r15 er15 br15 => ?_)
  have J34 : ∀ (M : Mem) (q34_0 : Int), St Tru ws_X6_pass_74_w8 as_X6_pass_74_w8 M0 M → ((-2147483648) ≤ q34_0 ∧ q34_0 ≤ 20) → rd M 74 16 = r15 → rd M 74 9 = r5 → Tr l K 2 mX6_pass 34 [(0, (2, 74)), (1, (0, a1)), (4, (0, r9))] [(0, q34_0)] M (q_X6_pass_74_w8 M0) := by
    intro M q34_0 hS bq34_0 k34_74_16 k34_74_9
    refine Tr.istore (pc := 34) (i := 5) (ls2 := [(5, (0, q34_0)), (0, (2, 74)), (1, (0, a1)), (4, (0, r9))]) d_X6_pass_34 (by decide) rfl ?_
    refine Tr.aload_n (pc := 36) (i := 0) d_X6_pass_36 rfl rfl ?_
    refine Tr.dup (pc := 37) d_X6_pass_37 ne21 ?_
    refine Tr.getf (pc := 38) d_X6_pass_38 f_6_68 (by decide) (by decide) (ty_74 hS.1.1) ?_
    refine Tr.tp r5 k34_74_9 ?_
    refine Tr.iload (pc := 41) (i := 5) d_X6_pass_41 rfl ?_
    refine Tr.iadd (pc := 43) d_X6_pass_43 ?_
    refine Tr.gen (P := fun v => (-2147483648) ≤ v ∧ v ≤ 2147483647) (w32_b _) (fun r43 er43 br43 => ?_)
    refine Tr.putfS (pc := 44) (P := St Tru ws_X6_pass_74_w8 as_X6_pass_74_w8 M0) d_X6_pass_44 f_6_68 (by decide) (by decide) (ty_74 hS.1.1) (st_74_9 hS (by decide) (by omega) trivial) (fun M44 hS w44 => ?_)
    refine Tr.iload (pc := 47) (i := 5) d_X6_pass_47 rfl ?_
    refine Tr.iload_n (pc := 49) (i := 1) d_X6_pass_49 rfl rfl ?_
    refine Tr.icmp_ge (pc := 50) (tgt := 69) d_X6_pass_50 rfl (fun c50 => ?_) (fun c50 => ?_)
    · refine Tr.iload (pc := 69) (i := 5) d_X6_pass_69 rfl ?_
      exact Tr.iret (pc := 71) d_X6_pass_71 rfl ⟨hS, _, rfl, by omega, by omega⟩
    · refine Tr.aload_n (pc := 53) (i := 0) d_X6_pass_53 rfl rfl ?_
      refine Tr.iload (pc := 54) (i := 5) d_X6_pass_54 rfl ?_
      refine Tr.iload (pc := 56) (i := 4) d_X6_pass_56 rfl ?_
      refine Tr.icmp_ne (pc := 58) (tgt := 65) d_X6_pass_58 rfl (fun c58 => ?_) (fun c58 => ?_)
      · refine Tr.iconst (pc := 65) d_X6_pass_65 (by decide) ?_
        refine Tr.putfS (pc := 66) (P := St Tru ws_X6_pass_74_w8 as_X6_pass_74_w8 M0) d_X6_pass_66 f_6_62 (by decide) (by decide) (ty_74 hS.1.1) (st_74_14 hS (by decide) (by omega) trivial) (fun M66 hS w66 => ?_)
        refine Tr.iload (pc := 69) (i := 5) d_X6_pass_69 rfl ?_
        exact Tr.iret (pc := 71) d_X6_pass_71 rfl ⟨hS, _, rfl, by omega, by omega⟩
      · refine Tr.iconst (pc := 61) d_X6_pass_61 (by decide) ?_
        refine Tr.goto (pc := 62) (tgt := 66) d_X6_pass_62 rfl ?_
        refine Tr.putfS (pc := 66) (P := St Tru ws_X6_pass_74_w8 as_X6_pass_74_w8 M0) d_X6_pass_66 f_6_62 (by decide) (by decide) (ty_74 hS.1.1) (st_74_14 hS (by decide) (by omega) trivial) (fun M66 hS w66 => ?_)
        refine Tr.iload (pc := 69) (i := 5) d_X6_pass_69 rfl ?_
        exact Tr.iret (pc := 71) d_X6_pass_71 rfl ⟨hS, _, rfl, by omega, by omega⟩
  refine Tr.if_eq (pc := 18) (tgt := 32) d_X6_pass_18 rfl (fun c18 => ?_) (fun c18 => ?_)
  · refine Tr.iload (pc := 32) (i := 4) d_X6_pass_32 rfl ?_
    refine Tr.pick [1, 2, 0] (ls2 := [(0, (2, 74)), (1, (0, a1)), (4, (0, r9))]) rfl ?_
    exact J34 _ _ hS (by omega) er15 er5
  · refine Tr.aload_n (pc := 21) (i := 0) d_X6_pass_21 rfl rfl ?_
    refine Tr.iload (pc := 22) (i := 4) d_X6_pass_22 rfl ?_
    refine Tr.iload_n (pc := 24) (i := 2) d_X6_pass_24 rfl rfl ?_
    refine Tr.iload_n (pc := 25) (i := 3) d_X6_pass_25 rfl rfl ?_
    refine Tr.tp 1 (by omega) ?_
    refine Tr.callV (pc := 26) (as := [_, _, _]) d_X6_pass_26 s_6_183 ok_X6_afforded rfl rfl (Nat.le_of_ble_eq_true rfl) (Nat.le_of_ble_eq_true rfl) (by decide) (ty_74 hS.1.1) ?_
    refine Tr.imp (Tr.deep (by decide) (sp_X6_afforded_74_w8 hS.1 ((St.kp hS (by decide) (by decide) (by decide)).trans en_74_1) r9 (by omega) a2 (by omega) 1 (by omega))) ?_
    rintro M26 _ ⟨h26, r26, rfl, lr26, ur26⟩
    have hS := St.tr hS h26 (by decide) (by decide)
    refine Tr.sc [(0, r26)] rfl ?_
    refine Tr.goto (pc := 29) (tgt := 34) d_X6_pass_29 rfl ?_
    refine Tr.pick [1, 2, 0] (ls2 := [(0, (2, 74)), (1, (0, a1)), (4, (0, r9))]) rfl ?_
    exact J34 _ _ hS (by omega) ((St.kp h26 (by decide) (by decide) (by decide)).trans er15) ((St.kp h26 (by decide) (by decide) (by decide)).trans er5)
end
/-! 43.05 -/
section
def ws_X6_sipsAt_74_w5 : List (Int × Int) := []
def as_X6_sipsAt_74_w5 : List Int := []
def q_X6_sipsAt_74_w5 (M0 M' : Mem) (r : Option PV) : Prop := St Tru ws_X6_sipsAt_74_w5 as_X6_sipsAt_74_w5 M0 M' ∧ ∃ v : Int, r = some (0, v) ∧ (-2147483648) ≤ v ∧ v ≤ 2147483647
set_option maxRecDepth 100000 in
set_option maxHeartbeats 4000000 in
theorem sp_X6_sipsAt_74_w5 {l : Launch} {K : EC} {M0 : Mem} (hI : In Tru M0) (en_74_1 : rd M0 74 1 = 27) (a1 : Int) (ha1 : (-2147483648) ≤ a1 ∧ a1 ≤ 2147483647) (a2 : Int) (ha2 : 0 ≤ a2 ∧ a2 ≤ 5) (a3 : Int) (ha3 : 3 ≤ a3 ∧ a3 ≤ 3)  : Tr l K 0 mX6_sipsAt 0 [(0, (2, 74)), (1, (0, a1)), (2, (0, a2)), (3, (0, a3))] [] M0 (q_X6_sipsAt_74_w5 M0) := by
  have hS : St Tru ws_X6_sipsAt_74_w5 as_X6_sipsAt_74_w5 M0 M0 := St.rf hI
  refine Tr.aload_n (pc := 0) (i := 0) d_X6_sipsAt_0 rfl rfl ?_
  refine Tr.getf (pc := 1) d_X6_sipsAt_1 f_6_46 (by decide) (by decide) (ty_74 hS.1.1) ?_
  refine Tr.tp 27 ((St.kp hS (by decide) (by decide) (by decide)).trans en_74_1) ?_
  refine Tr.getf (pc := 4) d_X6_sipsAt_4 f_6_135 (by decide) (by decide) (ty_27 hS.1.1) ?_
  refine Tr.gen (P := fun v => (-1) ≤ v ∧ v ≤ 999) (ir_27_0 hS.1.2.1) (fun r4 er4 br4 => ?_)
  refine Tr.istore (pc := 7) (i := 4) (ls2 := [(4, (0, r4)), (0, (2, 74)), (1, (0, a1)), (2, (0, a2)), (3, (0, a3))]) d_X6_sipsAt_7 (by decide) rfl ?_
  refine Tr.iconst (pc := 9) d_X6_sipsAt_9 (by decide) ?_
  refine Tr.istore (pc := 10) (i := 5) (ls2 := [(5, (0, 0)), (4, (0, r4)), (0, (2, 74)), (1, (0, a1)), (2, (0, a2)), (3, (0, a3))]) d_X6_sipsAt_10 (by decide) rfl ?_
  have J12 : ∀ (n12 : Nat) (M : Mem) (p12_4 p12_5 : Int), St Tru ws_X6_sipsAt_74_w5 as_X6_sipsAt_74_w5 M0 M → ((-2147483648) ≤ p12_4 ∧ p12_4 ≤ 2147483647) → (0 ≤ p12_5 ∧ p12_5 ≤ 6) → rd M 27 0 = r4 → (6 - p12_5).toNat < n12 → Tr l K 0 mX6_sipsAt 12 [(0, (2, 74)), (1, (0, a1)), (2, (0, a2)), (3, (0, a3)), (4, (0, p12_4)), (5, (0, p12_5))] [] M (q_X6_sipsAt_74_w5 M0) := by
    intro n12
    induction n12 with
    | zero => intro M p12_4 p12_5 hS bp12_4 bp12_5 k12_27_0 hm12; exact absurd hm12 (Nat.not_lt_zero _)
    | succ n12 J12 =>
      intro M p12_4 p12_5 hS bp12_4 bp12_5 k12_27_0 hm12
      refine Tr.iload (pc := 12) (i := 5) d_X6_sipsAt_12 rfl ?_
      refine Tr.aload_n (pc := 14) (i := 0) d_X6_sipsAt_14 rfl rfl ?_
      refine Tr.getf (pc := 15) d_X6_sipsAt_15 f_6_46 (by decide) (by decide) (ty_74 hS.1.1) ?_
      refine Tr.tp 27 ((St.kp hS (by decide) (by decide) (by decide)).trans en_74_1) ?_
      refine Tr.getf (pc := 18) d_X6_sipsAt_18 f_6_116 (by decide) (by decide) (ty_27 hS.1.1) ?_
      refine Tr.tp 28 (fx_27_4 hS.1.1) ?_
      refine Tr.iconst (pc := 21) d_X6_sipsAt_21 (by decide) ?_
      refine Tr.iald (pc := 22) d_X6_sipsAt_22 (ty_28 hS.1.1) (by omega) (by omega) ?_
      refine Tr.gen (P := fun v => 0 ≤ v ∧ v ≤ 6) (ir_28_0 hS.1.2.1) (fun r22 er22 br22 => ?_)
      refine Tr.icmp_ge (pc := 23) (tgt := 91) d_X6_sipsAt_23 rfl (fun c23 => ?_) (fun c23 => ?_)
      · refine Tr.iload (pc := 91) (i := 4) d_X6_sipsAt_91 rfl ?_
        exact Tr.iret (pc := 93) d_X6_sipsAt_93 rfl ⟨hS, _, rfl, by omega, by omega⟩
      · refine Tr.aload_n (pc := 26) (i := 0) d_X6_sipsAt_26 rfl rfl ?_
        refine Tr.getf (pc := 27) d_X6_sipsAt_27 f_6_24 (by decide) (by decide) (ty_74 hS.1.1) ?_
        refine Tr.tp 79 (fx_74_6 hS.1.1) ?_
        refine Tr.iload (pc := 30) (i := 5) d_X6_sipsAt_30 rfl ?_
        refine Tr.iald (pc := 32) d_X6_sipsAt_32 (ty_79 hS.1.1) (by omega) (by omega) ?_
        refine Tr.gen (P := fun v => 0 ≤ v ∧ v ≤ 1) (ar_79 hS.1.2.1 _) (fun r32 er32 br32 => ?_)
        refine Tr.iconst (pc := 33) d_X6_sipsAt_33 (by decide) ?_
        have J53 : ∀ (M : Mem) (q53_0 : Int), St Tru ws_X6_sipsAt_74_w5 as_X6_sipsAt_74_w5 M0 M → (0 ≤ q53_0 ∧ q53_0 ≤ 2) → rd M 27 0 = r4 → rd M 28 0 = r22 → rd M 79 p12_5 = r32 → Tr l K 0 mX6_sipsAt 53 [(0, (2, 74)), (1, (0, a1)), (2, (0, a2)), (3, (0, a3)), (4, (0, p12_4)), (5, (0, p12_5))] [(0, q53_0)] M (q_X6_sipsAt_74_w5 M0) := by
          intro M q53_0 hS bq53_0 k53_27_0 k53_28_0 k53_79_p12_510
          refine Tr.istore (pc := 53) (i := 6) (ls2 := [(6, (0, q53_0)), (0, (2, 74)), (1, (0, a1)), (2, (0, a2)), (3, (0, a3)), (4, (0, p12_4)), (5, (0, p12_5))]) d_X6_sipsAt_53 (by decide) rfl ?_
          refine Tr.iload (pc := 55) (i := 4) d_X6_sipsAt_55 rfl ?_
          refine Tr.aload_n (pc := 57) (i := 0) d_X6_sipsAt_57 rfl rfl ?_
          refine Tr.getf (pc := 58) d_X6_sipsAt_58 f_6_46 (by decide) (by decide) (ty_74 hS.1.1) ?_
          refine Tr.tp 27 ((St.kp hS (by decide) (by decide) (by decide)).trans en_74_1) ?_
          refine Tr.getf (pc := 61) d_X6_sipsAt_61 f_6_189 (by decide) (by decide) (ty_27 hS.1.1) ?_
          refine Tr.tp 29 (fx_27_5 hS.1.1) ?_
          refine Tr.iload (pc := 64) (i := 5) d_X6_sipsAt_64 rfl ?_
          refine Tr.iconst (pc := 66) d_X6_sipsAt_66 (by decide) ?_
          refine Tr.imul (pc := 67) d_X6_sipsAt_67 ?_
          refine Tr.tp (4 * p12_5) ((w32_id (by omega)).trans (by omega)) ?_
          refine Tr.iload (pc := 68) (i := 5) d_X6_sipsAt_68 rfl ?_
          refine Tr.iload_n (pc := 70) (i := 2) d_X6_sipsAt_70 rfl rfl ?_
          have J80 : ∀ (M : Mem) (q80_3 : Int), St Tru ws_X6_sipsAt_74_w5 as_X6_sipsAt_74_w5 M0 M → (0 ≤ q80_3 ∧ q80_3 ≤ 3) → rd M 27 0 = r4 → rd M 28 0 = r22 → rd M 79 p12_5 = r32 → Tr l K 0 mX6_sipsAt 80 [(0, (2, 74)), (1, (0, a1)), (2, (0, a2)), (3, (0, a3)), (5, (0, p12_5))] [(0, q80_3), (0, (4 * p12_5)), (2, 29), (0, p12_4)] M (q_X6_sipsAt_74_w5 M0) := by
            intro M q80_3 hS bq80_3 k80_27_0 k80_28_0 k80_79_p12_510
            refine Tr.iadd (pc := 80) d_X6_sipsAt_80 ?_
            refine Tr.tp (4 * p12_5 + q80_3) ((w32_id (by omega)).trans (by omega)) ?_
            refine Tr.iald (pc := 81) d_X6_sipsAt_81 (ty_29 hS.1.1) (by omega) (by omega) ?_
            refine Tr.gen (P := fun v => (-1) ≤ v ∧ v ≤ 999) (ar_29 hS.1.2.1 _) (fun r81 er81 br81 => ?_)
            refine Tr.iadd (pc := 82) d_X6_sipsAt_82 ?_
            refine Tr.gen (P := fun v => (-2147483648) ≤ v ∧ v ≤ 2147483647) (w32_b _) (fun r82 er82 br82 => ?_)
            refine Tr.istore (pc := 83) (i := 4) (ls2 := [(4, (0, r82)), (0, (2, 74)), (1, (0, a1)), (2, (0, a2)), (3, (0, a3)), (5, (0, p12_5))]) d_X6_sipsAt_83 (by decide) rfl ?_
            refine Tr.iincV (pc := 85) (n2 := (p12_5 + 1)) (ls2 := [(5, (0, (p12_5 + 1))), (4, (0, r82)), (0, (2, 74)), (1, (0, a1)), (2, (0, a2)), (3, (0, a3))]) d_X6_sipsAt_85 rfl (by decide) ((w32_id (by omega)).trans (by omega)) rfl ?_
            refine Tr.goto (pc := 88) (tgt := 12) d_X6_sipsAt_88 rfl ?_
            refine Tr.pick [2, 3, 4, 5, 1, 0] (ls2 := [(0, (2, 74)), (1, (0, a1)), (2, (0, a2)), (3, (0, a3)), (4, (0, r82)), (5, (0, (p12_5 + 1)))]) rfl ?_
            exact J12 _ _ _ hS (by omega) (by omega) k80_27_0 (by omega)
          refine Tr.icmp_ne (pc := 71) (tgt := 78) d_X6_sipsAt_71 rfl (fun c71 => ?_) (fun c71 => ?_)
          · refine Tr.iload (pc := 78) (i := 6) d_X6_sipsAt_78 rfl ?_
            refine Tr.pick [1, 2, 3, 4, 6] (ls2 := [(0, (2, 74)), (1, (0, a1)), (2, (0, a2)), (3, (0, a3)), (5, (0, p12_5))]) rfl ?_
            exact J80 _ _ hS (by omega) k53_27_0 k53_28_0 k53_79_p12_510
          · refine Tr.iload_n (pc := 74) (i := 3) d_X6_sipsAt_74 rfl rfl ?_
            refine Tr.tp 3 (by omega) ?_
            refine Tr.goto (pc := 75) (tgt := 80) d_X6_sipsAt_75 rfl ?_
            refine Tr.pick [1, 2, 3, 4, 6] (ls2 := [(0, (2, 74)), (1, (0, a1)), (2, (0, a2)), (3, (0, a3)), (5, (0, p12_5))]) rfl ?_
            exact J80 _ _ hS (by omega) k53_27_0 k53_28_0 k53_79_p12_510
        have J48 : ∀ (M : Mem), St Tru ws_X6_sipsAt_74_w5 as_X6_sipsAt_74_w5 M0 M → rd M 27 0 = r4 → rd M 28 0 = r22 → rd M 79 p12_5 = r32 → Tr l K 0 mX6_sipsAt 48 [(0, (2, 74)), (1, (0, a1)), (2, (0, a2)), (3, (0, a3)), (4, (0, p12_4)), (5, (0, p12_5))] [] M (q_X6_sipsAt_74_w5 M0) := by
          intro M  hS  k48_27_0 k48_28_0 k48_79_p12_510
          refine Tr.iconst (pc := 48) d_X6_sipsAt_48 (by decide) ?_
          refine Tr.goto (pc := 49) (tgt := 53) d_X6_sipsAt_49 rfl ?_
          refine Tr.pick [0, 1, 2, 3, 4, 5] (ls2 := [(0, (2, 74)), (1, (0, a1)), (2, (0, a2)), (3, (0, a3)), (4, (0, p12_4)), (5, (0, p12_5))]) rfl ?_
          exact J53 _ _ hS (by omega) k48_27_0 k48_28_0 k48_79_p12_510
        refine Tr.icmp_eq (pc := 34) (tgt := 48) d_X6_sipsAt_34 rfl (fun c34 => ?_) (fun c34 => ?_)
        · refine Tr.pick [0, 1, 2, 3, 4, 5] (ls2 := [(0, (2, 74)), (1, (0, a1)), (2, (0, a2)), (3, (0, a3)), (4, (0, p12_4)), (5, (0, p12_5))]) rfl ?_
          exact J48 _ hS k12_27_0 er22 er32
        · refine Tr.iload_n (pc := 37) (i := 1) d_X6_sipsAt_37 rfl rfl ?_
          refine Tr.aload_n (pc := 38) (i := 0) d_X6_sipsAt_38 rfl rfl ?_
          refine Tr.getf (pc := 39) d_X6_sipsAt_39 f_6_27 (by decide) (by decide) (ty_74 hS.1.1) ?_
          refine Tr.tp 80 (fx_74_7 hS.1.1) ?_
          refine Tr.iload (pc := 42) (i := 5) d_X6_sipsAt_42 rfl ?_
          refine Tr.iald (pc := 44) d_X6_sipsAt_44 (ty_80 hS.1.1) (by omega) (by omega) ?_
          refine Tr.gen (P := fun v => (-2147483648) ≤ v ∧ v ≤ 2147483647) (ar_80 hS.1.2.1 _) (fun r44 er44 br44 => ?_)
          refine Tr.icmp_ge (pc := 45) (tgt := 52) d_X6_sipsAt_45 rfl (fun c45 => ?_) (fun c45 => ?_)
          · refine Tr.iconst (pc := 52) d_X6_sipsAt_52 (by decide) ?_
            refine Tr.pick [0, 1, 2, 3, 4, 5] (ls2 := [(0, (2, 74)), (1, (0, a1)), (2, (0, a2)), (3, (0, a3)), (4, (0, p12_4)), (5, (0, p12_5))]) rfl ?_
            exact J53 _ _ hS (by omega) k12_27_0 er22 er32
          · refine Tr.pick [0, 1, 2, 3, 4, 5] (ls2 := [(0, (2, 74)), (1, (0, a1)), (2, (0, a2)), (3, (0, a3)), (4, (0, p12_4)), (5, (0, p12_5))]) rfl ?_
            exact J48 _ hS k12_27_0 er22 er32
  refine Tr.pick [2, 3, 4, 5, 1, 0] (ls2 := [(0, (2, 74)), (1, (0, a1)), (2, (0, a2)), (3, (0, a3)), (4, (0, r4)), (5, (0, 0))]) rfl ?_
  exact J12 _ _ _ _ hS (by omega) (by omega) er4 (Nat.lt_succ_self _)

def ws_X6_afforded_74_w9 : List (Int × Int) := [(74, 17)]
def as_X6_afforded_74_w9 : List Int := []
def q_X6_afforded_74_w9 (M0 M' : Mem) (r : Option PV) : Prop := St Tru ws_X6_afforded_74_w9 as_X6_afforded_74_w9 M0 M' ∧ ∃ v : Int, r = some (0, v) ∧ (-2147483648) ≤ v ∧ v ≤ 50
set_option maxRecDepth 100000 in
set_option maxHeartbeats 4000000 in
theorem sp_X6_afforded_74_w9 {l : Launch} {K : EC} {M0 : Mem} (hI : In Tru M0) (en_74_1 : rd M0 74 1 = 27) (a1 : Int) (ha1 : (-2147483648) ≤ a1 ∧ a1 ≤ 50) (a2 : Int) (ha2 : 0 ≤ a2 ∧ a2 ≤ 5) (a3 : Int) (ha3 : 3 ≤ a3 ∧ a3 ≤ 3)  : Tr l K 1 mX6_afforded 0 [(0, (2, 74)), (1, (0, a1)), (2, (0, a2)), (3, (0, a3))] [] M0 (q_X6_afforded_74_w9 M0) := by
  have hS : St Tru ws_X6_afforded_74_w9 as_X6_afforded_74_w9 M0 M0 := St.rf hI
  refine Tr.iconst (pc := 0) d_X6_afforded_0 (by decide) ?_
  refine Tr.istore (pc := 1) (i := 4) (ls2 := [(4, (0, 0)), (0, (2, 74)), (1, (0, a1)), (2, (0, a2)), (3, (0, a3))]) d_X6_afforded_1 (by decide) rfl ?_
  have J3 : ∀ (n3 : Nat) (M : Mem) (p3_4 : Int), St Tru ws_X6_afforded_74_w9 as_X6_afforded_74_w9 M0 M → (0 ≤ p3_4 ∧ p3_4 ≤ 50) → (50 - p3_4).toNat < n3 → Tr l K 1 mX6_afforded 3 [(0, (2, 74)), (1, (0, a1)), (2, (0, a2)), (3, (0, a3)), (4, (0, p3_4))] [] M (q_X6_afforded_74_w9 M0) := by
    intro n3
    induction n3 with
    | zero => intro M p3_4 hS bp3_4  hm3; exact absurd hm3 (Nat.not_lt_zero _)
    | succ n3 J3 =>
      intro M p3_4 hS bp3_4  hm3
      refine Tr.iload (pc := 3) (i := 4) d_X6_afforded_3 rfl ?_
      refine Tr.iload_n (pc := 5) (i := 1) d_X6_afforded_5 rfl rfl ?_
      refine Tr.icmp_ge (pc := 6) (tgt := 53) d_X6_afforded_6 rfl (fun c6 => ?_) (fun c6 => ?_)
      · refine Tr.iload_n (pc := 53) (i := 1) d_X6_afforded_53 rfl rfl ?_
        exact Tr.iret (pc := 54) d_X6_afforded_54 rfl ⟨hS, _, rfl, by omega, by omega⟩
      · refine Tr.aload_n (pc := 9) (i := 0) d_X6_afforded_9 rfl rfl ?_
        refine Tr.aload_n (pc := 10) (i := 0) d_X6_afforded_10 rfl rfl ?_
        refine Tr.getf (pc := 11) d_X6_afforded_11 f_6_68 (by decide) (by decide) (ty_74 hS.1.1) ?_
        refine Tr.gen (P := fun v => (-2147483648) ≤ v ∧ v ≤ 2147483647) (ir_74_9 hS.1.2.1) (fun r11 er11 br11 => ?_)
        refine Tr.iload (pc := 14) (i := 4) d_X6_afforded_14 rfl ?_
        refine Tr.iadd (pc := 16) d_X6_afforded_16 ?_
        refine Tr.gen (P := fun v => (-2147483648) ≤ v ∧ v ≤ 2147483647) (w32_b _) (fun r16 er16 br16 => ?_)
        refine Tr.iload_n (pc := 17) (i := 2) d_X6_afforded_17 rfl rfl ?_
        refine Tr.iload_n (pc := 18) (i := 3) d_X6_afforded_18 rfl rfl ?_
        refine Tr.tp 3 (by omega) ?_
        refine Tr.callV (pc := 19) (as := [_, _, _]) d_X6_afforded_19 s_6_186 ok_X6_sipsAt rfl rfl (Nat.le_of_ble_eq_true rfl) (Nat.le_of_ble_eq_true rfl) (by decide) (ty_74 hS.1.1) ?_
        refine Tr.imp (Tr.deep (by decide) (sp_X6_sipsAt_74_w5 hS.1 ((St.kp hS (by decide) (by decide) (by decide)).trans en_74_1) r16 (by omega) a2 (by omega) 3 (by omega))) ?_
        rintro M19 _ ⟨h19, r19, rfl, lr19, ur19⟩
        have hS := St.tr hS h19 (by decide) (by decide)
        refine Tr.sc [(0, r19)] rfl ?_
        refine Tr.istore (pc := 22) (i := 5) (ls2 := [(5, (0, r19)), (0, (2, 74)), (1, (0, a1)), (2, (0, a2)), (3, (0, a3)), (4, (0, p3_4))]) d_X6_afforded_22 (by decide) rfl ?_
        refine Tr.iload (pc := 24) (i := 5) d_X6_afforded_24 rfl ?_
        refine Tr.aload_n (pc := 26) (i := 0) d_X6_afforded_26 rfl rfl ?_
        refine Tr.getf (pc := 27) d_X6_afforded_27 f_6_110 (by decide) (by decide) (ty_74 hS.1.1) ?_
        refine Tr.gen (P := fun v => (-2147483648) ≤ v ∧ v ≤ 2147483647) (ir_74_17 hS.1.2.1) (fun r27 er27 br27 => ?_)
        refine Tr.icmp_le (pc := 30) (tgt := 36) d_X6_afforded_30 rfl (fun c30 => ?_) (fun c30 => ?_)
        · refine Tr.aload_n (pc := 36) (i := 0) d_X6_afforded_36 rfl rfl ?_
          refine Tr.dup (pc := 37) d_X6_afforded_37 ne21 ?_
          refine Tr.getf (pc := 38) d_X6_afforded_38 f_6_110 (by decide) (by decide) (ty_74 hS.1.1) ?_
          refine Tr.tp r27 er27 ?_
          refine Tr.iload (pc := 41) (i := 5) d_X6_afforded_41 rfl ?_
          refine Tr.isub (pc := 43) d_X6_afforded_43 ?_
          refine Tr.gen (P := fun v => (-2147483648) ≤ v ∧ v ≤ 2147483647) (w32_b _) (fun r43 er43 br43 => ?_)
          refine Tr.putfS (pc := 44) (P := St Tru ws_X6_afforded_74_w9 as_X6_afforded_74_w9 M0) d_X6_afforded_44 f_6_110 (by decide) (by decide) (ty_74 hS.1.1) (st_74_17 hS (by decide) (by omega) trivial) (fun M44 hS w44 => ?_)
          refine Tr.iincV (pc := 47) (n2 := (p3_4 + 1)) (ls2 := [(4, (0, (p3_4 + 1))), (5, (0, r19)), (0, (2, 74)), (1, (0, a1)), (2, (0, a2)), (3, (0, a3))]) d_X6_afforded_47 rfl (by decide) ((w32_id (by omega)).trans (by omega)) rfl ?_
          refine Tr.goto (pc := 50) (tgt := 3) d_X6_afforded_50 rfl ?_
          refine Tr.pick [2, 3, 4, 5, 0] (ls2 := [(0, (2, 74)), (1, (0, a1)), (2, (0, a2)), (3, (0, a3)), (4, (0, (p3_4 + 1)))]) rfl ?_
          exact J3 _ _ hS (by omega) (by omega)
        · refine Tr.iload (pc := 33) (i := 4) d_X6_afforded_33 rfl ?_
          exact Tr.iret (pc := 35) d_X6_afforded_35 rfl ⟨hS, _, rfl, by omega, by omega⟩
  refine Tr.pick [1, 2, 3, 4, 0] (ls2 := [(0, (2, 74)), (1, (0, a1)), (2, (0, a2)), (3, (0, a3)), (4, (0, 0))]) rfl ?_
  exact J3 _ _ _ hS (by omega) (Nat.lt_succ_self _)

def ws_X6_pass_74_w9 : List (Int × Int) := [(74, 9), (74, 14), (74, 17)]
def as_X6_pass_74_w9 : List Int := []
def q_X6_pass_74_w9 (M0 M' : Mem) (r : Option PV) : Prop := St Tru ws_X6_pass_74_w9 as_X6_pass_74_w9 M0 M' ∧ ∃ v : Int, r = some (0, v) ∧ (-2147483648) ≤ v ∧ v ≤ 50
set_option maxRecDepth 100000 in
set_option maxHeartbeats 4000000 in
theorem sp_X6_pass_74_w9 {l : Launch} {K : EC} {M0 : Mem} (hI : In Tru M0) (en_74_1 : rd M0 74 1 = 27) (a1 : Int) (ha1 : 0 ≤ a1 ∧ a1 ≤ 50) (a2 : Int) (ha2 : 0 ≤ a2 ∧ a2 ≤ 5) (a3 : Int) (ha3 : 3 ≤ a3 ∧ a3 ≤ 3)  : Tr l K 2 mX6_pass 0 [(0, (2, 74)), (1, (0, a1)), (2, (0, a2)), (3, (0, a3))] [] M0 (q_X6_pass_74_w9 M0) := by
  have hS : St Tru ws_X6_pass_74_w9 as_X6_pass_74_w9 M0 M0 := St.rf hI
  refine Tr.iload_n (pc := 0) (i := 1) d_X6_pass_0 rfl rfl ?_
  refine Tr.sipush (pc := 1) d_X6_pass_1 rfl (by decide) ?_
  refine Tr.aload_n (pc := 4) (i := 0) d_X6_pass_4 rfl rfl ?_
  refine Tr.getf (pc := 5) d_X6_pass_5 f_6_68 (by decide) (by decide) (ty_74 hS.1.1) ?_
  refine Tr.gen (P := fun v => (-2147483648) ≤ v ∧ v ≤ 2147483647) (ir_74_9 hS.1.2.1) (fun r5 er5 br5 => ?_)
  refine Tr.isub (pc := 8) d_X6_pass_8 ?_
  refine Tr.gen (P := fun v => (-2147483648) ≤ v ∧ v ≤ 2147483647) (w32_b _) (fun r8 er8 br8 => ?_)
  refine Tr.mmin (pc := 9) d_X6_pass_9 ml_6_158 mw_mmin (Nat.le_of_ble_eq_true rfl) ?_
  refine Tr.gen (P := fun v => (v = a1 ∧ a1 ≤ r8) ∨ (v = r8 ∧ r8 ≤ a1)) (f_min_p _ _) (fun r9 er9 br9 => ?_)
  refine Tr.istore (pc := 12) (i := 4) (ls2 := [(4, (0, r9)), (0, (2, 74)), (1, (0, a1)), (2, (0, a2)), (3, (0, a3))]) d_X6_pass_12 (by decide) rfl ?_
  refine Tr.aload_n (pc := 14) (i := 0) d_X6_pass_14 rfl rfl ?_
  refine Tr.getz (pc := 15) d_X6_pass_15 f_6_106 (by decide) (ty_74 hS.1.1) ?_
  refine Tr.gen (P := fun v => 0 ≤ v ∧ v ≤ 1) (ir_74_16 hS.1.2.1) (fun r15 er15 br15 => ?_)
  have J34 : ∀ (M : Mem) (q34_0 : Int), St Tru ws_X6_pass_74_w9 as_X6_pass_74_w9 M0 M → ((-2147483648) ≤ q34_0 ∧ q34_0 ≤ 50) → rd M 74 16 = r15 → rd M 74 9 = r5 → Tr l K 2 mX6_pass 34 [(0, (2, 74)), (1, (0, a1)), (4, (0, r9))] [(0, q34_0)] M (q_X6_pass_74_w9 M0) := by
    intro M q34_0 hS bq34_0 k34_74_16 k34_74_9
    refine Tr.istore (pc := 34) (i := 5) (ls2 := [(5, (0, q34_0)), (0, (2, 74)), (1, (0, a1)), (4, (0, r9))]) d_X6_pass_34 (by decide) rfl ?_
    refine Tr.aload_n (pc := 36) (i := 0) d_X6_pass_36 rfl rfl ?_
    refine Tr.dup (pc := 37) d_X6_pass_37 ne21 ?_
    refine Tr.getf (pc := 38) d_X6_pass_38 f_6_68 (by decide) (by decide) (ty_74 hS.1.1) ?_
    refine Tr.tp r5 k34_74_9 ?_
    refine Tr.iload (pc := 41) (i := 5) d_X6_pass_41 rfl ?_
    refine Tr.iadd (pc := 43) d_X6_pass_43 ?_
    refine Tr.gen (P := fun v => (-2147483648) ≤ v ∧ v ≤ 2147483647) (w32_b _) (fun r43 er43 br43 => ?_)
    refine Tr.putfS (pc := 44) (P := St Tru ws_X6_pass_74_w9 as_X6_pass_74_w9 M0) d_X6_pass_44 f_6_68 (by decide) (by decide) (ty_74 hS.1.1) (st_74_9 hS (by decide) (by omega) trivial) (fun M44 hS w44 => ?_)
    refine Tr.iload (pc := 47) (i := 5) d_X6_pass_47 rfl ?_
    refine Tr.iload_n (pc := 49) (i := 1) d_X6_pass_49 rfl rfl ?_
    refine Tr.icmp_ge (pc := 50) (tgt := 69) d_X6_pass_50 rfl (fun c50 => ?_) (fun c50 => ?_)
    · refine Tr.iload (pc := 69) (i := 5) d_X6_pass_69 rfl ?_
      exact Tr.iret (pc := 71) d_X6_pass_71 rfl ⟨hS, _, rfl, by omega, by omega⟩
    · refine Tr.aload_n (pc := 53) (i := 0) d_X6_pass_53 rfl rfl ?_
      refine Tr.iload (pc := 54) (i := 5) d_X6_pass_54 rfl ?_
      refine Tr.iload (pc := 56) (i := 4) d_X6_pass_56 rfl ?_
      refine Tr.icmp_ne (pc := 58) (tgt := 65) d_X6_pass_58 rfl (fun c58 => ?_) (fun c58 => ?_)
      · refine Tr.iconst (pc := 65) d_X6_pass_65 (by decide) ?_
        refine Tr.putfS (pc := 66) (P := St Tru ws_X6_pass_74_w9 as_X6_pass_74_w9 M0) d_X6_pass_66 f_6_62 (by decide) (by decide) (ty_74 hS.1.1) (st_74_14 hS (by decide) (by omega) trivial) (fun M66 hS w66 => ?_)
        refine Tr.iload (pc := 69) (i := 5) d_X6_pass_69 rfl ?_
        exact Tr.iret (pc := 71) d_X6_pass_71 rfl ⟨hS, _, rfl, by omega, by omega⟩
      · refine Tr.iconst (pc := 61) d_X6_pass_61 (by decide) ?_
        refine Tr.goto (pc := 62) (tgt := 66) d_X6_pass_62 rfl ?_
        refine Tr.putfS (pc := 66) (P := St Tru ws_X6_pass_74_w9 as_X6_pass_74_w9 M0) d_X6_pass_66 f_6_62 (by decide) (by decide) (ty_74 hS.1.1) (st_74_14 hS (by decide) (by omega) trivial) (fun M66 hS w66 => ?_)
        refine Tr.iload (pc := 69) (i := 5) d_X6_pass_69 rfl ?_
        exact Tr.iret (pc := 71) d_X6_pass_71 rfl ⟨hS, _, rfl, by omega, by omega⟩
  refine Tr.if_eq (pc := 18) (tgt := 32) d_X6_pass_18 rfl (fun c18 => ?_) (fun c18 => ?_)
  · refine Tr.iload (pc := 32) (i := 4) d_X6_pass_32 rfl ?_
    refine Tr.pick [1, 2, 0] (ls2 := [(0, (2, 74)), (1, (0, a1)), (4, (0, r9))]) rfl ?_
    exact J34 _ _ hS (by omega) er15 er5
  · refine Tr.aload_n (pc := 21) (i := 0) d_X6_pass_21 rfl rfl ?_
    refine Tr.iload (pc := 22) (i := 4) d_X6_pass_22 rfl ?_
    refine Tr.iload_n (pc := 24) (i := 2) d_X6_pass_24 rfl rfl ?_
    refine Tr.iload_n (pc := 25) (i := 3) d_X6_pass_25 rfl rfl ?_
    refine Tr.tp 3 (by omega) ?_
    refine Tr.callV (pc := 26) (as := [_, _, _]) d_X6_pass_26 s_6_183 ok_X6_afforded rfl rfl (Nat.le_of_ble_eq_true rfl) (Nat.le_of_ble_eq_true rfl) (by decide) (ty_74 hS.1.1) ?_
    refine Tr.imp (Tr.deep (by decide) (sp_X6_afforded_74_w9 hS.1 ((St.kp hS (by decide) (by decide) (by decide)).trans en_74_1) r9 (by omega) a2 (by omega) 3 (by omega))) ?_
    rintro M26 _ ⟨h26, r26, rfl, lr26, ur26⟩
    have hS := St.tr hS h26 (by decide) (by decide)
    refine Tr.sc [(0, r26)] rfl ?_
    refine Tr.goto (pc := 29) (tgt := 34) d_X6_pass_29 rfl ?_
    refine Tr.pick [1, 2, 0] (ls2 := [(0, (2, 74)), (1, (0, a1)), (4, (0, r9))]) rfl ?_
    exact J34 _ _ hS (by omega) ((St.kp h26 (by decide) (by decide) (by decide)).trans er15) ((St.kp h26 (by decide) (by decide) (by decide)).trans er5)

def ws_X1_sippedByParts_82_w1 : List (Int × Int) := []
def as_X1_sippedByParts_82_w1 : List Int := []
def q_X1_sippedByParts_82_w1 (M0 M' : Mem) (r : Option PV) : Prop := St Tru ws_X1_sippedByParts_82_w1 as_X1_sippedByParts_82_w1 M0 M' ∧ ∃ v : Int, r = some (0, v) ∧ (-2147483648) ≤ v ∧ v ≤ 2147483647
set_option maxRecDepth 100000 in
set_option maxHeartbeats 4000000 in
theorem sp_X1_sippedByParts_82_w1 {l : Launch} {K : EC} {M0 : Mem} (hI : In Tru M0) (en_82_1 : rd M0 82 1 = 27)   : Tr l K 0 mX1_sippedByParts 0 [(0, (2, 82))] [] M0 (q_X1_sippedByParts_82_w1 M0) := by
  have hS : St Tru ws_X1_sippedByParts_82_w1 as_X1_sippedByParts_82_w1 M0 M0 := St.rf hI
  refine Tr.iconst (pc := 0) d_X1_sippedByParts_0 (by decide) ?_
  refine Tr.istore_n (pc := 1) (i := 1) (ls2 := [(1, (0, 0)), (0, (2, 82))]) d_X1_sippedByParts_1 rfl (by decide) rfl ?_
  refine Tr.iconst (pc := 2) d_X1_sippedByParts_2 (by decide) ?_
  refine Tr.istore_n (pc := 3) (i := 2) (ls2 := [(2, (0, 0)), (1, (0, 0)), (0, (2, 82))]) d_X1_sippedByParts_3 rfl (by decide) rfl ?_
  have J4 : ∀ (n4 : Nat) (M : Mem) (p4_1 p4_2 : Int), St Tru ws_X1_sippedByParts_82_w1 as_X1_sippedByParts_82_w1 M0 M → ((-2147483648) ≤ p4_1 ∧ p4_1 ≤ 2147483647) → (0 ≤ p4_2 ∧ p4_2 ≤ 24) → (24 - p4_2).toNat < n4 → Tr l K 0 mX1_sippedByParts 4 [(0, (2, 82)), (1, (0, p4_1)), (2, (0, p4_2))] [] M (q_X1_sippedByParts_82_w1 M0) := by
    intro n4
    induction n4 with
    | zero => intro M p4_1 p4_2 hS bp4_1 bp4_2  hm4; exact absurd hm4 (Nat.not_lt_zero _)
    | succ n4 J4 =>
      intro M p4_1 p4_2 hS bp4_1 bp4_2  hm4
      refine Tr.iload_n (pc := 4) (i := 2) d_X1_sippedByParts_4 rfl rfl ?_
      refine Tr.aload_n (pc := 5) (i := 0) d_X1_sippedByParts_5 rfl rfl ?_
      refine Tr.getf (pc := 6) d_X1_sippedByParts_6 f_1_41 (by decide) (by decide) (ty_82 hS.1.1) ?_
      refine Tr.tp 27 ((St.kp hS (by decide) (by decide) (by decide)).trans en_82_1) ?_
      refine Tr.getf (pc := 9) d_X1_sippedByParts_9 f_1_91 (by decide) (by decide) (ty_27 hS.1.1) ?_
      refine Tr.tp 28 (fx_27_4 hS.1.1) ?_
      refine Tr.iconst (pc := 12) d_X1_sippedByParts_12 (by decide) ?_
      refine Tr.iald (pc := 13) d_X1_sippedByParts_13 (ty_28 hS.1.1) (by omega) (by omega) ?_
      refine Tr.gen (P := fun v => 0 ≤ v ∧ v ≤ 6) (ir_28_0 hS.1.2.1) (fun r13 er13 br13 => ?_)
      refine Tr.iconst (pc := 14) d_X1_sippedByParts_14 (by decide) ?_
      refine Tr.imul (pc := 15) d_X1_sippedByParts_15 ?_
      refine Tr.tp (4 * r13) ((w32_id (by omega)).trans (by omega)) ?_
      refine Tr.icmp_ge (pc := 16) (tgt := 44) d_X1_sippedByParts_16 rfl (fun c16 => ?_) (fun c16 => ?_)
      · refine Tr.iload_n (pc := 44) (i := 1) d_X1_sippedByParts_44 rfl rfl ?_
        exact Tr.iret (pc := 45) d_X1_sippedByParts_45 rfl ⟨hS, _, rfl, by omega, by omega⟩
      · refine Tr.iload_n (pc := 19) (i := 1) d_X1_sippedByParts_19 rfl rfl ?_
        refine Tr.aload_n (pc := 20) (i := 0) d_X1_sippedByParts_20 rfl rfl ?_
        refine Tr.getf (pc := 21) d_X1_sippedByParts_21 f_1_9 (by decide) (by decide) (ty_82 hS.1.1) ?_
        refine Tr.tp 83 (fx_82_2 hS.1.1) ?_
        refine Tr.iload_n (pc := 24) (i := 2) d_X1_sippedByParts_24 rfl rfl ?_
        refine Tr.iald (pc := 25) d_X1_sippedByParts_25 (ty_83 hS.1.1) (by omega) (by omega) ?_
        refine Tr.gen (P := fun v => (-2147483648) ≤ v ∧ v ≤ 2147483647) (ar_83 hS.1.2.1 _) (fun r25 er25 br25 => ?_)
        refine Tr.aload_n (pc := 26) (i := 0) d_X1_sippedByParts_26 rfl rfl ?_
        refine Tr.getf (pc := 27) d_X1_sippedByParts_27 f_1_41 (by decide) (by decide) (ty_82 hS.1.1) ?_
        refine Tr.tp 27 ((St.kp hS (by decide) (by decide) (by decide)).trans en_82_1) ?_
        refine Tr.getf (pc := 30) d_X1_sippedByParts_30 f_1_71 (by decide) (by decide) (ty_27 hS.1.1) ?_
        refine Tr.tp 29 (fx_27_5 hS.1.1) ?_
        refine Tr.iload_n (pc := 33) (i := 2) d_X1_sippedByParts_33 rfl rfl ?_
        refine Tr.iald (pc := 34) d_X1_sippedByParts_34 (ty_29 hS.1.1) (by omega) (by omega) ?_
        refine Tr.gen (P := fun v => (-1) ≤ v ∧ v ≤ 999) (ar_29 hS.1.2.1 _) (fun r34 er34 br34 => ?_)
        refine Tr.imul (pc := 35) d_X1_sippedByParts_35 ?_
        refine Tr.gen (P := fun v => (-2147483648) ≤ v ∧ v ≤ 2147483647) (w32_b _) (fun r35 er35 br35 => ?_)
        refine Tr.iadd (pc := 36) d_X1_sippedByParts_36 ?_
        refine Tr.gen (P := fun v => (-2147483648) ≤ v ∧ v ≤ 2147483647) (w32_b _) (fun r36 er36 br36 => ?_)
        refine Tr.istore_n (pc := 37) (i := 1) (ls2 := [(1, (0, r36)), (0, (2, 82)), (2, (0, p4_2))]) d_X1_sippedByParts_37 rfl (by decide) rfl ?_
        refine Tr.iincV (pc := 38) (n2 := (p4_2 + 1)) (ls2 := [(2, (0, (p4_2 + 1))), (1, (0, r36)), (0, (2, 82))]) d_X1_sippedByParts_38 rfl (by decide) ((w32_id (by omega)).trans (by omega)) rfl ?_
        refine Tr.goto (pc := 41) (tgt := 4) d_X1_sippedByParts_41 rfl ?_
        refine Tr.pick [2, 1, 0] (ls2 := [(0, (2, 82)), (1, (0, r36)), (2, (0, (p4_2 + 1)))]) rfl ?_
        exact J4 _ _ _ hS (by omega) (by omega) (by omega)
  refine Tr.pick [2, 1, 0] (ls2 := [(0, (2, 82)), (1, (0, 0)), (2, (0, 0))]) rfl ?_
  exact J4 _ _ _ _ hS (by omega) (by omega) (Nat.lt_succ_self _)

def ws_X6_finish_74_w1 : List (Int × Int) := [(74, 9), (74, 10)]
def as_X6_finish_74_w1 : List Int := [81, 83]
def q_X6_finish_74_w1 (M0 M' : Mem) (r : Option PV) : Prop := St Tru ws_X6_finish_74_w1 as_X6_finish_74_w1 M0 M' ∧ r = none
set_option maxRecDepth 100000 in
set_option maxHeartbeats 4000000 in
theorem sp_X6_finish_74_w1 {l : Launch} {K : EC} {M0 : Mem} (hI : In Tru M0) (en_74_1 : rd M0 74 1 = 27) (en_82_1 : rd M0 82 1 = 27)   : Tr l K 2 mX6_finish 0 [(0, (2, 74))] [] M0 (q_X6_finish_74_w1 M0) := by
  have hS : St Tru ws_X6_finish_74_w1 as_X6_finish_74_w1 M0 M0 := St.rf hI
  refine Tr.aload_n (pc := 0) (i := 0) d_X6_finish_0 rfl rfl ?_
  refine Tr.getf (pc := 1) d_X6_finish_1 f_6_68 (by decide) (by decide) (ty_74 hS.1.1) ?_
  refine Tr.gen (P := fun v => (-2147483648) ≤ v ∧ v ≤ 2147483647) (ir_74_9 hS.1.2.1) (fun r1 er1 br1 => ?_)
  refine Tr.istore_n (pc := 4) (i := 1) (ls2 := [(1, (0, r1)), (0, (2, 74))]) d_X6_finish_4 rfl (by decide) rfl ?_
  refine Tr.aload_n (pc := 5) (i := 0) d_X6_finish_5 rfl rfl ?_
  refine Tr.getf (pc := 6) d_X6_finish_6 f_6_46 (by decide) (by decide) (ty_74 hS.1.1) ?_
  refine Tr.tp 27 ((St.kp hS (by decide) (by decide) (by decide)).trans en_74_1) ?_
  refine Tr.getf (pc := 9) d_X6_finish_9 f_6_116 (by decide) (by decide) (ty_27 hS.1.1) ?_
  refine Tr.tp 28 (fx_27_4 hS.1.1) ?_
  refine Tr.iconst (pc := 12) d_X6_finish_12 (by decide) ?_
  refine Tr.iald (pc := 13) d_X6_finish_13 (ty_28 hS.1.1) (by omega) (by omega) ?_
  refine Tr.gen (P := fun v => 0 ≤ v ∧ v ≤ 6) (ir_28_0 hS.1.2.1) (fun r13 er13 br13 => ?_)
  refine Tr.istore_n (pc := 14) (i := 2) (ls2 := [(2, (0, r13)), (1, (0, r1)), (0, (2, 74))]) d_X6_finish_14 rfl (by decide) rfl ?_
  refine Tr.iconst (pc := 15) d_X6_finish_15 (by decide) ?_
  refine Tr.istore_n (pc := 16) (i := 3) (ls2 := [(3, (0, 0)), (2, (0, r13)), (1, (0, r1)), (0, (2, 74))]) d_X6_finish_16 rfl (by decide) rfl ?_
  have J17 : ∀ (n17 : Nat) (M : Mem) (p17_3 : Int), St Tru ws_X6_finish_74_w1 as_X6_finish_74_w1 M0 M → (0 ≤ p17_3 ∧ p17_3 ≤ 6) → rd M 28 0 = r13 → (6 - p17_3).toNat < n17 → Tr l K 2 mX6_finish 17 [(0, (2, 74)), (1, (0, r1)), (2, (0, r13)), (3, (0, p17_3))] [] M (q_X6_finish_74_w1 M0) := by
    intro n17
    induction n17 with
    | zero => intro M p17_3 hS bp17_3 k17_28_0 hm17; exact absurd hm17 (Nat.not_lt_zero _)
    | succ n17 J17 =>
      intro M p17_3 hS bp17_3 k17_28_0 hm17
      refine Tr.iload_n (pc := 17) (i := 3) d_X6_finish_17 rfl rfl ?_
      refine Tr.iload_n (pc := 18) (i := 2) d_X6_finish_18 rfl rfl ?_
      have J61 : ∀ (M : Mem), St Tru ws_X6_finish_74_w1 as_X6_finish_74_w1 M0 M → rd M 28 0 = r13 → Tr l K 2 mX6_finish 61 [(0, (2, 74)), (1, (0, r1)), (2, (0, r13))] [] M (q_X6_finish_74_w1 M0) := by
        intro M  hS  k61_28_0
        refine Tr.iconst (pc := 61) d_X6_finish_61 (by decide) ?_
        refine Tr.istore_n (pc := 62) (i := 3) (ls2 := [(3, (0, 0)), (0, (2, 74)), (1, (0, r1)), (2, (0, r13))]) d_X6_finish_62 rfl (by decide) rfl ?_
        have J63 : ∀ (n63 : Nat) (M : Mem) (p63_3 : Int), St Tru ws_X6_finish_74_w1 as_X6_finish_74_w1 M0 M → (0 ≤ p63_3 ∧ p63_3 ≤ 6) → rd M 28 0 = r13 → (6 - p63_3).toNat < n63 → Tr l K 2 mX6_finish 63 [(0, (2, 74)), (1, (0, r1)), (2, (0, r13)), (3, (0, p63_3))] [] M (q_X6_finish_74_w1 M0) := by
          intro n63
          induction n63 with
          | zero => intro M p63_3 hS bp63_3 k63_28_0 hm63; exact absurd hm63 (Nat.not_lt_zero _)
          | succ n63 J63 =>
            intro M p63_3 hS bp63_3 k63_28_0 hm63
            refine Tr.iload_n (pc := 63) (i := 3) d_X6_finish_63 rfl rfl ?_
            refine Tr.iload_n (pc := 64) (i := 2) d_X6_finish_64 rfl rfl ?_
            refine Tr.icmp_ge (pc := 65) (tgt := 129) d_X6_finish_65 rfl (fun c65 => ?_) (fun c65 => ?_)
            · refine Tr.aload_n (pc := 129) (i := 0) d_X6_finish_129 rfl rfl ?_
              refine Tr.iload_n (pc := 130) (i := 1) d_X6_finish_130 rfl rfl ?_
              refine Tr.aload_n (pc := 131) (i := 0) d_X6_finish_131 rfl rfl ?_
              refine Tr.getf (pc := 132) d_X6_finish_132 f_6_46 (by decide) (by decide) (ty_74 hS.1.1) ?_
              refine Tr.tp 27 ((St.kp hS (by decide) (by decide) (by decide)).trans en_74_1) ?_
              refine Tr.getf (pc := 135) d_X6_finish_135 f_6_135 (by decide) (by decide) (ty_27 hS.1.1) ?_
              refine Tr.gen (P := fun v => (-1) ≤ v ∧ v ≤ 999) (ir_27_0 hS.1.2.1) (fun r135 er135 br135 => ?_)
              refine Tr.imul (pc := 138) d_X6_finish_138 ?_
              refine Tr.gen (P := fun v => (-2147483648) ≤ v ∧ v ≤ 2147483647) (w32_b _) (fun r138 er138 br138 => ?_)
              refine Tr.aload_n (pc := 139) (i := 0) d_X6_finish_139 rfl rfl ?_
              refine Tr.getf (pc := 140) d_X6_finish_140 f_6_38 (by decide) (by decide) (ty_74 hS.1.1) ?_
              refine Tr.tp 82 (fx_74_0 hS.1.1) ?_
              refine Tr.callV (pc := 143) (as := []) d_X6_finish_143 s_6_138 ok_X1_sippedByParts rfl rfl (Nat.le_of_ble_eq_true rfl) (Nat.le_of_ble_eq_true rfl) (by decide) (ty_82 hS.1.1) ?_
              refine Tr.imp (Tr.deep (by decide) (sp_X1_sippedByParts_82_w1 hS.1 ((St.kp hS (by decide) (by decide) (by decide)).trans en_82_1))) ?_
              rintro M143 _ ⟨h143, r143, rfl, lr143, ur143⟩
              have hS := St.tr hS h143 (by decide) (by decide)
              refine Tr.sc [(0, r143), (0, r138), (2, 74)] rfl ?_
              refine Tr.iadd (pc := 146) d_X6_finish_146 ?_
              refine Tr.gen (P := fun v => (-2147483648) ≤ v ∧ v ≤ 2147483647) (w32_b _) (fun r146 er146 br146 => ?_)
              refine Tr.putfS (pc := 147) (P := St Tru ws_X6_finish_74_w1 as_X6_finish_74_w1 M0) d_X6_finish_147 f_6_142 (by decide) (by decide) (ty_74 hS.1.1) (st_74_10 hS (by decide) (by omega) trivial) (fun M147 hS w147 => ?_)
              exact Tr.vret (pc := 150) d_X6_finish_150 rfl ⟨hS, rfl⟩
            · refine Tr.aload_n (pc := 68) (i := 0) d_X6_finish_68 rfl rfl ?_
              refine Tr.iload_n (pc := 69) (i := 3) d_X6_finish_69 rfl rfl ?_
              refine Tr.aload_n (pc := 70) (i := 0) d_X6_finish_70 rfl rfl ?_
              refine Tr.getf (pc := 71) d_X6_finish_71 f_6_68 (by decide) (by decide) (ty_74 hS.1.1) ?_
              refine Tr.gen (P := fun v => (-2147483648) ≤ v ∧ v ≤ 2147483647) (ir_74_9 hS.1.2.1) (fun r71 er71 br71 => ?_)
              refine Tr.callV (pc := 74) (as := [_, _]) d_X6_finish_74 s_6_125 ok_X6_settle rfl rfl (Nat.le_of_ble_eq_true rfl) (Nat.le_of_ble_eq_true rfl) (by decide) (ty_74 hS.1.1) ?_
              refine Tr.imp (Tr.deep (by decide) (sp_X6_settle_74 hS.1 p63_3 (by omega) r71 (by omega))) ?_
              rintro M74 _ ⟨h74, rfl⟩
              have hS := St.tr hS h74 (by decide) (by decide)
              refine Tr.sc [] rfl ?_
              refine Tr.aload_n (pc := 77) (i := 0) d_X6_finish_77 rfl rfl ?_
              refine Tr.getf (pc := 78) d_X6_finish_78 f_6_24 (by decide) (by decide) (ty_74 hS.1.1) ?_
              refine Tr.tp 79 (fx_74_6 hS.1.1) ?_
              refine Tr.iload_n (pc := 81) (i := 3) d_X6_finish_81 rfl rfl ?_
              refine Tr.iald (pc := 82) d_X6_finish_82 (ty_79 hS.1.1) (by omega) (by omega) ?_
              refine Tr.gen (P := fun v => 0 ≤ v ∧ v ≤ 1) (ar_79 hS.1.2.1 _) (fun r82 er82 br82 => ?_)
              refine Tr.iconst (pc := 83) d_X6_finish_83 (by decide) ?_
              have J123 : ∀ (M : Mem), St Tru ws_X6_finish_74_w1 as_X6_finish_74_w1 M0 M → rd M 28 0 = r13 → rd M 74 9 = r71 → rd M 79 p63_3 = r82 → Tr l K 2 mX6_finish 123 [(0, (2, 74)), (1, (0, r1)), (2, (0, r13)), (3, (0, p63_3))] [] M (q_X6_finish_74_w1 M0) := by
                intro M  hS  k123_28_0 k123_74_9 k123_79_p63_310
                refine Tr.iincV (pc := 123) (n2 := (p63_3 + 1)) (ls2 := [(3, (0, (p63_3 + 1))), (0, (2, 74)), (1, (0, r1)), (2, (0, r13))]) d_X6_finish_123 rfl (by decide) ((w32_id (by omega)).trans (by omega)) rfl ?_
                refine Tr.goto (pc := 126) (tgt := 63) d_X6_finish_126 rfl ?_
                refine Tr.pick [1, 2, 3, 0] (ls2 := [(0, (2, 74)), (1, (0, r1)), (2, (0, r13)), (3, (0, (p63_3 + 1)))]) rfl ?_
                exact J63 _ _ hS (by omega) k123_28_0 (by omega)
              refine Tr.icmp_ne (pc := 84) (tgt := 102) d_X6_finish_84 rfl (fun c84 => ?_) (fun c84 => ?_)
              · refine Tr.aload_n (pc := 102) (i := 0) d_X6_finish_102 rfl rfl ?_
                refine Tr.getf (pc := 103) d_X6_finish_103 f_6_27 (by decide) (by decide) (ty_74 hS.1.1) ?_
                refine Tr.tp 80 (fx_74_7 hS.1.1) ?_
                refine Tr.iload_n (pc := 106) (i := 3) d_X6_finish_106 rfl rfl ?_
                refine Tr.iald (pc := 107) d_X6_finish_107 (ty_80 hS.1.1) (by omega) (by omega) ?_
                refine Tr.gen (P := fun v => (-2147483648) ≤ v ∧ v ≤ 2147483647) (ar_80 hS.1.2.1 _) (fun r107 er107 br107 => ?_)
                refine Tr.aload_n (pc := 108) (i := 0) d_X6_finish_108 rfl rfl ?_
                refine Tr.getf (pc := 109) d_X6_finish_109 f_6_68 (by decide) (by decide) (ty_74 hS.1.1) ?_
                refine Tr.tp r71 ((St.kp h74 (by decide) (by decide) (by decide)).trans er71) ?_
                refine Tr.icmp_gt (pc := 112) (tgt := 123) d_X6_finish_112 rfl (fun c112 => ?_) (fun c112 => ?_)
                · refine Tr.pick [0, 1, 2, 3] (ls2 := [(0, (2, 74)), (1, (0, r1)), (2, (0, r13)), (3, (0, p63_3))]) rfl ?_
                  exact J123 _ hS ((St.kp h74 (by decide) (by decide) (by decide)).trans k63_28_0) ((St.kp h74 (by decide) (by decide) (by decide)).trans er71) er82
                · refine Tr.aload_n (pc := 115) (i := 0) d_X6_finish_115 rfl rfl ?_
                  refine Tr.getf (pc := 116) d_X6_finish_116 f_6_38 (by decide) (by decide) (ty_74 hS.1.1) ?_
                  refine Tr.tp 82 (fx_74_0 hS.1.1) ?_
                  refine Tr.iload_n (pc := 119) (i := 3) d_X6_finish_119 rfl rfl ?_
                  refine Tr.callV (pc := 120) (as := [_]) d_X6_finish_120 s_6_131 ok_X1_fallAsleep rfl rfl (Nat.le_of_ble_eq_true rfl) (Nat.le_of_ble_eq_true rfl) (by decide) (ty_82 hS.1.1) ?_
                  refine Tr.imp (Tr.deep (by decide) (sp_X1_fallAsleep_82_w4 hS.1 p63_3 (by omega))) ?_
                  rintro M120 _ ⟨h120, rfl⟩
                  have hS := St.tr hS h120 (by decide) (by decide)
                  refine Tr.sc [] rfl ?_
                  refine Tr.pick [0, 1, 2, 3] (ls2 := [(0, (2, 74)), (1, (0, r1)), (2, (0, r13)), (3, (0, p63_3))]) rfl ?_
                  exact J123 _ hS ((St.kp h120 (by decide) (by decide) (by decide)).trans ((St.kp h74 (by decide) (by decide) (by decide)).trans k63_28_0)) ((St.kp h120 (by decide) (by decide) (by decide)).trans ((St.kp h74 (by decide) (by decide) (by decide)).trans er71)) ((St.ka h120 (by decide) (by decide) (by decide)).trans er82)
              · refine Tr.aload_n (pc := 87) (i := 0) d_X6_finish_87 rfl rfl ?_
                refine Tr.getf (pc := 88) d_X6_finish_88 f_6_38 (by decide) (by decide) (ty_74 hS.1.1) ?_
                refine Tr.tp 82 (fx_74_0 hS.1.1) ?_
                refine Tr.iload_n (pc := 91) (i := 3) d_X6_finish_91 rfl rfl ?_
                refine Tr.aload_n (pc := 92) (i := 0) d_X6_finish_92 rfl rfl ?_
                refine Tr.getf (pc := 93) d_X6_finish_93 f_6_68 (by decide) (by decide) (ty_74 hS.1.1) ?_
                refine Tr.tp r71 ((St.kp h74 (by decide) (by decide) (by decide)).trans er71) ?_
                refine Tr.callV (pc := 96) (as := [_, _]) d_X6_finish_96 s_6_128 ok_X1_letGo rfl rfl (Nat.le_of_ble_eq_true rfl) (Nat.le_of_ble_eq_true rfl) (by decide) (ty_82 hS.1.1) ?_
                refine Tr.imp (Tr.deep (by decide) (sp_X1_letGo_82 hS.1 p63_3 (by omega) r71 (by omega))) ?_
                rintro M96 _ ⟨h96, rfl⟩
                have hS := St.tr hS h96 (by decide) (by decide)
                refine Tr.sc [] rfl ?_
                refine Tr.goto (pc := 99) (tgt := 123) d_X6_finish_99 rfl ?_
                refine Tr.pick [0, 1, 2, 3] (ls2 := [(0, (2, 74)), (1, (0, r1)), (2, (0, r13)), (3, (0, p63_3))]) rfl ?_
                exact J123 _ hS ((St.kp h96 (by decide) (by decide) (by decide)).trans ((St.kp h74 (by decide) (by decide) (by decide)).trans k63_28_0)) ((St.kp h96 (by decide) (by decide) (by decide)).trans ((St.kp h74 (by decide) (by decide) (by decide)).trans er71)) ((St.ka h96 (by decide) (by decide) (by decide)).trans er82)
        refine Tr.pick [1, 2, 3, 0] (ls2 := [(0, (2, 74)), (1, (0, r1)), (2, (0, r13)), (3, (0, 0))]) rfl ?_
        exact J63 _ _ _ hS (by omega) k61_28_0 (Nat.lt_succ_self _)
      refine Tr.icmp_ge (pc := 19) (tgt := 61) d_X6_finish_19 rfl (fun c19 => ?_) (fun c19 => ?_)
      · refine Tr.pick [0, 1, 2] (ls2 := [(0, (2, 74)), (1, (0, r1)), (2, (0, r13))]) rfl ?_
        exact J61 _ hS k17_28_0
      · refine Tr.aload_n (pc := 22) (i := 0) d_X6_finish_22 rfl rfl ?_
        refine Tr.getf (pc := 23) d_X6_finish_23 f_6_62 (by decide) (by decide) (ty_74 hS.1.1) ?_
        refine Tr.gen (P := fun v => (-2147483648) ≤ v ∧ v ≤ 2147483647) (ir_74_14 hS.1.2.1) (fun r23 er23 br23 => ?_)
        refine Tr.if_ne (pc := 26) (tgt := 61) d_X6_finish_26 rfl (fun c26 => ?_) (fun c26 => ?_)
        · refine Tr.pick [0, 1, 2] (ls2 := [(0, (2, 74)), (1, (0, r1)), (2, (0, r13))]) rfl ?_
          exact J61 _ hS k17_28_0
        · refine Tr.aload_n (pc := 29) (i := 0) d_X6_finish_29 rfl rfl ?_
          refine Tr.getf (pc := 30) d_X6_finish_30 f_6_24 (by decide) (by decide) (ty_74 hS.1.1) ?_
          refine Tr.tp 79 (fx_74_6 hS.1.1) ?_
          refine Tr.iload_n (pc := 33) (i := 3) d_X6_finish_33 rfl rfl ?_
          refine Tr.iald (pc := 34) d_X6_finish_34 (ty_79 hS.1.1) (by omega) (by omega) ?_
          refine Tr.gen (P := fun v => 0 ≤ v ∧ v ≤ 1) (ar_79 hS.1.2.1 _) (fun r34 er34 br34 => ?_)
          have J55 : ∀ (M : Mem), St Tru ws_X6_finish_74_w1 as_X6_finish_74_w1 M0 M → rd M 28 0 = r13 → rd M 74 14 = r23 → rd M 79 p17_3 = r34 → Tr l K 2 mX6_finish 55 [(0, (2, 74)), (1, (0, r1)), (2, (0, r13)), (3, (0, p17_3))] [] M (q_X6_finish_74_w1 M0) := by
            intro M  hS  k55_28_0 k55_74_14 k55_79_p17_310
            refine Tr.iincV (pc := 55) (n2 := (p17_3 + 1)) (ls2 := [(3, (0, (p17_3 + 1))), (0, (2, 74)), (1, (0, r1)), (2, (0, r13))]) d_X6_finish_55 rfl (by decide) ((w32_id (by omega)).trans (by omega)) rfl ?_
            refine Tr.goto (pc := 58) (tgt := 17) d_X6_finish_58 rfl ?_
            refine Tr.pick [1, 2, 3, 0] (ls2 := [(0, (2, 74)), (1, (0, r1)), (2, (0, r13)), (3, (0, (p17_3 + 1)))]) rfl ?_
            exact J17 _ _ hS (by omega) k55_28_0 (by omega)
          refine Tr.if_ne (pc := 35) (tgt := 55) d_X6_finish_35 rfl (fun c35 => ?_) (fun c35 => ?_)
          · refine Tr.pick [0, 1, 2, 3] (ls2 := [(0, (2, 74)), (1, (0, r1)), (2, (0, r13)), (3, (0, p17_3))]) rfl ?_
            exact J55 _ hS k17_28_0 er23 er34
          · refine Tr.aload_n (pc := 38) (i := 0) d_X6_finish_38 rfl rfl ?_
            refine Tr.aload_n (pc := 39) (i := 0) d_X6_finish_39 rfl rfl ?_
            refine Tr.getf (pc := 40) d_X6_finish_40 f_6_68 (by decide) (by decide) (ty_74 hS.1.1) ?_
            refine Tr.gen (P := fun v => (-2147483648) ≤ v ∧ v ≤ 2147483647) (ir_74_9 hS.1.2.1) (fun r40 er40 br40 => ?_)
            refine Tr.aload_n (pc := 43) (i := 0) d_X6_finish_43 rfl rfl ?_
            refine Tr.getf (pc := 44) d_X6_finish_44 f_6_27 (by decide) (by decide) (ty_74 hS.1.1) ?_
            refine Tr.tp 80 (fx_74_7 hS.1.1) ?_
            refine Tr.iload_n (pc := 47) (i := 3) d_X6_finish_47 rfl rfl ?_
            refine Tr.iald (pc := 48) d_X6_finish_48 (ty_80 hS.1.1) (by omega) (by omega) ?_
            refine Tr.gen (P := fun v => (-2147483648) ≤ v ∧ v ≤ 2147483647) (ar_80 hS.1.2.1 _) (fun r48 er48 br48 => ?_)
            refine Tr.mmax (pc := 49) d_X6_finish_49 ml_6_119 mw_mmax (Nat.le_of_ble_eq_true rfl) ?_
            refine Tr.gen (P := fun v => (v = r40 ∧ r48 ≤ r40) ∨ (v = r48 ∧ r40 ≤ r48)) (f_max_p _ _) (fun r49 er49 br49 => ?_)
            refine Tr.putfS (pc := 52) (P := St Tru ws_X6_finish_74_w1 as_X6_finish_74_w1 M0) d_X6_finish_52 f_6_68 (by decide) (by decide) (ty_74 hS.1.1) (st_74_9 hS (by decide) (by omega) trivial) (fun M52 hS w52 => ?_)
            refine Tr.pick [0, 1, 2, 3] (ls2 := [(0, (2, 74)), (1, (0, r1)), (2, (0, r13)), (3, (0, p17_3))]) rfl ?_
            exact J55 _ hS ((Wr.b w52 rfl).trans k17_28_0) ((Wr.b w52 rfl).trans er23) ((Wr.b w52 rfl).trans er34)
  refine Tr.pick [3, 2, 1, 0] (ls2 := [(0, (2, 74)), (1, (0, r1)), (2, (0, r13)), (3, (0, 0))]) rfl ?_
  exact J17 _ _ _ hS (by omega) er13 (Nat.lt_succ_self _)

def ws_X6_worked_74_w3 : List (Int × Int) := []
def as_X6_worked_74_w3 : List Int := [77]
def q_X6_worked_74_w3 (M0 M' : Mem) (r : Option PV) : Prop := St Tru ws_X6_worked_74_w3 as_X6_worked_74_w3 M0 M' ∧ ∃ v : Int, r = some (0, v) ∧ (-2147483648) ≤ v ∧ v ≤ 2147483647
set_option maxRecDepth 100000 in
set_option maxHeartbeats 4000000 in
theorem sp_X6_worked_74_w3 {l : Launch} {K : EC} {M0 : Mem} (hI : In Tru M0) (en_74_1 : rd M0 74 1 = 27) (a1 : Int) (ha1 : 0 ≤ a1 ∧ a1 ≤ 59)  : Tr l K 3 mX6_worked 0 [(0, (2, 74)), (1, (0, a1))] [] M0 (q_X6_worked_74_w3 M0) := by
  have hS : St Tru ws_X6_worked_74_w3 as_X6_worked_74_w3 M0 M0 := St.rf hI
  refine Tr.aload_n (pc := 0) (i := 0) d_X6_worked_0 rfl rfl ?_
  refine Tr.getf (pc := 1) d_X6_worked_1 f_6_46 (by decide) (by decide) (ty_74 hS.1.1) ?_
  refine Tr.tp 27 ((St.kp hS (by decide) (by decide) (by decide)).trans en_74_1) ?_
  refine Tr.getf (pc := 4) d_X6_worked_4 f_6_50 (by decide) (by decide) (ty_27 hS.1.1) ?_
  refine Tr.tp 35 (fx_27_11 hS.1.1) ?_
  refine Tr.astore_n (pc := 7) (i := 2) (ls2 := [(2, (2, 35)), (0, (2, 74)), (1, (0, a1))]) d_X6_worked_7 rfl (by decide) rfl ?_
  refine Tr.iconst (pc := 8) d_X6_worked_8 (by decide) ?_
  refine Tr.istore_n (pc := 9) (i := 3) (ls2 := [(3, (0, 0)), (2, (2, 35)), (0, (2, 74)), (1, (0, a1))]) d_X6_worked_9 rfl (by decide) rfl ?_
  refine Tr.aload_n (pc := 10) (i := 2) d_X6_worked_10 rfl rfl ?_
  refine Tr.getf (pc := 11) d_X6_worked_11 f_6_226 (by decide) (by decide) (ty_35 hS.1.1) ?_
  refine Tr.tp 38 (fx_35_3 hS.1.1) ?_
  refine Tr.iload_n (pc := 14) (i := 1) d_X6_worked_14 rfl rfl ?_
  refine Tr.iald (pc := 15) d_X6_worked_15 (ty_38 hS.1.1) (by omega) (by omega) ?_
  refine Tr.gen (P := fun v => 0 ≤ v ∧ v ≤ 900) (ar_38 hS.1.2.1 _) (fun r15 er15 br15 => ?_)
  refine Tr.istore (pc := 16) (i := 4) (ls2 := [(4, (0, r15)), (3, (0, 0)), (2, (2, 35)), (0, (2, 74)), (1, (0, a1))]) d_X6_worked_16 (by decide) rfl ?_
  have J18 : ∀ (n18 : Nat) (M : Mem) (p18_3 p18_4 : Int), St Tru ws_X6_worked_74_w3 as_X6_worked_74_w3 M0 M → (0 ≤ p18_3 ∧ p18_3 ≤ 64) → (0 ≤ p18_4 ∧ p18_4 ≤ 900) → rd M 38 a1 = r15 → (900 - p18_4).toNat < n18 → Tr l K 3 mX6_worked 18 [(0, (2, 74)), (1, (0, a1)), (2, (2, 35)), (3, (0, p18_3)), (4, (0, p18_4))] [] M (q_X6_worked_74_w3 M0) := by
    intro n18
    induction n18 with
    | zero => intro M p18_3 p18_4 hS bp18_3 bp18_4 k18_38_a110 hm18; exact absurd hm18 (Nat.not_lt_zero _)
    | succ n18 J18 =>
      intro M p18_3 p18_4 hS bp18_3 bp18_4 k18_38_a110 hm18
      refine Tr.iload (pc := 18) (i := 4) d_X6_worked_18 rfl ?_
      refine Tr.aload_n (pc := 20) (i := 2) d_X6_worked_20 rfl rfl ?_
      refine Tr.getf (pc := 21) d_X6_worked_21 f_6_226 (by decide) (by decide) (ty_35 hS.1.1) ?_
      refine Tr.tp 38 (fx_35_3 hS.1.1) ?_
      refine Tr.iload_n (pc := 24) (i := 1) d_X6_worked_24 rfl rfl ?_
      refine Tr.iconst (pc := 25) d_X6_worked_25 (by decide) ?_
      refine Tr.iadd (pc := 26) d_X6_worked_26 ?_
      refine Tr.tp (a1 + 1) ((w32_id (by omega)).trans (by omega)) ?_
      refine Tr.iald (pc := 27) d_X6_worked_27 (ty_38 hS.1.1) (by omega) (by omega) ?_
      refine Tr.gen (P := fun v => 0 ≤ v ∧ v ≤ 900) (ar_38 hS.1.2.1 _) (fun r27 er27 br27 => ?_)
      refine Tr.icmp_ge (pc := 28) (tgt := 156) d_X6_worked_28 rfl (fun c28 => ?_) (fun c28 => ?_)
      · refine Tr.iload_n (pc := 156) (i := 3) d_X6_worked_156 rfl rfl ?_
        refine Tr.iconst (pc := 157) d_X6_worked_157 (by decide) ?_
        refine Tr.icmp_ne (pc := 158) (tgt := 170) d_X6_worked_158 rfl (fun c158 => ?_) (fun c158 => ?_)
        · refine Tr.iconst (pc := 170) d_X6_worked_170 (by decide) ?_
          exact Tr.iret (pc := 171) d_X6_worked_171 rfl ⟨hS, _, rfl, by omega, by omega⟩
        · refine Tr.aload_n (pc := 161) (i := 0) d_X6_worked_161 rfl rfl ?_
          refine Tr.getf (pc := 162) d_X6_worked_162 f_6_18 (by decide) (by decide) (ty_74 hS.1.1) ?_
          refine Tr.tp 77 (fx_74_4 hS.1.1) ?_
          refine Tr.iconst (pc := 165) d_X6_worked_165 (by decide) ?_
          refine Tr.iald (pc := 166) d_X6_worked_166 (ty_77 hS.1.1) (by omega) (by omega) ?_
          refine Tr.gen (P := fun v => (-2147483648) ≤ v ∧ v ≤ 2147483647) (ar_77 hS.1.2.1 _) (fun r166 er166 br166 => ?_)
          refine Tr.goto (pc := 167) (tgt := 171) d_X6_worked_167 rfl ?_
          exact Tr.iret (pc := 171) d_X6_worked_171 rfl ⟨hS, _, rfl, by omega, by omega⟩
      · refine Tr.aload_n (pc := 31) (i := 2) d_X6_worked_31 rfl rfl ?_
        refine Tr.getf (pc := 32) d_X6_worked_32 f_6_229 (by decide) (by decide) (ty_35 hS.1.1) ?_
        refine Tr.tp 44 (fx_35_9 hS.1.1) ?_
        refine Tr.iload (pc := 35) (i := 4) d_X6_worked_35 rfl ?_
        refine Tr.iald (pc := 37) d_X6_worked_37 (ty_44 hS.1.1) (by omega) (by omega) ?_
        refine Tr.gen (P := fun v => (-2147483648) ≤ v ∧ v ≤ 2147483647) (ar_44 hS.1.2.1 _) (fun r37 er37 br37 => ?_)
        refine Tr.istore (pc := 38) (i := 5) (ls2 := [(5, (0, r37)), (0, (2, 74)), (1, (0, a1)), (2, (2, 35)), (3, (0, p18_3)), (4, (0, p18_4))]) d_X6_worked_38 (by decide) rfl ?_
        refine Tr.iload (pc := 40) (i := 5) d_X6_worked_40 rfl ?_
        refine Tr.iconst (pc := 42) d_X6_worked_42 (by decide) ?_
        have J150 : ∀ (M : Mem) (p150_3 : Int), St Tru ws_X6_worked_74_w3 as_X6_worked_74_w3 M0 M → (1 ≤ p150_3 ∧ p150_3 ≤ 64) → rd M 38 a1 = r15 → rd M 38 (a1 + 1) = r27 → rd M 44 p18_4 = r37 → Tr l K 3 mX6_worked 150 [(0, (2, 74)), (1, (0, a1)), (2, (2, 35)), (3, (0, p150_3)), (4, (0, p18_4))] [] M (q_X6_worked_74_w3 M0) := by
          intro M p150_3 hS bp150_3 k150_38_a110 k150_38_a111 k150_44_p18_410
          refine Tr.iincV (pc := 150) (n2 := (p18_4 + 1)) (ls2 := [(4, (0, (p18_4 + 1))), (0, (2, 74)), (1, (0, a1)), (2, (2, 35)), (3, (0, p150_3))]) d_X6_worked_150 rfl (by decide) ((w32_id (by omega)).trans (by omega)) rfl ?_
          refine Tr.goto (pc := 153) (tgt := 18) d_X6_worked_153 rfl ?_
          refine Tr.pick [1, 2, 3, 4, 0] (ls2 := [(0, (2, 74)), (1, (0, a1)), (2, (2, 35)), (3, (0, p150_3)), (4, (0, (p18_4 + 1)))]) rfl ?_
          exact J18 _ _ _ hS (by omega) (by omega) k150_38_a110 (by omega)
        refine Tr.icmp_ge (pc := 43) (tgt := 79) d_X6_worked_43 rfl (fun c43 => ?_) (fun c43 => ?_)
        · refine Tr.iload (pc := 79) (i := 5) d_X6_worked_79 rfl ?_
          refine Tr.iconst (pc := 81) d_X6_worked_81 (by decide) ?_
          refine Tr.icmp_ne (pc := 82) (tgt := 113) d_X6_worked_82 rfl (fun c82 => ?_) (fun c82 => ?_)
          · refine Tr.iload_n (pc := 113) (i := 3) d_X6_worked_113 rfl rfl ?_
            refine Tr.iconst (pc := 114) d_X6_worked_114 (by decide) ?_
            refine Tr.icmp_ge (pc := 115) (tgt := 120) d_X6_worked_115 rfl (fun c115 => ?_) (fun c115 => ?_)
            · refine Tr.iincV (pc := 120) (n2 := (p18_3 - 1)) (ls2 := [(3, (0, (p18_3 - 1))), (5, (0, r37)), (0, (2, 74)), (1, (0, a1)), (2, (2, 35)), (4, (0, p18_4))]) d_X6_worked_120 rfl (by decide) ((w32_id (by omega)).trans (by omega)) rfl ?_
              refine Tr.aload_n (pc := 123) (i := 0) d_X6_worked_123 rfl rfl ?_
              refine Tr.getf (pc := 124) d_X6_worked_124 f_6_18 (by decide) (by decide) (ty_74 hS.1.1) ?_
              refine Tr.tp 77 (fx_74_4 hS.1.1) ?_
              refine Tr.iload_n (pc := 127) (i := 3) d_X6_worked_127 rfl rfl ?_
              refine Tr.iconst (pc := 128) d_X6_worked_128 (by decide) ?_
              refine Tr.isub (pc := 129) d_X6_worked_129 ?_
              refine Tr.tp (p18_3 - 2) ((w32_id (by omega)).trans (by omega)) ?_
              refine Tr.iload (pc := 130) (i := 5) d_X6_worked_130 rfl ?_
              refine Tr.aload_n (pc := 132) (i := 0) d_X6_worked_132 rfl rfl ?_
              refine Tr.getf (pc := 133) d_X6_worked_133 f_6_18 (by decide) (by decide) (ty_74 hS.1.1) ?_
              refine Tr.tp 77 (fx_74_4 hS.1.1) ?_
              refine Tr.iload_n (pc := 136) (i := 3) d_X6_worked_136 rfl rfl ?_
              refine Tr.iconst (pc := 137) d_X6_worked_137 (by decide) ?_
              refine Tr.isub (pc := 138) d_X6_worked_138 ?_
              refine Tr.tp (p18_3 - 2) ((w32_id (by omega)).trans (by omega)) ?_
              refine Tr.iald (pc := 139) d_X6_worked_139 (ty_77 hS.1.1) (by omega) (by omega) ?_
              refine Tr.gen (P := fun v => (-2147483648) ≤ v ∧ v ≤ 2147483647) (ar_77 hS.1.2.1 _) (fun r139 er139 br139 => ?_)
              refine Tr.aload_n (pc := 140) (i := 0) d_X6_worked_140 rfl rfl ?_
              refine Tr.getf (pc := 141) d_X6_worked_141 f_6_18 (by decide) (by decide) (ty_74 hS.1.1) ?_
              refine Tr.tp 77 (fx_74_4 hS.1.1) ?_
              refine Tr.iload_n (pc := 144) (i := 3) d_X6_worked_144 rfl rfl ?_
              refine Tr.iald (pc := 145) d_X6_worked_145 (ty_77 hS.1.1) (by omega) (by omega) ?_
              refine Tr.gen (P := fun v => (-2147483648) ≤ v ∧ v ≤ 2147483647) (ar_77 hS.1.2.1 _) (fun r145 er145 br145 => ?_)
              refine Tr.callS (pc := 146) (as := [_, _, _]) d_X6_worked_146 s_6_238 ok_X6_joined rfl rfl (Nat.le_of_ble_eq_true rfl) (Nat.le_of_ble_eq_true rfl) ?_
              refine Tr.imp (Tr.deep (by decide) (sp_X6_joined hS.1 r37 (by omega) r139 (by omega) r145 (by omega))) ?_
              rintro M146 _ ⟨h146, r146, rfl, lr146, ur146⟩
              have hS := St.tr hS h146 (by decide) (by decide)
              refine Tr.sc [(0, r146), (0, (p18_3 - 2)), (2, 77)] rfl ?_
              refine Tr.iastS (pc := 149) (P := St Tru ws_X6_worked_74_w3 as_X6_worked_74_w3 M0) d_X6_worked_149 (ty_77 hS.1.1) (by omega) (by omega) (sa_77 hS (by decide) (by omega) trivial) (fun M149 hS w149 => ?_)
              refine Tr.pick [2, 3, 4, 0, 5] (ls2 := [(0, (2, 74)), (1, (0, a1)), (2, (2, 35)), (3, (0, (p18_3 - 1))), (4, (0, p18_4))]) rfl ?_
              exact J150 _ _ hS (by omega) ((Wr.b w149 rfl).trans ((St.ka h146 (by decide) (by decide) (by decide)).trans k18_38_a110)) ((Wr.b w149 rfl).trans ((St.ka h146 (by decide) (by decide) (by decide)).trans er27)) ((Wr.b w149 rfl).trans ((St.ka h146 (by decide) (by decide) (by decide)).trans er37))
            · refine Tr.iconst (pc := 118) d_X6_worked_118 (by decide) ?_
              exact Tr.iret (pc := 119) d_X6_worked_119 rfl ⟨hS, _, rfl, by omega, by omega⟩
          · refine Tr.iload_n (pc := 85) (i := 3) d_X6_worked_85 rfl rfl ?_
            refine Tr.iconst (pc := 86) d_X6_worked_86 (by decide) ?_
            refine Tr.icmp_ge (pc := 87) (tgt := 92) d_X6_worked_87 rfl (fun c87 => ?_) (fun c87 => ?_)
            · refine Tr.aload_n (pc := 92) (i := 0) d_X6_worked_92 rfl rfl ?_
              refine Tr.getf (pc := 93) d_X6_worked_93 f_6_18 (by decide) (by decide) (ty_74 hS.1.1) ?_
              refine Tr.tp 77 (fx_74_4 hS.1.1) ?_
              refine Tr.iload_n (pc := 96) (i := 3) d_X6_worked_96 rfl rfl ?_
              refine Tr.iconst (pc := 97) d_X6_worked_97 (by decide) ?_
              refine Tr.isub (pc := 98) d_X6_worked_98 ?_
              refine Tr.tp (p18_3 - 1) ((w32_id (by omega)).trans (by omega)) ?_
              refine Tr.iconst (pc := 99) d_X6_worked_99 (by decide) ?_
              refine Tr.aload_n (pc := 100) (i := 0) d_X6_worked_100 rfl rfl ?_
              refine Tr.getf (pc := 101) d_X6_worked_101 f_6_18 (by decide) (by decide) (ty_74 hS.1.1) ?_
              refine Tr.tp 77 (fx_74_4 hS.1.1) ?_
              refine Tr.iload_n (pc := 104) (i := 3) d_X6_worked_104 rfl rfl ?_
              refine Tr.iconst (pc := 105) d_X6_worked_105 (by decide) ?_
              refine Tr.isub (pc := 106) d_X6_worked_106 ?_
              refine Tr.tp (p18_3 - 1) ((w32_id (by omega)).trans (by omega)) ?_
              refine Tr.iald (pc := 107) d_X6_worked_107 (ty_77 hS.1.1) (by omega) (by omega) ?_
              refine Tr.gen (P := fun v => (-2147483648) ≤ v ∧ v ≤ 2147483647) (ar_77 hS.1.2.1 _) (fun r107 er107 br107 => ?_)
              refine Tr.isub (pc := 108) d_X6_worked_108 ?_
              refine Tr.gen (P := fun v => (-2147483648) ≤ v ∧ v ≤ 2147483647) (w32_b _) (fun r108 er108 br108 => ?_)
              refine Tr.iastS (pc := 109) (P := St Tru ws_X6_worked_74_w3 as_X6_worked_74_w3 M0) d_X6_worked_109 (ty_77 hS.1.1) (by omega) (by omega) (sa_77 hS (by decide) (by omega) trivial) (fun M109 hS w109 => ?_)
              refine Tr.goto (pc := 110) (tgt := 150) d_X6_worked_110 rfl ?_
              refine Tr.pick [1, 2, 3, 4, 5] (ls2 := [(0, (2, 74)), (1, (0, a1)), (2, (2, 35)), (3, (0, p18_3)), (4, (0, p18_4))]) rfl ?_
              exact J150 _ _ hS (by omega) ((Wr.b w109 rfl).trans k18_38_a110) ((Wr.b w109 rfl).trans er27) ((Wr.b w109 rfl).trans er37)
            · refine Tr.iconst (pc := 90) d_X6_worked_90 (by decide) ?_
              exact Tr.iret (pc := 91) d_X6_worked_91 rfl ⟨hS, _, rfl, by omega, by omega⟩
        · refine Tr.iload_n (pc := 46) (i := 3) d_X6_worked_46 rfl rfl ?_
          refine Tr.bipush (pc := 47) d_X6_worked_47 rfl (by decide) ?_
          refine Tr.icmp_lt (pc := 49) (tgt := 54) d_X6_worked_49 rfl (fun c49 => ?_) (fun c49 => ?_)
          · refine Tr.aload_n (pc := 54) (i := 0) d_X6_worked_54 rfl rfl ?_
            refine Tr.getf (pc := 55) d_X6_worked_55 f_6_18 (by decide) (by decide) (ty_74 hS.1.1) ?_
            refine Tr.tp 77 (fx_74_4 hS.1.1) ?_
            refine Tr.iload_n (pc := 58) (i := 3) d_X6_worked_58 rfl rfl ?_
            refine Tr.aload_n (pc := 59) (i := 0) d_X6_worked_59 rfl rfl ?_
            refine Tr.iload (pc := 60) (i := 5) d_X6_worked_60 rfl ?_
            refine Tr.aload_n (pc := 62) (i := 2) d_X6_worked_62 rfl rfl ?_
            refine Tr.getf (pc := 63) d_X6_worked_63 f_6_232 (by decide) (by decide) (ty_35 hS.1.1) ?_
            refine Tr.tp 45 (fx_35_10 hS.1.1) ?_
            refine Tr.iload (pc := 66) (i := 4) d_X6_worked_66 rfl ?_
            refine Tr.iald (pc := 68) d_X6_worked_68 (ty_45 hS.1.1) (by omega) (by omega) ?_
            refine Tr.gen (P := fun v => ((-2147483648) ≤ v ∧ v ≤ 2147483647) ∧ ((r37 = 1 → 0 ≤ v ∧ v ≤ 2) ∧ (r37 = 2 ∨ r37 = 4 → 0 ≤ v ∧ v ≤ 5))) (by have h8 := gc_at hS.1.2.2 44 45 (by decide) er37; have h9 := (ar_45 hS.1.2.1 (p18_4)); exact ⟨h9, h8⟩) (fun r68 er68 br68 => ?_)
            refine Tr.callV (pc := 69) (as := [_, _]) d_X6_worked_69 s_6_235 ok_X6_single rfl rfl (Nat.le_of_ble_eq_true rfl) (Nat.le_of_ble_eq_true rfl) (by decide) (ty_74 hS.1.1) ?_
            refine Tr.imp (Tr.deep (by decide) (sp_X6_single_74 hS.1 r37 (by omega) r68 (by omega) (by omega))) ?_
            rintro M69 _ ⟨h69, r69, rfl, lr69, ur69⟩
            have hS := St.tr hS h69 (by decide) (by decide)
            refine Tr.sc [(0, r69), (0, p18_3), (2, 77)] rfl ?_
            refine Tr.iastS (pc := 72) (P := St Tru ws_X6_worked_74_w3 as_X6_worked_74_w3 M0) d_X6_worked_72 (ty_77 hS.1.1) (by omega) (by omega) (sa_77 hS (by decide) (by omega) trivial) (fun M72 hS w72 => ?_)
            refine Tr.iincV (pc := 73) (n2 := (p18_3 + 1)) (ls2 := [(3, (0, (p18_3 + 1))), (5, (0, r37)), (0, (2, 74)), (1, (0, a1)), (2, (2, 35)), (4, (0, p18_4))]) d_X6_worked_73 rfl (by decide) ((w32_id (by omega)).trans (by omega)) rfl ?_
            refine Tr.goto (pc := 76) (tgt := 150) d_X6_worked_76 rfl ?_
            refine Tr.pick [2, 3, 4, 0, 5] (ls2 := [(0, (2, 74)), (1, (0, a1)), (2, (2, 35)), (3, (0, (p18_3 + 1))), (4, (0, p18_4))]) rfl ?_
            exact J150 _ _ hS (by omega) ((Wr.b w72 rfl).trans ((St.ka h69 (by decide) (by decide) (by decide)).trans k18_38_a110)) ((Wr.b w72 rfl).trans ((St.ka h69 (by decide) (by decide) (by decide)).trans er27)) ((Wr.b w72 rfl).trans ((St.ka h69 (by decide) (by decide) (by decide)).trans er37))
          · refine Tr.iconst (pc := 52) d_X6_worked_52 (by decide) ?_
            exact Tr.iret (pc := 53) d_X6_worked_53 rfl ⟨hS, _, rfl, by omega, by omega⟩
  refine Tr.pick [3, 4, 2, 1, 0] (ls2 := [(0, (2, 74)), (1, (0, a1)), (2, (2, 35)), (3, (0, 0)), (4, (0, r15))]) rfl ?_
  exact J18 _ _ _ _ hS (by omega) (by omega) er15 (Nat.lt_succ_self _)

def ws_X6_free_74_w3 : List (Int × Int) := []
def as_X6_free_74_w3 : List Int := [79, 80, 81, 83]
def q_X6_free_74_w3 (M0 M' : Mem) (r : Option PV) : Prop := St Tru ws_X6_free_74_w3 as_X6_free_74_w3 M0 M' ∧ r = none
set_option maxRecDepth 100000 in
set_option maxHeartbeats 4000000 in
theorem sp_X6_free_74_w3 {l : Launch} {K : EC} {M0 : Mem} (hI : In Tru M0) (en_74_1 : rd M0 74 1 = 27) (a1 : Int) (ha1 : 0 ≤ a1 ∧ a1 ≤ 59) (a2 : Int) (ha2 : 0 ≤ a2 ∧ a2 ≤ 5)  : Tr l K 2 mX6_free 0 [(0, (2, 74)), (1, (0, a1)), (2, (0, a2))] [] M0 (q_X6_free_74_w3 M0) := by
  have hS : St Tru ws_X6_free_74_w3 as_X6_free_74_w3 M0 M0 := St.rf hI
  refine Tr.aload_n (pc := 0) (i := 0) d_X6_free_0 rfl rfl ?_
  refine Tr.getf (pc := 1) d_X6_free_1 f_6_24 (by decide) (by decide) (ty_74 hS.1.1) ?_
  refine Tr.tp 79 (fx_74_6 hS.1.1) ?_
  refine Tr.iload_n (pc := 4) (i := 2) d_X6_free_4 rfl rfl ?_
  refine Tr.iald (pc := 5) d_X6_free_5 (ty_79 hS.1.1) (by omega) (by omega) ?_
  refine Tr.gen (P := fun v => 0 ≤ v ∧ v ≤ 1) (ar_79 hS.1.2.1 _) (fun r5 er5 br5 => ?_)
  refine Tr.if_ne (pc := 6) (tgt := 10) d_X6_free_6 rfl (fun c6 => ?_) (fun c6 => ?_)
  · refine Tr.aload_n (pc := 10) (i := 0) d_X6_free_10 rfl rfl ?_
    refine Tr.iload_n (pc := 11) (i := 2) d_X6_free_11 rfl rfl ?_
    refine Tr.aload_n (pc := 12) (i := 0) d_X6_free_12 rfl rfl ?_
    refine Tr.getf (pc := 13) d_X6_free_13 f_6_68 (by decide) (by decide) (ty_74 hS.1.1) ?_
    refine Tr.gen (P := fun v => (-2147483648) ≤ v ∧ v ≤ 2147483647) (ir_74_9 hS.1.2.1) (fun r13 er13 br13 => ?_)
    refine Tr.callV (pc := 16) (as := [_, _]) d_X6_free_16 s_6_125 ok_X6_settle rfl rfl (Nat.le_of_ble_eq_true rfl) (Nat.le_of_ble_eq_true rfl) (by decide) (ty_74 hS.1.1) ?_
    refine Tr.imp (Tr.deep (by decide) (sp_X6_settle_74 hS.1 a2 (by omega) r13 (by omega))) ?_
    rintro M16 _ ⟨h16, rfl⟩
    have hS := St.tr hS h16 (by decide) (by decide)
    refine Tr.sc [] rfl ?_
    refine Tr.aload_n (pc := 19) (i := 0) d_X6_free_19 rfl rfl ?_
    refine Tr.getf (pc := 20) d_X6_free_20 f_6_38 (by decide) (by decide) (ty_74 hS.1.1) ?_
    refine Tr.tp 82 (fx_74_0 hS.1.1) ?_
    refine Tr.iload_n (pc := 23) (i := 2) d_X6_free_23 rfl rfl ?_
    refine Tr.aload_n (pc := 24) (i := 0) d_X6_free_24 rfl rfl ?_
    refine Tr.getf (pc := 25) d_X6_free_25 f_6_68 (by decide) (by decide) (ty_74 hS.1.1) ?_
    refine Tr.tp r13 ((St.kp h16 (by decide) (by decide) (by decide)).trans er13) ?_
    refine Tr.callV (pc := 28) (as := [_, _]) d_X6_free_28 s_6_128 ok_X1_letGo rfl rfl (Nat.le_of_ble_eq_true rfl) (Nat.le_of_ble_eq_true rfl) (by decide) (ty_82 hS.1.1) ?_
    refine Tr.imp (Tr.deep (by decide) (sp_X1_letGo_82 hS.1 a2 (by omega) r13 (by omega))) ?_
    rintro M28 _ ⟨h28, rfl⟩
    have hS := St.tr hS h28 (by decide) (by decide)
    refine Tr.sc [] rfl ?_
    refine Tr.aload_n (pc := 31) (i := 0) d_X6_free_31 rfl rfl ?_
    refine Tr.getf (pc := 32) d_X6_free_32 f_6_38 (by decide) (by decide) (ty_74 hS.1.1) ?_
    refine Tr.tp 82 (fx_74_0 hS.1.1) ?_
    refine Tr.iload_n (pc := 35) (i := 2) d_X6_free_35 rfl rfl ?_
    refine Tr.iload_n (pc := 36) (i := 1) d_X6_free_36 rfl rfl ?_
    refine Tr.callV (pc := 37) (as := [_, _]) d_X6_free_37 s_6_214 ok_X1_act rfl rfl (Nat.le_of_ble_eq_true rfl) (Nat.le_of_ble_eq_true rfl) (by decide) (ty_82 hS.1.1) ?_
    refine Tr.imp (Tr.deep (by decide) (sp_X1_act_82_w1 hS.1 a2 (by omega) a1 (by omega))) ?_
    rintro M37 _ ⟨h37, rfl⟩
    have hS := St.tr hS h37 (by decide) (by decide)
    refine Tr.sc [] rfl ?_
    refine Tr.aload_n (pc := 40) (i := 0) d_X6_free_40 rfl rfl ?_
    refine Tr.getf (pc := 41) d_X6_free_41 f_6_24 (by decide) (by decide) (ty_74 hS.1.1) ?_
    refine Tr.tp 79 (fx_74_6 hS.1.1) ?_
    refine Tr.iload_n (pc := 44) (i := 2) d_X6_free_44 rfl rfl ?_
    refine Tr.iconst (pc := 45) d_X6_free_45 (by decide) ?_
    refine Tr.iastS (pc := 46) (P := St Tru ws_X6_free_74_w3 as_X6_free_74_w3 M0) d_X6_free_46 (ty_79 hS.1.1) (by omega) (by omega) (sa_79 hS (by decide) (by omega) trivial) (fun M46 hS w46 => ?_)
    refine Tr.aload_n (pc := 47) (i := 0) d_X6_free_47 rfl rfl ?_
    refine Tr.getf (pc := 48) d_X6_free_48 f_6_27 (by decide) (by decide) (ty_74 hS.1.1) ?_
    refine Tr.tp 80 (fx_74_7 hS.1.1) ?_
    refine Tr.iload_n (pc := 51) (i := 2) d_X6_free_51 rfl rfl ?_
    refine Tr.aload_n (pc := 52) (i := 0) d_X6_free_52 rfl rfl ?_
    refine Tr.getf (pc := 53) d_X6_free_53 f_6_68 (by decide) (by decide) (ty_74 hS.1.1) ?_
    refine Tr.tp r13 ((Wr.b w46 rfl).trans ((St.kp h37 (by decide) (by decide) (by decide)).trans ((St.kp h28 (by decide) (by decide) (by decide)).trans ((St.kp h16 (by decide) (by decide) (by decide)).trans er13)))) ?_
    refine Tr.aload_n (pc := 56) (i := 0) d_X6_free_56 rfl rfl ?_
    refine Tr.getf (pc := 57) d_X6_free_57 f_6_46 (by decide) (by decide) (ty_74 hS.1.1) ?_
    refine Tr.tp 27 ((St.kp hS (by decide) (by decide) (by decide)).trans en_74_1) ?_
    refine Tr.getf (pc := 60) d_X6_free_60 f_6_208 (by decide) (by decide) (ty_27 hS.1.1) ?_
    refine Tr.tp 31 (fx_27_7 hS.1.1) ?_
    refine Tr.iload_n (pc := 63) (i := 2) d_X6_free_63 rfl rfl ?_
    refine Tr.iald (pc := 64) d_X6_free_64 (ty_31 hS.1.1) (by omega) (by omega) ?_
    refine Tr.gen (P := fun v => 0 ≤ v ∧ v ≤ 50) (ar_31 hS.1.2.1 _) (fun r64 er64 br64 => ?_)
    refine Tr.iadd (pc := 65) d_X6_free_65 ?_
    refine Tr.gen (P := fun v => (-2147483648) ≤ v ∧ v ≤ 2147483647) (w32_b _) (fun r65 er65 br65 => ?_)
    refine Tr.iastS (pc := 66) (P := St Tru ws_X6_free_74_w3 as_X6_free_74_w3 M0) d_X6_free_66 (ty_80 hS.1.1) (by omega) (by omega) (sa_80 hS (by decide) (by omega) trivial) (fun M66 hS w66 => ?_)
    exact Tr.vret (pc := 67) d_X6_free_67 rfl ⟨hS, rfl⟩
  · exact Tr.vret (pc := 9) d_X6_free_9 rfl ⟨hS, rfl⟩

def ws_X6_hold_74_w3 : List (Int × Int) := [(74, 9), (74, 14), (74, 17)]
def as_X6_hold_74_w3 : List Int := [79, 80, 81, 83]
def q_X6_hold_74_w3 (a1 : Int) (a2 : Int) (M0 M' : Mem) (r : Option PV) : Prop := St Tru ws_X6_hold_74_w3 as_X6_hold_74_w3 M0 M' ∧ r = none
set_option maxRecDepth 100000 in
set_option maxHeartbeats 4000000 in
theorem sp_X6_hold_74_w3 {l : Launch} {K : EC} {M0 : Mem} (hI : In Tru M0) (en_74_1 : rd M0 74 1 = 27) (a1 : Int) (ha1 : 0 ≤ a1 ∧ a1 ≤ 59) (a2 : Int) (ha2 : 0 ≤ a2 ∧ a2 ≤ 5)  : Tr l K 3 mX6_hold 0 [(0, (2, 74)), (1, (0, a1)), (2, (0, a2))] [] M0 (q_X6_hold_74_w3 a1 a2 M0) := by
  have hS : St Tru ws_X6_hold_74_w3 as_X6_hold_74_w3 M0 M0 := St.rf hI
  refine Tr.aload_n (pc := 0) (i := 0) d_X6_hold_0 rfl rfl ?_
  refine Tr.getf (pc := 1) d_X6_hold_1 f_6_24 (by decide) (by decide) (ty_74 hS.1.1) ?_
  refine Tr.tp 79 (fx_74_6 hS.1.1) ?_
  refine Tr.iload_n (pc := 4) (i := 2) d_X6_hold_4 rfl rfl ?_
  refine Tr.iald (pc := 5) d_X6_hold_5 (ty_79 hS.1.1) (by omega) (by omega) ?_
  refine Tr.gen (P := fun v => 0 ≤ v ∧ v ≤ 1) (ar_79 hS.1.2.1 _) (fun r5 er5 br5 => ?_)
  refine Tr.iconst (pc := 6) d_X6_hold_6 (by decide) ?_
  refine Tr.icmp_ne (pc := 7) (tgt := 11) d_X6_hold_7 rfl (fun c7 => ?_) (fun c7 => ?_)
  · refine Tr.aload_n (pc := 11) (i := 0) d_X6_hold_11 rfl rfl ?_
    refine Tr.getf (pc := 12) d_X6_hold_12 f_6_68 (by decide) (by decide) (ty_74 hS.1.1) ?_
    refine Tr.gen (P := fun v => (-2147483648) ≤ v ∧ v ≤ 2147483647) (ir_74_9 hS.1.2.1) (fun r12 er12 br12 => ?_)
    refine Tr.istore_n (pc := 15) (i := 3) (ls2 := [(3, (0, r12)), (0, (2, 74)), (1, (0, a1)), (2, (0, a2))]) d_X6_hold_15 rfl (by decide) rfl ?_
    refine Tr.aload_n (pc := 16) (i := 0) d_X6_hold_16 rfl rfl ?_
    refine Tr.aload_n (pc := 17) (i := 0) d_X6_hold_17 rfl rfl ?_
    refine Tr.iload_n (pc := 18) (i := 2) d_X6_hold_18 rfl rfl ?_
    refine Tr.callV (pc := 19) (as := [_]) d_X6_hold_19 s_6_199 ok_X6_wakeOf rfl rfl (Nat.le_of_ble_eq_true rfl) (Nat.le_of_ble_eq_true rfl) (by decide) (ty_74 hS.1.1) ?_
    refine Tr.imp (Tr.deep (by decide) (sp_X6_wakeOf_74_w1 hS.1 ((St.kp hS (by decide) (by decide) (by decide)).trans en_74_1) a2 (by omega))) ?_
    rintro M19 _ ⟨h19, r19, rfl, lr19, ur19⟩
    have hS := St.tr hS h19 (by decide) (by decide)
    refine Tr.sc [(0, r19), (2, 74)] rfl ?_
    refine Tr.iload_n (pc := 22) (i := 2) d_X6_hold_22 rfl rfl ?_
    refine Tr.iconst (pc := 23) d_X6_hold_23 (by decide) ?_
    refine Tr.callV (pc := 24) (as := [_, _, _]) d_X6_hold_24 s_6_145 ok_X6_pass rfl rfl (Nat.le_of_ble_eq_true rfl) (Nat.le_of_ble_eq_true rfl) (by decide) (ty_74 hS.1.1) ?_
    refine Tr.imp (Tr.deep (by decide) (sp_X6_pass_74_w8 hS.1 ((St.kp hS (by decide) (by decide) (by decide)).trans en_74_1) r19 (by omega) a2 (by omega) 1 (by omega))) ?_
    rintro M24 _ ⟨h24, r24, rfl, lr24, ur24⟩
    have hS := St.tr hS h24 (by decide) (by decide)
    refine Tr.sc [(0, r24)] rfl ?_
    refine Tr.pop (pc := 27) d_X6_hold_27 ne01 ?_
    refine Tr.aload_n (pc := 28) (i := 0) d_X6_hold_28 rfl rfl ?_
    refine Tr.getf (pc := 29) d_X6_hold_29 f_6_62 (by decide) (by decide) (ty_74 hS.1.1) ?_
    refine Tr.gen (P := fun v => (-2147483648) ≤ v ∧ v ≤ 2147483647) (ir_74_14 hS.1.2.1) (fun r29 er29 br29 => ?_)
    have J44 : ∀ (M : Mem), St Tru ws_X6_hold_74_w3 as_X6_hold_74_w3 M0 M → rd M 74 14 = r29 → rd M 79 a2 = r5 → Tr l K 3 mX6_hold 44 [(0, (2, 74)), (1, (0, a1)), (2, (0, a2)), (3, (0, r12))] [] M (q_X6_hold_74_w3 a1 a2 M0) := by
      intro M  hS  k44_74_14 k44_79_a210
      refine Tr.aload_n (pc := 44) (i := 0) d_X6_hold_44 rfl rfl ?_
      refine Tr.iload_n (pc := 45) (i := 2) d_X6_hold_45 rfl rfl ?_
      refine Tr.iload_n (pc := 46) (i := 3) d_X6_hold_46 rfl rfl ?_
      refine Tr.callV (pc := 47) (as := [_, _]) d_X6_hold_47 s_6_125 ok_X6_settle rfl rfl (Nat.le_of_ble_eq_true rfl) (Nat.le_of_ble_eq_true rfl) (by decide) (ty_74 hS.1.1) ?_
      refine Tr.imp (Tr.deep (by decide) (sp_X6_settle_74 hS.1 a2 (by omega) r12 (by omega))) ?_
      rintro M47 _ ⟨h47, rfl⟩
      have hS := St.tr hS h47 (by decide) (by decide)
      refine Tr.sc [] rfl ?_
      refine Tr.aload_n (pc := 50) (i := 0) d_X6_hold_50 rfl rfl ?_
      refine Tr.iload_n (pc := 51) (i := 1) d_X6_hold_51 rfl rfl ?_
      refine Tr.iload_n (pc := 52) (i := 2) d_X6_hold_52 rfl rfl ?_
      refine Tr.iload_n (pc := 53) (i := 3) d_X6_hold_53 rfl rfl ?_
      refine Tr.aload_n (pc := 54) (i := 0) d_X6_hold_54 rfl rfl ?_
      refine Tr.getf (pc := 55) d_X6_hold_55 f_6_68 (by decide) (by decide) (ty_74 hS.1.1) ?_
      refine Tr.gen (P := fun v => (-2147483648) ≤ v ∧ v ≤ 2147483647) (ir_74_9 hS.1.2.1) (fun r55 er55 br55 => ?_)
      refine Tr.callV (pc := 58) (as := [_, _, _, _]) d_X6_hold_58 s_6_202 ok_X6_bookBusy rfl rfl (Nat.le_of_ble_eq_true rfl) (Nat.le_of_ble_eq_true rfl) (by decide) (ty_74 hS.1.1) ?_
      refine Tr.imp (Tr.deep (by decide) (sp_X6_bookBusy_74_w1 hS.1 a1 (by omega) a2 (by omega) r12 (by omega) r55 (by omega))) ?_
      rintro M58 _ ⟨h58, rfl⟩
      have hS := St.tr hS h58 (by decide) (by decide)
      refine Tr.sc [] rfl ?_
      refine Tr.aload_n (pc := 61) (i := 0) d_X6_hold_61 rfl rfl ?_
      refine Tr.getf (pc := 62) d_X6_hold_62 f_6_38 (by decide) (by decide) (ty_74 hS.1.1) ?_
      refine Tr.tp 82 (fx_74_0 hS.1.1) ?_
      refine Tr.iload_n (pc := 65) (i := 2) d_X6_hold_65 rfl rfl ?_
      refine Tr.iload_n (pc := 66) (i := 1) d_X6_hold_66 rfl rfl ?_
      refine Tr.aload_n (pc := 67) (i := 0) d_X6_hold_67 rfl rfl ?_
      refine Tr.getf (pc := 68) d_X6_hold_68 f_6_68 (by decide) (by decide) (ty_74 hS.1.1) ?_
      refine Tr.tp r55 ((St.kp h58 (by decide) (by decide) (by decide)).trans er55) ?_
      refine Tr.callV (pc := 71) (as := [_, _, _]) d_X6_hold_71 s_6_211 ok_X1_holdFor rfl rfl (Nat.le_of_ble_eq_true rfl) (Nat.le_of_ble_eq_true rfl) (by decide) (ty_82 hS.1.1) ?_
      refine Tr.imp (Tr.deep (by decide) (sp_X1_holdFor_82_w1 hS.1 a2 (by omega) a1 (by omega) r55 (by omega))) ?_
      rintro M71 _ ⟨h71, rfl⟩
      have hS := St.tr hS h71 (by decide) (by decide)
      refine Tr.sc [] rfl ?_
      refine Tr.aload_n (pc := 74) (i := 0) d_X6_hold_74 rfl rfl ?_
      refine Tr.getf (pc := 75) d_X6_hold_75 f_6_62 (by decide) (by decide) (ty_74 hS.1.1) ?_
      refine Tr.tp r29 ((St.kp h71 (by decide) (by decide) (by decide)).trans ((St.kp h58 (by decide) (by decide) (by decide)).trans ((St.kp h47 (by decide) (by decide) (by decide)).trans k44_74_14))) ?_
      refine Tr.if_ne (pc := 78) (tgt := 91) d_X6_hold_78 rfl (fun c78 => ?_) (fun c78 => ?_)
      · refine Tr.aload_n (pc := 91) (i := 0) d_X6_hold_91 rfl rfl ?_
        refine Tr.getf (pc := 92) d_X6_hold_92 f_6_27 (by decide) (by decide) (ty_74 hS.1.1) ?_
        refine Tr.tp 80 (fx_74_7 hS.1.1) ?_
        refine Tr.iload_n (pc := 95) (i := 2) d_X6_hold_95 rfl rfl ?_
        refine Tr.aload_n (pc := 96) (i := 0) d_X6_hold_96 rfl rfl ?_
        refine Tr.getf (pc := 97) d_X6_hold_97 f_6_68 (by decide) (by decide) (ty_74 hS.1.1) ?_
        refine Tr.tp r55 ((St.kp h71 (by decide) (by decide) (by decide)).trans ((St.kp h58 (by decide) (by decide) (by decide)).trans er55)) ?_
        refine Tr.iconst (pc := 100) d_X6_hold_100 (by decide) ?_
        refine Tr.iadd (pc := 101) d_X6_hold_101 ?_
        refine Tr.gen (P := fun v => (-2147483648) ≤ v ∧ v ≤ 2147483647) (w32_b _) (fun r101 er101 br101 => ?_)
        refine Tr.iastS (pc := 102) (P := St Tru ws_X6_hold_74_w3 as_X6_hold_74_w3 M0) d_X6_hold_102 (ty_80 hS.1.1) (by omega) (by omega) (sa_80 hS (by decide) (by omega) trivial) (fun M102 hS w102 => ?_)
        exact Tr.vret (pc := 103) d_X6_hold_103 rfl ⟨hS, rfl⟩
      · refine Tr.aload_n (pc := 81) (i := 0) d_X6_hold_81 rfl rfl ?_
        refine Tr.getf (pc := 82) d_X6_hold_82 f_6_24 (by decide) (by decide) (ty_74 hS.1.1) ?_
        refine Tr.tp 79 (fx_74_6 hS.1.1) ?_
        refine Tr.iload_n (pc := 85) (i := 2) d_X6_hold_85 rfl rfl ?_
        refine Tr.iconst (pc := 86) d_X6_hold_86 (by decide) ?_
        refine Tr.iastS (pc := 87) (P := St Tru ws_X6_hold_74_w3 as_X6_hold_74_w3 M0) d_X6_hold_87 (ty_79 hS.1.1) (by omega) (by omega) (sa_79 hS (by decide) (by omega) trivial) (fun M87 hS w87 => ?_)
        refine Tr.goto (pc := 88) (tgt := 103) d_X6_hold_88 rfl ?_
        exact Tr.vret (pc := 103) d_X6_hold_103 rfl ⟨hS, rfl⟩
    refine Tr.if_eq (pc := 32) (tgt := 44) d_X6_hold_32 rfl (fun c32 => ?_) (fun c32 => ?_)
    · refine Tr.pick [1, 2, 3, 0] (ls2 := [(0, (2, 74)), (1, (0, a1)), (2, (0, a2)), (3, (0, r12))]) rfl ?_
      exact J44 _ hS er29 ((St.ka h24 (by decide) (by decide) (by decide)).trans ((St.ka h19 (by decide) (by decide) (by decide)).trans er5))
    · refine Tr.aload_n (pc := 35) (i := 0) d_X6_hold_35 rfl rfl ?_
      refine Tr.getf (pc := 36) d_X6_hold_36 f_6_68 (by decide) (by decide) (ty_74 hS.1.1) ?_
      refine Tr.gen (P := fun v => (-2147483648) ≤ v ∧ v ≤ 2147483647) (ir_74_9 hS.1.2.1) (fun r36 er36 br36 => ?_)
      refine Tr.iload_n (pc := 39) (i := 3) d_X6_hold_39 rfl rfl ?_
      refine Tr.icmp_ne (pc := 40) (tgt := 44) d_X6_hold_40 rfl (fun c40 => ?_) (fun c40 => ?_)
      · refine Tr.pick [1, 2, 3, 0] (ls2 := [(0, (2, 74)), (1, (0, a1)), (2, (0, a2)), (3, (0, r12))]) rfl ?_
        exact J44 _ hS er29 ((St.ka h24 (by decide) (by decide) (by decide)).trans ((St.ka h19 (by decide) (by decide) (by decide)).trans er5))
      · exact Tr.vret (pc := 43) d_X6_hold_43 rfl ⟨hS, rfl⟩
  · exact Tr.vret (pc := 10) d_X6_hold_10 rfl ⟨hS, rfl⟩
end
