def ws_X11_stretch_0_w2 : List (Int × Int) := []
def as_X11_stretch_0_w2 : List Int := []
def q_X11_stretch_0_w2 (M0 M' : Mem) (r : Option PV) : Prop := St Tru ws_X11_stretch_0_w2 as_X11_stretch_0_w2 M0 M' ∧ ∃ v : Int, r = some (0, v) ∧ (-2147483648) ≤ v ∧ v ≤ 2147483647
set_option maxRecDepth 100000 in
set_option maxHeartbeats 4000000 in
theorem sp_X11_stretch_0_w2 {l : Launch} {K : EC} {M0 : Mem} (hI : In Tru M0) (en_0_4 : rd M0 0 4 = 27) (en_0_9 : rd M0 0 9 = 1) (a1 : Int) (ha1 : (-2147483648) ≤ a1 ∧ a1 ≤ 2147483647) (a2 : Int) (ha2 : (-2147483648) ≤ a2 ∧ a2 ≤ 2147483647) (a3 : Int) (ha3 : (-2147483648) ≤ a3 ∧ a3 ≤ 2147483647)  : Tr l K 2 mX11_stretch 0 [(0, (2, 0)), (1, (0, a1)), (2, (0, a2)), (3, (0, a3))] [] M0 (q_X11_stretch_0_w2 M0) := by
  have hS : St Tru ws_X11_stretch_0_w2 as_X11_stretch_0_w2 M0 M0 := St.rf hI
  obtain ⟨g63_1, eg63_1⟩ : ∃ v, rd M0 63 1 = v := ⟨_, rfl⟩
  have bg63_1 : (-1000000000) ≤ g63_1 ∧ g63_1 ≤ 1000000000 := by rw [← eg63_1]; exact ir_63_1 hI.2.1
  obtain ⟨g63_0, eg63_0⟩ : ∃ v, rd M0 63 0 = v := ⟨_, rfl⟩
  have bg63_0 : (-2147483648) ≤ g63_0 ∧ g63_0 ≤ 2147483647 := by rw [← eg63_0]; exact ir_63_0 hI.2.1
  refine Tr.aload_n (pc := 0) (i := 0) d_X11_stretch_0 rfl rfl ?_
  refine Tr.iload_n (pc := 1) (i := 1) d_X11_stretch_1 rfl rfl ?_
  refine Tr.iload_n (pc := 2) (i := 2) d_X11_stretch_2 rfl rfl ?_
  refine Tr.callV (pc := 3) (as := [_, _]) d_X11_stretch_3 s_11_214 ok_X11_stretchPlace rfl rfl (Nat.le_of_ble_eq_true rfl) (Nat.le_of_ble_eq_true rfl) (by decide) (ty_0 hS.1.1) ?_
  refine Tr.imp (Tr.deep (by decide) (sp_X11_stretchPlace_0_w2 hS.1 ((St.kp hS (by decide) (by decide) (by decide)).trans en_0_4) ((St.kp hS (by decide) (by decide) (by decide)).trans en_0_9) a1 (by omega) a2 (by omega))) ?_
  rintro M3 _ ⟨h3, r3, rfl, lr3, ur3, z3_0⟩
  have hS := St.tr hS h3 (by decide) (by decide)
  have ka3_63_0 : rd M3 63 0 = g63_0 := ((St.kp h3 (by decide) (by decide) (by decide)).trans eg63_0)
  refine Tr.sc [(0, r3)] rfl ?_
  refine Tr.istore (pc := 6) (i := 4) (ls2 := [(4, (0, r3)), (0, (2, 0)), (1, (0, a1)), (2, (0, a2)), (3, (0, a3))]) d_X11_stretch_6 (by decide) rfl ?_
  refine Tr.iload (pc := 8) (i := 4) d_X11_stretch_8 rfl ?_
  refine Tr.if_ge (pc := 10) (tgt := 15) d_X11_stretch_10 rfl (fun c10 => ?_) (fun c10 => ?_)
  · refine Tr.aload_n (pc := 15) (i := 0) d_X11_stretch_15 rfl rfl ?_
    refine Tr.getf (pc := 16) d_X11_stretch_16 f_11_46 (by decide) (by decide) (ty_0 hS.1.1) ?_
    refine Tr.tp 48 (fx_0_7 hS.1.1) ?_
    refine Tr.getf (pc := 19) d_X11_stretch_19 f_11_178 (by decide) (by decide) (ty_48 hS.1.1) ?_
    refine Tr.tp 56 (fx_48_0 hS.1.1) ?_
    refine Tr.getf (pc := 22) d_X11_stretch_22 f_11_201 (by decide) (by decide) (ty_56 hS.1.1) ?_
    refine Tr.tp 63 (fx_56_8 hS.1.1) ?_
    refine Tr.astore (pc := 25) (i := 5) (ls2 := [(5, (2, 63)), (4, (0, r3)), (0, (2, 0)), (1, (0, a1)), (2, (0, a2)), (3, (0, a3))]) d_X11_stretch_25 (by decide) rfl ?_
    refine Tr.iload_n (pc := 27) (i := 3) d_X11_stretch_27 rfl rfl ?_
    rcases (show (a3 < 0 ∨ 2 < a3) ∨ a3 = 0 ∨ a3 = 1 ∨ a3 = 2 by omega) with c28 | c28 | c28 | c28
    · refine Tr.tswOut (pc := 28) (tgt := 83) d_X11_stretch_28 c28 rfl ?_
      refine Tr.iconst (pc := 83) d_X11_stretch_83 (by decide) ?_
      exact Tr.iret (pc := 84) d_X11_stretch_84 rfl ⟨hS, _, rfl, by omega, by omega⟩
    · refine Tr.tp 0 c28 ?_
      refine Tr.tswIn (pc := 28) (off := 28) (tgt := 56) d_X11_stretch_28 (by decide) (by decide) rfl rfl ?_
      refine Tr.aload (pc := 56) (i := 5) d_X11_stretch_56 rfl ?_
      refine Tr.getf (pc := 58) d_X11_stretch_58 f_11_217 (by decide) (by decide) (ty_63 hS.1.1) ?_
      refine Tr.gen (P := fun v => v = tref g63_1 2) (tl_ref hS ((St.kp h3 (by decide) (by decide) (by decide)).trans eg63_1) (by decide)) (fun t58 et58 bt58 => ?_)
      refine Tr.iload (pc := 61) (i := 4) d_X11_stretch_61 rfl ?_
      have nk63_0 : rd M3 63 0 = g63_0 := ((St.kp h3 (by decide) (by decide) (by decide)).trans eg63_0)
      have nn63 := tl_n hS ((St.kp h3 (by decide) (by decide) (by decide)).trans eg63_1)
      refine Tr.iald (pc := 63) d_X11_stretch_63 (tl_tyI hS ((St.kp h3 (by decide) (by decide) (by decide)).trans eg63_1) (j := 2) (by decide) (by decide) bt58) (by omega) (by omega) ?_
      refine Tr.gen (P := fun v => (-2147483648) ≤ v ∧ v ≤ 2147483647) (tl_eI hS ((St.kp h3 (by decide) (by decide) (by decide)).trans eg63_1) (j := 2) (by decide) (by decide) bt58 (by omega) (by omega)) (fun r63 er63 br63 => ?_)
      exact Tr.iret (pc := 64) d_X11_stretch_64 rfl ⟨hS, _, rfl, by omega, by omega⟩
    · refine Tr.tp 1 c28 ?_
      refine Tr.tswIn (pc := 28) (off := 37) (tgt := 65) d_X11_stretch_28 (by decide) (by decide) rfl rfl ?_
      refine Tr.aload (pc := 65) (i := 5) d_X11_stretch_65 rfl ?_
      refine Tr.getf (pc := 67) d_X11_stretch_67 f_11_220 (by decide) (by decide) (ty_63 hS.1.1) ?_
      refine Tr.gen (P := fun v => v = tref g63_1 3) (tl_ref hS ((St.kp h3 (by decide) (by decide) (by decide)).trans eg63_1) (by decide)) (fun t67 et67 bt67 => ?_)
      refine Tr.iload (pc := 70) (i := 4) d_X11_stretch_70 rfl ?_
      have nk72_0 : rd M3 63 0 = g63_0 := ((St.kp h3 (by decide) (by decide) (by decide)).trans eg63_0)
      have nn72 := tl_n hS ((St.kp h3 (by decide) (by decide) (by decide)).trans eg63_1)
      refine Tr.iald (pc := 72) d_X11_stretch_72 (tl_tyI hS ((St.kp h3 (by decide) (by decide) (by decide)).trans eg63_1) (j := 3) (by decide) (by decide) bt67) (by omega) (by omega) ?_
      refine Tr.gen (P := fun v => (-2147483648) ≤ v ∧ v ≤ 2147483647) (tl_eI hS ((St.kp h3 (by decide) (by decide) (by decide)).trans eg63_1) (j := 3) (by decide) (by decide) bt67 (by omega) (by omega)) (fun r72 er72 br72 => ?_)
      exact Tr.iret (pc := 73) d_X11_stretch_73 rfl ⟨hS, _, rfl, by omega, by omega⟩
    · refine Tr.tp 2 c28 ?_
      refine Tr.tswIn (pc := 28) (off := 46) (tgt := 74) d_X11_stretch_28 (by decide) (by decide) rfl rfl ?_
      refine Tr.aload (pc := 74) (i := 5) d_X11_stretch_74 rfl ?_
      refine Tr.getf (pc := 76) d_X11_stretch_76 f_11_223 (by decide) (by decide) (ty_63 hS.1.1) ?_
      refine Tr.gen (P := fun v => v = tref g63_1 4) (tl_ref hS ((St.kp h3 (by decide) (by decide) (by decide)).trans eg63_1) (by decide)) (fun t76 et76 bt76 => ?_)
      refine Tr.iload (pc := 79) (i := 4) d_X11_stretch_79 rfl ?_
      have nk81_0 : rd M3 63 0 = g63_0 := ((St.kp h3 (by decide) (by decide) (by decide)).trans eg63_0)
      have nn81 := tl_n hS ((St.kp h3 (by decide) (by decide) (by decide)).trans eg63_1)
      refine Tr.iald (pc := 81) d_X11_stretch_81 (tl_tyI hS ((St.kp h3 (by decide) (by decide) (by decide)).trans eg63_1) (j := 4) (by decide) (by decide) bt76) (by omega) (by omega) ?_
      refine Tr.gen (P := fun v => (-2147483648) ≤ v ∧ v ≤ 2147483647) (tl_eI hS ((St.kp h3 (by decide) (by decide) (by decide)).trans eg63_1) (j := 4) (by decide) (by decide) bt76 (by omega) (by omega)) (fun r81 er81 br81 => ?_)
      exact Tr.iret (pc := 82) d_X11_stretch_82 rfl ⟨hS, _, rfl, by omega, by omega⟩
  · refine Tr.iconst (pc := 13) d_X11_stretch_13 (by decide) ?_
    exact Tr.iret (pc := 14) d_X11_stretch_14 rfl ⟨hS, _, rfl, by omega, by omega⟩

def ws_X11_lines_0_w2 : List (Int × Int) := []
def as_X11_lines_0_w2 : List Int := []
def q_X11_lines_0_w2 (M0 M' : Mem) (r : Option PV) : Prop := St Tru ws_X11_lines_0_w2 as_X11_lines_0_w2 M0 M' ∧ ∃ v : Int, r = some (1, v) ∧ (-9223372036854775808) ≤ v ∧ v ≤ 9223372036854775807
set_option maxRecDepth 100000 in
set_option maxHeartbeats 4000000 in
theorem sp_X11_lines_0_w2 {l : Launch} {K : EC} {M0 : Mem} (hI : In Tru M0) (en_0_4 : rd M0 0 4 = 27) (en_0_9 : rd M0 0 9 = 1) (a1 : Int) (ha1 : (-2147483648) ≤ a1 ∧ a1 ≤ 2147483647) (a2 : Int) (ha2 : (-2147483648) ≤ a2 ∧ a2 ≤ 2147483647)  : Tr l K 2 mX11_lines 0 [(0, (2, 0)), (1, (0, a1)), (2, (0, a2))] [] M0 (q_X11_lines_0_w2 M0) := by
  have hS : St Tru ws_X11_lines_0_w2 as_X11_lines_0_w2 M0 M0 := St.rf hI
  obtain ⟨g63_1, eg63_1⟩ : ∃ v, rd M0 63 1 = v := ⟨_, rfl⟩
  have bg63_1 : (-1000000000) ≤ g63_1 ∧ g63_1 ≤ 1000000000 := by rw [← eg63_1]; exact ir_63_1 hI.2.1
  obtain ⟨g63_0, eg63_0⟩ : ∃ v, rd M0 63 0 = v := ⟨_, rfl⟩
  have bg63_0 : (-2147483648) ≤ g63_0 ∧ g63_0 ≤ 2147483647 := by rw [← eg63_0]; exact ir_63_0 hI.2.1
  refine Tr.aload_n (pc := 0) (i := 0) d_X11_lines_0 rfl rfl ?_
  refine Tr.iload_n (pc := 1) (i := 1) d_X11_lines_1 rfl rfl ?_
  refine Tr.iload_n (pc := 2) (i := 2) d_X11_lines_2 rfl rfl ?_
  refine Tr.callV (pc := 3) (as := [_, _]) d_X11_lines_3 s_11_214 ok_X11_stretchPlace rfl rfl (Nat.le_of_ble_eq_true rfl) (Nat.le_of_ble_eq_true rfl) (by decide) (ty_0 hS.1.1) ?_
  refine Tr.imp (Tr.deep (by decide) (sp_X11_stretchPlace_0_w2 hS.1 ((St.kp hS (by decide) (by decide) (by decide)).trans en_0_4) ((St.kp hS (by decide) (by decide) (by decide)).trans en_0_9) a1 (by omega) a2 (by omega))) ?_
  rintro M3 _ ⟨h3, r3, rfl, lr3, ur3, z3_0⟩
  have hS := St.tr hS h3 (by decide) (by decide)
  have ka3_63_0 : rd M3 63 0 = g63_0 := ((St.kp h3 (by decide) (by decide) (by decide)).trans eg63_0)
  refine Tr.sc [(0, r3)] rfl ?_
  refine Tr.istore_n (pc := 6) (i := 3) (ls2 := [(3, (0, r3)), (0, (2, 0)), (1, (0, a1)), (2, (0, a2))]) d_X11_lines_6 rfl (by decide) rfl ?_
  refine Tr.iload_n (pc := 7) (i := 3) d_X11_lines_7 rfl rfl ?_
  refine Tr.if_ge (pc := 8) (tgt := 15) d_X11_lines_8 rfl (fun c8 => ?_) (fun c8 => ?_)
  · refine Tr.aload_n (pc := 15) (i := 0) d_X11_lines_15 rfl rfl ?_
    refine Tr.getf (pc := 16) d_X11_lines_16 f_11_46 (by decide) (by decide) (ty_0 hS.1.1) ?_
    refine Tr.tp 48 (fx_0_7 hS.1.1) ?_
    refine Tr.getf (pc := 19) d_X11_lines_19 f_11_178 (by decide) (by decide) (ty_48 hS.1.1) ?_
    refine Tr.tp 56 (fx_48_0 hS.1.1) ?_
    refine Tr.getf (pc := 22) d_X11_lines_22 f_11_201 (by decide) (by decide) (ty_56 hS.1.1) ?_
    refine Tr.tp 63 (fx_56_8 hS.1.1) ?_
    refine Tr.getf (pc := 25) d_X11_lines_25 f_11_226 (by decide) (by decide) (ty_63 hS.1.1) ?_
    refine Tr.gen (P := fun v => v = tref g63_1 5) (tl_ref hS ((St.kp h3 (by decide) (by decide) (by decide)).trans eg63_1) (by decide)) (fun t25 et25 bt25 => ?_)
    refine Tr.iload_n (pc := 28) (i := 3) d_X11_lines_28 rfl rfl ?_
    have nk29_0 : rd M3 63 0 = g63_0 := ((St.kp h3 (by decide) (by decide) (by decide)).trans eg63_0)
    have nn29 := tl_n hS ((St.kp h3 (by decide) (by decide) (by decide)).trans eg63_1)
    refine Tr.lald (pc := 29) d_X11_lines_29 (tl_tyL hS ((St.kp h3 (by decide) (by decide) (by decide)).trans eg63_1) bt25) (by omega) (by omega) ?_
    refine Tr.gen (P := fun v => (-9223372036854775808) ≤ v ∧ v ≤ 9223372036854775807) (tl_eL hS ((St.kp h3 (by decide) (by decide) (by decide)).trans eg63_1) bt25 (by omega) (by omega)) (fun r29 er29 br29 => ?_)
    exact Tr.lret (pc := 30) d_X11_lines_30 rfl ⟨hS, _, rfl, by omega, by omega⟩
  · refine Tr.lconst (pc := 11) (v := 0) d_X11_lines_11 rfl (by decide) ?_
    refine Tr.goto (pc := 12) (tgt := 30) d_X11_lines_12 rfl ?_
    exact Tr.lret (pc := 30) d_X11_lines_30 rfl ⟨hS, _, rfl, by omega, by omega⟩

def ws_X3_wakeCost_27 : List (Int × Int) := []
def as_X3_wakeCost_27 : List Int := []
def q_X3_wakeCost_27 (M0 M' : Mem) (r : Option PV) : Prop := St Tru ws_X3_wakeCost_27 as_X3_wakeCost_27 M0 M' ∧ ∃ v : Int, r = some (0, v) ∧ (-2147483648) ≤ v ∧ v ≤ 2147483647
set_option maxRecDepth 100000 in
set_option maxHeartbeats 4000000 in
theorem sp_X3_wakeCost_27 {l : Launch} {K : EC} {M0 : Mem} (hI : In Tru M0)  (a1 : Int) (ha1 : 0 ≤ a1 ∧ a1 ≤ 5)  : Tr l K 0 mX3_wakeCost 0 [(0, (2, 27)), (1, (0, a1))] [] M0 (q_X3_wakeCost_27 M0) := by
  have hS : St Tru ws_X3_wakeCost_27 as_X3_wakeCost_27 M0 M0 := St.rf hI
  refine Tr.aload_n (pc := 0) (i := 0) d_X3_wakeCost_0 rfl rfl ?_
  refine Tr.getf (pc := 1) d_X3_wakeCost_1 f_3_18 (by decide) (by decide) (ty_27 hS.1.1) ?_
  refine Tr.tp 30 (fx_27_6 hS.1.1) ?_
  refine Tr.iload_n (pc := 4) (i := 1) d_X3_wakeCost_4 rfl rfl ?_
  refine Tr.iald (pc := 5) d_X3_wakeCost_5 (ty_30 hS.1.1) (by omega) (by omega) ?_
  refine Tr.gen (P := fun v => (-1) ≤ v ∧ v ≤ 20) (ar_30 hS.1.2.1 _) (fun r5 er5 br5 => ?_)
  refine Tr.aload_n (pc := 6) (i := 0) d_X3_wakeCost_6 rfl rfl ?_
  refine Tr.getf (pc := 7) d_X3_wakeCost_7 f_3_15 (by decide) (by decide) (ty_27 hS.1.1) ?_
  refine Tr.tp 29 (fx_27_5 hS.1.1) ?_
  refine Tr.iload_n (pc := 10) (i := 1) d_X3_wakeCost_10 rfl rfl ?_
  refine Tr.iconst (pc := 11) d_X3_wakeCost_11 (by decide) ?_
  refine Tr.imul (pc := 12) d_X3_wakeCost_12 ?_
  refine Tr.tp (4 * a1) ((w32_id (by omega)).trans (by omega)) ?_
  refine Tr.iconst (pc := 13) d_X3_wakeCost_13 (by decide) ?_
  refine Tr.iadd (pc := 14) d_X3_wakeCost_14 ?_
  refine Tr.tp (4 * a1 + 1) ((w32_id (by omega)).trans (by omega)) ?_
  refine Tr.iald (pc := 15) d_X3_wakeCost_15 (ty_29 hS.1.1) (by omega) (by omega) ?_
  refine Tr.gen (P := fun v => (-1) ≤ v ∧ v ≤ 999) (ar_29 hS.1.2.1 _) (fun r15 er15 br15 => ?_)
  refine Tr.imul (pc := 16) d_X3_wakeCost_16 ?_
  refine Tr.gen (P := fun v => (-2147483648) ≤ v ∧ v ≤ 2147483647) (w32_b _) (fun r16 er16 br16 => ?_)
  exact Tr.iret (pc := 17) d_X3_wakeCost_17 rfl ⟨hS, _, rfl, by omega, by omega⟩

def ws_X9_weigh_100_27_63 : List (Int × Int) := [(100, 2), (100, 3)]
def as_X9_weigh_100_27_63 : List Int := [101, 102]
def q_X9_weigh_100_27_63 (a3 : Int) (M0 M' : Mem) (r : Option PV) : Prop := St Tru ws_X9_weigh_100_27_63 as_X9_weigh_100_27_63 M0 M' ∧ r = none ∧ (TU M' a3 ∧ rd M' 100 3 = a3)
set_option maxRecDepth 100000 in
set_option maxHeartbeats 4000000 in
theorem sp_X9_weigh_100_27_63 {l : Launch} {K : EC} {M0 : Mem} (hI : In Tru M0)  (a3 : Int) (ha3 : 0 ≤ a3 ∧ a3 ≤ 2016)  (hq0 : a3 < rd M0 63 0) (hq1 : TW M0) : Tr l K 3 mX9_weigh 0 [(0, (2, 100)), (1, (2, 27)), (2, (2, 63)), (3, (0, a3))] [] M0 (q_X9_weigh_100_27_63 a3 M0) := by
  have hS : St Tru ws_X9_weigh_100_27_63 as_X9_weigh_100_27_63 M0 M0 := St.rf hI
  obtain ⟨g63_1, eg63_1⟩ : ∃ v, rd M0 63 1 = v := ⟨_, rfl⟩
  have bg63_1 : (-1000000000) ≤ g63_1 ∧ g63_1 ≤ 1000000000 := by rw [← eg63_1]; exact ir_63_1 hI.2.1
  obtain ⟨g63_0, eg63_0⟩ : ∃ v, rd M0 63 0 = v := ⟨_, rfl⟩
  have bg63_0 : (-2147483648) ≤ g63_0 ∧ g63_0 ≤ 2147483647 := by rw [← eg63_0]; exact ir_63_0 hI.2.1
  obtain ⟨g63_7, eg63_7⟩ : ∃ v, rd M0 63 7 = v := ⟨_, rfl⟩
  have bg63_7 : (-2147483648) ≤ g63_7 ∧ g63_7 ≤ 2147483647 := by rw [← eg63_7]; exact ir_63_7 hI.2.1
  refine Tr.aload_n (pc := 0) (i := 0) d_X9_weigh_0 rfl rfl ?_
  refine Tr.getf (pc := 1) d_X9_weigh_1 f_9_19 (by decide) (by decide) (ty_100 hS.1.1) ?_
  refine Tr.gen (P := fun v => (-2147483648) ≤ v ∧ v ≤ 2147483647) (ir_100_3 hS.1.2.1) (fun r1 er1 br1 => ?_)
  refine Tr.iload_n (pc := 4) (i := 3) d_X9_weigh_4 rfl rfl ?_
  refine Tr.icmp_ne (pc := 5) (tgt := 9) d_X9_weigh_5 rfl (fun c5 => ?_) (fun c5 => ?_)
  · refine Tr.aload_n (pc := 9) (i := 0) d_X9_weigh_9 rfl rfl ?_
    refine Tr.iload_n (pc := 10) (i := 3) d_X9_weigh_10 rfl rfl ?_
    refine Tr.putfS (pc := 11) (P := St Tru ws_X9_weigh_100_27_63 as_X9_weigh_100_27_63 M0) d_X9_weigh_11 f_9_19 (by decide) (by decide) (ty_100 hS.1.1) (st_100_3 hS (by decide) (by omega) trivial) (fun M11 hS w11 => ?_)
    refine Tr.aload_n (pc := 14) (i := 0) d_X9_weigh_14 rfl rfl ?_
    refine Tr.aload_n (pc := 15) (i := 2) d_X9_weigh_15 rfl rfl ?_
    refine Tr.getf (pc := 16) d_X9_weigh_16 f_9_23 (by decide) (by decide) (ty_63 hS.1.1) ?_
    refine Tr.gen (P := fun v => v = tref g63_1 5) (tl_ref hS ((Wr.b w11 rfl).trans eg63_1) (by decide)) (fun t16 et16 bt16 => ?_)
    refine Tr.iload_n (pc := 19) (i := 3) d_X9_weigh_19 rfl rfl ?_
    have nk20_0 : rd M11 63 0 = g63_0 := ((Wr.b w11 rfl).trans eg63_0)
    have nk20_7 : rd M11 63 7 = g63_7 := ((Wr.b w11 rfl).trans eg63_7)
    have nn20 := tl_n hS ((Wr.b w11 rfl).trans eg63_1)
    refine Tr.lald (pc := 20) d_X9_weigh_20 (tl_tyL hS ((Wr.b w11 rfl).trans eg63_1) bt16) (by omega) (by omega) ?_
    refine Tr.gen (P := fun v => (-9223372036854775808) ≤ v ∧ v ≤ 9223372036854775807) (tl_eL hS ((Wr.b w11 rfl).trans eg63_1) bt16 (by omega) (by omega)) (fun r20 er20 br20 => ?_)
    refine Tr.putfS (pc := 21) (P := St Tru ws_X9_weigh_100_27_63 as_X9_weigh_100_27_63 M0) d_X9_weigh_21 f_9_28 (by decide) (by decide) (ty_100 hS.1.1) (st_100_2 hS (by decide) (by omega) trivial) (fun M21 hS w21 => ?_)
    have htu := TU.new (a := a3) hS w21 (by rw [et16]; exact er20)
    refine Tr.aload_n (pc := 24) (i := 0) d_X9_weigh_24 rfl rfl ?_
    refine Tr.getf (pc := 25) d_X9_weigh_25 f_9_11 (by decide) (by decide) (ty_100 hS.1.1) ?_
    refine Tr.tp 101 (fx_100_0 hS.1.1) ?_
    refine Tr.lconst (pc := 28) (v := 0) d_X9_weigh_28 rfl (by decide) ?_
    refine Tr.callS (pc := 29) (as := [_, _]) d_X9_weigh_29 s_9_31 ok_J7_fill_d0a16 rfl rfl (Nat.le_of_ble_eq_true rfl) (Nat.le_of_ble_eq_true rfl) ?_
    refine Tr.imp (Tr.deep (by decide) (sp_J7_fill_d0a16_101 hS.1 0 (by omega))) ?_
    rintro M29 _ ⟨h29, rfl⟩
    have hS := St.tr hS h29 (by decide) (by decide)
    refine Tr.sc [] rfl ?_
    refine Tr.aload_n (pc := 32) (i := 0) d_X9_weigh_32 rfl rfl ?_
    refine Tr.getf (pc := 33) d_X9_weigh_33 f_9_15 (by decide) (by decide) (ty_100 hS.1.1) ?_
    refine Tr.tp 102 (fx_100_1 hS.1.1) ?_
    refine Tr.iconst (pc := 36) d_X9_weigh_36 (by decide) ?_
    refine Tr.callS (pc := 37) (as := [_, _]) d_X9_weigh_37 s_9_37 ok_J7_fill_53178 rfl rfl (Nat.le_of_ble_eq_true rfl) (Nat.le_of_ble_eq_true rfl) ?_
    refine Tr.imp (sp_fill (N := 256) (ty_102 hS.1.1) (by decide)) ?_
    rintro _ _ ⟨rfl, rfl⟩
    refine Tr.nmA (P := St Tru ws_X9_weigh_100_27_63 as_X9_weigh_100_27_63 M0) (sf_102 (v := (-1)) 256 hS (by decide) (by omega) trivial) (fil_wa _ _ _ _) (fun M37 hS w37 => ?_)
    refine Tr.sc [] rfl ?_
    refine Tr.aload_n (pc := 40) (i := 2) d_X9_weigh_40 rfl rfl ?_
    refine Tr.getf (pc := 41) d_X9_weigh_41 f_9_40 (by decide) (by decide) (ty_63 hS.1.1) ?_
    refine Tr.gen (P := fun v => v = tref g63_1 1) (tl_ref hS ((Wa.b w37 rfl).trans ((St.kp h29 (by decide) (by decide) (by decide)).trans ((Wr.b w21 rfl).trans ((Wr.b w11 rfl).trans eg63_1)))) (by decide)) (fun t41 et41 bt41 => ?_)
    refine Tr.iload_n (pc := 44) (i := 3) d_X9_weigh_44 rfl rfl ?_
    have nk45_0 : rd M37 63 0 = g63_0 := ((Wa.b w37 rfl).trans ((St.kp h29 (by decide) (by decide) (by decide)).trans ((Wr.b w21 rfl).trans ((Wr.b w11 rfl).trans eg63_0))))
    have nk45_7 : rd M37 63 7 = g63_7 := ((Wa.b w37 rfl).trans ((St.kp h29 (by decide) (by decide) (by decide)).trans ((Wr.b w21 rfl).trans ((Wr.b w11 rfl).trans eg63_7))))
    have nn45 := tl_n hS ((Wa.b w37 rfl).trans ((St.kp h29 (by decide) (by decide) (by decide)).trans ((Wr.b w21 rfl).trans ((Wr.b w11 rfl).trans eg63_1))))
    refine Tr.iald (pc := 45) d_X9_weigh_45 (tl_tyI hS ((Wa.b w37 rfl).trans ((St.kp h29 (by decide) (by decide) (by decide)).trans ((Wr.b w21 rfl).trans ((Wr.b w11 rfl).trans eg63_1)))) (j := 1) (by decide) (by decide) bt41) (by omega) (by omega) ?_
    refine Tr.gen (P := fun v => 0 ≤ v ∧ v ≤ 5) (tl_eP hS ((Wa.b w37 rfl).trans ((St.kp h29 (by decide) (by decide) (by decide)).trans ((Wr.b w21 rfl).trans ((Wr.b w11 rfl).trans eg63_1)))) (j := 1) (by decide) (by decide) bt41 (by omega) (by omega)) (fun r45 er45 br45 => ?_)
    refine Tr.istore (pc := 46) (i := 4) (ls2 := [(4, (0, r45)), (0, (2, 100)), (1, (2, 27)), (2, (2, 63)), (3, (0, a3))]) d_X9_weigh_46 (by decide) rfl ?_
    refine Tr.aload_n (pc := 48) (i := 1) d_X9_weigh_48 rfl rfl ?_
    refine Tr.getf (pc := 49) d_X9_weigh_49 f_9_43 (by decide) (by decide) (ty_27 hS.1.1) ?_
    refine Tr.tp 29 (fx_27_5 hS.1.1) ?_
    refine Tr.iload (pc := 52) (i := 4) d_X9_weigh_52 rfl ?_
    refine Tr.iconst (pc := 54) d_X9_weigh_54 (by decide) ?_
    refine Tr.imul (pc := 55) d_X9_weigh_55 ?_
    refine Tr.tp (4 * r45) ((w32_id (by omega)).trans (by omega)) ?_
    refine Tr.iconst (pc := 56) d_X9_weigh_56 (by decide) ?_
    refine Tr.iadd (pc := 57) d_X9_weigh_57 ?_
    refine Tr.tp (4 * r45 + 2) ((w32_id (by omega)).trans (by omega)) ?_
    refine Tr.iald (pc := 58) d_X9_weigh_58 (ty_29 hS.1.1) (by omega) (by omega) ?_
    refine Tr.gen (P := fun v => (-1) ≤ v ∧ v ≤ 999) (ar_29 hS.1.2.1 _) (fun r58 er58 br58 => ?_)
    refine Tr.istore (pc := 59) (i := 5) (ls2 := [(5, (0, r58)), (4, (0, r45)), (0, (2, 100)), (1, (2, 27)), (2, (2, 63)), (3, (0, a3))]) d_X9_weigh_59 (by decide) rfl ?_
    refine Tr.aload_n (pc := 61) (i := 1) d_X9_weigh_61 rfl rfl ?_
    refine Tr.iload (pc := 62) (i := 4) d_X9_weigh_62 rfl ?_
    refine Tr.callV (pc := 64) (as := [_]) d_X9_weigh_64 s_9_48 ok_X3_wakeCost rfl rfl (Nat.le_of_ble_eq_true rfl) (Nat.le_of_ble_eq_true rfl) (by decide) (ty_27 hS.1.1) ?_
    refine Tr.imp (Tr.deep (by decide) (sp_X3_wakeCost_27 hS.1 r45 (by omega))) ?_
    rintro M64 _ ⟨h64, r64, rfl, lr64, ur64⟩
    have hS := St.tr hS h64 (by decide) (by decide)
    refine Tr.sc [(0, r64)] rfl ?_
    refine Tr.istore (pc := 67) (i := 6) (ls2 := [(6, (0, r64)), (5, (0, r58)), (4, (0, r45)), (0, (2, 100)), (1, (2, 27)), (2, (2, 63)), (3, (0, a3))]) d_X9_weigh_67 (by decide) rfl ?_
    refine Tr.iconst (pc := 69) d_X9_weigh_69 (by decide) ?_
    refine Tr.istore (pc := 70) (i := 7) (ls2 := [(7, (0, 0)), (6, (0, r64)), (5, (0, r58)), (4, (0, r45)), (0, (2, 100)), (1, (2, 27)), (2, (2, 63)), (3, (0, a3))]) d_X9_weigh_70 (by decide) rfl ?_
    have J72 : ∀ (n72 : Nat) (M : Mem) (p72_7 : Int), St Tru ws_X9_weigh_100_27_63 as_X9_weigh_100_27_63 M0 M → (0 ≤ p72_7 ∧ p72_7 ≤ 2016) → rd M 100 2 = r20 → rd M 100 3 = a3 → rd M 29 (4 * r45 + 2) = r58 → rd M 63 0 = g63_0 → rd M 63 1 = g63_1 → rd M 63 7 = g63_7 → (TU M a3) → (2016 - p72_7).toNat < n72 → Tr l K 3 mX9_weigh 72 [(0, (2, 100)), (1, (2, 27)), (2, (2, 63)), (3, (0, a3)), (4, (0, r45)), (5, (0, r58)), (6, (0, r64)), (7, (0, p72_7))] [] M (q_X9_weigh_100_27_63 a3 M0) := by
      intro n72
      induction n72 with
      | zero => intro M p72_7 hS bp72_7 k72_100_2 k72_100_3 k72_29_r4542 k72_63_0 k72_63_1 k72_63_7 tp72_0 hm72; exact absurd hm72 (Nat.not_lt_zero _)
      | succ n72 J72 =>
        intro M p72_7 hS bp72_7 k72_100_2 k72_100_3 k72_29_r4542 k72_63_0 k72_63_1 k72_63_7 tp72_0 hm72
        refine Tr.iload (pc := 72) (i := 7) d_X9_weigh_72 rfl ?_
        refine Tr.aload_n (pc := 74) (i := 2) d_X9_weigh_74 rfl rfl ?_
        refine Tr.getf (pc := 75) d_X9_weigh_75 f_9_52 (by decide) (by decide) (ty_63 hS.1.1) ?_
        refine Tr.tp g63_7 k72_63_7 ?_
        refine Tr.icmp_ge (pc := 78) (tgt := 179) d_X9_weigh_78 rfl (fun c78 => ?_) (fun c78 => ?_)
        · have kz_100_3 : rd M 100 3 = a3 := k72_100_3
          exact Tr.vret (pc := 179) d_X9_weigh_179 rfl ⟨hS, rfl, ⟨tp72_0, by omega⟩⟩
        · refine Tr.aload_n (pc := 81) (i := 2) d_X9_weigh_81 rfl rfl ?_
          refine Tr.getf (pc := 82) d_X9_weigh_82 f_9_55 (by decide) (by decide) (ty_63 hS.1.1) ?_
          refine Tr.gen (P := fun v => v = tref g63_1 10) (tl_ref hS k72_63_1 (by decide)) (fun t82 et82 bt82 => ?_)
          refine Tr.iload (pc := 85) (i := 7) d_X9_weigh_85 rfl ?_
          have nk87_0 : rd M 63 0 = g63_0 := k72_63_0
          have nk87_7 : rd M 63 7 = g63_7 := k72_63_7
          have nn87 := tl_n hS k72_63_1
          refine Tr.iald (pc := 87) d_X9_weigh_87 (tl_tyI hS k72_63_1 (j := 10) (by decide) (by decide) bt82) (by omega) (by omega) ?_
          refine Tr.gen (P := fun v => (-2147483648) ≤ v ∧ v ≤ 2147483647) (tl_eI hS k72_63_1 (j := 10) (by decide) (by decide) bt82 (by omega) (by omega)) (fun r87 er87 br87 => ?_)
          refine Tr.istore (pc := 88) (i := 8) (ls2 := [(8, (0, r87)), (0, (2, 100)), (1, (2, 27)), (2, (2, 63)), (3, (0, a3)), (4, (0, r45)), (5, (0, r58)), (6, (0, r64)), (7, (0, p72_7))]) d_X9_weigh_88 (by decide) rfl ?_
          refine Tr.aload_n (pc := 90) (i := 2) d_X9_weigh_90 rfl rfl ?_
          refine Tr.getf (pc := 91) d_X9_weigh_91 f_9_58 (by decide) (by decide) (ty_63 hS.1.1) ?_
          refine Tr.gen (P := fun v => v = tref g63_1 8) (tl_ref hS k72_63_1 (by decide)) (fun t91 et91 bt91 => ?_)
          refine Tr.iload (pc := 94) (i := 7) d_X9_weigh_94 rfl ?_
          have nk96_0 : rd M 63 0 = g63_0 := k72_63_0
          have nk96_7 : rd M 63 7 = g63_7 := k72_63_7
          have nn96 := tl_n hS k72_63_1
          refine Tr.iald (pc := 96) d_X9_weigh_96 (tl_tyI hS k72_63_1 (j := 8) (by decide) (by decide) bt91) (by omega) (by omega) ?_
          refine Tr.gen (P := fun v => 0 ≤ v ∧ v ≤ 5) (tl_eP hS k72_63_1 (j := 8) (by decide) (by decide) bt91 (by omega) (by omega)) (fun r96 er96 br96 => ?_)
          refine Tr.iload (pc := 97) (i := 4) d_X9_weigh_97 rfl ?_
          have J173 : ∀ (M : Mem), St Tru ws_X9_weigh_100_27_63 as_X9_weigh_100_27_63 M0 M → rd M 100 2 = r20 → rd M 100 3 = a3 → rd M 29 (4 * r45 + 2) = r58 → rd M 63 0 = g63_0 → rd M 63 1 = g63_1 → rd M 63 7 = g63_7 → (TU M a3) → Tr l K 3 mX9_weigh 173 [(0, (2, 100)), (1, (2, 27)), (2, (2, 63)), (3, (0, a3)), (4, (0, r45)), (5, (0, r58)), (6, (0, r64)), (7, (0, p72_7))] [] M (q_X9_weigh_100_27_63 a3 M0) := by
            intro M  hS  k173_100_2 k173_100_3 k173_29_r4542 k173_63_0 k173_63_1 k173_63_7 tp173_0
            refine Tr.iincV (pc := 173) (n2 := (p72_7 + 1)) (ls2 := [(7, (0, (p72_7 + 1))), (0, (2, 100)), (1, (2, 27)), (2, (2, 63)), (3, (0, a3)), (4, (0, r45)), (5, (0, r58)), (6, (0, r64))]) d_X9_weigh_173 rfl (by decide) ((w32_id (by omega)).trans (by omega)) rfl ?_
            refine Tr.goto (pc := 176) (tgt := 72) d_X9_weigh_176 rfl ?_
            refine Tr.pick [1, 2, 3, 4, 5, 6, 7, 0] (ls2 := [(0, (2, 100)), (1, (2, 27)), (2, (2, 63)), (3, (0, a3)), (4, (0, r45)), (5, (0, r58)), (6, (0, r64)), (7, (0, (p72_7 + 1)))]) rfl ?_
            exact J72 _ _ hS (by omega) k173_100_2 k173_100_3 k173_29_r4542 k173_63_0 k173_63_1 k173_63_7 tp173_0 (by omega)
          refine Tr.icmp_ne (pc := 99) (tgt := 173) d_X9_weigh_99 rfl (fun c99 => ?_) (fun c99 => ?_)
          · refine Tr.pick [1, 2, 3, 4, 5, 6, 7, 8] (ls2 := [(0, (2, 100)), (1, (2, 27)), (2, (2, 63)), (3, (0, a3)), (4, (0, r45)), (5, (0, r58)), (6, (0, r64)), (7, (0, p72_7))]) rfl ?_
            exact J173 _ hS k72_100_2 k72_100_3 k72_29_r4542 k72_63_0 k72_63_1 k72_63_7 tp72_0
          · refine Tr.iload (pc := 102) (i := 8) d_X9_weigh_102 rfl ?_
            refine Tr.aload_n (pc := 104) (i := 2) d_X9_weigh_104 rfl rfl ?_
            refine Tr.getf (pc := 105) d_X9_weigh_105 f_9_61 (by decide) (by decide) (ty_63 hS.1.1) ?_
            refine Tr.gen (P := fun v => v = tref g63_1 2) (tl_ref hS k72_63_1 (by decide)) (fun t105 et105 bt105 => ?_)
            refine Tr.iload_n (pc := 108) (i := 3) d_X9_weigh_108 rfl rfl ?_
            have nk109_0 : rd M 63 0 = g63_0 := k72_63_0
            have nk109_7 : rd M 63 7 = g63_7 := k72_63_7
            have nn109 := tl_n hS k72_63_1
            refine Tr.iald (pc := 109) d_X9_weigh_109 (tl_tyI hS k72_63_1 (j := 2) (by decide) (by decide) bt105) (by omega) (by omega) ?_
            refine Tr.gen (P := fun v => (-2147483648) ≤ v ∧ v ≤ 2147483647) (tl_eI hS k72_63_1 (j := 2) (by decide) (by decide) bt105 (by omega) (by omega)) (fun r109 er109 br109 => ?_)
            refine Tr.icmp_lt (pc := 110) (tgt := 173) d_X9_weigh_110 rfl (fun c110 => ?_) (fun c110 => ?_)
            · refine Tr.pick [1, 2, 3, 4, 5, 6, 7, 8] (ls2 := [(0, (2, 100)), (1, (2, 27)), (2, (2, 63)), (3, (0, a3)), (4, (0, r45)), (5, (0, r58)), (6, (0, r64)), (7, (0, p72_7))]) rfl ?_
              exact J173 _ hS k72_100_2 k72_100_3 k72_29_r4542 k72_63_0 k72_63_1 k72_63_7 tp72_0
            · refine Tr.iload (pc := 113) (i := 8) d_X9_weigh_113 rfl ?_
              refine Tr.aload_n (pc := 115) (i := 2) d_X9_weigh_115 rfl rfl ?_
              refine Tr.getf (pc := 116) d_X9_weigh_116 f_9_64 (by decide) (by decide) (ty_63 hS.1.1) ?_
              refine Tr.gen (P := fun v => v = tref g63_1 3) (tl_ref hS k72_63_1 (by decide)) (fun t116 et116 bt116 => ?_)
              refine Tr.iload_n (pc := 119) (i := 3) d_X9_weigh_119 rfl rfl ?_
              have nk120_0 : rd M 63 0 = g63_0 := k72_63_0
              have nk120_7 : rd M 63 7 = g63_7 := k72_63_7
              have nn120 := tl_n hS k72_63_1
              refine Tr.iald (pc := 120) d_X9_weigh_120 (tl_tyI hS k72_63_1 (j := 3) (by decide) (by decide) bt116) (by omega) (by omega) ?_
              refine Tr.gen (P := fun v => (-2147483648) ≤ v ∧ v ≤ 2147483647) (tl_eI hS k72_63_1 (j := 3) (by decide) (by decide) bt116 (by omega) (by omega)) (fun r120 er120 br120 => ?_)
              refine Tr.icmp_ge (pc := 121) (tgt := 173) d_X9_weigh_121 rfl (fun c121 => ?_) (fun c121 => ?_)
              · refine Tr.pick [1, 2, 3, 4, 5, 6, 7, 8] (ls2 := [(0, (2, 100)), (1, (2, 27)), (2, (2, 63)), (3, (0, a3)), (4, (0, r45)), (5, (0, r58)), (6, (0, r64)), (7, (0, p72_7))]) rfl ?_
                exact J173 _ hS k72_100_2 k72_100_3 k72_29_r4542 k72_63_0 k72_63_1 k72_63_7 tp72_0
              · refine Tr.aload_n (pc := 124) (i := 2) d_X9_weigh_124 rfl rfl ?_
                refine Tr.getf (pc := 125) d_X9_weigh_125 f_9_67 (by decide) (by decide) (ty_63 hS.1.1) ?_
                refine Tr.gen (P := fun v => v = tref g63_1 11) (tl_ref hS k72_63_1 (by decide)) (fun t125 et125 bt125 => ?_)
                refine Tr.iload (pc := 128) (i := 7) d_X9_weigh_128 rfl ?_
                have nk130_0 : rd M 63 0 = g63_0 := k72_63_0
                have nk130_7 : rd M 63 7 = g63_7 := k72_63_7
                have nn130 := tl_n hS k72_63_1
                refine Tr.iald (pc := 130) d_X9_weigh_130 (tl_tyI hS k72_63_1 (j := 11) (by decide) (by decide) bt125) (by omega) (by omega) ?_
                refine Tr.gen (P := fun v => (-2147483648) ≤ v ∧ v ≤ 2147483647) (tl_eI hS k72_63_1 (j := 11) (by decide) (by decide) bt125 (by omega) (by omega)) (fun r130 er130 br130 => ?_)
                refine Tr.aload_n (pc := 131) (i := 1) d_X9_weigh_131 rfl rfl ?_
                refine Tr.getf (pc := 132) d_X9_weigh_132 f_9_70 (by decide) (by decide) (ty_27 hS.1.1) ?_
                refine Tr.tp 31 (fx_27_7 hS.1.1) ?_
                refine Tr.iload (pc := 135) (i := 4) d_X9_weigh_135 rfl ?_
                refine Tr.iald (pc := 137) d_X9_weigh_137 (ty_31 hS.1.1) (by omega) (by omega) ?_
                refine Tr.gen (P := fun v => 0 ≤ v ∧ v ≤ 50) (ar_31 hS.1.2.1 _) (fun r137 er137 br137 => ?_)
                refine Tr.iadd (pc := 138) d_X9_weigh_138 ?_
                refine Tr.gen (P := fun v => (-2147483648) ≤ v ∧ v ≤ 2147483647) (w32_b _) (fun r138 er138 br138 => ?_)
                refine Tr.aload_n (pc := 139) (i := 2) d_X9_weigh_139 rfl rfl ?_
                refine Tr.getf (pc := 140) d_X9_weigh_140 f_9_64 (by decide) (by decide) (ty_63 hS.1.1) ?_
                refine Tr.gen (P := fun v => v = tref g63_1 3) (tl_ref hS k72_63_1 (by decide)) (fun t140 et140 bt140 => ?_)
                refine Tr.iload_n (pc := 143) (i := 3) d_X9_weigh_143 rfl rfl ?_
                have nk144_0 : rd M 63 0 = g63_0 := k72_63_0
                have nk144_7 : rd M 63 7 = g63_7 := k72_63_7
                have nn144 := tl_n hS k72_63_1
                refine Tr.iald (pc := 144) d_X9_weigh_144 (tl_tyI hS k72_63_1 (j := 3) (by decide) (by decide) bt140) (by omega) (by omega) ?_
                refine Tr.gen (P := fun v => (-2147483648) ≤ v ∧ v ≤ 2147483647) (tl_eI hS k72_63_1 (j := 3) (by decide) (by decide) bt140 (by omega) (by omega)) (fun r144 er144 br144 => ?_)
                refine Tr.mmin (pc := 145) d_X9_weigh_145 ml_9_73 mw_mmin (Nat.le_of_ble_eq_true rfl) ?_
                refine Tr.gen (P := fun v => (v = r138 ∧ r138 ≤ r144) ∨ (v = r144 ∧ r144 ≤ r138)) (f_min_p _ _) (fun r145 er145 br145 => ?_)
                refine Tr.istore (pc := 148) (i := 9) (ls2 := [(9, (0, r145)), (8, (0, r87)), (0, (2, 100)), (1, (2, 27)), (2, (2, 63)), (3, (0, a3)), (4, (0, r45)), (5, (0, r58)), (6, (0, r64)), (7, (0, p72_7))]) d_X9_weigh_148 (by decide) rfl ?_
                refine Tr.aload_n (pc := 150) (i := 0) d_X9_weigh_150 rfl rfl ?_
                refine Tr.aload_n (pc := 151) (i := 0) d_X9_weigh_151 rfl rfl ?_
                refine Tr.aload_n (pc := 152) (i := 2) d_X9_weigh_152 rfl rfl ?_
                refine Tr.getf (pc := 153) d_X9_weigh_153 f_9_79 (by decide) (by decide) (ty_63 hS.1.1) ?_
                refine Tr.gen (P := fun v => v = tref g63_1 9) (tl_ref hS k72_63_1 (by decide)) (fun t153 et153 bt153 => ?_)
                refine Tr.iload (pc := 156) (i := 7) d_X9_weigh_156 rfl ?_
                have nk158_0 : rd M 63 0 = g63_0 := k72_63_0
                have nk158_7 : rd M 63 7 = g63_7 := k72_63_7
                have nn158 := tl_n hS k72_63_1
                refine Tr.iald (pc := 158) d_X9_weigh_158 (tl_tyI hS k72_63_1 (j := 9) (by decide) (by decide) bt153) (by omega) (by omega) ?_
                refine Tr.gen (P := fun v => (-2147483648) ≤ v ∧ v ≤ 2147483647) (tl_eI hS k72_63_1 (j := 9) (by decide) (by decide) bt153 (by omega) (by omega)) (fun r158 er158 br158 => ?_)
                refine Tr.callV (pc := 159) (as := [_]) d_X9_weigh_159 s_9_82 ok_X9_bitOf rfl rfl (Nat.le_of_ble_eq_true rfl) (Nat.le_of_ble_eq_true rfl) (by decide) (ty_100 hS.1.1) ?_
                refine Tr.imp (Tr.deep (by decide) (sp_X9_bitOf_100 hS.1 r158 (by omega))) ?_
                rintro M159 _ ⟨h159, r159, rfl, lr159, ur159, z159_0⟩
                have hS := St.tr hS h159 (by decide) (by decide)
                refine Tr.sc [(0, r159), (2, 100)] rfl ?_
                refine Tr.iload (pc := 162) (i := 8) d_X9_weigh_162 rfl ?_
                refine Tr.iload (pc := 164) (i := 9) d_X9_weigh_164 rfl ?_
                refine Tr.iload (pc := 166) (i := 5) d_X9_weigh_166 rfl ?_
                refine Tr.iload (pc := 168) (i := 6) d_X9_weigh_168 rfl ?_
                refine Tr.callV (pc := 170) (as := [_, _, _, _, _]) d_X9_weigh_170 s_9_85 ok_X9_spread rfl rfl (Nat.le_of_ble_eq_true rfl) (Nat.le_of_ble_eq_true rfl) (by decide) (ty_100 hS.1.1) ?_
                refine Tr.imp (Tr.deep (by decide) (sp_X9_spread_100 hS.1 r159 (by omega) r87 (by omega) r145 (by omega) r58 (by omega) r64 (by omega))) ?_
                rintro M170 _ ⟨h170, rfl⟩
                have hS := St.tr hS h170 (by decide) (by decide)
                refine Tr.sc [] rfl ?_
                refine Tr.pick [2, 3, 4, 5, 6, 7, 8, 9] (ls2 := [(0, (2, 100)), (1, (2, 27)), (2, (2, 63)), (3, (0, a3)), (4, (0, r45)), (5, (0, r58)), (6, (0, r64)), (7, (0, p72_7))]) rfl ?_
                exact J173 _ hS ((St.kp h170 (by decide) (by decide) (by decide)).trans ((St.kp h159 (by decide) (by decide) (by decide)).trans k72_100_2)) ((St.kp h170 (by decide) (by decide) (by decide)).trans ((St.kp h159 (by decide) (by decide) (by decide)).trans k72_100_3)) ((St.ka h170 (by decide) (by decide) (by decide)).trans ((St.ka h159 (by decide) (by decide) (by decide)).trans k72_29_r4542)) ((St.kp h170 (by decide) (by decide) (by decide)).trans ((St.kp h159 (by decide) (by decide) (by decide)).trans k72_63_0)) ((St.kp h170 (by decide) (by decide) (by decide)).trans ((St.kp h159 (by decide) (by decide) (by decide)).trans k72_63_1)) ((St.kp h170 (by decide) (by decide) (by decide)).trans ((St.kp h159 (by decide) (by decide) (by decide)).trans k72_63_7)) (TU.st (TU.st tp72_0 h159 (by decide)) h170 (by decide))
    refine Tr.pick [4, 5, 6, 7, 3, 2, 1, 0] (ls2 := [(0, (2, 100)), (1, (2, 27)), (2, (2, 63)), (3, (0, a3)), (4, (0, r45)), (5, (0, r58)), (6, (0, r64)), (7, (0, 0))]) rfl ?_
    exact J72 _ _ _ hS (by omega) ((St.kp h64 (by decide) (by decide) (by decide)).trans ((Wa.b w37 rfl).trans ((St.kp h29 (by decide) (by decide) (by decide)).trans w21.1))) ((St.kp h64 (by decide) (by decide) (by decide)).trans ((Wa.b w37 rfl).trans ((St.kp h29 (by decide) (by decide) (by decide)).trans ((Wr.b w21 rfl).trans w11.1)))) ((St.ka h64 (by decide) (by decide) (by decide)).trans er58) ((St.kp h64 (by decide) (by decide) (by decide)).trans ((Wa.b w37 rfl).trans ((St.kp h29 (by decide) (by decide) (by decide)).trans ((Wr.b w21 rfl).trans ((Wr.b w11 rfl).trans eg63_0))))) ((St.kp h64 (by decide) (by decide) (by decide)).trans ((Wa.b w37 rfl).trans ((St.kp h29 (by decide) (by decide) (by decide)).trans ((Wr.b w21 rfl).trans ((Wr.b w11 rfl).trans eg63_1))))) ((St.kp h64 (by decide) (by decide) (by decide)).trans ((Wa.b w37 rfl).trans ((St.kp h29 (by decide) (by decide) (by decide)).trans ((Wr.b w21 rfl).trans ((Wr.b w11 rfl).trans eg63_7))))) (TU.st (TU.wa (TU.st htu h29 (by decide)) w37 (by decide)) h64 (by decide)) (Nat.lt_succ_self _)
  · exact Tr.vret (pc := 8) d_X9_weigh_8 rfl ⟨hS, rfl, ⟨TU.of1 hS hq1 (er1.trans (by omega)) (by omega), er1.trans (by omega)⟩⟩

def ws_X11_byTurns_0_w2 : List (Int × Int) := [(100, 2), (100, 3)]
def as_X11_byTurns_0_w2 : List Int := [101, 102]
def q_X11_byTurns_0_w2 (a1 : Int) (a2 : Int) (a3 : Int) (a4 : Int) (M0 M' : Mem) (r : Option PV) : Prop := St Tru ws_X11_byTurns_0_w2 as_X11_byTurns_0_w2 M0 M' ∧ ∃ v : Int, r = some (1, v) ∧ (-9223372036854775808) ≤ v ∧ v ≤ 9223372036854775807 ∧ (TW M')
set_option maxRecDepth 100000 in
set_option maxHeartbeats 4000000 in
theorem sp_X11_byTurns_0_w2 {l : Launch} {K : EC} {M0 : Mem} {xq : Int} (hI : In Tru M0) (hE : e_all K xq) (en_0_4 : rd M0 0 4 = 27) (en_0_9 : rd M0 0 9 = 1) (a1 : Int) (ha1 : (-2147483648) ≤ a1 ∧ a1 ≤ 2147483647) (a2 : Int) (ha2 : (-2147483648) ≤ a2 ∧ a2 ≤ 2147483647) (a3 : Int) (ha3 : (-2147483648) ≤ a3 ∧ a3 ≤ 2147483647) (a4 : Int) (ha4 : 0 ≤ a4 ∧ a4 ≤ 1)  (hq0 : TW M0) : Tr l K 4 mX11_byTurns 0 [(0, (2, 0)), (1, (0, a1)), (2, (0, a2)), (3, (0, a3)), (4, (0, a4))] [] M0 (q_X11_byTurns_0_w2 a1 a2 a3 a4 M0) := by
  have hS : St Tru ws_X11_byTurns_0_w2 as_X11_byTurns_0_w2 M0 M0 := St.rf hI
  obtain ⟨g63_1, eg63_1⟩ : ∃ v, rd M0 63 1 = v := ⟨_, rfl⟩
  have bg63_1 : (-1000000000) ≤ g63_1 ∧ g63_1 ≤ 1000000000 := by rw [← eg63_1]; exact ir_63_1 hI.2.1
  obtain ⟨g63_0, eg63_0⟩ : ∃ v, rd M0 63 0 = v := ⟨_, rfl⟩
  have bg63_0 : (-2147483648) ≤ g63_0 ∧ g63_0 ≤ 2147483647 := by rw [← eg63_0]; exact ir_63_0 hI.2.1
  refine Tr.aload_n (pc := 0) (i := 0) d_X11_byTurns_0 rfl rfl ?_
  refine Tr.iload_n (pc := 1) (i := 1) d_X11_byTurns_1 rfl rfl ?_
  refine Tr.iload_n (pc := 2) (i := 2) d_X11_byTurns_2 rfl rfl ?_
  refine Tr.callV (pc := 3) (as := [_, _]) d_X11_byTurns_3 s_11_214 ok_X11_stretchPlace rfl rfl (Nat.le_of_ble_eq_true rfl) (Nat.le_of_ble_eq_true rfl) (by decide) (ty_0 hS.1.1) ?_
  refine Tr.imp (Tr.deep (by decide) (sp_X11_stretchPlace_0_w2 hS.1 ((St.kp hS (by decide) (by decide) (by decide)).trans en_0_4) ((St.kp hS (by decide) (by decide) (by decide)).trans en_0_9) a1 (by omega) a2 (by omega))) ?_
  rintro M3 _ ⟨h3, r3, rfl, lr3, ur3, z3_0⟩
  have hS := St.tr hS h3 (by decide) (by decide)
  have ka3_63_0 : rd M3 63 0 = g63_0 := ((St.kp h3 (by decide) (by decide) (by decide)).trans eg63_0)
  refine Tr.sc [(0, r3)] rfl ?_
  refine Tr.istore (pc := 6) (i := 5) (ls2 := [(5, (0, r3)), (0, (2, 0)), (1, (0, a1)), (2, (0, a2)), (3, (0, a3)), (4, (0, a4))]) d_X11_byTurns_6 (by decide) rfl ?_
  refine Tr.iload (pc := 8) (i := 5) d_X11_byTurns_8 rfl ?_
  refine Tr.if_lt (pc := 10) (tgt := 21) d_X11_byTurns_10 rfl (fun c10 => ?_) (fun c10 => ?_)
  · refine Tr.ldc2 (pc := 21) d_X11_byTurns_21 kl_11_230 (by decide) ?_
    exact Tr.lret (pc := 24) d_X11_byTurns_24 rfl ⟨hS, _, rfl, by omega, by omega, (TW.st hq0 h3 (by decide))⟩
  · refine Tr.aload_n (pc := 13) (i := 0) d_X11_byTurns_13 rfl rfl ?_
    refine Tr.iload_n (pc := 14) (i := 3) d_X11_byTurns_14 rfl rfl ?_
    refine Tr.callV (pc := 15) (as := [_]) d_X11_byTurns_15 s_11_191 ok_X11_isLine rfl rfl (Nat.le_of_ble_eq_true rfl) (Nat.le_of_ble_eq_true rfl) (by decide) (ty_0 hS.1.1) ?_
    refine Tr.imp (Tr.deep (by decide) (sp_X11_isLine_0_w1 hS.1 ((St.kp hS (by decide) (by decide) (by decide)).trans en_0_4) a3 (by omega))) ?_
    rintro M15 _ ⟨h15, r15, rfl, lr15, ur15, wr15⟩
    have hS := St.tr hS h15 (by decide) (by decide)
    refine Tr.sc [(0, r15)] rfl ?_
    refine Tr.if_ne (pc := 18) (tgt := 25) d_X11_byTurns_18 rfl (fun c18 => ?_) (fun c18 => ?_)
    · refine Tr.aload_n (pc := 25) (i := 0) d_X11_byTurns_25 rfl rfl ?_
      refine Tr.getf (pc := 26) d_X11_byTurns_26 f_11_46 (by decide) (by decide) (ty_0 hS.1.1) ?_
      refine Tr.tp 48 (fx_0_7 hS.1.1) ?_
      refine Tr.getf (pc := 29) d_X11_byTurns_29 f_11_178 (by decide) (by decide) (ty_48 hS.1.1) ?_
      refine Tr.tp 56 (fx_48_0 hS.1.1) ?_
      refine Tr.getf (pc := 32) d_X11_byTurns_32 f_11_201 (by decide) (by decide) (ty_56 hS.1.1) ?_
      refine Tr.tp 63 (fx_56_8 hS.1.1) ?_
      refine Tr.getf (pc := 35) d_X11_byTurns_35 f_11_226 (by decide) (by decide) (ty_63 hS.1.1) ?_
      refine Tr.gen (P := fun v => v = tref g63_1 5) (tl_ref hS ((St.kp h15 (by decide) (by decide) (by decide)).trans ((St.kp h3 (by decide) (by decide) (by decide)).trans eg63_1)) (by decide)) (fun t35 et35 bt35 => ?_)
      refine Tr.iload (pc := 38) (i := 5) d_X11_byTurns_38 rfl ?_
      have nk40_0 : rd M15 63 0 = g63_0 := ((St.kp h15 (by decide) (by decide) (by decide)).trans ((St.kp h3 (by decide) (by decide) (by decide)).trans eg63_0))
      have nn40 := tl_n hS ((St.kp h15 (by decide) (by decide) (by decide)).trans ((St.kp h3 (by decide) (by decide) (by decide)).trans eg63_1))
      refine Tr.lald (pc := 40) d_X11_byTurns_40 (tl_tyL hS ((St.kp h15 (by decide) (by decide) (by decide)).trans ((St.kp h3 (by decide) (by decide) (by decide)).trans eg63_1)) bt35) (by omega) (by omega) ?_
      refine Tr.gen (P := fun v => (-9223372036854775808) ≤ v ∧ v ≤ 9223372036854775807) (tl_eL hS ((St.kp h15 (by decide) (by decide) (by decide)).trans ((St.kp h3 (by decide) (by decide) (by decide)).trans eg63_1)) bt35 (by omega) (by omega)) (fun r40 er40 br40 => ?_)
      refine Tr.lstore (pc := 41) (i := 6) (ls2 := [(6, (1, r40)), (5, (0, r3)), (0, (2, 0)), (1, (0, a1)), (2, (0, a2)), (3, (0, a3)), (4, (0, a4))]) d_X11_byTurns_41 (by decide) rfl ?_
      refine Tr.lload (pc := 43) (i := 6) d_X11_byTurns_43 rfl ?_
      refine Tr.iload_n (pc := 45) (i := 3) d_X11_byTurns_45 rfl rfl ?_
      refine Tr.lshr (pc := 46) d_X11_byTurns_46 ?_
      refine Tr.gen (P := fun v => (-9223372036854775808) ≤ v ∧ v ≤ 9223372036854775807) (i64_b _) (fun r46 er46 br46 => ?_)
      refine Tr.lconst (pc := 47) (v := 1) d_X11_byTurns_47 rfl (by decide) ?_
      refine Tr.land (pc := 48) d_X11_byTurns_48 ?_
      refine Tr.gen (P := fun v => v = r46 % 2 ∧ (0 ≤ v ∧ v ≤ 1)) ⟨(f_land_1 _).1, (f_land_1 _).2⟩ (fun r48 er48 br48 => ?_)
      refine Tr.lconst (pc := 49) (v := 0) d_X11_byTurns_49 rfl (by decide) ?_
      refine Tr.lcmp (pc := 50) d_X11_byTurns_50 ?_
      refine Tr.gen (P := fun v => (v = 1 ∧ 0 < r48) ∨ (v = 0 ∧ r48 = 0) ∨ (v = -1 ∧ r48 < 0)) (f_lcmp_c _ _) (fun r50 er50 br50 => ?_)
      refine Tr.if_eq (pc := 51) (tgt := 64) d_X11_byTurns_51 rfl (fun c51 => ?_) (fun c51 => ?_)
      · refine Tr.ldc2 (pc := 64) d_X11_byTurns_64 kl_11_230 (by decide) ?_
        exact Tr.lret (pc := 67) d_X11_byTurns_67 rfl ⟨hS, _, rfl, by omega, by omega, (TW.st (TW.st hq0 h3 (by decide)) h15 (by decide))⟩
      · refine Tr.lload (pc := 54) (i := 6) d_X11_byTurns_54 rfl ?_
        refine Tr.callS (pc := 56) (as := [_]) d_X11_byTurns_56 s_11_232 ok_J13_bitCount_95d88 rfl rfl (Nat.le_of_ble_eq_true rfl) (Nat.le_of_ble_eq_true rfl) ?_
        refine Tr.imp (Tr.deep (by decide) (sp_J13_bitCount_95d88 hS.1 r40 (by omega))) ?_
        rintro M56 _ ⟨h56, r56, rfl, lr56, ur56, wr56⟩
        have hS := St.tr hS h56 (by decide) (by decide)
        refine Tr.sc [(0, r56)] rfl ?_
        refine Tr.bipush (pc := 59) d_X11_byTurns_59 rfl (by decide) ?_
        refine Tr.icmp_le (pc := 61) (tgt := 68) d_X11_byTurns_61 rfl (fun c61 => ?_) (fun c61 => ?_)
        · refine Tr.aload_n (pc := 68) (i := 0) d_X11_byTurns_68 rfl rfl ?_
          refine Tr.getf (pc := 69) d_X11_byTurns_69 f_11_56 (by decide) (by decide) (ty_0 hS.1.1) ?_
          refine Tr.tp 100 (fx_0_10 hS.1.1) ?_
          refine Tr.aload_n (pc := 72) (i := 0) d_X11_byTurns_72 rfl rfl ?_
          refine Tr.getf (pc := 73) d_X11_byTurns_73 f_11_30 (by decide) (by decide) (ty_0 hS.1.1) ?_
          refine Tr.tp 27 ((St.kp hS (by decide) (by decide) (by decide)).trans en_0_4) ?_
          refine Tr.aload_n (pc := 76) (i := 0) d_X11_byTurns_76 rfl rfl ?_
          refine Tr.getf (pc := 77) d_X11_byTurns_77 f_11_46 (by decide) (by decide) (ty_0 hS.1.1) ?_
          refine Tr.tp 48 (fx_0_7 hS.1.1) ?_
          refine Tr.getf (pc := 80) d_X11_byTurns_80 f_11_178 (by decide) (by decide) (ty_48 hS.1.1) ?_
          refine Tr.tp 56 (fx_48_0 hS.1.1) ?_
          refine Tr.getf (pc := 83) d_X11_byTurns_83 f_11_201 (by decide) (by decide) (ty_56 hS.1.1) ?_
          refine Tr.tp 63 (fx_56_8 hS.1.1) ?_
          refine Tr.iload (pc := 86) (i := 5) d_X11_byTurns_86 rfl ?_
          refine Tr.callV (pc := 88) (as := [_, _, _]) d_X11_byTurns_88 s_11_238 ok_X9_weigh rfl rfl (Nat.le_of_ble_eq_true rfl) (Nat.le_of_ble_eq_true rfl) (by decide) (ty_100 hS.1.1) ?_
          have kb88_63_0 : rd M56 63 0 = g63_0 := ((St.kp h56 (by decide) (by decide) (by decide)).trans ((St.kp h15 (by decide) (by decide) (by decide)).trans ((St.kp h3 (by decide) (by decide) (by decide)).trans eg63_0)))
          refine Tr.imp (Tr.deep (by decide) (sp_X9_weigh_100_27_63 hS.1 r3 (by omega) (by omega) (TW.st (TW.st (TW.st hq0 h3 (by decide)) h15 (by decide)) h56 (by decide)))) ?_
          rintro M88 _ ⟨h88, rfl, z88_0⟩
          have hS := St.tr hS h88 (by decide) (by decide)
          refine Tr.sc [] rfl ?_
          have hus : rd M88 100 2 = r40 := z88_0.1.1.trans ((St.ud h88 (by decide) _).trans ((St.ud h56 (by decide) _).trans (by rw [et35]; exact er40)))
          refine Tr.aload_n (pc := 91) (i := 0) d_X11_byTurns_91 rfl rfl ?_
          refine Tr.getf (pc := 92) d_X11_byTurns_92 f_11_56 (by decide) (by decide) (ty_0 hS.1.1) ?_
          refine Tr.tp 100 (fx_0_10 hS.1.1) ?_
          refine Tr.iload_n (pc := 95) (i := 3) d_X11_byTurns_95 rfl rfl ?_
          refine Tr.iload (pc := 96) (i := 4) d_X11_byTurns_96 rfl ?_
          refine Tr.callV (pc := 98) (as := [_, _]) d_X11_byTurns_98 s_11_242 ok_X9_share rfl rfl (Nat.le_of_ble_eq_true rfl) (Nat.le_of_ble_eq_true rfl) (by decide) (ty_100 hS.1.1) ?_
          refine Tr.imp (Tr.deep (by decide) (sp_X9_share_100 hS.1 hE a3 (by omega) a4 (by omega) (by rw [hus]; exact bt_of er46 (by omega) (by omega) (by rw [er48]; omega)))) ?_
          rintro M98 _ ⟨h98, r98, rfl, lr98, ur98⟩
          have hS := St.tr hS h98 (by decide) (by decide)
          refine Tr.sc [(1, r98)] rfl ?_
          exact Tr.lret (pc := 101) d_X11_byTurns_101 rfl ⟨hS, _, rfl, by omega, by omega, (TW.st (Or.inr (by rw [z88_0.2]; exact z88_0.1.1)) h98 (by decide))⟩
        · refine Tr.ldc2 (pc := 64) d_X11_byTurns_64 kl_11_230 (by decide) ?_
          exact Tr.lret (pc := 67) d_X11_byTurns_67 rfl ⟨hS, _, rfl, by omega, by omega, (TW.st (TW.st (TW.st hq0 h3 (by decide)) h15 (by decide)) h56 (by decide))⟩
    · refine Tr.ldc2 (pc := 21) d_X11_byTurns_21 kl_11_230 (by decide) ?_
      exact Tr.lret (pc := 24) d_X11_byTurns_24 rfl ⟨hS, _, rfl, by omega, by omega, (TW.st (TW.st hq0 h3 (by decide)) h15 (by decide))⟩

def ws_X11_wasted_0_w2 : List (Int × Int) := []
def as_X11_wasted_0_w2 : List Int := []
def q_X11_wasted_0_w2 (M0 M' : Mem) (r : Option PV) : Prop := St Tru ws_X11_wasted_0_w2 as_X11_wasted_0_w2 M0 M' ∧ ∃ v : Int, r = some (0, v) ∧ (-2147483648) ≤ v ∧ v ≤ 2147483647
set_option maxRecDepth 100000 in
set_option maxHeartbeats 4000000 in
theorem sp_X11_wasted_0_w2 {l : Launch} {K : EC} {M0 : Mem} (hI : In Tru M0) (en_0_4 : rd M0 0 4 = 27) (en_0_9 : rd M0 0 9 = 1) (a1 : Int) (ha1 : (-2147483648) ≤ a1 ∧ a1 ≤ 2147483647)  : Tr l K 1 mX11_wasted 0 [(0, (2, 0)), (1, (0, a1))] [] M0 (q_X11_wasted_0_w2 M0) := by
  have hS : St Tru ws_X11_wasted_0_w2 as_X11_wasted_0_w2 M0 M0 := St.rf hI
  refine Tr.aload_n (pc := 0) (i := 0) d_X11_wasted_0 rfl rfl ?_
  refine Tr.getz (pc := 1) d_X11_wasted_1 f_11_109 (by decide) (ty_0 hS.1.1) ?_
  refine Tr.tp 1 ((St.kp hS (by decide) (by decide) (by decide)).trans en_0_9) ?_
  refine Tr.if_eq (pc := 4) (tgt := 15) d_X11_wasted_4 rfl (fun hc => absurd hc (by omega)) (fun _ => ?_)
  refine Tr.aload_n (pc := 7) (i := 0) d_X11_wasted_7 rfl rfl ?_
  refine Tr.iload_n (pc := 8) (i := 1) d_X11_wasted_8 rfl rfl ?_
  refine Tr.callV (pc := 9) (as := [_]) d_X11_wasted_9 s_11_191 ok_X11_isLine rfl rfl (Nat.le_of_ble_eq_true rfl) (Nat.le_of_ble_eq_true rfl) (by decide) (ty_0 hS.1.1) ?_
  refine Tr.imp (Tr.deep (by decide) (sp_X11_isLine_0_w1 hS.1 ((St.kp hS (by decide) (by decide) (by decide)).trans en_0_4) a1 (by omega))) ?_
  rintro M9 _ ⟨h9, r9, rfl, lr9, ur9, wr9⟩
  have hS := St.tr hS h9 (by decide) (by decide)
  refine Tr.sc [(0, r9)] rfl ?_
  refine Tr.if_ne (pc := 12) (tgt := 17) d_X11_wasted_12 rfl (fun c12 => ?_) (fun c12 => ?_)
  · refine Tr.aload_n (pc := 17) (i := 0) d_X11_wasted_17 rfl rfl ?_
    refine Tr.getf (pc := 18) d_X11_wasted_18 f_11_46 (by decide) (by decide) (ty_0 hS.1.1) ?_
    refine Tr.tp 48 (fx_0_7 hS.1.1) ?_
    refine Tr.getf (pc := 21) d_X11_wasted_21 f_11_178 (by decide) (by decide) (ty_48 hS.1.1) ?_
    refine Tr.tp 56 (fx_48_0 hS.1.1) ?_
    refine Tr.getf (pc := 24) d_X11_wasted_24 f_11_246 (by decide) (by decide) (ty_56 hS.1.1) ?_
    refine Tr.tp 62 (fx_56_7 hS.1.1) ?_
    refine Tr.iload_n (pc := 27) (i := 1) d_X11_wasted_27 rfl rfl ?_
    refine Tr.iald (pc := 28) d_X11_wasted_28 (ty_62 hS.1.1) (by omega) (by omega) ?_
    refine Tr.gen (P := fun v => (-2147483648) ≤ v ∧ v ≤ 2147483647) (ar_62 hS.1.2.1 _) (fun r28 er28 br28 => ?_)
    exact Tr.iret (pc := 29) d_X11_wasted_29 rfl ⟨hS, _, rfl, by omega, by omega⟩
  · refine Tr.iconst (pc := 15) d_X11_wasted_15 (by decide) ?_
    exact Tr.iret (pc := 16) d_X11_wasted_16 rfl ⟨hS, _, rfl, by omega, by omega⟩

def ws_X11_where_0_w1 : List (Int × Int) := []
def as_X11_where_0_w1 : List Int := []
def q_X11_where_0_w1 (M0 M' : Mem) (r : Option PV) : Prop := St Tru ws_X11_where_0_w1 as_X11_where_0_w1 M0 M' ∧ ∃ v : Int, r = some (0, v) ∧ (-2147483648) ≤ v ∧ v ≤ 2147483647
set_option maxRecDepth 100000 in
set_option maxHeartbeats 4000000 in
theorem sp_X11_where_0_w1 {l : Launch} {K : EC} {M0 : Mem} (hI : In Tru M0) (en_0_4 : rd M0 0 4 = 27) (a1 : Int) (ha1 : (-2147483648) ≤ a1 ∧ a1 ≤ 2147483647)  : Tr l K 1 mX11_where 0 [(0, (2, 0)), (1, (0, a1))] [] M0 (q_X11_where_0_w1 M0) := by
  have hS : St Tru ws_X11_where_0_w1 as_X11_where_0_w1 M0 M0 := St.rf hI
  refine Tr.iload_n (pc := 0) (i := 1) d_X11_where_0 rfl rfl ?_
  refine Tr.if_lt (pc := 1) (tgt := 17) d_X11_where_1 rfl (fun c1 => ?_) (fun c1 => ?_)
  · refine Tr.iconst (pc := 17) d_X11_where_17 (by decide) ?_
    exact Tr.iret (pc := 18) d_X11_where_18 rfl ⟨hS, _, rfl, by omega, by omega⟩
  · refine Tr.iload_n (pc := 4) (i := 1) d_X11_where_4 rfl rfl ?_
    refine Tr.aload_n (pc := 5) (i := 0) d_X11_where_5 rfl rfl ?_
    refine Tr.getf (pc := 6) d_X11_where_6 f_11_30 (by decide) (by decide) (ty_0 hS.1.1) ?_
    refine Tr.tp 27 ((St.kp hS (by decide) (by decide) (by decide)).trans en_0_4) ?_
    refine Tr.getf (pc := 9) d_X11_where_9 f_11_130 (by decide) (by decide) (ty_27 hS.1.1) ?_
    refine Tr.tp 28 (fx_27_4 hS.1.1) ?_
    refine Tr.iconst (pc := 12) d_X11_where_12 (by decide) ?_
    refine Tr.iald (pc := 13) d_X11_where_13 (ty_28 hS.1.1) (by omega) (by omega) ?_
    refine Tr.gen (P := fun v => 0 ≤ v ∧ v ≤ 3) (ir_28_1 hS.1.2.1) (fun r13 er13 br13 => ?_)
    refine Tr.icmp_lt (pc := 14) (tgt := 19) d_X11_where_14 rfl (fun c14 => ?_) (fun c14 => ?_)
    · refine Tr.aload_n (pc := 19) (i := 0) d_X11_where_19 rfl rfl ?_
      refine Tr.getf (pc := 20) d_X11_where_20 f_11_63 (by decide) (by decide) (ty_0 hS.1.1) ?_
      refine Tr.tp 103 (fx_0_11 hS.1.1) ?_
      refine Tr.iload_n (pc := 23) (i := 1) d_X11_where_23 rfl rfl ?_
      refine Tr.callV (pc := 24) (as := [_]) d_X11_where_24 s_11_268 ok_X10_chosenInput rfl rfl (Nat.le_of_ble_eq_true rfl) (Nat.le_of_ble_eq_true rfl) (by decide) (ty_103 hS.1.1) ?_
      refine Tr.imp (Tr.deep (by decide) (sp_X10_chosenInput_103 hS.1 a1 (by omega))) ?_
      rintro M24 _ ⟨h24, r24, rfl, lr24, ur24⟩
      have hS := St.tr hS h24 (by decide) (by decide)
      refine Tr.sc [(0, r24)] rfl ?_
      exact Tr.iret (pc := 27) d_X11_where_27 rfl ⟨hS, _, rfl, by omega, by omega⟩
    · refine Tr.iconst (pc := 17) d_X11_where_17 (by decide) ?_
      exact Tr.iret (pc := 18) d_X11_where_18 rfl ⟨hS, _, rfl, by omega, by omega⟩

def ws_X2_ownSips_107_27 : List (Int × Int) := []
def as_X2_ownSips_107_27 : List Int := []
def q_X2_ownSips_107_27 (M0 M' : Mem) (r : Option PV) : Prop := St Tru ws_X2_ownSips_107_27 as_X2_ownSips_107_27 M0 M' ∧ ∃ v : Int, r = some (0, v) ∧ (-2147483648) ≤ v ∧ v ≤ 2147483647
set_option maxRecDepth 100000 in
set_option maxHeartbeats 4000000 in
theorem sp_X2_ownSips_107_27 {l : Launch} {K : EC} {M0 : Mem} (hI : In Tru M0)  (a2 : Int) (ha2 : 0 ≤ a2 ∧ a2 ≤ 5) (a3 : Int) (ha3 : 0 ≤ a3 ∧ a3 ≤ 11)  : Tr l K 0 mX2_ownSips 0 [(0, (2, 107)), (1, (2, 27)), (2, (0, a2)), (3, (0, a3))] [] M0 (q_X2_ownSips_107_27 M0) := by
  have hS : St Tru ws_X2_ownSips_107_27 as_X2_ownSips_107_27 M0 M0 := St.rf hI
  refine Tr.iconst (pc := 0) d_X2_ownSips_0 (by decide) ?_
  refine Tr.istore (pc := 1) (i := 4) (ls2 := [(4, (0, 0)), (0, (2, 107)), (1, (2, 27)), (2, (0, a2)), (3, (0, a3))]) d_X2_ownSips_1 (by decide) rfl ?_
  refine Tr.iconst (pc := 3) d_X2_ownSips_3 (by decide) ?_
  refine Tr.istore (pc := 4) (i := 5) (ls2 := [(5, (0, 0)), (4, (0, 0)), (0, (2, 107)), (1, (2, 27)), (2, (0, a2)), (3, (0, a3))]) d_X2_ownSips_4 (by decide) rfl ?_
  have J6 : ∀ (n6 : Nat) (M : Mem) (p6_4 p6_5 : Int), St Tru ws_X2_ownSips_107_27 as_X2_ownSips_107_27 M0 M → ((-2147483648) ≤ p6_4 ∧ p6_4 ≤ 2147483647) → (0 ≤ p6_5 ∧ p6_5 ≤ 4) → (4 - p6_5).toNat < n6 → Tr l K 0 mX2_ownSips 6 [(0, (2, 107)), (1, (2, 27)), (2, (0, a2)), (3, (0, a3)), (4, (0, p6_4)), (5, (0, p6_5))] [] M (q_X2_ownSips_107_27 M0) := by
    intro n6
    induction n6 with
    | zero => intro M p6_4 p6_5 hS bp6_4 bp6_5  hm6; exact absurd hm6 (Nat.not_lt_zero _)
    | succ n6 J6 =>
      intro M p6_4 p6_5 hS bp6_4 bp6_5  hm6
      refine Tr.iload (pc := 6) (i := 5) d_X2_ownSips_6 rfl ?_
      refine Tr.iconst (pc := 8) d_X2_ownSips_8 (by decide) ?_
      refine Tr.icmp_ge (pc := 9) (tgt := 57) d_X2_ownSips_9 rfl (fun c9 => ?_) (fun c9 => ?_)
      · refine Tr.iload (pc := 57) (i := 4) d_X2_ownSips_57 rfl ?_
        exact Tr.iret (pc := 59) d_X2_ownSips_59 rfl ⟨hS, _, rfl, by omega, by omega⟩
      · refine Tr.iload (pc := 12) (i := 5) d_X2_ownSips_12 rfl ?_
        refine Tr.iconst (pc := 14) d_X2_ownSips_14 (by decide) ?_
        have J51 : ∀ (M : Mem) (p51_4 : Int), St Tru ws_X2_ownSips_107_27 as_X2_ownSips_107_27 M0 M → ((-2147483648) ≤ p51_4 ∧ p51_4 ≤ 2147483647) → Tr l K 0 mX2_ownSips 51 [(0, (2, 107)), (1, (2, 27)), (2, (0, a2)), (3, (0, a3)), (4, (0, p51_4)), (5, (0, p6_5))] [] M (q_X2_ownSips_107_27 M0) := by
          intro M p51_4 hS bp51_4 
          refine Tr.iincV (pc := 51) (n2 := (p6_5 + 1)) (ls2 := [(5, (0, (p6_5 + 1))), (0, (2, 107)), (1, (2, 27)), (2, (0, a2)), (3, (0, a3)), (4, (0, p51_4))]) d_X2_ownSips_51 rfl (by decide) ((w32_id (by omega)).trans (by omega)) rfl ?_
          refine Tr.goto (pc := 54) (tgt := 6) d_X2_ownSips_54 rfl ?_
          refine Tr.pick [1, 2, 3, 4, 5, 0] (ls2 := [(0, (2, 107)), (1, (2, 27)), (2, (0, a2)), (3, (0, a3)), (4, (0, p51_4)), (5, (0, (p6_5 + 1)))]) rfl ?_
          exact J6 _ _ _ hS (by omega) (by omega) (by omega)
        refine Tr.icmp_eq (pc := 15) (tgt := 51) d_X2_ownSips_15 rfl (fun c15 => ?_) (fun c15 => ?_)
        · refine Tr.pick [0, 1, 2, 3, 4, 5] (ls2 := [(0, (2, 107)), (1, (2, 27)), (2, (0, a2)), (3, (0, a3)), (4, (0, p6_4)), (5, (0, p6_5))]) rfl ?_
          exact J51 _ _ hS (by omega)
        · refine Tr.iload (pc := 18) (i := 4) d_X2_ownSips_18 rfl ?_
          refine Tr.aload_n (pc := 20) (i := 1) d_X2_ownSips_20 rfl rfl ?_
          refine Tr.getf (pc := 21) d_X2_ownSips_21 f_2_62 (by decide) (by decide) (ty_27 hS.1.1) ?_
          refine Tr.tp 29 (fx_27_5 hS.1.1) ?_
          refine Tr.iload_n (pc := 24) (i := 2) d_X2_ownSips_24 rfl rfl ?_
          refine Tr.iconst (pc := 25) d_X2_ownSips_25 (by decide) ?_
          refine Tr.imul (pc := 26) d_X2_ownSips_26 ?_
          refine Tr.tp (4 * a2) ((w32_id (by omega)).trans (by omega)) ?_
          refine Tr.iload (pc := 27) (i := 5) d_X2_ownSips_27 rfl ?_
          refine Tr.iadd (pc := 29) d_X2_ownSips_29 ?_
          refine Tr.tp (4 * a2 + p6_5) ((w32_id (by omega)).trans (by omega)) ?_
          refine Tr.iald (pc := 30) d_X2_ownSips_30 (ty_29 hS.1.1) (by omega) (by omega) ?_
          refine Tr.gen (P := fun v => (-1) ≤ v ∧ v ≤ 999) (ar_29 hS.1.2.1 _) (fun r30 er30 br30 => ?_)
          refine Tr.aload_n (pc := 31) (i := 0) d_X2_ownSips_31 rfl rfl ?_
          refine Tr.getf (pc := 32) d_X2_ownSips_32 f_2_21 (by decide) (by decide) (ty_107 hS.1.1) ?_
          refine Tr.tp 111 (fx_107_5 hS.1.1) ?_
          refine Tr.iload_n (pc := 35) (i := 3) d_X2_ownSips_35 rfl rfl ?_
          refine Tr.bipush (pc := 36) d_X2_ownSips_36 rfl (by decide) ?_
          refine Tr.imul (pc := 38) d_X2_ownSips_38 ?_
          refine Tr.tp (24 * a3) ((w32_id (by omega)).trans (by omega)) ?_
          refine Tr.iload_n (pc := 39) (i := 2) d_X2_ownSips_39 rfl rfl ?_
          refine Tr.iconst (pc := 40) d_X2_ownSips_40 (by decide) ?_
          refine Tr.imul (pc := 41) d_X2_ownSips_41 ?_
          refine Tr.tp (4 * a2) ((w32_id (by omega)).trans (by omega)) ?_
          refine Tr.iadd (pc := 42) d_X2_ownSips_42 ?_
          refine Tr.tp (4 * a2 + 24 * a3) ((w32_id (by omega)).trans (by omega)) ?_
          refine Tr.iload (pc := 43) (i := 5) d_X2_ownSips_43 rfl ?_
          refine Tr.iadd (pc := 45) d_X2_ownSips_45 ?_
          refine Tr.tp (4 * a2 + 24 * a3 + p6_5) ((w32_id (by omega)).trans (by omega)) ?_
          refine Tr.iald (pc := 46) d_X2_ownSips_46 (ty_111 hS.1.1) (by omega) (by omega) ?_
          refine Tr.gen (P := fun v => (-2147483648) ≤ v ∧ v ≤ 2147483647) (ar_111 hS.1.2.1 _) (fun r46 er46 br46 => ?_)
          refine Tr.imul (pc := 47) d_X2_ownSips_47 ?_
          refine Tr.gen (P := fun v => (-2147483648) ≤ v ∧ v ≤ 2147483647) (w32_b _) (fun r47 er47 br47 => ?_)
          refine Tr.iadd (pc := 48) d_X2_ownSips_48 ?_
          refine Tr.gen (P := fun v => (-2147483648) ≤ v ∧ v ≤ 2147483647) (w32_b _) (fun r48 er48 br48 => ?_)
          refine Tr.istore (pc := 49) (i := 4) (ls2 := [(4, (0, r48)), (0, (2, 107)), (1, (2, 27)), (2, (0, a2)), (3, (0, a3)), (5, (0, p6_5))]) d_X2_ownSips_49 (by decide) rfl ?_
          refine Tr.pick [1, 2, 3, 4, 0, 5] (ls2 := [(0, (2, 107)), (1, (2, 27)), (2, (0, a2)), (3, (0, a3)), (4, (0, r48)), (5, (0, p6_5))]) rfl ?_
          exact J51 _ _ hS (by omega)
  refine Tr.pick [2, 3, 4, 5, 1, 0] (ls2 := [(0, (2, 107)), (1, (2, 27)), (2, (0, a2)), (3, (0, a3)), (4, (0, 0)), (5, (0, 0))]) rfl ?_
  exact J6 _ _ _ _ hS (by omega) (by omega) (Nat.lt_succ_self _)

def ws_X2_search_107_27 : List (Int × Int) := [(107, 1)]
def as_X2_search_107_27 : List Int := [108, 112]
def q_X2_search_107_27 (M0 M' : Mem) (r : Option PV) : Prop := St Tru ws_X2_search_107_27 as_X2_search_107_27 M0 M' ∧ ∃ v : Int, r = some (0, v) ∧ (-2147483648) ≤ v ∧ v ≤ 2147483647
set_option maxRecDepth 100000 in
set_option maxHeartbeats 4000000 in
theorem sp_X2_search_107_27 {l : Launch} {K : EC} {M0 : Mem} (hI : In Tru M0)  (a2 : Int) (ha2 : 0 ≤ a2 ∧ a2 ≤ 5)  : Tr l K 2 mX2_search 0 [(0, (2, 107)), (1, (2, 27)), (2, (0, a2))] [] M0 (q_X2_search_107_27 M0) := by
  have hS : St Tru ws_X2_search_107_27 as_X2_search_107_27 M0 M0 := St.rf hI
  refine Tr.iconst (pc := 0) d_X2_search_0 (by decide) ?_
  refine Tr.istore_n (pc := 1) (i := 3) (ls2 := [(3, (0, 0)), (0, (2, 107)), (1, (2, 27)), (2, (0, a2))]) d_X2_search_1 rfl (by decide) rfl ?_
  have J2 : ∀ (n2 : Nat) (M : Mem) (p2_3 : Int), St Tru ws_X2_search_107_27 as_X2_search_107_27 M0 M → (0 ≤ p2_3 ∧ p2_3 ≤ 12) → (12 - p2_3).toNat < n2 → Tr l K 2 mX2_search 2 [(0, (2, 107)), (1, (2, 27)), (2, (0, a2)), (3, (0, p2_3))] [] M (q_X2_search_107_27 M0) := by
    intro n2
    induction n2 with
    | zero => intro M p2_3 hS bp2_3  hm2; exact absurd hm2 (Nat.not_lt_zero _)
    | succ n2 J2 =>
      intro M p2_3 hS bp2_3  hm2
      refine Tr.iload_n (pc := 2) (i := 3) d_X2_search_2 rfl rfl ?_
      refine Tr.aload_n (pc := 3) (i := 0) d_X2_search_3 rfl rfl ?_
      refine Tr.getf (pc := 4) d_X2_search_4 f_2_27 (by decide) (by decide) (ty_107 hS.1.1) ?_
      refine Tr.gen (P := fun v => 0 ≤ v ∧ v ≤ 12) (ir_107_0 hS.1.2.1) (fun r4 er4 br4 => ?_)
      refine Tr.icmp_ge (pc := 7) (tgt := 43) d_X2_search_7 rfl (fun c7 => ?_) (fun c7 => ?_)
      · refine Tr.iconst (pc := 43) d_X2_search_43 (by decide) ?_
        refine Tr.istore_n (pc := 44) (i := 3) (ls2 := [(3, (0, 0)), (0, (2, 107)), (1, (2, 27)), (2, (0, a2))]) d_X2_search_44 rfl (by decide) rfl ?_
        refine Tr.iconst (pc := 45) d_X2_search_45 (by decide) ?_
        refine Tr.istore (pc := 46) (i := 4) (ls2 := [(4, (0, 0)), (3, (0, 0)), (0, (2, 107)), (1, (2, 27)), (2, (0, a2))]) d_X2_search_46 (by decide) rfl ?_
        have J48 : ∀ (n48 : Nat) (M : Mem) (p48_3 p48_4 : Int), St Tru ws_X2_search_107_27 as_X2_search_107_27 M0 M → ((-2147483648) ≤ p48_3 ∧ p48_3 ≤ 2147483647) → (0 ≤ p48_4 ∧ p48_4 ≤ 4097) → rd M 107 0 = r4 → (4097 - p48_4).toNat < n48 → Tr l K 2 mX2_search 48 [(0, (2, 107)), (2, (0, a2)), (3, (0, p48_3)), (4, (0, p48_4))] [] M (q_X2_search_107_27 M0) := by
          intro n48
          induction n48 with
          | zero => intro M p48_3 p48_4 hS bp48_3 bp48_4 k48_107_0 hm48; exact absurd hm48 (Nat.not_lt_zero _)
          | succ n48 J48 =>
            intro M p48_3 p48_4 hS bp48_3 bp48_4 k48_107_0 hm48
            refine Tr.iload (pc := 48) (i := 4) d_X2_search_48 rfl ?_
            refine Tr.sipush (pc := 50) d_X2_search_50 rfl (by decide) ?_
            refine Tr.icmp_ge (pc := 53) (tgt := 162) d_X2_search_53 rfl (fun c53 => ?_) (fun c53 => ?_)
            · refine Tr.aload_n (pc := 162) (i := 0) d_X2_search_162 rfl rfl ?_
              refine Tr.iconst (pc := 163) d_X2_search_163 (by decide) ?_
              refine Tr.putzS (pc := 164) (P := St Tru ws_X2_search_107_27 as_X2_search_107_27 M0) d_X2_search_164 f_2_31 (by decide) (ty_107 hS.1.1) (by omega) (st_107_1 hS (by decide) (by omega) trivial) (fun M164 hS w164 => ?_)
              refine Tr.iload_n (pc := 167) (i := 3) d_X2_search_167 rfl rfl ?_
              exact Tr.iret (pc := 168) d_X2_search_168 rfl ⟨hS, _, rfl, by omega, by omega⟩
            · refine Tr.aload_n (pc := 56) (i := 0) d_X2_search_56 rfl rfl ?_
              refine Tr.iload_n (pc := 57) (i := 2) d_X2_search_57 rfl rfl ?_
              refine Tr.iload (pc := 58) (i := 4) d_X2_search_58 rfl ?_
              refine Tr.sipush (pc := 60) d_X2_search_60 rfl (by decide) ?_
              refine Tr.idiv (pc := 63) d_X2_search_63 (by omega) ?_
              refine Tr.gen (P := fun v => v = p48_4 / 256 ∧ (0 ≤ v ∧ v ≤ 15)) (div32_l (c := 256) (by omega) (by decide) (by omega) (by omega)) (fun r63 er63 br63 => ?_)
              refine Tr.iload (pc := 64) (i := 4) d_X2_search_64 rfl ?_
              refine Tr.bipush (pc := 66) d_X2_search_66 rfl (by decide) ?_
              refine Tr.idiv (pc := 68) d_X2_search_68 (by omega) ?_
              refine Tr.gen (P := fun v => v = p48_4 / 16 ∧ (0 ≤ v ∧ v ≤ 255)) (div32_l (c := 16) (by omega) (by decide) (by omega) (by omega)) (fun r68 er68 br68 => ?_)
              refine Tr.bipush (pc := 69) d_X2_search_69 rfl (by decide) ?_
              refine Tr.irem (pc := 71) d_X2_search_71 (by omega) ?_
              refine Tr.gen (P := fun v => v = r68 % 16 ∧ (0 ≤ v ∧ v ≤ 15)) (rem_l (c := 16) (by omega) (by decide) (by omega)) (fun r71 er71 br71 => ?_)
              refine Tr.iload (pc := 72) (i := 4) d_X2_search_72 rfl ?_
              refine Tr.bipush (pc := 74) d_X2_search_74 rfl (by decide) ?_
              refine Tr.irem (pc := 76) d_X2_search_76 (by omega) ?_
              refine Tr.gen (P := fun v => v = p48_4 % 16 ∧ (0 ≤ v ∧ v ≤ 15)) (rem_l (c := 16) (by omega) (by decide) (by omega)) (fun r76 er76 br76 => ?_)
              refine Tr.callV (pc := 77) (as := [_, _, _, _]) d_X2_search_77 s_2_58 ok_X2_differences rfl rfl (Nat.le_of_ble_eq_true rfl) (Nat.le_of_ble_eq_true rfl) (by decide) (ty_107 hS.1.1) ?_
              refine Tr.imp (Tr.deep (by decide) (sp_X2_differences_107_w20 hS.1 a2 (by omega) r63 (by omega) r71 (by omega) r76 (by omega))) ?_
              rintro M77 _ ⟨h77, r77, rfl, lr77, ur77⟩
              have hS := St.tr hS h77 (by decide) (by decide)
              refine Tr.sc [(0, r77)] rfl ?_
              refine Tr.istore (pc := 80) (i := 5) (ls2 := [(5, (0, r77)), (0, (2, 107)), (2, (0, a2)), (3, (0, p48_3)), (4, (0, p48_4))]) d_X2_search_80 (by decide) rfl ?_
              refine Tr.iload (pc := 82) (i := 4) d_X2_search_82 rfl ?_
              have J140 : ∀ (M : Mem) (p140_3 : Int), St Tru ws_X2_search_107_27 as_X2_search_107_27 M0 M → ((-2147483648) ≤ p140_3 ∧ p140_3 ≤ 2147483647) → rd M 107 0 = r4 → Tr l K 2 mX2_search 140 [(0, (2, 107)), (2, (0, a2)), (3, (0, p140_3)), (4, (0, p48_4)), (5, (0, r77))] [] M (q_X2_search_107_27 M0) := by
                intro M p140_3 hS bp140_3 k140_107_0
                refine Tr.iload (pc := 140) (i := 5) d_X2_search_140 rfl ?_
                refine Tr.iload_n (pc := 142) (i := 3) d_X2_search_142 rfl rfl ?_
                have J156 : ∀ (M : Mem), St Tru ws_X2_search_107_27 as_X2_search_107_27 M0 M → rd M 107 0 = r4 → Tr l K 2 mX2_search 156 [(0, (2, 107)), (2, (0, a2)), (3, (0, p140_3)), (4, (0, p48_4))] [] M (q_X2_search_107_27 M0) := by
                  intro M  hS  k156_107_0
                  refine Tr.iincV (pc := 156) (n2 := (p48_4 + 1)) (ls2 := [(4, (0, (p48_4 + 1))), (0, (2, 107)), (2, (0, a2)), (3, (0, p140_3))]) d_X2_search_156 rfl (by decide) ((w32_id (by omega)).trans (by omega)) rfl ?_
                  refine Tr.goto (pc := 159) (tgt := 48) d_X2_search_159 rfl ?_
                  refine Tr.pick [1, 2, 3, 0] (ls2 := [(0, (2, 107)), (2, (0, a2)), (3, (0, p140_3)), (4, (0, (p48_4 + 1)))]) rfl ?_
                  exact J48 _ _ _ hS (by omega) (by omega) k156_107_0 (by omega)
                refine Tr.icmp_ne (pc := 143) (tgt := 156) d_X2_search_143 rfl (fun c143 => ?_) (fun c143 => ?_)
                · refine Tr.pick [0, 1, 2, 3] (ls2 := [(0, (2, 107)), (2, (0, a2)), (3, (0, p140_3)), (4, (0, p48_4))]) rfl ?_
                  exact J156 _ hS k140_107_0
                · refine Tr.aload_n (pc := 146) (i := 0) d_X2_search_146 rfl rfl ?_
                  refine Tr.getf (pc := 147) d_X2_search_147 f_2_9 (by decide) (by decide) (ty_107 hS.1.1) ?_
                  refine Tr.tp 108 (fx_107_2 hS.1.1) ?_
                  refine Tr.iconst (pc := 150) d_X2_search_150 (by decide) ?_
                  refine Tr.dup2 (pc := 151) d_X2_search_151 ne01 ne21 ?_
                  refine Tr.iald (pc := 152) d_X2_search_152 (ty_108 hS.1.1) (by omega) (by omega) ?_
                  refine Tr.gen (P := fun v => (-2147483648) ≤ v ∧ v ≤ 2147483647) (ar_108 hS.1.2.1 _) (fun r152 er152 br152 => ?_)
                  refine Tr.iconst (pc := 153) d_X2_search_153 (by decide) ?_
                  refine Tr.iadd (pc := 154) d_X2_search_154 ?_
                  refine Tr.gen (P := fun v => (-2147483648) ≤ v ∧ v ≤ 2147483647) (w32_b _) (fun r154 er154 br154 => ?_)
                  refine Tr.iastS (pc := 155) (P := St Tru ws_X2_search_107_27 as_X2_search_107_27 M0) d_X2_search_155 (ty_108 hS.1.1) (by omega) (by omega) (sa_108 hS (by decide) (by omega) trivial) (fun M155 hS w155 => ?_)
                  refine Tr.pick [0, 1, 2, 3] (ls2 := [(0, (2, 107)), (2, (0, a2)), (3, (0, p140_3)), (4, (0, p48_4))]) rfl ?_
                  exact J156 _ hS ((Wr.b w155 rfl).trans k140_107_0)
              have J93 : ∀ (M : Mem), St Tru ws_X2_search_107_27 as_X2_search_107_27 M0 M → rd M 107 0 = r4 → Tr l K 2 mX2_search 93 [(0, (2, 107)), (2, (0, a2)), (4, (0, p48_4)), (5, (0, r77))] [] M (q_X2_search_107_27 M0) := by
                intro M  hS  k93_107_0
                refine Tr.iload (pc := 93) (i := 5) d_X2_search_93 rfl ?_
                refine Tr.istore_n (pc := 95) (i := 3) (ls2 := [(3, (0, r77)), (0, (2, 107)), (2, (0, a2)), (4, (0, p48_4)), (5, (0, r77))]) d_X2_search_95 rfl (by decide) rfl ?_
                refine Tr.aload_n (pc := 96) (i := 0) d_X2_search_96 rfl rfl ?_
                refine Tr.getf (pc := 97) d_X2_search_97 f_2_9 (by decide) (by decide) (ty_107 hS.1.1) ?_
                refine Tr.tp 108 (fx_107_2 hS.1.1) ?_
                refine Tr.iconst (pc := 100) d_X2_search_100 (by decide) ?_
                refine Tr.iload (pc := 101) (i := 4) d_X2_search_101 rfl ?_
                refine Tr.sipush (pc := 103) d_X2_search_103 rfl (by decide) ?_
                refine Tr.idiv (pc := 106) d_X2_search_106 (by omega) ?_
                refine Tr.gen (P := fun v => v = p48_4 / 256 ∧ (0 ≤ v ∧ v ≤ 15)) (div32_l (c := 256) (by omega) (by decide) (by omega) (by omega)) (fun r106 er106 br106 => ?_)
                refine Tr.iastS (pc := 107) (P := St Tru ws_X2_search_107_27 as_X2_search_107_27 M0) d_X2_search_107 (ty_108 hS.1.1) (by omega) (by omega) (sa_108 hS (by decide) (by omega) trivial) (fun M107 hS w107 => ?_)
                refine Tr.aload_n (pc := 108) (i := 0) d_X2_search_108 rfl rfl ?_
                refine Tr.getf (pc := 109) d_X2_search_109 f_2_9 (by decide) (by decide) (ty_107 hS.1.1) ?_
                refine Tr.tp 108 (fx_107_2 hS.1.1) ?_
                refine Tr.iconst (pc := 112) d_X2_search_112 (by decide) ?_
                refine Tr.iload (pc := 113) (i := 4) d_X2_search_113 rfl ?_
                refine Tr.bipush (pc := 115) d_X2_search_115 rfl (by decide) ?_
                refine Tr.idiv (pc := 117) d_X2_search_117 (by omega) ?_
                refine Tr.gen (P := fun v => v = p48_4 / 16 ∧ (0 ≤ v ∧ v ≤ 255)) (div32_l (c := 16) (by omega) (by decide) (by omega) (by omega)) (fun r117 er117 br117 => ?_)
                refine Tr.bipush (pc := 118) d_X2_search_118 rfl (by decide) ?_
                refine Tr.irem (pc := 120) d_X2_search_120 (by omega) ?_
                refine Tr.gen (P := fun v => v = r117 % 16 ∧ (0 ≤ v ∧ v ≤ 15)) (rem_l (c := 16) (by omega) (by decide) (by omega)) (fun r120 er120 br120 => ?_)
                refine Tr.iastS (pc := 121) (P := St Tru ws_X2_search_107_27 as_X2_search_107_27 M0) d_X2_search_121 (ty_108 hS.1.1) (by omega) (by omega) (sa_108 hS (by decide) (by omega) trivial) (fun M121 hS w121 => ?_)
                refine Tr.aload_n (pc := 122) (i := 0) d_X2_search_122 rfl rfl ?_
                refine Tr.getf (pc := 123) d_X2_search_123 f_2_9 (by decide) (by decide) (ty_107 hS.1.1) ?_
                refine Tr.tp 108 (fx_107_2 hS.1.1) ?_
                refine Tr.iconst (pc := 126) d_X2_search_126 (by decide) ?_
                refine Tr.iload (pc := 127) (i := 4) d_X2_search_127 rfl ?_
                refine Tr.bipush (pc := 129) d_X2_search_129 rfl (by decide) ?_
                refine Tr.irem (pc := 131) d_X2_search_131 (by omega) ?_
                refine Tr.gen (P := fun v => v = p48_4 % 16 ∧ (0 ≤ v ∧ v ≤ 15)) (rem_l (c := 16) (by omega) (by decide) (by omega)) (fun r131 er131 br131 => ?_)
                refine Tr.iastS (pc := 132) (P := St Tru ws_X2_search_107_27 as_X2_search_107_27 M0) d_X2_search_132 (ty_108 hS.1.1) (by omega) (by omega) (sa_108 hS (by decide) (by omega) trivial) (fun M132 hS w132 => ?_)
                refine Tr.aload_n (pc := 133) (i := 0) d_X2_search_133 rfl rfl ?_
                refine Tr.getf (pc := 134) d_X2_search_134 f_2_9 (by decide) (by decide) (ty_107 hS.1.1) ?_
                refine Tr.tp 108 (fx_107_2 hS.1.1) ?_
                refine Tr.iconst (pc := 137) d_X2_search_137 (by decide) ?_
                refine Tr.iconst (pc := 138) d_X2_search_138 (by decide) ?_
                refine Tr.iastS (pc := 139) (P := St Tru ws_X2_search_107_27 as_X2_search_107_27 M0) d_X2_search_139 (ty_108 hS.1.1) (by omega) (by omega) (sa_108 hS (by decide) (by omega) trivial) (fun M139 hS w139 => ?_)
                refine Tr.pick [1, 2, 0, 3, 4] (ls2 := [(0, (2, 107)), (2, (0, a2)), (3, (0, r77)), (4, (0, p48_4)), (5, (0, r77))]) rfl ?_
                exact J140 _ _ hS (by omega) ((Wr.b w139 rfl).trans ((Wr.b w132 rfl).trans ((Wr.b w121 rfl).trans ((Wr.b w107 rfl).trans k93_107_0))))
              refine Tr.if_eq (pc := 84) (tgt := 93) d_X2_search_84 rfl (fun c84 => ?_) (fun c84 => ?_)
              · refine Tr.pick [1, 2, 4, 0] (ls2 := [(0, (2, 107)), (2, (0, a2)), (4, (0, p48_4)), (5, (0, r77))]) rfl ?_
                exact J93 _ hS ((St.kp h77 (by decide) (by decide) (by decide)).trans k48_107_0)
              · refine Tr.iload (pc := 87) (i := 5) d_X2_search_87 rfl ?_
                refine Tr.iload_n (pc := 89) (i := 3) d_X2_search_89 rfl rfl ?_
                refine Tr.icmp_ge (pc := 90) (tgt := 140) d_X2_search_90 rfl (fun c90 => ?_) (fun c90 => ?_)
                · refine Tr.pick [1, 2, 3, 4, 0] (ls2 := [(0, (2, 107)), (2, (0, a2)), (3, (0, p48_3)), (4, (0, p48_4)), (5, (0, r77))]) rfl ?_
                  exact J140 _ _ hS (by omega) ((St.kp h77 (by decide) (by decide) (by decide)).trans k48_107_0)
                · refine Tr.pick [1, 2, 4, 0] (ls2 := [(0, (2, 107)), (2, (0, a2)), (4, (0, p48_4)), (5, (0, r77))]) rfl ?_
                  exact J93 _ hS ((St.kp h77 (by decide) (by decide) (by decide)).trans k48_107_0)
        refine Tr.pick [2, 4, 1, 0] (ls2 := [(0, (2, 107)), (2, (0, a2)), (3, (0, 0)), (4, (0, 0))]) rfl ?_
        exact J48 _ _ _ _ hS (by omega) (by omega) er4 (Nat.lt_succ_self _)
      · refine Tr.aload_n (pc := 10) (i := 0) d_X2_search_10 rfl rfl ?_
        refine Tr.getf (pc := 11) d_X2_search_11 f_2_24 (by decide) (by decide) (ty_107 hS.1.1) ?_
        refine Tr.tp 112 (fx_107_6 hS.1.1) ?_
        refine Tr.iload_n (pc := 14) (i := 3) d_X2_search_14 rfl rfl ?_
        refine Tr.aload_n (pc := 15) (i := 0) d_X2_search_15 rfl rfl ?_
        refine Tr.getf (pc := 16) d_X2_search_16 f_2_18 (by decide) (by decide) (ty_107 hS.1.1) ?_
        refine Tr.tp 110 (fx_107_4 hS.1.1) ?_
        refine Tr.iload_n (pc := 19) (i := 3) d_X2_search_19 rfl rfl ?_
        refine Tr.iald (pc := 20) d_X2_search_20 (ty_110 hS.1.1) (by omega) (by omega) ?_
        refine Tr.gen (P := fun v => (-2147483648) ≤ v ∧ v ≤ 2147483647) (ar_110 hS.1.2.1 _) (fun r20 er20 br20 => ?_)
        refine Tr.aload_n (pc := 21) (i := 0) d_X2_search_21 rfl rfl ?_
        refine Tr.getf (pc := 22) d_X2_search_22 f_2_15 (by decide) (by decide) (ty_107 hS.1.1) ?_
        refine Tr.tp 109 (fx_107_3 hS.1.1) ?_
        refine Tr.iload_n (pc := 25) (i := 3) d_X2_search_25 rfl rfl ?_
        refine Tr.iald (pc := 26) d_X2_search_26 (ty_109 hS.1.1) (by omega) (by omega) ?_
        refine Tr.gen (P := fun v => (-2147483648) ≤ v ∧ v ≤ 2147483647) (ar_109 hS.1.2.1 _) (fun r26 er26 br26 => ?_)
        refine Tr.isub (pc := 27) d_X2_search_27 ?_
        refine Tr.gen (P := fun v => (-2147483648) ≤ v ∧ v ≤ 2147483647) (w32_b _) (fun r27 er27 br27 => ?_)
        refine Tr.aload_n (pc := 28) (i := 0) d_X2_search_28 rfl rfl ?_
        refine Tr.aload_n (pc := 29) (i := 1) d_X2_search_29 rfl rfl ?_
        refine Tr.iload_n (pc := 30) (i := 2) d_X2_search_30 rfl rfl ?_
        refine Tr.iload_n (pc := 31) (i := 3) d_X2_search_31 rfl rfl ?_
        refine Tr.callV (pc := 32) (as := [_, _, _]) d_X2_search_32 s_2_54 ok_X2_ownSips rfl rfl (Nat.le_of_ble_eq_true rfl) (Nat.le_of_ble_eq_true rfl) (by decide) (ty_107 hS.1.1) ?_
        refine Tr.imp (Tr.deep (by decide) (sp_X2_ownSips_107_27 hS.1 a2 (by omega) p2_3 (by omega))) ?_
        rintro M32 _ ⟨h32, r32, rfl, lr32, ur32⟩
        have hS := St.tr hS h32 (by decide) (by decide)
        refine Tr.sc [(0, r32), (0, r27), (0, p2_3), (2, 112)] rfl ?_
        refine Tr.isub (pc := 35) d_X2_search_35 ?_
        refine Tr.gen (P := fun v => (-2147483648) ≤ v ∧ v ≤ 2147483647) (w32_b _) (fun r35 er35 br35 => ?_)
        refine Tr.iastS (pc := 36) (P := St Tru ws_X2_search_107_27 as_X2_search_107_27 M0) d_X2_search_36 (ty_112 hS.1.1) (by omega) (by omega) (sa_112 hS (by decide) (by omega) trivial) (fun M36 hS w36 => ?_)
        refine Tr.iincV (pc := 37) (n2 := (p2_3 + 1)) (ls2 := [(3, (0, (p2_3 + 1))), (0, (2, 107)), (1, (2, 27)), (2, (0, a2))]) d_X2_search_37 rfl (by decide) ((w32_id (by omega)).trans (by omega)) rfl ?_
        refine Tr.goto (pc := 40) (tgt := 2) d_X2_search_40 rfl ?_
        refine Tr.pick [1, 2, 3, 0] (ls2 := [(0, (2, 107)), (1, (2, 27)), (2, (0, a2)), (3, (0, (p2_3 + 1)))]) rfl ?_
        exact J2 _ _ hS (by omega) (by omega)
  refine Tr.pick [1, 2, 3, 0] (ls2 := [(0, (2, 107)), (1, (2, 27)), (2, (0, a2)), (3, (0, 0))]) rfl ?_
  exact J2 _ _ _ hS (by omega) (Nat.lt_succ_self _)
