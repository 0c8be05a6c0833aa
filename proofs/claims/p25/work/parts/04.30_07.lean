/-! 30.07 -/
section
def ws_X1_workFor_82_w1 : List (Int × Int) := []
def as_X1_workFor_82_w1 : List Int := []
def q_X1_workFor_82_w1 (a1 : Int) (a2 : Int) (a3 : Int) (a4 : Int) (M0 M' : Mem) (r : Option PV) : Prop := St Tru ws_X1_workFor_82_w1 as_X1_workFor_82_w1 M0 M' ∧ r = none
set_option maxRecDepth 100000 in
set_option maxHeartbeats 4000000 in
theorem sp_X1_workFor_82_w1 {l : Launch} {K : EC} {M0 : Mem} (hI : In Tru M0)  (a1 : Int) (ha1 : 0 ≤ a1 ∧ a1 ≤ 5) (a2 : Int) (ha2 : 0 ≤ a2 ∧ a2 ≤ 59) (a3 : Int) (ha3 : (-2147483648) ≤ a3 ∧ a3 ≤ 2147483647) (a4 : Int) (ha4 : (-2147483648) ≤ a4 ∧ a4 ≤ 2147483647)  : Tr l K 0 mX1_workFor 0 [(0, (2, 82)), (1, (0, a1)), (2, (0, a2)), (3, (0, a3)), (4, (0, a4))] [] M0 (q_X1_workFor_82_w1 a1 a2 a3 a4 M0) := by
  have hS : St Tru ws_X1_workFor_82_w1 as_X1_workFor_82_w1 M0 M0 := St.rf hI
  refine Tr.aload_n (pc := 0) (i := 0) d_X1_workFor_0 rfl rfl ?_
  refine Tr.getz (pc := 1) d_X1_workFor_1 f_1_37 (by decide) (ty_82 hS.1.1) ?_
  refine Tr.tp 0 (fx_82_0 hS.1.1) ?_
  refine Tr.if_eq (pc := 4) (tgt := 20) d_X1_workFor_4 rfl (fun _ => ?_) (fun hc => absurd (by omega) hc)
  exact Tr.vret (pc := 20) d_X1_workFor_20 rfl ⟨hS, rfl⟩

def ws_X6_use_74_w1 : List (Int × Int) := [(74, 9), (74, 14), (74, 17)]
def as_X6_use_74_w1 : List Int := [80, 81, 83]
def q_X6_use_74_w1 (a1 : Int) (a2 : Int) (a3 : Int) (M0 M' : Mem) (r : Option PV) : Prop := St Tru ws_X6_use_74_w1 as_X6_use_74_w1 M0 M' ∧ r = none
set_option maxRecDepth 100000 in
set_option maxHeartbeats 4000000 in
theorem sp_X6_use_74_w1 {l : Launch} {K : EC} {M0 : Mem} (hI : In Tru M0) (en_74_1 : rd M0 74 1 = 7) (a1 : Int) (ha1 : 0 ≤ a1 ∧ a1 ≤ 59) (a2 : Int) (ha2 : 0 ≤ a2 ∧ a2 ≤ 5) (a3 : Int) (ha3 : 0 ≤ a3 ∧ a3 ≤ 50)  : Tr l K 3 mX6_use 0 [(0, (2, 74)), (1, (0, a1)), (2, (0, a2)), (3, (0, a3))] [] M0 (q_X6_use_74_w1 a1 a2 a3 M0) := by
  have hS : St Tru ws_X6_use_74_w1 as_X6_use_74_w1 M0 M0 := St.rf hI
  refine Tr.aload_n (pc := 0) (i := 0) d_X6_use_0 rfl rfl ?_
  refine Tr.getf (pc := 1) d_X6_use_1 f_6_68 (by decide) (by decide) (ty_74 hS.1.1) ?_
  refine Tr.gen (P := fun v => (-2147483648) ≤ v ∧ v ≤ 2147483647) (ir_74_9 hS.1.2.1) (fun r1 er1 br1 => ?_)
  refine Tr.istore (pc := 4) (i := 4) (ls2 := [(4, (0, r1)), (0, (2, 74)), (1, (0, a1)), (2, (0, a2)), (3, (0, a3))]) d_X6_use_4 (by decide) rfl ?_
  refine Tr.aload_n (pc := 6) (i := 0) d_X6_use_6 rfl rfl ?_
  refine Tr.aload_n (pc := 7) (i := 0) d_X6_use_7 rfl rfl ?_
  refine Tr.iload_n (pc := 8) (i := 2) d_X6_use_8 rfl rfl ?_
  refine Tr.callV (pc := 9) (as := [_]) d_X6_use_9 s_6_199 ok_X6_wakeOf rfl rfl (Nat.le_of_ble_eq_true rfl) (Nat.le_of_ble_eq_true rfl) (by decide) (ty_74 hS.1.1) ?_
  refine Tr.imp (Tr.deep (by decide) (sp_X6_wakeOf_74 hS.1 ((St.kp hS (by decide) (by decide) (by decide)).trans en_74_1) a2 (by omega))) ?_
  rintro M9 _ ⟨h9, r9, rfl, lr9, ur9⟩
  have hS := St.tr hS h9 (by decide) (by decide)
  refine Tr.sc [(0, r9), (2, 74)] rfl ?_
  refine Tr.iload_n (pc := 12) (i := 2) d_X6_use_12 rfl rfl ?_
  refine Tr.iconst (pc := 13) d_X6_use_13 (by decide) ?_
  refine Tr.callV (pc := 14) (as := [_, _, _]) d_X6_use_14 s_6_145 ok_X6_pass rfl rfl (Nat.le_of_ble_eq_true rfl) (Nat.le_of_ble_eq_true rfl) (by decide) (ty_74 hS.1.1) ?_
  refine Tr.imp (Tr.deep (by decide) (sp_X6_pass_74_w3 hS.1 ((St.kp hS (by decide) (by decide) (by decide)).trans en_74_1) r9 (by omega) a2 (by omega) 1 (by omega))) ?_
  rintro M14 _ ⟨h14, r14, rfl, lr14, ur14⟩
  have hS := St.tr hS h14 (by decide) (by decide)
  refine Tr.sc [(0, r14)] rfl ?_
  refine Tr.pop (pc := 17) d_X6_use_17 ne01 ?_
  refine Tr.aload_n (pc := 18) (i := 0) d_X6_use_18 rfl rfl ?_
  refine Tr.getf (pc := 19) d_X6_use_19 f_6_68 (by decide) (by decide) (ty_74 hS.1.1) ?_
  refine Tr.gen (P := fun v => (-2147483648) ≤ v ∧ v ≤ 2147483647) (ir_74_9 hS.1.2.1) (fun r19 er19 br19 => ?_)
  refine Tr.istore (pc := 22) (i := 5) (ls2 := [(5, (0, r19)), (4, (0, r1)), (0, (2, 74)), (1, (0, a1)), (2, (0, a2)), (3, (0, a3))]) d_X6_use_22 (by decide) rfl ?_
  refine Tr.aload_n (pc := 24) (i := 0) d_X6_use_24 rfl rfl ?_
  refine Tr.getf (pc := 25) d_X6_use_25 f_6_62 (by decide) (by decide) (ty_74 hS.1.1) ?_
  refine Tr.gen (P := fun v => (-2147483648) ≤ v ∧ v ≤ 2147483647) (ir_74_14 hS.1.2.1) (fun r25 er25 br25 => ?_)
  have J39 : ∀ (M : Mem), St Tru ws_X6_use_74_w1 as_X6_use_74_w1 M0 M → Tr l K 3 mX6_use 39 [(0, (2, 74)), (1, (0, a1)), (2, (0, a2)), (4, (0, r1)), (5, (0, r19))] [] M (q_X6_use_74_w1 a1 a2 a3 M0) := by
    intro M  hS  
    refine Tr.aload_n (pc := 39) (i := 0) d_X6_use_39 rfl rfl ?_
    refine Tr.getf (pc := 40) d_X6_use_40 f_6_62 (by decide) (by decide) (ty_74 hS.1.1) ?_
    refine Tr.gen (P := fun v => (-2147483648) ≤ v ∧ v ≤ 2147483647) (ir_74_14 hS.1.2.1) (fun r40 er40 br40 => ?_)
    have J56 : ∀ (M : Mem), St Tru ws_X6_use_74_w1 as_X6_use_74_w1 M0 M → rd M 74 14 = r40 → Tr l K 3 mX6_use 56 [(0, (2, 74)), (1, (0, a1)), (2, (0, a2)), (4, (0, r1)), (5, (0, r19))] [] M (q_X6_use_74_w1 a1 a2 a3 M0) := by
      intro M  hS  k56_74_14
      refine Tr.aload_n (pc := 56) (i := 0) d_X6_use_56 rfl rfl ?_
      refine Tr.iload_n (pc := 57) (i := 2) d_X6_use_57 rfl rfl ?_
      refine Tr.iload (pc := 58) (i := 4) d_X6_use_58 rfl ?_
      refine Tr.callV (pc := 60) (as := [_, _]) d_X6_use_60 s_6_125 ok_X6_settle rfl rfl (Nat.le_of_ble_eq_true rfl) (Nat.le_of_ble_eq_true rfl) (by decide) (ty_74 hS.1.1) ?_
      refine Tr.imp (Tr.deep (by decide) (sp_X6_settle_74 hS.1 a2 (by omega) r1 (by omega))) ?_
      rintro M60 _ ⟨h60, rfl⟩
      have hS := St.tr hS h60 (by decide) (by decide)
      refine Tr.sc [] rfl ?_
      refine Tr.aload_n (pc := 63) (i := 0) d_X6_use_63 rfl rfl ?_
      refine Tr.iload_n (pc := 64) (i := 1) d_X6_use_64 rfl rfl ?_
      refine Tr.iload_n (pc := 65) (i := 2) d_X6_use_65 rfl rfl ?_
      refine Tr.iload (pc := 66) (i := 4) d_X6_use_66 rfl ?_
      refine Tr.iload (pc := 68) (i := 5) d_X6_use_68 rfl ?_
      refine Tr.callV (pc := 70) (as := [_, _, _, _]) d_X6_use_70 s_6_202 ok_X6_bookBusy rfl rfl (Nat.le_of_ble_eq_true rfl) (Nat.le_of_ble_eq_true rfl) (by decide) (ty_74 hS.1.1) ?_
      refine Tr.imp (Tr.deep (by decide) (sp_X6_bookBusy_74_w1 hS.1 a1 (by omega) a2 (by omega) r1 (by omega) r19 (by omega))) ?_
      rintro M70 _ ⟨h70, rfl⟩
      have hS := St.tr hS h70 (by decide) (by decide)
      refine Tr.sc [] rfl ?_
      refine Tr.aload_n (pc := 73) (i := 0) d_X6_use_73 rfl rfl ?_
      refine Tr.getf (pc := 74) d_X6_use_74 f_6_38 (by decide) (by decide) (ty_74 hS.1.1) ?_
      refine Tr.tp 82 (fx_74_0 hS.1.1) ?_
      refine Tr.iload_n (pc := 77) (i := 2) d_X6_use_77 rfl rfl ?_
      refine Tr.iload_n (pc := 78) (i := 1) d_X6_use_78 rfl rfl ?_
      refine Tr.iload (pc := 79) (i := 5) d_X6_use_79 rfl ?_
      refine Tr.aload_n (pc := 81) (i := 0) d_X6_use_81 rfl rfl ?_
      refine Tr.getf (pc := 82) d_X6_use_82 f_6_68 (by decide) (by decide) (ty_74 hS.1.1) ?_
      refine Tr.gen (P := fun v => (-2147483648) ≤ v ∧ v ≤ 2147483647) (ir_74_9 hS.1.2.1) (fun r82 er82 br82 => ?_)
      refine Tr.callV (pc := 85) (as := [_, _, _, _]) d_X6_use_85 s_6_205 ok_X1_workFor rfl rfl (Nat.le_of_ble_eq_true rfl) (Nat.le_of_ble_eq_true rfl) (by decide) (ty_82 hS.1.1) ?_
      refine Tr.imp (Tr.deep (by decide) (sp_X1_workFor_82_w1 hS.1 a2 (by omega) a1 (by omega) r19 (by omega) r82 (by omega))) ?_
      rintro M85 _ ⟨h85, rfl⟩
      have hS := St.tr hS h85 (by decide) (by decide)
      refine Tr.sc [] rfl ?_
      refine Tr.aload_n (pc := 88) (i := 0) d_X6_use_88 rfl rfl ?_
      refine Tr.getf (pc := 89) d_X6_use_89 f_6_27 (by decide) (by decide) (ty_74 hS.1.1) ?_
      refine Tr.tp 80 (fx_74_7 hS.1.1) ?_
      refine Tr.iload_n (pc := 92) (i := 2) d_X6_use_92 rfl rfl ?_
      refine Tr.aload_n (pc := 93) (i := 0) d_X6_use_93 rfl rfl ?_
      refine Tr.getf (pc := 94) d_X6_use_94 f_6_62 (by decide) (by decide) (ty_74 hS.1.1) ?_
      refine Tr.tp r40 ((St.kp h85 (by decide) (by decide) (by decide)).trans ((St.kp h70 (by decide) (by decide) (by decide)).trans ((St.kp h60 (by decide) (by decide) (by decide)).trans k56_74_14))) ?_
      refine Tr.if_ne (pc := 97) (tgt := 117) d_X6_use_97 rfl (fun c97 => ?_) (fun c97 => ?_)
      · refine Tr.aload_n (pc := 117) (i := 0) d_X6_use_117 rfl rfl ?_
        refine Tr.getf (pc := 118) d_X6_use_118 f_6_68 (by decide) (by decide) (ty_74 hS.1.1) ?_
        refine Tr.tp r82 ((St.kp h85 (by decide) (by decide) (by decide)).trans er82) ?_
        refine Tr.iconst (pc := 121) d_X6_use_121 (by decide) ?_
        refine Tr.iadd (pc := 122) d_X6_use_122 ?_
        refine Tr.gen (P := fun v => (-2147483648) ≤ v ∧ v ≤ 2147483647) (w32_b _) (fun r122 er122 br122 => ?_)
        refine Tr.iastS (pc := 123) (P := St Tru ws_X6_use_74_w1 as_X6_use_74_w1 M0) d_X6_use_123 (ty_80 hS.1.1) (by omega) (by omega) (sa_80 hS (by decide) (by omega) trivial) (fun M123 hS w123 => ?_)
        exact Tr.vret (pc := 124) d_X6_use_124 rfl ⟨hS, rfl⟩
      · refine Tr.aload_n (pc := 100) (i := 0) d_X6_use_100 rfl rfl ?_
        refine Tr.getf (pc := 101) d_X6_use_101 f_6_68 (by decide) (by decide) (ty_74 hS.1.1) ?_
        refine Tr.tp r82 ((St.kp h85 (by decide) (by decide) (by decide)).trans er82) ?_
        refine Tr.aload_n (pc := 104) (i := 0) d_X6_use_104 rfl rfl ?_
        refine Tr.getf (pc := 105) d_X6_use_105 f_6_46 (by decide) (by decide) (ty_74 hS.1.1) ?_
        refine Tr.tp 7 ((St.kp hS (by decide) (by decide) (by decide)).trans en_74_1) ?_
        refine Tr.getf (pc := 108) d_X6_use_108 f_6_208 (by decide) (by decide) (ty_7 hS.1.1) ?_
        refine Tr.tp 11 (fx_7_7 hS.1.1) ?_
        refine Tr.iload_n (pc := 111) (i := 2) d_X6_use_111 rfl rfl ?_
        refine Tr.iald (pc := 112) d_X6_use_112 (ty_11 hS.1.1) (by omega) (by omega) ?_
        refine Tr.gen (P := fun v => 0 ≤ v ∧ v ≤ 50) (ar_11 hS.1.2.1 _) (fun r112 er112 br112 => ?_)
        refine Tr.iadd (pc := 113) d_X6_use_113 ?_
        refine Tr.gen (P := fun v => (-2147483648) ≤ v ∧ v ≤ 2147483647) (w32_b _) (fun r113 er113 br113 => ?_)
        refine Tr.goto (pc := 114) (tgt := 123) d_X6_use_114 rfl ?_
        refine Tr.iastS (pc := 123) (P := St Tru ws_X6_use_74_w1 as_X6_use_74_w1 M0) d_X6_use_123 (ty_80 hS.1.1) (by omega) (by omega) (sa_80 hS (by decide) (by omega) trivial) (fun M123 hS w123 => ?_)
        exact Tr.vret (pc := 124) d_X6_use_124 rfl ⟨hS, rfl⟩
    refine Tr.if_eq (pc := 43) (tgt := 56) d_X6_use_43 rfl (fun c43 => ?_) (fun c43 => ?_)
    · refine Tr.pick [0, 1, 2, 3, 4] (ls2 := [(0, (2, 74)), (1, (0, a1)), (2, (0, a2)), (4, (0, r1)), (5, (0, r19))]) rfl ?_
      exact J56 _ hS er40
    · refine Tr.aload_n (pc := 46) (i := 0) d_X6_use_46 rfl rfl ?_
      refine Tr.getf (pc := 47) d_X6_use_47 f_6_68 (by decide) (by decide) (ty_74 hS.1.1) ?_
      refine Tr.gen (P := fun v => (-2147483648) ≤ v ∧ v ≤ 2147483647) (ir_74_9 hS.1.2.1) (fun r47 er47 br47 => ?_)
      refine Tr.iload (pc := 50) (i := 4) d_X6_use_50 rfl ?_
      refine Tr.icmp_ne (pc := 52) (tgt := 56) d_X6_use_52 rfl (fun c52 => ?_) (fun c52 => ?_)
      · refine Tr.pick [0, 1, 2, 3, 4] (ls2 := [(0, (2, 74)), (1, (0, a1)), (2, (0, a2)), (4, (0, r1)), (5, (0, r19))]) rfl ?_
        exact J56 _ hS er40
      · exact Tr.vret (pc := 55) d_X6_use_55 rfl ⟨hS, rfl⟩
  refine Tr.if_ne (pc := 28) (tgt := 39) d_X6_use_28 rfl (fun c28 => ?_) (fun c28 => ?_)
  · refine Tr.pick [2, 3, 4, 1, 0] (ls2 := [(0, (2, 74)), (1, (0, a1)), (2, (0, a2)), (4, (0, r1)), (5, (0, r19))]) rfl ?_
    exact J39 _ hS 
  · refine Tr.aload_n (pc := 31) (i := 0) d_X6_use_31 rfl rfl ?_
    refine Tr.iload_n (pc := 32) (i := 3) d_X6_use_32 rfl rfl ?_
    refine Tr.iload_n (pc := 33) (i := 2) d_X6_use_33 rfl rfl ?_
    refine Tr.iconst (pc := 34) d_X6_use_34 (by decide) ?_
    refine Tr.callV (pc := 35) (as := [_, _, _]) d_X6_use_35 s_6_145 ok_X6_pass rfl rfl (Nat.le_of_ble_eq_true rfl) (Nat.le_of_ble_eq_true rfl) (by decide) (ty_74 hS.1.1) ?_
    refine Tr.imp (Tr.deep (by decide) (sp_X6_pass_74_w4 hS.1 ((St.kp hS (by decide) (by decide) (by decide)).trans en_74_1) a3 (by omega) a2 (by omega) 3 (by omega))) ?_
    rintro M35 _ ⟨h35, r35, rfl, lr35, ur35⟩
    have hS := St.tr hS h35 (by decide) (by decide)
    refine Tr.sc [(0, r35)] rfl ?_
    refine Tr.pop (pc := 38) d_X6_use_38 ne01 ?_
    refine Tr.pick [2, 3, 4, 1, 0] (ls2 := [(0, (2, 74)), (1, (0, a1)), (2, (0, a2)), (4, (0, r1)), (5, (0, r19))]) rfl ?_
    exact J39 _ hS 

def ws_X6_step_74_w1 : List (Int × Int) := [(74, 9), (74, 11), (74, 12), (74, 13), (74, 14), (74, 17)]
def as_X6_step_74_w1 : List Int := [76, 77, 78, 79, 80, 81, 83]
def q_X6_step_74_w1 (a1 : Int) (M0 M' : Mem) (r : Option PV) : Prop := St Tru ws_X6_step_74_w1 as_X6_step_74_w1 M0 M' ∧ ∃ v : Int, r = some (0, v) ∧ 0 ≤ v ∧ v ≤ 2147483647
set_option maxRecDepth 100000 in
set_option maxHeartbeats 4000000 in
theorem sp_X6_step_74_w1 {l : Launch} {K : EC} {M0 : Mem} (hI : In Tru M0) (en_74_1 : rd M0 74 1 = 7) (a1 : Int) (ha1 : 0 ≤ a1 ∧ a1 ≤ 59)  (hq0 : a1 < rd M0 15 0) (hF_Y15 : Yn15 M0) : Tr l K 4 mX6_step 0 [(0, (2, 74)), (1, (0, a1))] [] M0 (q_X6_step_74_w1 a1 M0) := by
  have hS : St Tru ws_X6_step_74_w1 as_X6_step_74_w1 M0 M0 := St.rf hI
  obtain ⟨g15_0, eg15_0⟩ : ∃ v, rd M0 15 0 = v := ⟨_, rfl⟩
  have bg15_0 : 0 ≤ g15_0 ∧ g15_0 ≤ 60 := by rw [← eg15_0]; exact ir_15_0 hI.2.1
  refine Tr.aload_n (pc := 0) (i := 0) d_X6_step_0 rfl rfl ?_
  refine Tr.iconst (pc := 1) d_X6_step_1 (by decide) ?_
  refine Tr.iconst (pc := 2) d_X6_step_2 (by decide) ?_
  refine Tr.iconst (pc := 3) d_X6_step_3 (by decide) ?_
  refine Tr.callV (pc := 4) (as := [_, _, _]) d_X6_step_4 s_6_145 ok_X6_pass rfl rfl (Nat.le_of_ble_eq_true rfl) (Nat.le_of_ble_eq_true rfl) (by decide) (ty_74 hS.1.1) ?_
  refine Tr.imp (Tr.deep (by decide) (sp_X6_pass_74 hS.1 ((St.kp hS (by decide) (by decide) (by decide)).trans en_74_1) 1 (by omega) (-1) (by omega) 0 (by omega))) ?_
  rintro M4 _ ⟨h4, r4, rfl, lr4, ur4⟩
  have hS := St.tr hS h4 (by decide) (by decide)
  refine Tr.sc [(0, r4)] rfl ?_
  refine Tr.if_ne (pc := 7) (tgt := 12) d_X6_step_7 rfl (fun c7 => ?_) (fun c7 => ?_)
  · refine Tr.aload_n (pc := 12) (i := 0) d_X6_step_12 rfl rfl ?_
    refine Tr.dup (pc := 13) d_X6_step_13 ne21 ?_
    refine Tr.getf (pc := 14) d_X6_step_14 f_6_97 (by decide) (by decide) (ty_74 hS.1.1) ?_
    refine Tr.gen (P := fun v => (-2147483648) ≤ v ∧ v ≤ 2147483647) (ir_74_11 hS.1.2.1) (fun r14 er14 br14 => ?_)
    refine Tr.iconst (pc := 17) d_X6_step_17 (by decide) ?_
    refine Tr.iadd (pc := 18) d_X6_step_18 ?_
    refine Tr.gen (P := fun v => (-2147483648) ≤ v ∧ v ≤ 2147483647) (w32_b _) (fun r18 er18 br18 => ?_)
    refine Tr.putfS (pc := 19) (P := St Tru ws_X6_step_74_w1 as_X6_step_74_w1 M0) d_X6_step_19 f_6_97 (by decide) (by decide) (ty_74 hS.1.1) (st_74_11 hS (by decide) (by omega) trivial) (fun M19 hS w19 => ?_)
    refine Tr.aload_n (pc := 22) (i := 0) d_X6_step_22 rfl rfl ?_
    refine Tr.getf (pc := 23) d_X6_step_23 f_6_46 (by decide) (by decide) (ty_74 hS.1.1) ?_
    refine Tr.tp 7 ((St.kp hS (by decide) (by decide) (by decide)).trans en_74_1) ?_
    refine Tr.getf (pc := 26) d_X6_step_26 f_6_50 (by decide) (by decide) (ty_7 hS.1.1) ?_
    refine Tr.tp 15 (fx_7_11 hS.1.1) ?_
    refine Tr.astore_n (pc := 29) (i := 2) (ls2 := [(2, (2, 15)), (0, (2, 74)), (1, (0, a1))]) d_X6_step_29 rfl (by decide) rfl ?_
    refine Tr.aload_n (pc := 30) (i := 2) d_X6_step_30 rfl rfl ?_
    refine Tr.getf (pc := 31) d_X6_step_31 f_6_149 (by decide) (by decide) (ty_15 hS.1.1) ?_
    refine Tr.tp 17 (fx_15_2 hS.1.1) ?_
    refine Tr.iload_n (pc := 34) (i := 1) d_X6_step_34 rfl rfl ?_
    refine Tr.iald (pc := 35) d_X6_step_35 (ty_17 hS.1.1) (by omega) (by omega) ?_
    refine Tr.gen (P := fun v => 0 ≤ v ∧ v ≤ 5) (ar_17 hS.1.2.1 _) (fun r35 er35 br35 => ?_)
    refine Tr.istore_n (pc := 36) (i := 3) (ls2 := [(3, (0, r35)), (2, (2, 15)), (0, (2, 74)), (1, (0, a1))]) d_X6_step_36 rfl (by decide) rfl ?_
    refine Tr.aload_n (pc := 37) (i := 2) d_X6_step_37 rfl rfl ?_
    refine Tr.getf (pc := 38) d_X6_step_38 f_6_152 (by decide) (by decide) (ty_15 hS.1.1) ?_
    refine Tr.tp 16 (fx_15_1 hS.1.1) ?_
    refine Tr.iload_n (pc := 41) (i := 1) d_X6_step_41 rfl rfl ?_
    refine Tr.iald (pc := 42) d_X6_step_42 (ty_16 hS.1.1) (by omega) (by omega) ?_
    refine Tr.gen (P := fun v => (-2147483648) ≤ v ∧ v ≤ 2147483647) (ar_16 hS.1.2.1 _) (fun r42 er42 br42 => ?_)
    rcases (show (r42 < 5 ∨ 10 < r42) ∨ r42 = 5 ∨ r42 = 6 ∨ r42 = 7 ∨ r42 = 8 ∨ r42 = 9 ∨ r42 = 10 by omega) with c43 | c43 | c43 | c43 | c43 | c43 | c43
    · refine Tr.tswOut (pc := 43) (tgt := 177) d_X6_step_43 c43 rfl ?_
      refine Tr.aload_n (pc := 177) (i := 0) d_X6_step_177 rfl rfl ?_
      refine Tr.iload_n (pc := 178) (i := 1) d_X6_step_178 rfl rfl ?_
      refine Tr.callV (pc := 179) (as := [_]) d_X6_step_179 s_6_155 ok_X6_worked rfl rfl (Nat.le_of_ble_eq_true rfl) (Nat.le_of_ble_eq_true rfl) (by decide) (ty_74 hS.1.1) ?_
      refine Tr.imp (Tr.deep (by decide) (sp_X6_worked_74_w1 hS.1 ((St.kp hS (by decide) (by decide) (by decide)).trans en_74_1) a1 (by omega))) ?_
      rintro M179 _ ⟨h179, r179, rfl, lr179, ur179⟩
      have hS := St.tr hS h179 (by decide) (by decide)
      refine Tr.sc [(0, r179)] rfl ?_
      refine Tr.if_eq (pc := 182) (tgt := 194) d_X6_step_182 rfl (fun c182 => ?_) (fun c182 => ?_)
      · refine Tr.aload_n (pc := 194) (i := 2) d_X6_step_194 rfl rfl ?_
        refine Tr.getf (pc := 195) d_X6_step_195 f_6_180 (by decide) (by decide) (ty_15 hS.1.1) ?_
        refine Tr.tp 20 (fx_15_5 hS.1.1) ?_
        refine Tr.iload_n (pc := 198) (i := 1) d_X6_step_198 rfl rfl ?_
        refine Tr.iald (pc := 199) d_X6_step_199 (ty_20 hS.1.1) (by omega) (by omega) ?_
        have ky199_15_0 : rd M179 15 0 = g15_0 := ((St.kp h179 (by decide) (by decide) (by decide)).trans ((Wr.b w19 rfl).trans ((St.kp h4 (by decide) (by decide) (by decide)).trans eg15_0)))
        refine Tr.gen (P := fun v => 0 ≤ v ∧ v ≤ 2147483647) (by have h8 := (Yn15.of hF_Y15 (fun j => (St.ka hS (by decide) (by decide) (by decide))) (fun j => (St.ka hS (by decide) (by decide) (by decide))) (St.kp hS (by decide) (by decide) (by decide))) (a1) (by omega) (by omega); have h9 := (ar_20 hS.1.2.1 (a1)); omega) (fun r199 er199 br199 => ?_)
        exact Tr.iret (pc := 200) d_X6_step_200 rfl ⟨hS, _, rfl, by omega, by omega⟩
      · refine Tr.aload_n (pc := 185) (i := 2) d_X6_step_185 rfl rfl ?_
        refine Tr.getf (pc := 186) d_X6_step_186 f_6_177 (by decide) (by decide) (ty_15 hS.1.1) ?_
        refine Tr.tp 19 (fx_15_4 hS.1.1) ?_
        refine Tr.iload_n (pc := 189) (i := 1) d_X6_step_189 rfl rfl ?_
        refine Tr.iald (pc := 190) d_X6_step_190 (ty_19 hS.1.1) (by omega) (by omega) ?_
        have ky190_15_0 : rd M179 15 0 = g15_0 := ((St.kp h179 (by decide) (by decide) (by decide)).trans ((Wr.b w19 rfl).trans ((St.kp h4 (by decide) (by decide) (by decide)).trans eg15_0)))
        refine Tr.gen (P := fun v => 0 ≤ v ∧ v ≤ 2147483647) (by have h8 := (Yn15.of hF_Y15 (fun j => (St.ka hS (by decide) (by decide) (by decide))) (fun j => (St.ka hS (by decide) (by decide) (by decide))) (St.kp hS (by decide) (by decide) (by decide))) (a1) (by omega) (by omega); have h9 := (ar_19 hS.1.2.1 (a1)); omega) (fun r190 er190 br190 => ?_)
        refine Tr.goto (pc := 191) (tgt := 200) d_X6_step_191 rfl ?_
        exact Tr.iret (pc := 200) d_X6_step_200 rfl ⟨hS, _, rfl, by omega, by omega⟩
    · refine Tr.tp 5 c43 ?_
      refine Tr.tswIn (pc := 43) (off := 37) (tgt := 80) d_X6_step_43 (by decide) (by decide) rfl rfl ?_
      refine Tr.aload_n (pc := 80) (i := 0) d_X6_step_80 rfl rfl ?_
      refine Tr.getf (pc := 81) d_X6_step_81 f_6_15 (by decide) (by decide) (ty_74 hS.1.1) ?_
      refine Tr.tp 76 (fx_74_3 hS.1.1) ?_
      refine Tr.iload_n (pc := 84) (i := 3) d_X6_step_84 rfl rfl ?_
      refine Tr.aload_n (pc := 85) (i := 0) d_X6_step_85 rfl rfl ?_
      refine Tr.iload_n (pc := 86) (i := 1) d_X6_step_86 rfl rfl ?_
      refine Tr.callV (pc := 87) (as := [_]) d_X6_step_87 s_6_155 ok_X6_worked rfl rfl (Nat.le_of_ble_eq_true rfl) (Nat.le_of_ble_eq_true rfl) (by decide) (ty_74 hS.1.1) ?_
      refine Tr.imp (Tr.deep (by decide) (sp_X6_worked_74_w1 hS.1 ((St.kp hS (by decide) (by decide) (by decide)).trans en_74_1) a1 (by omega))) ?_
      rintro M87 _ ⟨h87, r87, rfl, lr87, ur87⟩
      have hS := St.tr hS h87 (by decide) (by decide)
      refine Tr.sc [(0, r87), (0, r35), (2, 76)] rfl ?_
      refine Tr.iastS (pc := 90) (P := St Tru ws_X6_step_74_w1 as_X6_step_74_w1 M0) d_X6_step_90 (ty_76 hS.1.1) (by omega) (by omega) (sa_76 hS (by decide) (by omega) trivial) (fun M90 hS w90 => ?_)
      refine Tr.goto (pc := 91) (tgt := 201) d_X6_step_91 rfl ?_
      refine Tr.aload_n (pc := 201) (i := 2) d_X6_step_201 rfl rfl ?_
      refine Tr.getf (pc := 202) d_X6_step_202 f_6_177 (by decide) (by decide) (ty_15 hS.1.1) ?_
      refine Tr.tp 19 (fx_15_4 hS.1.1) ?_
      refine Tr.iload_n (pc := 205) (i := 1) d_X6_step_205 rfl rfl ?_
      refine Tr.iald (pc := 206) d_X6_step_206 (ty_19 hS.1.1) (by omega) (by omega) ?_
      have ky206_15_0 : rd M90 15 0 = g15_0 := ((Wr.b w90 rfl).trans ((St.kp h87 (by decide) (by decide) (by decide)).trans ((Wr.b w19 rfl).trans ((St.kp h4 (by decide) (by decide) (by decide)).trans eg15_0))))
      refine Tr.gen (P := fun v => 0 ≤ v ∧ v ≤ 2147483647) (by have h8 := (Yn15.of hF_Y15 (fun j => (St.ka hS (by decide) (by decide) (by decide))) (fun j => (St.ka hS (by decide) (by decide) (by decide))) (St.kp hS (by decide) (by decide) (by decide))) (a1) (by omega) (by omega); have h9 := (ar_19 hS.1.2.1 (a1)); omega) (fun r206 er206 br206 => ?_)
      exact Tr.iret (pc := 207) d_X6_step_207 rfl ⟨hS, _, rfl, by omega, by omega⟩
    · refine Tr.tp 6 c43 ?_
      refine Tr.tswIn (pc := 43) (off := 51) (tgt := 94) d_X6_step_43 (by decide) (by decide) rfl rfl ?_
      refine Tr.aload_n (pc := 94) (i := 0) d_X6_step_94 rfl rfl ?_
      refine Tr.iload_n (pc := 95) (i := 1) d_X6_step_95 rfl rfl ?_
      refine Tr.iload_n (pc := 96) (i := 3) d_X6_step_96 rfl rfl ?_
      refine Tr.aload_n (pc := 97) (i := 0) d_X6_step_97 rfl rfl ?_
      refine Tr.iload_n (pc := 98) (i := 1) d_X6_step_98 rfl rfl ?_
      refine Tr.callV (pc := 99) (as := [_]) d_X6_step_99 s_6_155 ok_X6_worked rfl rfl (Nat.le_of_ble_eq_true rfl) (Nat.le_of_ble_eq_true rfl) (by decide) (ty_74 hS.1.1) ?_
      refine Tr.imp (Tr.deep (by decide) (sp_X6_worked_74_w1 hS.1 ((St.kp hS (by decide) (by decide) (by decide)).trans en_74_1) a1 (by omega))) ?_
      rintro M99 _ ⟨h99, r99, rfl, lr99, ur99⟩
      have hS := St.tr hS h99 (by decide) (by decide)
      refine Tr.sc [(0, r99), (0, r35), (0, a1), (2, 74)] rfl ?_
      refine Tr.iconst (pc := 102) d_X6_step_102 (by decide) ?_
      refine Tr.mmax (pc := 103) d_X6_step_103 ml_6_119 mw_mmax (Nat.le_of_ble_eq_true rfl) ?_
      refine Tr.gen (P := fun v => (v = r99 ∧ 0 ≤ r99) ∨ (v = 0 ∧ r99 ≤ 0)) (f_max_p _ _) (fun r103 er103 br103 => ?_)
      refine Tr.bipush (pc := 106) d_X6_step_106 rfl (by decide) ?_
      refine Tr.mmin (pc := 108) d_X6_step_108 ml_6_158 mw_mmin (Nat.le_of_ble_eq_true rfl) ?_
      refine Tr.gen (P := fun v => (v = r103 ∧ r103 ≤ 50) ∨ (v = 50 ∧ 50 ≤ r103)) (f_min_p _ _) (fun r108 er108 br108 => ?_)
      refine Tr.callV (pc := 111) (as := [_, _, _]) d_X6_step_111 s_6_161 ok_X6_use rfl rfl (Nat.le_of_ble_eq_true rfl) (Nat.le_of_ble_eq_true rfl) (by decide) (ty_74 hS.1.1) ?_
      refine Tr.imp (Tr.deep (by decide) (sp_X6_use_74_w1 hS.1 ((St.kp hS (by decide) (by decide) (by decide)).trans en_74_1) a1 (by omega) r35 (by omega) r108 (by omega))) ?_
      rintro M111 _ ⟨h111, rfl⟩
      have hS := St.tr hS h111 (by decide) (by decide)
      refine Tr.sc [] rfl ?_
      refine Tr.goto (pc := 114) (tgt := 201) d_X6_step_114 rfl ?_
      refine Tr.aload_n (pc := 201) (i := 2) d_X6_step_201 rfl rfl ?_
      refine Tr.getf (pc := 202) d_X6_step_202 f_6_177 (by decide) (by decide) (ty_15 hS.1.1) ?_
      refine Tr.tp 19 (fx_15_4 hS.1.1) ?_
      refine Tr.iload_n (pc := 205) (i := 1) d_X6_step_205 rfl rfl ?_
      refine Tr.iald (pc := 206) d_X6_step_206 (ty_19 hS.1.1) (by omega) (by omega) ?_
      have ky206_15_0 : rd M111 15 0 = g15_0 := ((St.kp h111 (by decide) (by decide) (by decide)).trans ((St.kp h99 (by decide) (by decide) (by decide)).trans ((Wr.b w19 rfl).trans ((St.kp h4 (by decide) (by decide) (by decide)).trans eg15_0))))
      refine Tr.gen (P := fun v => 0 ≤ v ∧ v ≤ 2147483647) (by have h8 := (Yn15.of hF_Y15 (fun j => (St.ka hS (by decide) (by decide) (by decide))) (fun j => (St.ka hS (by decide) (by decide) (by decide))) (St.kp hS (by decide) (by decide) (by decide))) (a1) (by omega) (by omega); have h9 := (ar_19 hS.1.2.1 (a1)); omega) (fun r206 er206 br206 => ?_)
      exact Tr.iret (pc := 207) d_X6_step_207 rfl ⟨hS, _, rfl, by omega, by omega⟩
    · refine Tr.tp 7 c43 ?_
      refine Tr.tswIn (pc := 43) (off := 74) (tgt := 117) d_X6_step_43 (by decide) (by decide) rfl rfl ?_
      refine Tr.aload_n (pc := 117) (i := 0) d_X6_step_117 rfl rfl ?_
      refine Tr.iload_n (pc := 118) (i := 1) d_X6_step_118 rfl rfl ?_
      refine Tr.iload_n (pc := 119) (i := 3) d_X6_step_119 rfl rfl ?_
      refine Tr.callV (pc := 120) (as := [_, _]) d_X6_step_120 s_6_165 ok_X6_hold rfl rfl (Nat.le_of_ble_eq_true rfl) (Nat.le_of_ble_eq_true rfl) (by decide) (ty_74 hS.1.1) ?_
      refine Tr.imp (Tr.deep (by decide) (sp_X6_hold_74_w1 hS.1 ((St.kp hS (by decide) (by decide) (by decide)).trans en_74_1) a1 (by omega) r35 (by omega))) ?_
      rintro M120 _ ⟨h120, rfl⟩
      have hS := St.tr hS h120 (by decide) (by decide)
      refine Tr.sc [] rfl ?_
      refine Tr.goto (pc := 123) (tgt := 201) d_X6_step_123 rfl ?_
      refine Tr.aload_n (pc := 201) (i := 2) d_X6_step_201 rfl rfl ?_
      refine Tr.getf (pc := 202) d_X6_step_202 f_6_177 (by decide) (by decide) (ty_15 hS.1.1) ?_
      refine Tr.tp 19 (fx_15_4 hS.1.1) ?_
      refine Tr.iload_n (pc := 205) (i := 1) d_X6_step_205 rfl rfl ?_
      refine Tr.iald (pc := 206) d_X6_step_206 (ty_19 hS.1.1) (by omega) (by omega) ?_
      have ky206_15_0 : rd M120 15 0 = g15_0 := ((St.kp h120 (by decide) (by decide) (by decide)).trans ((Wr.b w19 rfl).trans ((St.kp h4 (by decide) (by decide) (by decide)).trans eg15_0)))
      refine Tr.gen (P := fun v => 0 ≤ v ∧ v ≤ 2147483647) (by have h8 := (Yn15.of hF_Y15 (fun j => (St.ka hS (by decide) (by decide) (by decide))) (fun j => (St.ka hS (by decide) (by decide) (by decide))) (St.kp hS (by decide) (by decide) (by decide))) (a1) (by omega) (by omega); have h9 := (ar_19 hS.1.2.1 (a1)); omega) (fun r206 er206 br206 => ?_)
      exact Tr.iret (pc := 207) d_X6_step_207 rfl ⟨hS, _, rfl, by omega, by omega⟩
    · refine Tr.tp 8 c43 ?_
      refine Tr.tswIn (pc := 43) (off := 83) (tgt := 126) d_X6_step_43 (by decide) (by decide) rfl rfl ?_
      refine Tr.aload_n (pc := 126) (i := 0) d_X6_step_126 rfl rfl ?_
      refine Tr.iload_n (pc := 127) (i := 1) d_X6_step_127 rfl rfl ?_
      refine Tr.iload_n (pc := 128) (i := 3) d_X6_step_128 rfl rfl ?_
      refine Tr.callV (pc := 129) (as := [_, _]) d_X6_step_129 s_6_168 ok_X6_free rfl rfl (Nat.le_of_ble_eq_true rfl) (Nat.le_of_ble_eq_true rfl) (by decide) (ty_74 hS.1.1) ?_
      refine Tr.imp (Tr.deep (by decide) (sp_X6_free_74_w1 hS.1 ((St.kp hS (by decide) (by decide) (by decide)).trans en_74_1) a1 (by omega) r35 (by omega))) ?_
      rintro M129 _ ⟨h129, rfl⟩
      have hS := St.tr hS h129 (by decide) (by decide)
      refine Tr.sc [] rfl ?_
      refine Tr.goto (pc := 132) (tgt := 201) d_X6_step_132 rfl ?_
      refine Tr.aload_n (pc := 201) (i := 2) d_X6_step_201 rfl rfl ?_
      refine Tr.getf (pc := 202) d_X6_step_202 f_6_177 (by decide) (by decide) (ty_15 hS.1.1) ?_
      refine Tr.tp 19 (fx_15_4 hS.1.1) ?_
      refine Tr.iload_n (pc := 205) (i := 1) d_X6_step_205 rfl rfl ?_
      refine Tr.iald (pc := 206) d_X6_step_206 (ty_19 hS.1.1) (by omega) (by omega) ?_
      have ky206_15_0 : rd M129 15 0 = g15_0 := ((St.kp h129 (by decide) (by decide) (by decide)).trans ((Wr.b w19 rfl).trans ((St.kp h4 (by decide) (by decide) (by decide)).trans eg15_0)))
      refine Tr.gen (P := fun v => 0 ≤ v ∧ v ≤ 2147483647) (by have h8 := (Yn15.of hF_Y15 (fun j => (St.ka hS (by decide) (by decide) (by decide))) (fun j => (St.ka hS (by decide) (by decide) (by decide))) (St.kp hS (by decide) (by decide) (by decide))) (a1) (by omega) (by omega); have h9 := (ar_19 hS.1.2.1 (a1)); omega) (fun r206 er206 br206 => ?_)
      exact Tr.iret (pc := 207) d_X6_step_207 rfl ⟨hS, _, rfl, by omega, by omega⟩
    · refine Tr.tp 9 c43 ?_
      refine Tr.tswIn (pc := 43) (off := 92) (tgt := 135) d_X6_step_43 (by decide) (by decide) rfl rfl ?_
      refine Tr.aload_n (pc := 135) (i := 0) d_X6_step_135 rfl rfl ?_
      refine Tr.aload_n (pc := 136) (i := 0) d_X6_step_136 rfl rfl ?_
      refine Tr.iload_n (pc := 137) (i := 1) d_X6_step_137 rfl rfl ?_
      refine Tr.callV (pc := 138) (as := [_]) d_X6_step_138 s_6_155 ok_X6_worked rfl rfl (Nat.le_of_ble_eq_true rfl) (Nat.le_of_ble_eq_true rfl) (by decide) (ty_74 hS.1.1) ?_
      refine Tr.imp (Tr.deep (by decide) (sp_X6_worked_74_w1 hS.1 ((St.kp hS (by decide) (by decide) (by decide)).trans en_74_1) a1 (by omega))) ?_
      rintro M138 _ ⟨h138, r138, rfl, lr138, ur138⟩
      have hS := St.tr hS h138 (by decide) (by decide)
      refine Tr.sc [(0, r138), (2, 74)] rfl ?_
      refine Tr.iconst (pc := 141) d_X6_step_141 (by decide) ?_
      refine Tr.mmax (pc := 142) d_X6_step_142 ml_6_119 mw_mmax (Nat.le_of_ble_eq_true rfl) ?_
      refine Tr.gen (P := fun v => (v = r138 ∧ 0 ≤ r138) ∨ (v = 0 ∧ r138 ≤ 0)) (f_max_p _ _) (fun r142 er142 br142 => ?_)
      refine Tr.bipush (pc := 145) d_X6_step_145 rfl (by decide) ?_
      refine Tr.mmin (pc := 147) d_X6_step_147 ml_6_158 mw_mmin (Nat.le_of_ble_eq_true rfl) ?_
      refine Tr.gen (P := fun v => (v = r142 ∧ r142 ≤ 100) ∨ (v = 100 ∧ 100 ≤ r142)) (f_min_p _ _) (fun r147 er147 br147 => ?_)
      refine Tr.iconst (pc := 150) d_X6_step_150 (by decide) ?_
      refine Tr.iconst (pc := 151) d_X6_step_151 (by decide) ?_
      refine Tr.callV (pc := 152) (as := [_, _, _]) d_X6_step_152 s_6_145 ok_X6_pass rfl rfl (Nat.le_of_ble_eq_true rfl) (Nat.le_of_ble_eq_true rfl) (by decide) (ty_74 hS.1.1) ?_
      refine Tr.imp (Tr.deep (by decide) (sp_X6_pass_74_w2 hS.1 ((St.kp hS (by decide) (by decide) (by decide)).trans en_74_1) r147 (by omega) (-1) (by omega) 0 (by omega))) ?_
      rintro M152 _ ⟨h152, r152, rfl, lr152, ur152⟩
      have hS := St.tr hS h152 (by decide) (by decide)
      refine Tr.sc [(0, r152)] rfl ?_
      refine Tr.pop (pc := 155) d_X6_step_155 ne01 ?_
      refine Tr.goto (pc := 156) (tgt := 201) d_X6_step_156 rfl ?_
      refine Tr.aload_n (pc := 201) (i := 2) d_X6_step_201 rfl rfl ?_
      refine Tr.getf (pc := 202) d_X6_step_202 f_6_177 (by decide) (by decide) (ty_15 hS.1.1) ?_
      refine Tr.tp 19 (fx_15_4 hS.1.1) ?_
      refine Tr.iload_n (pc := 205) (i := 1) d_X6_step_205 rfl rfl ?_
      refine Tr.iald (pc := 206) d_X6_step_206 (ty_19 hS.1.1) (by omega) (by omega) ?_
      have ky206_15_0 : rd M152 15 0 = g15_0 := ((St.kp h152 (by decide) (by decide) (by decide)).trans ((St.kp h138 (by decide) (by decide) (by decide)).trans ((Wr.b w19 rfl).trans ((St.kp h4 (by decide) (by decide) (by decide)).trans eg15_0))))
      refine Tr.gen (P := fun v => 0 ≤ v ∧ v ≤ 2147483647) (by have h8 := (Yn15.of hF_Y15 (fun j => (St.ka hS (by decide) (by decide) (by decide))) (fun j => (St.ka hS (by decide) (by decide) (by decide))) (St.kp hS (by decide) (by decide) (by decide))) (a1) (by omega) (by omega); have h9 := (ar_19 hS.1.2.1 (a1)); omega) (fun r206 er206 br206 => ?_)
      exact Tr.iret (pc := 207) d_X6_step_207 rfl ⟨hS, _, rfl, by omega, by omega⟩
    · refine Tr.tp 10 c43 ?_
      refine Tr.tswIn (pc := 43) (off := 116) (tgt := 159) d_X6_step_43 (by decide) (by decide) rfl rfl ?_
      refine Tr.aload_n (pc := 159) (i := 0) d_X6_step_159 rfl rfl ?_
      refine Tr.aload_n (pc := 160) (i := 0) d_X6_step_160 rfl rfl ?_
      refine Tr.iload_n (pc := 161) (i := 1) d_X6_step_161 rfl rfl ?_
      refine Tr.callV (pc := 162) (as := [_]) d_X6_step_162 s_6_155 ok_X6_worked rfl rfl (Nat.le_of_ble_eq_true rfl) (Nat.le_of_ble_eq_true rfl) (by decide) (ty_74 hS.1.1) ?_
      refine Tr.imp (Tr.deep (by decide) (sp_X6_worked_74_w1 hS.1 ((St.kp hS (by decide) (by decide) (by decide)).trans en_74_1) a1 (by omega))) ?_
      rintro M162 _ ⟨h162, r162, rfl, lr162, ur162⟩
      have hS := St.tr hS h162 (by decide) (by decide)
      refine Tr.sc [(0, r162), (2, 74)] rfl ?_
      refine Tr.sipush (pc := 165) d_X6_step_165 rfl (by decide) ?_
      refine Tr.callS (pc := 168) (as := [_, _]) d_X6_step_168 s_6_171 ok_J9_floorMod_7cf53 rfl rfl (Nat.le_of_ble_eq_true rfl) (Nat.le_of_ble_eq_true rfl) ?_
      refine Tr.imp (Tr.deep (by decide) (sp_J9_floorMod_7cf53 hS.1 r162 (by omega) 1000 (by omega) (by omega))) ?_
      rintro M168 _ ⟨h168, r168, rfl, lr168, ur168, wr168⟩
      have hS := St.tr hS h168 (by decide) (by decide)
      refine Tr.sc [(0, r168), (2, 74)] rfl ?_
      refine Tr.callV (pc := 171) (as := [_]) d_X6_step_171 s_6_174 ok_X6_touch rfl rfl (Nat.le_of_ble_eq_true rfl) (Nat.le_of_ble_eq_true rfl) (by decide) (ty_74 hS.1.1) ?_
      refine Tr.imp (Tr.deep (by decide) (sp_X6_touch_74 hS.1 ((St.kp hS (by decide) (by decide) (by decide)).trans en_74_1) r168 (by omega))) ?_
      rintro M171 _ ⟨h171, rfl⟩
      have hS := St.tr hS h171 (by decide) (by decide)
      refine Tr.sc [] rfl ?_
      refine Tr.goto (pc := 174) (tgt := 201) d_X6_step_174 rfl ?_
      refine Tr.aload_n (pc := 201) (i := 2) d_X6_step_201 rfl rfl ?_
      refine Tr.getf (pc := 202) d_X6_step_202 f_6_177 (by decide) (by decide) (ty_15 hS.1.1) ?_
      refine Tr.tp 19 (fx_15_4 hS.1.1) ?_
      refine Tr.iload_n (pc := 205) (i := 1) d_X6_step_205 rfl rfl ?_
      refine Tr.iald (pc := 206) d_X6_step_206 (ty_19 hS.1.1) (by omega) (by omega) ?_
      have ky206_15_0 : rd M171 15 0 = g15_0 := ((St.kp h171 (by decide) (by decide) (by decide)).trans ((St.kp h168 (by decide) (by decide) (by decide)).trans ((St.kp h162 (by decide) (by decide) (by decide)).trans ((Wr.b w19 rfl).trans ((St.kp h4 (by decide) (by decide) (by decide)).trans eg15_0)))))
      refine Tr.gen (P := fun v => 0 ≤ v ∧ v ≤ 2147483647) (by have h8 := (Yn15.of hF_Y15 (fun j => (St.ka hS (by decide) (by decide) (by decide))) (fun j => (St.ka hS (by decide) (by decide) (by decide))) (St.kp hS (by decide) (by decide) (by decide))) (a1) (by omega) (by omega); have h9 := (ar_19 hS.1.2.1 (a1)); omega) (fun r206 er206 br206 => ?_)
      exact Tr.iret (pc := 207) d_X6_step_207 rfl ⟨hS, _, rfl, by omega, by omega⟩
  · refine Tr.iload_n (pc := 10) (i := 1) d_X6_step_10 rfl rfl ?_
    exact Tr.iret (pc := 11) d_X6_step_11 rfl ⟨hS, _, rfl, by omega, by omega⟩

def ws_X1_payHeart_82_w1 : List (Int × Int) := []
def as_X1_payHeart_82_w1 : List Int := []
def q_X1_payHeart_82_w1 (M0 M' : Mem) (r : Option PV) : Prop := St Tru ws_X1_payHeart_82_w1 as_X1_payHeart_82_w1 M0 M' ∧ r = none
set_option maxRecDepth 100000 in
set_option maxHeartbeats 4000000 in
theorem sp_X1_payHeart_82_w1 {l : Launch} {K : EC} {M0 : Mem} (hI : In Tru M0)  (a1 : Int) (ha1 : 0 ≤ a1 ∧ a1 ≤ 59) (a2 : Int) (ha2 : (-2147483648) ≤ a2 ∧ a2 ≤ 2147483647)  : Tr l K 0 mX1_payHeart 0 [(0, (2, 82)), (1, (0, a1)), (2, (0, a2))] [] M0 (q_X1_payHeart_82_w1 M0) := by
  have hS : St Tru ws_X1_payHeart_82_w1 as_X1_payHeart_82_w1 M0 M0 := St.rf hI
  refine Tr.aload_n (pc := 0) (i := 0) d_X1_payHeart_0 rfl rfl ?_
  refine Tr.getz (pc := 1) d_X1_payHeart_1 f_1_37 (by decide) (ty_82 hS.1.1) ?_
  refine Tr.tp 0 (fx_82_0 hS.1.1) ?_
  refine Tr.if_eq (pc := 4) (tgt := 25) d_X1_payHeart_4 rfl (fun _ => ?_) (fun hc => absurd (by omega) hc)
  exact Tr.vret (pc := 25) d_X1_payHeart_25 rfl ⟨hS, rfl⟩

def ws_X6_go_74_7_47 : List (Int × Int) := [(74, 1), (74, 9), (74, 10), (74, 11), (74, 12), (74, 13), (74, 14), (74, 15), (74, 16), (74, 17), (82, 1)]
def as_X6_go_74_7_47 : List Int := [75, 76, 77, 78, 79, 80, 81, 83]
def q_X6_go_74_7_47 (M0 M' : Mem) (r : Option PV) : Prop := St Tru ws_X6_go_74_7_47 as_X6_go_74_7_47 M0 M' ∧ rd M' 74 1 = 7 ∧ rd M' 82 1 = 7 ∧ r = none
set_option maxRecDepth 100000 in
set_option maxHeartbeats 4000000 in
theorem sp_X6_go_74_7_47 {l : Launch} {K : EC} {M0 : Mem} (hI : In Tru M0)  (a3 : Int) (ha3 : (-1) ≤ a3 ∧ a3 ≤ (-1))  (hF_Y15 : Yn15 M0) : Tr l K 5 mX6_go 0 [(0, (2, 74)), (1, (2, 7)), (2, (2, 47)), (3, (0, a3))] [] M0 (q_X6_go_74_7_47 M0) := by
  have hS : St Tru ws_X6_go_74_7_47 as_X6_go_74_7_47 M0 M0 := St.rf hI
  obtain ⟨g15_0, eg15_0⟩ : ∃ v, rd M0 15 0 = v := ⟨_, rfl⟩
  have bg15_0 : 0 ≤ g15_0 ∧ g15_0 ≤ 60 := by rw [← eg15_0]; exact ir_15_0 hI.2.1
  refine Tr.aload_n (pc := 0) (i := 0) d_X6_go_0 rfl rfl ?_
  refine Tr.aload_n (pc := 1) (i := 1) d_X6_go_1 rfl rfl ?_
  refine Tr.aload_n (pc := 2) (i := 2) d_X6_go_2 rfl rfl ?_
  refine Tr.iload_n (pc := 3) (i := 3) d_X6_go_3 rfl rfl ?_
  refine Tr.tp (-1) (by omega) ?_
  refine Tr.callV (pc := 4) (as := [_, _, _]) d_X6_go_4 s_6_42 ok_X6_begin rfl rfl (Nat.le_of_ble_eq_true rfl) (Nat.le_of_ble_eq_true rfl) (by decide) (ty_74 hS.1.1) ?_
  refine Tr.imp (Tr.deep (by decide) (sp_X6_begin_74_7_47 hS.1 (-1) (by omega))) ?_
  rintro M4 _ ⟨h4, o4_74_1, o4_82_1, rfl⟩
  have hS := St.tr hS h4 (by decide) (by decide)
  refine Tr.sc [] rfl ?_
  refine Tr.iconst (pc := 7) d_X6_go_7 (by decide) ?_
  refine Tr.istore (pc := 8) (i := 4) (ls2 := [(4, (0, 0)), (0, (2, 74)), (1, (2, 7)), (2, (2, 47)), (3, (0, a3))]) d_X6_go_8 (by decide) rfl ?_
  refine Tr.iconst (pc := 10) d_X6_go_10 (by decide) ?_
  refine Tr.istore (pc := 11) (i := 5) (ls2 := [(5, (0, 0)), (4, (0, 0)), (0, (2, 74)), (1, (2, 7)), (2, (2, 47)), (3, (0, a3))]) d_X6_go_11 (by decide) rfl ?_
  have J13 : ∀ (n13 : Nat) (M : Mem) (p13_4 p13_5 : Int), St Tru ws_X6_go_74_7_47 as_X6_go_74_7_47 M0 M → (0 ≤ p13_4 ∧ p13_4 ≤ 2147483647) → (0 ≤ p13_5 ∧ p13_5 ≤ 2001) → rd M 15 0 = g15_0 → rd M 74 1 = 7 → rd M 82 1 = 7 → (2001 - p13_5).toNat < n13 → Tr l K 5 mX6_go 13 [(0, (2, 74)), (4, (0, p13_4)), (5, (0, p13_5))] [] M (q_X6_go_74_7_47 M0) := by
    intro n13
    induction n13 with
    | zero => intro M p13_4 p13_5 hS bp13_4 bp13_5 k13_15_0 k13_74_1 k13_82_1 hm13; exact absurd hm13 (Nat.not_lt_zero _)
    | succ n13 J13 =>
      intro M p13_4 p13_5 hS bp13_4 bp13_5 k13_15_0 k13_74_1 k13_82_1 hm13
      refine Tr.iload (pc := 13) (i := 5) d_X6_go_13 rfl ?_
      refine Tr.sipush (pc := 15) d_X6_go_15 rfl (by decide) ?_
      have J103 : ∀ (M : Mem), St Tru ws_X6_go_74_7_47 as_X6_go_74_7_47 M0 M → rd M 15 0 = g15_0 → rd M 74 1 = 7 → rd M 82 1 = 7 → Tr l K 5 mX6_go 103 [(0, (2, 74))] [] M (q_X6_go_74_7_47 M0) := by
        intro M  hS  k103_15_0 k103_74_1 k103_82_1
        refine Tr.aload_n (pc := 103) (i := 0) d_X6_go_103 rfl rfl ?_
        refine Tr.callV (pc := 104) (as := []) d_X6_go_104 s_6_82 ok_X6_finish rfl rfl (Nat.le_of_ble_eq_true rfl) (Nat.le_of_ble_eq_true rfl) (by decide) (ty_74 hS.1.1) ?_
        refine Tr.imp (Tr.deep (by decide) (sp_X6_finish_74 hS.1 k103_74_1 k103_82_1)) ?_
        rintro M104 _ ⟨h104, rfl⟩
        have hS := St.tr hS h104 (by decide) (by decide)
        refine Tr.sc [] rfl ?_
        exact Tr.vret (pc := 107) d_X6_go_107 rfl ⟨hS, ((St.kp h104 (by decide) (by decide) (by decide)).trans k103_74_1), ((St.kp h104 (by decide) (by decide) (by decide)).trans k103_82_1), rfl⟩
      refine Tr.icmp_gt (pc := 18) (tgt := 103) d_X6_go_18 rfl (fun c18 => ?_) (fun c18 => ?_)
      · refine Tr.pick [0] (ls2 := [(0, (2, 74))]) rfl ?_
        exact J103 _ hS k13_15_0 k13_74_1 k13_82_1
      · refine Tr.iload (pc := 21) (i := 4) d_X6_go_21 rfl ?_
        refine Tr.aload_n (pc := 23) (i := 0) d_X6_go_23 rfl rfl ?_
        refine Tr.getf (pc := 24) d_X6_go_24 f_6_46 (by decide) (by decide) (ty_74 hS.1.1) ?_
        refine Tr.tp 7 k13_74_1 ?_
        refine Tr.getf (pc := 27) d_X6_go_27 f_6_50 (by decide) (by decide) (ty_7 hS.1.1) ?_
        refine Tr.tp 15 (fx_7_11 hS.1.1) ?_
        refine Tr.getf (pc := 30) d_X6_go_30 f_6_56 (by decide) (by decide) (ty_15 hS.1.1) ?_
        refine Tr.tp g15_0 k13_15_0 ?_
        refine Tr.icmp_ge (pc := 33) (tgt := 103) d_X6_go_33 rfl (fun c33 => ?_) (fun c33 => ?_)
        · refine Tr.pick [0] (ls2 := [(0, (2, 74))]) rfl ?_
          exact J103 _ hS k13_15_0 k13_74_1 k13_82_1
        · refine Tr.aload_n (pc := 36) (i := 0) d_X6_go_36 rfl rfl ?_
          refine Tr.getf (pc := 37) d_X6_go_37 f_6_62 (by decide) (by decide) (ty_74 hS.1.1) ?_
          refine Tr.gen (P := fun v => (-2147483648) ≤ v ∧ v ≤ 2147483647) (ir_74_14 hS.1.2.1) (fun r37 er37 br37 => ?_)
          refine Tr.if_ne (pc := 40) (tgt := 103) d_X6_go_40 rfl (fun c40 => ?_) (fun c40 => ?_)
          · refine Tr.pick [0] (ls2 := [(0, (2, 74))]) rfl ?_
            exact J103 _ hS k13_15_0 k13_74_1 k13_82_1
          · refine Tr.aload_n (pc := 43) (i := 0) d_X6_go_43 rfl rfl ?_
            refine Tr.getf (pc := 44) d_X6_go_44 f_6_38 (by decide) (by decide) (ty_74 hS.1.1) ?_
            refine Tr.tp 82 (fx_74_0 hS.1.1) ?_
            refine Tr.callV (pc := 47) (as := []) d_X6_go_47 s_6_65 ok_X1_makeRoom rfl rfl (Nat.le_of_ble_eq_true rfl) (Nat.le_of_ble_eq_true rfl) (by decide) (ty_82 hS.1.1) ?_
            refine Tr.imp (Tr.deep (by decide) (sp_X1_makeRoom_82 hS.1 )) ?_
            rintro M47 _ ⟨h47, rfl⟩
            have hS := St.tr hS h47 (by decide) (by decide)
            refine Tr.sc [] rfl ?_
            refine Tr.aload_n (pc := 50) (i := 0) d_X6_go_50 rfl rfl ?_
            refine Tr.getf (pc := 51) d_X6_go_51 f_6_68 (by decide) (by decide) (ty_74 hS.1.1) ?_
            refine Tr.gen (P := fun v => (-2147483648) ≤ v ∧ v ≤ 2147483647) (ir_74_9 hS.1.2.1) (fun r51 er51 br51 => ?_)
            refine Tr.istore (pc := 54) (i := 6) (ls2 := [(6, (0, r51)), (0, (2, 74)), (4, (0, p13_4)), (5, (0, p13_5))]) d_X6_go_54 (by decide) rfl ?_
            refine Tr.aload_n (pc := 56) (i := 0) d_X6_go_56 rfl rfl ?_
            refine Tr.iload (pc := 57) (i := 4) d_X6_go_57 rfl ?_
            refine Tr.callV (pc := 59) (as := [_]) d_X6_go_59 s_6_71 ok_X6_step rfl rfl (Nat.le_of_ble_eq_true rfl) (Nat.le_of_ble_eq_true rfl) (by decide) (ty_74 hS.1.1) ?_
            have kb59_15_0 : rd M47 15 0 = g15_0 := ((St.kp h47 (by decide) (by decide) (by decide)).trans k13_15_0)
            refine Tr.imp (Tr.deep (by decide) (sp_X6_step_74_w1 hS.1 ((St.kp h47 (by decide) (by decide) (by decide)).trans k13_74_1) p13_4 (by omega) (by omega) (Yn15.of hF_Y15 (fun j => (St.ka hS (by decide) (by decide) (by decide))) (fun j => (St.ka hS (by decide) (by decide) (by decide))) (St.kp hS (by decide) (by decide) (by decide))))) ?_
            rintro M59 _ ⟨h59, r59, rfl, lr59, ur59⟩
            have hS := St.tr hS h59 (by decide) (by decide)
            refine Tr.sc [(0, r59)] rfl ?_
            refine Tr.istore (pc := 62) (i := 7) (ls2 := [(7, (0, r59)), (6, (0, r51)), (0, (2, 74)), (4, (0, p13_4)), (5, (0, p13_5))]) d_X6_go_62 (by decide) rfl ?_
            refine Tr.aload_n (pc := 64) (i := 0) d_X6_go_64 rfl rfl ?_
            refine Tr.getf (pc := 65) d_X6_go_65 f_6_38 (by decide) (by decide) (ty_74 hS.1.1) ?_
            refine Tr.tp 82 (fx_74_0 hS.1.1) ?_
            refine Tr.iload (pc := 68) (i := 4) d_X6_go_68 rfl ?_
            refine Tr.aload_n (pc := 70) (i := 0) d_X6_go_70 rfl rfl ?_
            refine Tr.getf (pc := 71) d_X6_go_71 f_6_68 (by decide) (by decide) (ty_74 hS.1.1) ?_
            refine Tr.gen (P := fun v => (-2147483648) ≤ v ∧ v ≤ 2147483647) (ir_74_9 hS.1.2.1) (fun r71 er71 br71 => ?_)
            refine Tr.iload (pc := 74) (i := 6) d_X6_go_74 rfl ?_
            refine Tr.isub (pc := 76) d_X6_go_76 ?_
            refine Tr.gen (P := fun v => (-2147483648) ≤ v ∧ v ≤ 2147483647) (w32_b _) (fun r76 er76 br76 => ?_)
            refine Tr.callV (pc := 77) (as := [_, _]) d_X6_go_77 s_6_75 ok_X1_payHeart rfl rfl (Nat.le_of_ble_eq_true rfl) (Nat.le_of_ble_eq_true rfl) (by decide) (ty_82 hS.1.1) ?_
            refine Tr.imp (Tr.deep (by decide) (sp_X1_payHeart_82_w1 hS.1 p13_4 (by omega) r76 (by omega))) ?_
            rintro M77 _ ⟨h77, rfl⟩
            have hS := St.tr hS h77 (by decide) (by decide)
            refine Tr.sc [] rfl ?_
            refine Tr.aload_n (pc := 80) (i := 0) d_X6_go_80 rfl rfl ?_
            refine Tr.getf (pc := 81) d_X6_go_81 f_6_62 (by decide) (by decide) (ty_74 hS.1.1) ?_
            refine Tr.gen (P := fun v => (-2147483648) ≤ v ∧ v ≤ 2147483647) (ir_74_14 hS.1.2.1) (fun r81 er81 br81 => ?_)
            have J93 : ∀ (M : Mem), St Tru ws_X6_go_74_7_47 as_X6_go_74_7_47 M0 M → rd M 15 0 = g15_0 → rd M 74 1 = 7 → rd M 74 14 = r81 → rd M 74 9 = r71 → rd M 82 1 = 7 → Tr l K 5 mX6_go 93 [(0, (2, 74)), (5, (0, p13_5)), (7, (0, r59))] [] M (q_X6_go_74_7_47 M0) := by
              intro M  hS  k93_15_0 k93_74_1 k93_74_14 k93_74_9 k93_82_1
              refine Tr.iload (pc := 93) (i := 7) d_X6_go_93 rfl ?_
              refine Tr.istore (pc := 95) (i := 4) (ls2 := [(4, (0, r59)), (0, (2, 74)), (5, (0, p13_5)), (7, (0, r59))]) d_X6_go_95 (by decide) rfl ?_
              refine Tr.iincV (pc := 97) (n2 := (p13_5 + 1)) (ls2 := [(5, (0, (p13_5 + 1))), (4, (0, r59)), (0, (2, 74)), (7, (0, r59))]) d_X6_go_97 rfl (by decide) ((w32_id (by omega)).trans (by omega)) rfl ?_
              refine Tr.goto (pc := 100) (tgt := 13) d_X6_go_100 rfl ?_
              refine Tr.pick [2, 1, 0] (ls2 := [(0, (2, 74)), (4, (0, r59)), (5, (0, (p13_5 + 1)))]) rfl ?_
              exact J13 _ _ _ hS (by omega) (by omega) k93_15_0 k93_74_1 k93_82_1 (by omega)
            refine Tr.if_eq (pc := 84) (tgt := 93) d_X6_go_84 rfl (fun c84 => ?_) (fun c84 => ?_)
            · refine Tr.pick [2, 4, 0] (ls2 := [(0, (2, 74)), (5, (0, p13_5)), (7, (0, r59))]) rfl ?_
              exact J93 _ hS ((St.kp h77 (by decide) (by decide) (by decide)).trans ((St.kp h59 (by decide) (by decide) (by decide)).trans ((St.kp h47 (by decide) (by decide) (by decide)).trans k13_15_0))) ((St.kp h77 (by decide) (by decide) (by decide)).trans ((St.kp h59 (by decide) (by decide) (by decide)).trans ((St.kp h47 (by decide) (by decide) (by decide)).trans k13_74_1))) er81 ((St.kp h77 (by decide) (by decide) (by decide)).trans er71) ((St.kp h77 (by decide) (by decide) (by decide)).trans ((St.kp h59 (by decide) (by decide) (by decide)).trans ((St.kp h47 (by decide) (by decide) (by decide)).trans k13_82_1)))
            · refine Tr.aload_n (pc := 87) (i := 0) d_X6_go_87 rfl rfl ?_
              refine Tr.iload (pc := 88) (i := 4) d_X6_go_88 rfl ?_
              refine Tr.putfS (pc := 90) (P := St Tru ws_X6_go_74_7_47 as_X6_go_74_7_47 M0) d_X6_go_90 f_6_79 (by decide) (by decide) (ty_74 hS.1.1) (st_74_15 hS (by decide) (by omega) trivial) (fun M90 hS w90 => ?_)
              refine Tr.pick [2, 4, 0] (ls2 := [(0, (2, 74)), (5, (0, p13_5)), (7, (0, r59))]) rfl ?_
              exact J93 _ hS ((Wr.b w90 rfl).trans ((St.kp h77 (by decide) (by decide) (by decide)).trans ((St.kp h59 (by decide) (by decide) (by decide)).trans ((St.kp h47 (by decide) (by decide) (by decide)).trans k13_15_0)))) ((Wr.b w90 rfl).trans ((St.kp h77 (by decide) (by decide) (by decide)).trans ((St.kp h59 (by decide) (by decide) (by decide)).trans ((St.kp h47 (by decide) (by decide) (by decide)).trans k13_74_1)))) ((Wr.b w90 rfl).trans er81) ((Wr.b w90 rfl).trans ((St.kp h77 (by decide) (by decide) (by decide)).trans er71)) ((Wr.b w90 rfl).trans ((St.kp h77 (by decide) (by decide) (by decide)).trans ((St.kp h59 (by decide) (by decide) (by decide)).trans ((St.kp h47 (by decide) (by decide) (by decide)).trans k13_82_1))))
  refine Tr.pick [2, 1, 0] (ls2 := [(0, (2, 74)), (4, (0, 0)), (5, (0, 0))]) rfl ?_
  exact J13 _ _ _ _ hS (by omega) (by omega) ((St.kp h4 (by decide) (by decide) (by decide)).trans eg15_0) o4_74_1 o4_82_1 (Nat.lt_succ_self _)

def ws_X2_add_107_74 : List (Int × Int) := [(107, 0)]
def as_X2_add_107_74 : List Int := [109, 110, 111]
def q_X2_add_107_74 (M0 M' : Mem) (r : Option PV) : Prop := St Tru ws_X2_add_107_74 as_X2_add_107_74 M0 M' ∧ r = none
set_option maxRecDepth 100000 in
set_option maxHeartbeats 4000000 in
theorem sp_X2_add_107_74 {l : Launch} {K : EC} {M0 : Mem} (hI : In Tru M0)  (a1 : Int) (ha1 : 0 ≤ a1 ∧ a1 ≤ 10000000)  : Tr l K 1 mX2_add 0 [(0, (2, 107)), (1, (0, a1)), (2, (2, 74))] [] M0 (q_X2_add_107_74 M0) := by
  have hS : St Tru ws_X2_add_107_74 as_X2_add_107_74 M0 M0 := St.rf hI
  refine Tr.aload_n (pc := 0) (i := 0) d_X2_add_0 rfl rfl ?_
  refine Tr.getf (pc := 1) d_X2_add_1 f_2_27 (by decide) (by decide) (ty_107 hS.1.1) ?_
  refine Tr.gen (P := fun v => 0 ≤ v ∧ v ≤ 12) (ir_107_0 hS.1.2.1) (fun r1 er1 br1 => ?_)
  refine Tr.bipush (pc := 4) d_X2_add_4 rfl (by decide) ?_
  refine Tr.icmp_lt (pc := 6) (tgt := 10) d_X2_add_6 rfl (fun c6 => ?_) (fun c6 => ?_)
  · refine Tr.aload_n (pc := 10) (i := 0) d_X2_add_10 rfl rfl ?_
    refine Tr.getf (pc := 11) d_X2_add_11 f_2_15 (by decide) (by decide) (ty_107 hS.1.1) ?_
    refine Tr.tp 109 (fx_107_3 hS.1.1) ?_
    refine Tr.aload_n (pc := 14) (i := 0) d_X2_add_14 rfl rfl ?_
    refine Tr.getf (pc := 15) d_X2_add_15 f_2_27 (by decide) (by decide) (ty_107 hS.1.1) ?_
    refine Tr.tp r1 er1 ?_
    refine Tr.iload_n (pc := 18) (i := 1) d_X2_add_18 rfl rfl ?_
    refine Tr.iastS (pc := 19) (P := St Tru ws_X2_add_107_74 as_X2_add_107_74 M0) d_X2_add_19 (ty_109 hS.1.1) (by omega) (by omega) (sa_109 hS (by decide) (by omega) trivial) (fun M19 hS w19 => ?_)
    refine Tr.aload_n (pc := 20) (i := 0) d_X2_add_20 rfl rfl ?_
    refine Tr.getf (pc := 21) d_X2_add_21 f_2_18 (by decide) (by decide) (ty_107 hS.1.1) ?_
    refine Tr.tp 110 (fx_107_4 hS.1.1) ?_
    refine Tr.aload_n (pc := 24) (i := 0) d_X2_add_24 rfl rfl ?_
    refine Tr.getf (pc := 25) d_X2_add_25 f_2_27 (by decide) (by decide) (ty_107 hS.1.1) ?_
    refine Tr.tp r1 ((Wr.b w19 rfl).trans er1) ?_
    refine Tr.aload_n (pc := 28) (i := 2) d_X2_add_28 rfl rfl ?_
    refine Tr.getf (pc := 29) d_X2_add_29 f_2_35 (by decide) (by decide) (ty_74 hS.1.1) ?_
    refine Tr.gen (P := fun v => (-2147483648) ≤ v ∧ v ≤ 2147483647) (ir_74_10 hS.1.2.1) (fun r29 er29 br29 => ?_)
    refine Tr.iastS (pc := 32) (P := St Tru ws_X2_add_107_74 as_X2_add_107_74 M0) d_X2_add_32 (ty_110 hS.1.1) (by omega) (by omega) (sa_110 hS (by decide) (by omega) trivial) (fun M32 hS w32 => ?_)
    refine Tr.aload_n (pc := 33) (i := 2) d_X2_add_33 rfl rfl ?_
    refine Tr.getf (pc := 34) d_X2_add_34 f_2_39 (by decide) (by decide) (ty_74 hS.1.1) ?_
    refine Tr.tp 82 (fx_74_0 hS.1.1) ?_
    refine Tr.getf (pc := 37) d_X2_add_37 f_2_43 (by decide) (by decide) (ty_82 hS.1.1) ?_
    refine Tr.tp 83 (fx_82_2 hS.1.1) ?_
    refine Tr.iconst (pc := 40) d_X2_add_40 (by decide) ?_
    refine Tr.aload_n (pc := 41) (i := 0) d_X2_add_41 rfl rfl ?_
    refine Tr.getf (pc := 42) d_X2_add_42 f_2_21 (by decide) (by decide) (ty_107 hS.1.1) ?_
    refine Tr.tp 111 (fx_107_5 hS.1.1) ?_
    refine Tr.aload_n (pc := 45) (i := 0) d_X2_add_45 rfl rfl ?_
    refine Tr.getf (pc := 46) d_X2_add_46 f_2_27 (by decide) (by decide) (ty_107 hS.1.1) ?_
    refine Tr.tp r1 ((Wr.b w32 rfl).trans ((Wr.b w19 rfl).trans er1)) ?_
    refine Tr.bipush (pc := 49) d_X2_add_49 rfl (by decide) ?_
    refine Tr.imul (pc := 51) d_X2_add_51 ?_
    refine Tr.tp (24 * r1) ((w32_id (by omega)).trans (by omega)) ?_
    refine Tr.bipush (pc := 52) d_X2_add_52 rfl (by decide) ?_
    refine Tr.acopyS (pc := 54) (x := 83) (y := 111) (P := St Tru ws_X2_add_107_74 as_X2_add_107_74 M0) d_X2_add_54 ac_2_48 acw.1 acw.2.1 acw.2.2 (ty_83 hS.1.1) (ty_111 hS.1.1) (by omega) (by omega) (by omega) (by omega) (by omega) (Nat.le_of_ble_eq_true rfl) (sw_111 hS (by decide) rfl rfl rfl (fun z i hz => by rw [rd_cpy, if_neg (fun c => hz c.1)]) (fun i => by rw [rd_cpy]; split; exact And.intro (by have := ar_83 hS.1.2.1 (0 + (i - (24 * r1))); omega) (by have := ar_83 hS.1.2.1 (0 + (i - (24 * r1))); omega); exact ar_111 hS.1.2.1 i) trivial) (fun M54 hS w54 => ?_)
    refine Tr.aload_n (pc := 57) (i := 0) d_X2_add_57 rfl rfl ?_
    refine Tr.dup (pc := 58) d_X2_add_58 ne21 ?_
    refine Tr.getf (pc := 59) d_X2_add_59 f_2_27 (by decide) (by decide) (ty_107 hS.1.1) ?_
    refine Tr.tp r1 ((Wa.b w54 rfl).trans ((Wr.b w32 rfl).trans ((Wr.b w19 rfl).trans er1))) ?_
    refine Tr.iconst (pc := 62) d_X2_add_62 (by decide) ?_
    refine Tr.iadd (pc := 63) d_X2_add_63 ?_
    refine Tr.tp (r1 + 1) ((w32_id (by omega)).trans (by omega)) ?_
    refine Tr.putfS (pc := 64) (P := St Tru ws_X2_add_107_74 as_X2_add_107_74 M0) d_X2_add_64 f_2_27 (by decide) (by decide) (ty_107 hS.1.1) (st_107_0 hS (by decide) (by omega) trivial) (fun M64 hS w64 => ?_)
    exact Tr.vret (pc := 67) d_X2_add_67 rfl ⟨hS, rfl⟩
  · exact Tr.vret (pc := 9) d_X2_add_9 rfl ⟨hS, rfl⟩

def ws_X11_measure_0 : List (Int × Int) := [(74, 1), (74, 9), (74, 10), (74, 11), (74, 12), (74, 13), (74, 14), (74, 15), (74, 16), (74, 17), (82, 1), (107, 0)]
def as_X11_measure_0 : List Int := [75, 76, 77, 78, 79, 80, 81, 83, 109, 110, 111]
def q_X11_measure_0 (M0 M' : Mem) (r : Option PV) : Prop := St Tru ws_X11_measure_0 as_X11_measure_0 M0 M' ∧ ∃ v : Int, r = some (0, v) ∧ (-1) ≤ v ∧ v ≤ 12
set_option maxRecDepth 100000 in
set_option maxHeartbeats 4000000 in
theorem sp_X11_measure_0 {l : Launch} {K : EC} {M0 : Mem} (hI : In Tru M0) (en_0_4 : rd M0 0 4 = 7) (a1 : Int) (ha1 : (-2147483648) ≤ a1 ∧ a1 ≤ 2147483647)  (hF_Y15 : Yn15 M0) : Tr l K 6 mX11_measure 0 [(0, (2, 0)), (1, (0, a1))] [] M0 (q_X11_measure_0 M0) := by
  have hS : St Tru ws_X11_measure_0 as_X11_measure_0 M0 M0 := St.rf hI
  refine Tr.iload_n (pc := 0) (i := 1) d_X11_measure_0 rfl rfl ?_
  refine Tr.if_lt (pc := 1) (tgt := 23) d_X11_measure_1 rfl (fun c1 => ?_) (fun c1 => ?_)
  · refine Tr.iconst (pc := 23) d_X11_measure_23 (by decide) ?_
    exact Tr.iret (pc := 24) d_X11_measure_24 rfl ⟨hS, _, rfl, by omega, by omega⟩
  · refine Tr.iload_n (pc := 4) (i := 1) d_X11_measure_4 rfl rfl ?_
    refine Tr.ldcw (pc := 5) d_X11_measure_5 k_11_271 (by decide) ?_
    refine Tr.icmp_gt (pc := 8) (tgt := 23) d_X11_measure_8 rfl (fun c8 => ?_) (fun c8 => ?_)
    · refine Tr.iconst (pc := 23) d_X11_measure_23 (by decide) ?_
      exact Tr.iret (pc := 24) d_X11_measure_24 rfl ⟨hS, _, rfl, by omega, by omega⟩
    · refine Tr.aload_n (pc := 11) (i := 0) d_X11_measure_11 rfl rfl ?_
      refine Tr.getf (pc := 12) d_X11_measure_12 f_11_70 (by decide) (by decide) (ty_0 hS.1.1) ?_
      refine Tr.tp 107 (fx_0_12 hS.1.1) ?_
      refine Tr.getf (pc := 15) d_X11_measure_15 f_11_133 (by decide) (by decide) (ty_107 hS.1.1) ?_
      refine Tr.gen (P := fun v => 0 ≤ v ∧ v ≤ 12) (ir_107_0 hS.1.2.1) (fun r15 er15 br15 => ?_)
      refine Tr.bipush (pc := 18) d_X11_measure_18 rfl (by decide) ?_
      refine Tr.icmp_lt (pc := 20) (tgt := 25) d_X11_measure_20 rfl (fun c20 => ?_) (fun c20 => ?_)
      · refine Tr.aload_n (pc := 25) (i := 0) d_X11_measure_25 rfl rfl ?_
        refine Tr.getf (pc := 26) d_X11_measure_26 f_11_50 (by decide) (by decide) (ty_0 hS.1.1) ?_
        refine Tr.tp 74 (fx_0_8 hS.1.1) ?_
        refine Tr.aload_n (pc := 29) (i := 0) d_X11_measure_29 rfl rfl ?_
        refine Tr.getf (pc := 30) d_X11_measure_30 f_11_30 (by decide) (by decide) (ty_0 hS.1.1) ?_
        refine Tr.tp 7 ((St.kp hS (by decide) (by decide) (by decide)).trans en_0_4) ?_
        refine Tr.aload_n (pc := 33) (i := 0) d_X11_measure_33 rfl rfl ?_
        refine Tr.getf (pc := 34) d_X11_measure_34 f_11_37 (by decide) (by decide) (ty_0 hS.1.1) ?_
        refine Tr.tp 47 (fx_0_6 hS.1.1) ?_
        refine Tr.iconst (pc := 37) d_X11_measure_37 (by decide) ?_
        refine Tr.callV (pc := 38) (as := [_, _, _]) d_X11_measure_38 s_11_144 ok_X6_go rfl rfl (Nat.le_of_ble_eq_true rfl) (Nat.le_of_ble_eq_true rfl) (by decide) (ty_74 hS.1.1) ?_
        refine Tr.imp (Tr.deep (by decide) (sp_X6_go_74_7_47 hS.1 (-1) (by omega) (Yn15.of hF_Y15 (fun j => (St.ka hS (by decide) (by decide) (by decide))) (fun j => (St.ka hS (by decide) (by decide) (by decide))) (St.kp hS (by decide) (by decide) (by decide))))) ?_
        rintro M38 _ ⟨h38, o38_74_1, o38_82_1, rfl⟩
        have hS := St.tr hS h38 (by decide) (by decide)
        refine Tr.sc [] rfl ?_
        refine Tr.aload_n (pc := 41) (i := 0) d_X11_measure_41 rfl rfl ?_
        refine Tr.getf (pc := 42) d_X11_measure_42 f_11_70 (by decide) (by decide) (ty_0 hS.1.1) ?_
        refine Tr.tp 107 (fx_0_12 hS.1.1) ?_
        refine Tr.iload_n (pc := 45) (i := 1) d_X11_measure_45 rfl rfl ?_
        refine Tr.aload_n (pc := 46) (i := 0) d_X11_measure_46 rfl rfl ?_
        refine Tr.getf (pc := 47) d_X11_measure_47 f_11_50 (by decide) (by decide) (ty_0 hS.1.1) ?_
        refine Tr.tp 74 (fx_0_8 hS.1.1) ?_
        refine Tr.callV (pc := 50) (as := [_, _]) d_X11_measure_50 s_11_272 ok_X2_add rfl rfl (Nat.le_of_ble_eq_true rfl) (Nat.le_of_ble_eq_true rfl) (by decide) (ty_107 hS.1.1) ?_
        refine Tr.imp (Tr.deep (by decide) (sp_X2_add_107_74 hS.1 a1 (by omega))) ?_
        rintro M50 _ ⟨h50, rfl⟩
        have hS := St.tr hS h50 (by decide) (by decide)
        refine Tr.sc [] rfl ?_
        refine Tr.aload_n (pc := 53) (i := 0) d_X11_measure_53 rfl rfl ?_
        refine Tr.getf (pc := 54) d_X11_measure_54 f_11_70 (by decide) (by decide) (ty_0 hS.1.1) ?_
        refine Tr.tp 107 (fx_0_12 hS.1.1) ?_
        refine Tr.getf (pc := 57) d_X11_measure_57 f_11_133 (by decide) (by decide) (ty_107 hS.1.1) ?_
        refine Tr.gen (P := fun v => 0 ≤ v ∧ v ≤ 12) (ir_107_0 hS.1.2.1) (fun r57 er57 br57 => ?_)
        exact Tr.iret (pc := 60) d_X11_measure_60 rfl ⟨hS, _, rfl, by omega, by omega⟩
      · refine Tr.iconst (pc := 23) d_X11_measure_23 (by decide) ?_
        exact Tr.iret (pc := 24) d_X11_measure_24 rfl ⟨hS, _, rfl, by omega, by omega⟩

def ws_X10_count_7 : List (Int × Int) := []
def as_X10_count_7 : List Int := []
def q_X10_count_7 (M0 M' : Mem) (r : Option PV) : Prop := St Tru ws_X10_count_7 as_X10_count_7 M0 M' ∧ ∃ v : Int, r = some (0, v) ∧ (-2147483648) ≤ v ∧ v ≤ 2147483647
set_option maxRecDepth 100000 in
set_option maxHeartbeats 4000000 in
theorem sp_X10_count_7 {l : Launch} {K : EC} {M0 : Mem} (hI : In Tru M0)    : Tr l K 0 mX10_count 0 [(0, (2, 7))] [] M0 (q_X10_count_7 M0) := by
  have hS : St Tru ws_X10_count_7 as_X10_count_7 M0 M0 := St.rf hI
  refine Tr.iconst (pc := 0) d_X10_count_0 (by decide) ?_
  refine Tr.istore_n (pc := 1) (i := 1) (ls2 := [(1, (0, 1)), (0, (2, 7))]) d_X10_count_1 rfl (by decide) rfl ?_
  refine Tr.iconst (pc := 2) d_X10_count_2 (by decide) ?_
  refine Tr.istore_n (pc := 3) (i := 2) (ls2 := [(2, (0, 0)), (1, (0, 1)), (0, (2, 7))]) d_X10_count_3 rfl (by decide) rfl ?_
  have J4 : ∀ (n4 : Nat) (M : Mem) (p4_1 p4_2 : Int), St Tru ws_X10_count_7 as_X10_count_7 M0 M → ((-2147483648) ≤ p4_1 ∧ p4_1 ≤ 2147483647) → (0 ≤ p4_2 ∧ p4_2 ≤ 3) → (3 - p4_2).toNat < n4 → Tr l K 0 mX10_count 4 [(0, (2, 7)), (1, (0, p4_1)), (2, (0, p4_2))] [] M (q_X10_count_7 M0) := by
    intro n4
    induction n4 with
    | zero => intro M p4_1 p4_2 hS bp4_1 bp4_2  hm4; exact absurd hm4 (Nat.not_lt_zero _)
    | succ n4 J4 =>
      intro M p4_1 p4_2 hS bp4_1 bp4_2  hm4
      refine Tr.iload_n (pc := 4) (i := 2) d_X10_count_4 rfl rfl ?_
      refine Tr.aload_n (pc := 5) (i := 0) d_X10_count_5 rfl rfl ?_
      refine Tr.getf (pc := 6) d_X10_count_6 f_10_25 (by decide) (by decide) (ty_7 hS.1.1) ?_
      refine Tr.tp 8 (fx_7_4 hS.1.1) ?_
      refine Tr.iconst (pc := 9) d_X10_count_9 (by decide) ?_
      refine Tr.iald (pc := 10) d_X10_count_10 (ty_8 hS.1.1) (by omega) (by omega) ?_
      refine Tr.gen (P := fun v => 0 ≤ v ∧ v ≤ 3) (ir_8_1 hS.1.2.1) (fun r10 er10 br10 => ?_)
      refine Tr.icmp_ge (pc := 11) (tgt := 38) d_X10_count_11 rfl (fun c11 => ?_) (fun c11 => ?_)
      · refine Tr.iload_n (pc := 38) (i := 1) d_X10_count_38 rfl rfl ?_
        exact Tr.iret (pc := 39) d_X10_count_39 rfl ⟨hS, _, rfl, by omega, by omega⟩
      · refine Tr.iload_n (pc := 14) (i := 1) d_X10_count_14 rfl rfl ?_
        refine Tr.aload_n (pc := 15) (i := 0) d_X10_count_15 rfl rfl ?_
        refine Tr.getf (pc := 16) d_X10_count_16 f_10_30 (by decide) (by decide) (ty_7 hS.1.1) ?_
        refine Tr.tp 13 (fx_7_9 hS.1.1) ?_
        refine Tr.iload_n (pc := 19) (i := 2) d_X10_count_19 rfl rfl ?_
        refine Tr.iald (pc := 20) d_X10_count_20 (ty_13 hS.1.1) (by omega) (by omega) ?_
        refine Tr.gen (P := fun v => (-1) ≤ v ∧ v ≤ 99) (ar_13 hS.1.2.1 _) (fun r20 er20 br20 => ?_)
        refine Tr.aload_n (pc := 21) (i := 0) d_X10_count_21 rfl rfl ?_
        refine Tr.getf (pc := 22) d_X10_count_22 f_10_33 (by decide) (by decide) (ty_7 hS.1.1) ?_
        refine Tr.tp 12 (fx_7_8 hS.1.1) ?_
        refine Tr.iload_n (pc := 25) (i := 2) d_X10_count_25 rfl rfl ?_
        refine Tr.iald (pc := 26) d_X10_count_26 (ty_12 hS.1.1) (by omega) (by omega) ?_
        refine Tr.gen (P := fun v => (-1) ≤ v ∧ v ≤ 99) (ar_12 hS.1.2.1 _) (fun r26 er26 br26 => ?_)
        refine Tr.isub (pc := 27) d_X10_count_27 ?_
        refine Tr.tp (r20 - r26) ((w32_id (by omega)).trans (by omega)) ?_
        refine Tr.iconst (pc := 28) d_X10_count_28 (by decide) ?_
        refine Tr.iadd (pc := 29) d_X10_count_29 ?_
        refine Tr.tp (r20 - r26 + 1) ((w32_id (by omega)).trans (by omega)) ?_
        refine Tr.imul (pc := 30) d_X10_count_30 ?_
        refine Tr.gen (P := fun v => (-2147483648) ≤ v ∧ v ≤ 2147483647) (w32_b _) (fun r30 er30 br30 => ?_)
        refine Tr.istore_n (pc := 31) (i := 1) (ls2 := [(1, (0, r30)), (0, (2, 7)), (2, (0, p4_2))]) d_X10_count_31 rfl (by decide) rfl ?_
        refine Tr.iincV (pc := 32) (n2 := (p4_2 + 1)) (ls2 := [(2, (0, (p4_2 + 1))), (1, (0, r30)), (0, (2, 7))]) d_X10_count_32 rfl (by decide) ((w32_id (by omega)).trans (by omega)) rfl ?_
        refine Tr.goto (pc := 35) (tgt := 4) d_X10_count_35 rfl ?_
        refine Tr.pick [2, 1, 0] (ls2 := [(0, (2, 7)), (1, (0, r30)), (2, (0, (p4_2 + 1)))]) rfl ?_
        exact J4 _ _ _ hS (by omega) (by omega) (by omega)
  refine Tr.pick [2, 1, 0] (ls2 := [(0, (2, 7)), (1, (0, 1)), (2, (0, 0))]) rfl ?_
  exact J4 _ _ _ _ hS (by omega) (by omega) (Nat.lt_succ_self _)

def ws_X10_begin_103_7 : List (Int × Int) := []
def as_X10_begin_103_7 : List Int := [104]
def q_X10_begin_103_7 (M0 M' : Mem) (r : Option PV) : Prop := St Tru ws_X10_begin_103_7 as_X10_begin_103_7 M0 M' ∧ ∃ v : Int, r = some (0, v) ∧ (-2147483648) ≤ v ∧ v ≤ 2147483647
set_option maxRecDepth 100000 in
set_option maxHeartbeats 4000000 in
theorem sp_X10_begin_103_7 {l : Launch} {K : EC} {M0 : Mem} (hI : In Tru M0)    : Tr l K 1 mX10_begin 0 [(0, (2, 103)), (1, (2, 7))] [] M0 (q_X10_begin_103_7 M0) := by
  have hS : St Tru ws_X10_begin_103_7 as_X10_begin_103_7 M0 M0 := St.rf hI
  refine Tr.aload_n (pc := 0) (i := 1) d_X10_begin_0 rfl rfl ?_
  refine Tr.getf (pc := 1) d_X10_begin_1 f_10_33 (by decide) (by decide) (ty_7 hS.1.1) ?_
  refine Tr.tp 12 (fx_7_8 hS.1.1) ?_
  refine Tr.iconst (pc := 4) d_X10_begin_4 (by decide) ?_
  refine Tr.aload_n (pc := 5) (i := 0) d_X10_begin_5 rfl rfl ?_
  refine Tr.getf (pc := 6) d_X10_begin_6 f_10_9 (by decide) (by decide) (ty_103 hS.1.1) ?_
  refine Tr.tp 104 (fx_103_4 hS.1.1) ?_
  refine Tr.iconst (pc := 9) d_X10_begin_9 (by decide) ?_
  refine Tr.iconst (pc := 10) d_X10_begin_10 (by decide) ?_
  refine Tr.acopyS (pc := 11) (x := 12) (y := 104) (P := St Tru ws_X10_begin_103_7 as_X10_begin_103_7 M0) d_X10_begin_11 ac_10_36 acw.1 acw.2.1 acw.2.2 (ty_12 hS.1.1) (ty_104 hS.1.1) (by omega) (by omega) (by omega) (by omega) (by omega) (Nat.le_of_ble_eq_true rfl) (sw_104 hS (by decide) rfl rfl rfl (fun z i hz => by rw [rd_cpy, if_neg (fun c => hz c.1)]) (fun i => by rw [rd_cpy]; split; exact And.intro (by have := ar_12 hS.1.2.1 (0 + (i - 0)); omega) (by have := ar_12 hS.1.2.1 (0 + (i - 0)); omega); exact ar_104 hS.1.2.1 i) trivial) (fun M11 hS w11 => ?_)
  refine Tr.aload_n (pc := 14) (i := 0) d_X10_begin_14 rfl rfl ?_
  refine Tr.getz (pc := 15) d_X10_begin_15 f_10_21 (by decide) (ty_103 hS.1.1) ?_
  refine Tr.gen (P := fun v => 0 ≤ v ∧ v ≤ 1) (ir_103_0 hS.1.2.1) (fun r15 er15 br15 => ?_)
  refine Tr.if_eq (pc := 18) (tgt := 25) d_X10_begin_18 rfl (fun c18 => ?_) (fun c18 => ?_)
  · refine Tr.aload_n (pc := 25) (i := 1) d_X10_begin_25 rfl rfl ?_
    refine Tr.callS (pc := 26) (as := [_]) d_X10_begin_26 s_10_42 ok_X10_count rfl rfl (Nat.le_of_ble_eq_true rfl) (Nat.le_of_ble_eq_true rfl) ?_
    refine Tr.imp (Tr.deep (by decide) (sp_X10_count_7 hS.1 )) ?_
    rintro M26 _ ⟨h26, r26, rfl, lr26, ur26⟩
    have hS := St.tr hS h26 (by decide) (by decide)
    refine Tr.sc [(0, r26)] rfl ?_
    exact Tr.iret (pc := 29) d_X10_begin_29 rfl ⟨hS, _, rfl, by omega, by omega⟩
  · refine Tr.iconst (pc := 21) d_X10_begin_21 (by decide) ?_
    refine Tr.goto (pc := 22) (tgt := 29) d_X10_begin_22 rfl ?_
    exact Tr.iret (pc := 29) d_X10_begin_29 rfl ⟨hS, _, rfl, by omega, by omega⟩

def ws_X10_choose_103 : List (Int × Int) := [(103, 0), (103, 1)]
def as_X10_choose_103 : List Int := []
def q_X10_choose_103 (M0 M' : Mem) (r : Option PV) : Prop := St Tru ws_X10_choose_103 as_X10_choose_103 M0 M' ∧ ∃ v : Int, r = some (0, v) ∧ (-2147483648) ≤ v ∧ v ≤ 2147483647
set_option maxRecDepth 100000 in
set_option maxHeartbeats 4000000 in
theorem sp_X10_choose_103 {l : Launch} {K : EC} {M0 : Mem} (hI : In Tru M0)  (a1 : Int) (ha1 : 0 ≤ a1 ∧ a1 ≤ 1)  : Tr l K 0 mX10_choose 0 [(0, (2, 103)), (1, (0, a1))] [] M0 (q_X10_choose_103 M0) := by
  have hS : St Tru ws_X10_choose_103 as_X10_choose_103 M0 M0 := St.rf hI
  refine Tr.aload_n (pc := 0) (i := 0) d_X10_choose_0 rfl rfl ?_
  refine Tr.iconst (pc := 1) d_X10_choose_1 (by decide) ?_
  refine Tr.putzS (pc := 2) (P := St Tru ws_X10_choose_103 as_X10_choose_103 M0) d_X10_choose_2 f_10_21 (by decide) (ty_103 hS.1.1) (by omega) (st_103_0 hS (by decide) (by omega) trivial) (fun M2 hS w2 => ?_)
  refine Tr.aload_n (pc := 5) (i := 0) d_X10_choose_5 rfl rfl ?_
  refine Tr.iload_n (pc := 6) (i := 1) d_X10_choose_6 rfl rfl ?_
  refine Tr.putzS (pc := 7) (P := St Tru ws_X10_choose_103 as_X10_choose_103 M0) d_X10_choose_7 f_10_52 (by decide) (ty_103 hS.1.1) (by omega) (st_103_1 hS (by decide) (by omega) trivial) (fun M7 hS w7 => ?_)
  refine Tr.iload_n (pc := 10) (i := 1) d_X10_choose_10 rfl rfl ?_
  refine Tr.if_eq (pc := 11) (tgt := 21) d_X10_choose_11 rfl (fun c11 => ?_) (fun c11 => ?_)
  · refine Tr.aload_n (pc := 21) (i := 0) d_X10_choose_21 rfl rfl ?_
    refine Tr.getf (pc := 22) d_X10_choose_22 f_10_50 (by decide) (by decide) (ty_103 hS.1.1) ?_
    refine Tr.gen (P := fun v => (-2147483648) ≤ v ∧ v ≤ 2147483647) (ir_103_3 hS.1.2.1) (fun r22 er22 br22 => ?_)
    exact Tr.iret (pc := 25) d_X10_choose_25 rfl ⟨hS, _, rfl, by omega, by omega⟩
  · refine Tr.aload_n (pc := 14) (i := 0) d_X10_choose_14 rfl rfl ?_
    refine Tr.getf (pc := 15) d_X10_choose_15 f_10_46 (by decide) (by decide) (ty_103 hS.1.1) ?_
    refine Tr.gen (P := fun v => (-2147483648) ≤ v ∧ v ≤ 2147483647) (ir_103_2 hS.1.2.1) (fun r15 er15 br15 => ?_)
    refine Tr.goto (pc := 18) (tgt := 25) d_X10_choose_18 rfl ?_
    exact Tr.iret (pc := 25) d_X10_choose_25 rfl ⟨hS, _, rfl, by omega, by omega⟩
end
/-! 30.08 -/
section
def ws_X6_begin_74_7_104 : List (Int × Int) := [(74, 1), (74, 9), (74, 11), (74, 12), (74, 13), (74, 14), (74, 15), (74, 16), (74, 17), (82, 1)]
def as_X6_begin_74_7_104 : List Int := [75, 76, 78, 79, 80, 81, 83]
def q_X6_begin_74_7_104 (a3 : Int) (M0 M' : Mem) (r : Option PV) : Prop := St Tru ws_X6_begin_74_7_104 as_X6_begin_74_7_104 M0 M' ∧ rd M' 74 1 = 7 ∧ rd M' 82 1 = 7 ∧ r = none
set_option maxRecDepth 100000 in
set_option maxHeartbeats 4000000 in
theorem sp_X6_begin_74_7_104 {l : Launch} {K : EC} {M0 : Mem} (hI : In Tru M0)  (a3 : Int) (ha3 : (-1) ≤ a3 ∧ a3 ≤ (-1))  : Tr l K 2 mX6_begin 0 [(0, (2, 74)), (1, (2, 7)), (2, (2, 104)), (3, (0, a3))] [] M0 (q_X6_begin_74_7_104 a3 M0) := by
  have hS : St Tru ws_X6_begin_74_7_104 as_X6_begin_74_7_104 M0 M0 := St.rf hI
  refine Tr.aload_n (pc := 0) (i := 0) d_X6_begin_0 rfl rfl ?_
  refine Tr.aload_n (pc := 1) (i := 1) d_X6_begin_1 rfl rfl ?_
  refine Tr.putfS (pc := 2) (P := St Tru ws_X6_begin_74_7_104 as_X6_begin_74_7_104 M0) d_X6_begin_2 f_6_46 (by decide) (by decide) (ty_74 hS.1.1) (st_74_1 hS (by decide) (by omega) trivial) (fun M2 hS w2 => ?_)
  refine Tr.aload_n (pc := 5) (i := 2) d_X6_begin_5 rfl rfl ?_
  refine Tr.iconst (pc := 6) d_X6_begin_6 (by decide) ?_
  refine Tr.aload_n (pc := 7) (i := 0) d_X6_begin_7 rfl rfl ?_
  refine Tr.getf (pc := 8) d_X6_begin_8 f_6_9 (by decide) (by decide) (ty_74 hS.1.1) ?_
  refine Tr.tp 75 (fx_74_2 hS.1.1) ?_
  refine Tr.iconst (pc := 11) d_X6_begin_11 (by decide) ?_
  refine Tr.iconst (pc := 12) d_X6_begin_12 (by decide) ?_
  refine Tr.acopyS (pc := 13) (x := 104) (y := 75) (P := St Tru ws_X6_begin_74_7_104 as_X6_begin_74_7_104 M0) d_X6_begin_13 ac_6_85 acw.1 acw.2.1 acw.2.2 (ty_104 hS.1.1) (ty_75 hS.1.1) (by omega) (by omega) (by omega) (by omega) (by omega) (Nat.le_of_ble_eq_true rfl) (sw_75 hS (by decide) rfl rfl rfl (fun z i hz => by rw [rd_cpy, if_neg (fun c => hz c.1)]) (fun i => by rw [rd_cpy]; split; exact And.intro (by have := ar_104 hS.1.2.1 (0 + (i - 0)); omega) (by have := ar_104 hS.1.2.1 (0 + (i - 0)); omega); exact ar_75 hS.1.2.1 i) trivial) (fun M13 hS w13 => ?_)
  refine Tr.aload_n (pc := 16) (i := 0) d_X6_begin_16 rfl rfl ?_
  refine Tr.getf (pc := 17) d_X6_begin_17 f_6_15 (by decide) (by decide) (ty_74 hS.1.1) ?_
  refine Tr.tp 76 (fx_74_3 hS.1.1) ?_
  refine Tr.iconst (pc := 20) d_X6_begin_20 (by decide) ?_
  refine Tr.callS (pc := 21) (as := [_, _]) d_X6_begin_21 s_6_91 ok_J7_fill_53178 rfl rfl (Nat.le_of_ble_eq_true rfl) (Nat.le_of_ble_eq_true rfl) ?_
  refine Tr.imp (sp_fill (N := 6) (ty_76 hS.1.1) (by decide)) ?_
  rintro _ _ ⟨rfl, rfl⟩
  refine Tr.nmA (P := St Tru ws_X6_begin_74_7_104 as_X6_begin_74_7_104 M0) (sf_76 (v := 0) 6 hS (by decide) (by omega) trivial) (fil_wa _ _ _ _) (fun M21 hS w21 => ?_)
  refine Tr.sc [] rfl ?_
  refine Tr.aload_n (pc := 24) (i := 0) d_X6_begin_24 rfl rfl ?_
  refine Tr.getf (pc := 25) d_X6_begin_25 f_6_21 (by decide) (by decide) (ty_74 hS.1.1) ?_
  refine Tr.tp 78 (fx_74_5 hS.1.1) ?_
  refine Tr.iconst (pc := 28) d_X6_begin_28 (by decide) ?_
  refine Tr.callS (pc := 29) (as := [_, _]) d_X6_begin_29 s_6_91 ok_J7_fill_53178 rfl rfl (Nat.le_of_ble_eq_true rfl) (Nat.le_of_ble_eq_true rfl) ?_
  refine Tr.imp (sp_fill (N := 8) (ty_78 hS.1.1) (by decide)) ?_
  rintro _ _ ⟨rfl, rfl⟩
  refine Tr.nmA (P := St Tru ws_X6_begin_74_7_104 as_X6_begin_74_7_104 M0) (sf_78 (v := (-1)) 8 hS (by decide) (by omega) trivial) (fil_wa _ _ _ _) (fun M29 hS w29 => ?_)
  refine Tr.sc [] rfl ?_
  refine Tr.aload_n (pc := 32) (i := 0) d_X6_begin_32 rfl rfl ?_
  refine Tr.getf (pc := 33) d_X6_begin_33 f_6_24 (by decide) (by decide) (ty_74 hS.1.1) ?_
  refine Tr.tp 79 (fx_74_6 hS.1.1) ?_
  refine Tr.iconst (pc := 36) d_X6_begin_36 (by decide) ?_
  refine Tr.callS (pc := 37) (as := [_, _]) d_X6_begin_37 s_6_91 ok_J7_fill_53178 rfl rfl (Nat.le_of_ble_eq_true rfl) (Nat.le_of_ble_eq_true rfl) ?_
  refine Tr.imp (sp_fill (N := 6) (ty_79 hS.1.1) (by decide)) ?_
  rintro _ _ ⟨rfl, rfl⟩
  refine Tr.nmA (P := St Tru ws_X6_begin_74_7_104 as_X6_begin_74_7_104 M0) (sf_79 (v := 0) 6 hS (by decide) (by omega) trivial) (fil_wa _ _ _ _) (fun M37 hS w37 => ?_)
  refine Tr.sc [] rfl ?_
  refine Tr.aload_n (pc := 40) (i := 0) d_X6_begin_40 rfl rfl ?_
  refine Tr.getf (pc := 41) d_X6_begin_41 f_6_27 (by decide) (by decide) (ty_74 hS.1.1) ?_
  refine Tr.tp 80 (fx_74_7 hS.1.1) ?_
  refine Tr.iconst (pc := 44) d_X6_begin_44 (by decide) ?_
  refine Tr.callS (pc := 45) (as := [_, _]) d_X6_begin_45 s_6_91 ok_J7_fill_53178 rfl rfl (Nat.le_of_ble_eq_true rfl) (Nat.le_of_ble_eq_true rfl) ?_
  refine Tr.imp (sp_fill (N := 6) (ty_80 hS.1.1) (by decide)) ?_
  rintro _ _ ⟨rfl, rfl⟩
  refine Tr.nmA (P := St Tru ws_X6_begin_74_7_104 as_X6_begin_74_7_104 M0) (sf_80 (v := 0) 6 hS (by decide) (by omega) trivial) (fil_wa _ _ _ _) (fun M45 hS w45 => ?_)
  refine Tr.sc [] rfl ?_
  refine Tr.aload_n (pc := 48) (i := 0) d_X6_begin_48 rfl rfl ?_
  refine Tr.getf (pc := 49) d_X6_begin_49 f_6_30 (by decide) (by decide) (ty_74 hS.1.1) ?_
  refine Tr.tp 81 (fx_74_8 hS.1.1) ?_
  refine Tr.iconst (pc := 52) d_X6_begin_52 (by decide) ?_
  refine Tr.callS (pc := 53) (as := [_, _]) d_X6_begin_53 s_6_91 ok_J7_fill_53178 rfl rfl (Nat.le_of_ble_eq_true rfl) (Nat.le_of_ble_eq_true rfl) ?_
  refine Tr.imp (sp_fill (N := 6) (ty_81 hS.1.1) (by decide)) ?_
  rintro _ _ ⟨rfl, rfl⟩
  refine Tr.nmA (P := St Tru ws_X6_begin_74_7_104 as_X6_begin_74_7_104 M0) (sf_81 (v := 0) 6 hS (by decide) (by omega) trivial) (fil_wa _ _ _ _) (fun M53 hS w53 => ?_)
  refine Tr.sc [] rfl ?_
  refine Tr.aload_n (pc := 56) (i := 0) d_X6_begin_56 rfl rfl ?_
  refine Tr.iconst (pc := 57) d_X6_begin_57 (by decide) ?_
  refine Tr.putfS (pc := 58) (P := St Tru ws_X6_begin_74_7_104 as_X6_begin_74_7_104 M0) d_X6_begin_58 f_6_68 (by decide) (by decide) (ty_74 hS.1.1) (st_74_9 hS (by decide) (by omega) trivial) (fun M58 hS w58 => ?_)
  refine Tr.aload_n (pc := 61) (i := 0) d_X6_begin_61 rfl rfl ?_
  refine Tr.iconst (pc := 62) d_X6_begin_62 (by decide) ?_
  refine Tr.putfS (pc := 63) (P := St Tru ws_X6_begin_74_7_104 as_X6_begin_74_7_104 M0) d_X6_begin_63 f_6_97 (by decide) (by decide) (ty_74 hS.1.1) (st_74_11 hS (by decide) (by omega) trivial) (fun M63 hS w63 => ?_)
  refine Tr.aload_n (pc := 66) (i := 0) d_X6_begin_66 rfl rfl ?_
  refine Tr.iconst (pc := 67) d_X6_begin_67 (by decide) ?_
  refine Tr.putfS (pc := 68) (P := St Tru ws_X6_begin_74_7_104 as_X6_begin_74_7_104 M0) d_X6_begin_68 f_6_100 (by decide) (by decide) (ty_74 hS.1.1) (st_74_12 hS (by decide) (by omega) trivial) (fun M68 hS w68 => ?_)
  refine Tr.aload_n (pc := 71) (i := 0) d_X6_begin_71 rfl rfl ?_
  refine Tr.iconst (pc := 72) d_X6_begin_72 (by decide) ?_
  refine Tr.putfS (pc := 73) (P := St Tru ws_X6_begin_74_7_104 as_X6_begin_74_7_104 M0) d_X6_begin_73 f_6_103 (by decide) (by decide) (ty_74 hS.1.1) (st_74_13 hS (by decide) (by omega) trivial) (fun M73 hS w73 => ?_)
  refine Tr.aload_n (pc := 76) (i := 0) d_X6_begin_76 rfl rfl ?_
  refine Tr.iconst (pc := 77) d_X6_begin_77 (by decide) ?_
  refine Tr.putfS (pc := 78) (P := St Tru ws_X6_begin_74_7_104 as_X6_begin_74_7_104 M0) d_X6_begin_78 f_6_62 (by decide) (by decide) (ty_74 hS.1.1) (st_74_14 hS (by decide) (by omega) trivial) (fun M78 hS w78 => ?_)
  refine Tr.aload_n (pc := 81) (i := 0) d_X6_begin_81 rfl rfl ?_
  refine Tr.iconst (pc := 82) d_X6_begin_82 (by decide) ?_
  refine Tr.putfS (pc := 83) (P := St Tru ws_X6_begin_74_7_104 as_X6_begin_74_7_104 M0) d_X6_begin_83 f_6_79 (by decide) (by decide) (ty_74 hS.1.1) (st_74_15 hS (by decide) (by omega) trivial) (fun M83 hS w83 => ?_)
  refine Tr.aload_n (pc := 86) (i := 0) d_X6_begin_86 rfl rfl ?_
  refine Tr.iload_n (pc := 87) (i := 3) d_X6_begin_87 rfl rfl ?_
  refine Tr.tp (-1) (by omega) ?_
  refine Tr.if_lt (pc := 88) (tgt := 95) d_X6_begin_88 rfl (fun _ => ?_) (fun hc => absurd (by omega) hc)
  refine Tr.iconst (pc := 95) d_X6_begin_95 (by decide) ?_
  refine Tr.putzS (pc := 96) (P := St Tru ws_X6_begin_74_7_104 as_X6_begin_74_7_104 M0) d_X6_begin_96 f_6_106 (by decide) (ty_74 hS.1.1) (by omega) (st_74_16 hS (by decide) (by omega) trivial) (fun M96 hS w96 => ?_)
  refine Tr.aload_n (pc := 99) (i := 0) d_X6_begin_99 rfl rfl ?_
  refine Tr.iload_n (pc := 100) (i := 3) d_X6_begin_100 rfl rfl ?_
  refine Tr.tp (-1) (by omega) ?_
  refine Tr.putfS (pc := 101) (P := St Tru ws_X6_begin_74_7_104 as_X6_begin_74_7_104 M0) d_X6_begin_101 f_6_110 (by decide) (by decide) (ty_74 hS.1.1) (st_74_17 hS (by decide) (by omega) trivial) (fun M101 hS w101 => ?_)
  refine Tr.aload_n (pc := 104) (i := 0) d_X6_begin_104 rfl rfl ?_
  refine Tr.getf (pc := 105) d_X6_begin_105 f_6_38 (by decide) (by decide) (ty_74 hS.1.1) ?_
  refine Tr.tp 82 (fx_74_0 hS.1.1) ?_
  refine Tr.aload_n (pc := 108) (i := 1) d_X6_begin_108 rfl rfl ?_
  refine Tr.callV (pc := 109) (as := [_]) d_X6_begin_109 s_6_113 ok_X1_begin rfl rfl (Nat.le_of_ble_eq_true rfl) (Nat.le_of_ble_eq_true rfl) (by decide) (ty_82 hS.1.1) ?_
  refine Tr.imp (Tr.deep (by decide) (sp_X1_begin_82_7 hS.1 )) ?_
  rintro M109 _ ⟨h109, o109_82_1, rfl⟩
  have hS := St.tr hS h109 (by decide) (by decide)
  refine Tr.sc [] rfl ?_
  exact Tr.vret (pc := 112) d_X6_begin_112 rfl ⟨hS, ((St.kp h109 (by decide) (by decide) (by decide)).trans ((Wr.b w101 rfl).trans ((Wr.b w96 rfl).trans ((Wr.b w83 rfl).trans ((Wr.b w78 rfl).trans ((Wr.b w73 rfl).trans ((Wr.b w68 rfl).trans ((Wr.b w63 rfl).trans ((Wr.b w58 rfl).trans ((Wa.b w53 rfl).trans ((Wa.b w45 rfl).trans ((Wa.b w37 rfl).trans ((Wa.b w29 rfl).trans ((Wa.b w21 rfl).trans ((Wa.b w13 rfl).trans w2.1))))))))))))))), o109_82_1, rfl⟩

def ws_X6_go_74_7_104 : List (Int × Int) := [(74, 1), (74, 9), (74, 10), (74, 11), (74, 12), (74, 13), (74, 14), (74, 15), (74, 16), (74, 17), (82, 1)]
def as_X6_go_74_7_104 : List Int := [75, 76, 77, 78, 79, 80, 81, 83]
def q_X6_go_74_7_104 (M0 M' : Mem) (r : Option PV) : Prop := St Tru ws_X6_go_74_7_104 as_X6_go_74_7_104 M0 M' ∧ rd M' 74 1 = 7 ∧ rd M' 82 1 = 7 ∧ r = none
set_option maxRecDepth 100000 in
set_option maxHeartbeats 4000000 in
theorem sp_X6_go_74_7_104 {l : Launch} {K : EC} {M0 : Mem} (hI : In Tru M0)  (a3 : Int) (ha3 : (-1) ≤ a3 ∧ a3 ≤ (-1))  (hF_Y15 : Yn15 M0) : Tr l K 5 mX6_go 0 [(0, (2, 74)), (1, (2, 7)), (2, (2, 104)), (3, (0, a3))] [] M0 (q_X6_go_74_7_104 M0) := by
  have hS : St Tru ws_X6_go_74_7_104 as_X6_go_74_7_104 M0 M0 := St.rf hI
  obtain ⟨g15_0, eg15_0⟩ : ∃ v, rd M0 15 0 = v := ⟨_, rfl⟩
  have bg15_0 : 0 ≤ g15_0 ∧ g15_0 ≤ 60 := by rw [← eg15_0]; exact ir_15_0 hI.2.1
  refine Tr.aload_n (pc := 0) (i := 0) d_X6_go_0 rfl rfl ?_
  refine Tr.aload_n (pc := 1) (i := 1) d_X6_go_1 rfl rfl ?_
  refine Tr.aload_n (pc := 2) (i := 2) d_X6_go_2 rfl rfl ?_
  refine Tr.iload_n (pc := 3) (i := 3) d_X6_go_3 rfl rfl ?_
  refine Tr.tp (-1) (by omega) ?_
  refine Tr.callV (pc := 4) (as := [_, _, _]) d_X6_go_4 s_6_42 ok_X6_begin rfl rfl (Nat.le_of_ble_eq_true rfl) (Nat.le_of_ble_eq_true rfl) (by decide) (ty_74 hS.1.1) ?_
  refine Tr.imp (Tr.deep (by decide) (sp_X6_begin_74_7_104 hS.1 (-1) (by omega))) ?_
  rintro M4 _ ⟨h4, o4_74_1, o4_82_1, rfl⟩
  have hS := St.tr hS h4 (by decide) (by decide)
  refine Tr.sc [] rfl ?_
  refine Tr.iconst (pc := 7) d_X6_go_7 (by decide) ?_
  refine Tr.istore (pc := 8) (i := 4) (ls2 := [(4, (0, 0)), (0, (2, 74)), (1, (2, 7)), (2, (2, 104)), (3, (0, a3))]) d_X6_go_8 (by decide) rfl ?_
  refine Tr.iconst (pc := 10) d_X6_go_10 (by decide) ?_
  refine Tr.istore (pc := 11) (i := 5) (ls2 := [(5, (0, 0)), (4, (0, 0)), (0, (2, 74)), (1, (2, 7)), (2, (2, 104)), (3, (0, a3))]) d_X6_go_11 (by decide) rfl ?_
  have J13 : ∀ (n13 : Nat) (M : Mem) (p13_4 p13_5 : Int), St Tru ws_X6_go_74_7_104 as_X6_go_74_7_104 M0 M → (0 ≤ p13_4 ∧ p13_4 ≤ 2147483647) → (0 ≤ p13_5 ∧ p13_5 ≤ 2001) → rd M 15 0 = g15_0 → rd M 74 1 = 7 → rd M 82 1 = 7 → (2001 - p13_5).toNat < n13 → Tr l K 5 mX6_go 13 [(0, (2, 74)), (4, (0, p13_4)), (5, (0, p13_5))] [] M (q_X6_go_74_7_104 M0) := by
    intro n13
    induction n13 with
    | zero => intro M p13_4 p13_5 hS bp13_4 bp13_5 k13_15_0 k13_74_1 k13_82_1 hm13; exact absurd hm13 (Nat.not_lt_zero _)
    | succ n13 J13 =>
      intro M p13_4 p13_5 hS bp13_4 bp13_5 k13_15_0 k13_74_1 k13_82_1 hm13
      refine Tr.iload (pc := 13) (i := 5) d_X6_go_13 rfl ?_
      refine Tr.sipush (pc := 15) d_X6_go_15 rfl (by decide) ?_
      have J103 : ∀ (M : Mem), St Tru ws_X6_go_74_7_104 as_X6_go_74_7_104 M0 M → rd M 15 0 = g15_0 → rd M 74 1 = 7 → rd M 82 1 = 7 → Tr l K 5 mX6_go 103 [(0, (2, 74))] [] M (q_X6_go_74_7_104 M0) := by
        intro M  hS  k103_15_0 k103_74_1 k103_82_1
        refine Tr.aload_n (pc := 103) (i := 0) d_X6_go_103 rfl rfl ?_
        refine Tr.callV (pc := 104) (as := []) d_X6_go_104 s_6_82 ok_X6_finish rfl rfl (Nat.le_of_ble_eq_true rfl) (Nat.le_of_ble_eq_true rfl) (by decide) (ty_74 hS.1.1) ?_
        refine Tr.imp (Tr.deep (by decide) (sp_X6_finish_74 hS.1 k103_74_1 k103_82_1)) ?_
        rintro M104 _ ⟨h104, rfl⟩
        have hS := St.tr hS h104 (by decide) (by decide)
        refine Tr.sc [] rfl ?_
        exact Tr.vret (pc := 107) d_X6_go_107 rfl ⟨hS, ((St.kp h104 (by decide) (by decide) (by decide)).trans k103_74_1), ((St.kp h104 (by decide) (by decide) (by decide)).trans k103_82_1), rfl⟩
      refine Tr.icmp_gt (pc := 18) (tgt := 103) d_X6_go_18 rfl (fun c18 => ?_) (fun c18 => ?_)
      · refine Tr.pick [0] (ls2 := [(0, (2, 74))]) rfl ?_
        exact J103 _ hS k13_15_0 k13_74_1 k13_82_1
      · refine Tr.iload (pc := 21) (i := 4) d_X6_go_21 rfl ?_
        refine Tr.aload_n (pc := 23) (i := 0) d_X6_go_23 rfl rfl ?_
        refine Tr.getf (pc := 24) d_X6_go_24 f_6_46 (by decide) (by decide) (ty_74 hS.1.1) ?_
        refine Tr.tp 7 k13_74_1 ?_
        refine Tr.getf (pc := 27) d_X6_go_27 f_6_50 (by decide) (by decide) (ty_7 hS.1.1) ?_
        refine Tr.tp 15 (fx_7_11 hS.1.1) ?_
        refine Tr.getf (pc := 30) d_X6_go_30 f_6_56 (by decide) (by decide) (ty_15 hS.1.1) ?_
        refine Tr.tp g15_0 k13_15_0 ?_
        refine Tr.icmp_ge (pc := 33) (tgt := 103) d_X6_go_33 rfl (fun c33 => ?_) (fun c33 => ?_)
        · refine Tr.pick [0] (ls2 := [(0, (2, 74))]) rfl ?_
          exact J103 _ hS k13_15_0 k13_74_1 k13_82_1
        · refine Tr.aload_n (pc := 36) (i := 0) d_X6_go_36 rfl rfl ?_
          refine Tr.getf (pc := 37) d_X6_go_37 f_6_62 (by decide) (by decide) (ty_74 hS.1.1) ?_
          refine Tr.gen (P := fun v => (-2147483648) ≤ v ∧ v ≤ 2147483647) (ir_74_14 hS.1.2.1) (fun r37 er37 br37 => ?_)
          refine Tr.if_ne (pc := 40) (tgt := 103) d_X6_go_40 rfl (fun c40 => ?_) (fun c40 => ?_)
          · refine Tr.pick [0] (ls2 := [(0, (2, 74))]) rfl ?_
            exact J103 _ hS k13_15_0 k13_74_1 k13_82_1
          · refine Tr.aload_n (pc := 43) (i := 0) d_X6_go_43 rfl rfl ?_
            refine Tr.getf (pc := 44) d_X6_go_44 f_6_38 (by decide) (by decide) (ty_74 hS.1.1) ?_
            refine Tr.tp 82 (fx_74_0 hS.1.1) ?_
            refine Tr.callV (pc := 47) (as := []) d_X6_go_47 s_6_65 ok_X1_makeRoom rfl rfl (Nat.le_of_ble_eq_true rfl) (Nat.le_of_ble_eq_true rfl) (by decide) (ty_82 hS.1.1) ?_
            refine Tr.imp (Tr.deep (by decide) (sp_X1_makeRoom_82 hS.1 )) ?_
            rintro M47 _ ⟨h47, rfl⟩
            have hS := St.tr hS h47 (by decide) (by decide)
            refine Tr.sc [] rfl ?_
            refine Tr.aload_n (pc := 50) (i := 0) d_X6_go_50 rfl rfl ?_
            refine Tr.getf (pc := 51) d_X6_go_51 f_6_68 (by decide) (by decide) (ty_74 hS.1.1) ?_
            refine Tr.gen (P := fun v => (-2147483648) ≤ v ∧ v ≤ 2147483647) (ir_74_9 hS.1.2.1) (fun r51 er51 br51 => ?_)
            refine Tr.istore (pc := 54) (i := 6) (ls2 := [(6, (0, r51)), (0, (2, 74)), (4, (0, p13_4)), (5, (0, p13_5))]) d_X6_go_54 (by decide) rfl ?_
            refine Tr.aload_n (pc := 56) (i := 0) d_X6_go_56 rfl rfl ?_
            refine Tr.iload (pc := 57) (i := 4) d_X6_go_57 rfl ?_
            refine Tr.callV (pc := 59) (as := [_]) d_X6_go_59 s_6_71 ok_X6_step rfl rfl (Nat.le_of_ble_eq_true rfl) (Nat.le_of_ble_eq_true rfl) (by decide) (ty_74 hS.1.1) ?_
            have kb59_15_0 : rd M47 15 0 = g15_0 := ((St.kp h47 (by decide) (by decide) (by decide)).trans k13_15_0)
            refine Tr.imp (Tr.deep (by decide) (sp_X6_step_74_w1 hS.1 ((St.kp h47 (by decide) (by decide) (by decide)).trans k13_74_1) p13_4 (by omega) (by omega) (Yn15.of hF_Y15 (fun j => (St.ka hS (by decide) (by decide) (by decide))) (fun j => (St.ka hS (by decide) (by decide) (by decide))) (St.kp hS (by decide) (by decide) (by decide))))) ?_
            rintro M59 _ ⟨h59, r59, rfl, lr59, ur59⟩
            have hS := St.tr hS h59 (by decide) (by decide)
            refine Tr.sc [(0, r59)] rfl ?_
            refine Tr.istore (pc := 62) (i := 7) (ls2 := [(7, (0, r59)), (6, (0, r51)), (0, (2, 74)), (4, (0, p13_4)), (5, (0, p13_5))]) d_X6_go_62 (by decide) rfl ?_
            refine Tr.aload_n (pc := 64) (i := 0) d_X6_go_64 rfl rfl ?_
            refine Tr.getf (pc := 65) d_X6_go_65 f_6_38 (by decide) (by decide) (ty_74 hS.1.1) ?_
            refine Tr.tp 82 (fx_74_0 hS.1.1) ?_
            refine Tr.iload (pc := 68) (i := 4) d_X6_go_68 rfl ?_
            refine Tr.aload_n (pc := 70) (i := 0) d_X6_go_70 rfl rfl ?_
            refine Tr.getf (pc := 71) d_X6_go_71 f_6_68 (by decide) (by decide) (ty_74 hS.1.1) ?_
            refine Tr.gen (P := fun v => (-2147483648) ≤ v ∧ v ≤ 2147483647) (ir_74_9 hS.1.2.1) (fun r71 er71 br71 => ?_)
            refine Tr.iload (pc := 74) (i := 6) d_X6_go_74 rfl ?_
            refine Tr.isub (pc := 76) d_X6_go_76 ?_
            refine Tr.gen (P := fun v => (-2147483648) ≤ v ∧ v ≤ 2147483647) (w32_b _) (fun r76 er76 br76 => ?_)
            refine Tr.callV (pc := 77) (as := [_, _]) d_X6_go_77 s_6_75 ok_X1_payHeart rfl rfl (Nat.le_of_ble_eq_true rfl) (Nat.le_of_ble_eq_true rfl) (by decide) (ty_82 hS.1.1) ?_
            refine Tr.imp (Tr.deep (by decide) (sp_X1_payHeart_82_w1 hS.1 p13_4 (by omega) r76 (by omega))) ?_
            rintro M77 _ ⟨h77, rfl⟩
            have hS := St.tr hS h77 (by decide) (by decide)
            refine Tr.sc [] rfl ?_
            refine Tr.aload_n (pc := 80) (i := 0) d_X6_go_80 rfl rfl ?_
            refine Tr.getf (pc := 81) d_X6_go_81 f_6_62 (by decide) (by decide) (ty_74 hS.1.1) ?_
            refine Tr.gen (P := fun v => (-2147483648) ≤ v ∧ v ≤ 2147483647) (ir_74_14 hS.1.2.1) (fun r81 er81 br81 => ?_)
            have J93 : ∀ (M : Mem), St Tru ws_X6_go_74_7_104 as_X6_go_74_7_104 M0 M → rd M 15 0 = g15_0 → rd M 74 1 = 7 → rd M 74 14 = r81 → rd M 74 9 = r71 → rd M 82 1 = 7 → Tr l K 5 mX6_go 93 [(0, (2, 74)), (5, (0, p13_5)), (7, (0, r59))] [] M (q_X6_go_74_7_104 M0) := by
              intro M  hS  k93_15_0 k93_74_1 k93_74_14 k93_74_9 k93_82_1
              refine Tr.iload (pc := 93) (i := 7) d_X6_go_93 rfl ?_
              refine Tr.istore (pc := 95) (i := 4) (ls2 := [(4, (0, r59)), (0, (2, 74)), (5, (0, p13_5)), (7, (0, r59))]) d_X6_go_95 (by decide) rfl ?_
              refine Tr.iincV (pc := 97) (n2 := (p13_5 + 1)) (ls2 := [(5, (0, (p13_5 + 1))), (4, (0, r59)), (0, (2, 74)), (7, (0, r59))]) d_X6_go_97 rfl (by decide) ((w32_id (by omega)).trans (by omega)) rfl ?_
              refine Tr.goto (pc := 100) (tgt := 13) d_X6_go_100 rfl ?_
              refine Tr.pick [2, 1, 0] (ls2 := [(0, (2, 74)), (4, (0, r59)), (5, (0, (p13_5 + 1)))]) rfl ?_
              exact J13 _ _ _ hS (by omega) (by omega) k93_15_0 k93_74_1 k93_82_1 (by omega)
            refine Tr.if_eq (pc := 84) (tgt := 93) d_X6_go_84 rfl (fun c84 => ?_) (fun c84 => ?_)
            · refine Tr.pick [2, 4, 0] (ls2 := [(0, (2, 74)), (5, (0, p13_5)), (7, (0, r59))]) rfl ?_
              exact J93 _ hS ((St.kp h77 (by decide) (by decide) (by decide)).trans ((St.kp h59 (by decide) (by decide) (by decide)).trans ((St.kp h47 (by decide) (by decide) (by decide)).trans k13_15_0))) ((St.kp h77 (by decide) (by decide) (by decide)).trans ((St.kp h59 (by decide) (by decide) (by decide)).trans ((St.kp h47 (by decide) (by decide) (by decide)).trans k13_74_1))) er81 ((St.kp h77 (by decide) (by decide) (by decide)).trans er71) ((St.kp h77 (by decide) (by decide) (by decide)).trans ((St.kp h59 (by decide) (by decide) (by decide)).trans ((St.kp h47 (by decide) (by decide) (by decide)).trans k13_82_1)))
            · refine Tr.aload_n (pc := 87) (i := 0) d_X6_go_87 rfl rfl ?_
              refine Tr.iload (pc := 88) (i := 4) d_X6_go_88 rfl ?_
              refine Tr.putfS (pc := 90) (P := St Tru ws_X6_go_74_7_104 as_X6_go_74_7_104 M0) d_X6_go_90 f_6_79 (by decide) (by decide) (ty_74 hS.1.1) (st_74_15 hS (by decide) (by omega) trivial) (fun M90 hS w90 => ?_)
              refine Tr.pick [2, 4, 0] (ls2 := [(0, (2, 74)), (5, (0, p13_5)), (7, (0, r59))]) rfl ?_
              exact J93 _ hS ((Wr.b w90 rfl).trans ((St.kp h77 (by decide) (by decide) (by decide)).trans ((St.kp h59 (by decide) (by decide) (by decide)).trans ((St.kp h47 (by decide) (by decide) (by decide)).trans k13_15_0)))) ((Wr.b w90 rfl).trans ((St.kp h77 (by decide) (by decide) (by decide)).trans ((St.kp h59 (by decide) (by decide) (by decide)).trans ((St.kp h47 (by decide) (by decide) (by decide)).trans k13_74_1)))) ((Wr.b w90 rfl).trans er81) ((Wr.b w90 rfl).trans ((St.kp h77 (by decide) (by decide) (by decide)).trans er71)) ((Wr.b w90 rfl).trans ((St.kp h77 (by decide) (by decide) (by decide)).trans ((St.kp h59 (by decide) (by decide) (by decide)).trans ((St.kp h47 (by decide) (by decide) (by decide)).trans k13_82_1))))
  refine Tr.pick [2, 1, 0] (ls2 := [(0, (2, 74)), (4, (0, 0)), (5, (0, 0))]) rfl ?_
  exact J13 _ _ _ _ hS (by omega) (by omega) ((St.kp h4 (by decide) (by decide) (by decide)).trans eg15_0) o4_74_1 o4_82_1 (Nat.lt_succ_self _)

def ws_X10_turnOn_103_7 : List (Int × Int) := []
def as_X10_turnOn_103_7 : List Int := [104]
def q_X10_turnOn_103_7 (M0 M' : Mem) (r : Option PV) : Prop := St Tru ws_X10_turnOn_103_7 as_X10_turnOn_103_7 M0 M' ∧ r = none
set_option maxRecDepth 100000 in
set_option maxHeartbeats 4000000 in
theorem sp_X10_turnOn_103_7 {l : Launch} {K : EC} {M0 : Mem} (hI : In Tru M0)    : Tr l K 0 mX10_turnOn 0 [(0, (2, 103)), (1, (2, 7))] [] M0 (q_X10_turnOn_103_7 M0) := by
  have hS : St Tru ws_X10_turnOn_103_7 as_X10_turnOn_103_7 M0 M0 := St.rf hI
  refine Tr.aload_n (pc := 0) (i := 1) d_X10_turnOn_0 rfl rfl ?_
  refine Tr.getf (pc := 1) d_X10_turnOn_1 f_10_25 (by decide) (by decide) (ty_7 hS.1.1) ?_
  refine Tr.tp 8 (fx_7_4 hS.1.1) ?_
  refine Tr.iconst (pc := 4) d_X10_turnOn_4 (by decide) ?_
  refine Tr.iald (pc := 5) d_X10_turnOn_5 (ty_8 hS.1.1) (by omega) (by omega) ?_
  refine Tr.gen (P := fun v => 0 ≤ v ∧ v ≤ 3) (ir_8_1 hS.1.2.1) (fun r5 er5 br5 => ?_)
  refine Tr.iconst (pc := 6) d_X10_turnOn_6 (by decide) ?_
  refine Tr.isub (pc := 7) d_X10_turnOn_7 ?_
  refine Tr.tp (r5 - 1) ((w32_id (by omega)).trans (by omega)) ?_
  refine Tr.istore_n (pc := 8) (i := 2) (ls2 := [(2, (0, (r5 - 1))), (0, (2, 103)), (1, (2, 7))]) d_X10_turnOn_8 rfl (by decide) rfl ?_
  have J9 : ∀ (n9 : Nat) (M : Mem) (p9_2 : Int), St Tru ws_X10_turnOn_103_7 as_X10_turnOn_103_7 M0 M → ((-1) ≤ p9_2 ∧ p9_2 ≤ 2) → rd M 8 1 = r5 → (p9_2 - (-1)).toNat < n9 → Tr l K 0 mX10_turnOn 9 [(0, (2, 103)), (1, (2, 7)), (2, (0, p9_2))] [] M (q_X10_turnOn_103_7 M0) := by
    intro n9
    induction n9 with
    | zero => intro M p9_2 hS bp9_2 k9_8_1 hm9; exact absurd hm9 (Nat.not_lt_zero _)
    | succ n9 J9 =>
      intro M p9_2 hS bp9_2 k9_8_1 hm9
      refine Tr.iload_n (pc := 9) (i := 2) d_X10_turnOn_9 rfl rfl ?_
      refine Tr.if_lt (pc := 10) (tgt := 57) d_X10_turnOn_10 rfl (fun c10 => ?_) (fun c10 => ?_)
      · exact Tr.vret (pc := 57) d_X10_turnOn_57 rfl ⟨hS, rfl⟩
      · refine Tr.aload_n (pc := 13) (i := 0) d_X10_turnOn_13 rfl rfl ?_
        refine Tr.getf (pc := 14) d_X10_turnOn_14 f_10_9 (by decide) (by decide) (ty_103 hS.1.1) ?_
        refine Tr.tp 104 (fx_103_4 hS.1.1) ?_
        refine Tr.iload_n (pc := 17) (i := 2) d_X10_turnOn_17 rfl rfl ?_
        refine Tr.iald (pc := 18) d_X10_turnOn_18 (ty_104 hS.1.1) (by omega) (by omega) ?_
        refine Tr.gen (P := fun v => (-2147483648) ≤ v ∧ v ≤ 2147483647) (ar_104 hS.1.2.1 _) (fun r18 er18 br18 => ?_)
        refine Tr.aload_n (pc := 19) (i := 1) d_X10_turnOn_19 rfl rfl ?_
        refine Tr.getf (pc := 20) d_X10_turnOn_20 f_10_30 (by decide) (by decide) (ty_7 hS.1.1) ?_
        refine Tr.tp 13 (fx_7_9 hS.1.1) ?_
        refine Tr.iload_n (pc := 23) (i := 2) d_X10_turnOn_23 rfl rfl ?_
        refine Tr.iald (pc := 24) d_X10_turnOn_24 (ty_13 hS.1.1) (by omega) (by omega) ?_
        refine Tr.gen (P := fun v => (-1) ≤ v ∧ v ≤ 99) (ar_13 hS.1.2.1 _) (fun r24 er24 br24 => ?_)
        refine Tr.icmp_ge (pc := 25) (tgt := 39) d_X10_turnOn_25 rfl (fun c25 => ?_) (fun c25 => ?_)
        · refine Tr.aload_n (pc := 39) (i := 0) d_X10_turnOn_39 rfl rfl ?_
          refine Tr.getf (pc := 40) d_X10_turnOn_40 f_10_9 (by decide) (by decide) (ty_103 hS.1.1) ?_
          refine Tr.tp 104 (fx_103_4 hS.1.1) ?_
          refine Tr.iload_n (pc := 43) (i := 2) d_X10_turnOn_43 rfl rfl ?_
          refine Tr.aload_n (pc := 44) (i := 1) d_X10_turnOn_44 rfl rfl ?_
          refine Tr.getf (pc := 45) d_X10_turnOn_45 f_10_33 (by decide) (by decide) (ty_7 hS.1.1) ?_
          refine Tr.tp 12 (fx_7_8 hS.1.1) ?_
          refine Tr.iload_n (pc := 48) (i := 2) d_X10_turnOn_48 rfl rfl ?_
          refine Tr.iald (pc := 49) d_X10_turnOn_49 (ty_12 hS.1.1) (by omega) (by omega) ?_
          refine Tr.gen (P := fun v => (-1) ≤ v ∧ v ≤ 99) (ar_12 hS.1.2.1 _) (fun r49 er49 br49 => ?_)
          refine Tr.iastS (pc := 50) (P := St Tru ws_X10_turnOn_103_7 as_X10_turnOn_103_7 M0) d_X10_turnOn_50 (ty_104 hS.1.1) (by omega) (by omega) (sa_104 hS (by decide) (by omega) trivial) (fun M50 hS w50 => ?_)
          refine Tr.iincV (pc := 51) (n2 := (p9_2 - 1)) (ls2 := [(2, (0, (p9_2 - 1))), (0, (2, 103)), (1, (2, 7))]) d_X10_turnOn_51 rfl (by decide) ((w32_id (by omega)).trans (by omega)) rfl ?_
          refine Tr.goto (pc := 54) (tgt := 9) d_X10_turnOn_54 rfl ?_
          refine Tr.pick [1, 2, 0] (ls2 := [(0, (2, 103)), (1, (2, 7)), (2, (0, (p9_2 - 1)))]) rfl ?_
          exact J9 _ _ hS (by omega) ((Wr.b w50 rfl).trans k9_8_1) (by omega)
        · refine Tr.aload_n (pc := 28) (i := 0) d_X10_turnOn_28 rfl rfl ?_
          refine Tr.getf (pc := 29) d_X10_turnOn_29 f_10_9 (by decide) (by decide) (ty_103 hS.1.1) ?_
          refine Tr.tp 104 (fx_103_4 hS.1.1) ?_
          refine Tr.iload_n (pc := 32) (i := 2) d_X10_turnOn_32 rfl rfl ?_
          refine Tr.dup2 (pc := 33) d_X10_turnOn_33 ne01 ne21 ?_
          refine Tr.iald (pc := 34) d_X10_turnOn_34 (ty_104 hS.1.1) (by omega) (by omega) ?_
          refine Tr.tp r18 er18 ?_
          refine Tr.iconst (pc := 35) d_X10_turnOn_35 (by decide) ?_
          refine Tr.iadd (pc := 36) d_X10_turnOn_36 ?_
          refine Tr.tp (r18 + 1) ((w32_id (by omega)).trans (by omega)) ?_
          refine Tr.iastS (pc := 37) (P := St Tru ws_X10_turnOn_103_7 as_X10_turnOn_103_7 M0) d_X10_turnOn_37 (ty_104 hS.1.1) (by omega) (by omega) (sa_104 hS (by decide) (by omega) trivial) (fun M37 hS w37 => ?_)
          exact Tr.vret (pc := 38) d_X10_turnOn_38 rfl ⟨hS, rfl⟩
  refine Tr.pick [1, 2, 0] (ls2 := [(0, (2, 103)), (1, (2, 7)), (2, (0, (r5 - 1)))]) rfl ?_
  exact J9 _ _ _ hS (by omega) er5 (Nat.lt_succ_self _)

def ws_X10_compare_103_w1 : List (Int × Int) := [(103, 2), (103, 3)]
def as_X10_compare_103_w1 : List Int := [105, 106]
def q_X10_compare_103_w1 (M0 M' : Mem) (r : Option PV) : Prop := St Tru ws_X10_compare_103_w1 as_X10_compare_103_w1 M0 M' ∧ r = none
set_option maxRecDepth 100000 in
set_option maxHeartbeats 4000000 in
theorem sp_X10_compare_103_w1 {l : Launch} {K : EC} {M0 : Mem} (hI : In Tru M0)  (a1 : Int) (ha1 : (-2147483648) ≤ a1 ∧ a1 ≤ 2147483647) (a2 : Int) (ha2 : 0 ≤ a2 ∧ a2 ≤ 1)  : Tr l K 1 mX10_compare 0 [(0, (2, 103)), (1, (0, a1)), (2, (0, a2))] [] M0 (q_X10_compare_103_w1 M0) := by
  have hS : St Tru ws_X10_compare_103_w1 as_X10_compare_103_w1 M0 M0 := St.rf hI
  refine Tr.iload_n (pc := 0) (i := 2) d_X10_compare_0 rfl rfl ?_
  have J31 : ∀ (M : Mem), St Tru ws_X10_compare_103_w1 as_X10_compare_103_w1 M0 M → Tr l K 1 mX10_compare 31 [(0, (2, 103)), (1, (0, a1)), (2, (0, a2))] [] M (q_X10_compare_103_w1 M0) := by
    intro M  hS  
    refine Tr.iload_n (pc := 31) (i := 2) d_X10_compare_31 rfl rfl ?_
    have J43 : ∀ (M : Mem), St Tru ws_X10_compare_103_w1 as_X10_compare_103_w1 M0 M → Tr l K 1 mX10_compare 43 [(0, (2, 103)), (1, (0, a1))] [] M (q_X10_compare_103_w1 M0) := by
      intro M  hS  
      refine Tr.aload_n (pc := 43) (i := 0) d_X10_compare_43 rfl rfl ?_
      refine Tr.iload_n (pc := 44) (i := 1) d_X10_compare_44 rfl rfl ?_
      refine Tr.putfS (pc := 45) (P := St Tru ws_X10_compare_103_w1 as_X10_compare_103_w1 M0) d_X10_compare_45 f_10_50 (by decide) (by decide) (ty_103 hS.1.1) (st_103_3 hS (by decide) (by omega) trivial) (fun M45 hS w45 => ?_)
      refine Tr.aload_n (pc := 48) (i := 0) d_X10_compare_48 rfl rfl ?_
      refine Tr.getf (pc := 49) d_X10_compare_49 f_10_9 (by decide) (by decide) (ty_103 hS.1.1) ?_
      refine Tr.tp 104 (fx_103_4 hS.1.1) ?_
      refine Tr.iconst (pc := 52) d_X10_compare_52 (by decide) ?_
      refine Tr.aload_n (pc := 53) (i := 0) d_X10_compare_53 rfl rfl ?_
      refine Tr.getf (pc := 54) d_X10_compare_54 f_10_18 (by decide) (by decide) (ty_103 hS.1.1) ?_
      refine Tr.tp 106 (fx_103_6 hS.1.1) ?_
      refine Tr.iconst (pc := 57) d_X10_compare_57 (by decide) ?_
      refine Tr.iconst (pc := 58) d_X10_compare_58 (by decide) ?_
      refine Tr.acopyS (pc := 59) (x := 104) (y := 106) (P := St Tru ws_X10_compare_103_w1 as_X10_compare_103_w1 M0) d_X10_compare_59 ac_10_36 acw.1 acw.2.1 acw.2.2 (ty_104 hS.1.1) (ty_106 hS.1.1) (by omega) (by omega) (by omega) (by omega) (by omega) (Nat.le_of_ble_eq_true rfl) (sw_106 hS (by decide) rfl rfl rfl (fun z i hz => by rw [rd_cpy, if_neg (fun c => hz c.1)]) (fun i => by rw [rd_cpy]; split; exact And.intro (by have := ar_104 hS.1.2.1 (0 + (i - 0)); omega) (by have := ar_104 hS.1.2.1 (0 + (i - 0)); omega); exact ar_106 hS.1.2.1 i) trivial) (fun M59 hS w59 => ?_)
      exact Tr.vret (pc := 62) d_X10_compare_62 rfl ⟨hS, rfl⟩
    refine Tr.if_ne (pc := 32) (tgt := 43) d_X10_compare_32 rfl (fun c32 => ?_) (fun c32 => ?_)
    · refine Tr.pick [0, 1] (ls2 := [(0, (2, 103)), (1, (0, a1))]) rfl ?_
      exact J43 _ hS 
    · refine Tr.iload_n (pc := 35) (i := 1) d_X10_compare_35 rfl rfl ?_
      refine Tr.aload_n (pc := 36) (i := 0) d_X10_compare_36 rfl rfl ?_
      refine Tr.getf (pc := 37) d_X10_compare_37 f_10_50 (by decide) (by decide) (ty_103 hS.1.1) ?_
      refine Tr.gen (P := fun v => (-2147483648) ≤ v ∧ v ≤ 2147483647) (ir_103_3 hS.1.2.1) (fun r37 er37 br37 => ?_)
      refine Tr.icmp_ge (pc := 40) (tgt := 62) d_X10_compare_40 rfl (fun c40 => ?_) (fun c40 => ?_)
      · exact Tr.vret (pc := 62) d_X10_compare_62 rfl ⟨hS, rfl⟩
      · refine Tr.pick [0, 1] (ls2 := [(0, (2, 103)), (1, (0, a1))]) rfl ?_
        exact J43 _ hS 
  have J12 : ∀ (M : Mem), St Tru ws_X10_compare_103_w1 as_X10_compare_103_w1 M0 M → Tr l K 1 mX10_compare 12 [(0, (2, 103)), (1, (0, a1)), (2, (0, a2))] [] M (q_X10_compare_103_w1 M0) := by
    intro M  hS  
    refine Tr.aload_n (pc := 12) (i := 0) d_X10_compare_12 rfl rfl ?_
    refine Tr.iload_n (pc := 13) (i := 1) d_X10_compare_13 rfl rfl ?_
    refine Tr.putfS (pc := 14) (P := St Tru ws_X10_compare_103_w1 as_X10_compare_103_w1 M0) d_X10_compare_14 f_10_46 (by decide) (by decide) (ty_103 hS.1.1) (st_103_2 hS (by decide) (by omega) trivial) (fun M14 hS w14 => ?_)
    refine Tr.aload_n (pc := 17) (i := 0) d_X10_compare_17 rfl rfl ?_
    refine Tr.getf (pc := 18) d_X10_compare_18 f_10_9 (by decide) (by decide) (ty_103 hS.1.1) ?_
    refine Tr.tp 104 (fx_103_4 hS.1.1) ?_
    refine Tr.iconst (pc := 21) d_X10_compare_21 (by decide) ?_
    refine Tr.aload_n (pc := 22) (i := 0) d_X10_compare_22 rfl rfl ?_
    refine Tr.getf (pc := 23) d_X10_compare_23 f_10_15 (by decide) (by decide) (ty_103 hS.1.1) ?_
    refine Tr.tp 105 (fx_103_5 hS.1.1) ?_
    refine Tr.iconst (pc := 26) d_X10_compare_26 (by decide) ?_
    refine Tr.iconst (pc := 27) d_X10_compare_27 (by decide) ?_
    refine Tr.acopyS (pc := 28) (x := 104) (y := 105) (P := St Tru ws_X10_compare_103_w1 as_X10_compare_103_w1 M0) d_X10_compare_28 ac_10_36 acw.1 acw.2.1 acw.2.2 (ty_104 hS.1.1) (ty_105 hS.1.1) (by omega) (by omega) (by omega) (by omega) (by omega) (Nat.le_of_ble_eq_true rfl) (sw_105 hS (by decide) rfl rfl rfl (fun z i hz => by rw [rd_cpy, if_neg (fun c => hz c.1)]) (fun i => by rw [rd_cpy]; split; exact And.intro (by have := ar_104 hS.1.2.1 (0 + (i - 0)); omega) (by have := ar_104 hS.1.2.1 (0 + (i - 0)); omega); exact ar_105 hS.1.2.1 i) trivial) (fun M28 hS w28 => ?_)
    refine Tr.pick [0, 1, 2] (ls2 := [(0, (2, 103)), (1, (0, a1)), (2, (0, a2))]) rfl ?_
    exact J31 _ hS 
  refine Tr.if_ne (pc := 1) (tgt := 12) d_X10_compare_1 rfl (fun c1 => ?_) (fun c1 => ?_)
  · refine Tr.pick [0, 1, 2] (ls2 := [(0, (2, 103)), (1, (0, a1)), (2, (0, a2))]) rfl ?_
    exact J12 _ hS 
  · refine Tr.iload_n (pc := 4) (i := 1) d_X10_compare_4 rfl rfl ?_
    refine Tr.aload_n (pc := 5) (i := 0) d_X10_compare_5 rfl rfl ?_
    refine Tr.getf (pc := 6) d_X10_compare_6 f_10_46 (by decide) (by decide) (ty_103 hS.1.1) ?_
    refine Tr.gen (P := fun v => (-2147483648) ≤ v ∧ v ≤ 2147483647) (ir_103_2 hS.1.2.1) (fun r6 er6 br6 => ?_)
    refine Tr.icmp_le (pc := 9) (tgt := 31) d_X10_compare_9 rfl (fun c9 => ?_) (fun c9 => ?_)
    · refine Tr.pick [0, 1, 2] (ls2 := [(0, (2, 103)), (1, (0, a1)), (2, (0, a2))]) rfl ?_
      exact J31 _ hS 
    · refine Tr.pick [0, 1, 2] (ls2 := [(0, (2, 103)), (1, (0, a1)), (2, (0, a2))]) rfl ?_
      exact J12 _ hS 

def ws_X11_over_0 : List (Int × Int) := [(74, 1), (74, 9), (74, 10), (74, 11), (74, 12), (74, 13), (74, 14), (74, 15), (74, 16), (74, 17), (82, 1), (103, 0), (103, 1), (103, 2), (103, 3)]
def as_X11_over_0 : List Int := [75, 76, 77, 78, 79, 80, 81, 83, 104, 105, 106]
def q_X11_over_0 (M0 M' : Mem) (r : Option PV) : Prop := St Tru ws_X11_over_0 as_X11_over_0 M0 M' ∧ ∃ v : Int, r = some (0, v) ∧ (-2147483648) ≤ v ∧ v ≤ 2147483647
set_option maxRecDepth 100000 in
set_option maxHeartbeats 4000000 in
theorem sp_X11_over_0 {l : Launch} {K : EC} {M0 : Mem} (hI : In Tru M0) (en_0_4 : rd M0 0 4 = 7) (a1 : Int) (ha1 : 0 ≤ a1 ∧ a1 ≤ 1)  (hF_Y15 : Yn15 M0) : Tr l K 6 mX11_over 0 [(0, (2, 0)), (1, (0, a1))] [] M0 (q_X11_over_0 M0) := by
  have hS : St Tru ws_X11_over_0 as_X11_over_0 M0 M0 := St.rf hI
  refine Tr.aload_n (pc := 0) (i := 0) d_X11_over_0 rfl rfl ?_
  refine Tr.getf (pc := 1) d_X11_over_1 f_11_63 (by decide) (by decide) (ty_0 hS.1.1) ?_
  refine Tr.tp 103 (fx_0_11 hS.1.1) ?_
  refine Tr.aload_n (pc := 4) (i := 0) d_X11_over_4 rfl rfl ?_
  refine Tr.getf (pc := 5) d_X11_over_5 f_11_30 (by decide) (by decide) (ty_0 hS.1.1) ?_
  refine Tr.tp 7 ((St.kp hS (by decide) (by decide) (by decide)).trans en_0_4) ?_
  refine Tr.callV (pc := 8) (as := [_]) d_X11_over_8 s_11_249 ok_X10_begin rfl rfl (Nat.le_of_ble_eq_true rfl) (Nat.le_of_ble_eq_true rfl) (by decide) (ty_103 hS.1.1) ?_
  refine Tr.imp (Tr.deep (by decide) (sp_X10_begin_103_7 hS.1 )) ?_
  rintro M8 _ ⟨h8, r8, rfl, lr8, ur8⟩
  have hS := St.tr hS h8 (by decide) (by decide)
  refine Tr.sc [(0, r8)] rfl ?_
  refine Tr.istore_n (pc := 11) (i := 2) (ls2 := [(2, (0, r8)), (0, (2, 0)), (1, (0, a1))]) d_X11_over_11 rfl (by decide) rfl ?_
  refine Tr.iload_n (pc := 12) (i := 2) d_X11_over_12 rfl rfl ?_
  refine Tr.sipush (pc := 13) d_X11_over_13 rfl (by decide) ?_
  refine Tr.icmp_le (pc := 16) (tgt := 21) d_X11_over_16 rfl (fun c16 => ?_) (fun c16 => ?_)
  · refine Tr.iconst (pc := 21) d_X11_over_21 (by decide) ?_
    refine Tr.istore_n (pc := 22) (i := 3) (ls2 := [(3, (0, 0)), (2, (0, r8)), (0, (2, 0)), (1, (0, a1))]) d_X11_over_22 rfl (by decide) rfl ?_
    have J23 : ∀ (n23 : Nat) (M : Mem) (p23_3 : Int), St Tru ws_X11_over_0 as_X11_over_0 M0 M → (0 ≤ p23_3 ∧ p23_3 ≤ 256) → (256 - p23_3).toNat < n23 → Tr l K 6 mX11_over 23 [(0, (2, 0)), (1, (0, a1)), (2, (0, r8)), (3, (0, p23_3))] [] M (q_X11_over_0 M0) := by
      intro n23
      induction n23 with
      | zero => intro M p23_3 hS bp23_3  hm23; exact absurd hm23 (Nat.not_lt_zero _)
      | succ n23 J23 =>
        intro M p23_3 hS bp23_3  hm23
        refine Tr.iload_n (pc := 23) (i := 3) d_X11_over_23 rfl rfl ?_
        refine Tr.iload_n (pc := 24) (i := 2) d_X11_over_24 rfl rfl ?_
        refine Tr.icmp_ge (pc := 25) (tgt := 87) d_X11_over_25 rfl (fun c25 => ?_) (fun c25 => ?_)
        · refine Tr.aload_n (pc := 87) (i := 0) d_X11_over_87 rfl rfl ?_
          refine Tr.getf (pc := 88) d_X11_over_88 f_11_63 (by decide) (by decide) (ty_0 hS.1.1) ?_
          refine Tr.tp 103 (fx_0_11 hS.1.1) ?_
          refine Tr.iload_n (pc := 91) (i := 1) d_X11_over_91 rfl rfl ?_
          refine Tr.callV (pc := 92) (as := [_]) d_X11_over_92 s_11_264 ok_X10_choose rfl rfl (Nat.le_of_ble_eq_true rfl) (Nat.le_of_ble_eq_true rfl) (by decide) (ty_103 hS.1.1) ?_
          refine Tr.imp (Tr.deep (by decide) (sp_X10_choose_103 hS.1 a1 (by omega))) ?_
          rintro M92 _ ⟨h92, r92, rfl, lr92, ur92⟩
          have hS := St.tr hS h92 (by decide) (by decide)
          refine Tr.sc [(0, r92)] rfl ?_
          exact Tr.iret (pc := 95) d_X11_over_95 rfl ⟨hS, _, rfl, by omega, by omega⟩
        · refine Tr.aload_n (pc := 28) (i := 0) d_X11_over_28 rfl rfl ?_
          refine Tr.getf (pc := 29) d_X11_over_29 f_11_50 (by decide) (by decide) (ty_0 hS.1.1) ?_
          refine Tr.tp 74 (fx_0_8 hS.1.1) ?_
          refine Tr.aload_n (pc := 32) (i := 0) d_X11_over_32 rfl rfl ?_
          refine Tr.getf (pc := 33) d_X11_over_33 f_11_30 (by decide) (by decide) (ty_0 hS.1.1) ?_
          refine Tr.tp 7 ((St.kp hS (by decide) (by decide) (by decide)).trans en_0_4) ?_
          refine Tr.aload_n (pc := 36) (i := 0) d_X11_over_36 rfl rfl ?_
          refine Tr.getf (pc := 37) d_X11_over_37 f_11_63 (by decide) (by decide) (ty_0 hS.1.1) ?_
          refine Tr.tp 103 (fx_0_11 hS.1.1) ?_
          refine Tr.getf (pc := 40) d_X11_over_40 f_11_253 (by decide) (by decide) (ty_103 hS.1.1) ?_
          refine Tr.tp 104 (fx_103_4 hS.1.1) ?_
          refine Tr.iconst (pc := 43) d_X11_over_43 (by decide) ?_
          refine Tr.callV (pc := 44) (as := [_, _, _]) d_X11_over_44 s_11_144 ok_X6_go rfl rfl (Nat.le_of_ble_eq_true rfl) (Nat.le_of_ble_eq_true rfl) (by decide) (ty_74 hS.1.1) ?_
          refine Tr.imp (Tr.deep (by decide) (sp_X6_go_74_7_104 hS.1 (-1) (by omega) (Yn15.of hF_Y15 (fun j => (St.ka hS (by decide) (by decide) (by decide))) (fun j => (St.ka hS (by decide) (by decide) (by decide))) (St.kp hS (by decide) (by decide) (by decide))))) ?_
          rintro M44 _ ⟨h44, o44_74_1, o44_82_1, rfl⟩
          have hS := St.tr hS h44 (by decide) (by decide)
          refine Tr.sc [] rfl ?_
          refine Tr.aload_n (pc := 47) (i := 0) d_X11_over_47 rfl rfl ?_
          refine Tr.getf (pc := 48) d_X11_over_48 f_11_63 (by decide) (by decide) (ty_0 hS.1.1) ?_
          refine Tr.tp 103 (fx_0_11 hS.1.1) ?_
          refine Tr.aload_n (pc := 51) (i := 0) d_X11_over_51 rfl rfl ?_
          refine Tr.getf (pc := 52) d_X11_over_52 f_11_50 (by decide) (by decide) (ty_0 hS.1.1) ?_
          refine Tr.tp 74 (fx_0_8 hS.1.1) ?_
          refine Tr.getf (pc := 55) d_X11_over_55 f_11_155 (by decide) (by decide) (ty_74 hS.1.1) ?_
          refine Tr.gen (P := fun v => (-2147483648) ≤ v ∧ v ≤ 2147483647) (ir_74_10 hS.1.2.1) (fun r55 er55 br55 => ?_)
          refine Tr.iload_n (pc := 58) (i := 3) d_X11_over_58 rfl rfl ?_
          have J67 : ∀ (M : Mem) (q67_2 : Int), St Tru ws_X11_over_0 as_X11_over_0 M0 M → (0 ≤ q67_2 ∧ q67_2 ≤ 1) → rd M 74 1 = 7 → rd M 74 10 = r55 → rd M 82 1 = 7 → Tr l K 6 mX11_over 67 [(0, (2, 0)), (1, (0, a1)), (2, (0, r8)), (3, (0, p23_3))] [(0, q67_2), (0, r55), (2, 103)] M (q_X11_over_0 M0) := by
            intro M q67_2 hS bq67_2 k67_74_1 k67_74_10 k67_82_1
            refine Tr.callV (pc := 67) (as := [_, _]) d_X11_over_67 s_11_256 ok_X10_compare rfl rfl (Nat.le_of_ble_eq_true rfl) (Nat.le_of_ble_eq_true rfl) (by decide) (ty_103 hS.1.1) ?_
            refine Tr.imp (Tr.deep (by decide) (sp_X10_compare_103_w1 hS.1 r55 (by omega) q67_2 (by omega))) ?_
            rintro M67 _ ⟨h67, rfl⟩
            have hS := St.tr hS h67 (by decide) (by decide)
            refine Tr.sc [] rfl ?_
            refine Tr.aload_n (pc := 70) (i := 0) d_X11_over_70 rfl rfl ?_
            refine Tr.getf (pc := 71) d_X11_over_71 f_11_63 (by decide) (by decide) (ty_0 hS.1.1) ?_
            refine Tr.tp 103 (fx_0_11 hS.1.1) ?_
            refine Tr.aload_n (pc := 74) (i := 0) d_X11_over_74 rfl rfl ?_
            refine Tr.getf (pc := 75) d_X11_over_75 f_11_30 (by decide) (by decide) (ty_0 hS.1.1) ?_
            refine Tr.tp 7 ((St.kp hS (by decide) (by decide) (by decide)).trans en_0_4) ?_
            refine Tr.callV (pc := 78) (as := [_]) d_X11_over_78 s_11_260 ok_X10_turnOn rfl rfl (Nat.le_of_ble_eq_true rfl) (Nat.le_of_ble_eq_true rfl) (by decide) (ty_103 hS.1.1) ?_
            refine Tr.imp (Tr.deep (by decide) (sp_X10_turnOn_103_7 hS.1 )) ?_
            rintro M78 _ ⟨h78, rfl⟩
            have hS := St.tr hS h78 (by decide) (by decide)
            refine Tr.sc [] rfl ?_
            refine Tr.iincV (pc := 81) (n2 := (p23_3 + 1)) (ls2 := [(3, (0, (p23_3 + 1))), (0, (2, 0)), (1, (0, a1)), (2, (0, r8))]) d_X11_over_81 rfl (by decide) ((w32_id (by omega)).trans (by omega)) rfl ?_
            refine Tr.goto (pc := 84) (tgt := 23) d_X11_over_84 rfl ?_
            refine Tr.pick [1, 2, 3, 0] (ls2 := [(0, (2, 0)), (1, (0, a1)), (2, (0, r8)), (3, (0, (p23_3 + 1)))]) rfl ?_
            exact J23 _ _ hS (by omega) (by omega)
          refine Tr.if_ne (pc := 59) (tgt := 66) d_X11_over_59 rfl (fun c59 => ?_) (fun c59 => ?_)
          · refine Tr.iconst (pc := 66) d_X11_over_66 (by decide) ?_
            refine Tr.pick [0, 1, 2, 3] (ls2 := [(0, (2, 0)), (1, (0, a1)), (2, (0, r8)), (3, (0, p23_3))]) rfl ?_
            exact J67 _ _ hS (by omega) o44_74_1 er55 o44_82_1
          · refine Tr.iconst (pc := 62) d_X11_over_62 (by decide) ?_
            refine Tr.goto (pc := 63) (tgt := 67) d_X11_over_63 rfl ?_
            refine Tr.pick [0, 1, 2, 3] (ls2 := [(0, (2, 0)), (1, (0, a1)), (2, (0, r8)), (3, (0, p23_3))]) rfl ?_
            exact J67 _ _ hS (by omega) o44_74_1 er55 o44_82_1
    refine Tr.pick [2, 3, 1, 0] (ls2 := [(0, (2, 0)), (1, (0, a1)), (2, (0, r8)), (3, (0, 0))]) rfl ?_
    exact J23 _ _ _ hS (by omega) (Nat.lt_succ_self _)
  · refine Tr.iconst (pc := 19) d_X11_over_19 (by decide) ?_
    exact Tr.iret (pc := 20) d_X11_over_20 rfl ⟨hS, _, rfl, by omega, by omega⟩

def ws_X8_clear_63 : List (Int × Int) := [(63, 0), (63, 7)]
def as_X8_clear_63 : List Int := [69]
def q_X8_clear_63 (M0 M' : Mem) (r : Option PV) : Prop := St Tru ws_X8_clear_63 as_X8_clear_63 M0 M' ∧ r = none ∧ (rd M' 63 7 = 0) ∧ Rn M'
set_option maxRecDepth 100000 in
set_option maxHeartbeats 4000000 in
theorem sp_X8_clear_63 {l : Launch} {K : EC} {M0 : Mem} (hI : In Tru M0)    : Tr l K 1 mX8_clear 0 [(0, (2, 63))] [] M0 (q_X8_clear_63 M0) := by
  have hS : St Tru ws_X8_clear_63 as_X8_clear_63 M0 M0 := St.rf hI
  obtain ⟨g63_1, eg63_1⟩ : ∃ v, rd M0 63 1 = v := ⟨_, rfl⟩
  have bg63_1 : (-1000000000) ≤ g63_1 ∧ g63_1 ≤ 1000000000 := by rw [← eg63_1]; exact ir_63_1 hI.2.1
  obtain ⟨g63_0, eg63_0⟩ : ∃ v, rd M0 63 0 = v := ⟨_, rfl⟩
  have bg63_0 : (-2147483648) ≤ g63_0 ∧ g63_0 ≤ 2147483647 := by rw [← eg63_0]; exact ir_63_0 hI.2.1
  obtain ⟨g63_7, eg63_7⟩ : ∃ v, rd M0 63 7 = v := ⟨_, rfl⟩
  have bg63_7 : (-2147483648) ≤ g63_7 ∧ g63_7 ≤ 2147483647 := by rw [← eg63_7]; exact ir_63_7 hI.2.1
  refine Tr.aload_n (pc := 0) (i := 0) d_X8_clear_0 rfl rfl ?_
  refine Tr.iconst (pc := 1) d_X8_clear_1 (by decide) ?_
  refine Tr.putfS (pc := 2) (P := St Tru ws_X8_clear_63 as_X8_clear_63 M0) d_X8_clear_2 f_8_43 (by decide) (by decide) (ty_63 hS.1.1) (stX_63_0 hS (by decide) (by omega) (xp_cnt hS.1.2.2 eg63_1 (Or.inl rfl) (by omega) (by omega) trivial)) (fun M2 hS w2 => ?_)
  refine Tr.aload_n (pc := 5) (i := 0) d_X8_clear_5 rfl rfl ?_
  refine Tr.iconst (pc := 6) d_X8_clear_6 (by decide) ?_
  refine Tr.putfS (pc := 7) (P := St Tru ws_X8_clear_63 as_X8_clear_63 M0) d_X8_clear_7 f_8_47 (by decide) (by decide) (ty_63 hS.1.1) (stX_63_7 hS (by decide) (by omega) (xp_cnt hS.1.2.2 ((Wr.b w2 rfl).trans eg63_1) (Or.inr rfl) (by omega) (by omega) trivial)) (fun M7 hS w7 => ?_)
  refine Tr.aload_n (pc := 10) (i := 0) d_X8_clear_10 rfl rfl ?_
  refine Tr.getf (pc := 11) d_X8_clear_11 f_8_28 (by decide) (by decide) (ty_63 hS.1.1) ?_
  refine Tr.tp 69 (fx_63_6 hS.1.1) ?_
  refine Tr.iconst (pc := 14) d_X8_clear_14 (by decide) ?_
  refine Tr.callS (pc := 15) (as := [_, _]) d_X8_clear_15 s_8_50 ok_J7_fill_53178 rfl rfl (Nat.le_of_ble_eq_true rfl) (Nat.le_of_ble_eq_true rfl) ?_
  refine Tr.imp (sp_fill (N := 6) (ty_69 hS.1.1) (by decide)) ?_
  rintro _ _ ⟨rfl, rfl⟩
  have kc15_63_0 : rd M7 63 0 = 0 := ((Wr.b w7 rfl).trans w2.1)
  have kc15_63_7 : rd M7 63 7 = 0 := w7.1
  have hS : St Tru ws_X8_clear_63 as_X8_clear_63 M0 (fil M7 69 6 (-1)) := sf_69 6 hS (by decide) (by decide) trivial
  have hrn : Rn (fil M7 69 6 (-1)) := fun p p0 p1 => by rw [fil_at p0 p1, rd_fil, if_neg (fun c => absurd c.1 (by decide))]; omega
  have w15 := fil_wa M7 69 6 (-1)
  refine Tr.sc [] rfl ?_
  have kr_63_7 : rd (fil M7 69 6 (-1)) 63 7 = 0 := ((Wa.b w15 rfl).trans w7.1)
  exact Tr.vret (pc := 18) d_X8_clear_18 rfl ⟨hS, rfl, by omega, hrn⟩

def ws_X1_begin_56_7 : List (Int × Int) := [(56, 1), (63, 0), (63, 7)]
def as_X1_begin_56_7 : List Int := [57, 58, 59, 60, 61, 62, 69]
def q_X1_begin_56_7 (M0 M' : Mem) (r : Option PV) : Prop := St Tru ws_X1_begin_56_7 as_X1_begin_56_7 M0 M' ∧ rd M' 56 1 = 7 ∧ r = none ∧ (rd M' 63 7 = 0) ∧ Rn M'
set_option maxRecDepth 100000 in
set_option maxHeartbeats 4000000 in
theorem sp_X1_begin_56_7 {l : Launch} {K : EC} {M0 : Mem} (hI : In Tru M0)    : Tr l K 2 mX1_begin 0 [(0, (2, 56)), (1, (2, 7))] [] M0 (q_X1_begin_56_7 M0) := by
  have hS : St Tru ws_X1_begin_56_7 as_X1_begin_56_7 M0 M0 := St.rf hI
  refine Tr.aload_n (pc := 0) (i := 0) d_X1_begin_0 rfl rfl ?_
  refine Tr.aload_n (pc := 1) (i := 1) d_X1_begin_1 rfl rfl ?_
  refine Tr.putfS (pc := 2) (P := St Tru ws_X1_begin_56_7 as_X1_begin_56_7 M0) d_X1_begin_2 f_1_41 (by decide) (by decide) (ty_56 hS.1.1) (st_56_1 hS (by decide) (by omega) trivial) (fun M2 hS w2 => ?_)
  refine Tr.aload_n (pc := 5) (i := 0) d_X1_begin_5 rfl rfl ?_
  refine Tr.getf (pc := 6) d_X1_begin_6 f_1_9 (by decide) (by decide) (ty_56 hS.1.1) ?_
  refine Tr.tp 57 (fx_56_2 hS.1.1) ?_
  refine Tr.iconst (pc := 9) d_X1_begin_9 (by decide) ?_
  refine Tr.callS (pc := 10) (as := [_, _]) d_X1_begin_10 s_1_45 ok_J7_fill_53178 rfl rfl (Nat.le_of_ble_eq_true rfl) (Nat.le_of_ble_eq_true rfl) ?_
  refine Tr.imp (sp_fill (N := 24) (ty_57 hS.1.1) (by decide)) ?_
  rintro _ _ ⟨rfl, rfl⟩
  refine Tr.nmA (P := St Tru ws_X1_begin_56_7 as_X1_begin_56_7 M0) (sf_57 (v := 0) 24 hS (by decide) (by omega) trivial) (fil_wa _ _ _ _) (fun M10 hS w10 => ?_)
  refine Tr.sc [] rfl ?_
  refine Tr.aload_n (pc := 13) (i := 0) d_X1_begin_13 rfl rfl ?_
  refine Tr.getz (pc := 14) d_X1_begin_14 f_1_37 (by decide) (ty_56 hS.1.1) ?_
  refine Tr.tp 1 (fx_56_0 hS.1.1) ?_
  refine Tr.if_eq (pc := 17) (tgt := 67) d_X1_begin_17 rfl (fun hc => absurd hc (by omega)) (fun _ => ?_)
  refine Tr.aload_n (pc := 20) (i := 0) d_X1_begin_20 rfl rfl ?_
  refine Tr.getf (pc := 21) d_X1_begin_21 f_1_15 (by decide) (by decide) (ty_56 hS.1.1) ?_
  refine Tr.tp 58 (fx_56_3 hS.1.1) ?_
  refine Tr.iconst (pc := 24) d_X1_begin_24 (by decide) ?_
  refine Tr.callS (pc := 25) (as := [_, _]) d_X1_begin_25 s_1_45 ok_J7_fill_53178 rfl rfl (Nat.le_of_ble_eq_true rfl) (Nat.le_of_ble_eq_true rfl) ?_
  refine Tr.imp (sp_fill (N := 6) (ty_58 hS.1.1) (by decide)) ?_
  rintro _ _ ⟨rfl, rfl⟩
  refine Tr.nmA (P := St Tru ws_X1_begin_56_7 as_X1_begin_56_7 M0) (sf_58 (v := (-1)) 6 hS (by decide) (by omega) trivial) (fil_wa _ _ _ _) (fun M25 hS w25 => ?_)
  refine Tr.sc [] rfl ?_
  refine Tr.aload_n (pc := 28) (i := 0) d_X1_begin_28 rfl rfl ?_
  refine Tr.getf (pc := 29) d_X1_begin_29 f_1_18 (by decide) (by decide) (ty_56 hS.1.1) ?_
  refine Tr.tp 59 (fx_56_4 hS.1.1) ?_
  refine Tr.iconst (pc := 32) d_X1_begin_32 (by decide) ?_
  refine Tr.callS (pc := 33) (as := [_, _]) d_X1_begin_33 s_1_45 ok_J7_fill_53178 rfl rfl (Nat.le_of_ble_eq_true rfl) (Nat.le_of_ble_eq_true rfl) ?_
  refine Tr.imp (sp_fill (N := 6) (ty_59 hS.1.1) (by decide)) ?_
  rintro _ _ ⟨rfl, rfl⟩
  refine Tr.nmA (P := St Tru ws_X1_begin_56_7 as_X1_begin_56_7 M0) (sf_59 (v := (-1)) 6 hS (by decide) (by omega) trivial) (fil_wa _ _ _ _) (fun M33 hS w33 => ?_)
  refine Tr.sc [] rfl ?_
  refine Tr.aload_n (pc := 36) (i := 0) d_X1_begin_36 rfl rfl ?_
  refine Tr.getf (pc := 37) d_X1_begin_37 f_1_21 (by decide) (by decide) (ty_56 hS.1.1) ?_
  refine Tr.tp 60 (fx_56_5 hS.1.1) ?_
  refine Tr.iconst (pc := 40) d_X1_begin_40 (by decide) ?_
  refine Tr.callS (pc := 41) (as := [_, _]) d_X1_begin_41 s_1_45 ok_J7_fill_53178 rfl rfl (Nat.le_of_ble_eq_true rfl) (Nat.le_of_ble_eq_true rfl) ?_
  refine Tr.imp (sp_fill (N := 60) (ty_60 hS.1.1) (by decide)) ?_
  rintro _ _ ⟨rfl, rfl⟩
  refine Tr.nmA (P := St Tru ws_X1_begin_56_7 as_X1_begin_56_7 M0) (sf_60 (v := 0) 60 hS (by decide) (by omega) trivial) (fil_wa _ _ _ _) (fun M41 hS w41 => ?_)
  refine Tr.sc [] rfl ?_
  refine Tr.aload_n (pc := 44) (i := 0) d_X1_begin_44 rfl rfl ?_
  refine Tr.getf (pc := 45) d_X1_begin_45 f_1_24 (by decide) (by decide) (ty_56 hS.1.1) ?_
  refine Tr.tp 61 (fx_56_6 hS.1.1) ?_
  refine Tr.iconst (pc := 48) d_X1_begin_48 (by decide) ?_
  refine Tr.callS (pc := 49) (as := [_, _]) d_X1_begin_49 s_1_45 ok_J7_fill_53178 rfl rfl (Nat.le_of_ble_eq_true rfl) (Nat.le_of_ble_eq_true rfl) ?_
  refine Tr.imp (sp_fill (N := 60) (ty_61 hS.1.1) (by decide)) ?_
  rintro _ _ ⟨rfl, rfl⟩
  refine Tr.nmA (P := St Tru ws_X1_begin_56_7 as_X1_begin_56_7 M0) (sf_61 (v := 0) 60 hS (by decide) (by omega) trivial) (fil_wa _ _ _ _) (fun M49 hS w49 => ?_)
  refine Tr.sc [] rfl ?_
  refine Tr.aload_n (pc := 52) (i := 0) d_X1_begin_52 rfl rfl ?_
  refine Tr.getf (pc := 53) d_X1_begin_53 f_1_27 (by decide) (by decide) (ty_56 hS.1.1) ?_
  refine Tr.tp 62 (fx_56_7 hS.1.1) ?_
  refine Tr.iconst (pc := 56) d_X1_begin_56 (by decide) ?_
  refine Tr.callS (pc := 57) (as := [_, _]) d_X1_begin_57 s_1_45 ok_J7_fill_53178 rfl rfl (Nat.le_of_ble_eq_true rfl) (Nat.le_of_ble_eq_true rfl) ?_
  refine Tr.imp (sp_fill (N := 60) (ty_62 hS.1.1) (by decide)) ?_
  rintro _ _ ⟨rfl, rfl⟩
  refine Tr.nmA (P := St Tru ws_X1_begin_56_7 as_X1_begin_56_7 M0) (sf_62 (v := 0) 60 hS (by decide) (by omega) trivial) (fil_wa _ _ _ _) (fun M57 hS w57 => ?_)
  refine Tr.sc [] rfl ?_
  refine Tr.aload_n (pc := 60) (i := 0) d_X1_begin_60 rfl rfl ?_
  refine Tr.getf (pc := 61) d_X1_begin_61 f_1_33 (by decide) (by decide) (ty_56 hS.1.1) ?_
  refine Tr.tp 63 (fx_56_8 hS.1.1) ?_
  refine Tr.callV (pc := 64) (as := []) d_X1_begin_64 s_1_51 ok_X8_clear rfl rfl (Nat.le_of_ble_eq_true rfl) (Nat.le_of_ble_eq_true rfl) (by decide) (ty_63 hS.1.1) ?_
  refine Tr.imp (Tr.deep (by decide) (sp_X8_clear_63 hS.1 )) ?_
  rintro M64 _ ⟨h64, rfl, z64_0, f64_Rn⟩
  have hS := St.tr hS h64 (by decide) (by decide)
  obtain ⟨s64_63_7, es64_63_7⟩ : ∃ v, rd M64 63 7 = v := ⟨_, rfl⟩
  have bs64_63_7 : (-2147483648) ≤ s64_63_7 ∧ s64_63_7 ≤ 2147483647 := by rw [← es64_63_7]; exact ir_63_7 hS.1.2.1
  have hS := St.rn hS f64_Rn
  refine Tr.sc [] rfl ?_
  have kr_63_7 : rd M64 63 7 = s64_63_7 := es64_63_7
  have hS := hS.wk
  exact Tr.vret (pc := 67) d_X1_begin_67 rfl ⟨hS, ((St.kp h64 (by decide) (by decide) (by decide)).trans ((Wa.b w57 rfl).trans ((Wa.b w49 rfl).trans ((Wa.b w41 rfl).trans ((Wa.b w33 rfl).trans ((Wa.b w25 rfl).trans ((Wa.b w10 rfl).trans w2.1))))))), rfl, by omega, f64_Rn⟩

def ws_X6_begin_48_7_47 : List (Int × Int) := [(48, 1), (48, 9), (48, 11), (48, 12), (48, 13), (48, 14), (48, 15), (48, 16), (48, 17), (56, 1), (63, 0), (63, 7)]
def as_X6_begin_48_7_47 : List Int := [49, 50, 52, 53, 54, 55, 57, 58, 59, 60, 61, 62, 69]
def q_X6_begin_48_7_47 (a3 : Int) (M0 M' : Mem) (r : Option PV) : Prop := St Tru ws_X6_begin_48_7_47 as_X6_begin_48_7_47 M0 M' ∧ rd M' 48 1 = 7 ∧ rd M' 56 1 = 7 ∧ r = none ∧ (rd M' 63 7 = 0) ∧ Rn M'
set_option maxRecDepth 100000 in
set_option maxHeartbeats 4000000 in
theorem sp_X6_begin_48_7_47 {l : Launch} {K : EC} {M0 : Mem} (hI : In Tru M0)  (a3 : Int) (ha3 : (-1) ≤ a3 ∧ a3 ≤ 2147483647)  : Tr l K 3 mX6_begin 0 [(0, (2, 48)), (1, (2, 7)), (2, (2, 47)), (3, (0, a3))] [] M0 (q_X6_begin_48_7_47 a3 M0) := by
  have hS : St Tru ws_X6_begin_48_7_47 as_X6_begin_48_7_47 M0 M0 := St.rf hI
  refine Tr.aload_n (pc := 0) (i := 0) d_X6_begin_0 rfl rfl ?_
  refine Tr.aload_n (pc := 1) (i := 1) d_X6_begin_1 rfl rfl ?_
  refine Tr.putfS (pc := 2) (P := St Tru ws_X6_begin_48_7_47 as_X6_begin_48_7_47 M0) d_X6_begin_2 f_6_46 (by decide) (by decide) (ty_48 hS.1.1) (st_48_1 hS (by decide) (by omega) trivial) (fun M2 hS w2 => ?_)
  refine Tr.aload_n (pc := 5) (i := 2) d_X6_begin_5 rfl rfl ?_
  refine Tr.iconst (pc := 6) d_X6_begin_6 (by decide) ?_
  refine Tr.aload_n (pc := 7) (i := 0) d_X6_begin_7 rfl rfl ?_
  refine Tr.getf (pc := 8) d_X6_begin_8 f_6_9 (by decide) (by decide) (ty_48 hS.1.1) ?_
  refine Tr.tp 49 (fx_48_2 hS.1.1) ?_
  refine Tr.iconst (pc := 11) d_X6_begin_11 (by decide) ?_
  refine Tr.iconst (pc := 12) d_X6_begin_12 (by decide) ?_
  refine Tr.acopyS (pc := 13) (x := 47) (y := 49) (P := St Tru ws_X6_begin_48_7_47 as_X6_begin_48_7_47 M0) d_X6_begin_13 ac_6_85 acw.1 acw.2.1 acw.2.2 (ty_47 hS.1.1) (ty_49 hS.1.1) (by omega) (by omega) (by omega) (by omega) (by omega) (Nat.le_of_ble_eq_true rfl) (sw_49 hS (by decide) rfl rfl rfl (fun z i hz => by rw [rd_cpy, if_neg (fun c => hz c.1)]) (fun i => by rw [rd_cpy]; split; exact And.intro (by have := ar_47 hS.1.2.1 (0 + (i - 0)); omega) (by have := ar_47 hS.1.2.1 (0 + (i - 0)); omega); exact ar_49 hS.1.2.1 i) trivial) (fun M13 hS w13 => ?_)
  refine Tr.aload_n (pc := 16) (i := 0) d_X6_begin_16 rfl rfl ?_
  refine Tr.getf (pc := 17) d_X6_begin_17 f_6_15 (by decide) (by decide) (ty_48 hS.1.1) ?_
  refine Tr.tp 50 (fx_48_3 hS.1.1) ?_
  refine Tr.iconst (pc := 20) d_X6_begin_20 (by decide) ?_
  refine Tr.callS (pc := 21) (as := [_, _]) d_X6_begin_21 s_6_91 ok_J7_fill_53178 rfl rfl (Nat.le_of_ble_eq_true rfl) (Nat.le_of_ble_eq_true rfl) ?_
  refine Tr.imp (sp_fill (N := 6) (ty_50 hS.1.1) (by decide)) ?_
  rintro _ _ ⟨rfl, rfl⟩
  refine Tr.nmA (P := St Tru ws_X6_begin_48_7_47 as_X6_begin_48_7_47 M0) (sf_50 (v := 0) 6 hS (by decide) (by omega) trivial) (fil_wa _ _ _ _) (fun M21 hS w21 => ?_)
  refine Tr.sc [] rfl ?_
  refine Tr.aload_n (pc := 24) (i := 0) d_X6_begin_24 rfl rfl ?_
  refine Tr.getf (pc := 25) d_X6_begin_25 f_6_21 (by decide) (by decide) (ty_48 hS.1.1) ?_
  refine Tr.tp 52 (fx_48_5 hS.1.1) ?_
  refine Tr.iconst (pc := 28) d_X6_begin_28 (by decide) ?_
  refine Tr.callS (pc := 29) (as := [_, _]) d_X6_begin_29 s_6_91 ok_J7_fill_53178 rfl rfl (Nat.le_of_ble_eq_true rfl) (Nat.le_of_ble_eq_true rfl) ?_
  refine Tr.imp (sp_fill (N := 8) (ty_52 hS.1.1) (by decide)) ?_
  rintro _ _ ⟨rfl, rfl⟩
  refine Tr.nmA (P := St Tru ws_X6_begin_48_7_47 as_X6_begin_48_7_47 M0) (sf_52 (v := (-1)) 8 hS (by decide) (by omega) trivial) (fil_wa _ _ _ _) (fun M29 hS w29 => ?_)
  refine Tr.sc [] rfl ?_
  refine Tr.aload_n (pc := 32) (i := 0) d_X6_begin_32 rfl rfl ?_
  refine Tr.getf (pc := 33) d_X6_begin_33 f_6_24 (by decide) (by decide) (ty_48 hS.1.1) ?_
  refine Tr.tp 53 (fx_48_6 hS.1.1) ?_
  refine Tr.iconst (pc := 36) d_X6_begin_36 (by decide) ?_
  refine Tr.callS (pc := 37) (as := [_, _]) d_X6_begin_37 s_6_91 ok_J7_fill_53178 rfl rfl (Nat.le_of_ble_eq_true rfl) (Nat.le_of_ble_eq_true rfl) ?_
  refine Tr.imp (sp_fill (N := 6) (ty_53 hS.1.1) (by decide)) ?_
  rintro _ _ ⟨rfl, rfl⟩
  refine Tr.nmA (P := St Tru ws_X6_begin_48_7_47 as_X6_begin_48_7_47 M0) (sf_53 (v := 0) 6 hS (by decide) (by omega) trivial) (fil_wa _ _ _ _) (fun M37 hS w37 => ?_)
  refine Tr.sc [] rfl ?_
  refine Tr.aload_n (pc := 40) (i := 0) d_X6_begin_40 rfl rfl ?_
  refine Tr.getf (pc := 41) d_X6_begin_41 f_6_27 (by decide) (by decide) (ty_48 hS.1.1) ?_
  refine Tr.tp 54 (fx_48_7 hS.1.1) ?_
  refine Tr.iconst (pc := 44) d_X6_begin_44 (by decide) ?_
  refine Tr.callS (pc := 45) (as := [_, _]) d_X6_begin_45 s_6_91 ok_J7_fill_53178 rfl rfl (Nat.le_of_ble_eq_true rfl) (Nat.le_of_ble_eq_true rfl) ?_
  refine Tr.imp (sp_fill (N := 6) (ty_54 hS.1.1) (by decide)) ?_
  rintro _ _ ⟨rfl, rfl⟩
  refine Tr.nmA (P := St Tru ws_X6_begin_48_7_47 as_X6_begin_48_7_47 M0) (sf_54 (v := 0) 6 hS (by decide) (by omega) trivial) (fil_wa _ _ _ _) (fun M45 hS w45 => ?_)
  refine Tr.sc [] rfl ?_
  refine Tr.aload_n (pc := 48) (i := 0) d_X6_begin_48 rfl rfl ?_
  refine Tr.getf (pc := 49) d_X6_begin_49 f_6_30 (by decide) (by decide) (ty_48 hS.1.1) ?_
  refine Tr.tp 55 (fx_48_8 hS.1.1) ?_
  refine Tr.iconst (pc := 52) d_X6_begin_52 (by decide) ?_
  refine Tr.callS (pc := 53) (as := [_, _]) d_X6_begin_53 s_6_91 ok_J7_fill_53178 rfl rfl (Nat.le_of_ble_eq_true rfl) (Nat.le_of_ble_eq_true rfl) ?_
  refine Tr.imp (sp_fill (N := 6) (ty_55 hS.1.1) (by decide)) ?_
  rintro _ _ ⟨rfl, rfl⟩
  refine Tr.nmA (P := St Tru ws_X6_begin_48_7_47 as_X6_begin_48_7_47 M0) (sf_55 (v := 0) 6 hS (by decide) (by omega) trivial) (fil_wa _ _ _ _) (fun M53 hS w53 => ?_)
  refine Tr.sc [] rfl ?_
  refine Tr.aload_n (pc := 56) (i := 0) d_X6_begin_56 rfl rfl ?_
  refine Tr.iconst (pc := 57) d_X6_begin_57 (by decide) ?_
  refine Tr.putfS (pc := 58) (P := St Tru ws_X6_begin_48_7_47 as_X6_begin_48_7_47 M0) d_X6_begin_58 f_6_68 (by decide) (by decide) (ty_48 hS.1.1) (st_48_9 hS (by decide) (by omega) trivial) (fun M58 hS w58 => ?_)
  refine Tr.aload_n (pc := 61) (i := 0) d_X6_begin_61 rfl rfl ?_
  refine Tr.iconst (pc := 62) d_X6_begin_62 (by decide) ?_
  refine Tr.putfS (pc := 63) (P := St Tru ws_X6_begin_48_7_47 as_X6_begin_48_7_47 M0) d_X6_begin_63 f_6_97 (by decide) (by decide) (ty_48 hS.1.1) (st_48_11 hS (by decide) (by omega) trivial) (fun M63 hS w63 => ?_)
  refine Tr.aload_n (pc := 66) (i := 0) d_X6_begin_66 rfl rfl ?_
  refine Tr.iconst (pc := 67) d_X6_begin_67 (by decide) ?_
  refine Tr.putfS (pc := 68) (P := St Tru ws_X6_begin_48_7_47 as_X6_begin_48_7_47 M0) d_X6_begin_68 f_6_100 (by decide) (by decide) (ty_48 hS.1.1) (st_48_12 hS (by decide) (by omega) trivial) (fun M68 hS w68 => ?_)
  refine Tr.aload_n (pc := 71) (i := 0) d_X6_begin_71 rfl rfl ?_
  refine Tr.iconst (pc := 72) d_X6_begin_72 (by decide) ?_
  refine Tr.putfS (pc := 73) (P := St Tru ws_X6_begin_48_7_47 as_X6_begin_48_7_47 M0) d_X6_begin_73 f_6_103 (by decide) (by decide) (ty_48 hS.1.1) (st_48_13 hS (by decide) (by omega) trivial) (fun M73 hS w73 => ?_)
  refine Tr.aload_n (pc := 76) (i := 0) d_X6_begin_76 rfl rfl ?_
  refine Tr.iconst (pc := 77) d_X6_begin_77 (by decide) ?_
  refine Tr.putfS (pc := 78) (P := St Tru ws_X6_begin_48_7_47 as_X6_begin_48_7_47 M0) d_X6_begin_78 f_6_62 (by decide) (by decide) (ty_48 hS.1.1) (st_48_14 hS (by decide) (by omega) trivial) (fun M78 hS w78 => ?_)
  refine Tr.aload_n (pc := 81) (i := 0) d_X6_begin_81 rfl rfl ?_
  refine Tr.iconst (pc := 82) d_X6_begin_82 (by decide) ?_
  refine Tr.putfS (pc := 83) (P := St Tru ws_X6_begin_48_7_47 as_X6_begin_48_7_47 M0) d_X6_begin_83 f_6_79 (by decide) (by decide) (ty_48 hS.1.1) (st_48_15 hS (by decide) (by omega) trivial) (fun M83 hS w83 => ?_)
  refine Tr.aload_n (pc := 86) (i := 0) d_X6_begin_86 rfl rfl ?_
  refine Tr.iload_n (pc := 87) (i := 3) d_X6_begin_87 rfl rfl ?_
  have J96 : ∀ (M : Mem) (q96_1 : Int), St Tru ws_X6_begin_48_7_47 as_X6_begin_48_7_47 M0 M → (0 ≤ q96_1 ∧ q96_1 ≤ 1) → rd M 48 1 = 7 → rd M 48 11 = 0 → rd M 48 12 = 0 → rd M 48 13 = 0 → rd M 48 14 = 0 → rd M 48 15 = (-1) → rd M 48 9 = 0 → Tr l K 3 mX6_begin 96 [(0, (2, 48)), (1, (2, 7)), (3, (0, a3))] [(0, q96_1), (2, 48)] M (q_X6_begin_48_7_47 a3 M0) := by
    intro M q96_1 hS bq96_1 k96_48_1 k96_48_11 k96_48_12 k96_48_13 k96_48_14 k96_48_15 k96_48_9
    refine Tr.putzS (pc := 96) (P := St Tru ws_X6_begin_48_7_47 as_X6_begin_48_7_47 M0) d_X6_begin_96 f_6_106 (by decide) (ty_48 hS.1.1) (by omega) (st_48_16 hS (by decide) (by omega) trivial) (fun M96 hS w96 => ?_)
    refine Tr.aload_n (pc := 99) (i := 0) d_X6_begin_99 rfl rfl ?_
    refine Tr.iload_n (pc := 100) (i := 3) d_X6_begin_100 rfl rfl ?_
    refine Tr.putfS (pc := 101) (P := St Tru ws_X6_begin_48_7_47 as_X6_begin_48_7_47 M0) d_X6_begin_101 f_6_110 (by decide) (by decide) (ty_48 hS.1.1) (st_48_17 hS (by decide) (by omega) trivial) (fun M101 hS w101 => ?_)
    refine Tr.aload_n (pc := 104) (i := 0) d_X6_begin_104 rfl rfl ?_
    refine Tr.getf (pc := 105) d_X6_begin_105 f_6_38 (by decide) (by decide) (ty_48 hS.1.1) ?_
    refine Tr.tp 56 (fx_48_0 hS.1.1) ?_
    refine Tr.aload_n (pc := 108) (i := 1) d_X6_begin_108 rfl rfl ?_
    refine Tr.callV (pc := 109) (as := [_]) d_X6_begin_109 s_6_113 ok_X1_begin rfl rfl (Nat.le_of_ble_eq_true rfl) (Nat.le_of_ble_eq_true rfl) (by decide) (ty_56 hS.1.1) ?_
    refine Tr.imp (Tr.deep (by decide) (sp_X1_begin_56_7 hS.1 )) ?_
    rintro M109 _ ⟨h109, o109_56_1, rfl, z109_0, f109_Rn⟩
    have hS := St.tr hS h109 (by decide) (by decide)
    obtain ⟨s109_63_7, es109_63_7⟩ : ∃ v, rd M109 63 7 = v := ⟨_, rfl⟩
    have bs109_63_7 : (-2147483648) ≤ s109_63_7 ∧ s109_63_7 ≤ 2147483647 := by rw [← es109_63_7]; exact ir_63_7 hS.1.2.1
    have hS := St.rn hS f109_Rn
    refine Tr.sc [] rfl ?_
    have kr_63_7 : rd M109 63 7 = s109_63_7 := es109_63_7
    have hS := hS.wk
    exact Tr.vret (pc := 112) d_X6_begin_112 rfl ⟨hS, ((St.kp h109 (by decide) (by decide) (by decide)).trans ((Wr.b w101 rfl).trans ((Wr.b w96 rfl).trans k96_48_1))), o109_56_1, rfl, by omega, f109_Rn⟩
  refine Tr.if_lt (pc := 88) (tgt := 95) d_X6_begin_88 rfl (fun c88 => ?_) (fun c88 => ?_)
  · refine Tr.iconst (pc := 95) d_X6_begin_95 (by decide) ?_
    refine Tr.pick [0, 1, 3] (ls2 := [(0, (2, 48)), (1, (2, 7)), (3, (0, a3))]) rfl ?_
    exact J96 _ _ hS (by omega) ((Wr.b w83 rfl).trans ((Wr.b w78 rfl).trans ((Wr.b w73 rfl).trans ((Wr.b w68 rfl).trans ((Wr.b w63 rfl).trans ((Wr.b w58 rfl).trans ((Wa.b w53 rfl).trans ((Wa.b w45 rfl).trans ((Wa.b w37 rfl).trans ((Wa.b w29 rfl).trans ((Wa.b w21 rfl).trans ((Wa.b w13 rfl).trans w2.1)))))))))))) ((Wr.b w83 rfl).trans ((Wr.b w78 rfl).trans ((Wr.b w73 rfl).trans ((Wr.b w68 rfl).trans w63.1)))) ((Wr.b w83 rfl).trans ((Wr.b w78 rfl).trans ((Wr.b w73 rfl).trans w68.1))) ((Wr.b w83 rfl).trans ((Wr.b w78 rfl).trans w73.1)) ((Wr.b w83 rfl).trans w78.1) w83.1 ((Wr.b w83 rfl).trans ((Wr.b w78 rfl).trans ((Wr.b w73 rfl).trans ((Wr.b w68 rfl).trans ((Wr.b w63 rfl).trans w58.1)))))
  · refine Tr.iconst (pc := 91) d_X6_begin_91 (by decide) ?_
    refine Tr.goto (pc := 92) (tgt := 96) d_X6_begin_92 rfl ?_
    refine Tr.pick [0, 1, 3] (ls2 := [(0, (2, 48)), (1, (2, 7)), (3, (0, a3))]) rfl ?_
    exact J96 _ _ hS (by omega) ((Wr.b w83 rfl).trans ((Wr.b w78 rfl).trans ((Wr.b w73 rfl).trans ((Wr.b w68 rfl).trans ((Wr.b w63 rfl).trans ((Wr.b w58 rfl).trans ((Wa.b w53 rfl).trans ((Wa.b w45 rfl).trans ((Wa.b w37 rfl).trans ((Wa.b w29 rfl).trans ((Wa.b w21 rfl).trans ((Wa.b w13 rfl).trans w2.1)))))))))))) ((Wr.b w83 rfl).trans ((Wr.b w78 rfl).trans ((Wr.b w73 rfl).trans ((Wr.b w68 rfl).trans w63.1)))) ((Wr.b w83 rfl).trans ((Wr.b w78 rfl).trans ((Wr.b w73 rfl).trans w68.1))) ((Wr.b w83 rfl).trans ((Wr.b w78 rfl).trans w73.1)) ((Wr.b w83 rfl).trans w78.1) w83.1 ((Wr.b w83 rfl).trans ((Wr.b w78 rfl).trans ((Wr.b w73 rfl).trans ((Wr.b w68 rfl).trans ((Wr.b w63 rfl).trans w58.1)))))

set_option maxRecDepth 100000 in
set_option maxHeartbeats 4000000 in
theorem sp_copyI {l : Launch} {K : EC} {M : Mem} {x : Int} {N n : Nat} (ht : mT M x = (20, N)) (hx : x < M.1) (hN : N < n) (hn : n ≤ 10000) : Tr l K 1 mJ7_copyOf_59c91 0 [(0, (2, x)), (1, (0, (n : Int)))] [] M (fun M' r => M' = cpy (mnew M (20, n)) x (M.1 : Int) 0 0 (N : Int) ∧ r = some (2, (M.1 : Int))) := by
  have hx2 : mT (mnew M (20, n)) x = (20, N) := by rw [mT_nw, if_neg (by omega)]; exact ht
  refine Tr.iload_n (pc := 0) (i := 1) d_J7_copyOf_59c91_0 rfl rfl ?_
  refine Tr.aload_n (pc := 1) (i := 0) d_J7_copyOf_59c91_1 rfl rfl ?_
  refine Tr.alen (pc := 2) d_J7_copyOf_59c91_2 ht (by decide) (by omega) ?_
  refine Tr.icmp_ne (pc := 3) (tgt := 14) d_J7_copyOf_59c91_3 rfl (fun _ => ?_) (fun hc => absurd (show (n : Int) ≠ N by omega) (by simpa using hc))
  refine Tr.iload_n (pc := 14) (i := 1) d_J7_copyOf_59c91_14 rfl rfl ?_
  refine Tr.newa_i (pc := 15) (x := (M.1 : Int)) (N := n) d_J7_copyOf_59c91_15 aw_int rfl (by omega) rfl ?_
  refine Tr.astore_n (pc := 17) (i := 2) (ls2 := [(2, (2, (M.1 : Int))), (0, (2, x)), (1, (0, (n : Int)))]) d_J7_copyOf_59c91_17 rfl (by decide) rfl ?_
  refine Tr.aload_n (pc := 18) (i := 0) d_J7_copyOf_59c91_18 rfl rfl ?_
  refine Tr.iconst (pc := 19) d_J7_copyOf_59c91_19 (by decide) ?_
  refine Tr.aload_n (pc := 20) (i := 2) d_J7_copyOf_59c91_20 rfl rfl ?_
  refine Tr.iconst (pc := 21) d_J7_copyOf_59c91_21 (by decide) ?_
  refine Tr.aload_n (pc := 22) (i := 0) d_J7_copyOf_59c91_22 rfl rfl ?_
  refine Tr.alen (pc := 23) d_J7_copyOf_59c91_23 hx2 (by decide) (by omega) ?_
  refine Tr.iload_n (pc := 24) (i := 1) d_J7_copyOf_59c91_24 rfl rfl ?_
  refine Tr.mmin (pc := 25) d_J7_copyOf_59c91_25 ml_14_304 mw_mmin (Nat.le_of_ble_eq_true rfl) ?_
  refine Tr.tp (N : Int) (if_neg (by omega)) ?_
  refine Tr.acopy (pc := 28) (n0 := N) (n1 := n) d_J7_copyOf_59c91_28 ac_14_150 acw.1 acw.2.1 acw.2.2 hx2 (by rw [mT_nw, if_pos rfl]) (by omega) (by omega) (by omega) (by omega) (by omega) (Nat.le_of_ble_eq_true rfl) ?_
  refine Tr.aload_n (pc := 31) (i := 2) d_J7_copyOf_59c91_31 rfl rfl ?_
  exact Tr.aret (pc := 32) d_J7_copyOf_59c91_32 rfl ⟨rfl, rfl⟩
set_option maxRecDepth 100000 in
set_option maxHeartbeats 4000000 in
theorem sp_copyL {l : Launch} {K : EC} {M : Mem} {x : Int} {N n : Nat} (ht : mT M x = (21, N)) (hx : x < M.1) (hN : N < n) (hn : n ≤ 10000) : Tr l K 1 mJ7_copyOf_c38d5 0 [(0, (2, x)), (1, (0, (n : Int)))] [] M (fun M' r => M' = cpy (mnew M (21, n)) x (M.1 : Int) 0 0 (N : Int) ∧ r = some (2, (M.1 : Int))) := by
  have hx2 : mT (mnew M (21, n)) x = (21, N) := by rw [mT_nw, if_neg (by omega)]; exact ht
  refine Tr.iload_n (pc := 0) (i := 1) d_J7_copyOf_c38d5_0 rfl rfl ?_
  refine Tr.aload_n (pc := 1) (i := 0) d_J7_copyOf_c38d5_1 rfl rfl ?_
  refine Tr.alen (pc := 2) d_J7_copyOf_c38d5_2 ht (by decide) (by omega) ?_
  refine Tr.icmp_ne (pc := 3) (tgt := 14) d_J7_copyOf_c38d5_3 rfl (fun _ => ?_) (fun hc => absurd (show (n : Int) ≠ N by omega) (by simpa using hc))
  refine Tr.iload_n (pc := 14) (i := 1) d_J7_copyOf_c38d5_14 rfl rfl ?_
  refine Tr.newa_l (pc := 15) (x := (M.1 : Int)) (N := n) d_J7_copyOf_c38d5_15 aw_long rfl (by omega) rfl ?_
  refine Tr.astore_n (pc := 17) (i := 2) (ls2 := [(2, (2, (M.1 : Int))), (0, (2, x)), (1, (0, (n : Int)))]) d_J7_copyOf_c38d5_17 rfl (by decide) rfl ?_
  refine Tr.aload_n (pc := 18) (i := 0) d_J7_copyOf_c38d5_18 rfl rfl ?_
  refine Tr.iconst (pc := 19) d_J7_copyOf_c38d5_19 (by decide) ?_
  refine Tr.aload_n (pc := 20) (i := 2) d_J7_copyOf_c38d5_20 rfl rfl ?_
  refine Tr.iconst (pc := 21) d_J7_copyOf_c38d5_21 (by decide) ?_
  refine Tr.aload_n (pc := 22) (i := 0) d_J7_copyOf_c38d5_22 rfl rfl ?_
  refine Tr.alen (pc := 23) d_J7_copyOf_c38d5_23 hx2 (by decide) (by omega) ?_
  refine Tr.iload_n (pc := 24) (i := 1) d_J7_copyOf_c38d5_24 rfl rfl ?_
  refine Tr.mmin (pc := 25) d_J7_copyOf_c38d5_25 ml_14_304 mw_mmin (Nat.le_of_ble_eq_true rfl) ?_
  refine Tr.tp (N : Int) (if_neg (by omega)) ?_
  refine Tr.acopyL (pc := 28) (n0 := N) (n1 := n) d_J7_copyOf_c38d5_28 ac_14_150 acw.1 acw.2.1 acw.2.2 hx2 (by rw [mT_nw, if_pos rfl]) (by omega) (by omega) (by omega) (by omega) (by omega) (Nat.le_of_ble_eq_true rfl) ?_
  refine Tr.aload_n (pc := 31) (i := 2) d_J7_copyOf_c38d5_31 rfl rfl ?_
  exact Tr.aret (pc := 32) d_J7_copyOf_c38d5_32 rfl ⟨rfl, rfl⟩
def ws_X8_makeRoom_63 : List (Int × Int) := [(63, 1), (63, 2), (63, 3), (63, 4), (63, 5), (63, 8), (63, 9), (63, 10), (63, 11)]
def as_X8_makeRoom_63 : List Int := [191]
def q_X8_makeRoom_63 (M0 M' : Mem) (r : Option PV) : Prop := St Tru ws_X8_makeRoom_63 as_X8_makeRoom_63 M0 M' ∧ r = none
set_option maxRecDepth 100000 in
set_option maxHeartbeats 4000000 in
theorem sp_X8_makeRoom_63 {l : Launch} {K : EC} {M0 : Mem} (hI : In Tru M0) (hq0 : rd M0 63 7 ≤ 2000) : Tr l K 2 mX8_makeRoom 0 [(0, (2, 63))] [] M0 (q_X8_makeRoom_63 M0) := by
  have hS : St Tru ws_X8_makeRoom_63 as_X8_makeRoom_63 M0 M0 := St.rf hI
  obtain ⟨b, eb⟩ : ∃ v, rd M0 63 1 = v := ⟨_, rfl⟩
  have hn := tl_n hS eb
  have hb := tl_b hS eb
  refine Tr.aload_n (pc := 0) (i := 0) d_X8_makeRoom_0 rfl rfl ?_
  refine Tr.getf (pc := 1) d_X8_makeRoom_1 f_8_47 (by decide) (by decide) (ty_63 hS.1.1) ?_
  obtain ⟨cv, ecv⟩ : ∃ v, rd M0 63 7 = v := ⟨_, rfl⟩
  refine Tr.tp cv ecv ?_
  refine Tr.aload_n (pc := 4) (i := 0) d_X8_makeRoom_4 rfl rfl ?_
  refine Tr.getf (pc := 5) d_X8_makeRoom_5 f_8_31 (by decide) (by decide) (ty_63 hS.1.1) ?_
  refine Tr.tp (tref b 8) (tl_ref hS eb (by decide)) ?_
  refine Tr.alen (pc := 8) d_X8_makeRoom_8 (tl_tyI hS eb (j := 8) (by decide) (by decide) rfl) (by decide) (by omega) ?_
  refine Tr.icmp_ge (pc := 9) (tgt := 13) d_X8_makeRoom_9 rfl (fun c9 => ?_) (fun c9 => ?_)
  · have hb2 : b ≠ 236 := fun c => by subst c; have : (fN 236 : Int) = 2016 := rfl; omega
    obtain ⟨n, en⟩ : ∃ n : Nat, n = 2 * fN b + 32 := ⟨_, rfl⟩
    have hM0 : M0.1 = tcell b := by rw [← eb]; exact hI.2.2.2.1.2.1
    have hr : ∀ j : Int, j ∈ tJ → tref b j < (M0.1 : Int) ∧ tref b j ≠ 63 := fun j hj => by
      rw [hM0]
      simp only [tJ, List.mem_cons, List.not_mem_nil, or_false] at hj
      rcases hb with rfl | rfl | rfl | rfl | rfl | rfl | rfl <;> rcases hj with rfl | rfl | rfl | rfl | rfl | rfl | rfl | rfl | rfl <;> decide
    have h63 : (63 : Int) < M0.1 := by rw [hM0]; rcases hb with rfl | rfl | rfl | rfl | rfl | rfl | rfl <;> decide
    have hel : ∀ j : Int, j ∈ tJ → ∀ i : Int, 0 ≤ i → i < fN b → tlo j ≤ rd M0 (tref b j) i ∧ rd M0 (tref b j) i ≤ thi j := fun j hj i i0 i1 => tl_el hS eb hj rfl i0 i1
    refine Tr.aload_n (pc := 13) (i := 0) d_X8_makeRoom_13 rfl rfl ?_
    refine Tr.getf (pc := 14) d_X8_makeRoom_14 f_8_31 (by decide) (by decide) (ty_63 hS.1.1) ?_
    refine Tr.tp (tref b 8) (tl_ref hS eb (by decide)) ?_
    refine Tr.alen (pc := 17) d_X8_makeRoom_17 (tl_tyI hS eb (j := 8) (by decide) (by decide) rfl) (by decide) (by omega) ?_
    refine Tr.iconst (pc := 18) d_X8_makeRoom_18 (by decide) ?_
    refine Tr.imul (pc := 19) d_X8_makeRoom_19 ?_
    refine Tr.tp ((fN b : Int) * 2) (w32_id (by omega)) ?_
    refine Tr.bipush (pc := 20) d_X8_makeRoom_20 rfl (by decide) ?_
    refine Tr.iadd (pc := 22) d_X8_makeRoom_22 ?_
    refine Tr.tp (n : Int) ((w32_id (by omega)).trans (by omega)) ?_
    refine Tr.istore_n (pc := 23) (i := 1) (ls2 := [(1, (0, (n : Int))), (0, (2, 63))]) d_X8_makeRoom_23 rfl (by decide) rfl ?_
    have hH0 := Hf.rf M0 n
    have ty0 : mT M0 63 = (8, 12) := (hH0.2.2.1 63 h63).trans (ty_63 hS.1.1)
    have rr0 : rd M0 63 1 = tref b 1 := (hH0.2.2.2.2.1 63 1 h63 (fun i hi e => absurd (show i = 0 from tjk_inj (e.2.symm.trans (show (1 : Int) = tjk 0 from rfl))) (by omega))).trans (tl_ref hS eb (by decide))
    have mm0 := hH0.1
    refine Tr.aload_n (pc := 24) (i := 0) d_X8_makeRoom_24 rfl rfl ?_
    refine Tr.aload_n (pc := 25) (i := 0) d_X8_makeRoom_25 rfl rfl ?_
    refine Tr.getf (pc := 26) d_X8_makeRoom_26 f_8_9 (by decide) (by decide) ty0 ?_
    refine Tr.tp (tref b 1) rr0 ?_
    refine Tr.iload_n (pc := 29) (i := 1) d_X8_makeRoom_29 rfl rfl ?_
    refine Tr.callS (pc := 30) (as := [_, _]) d_X8_makeRoom_30 s_8_56 ok_J7_copyOf_59c91 rfl rfl (Nat.le_of_ble_eq_true rfl) (Nat.le_of_ble_eq_true rfl) ?_
    refine Tr.imp (sp_copyI (N := fN b) (n := n) ((hH0.2.2.1 _ (hr 1 (by decide)).1).trans (tl_tyI hS eb (j := 1) (by decide) (by decide) rfl)) (by have := (hr 1 (by decide)).1; omega) (by omega) (by omega)) ?_
    rintro _ _ ⟨rfl, rfl⟩
    have hw0 := hH0.step (f := 1) (c := 20) (N := fN b) h63 rfl rfl (tl_ref hS eb (by decide)) (hr 1 (by decide)).1 (hr 1 (by decide)).2 (hel 1 (by decide))
    refine Tr.sc [(2, (M0.1 : Int)), (2, 63)] rfl ?_
    refine Tr.putfS (pc := 33) (P := Hf M0 n 1) d_X8_makeRoom_33 f_8_9 (by decide) (by decide) (by show mT (mnew M0 _) 63 = _; rw [mT_nw, if_neg (by omega)]; exact ty0) hw0 (fun M33 hH1 _ => ?_)
    have ty1 : mT M33 63 = (8, 12) := (hH1.2.2.1 63 h63).trans (ty_63 hS.1.1)
    have rr1 : rd M33 63 2 = tref b 2 := (hH1.2.2.2.2.1 63 2 h63 (fun i hi e => absurd (show i = 1 from tjk_inj (e.2.symm.trans (show (2 : Int) = tjk 1 from rfl))) (by omega))).trans (tl_ref hS eb (by decide))
    have mm1 := hH1.1
    refine Tr.aload_n (pc := 36) (i := 0) d_X8_makeRoom_36 rfl rfl ?_
    refine Tr.aload_n (pc := 37) (i := 0) d_X8_makeRoom_37 rfl rfl ?_
    refine Tr.getf (pc := 38) d_X8_makeRoom_38 f_8_15 (by decide) (by decide) ty1 ?_
    refine Tr.tp (tref b 2) rr1 ?_
    refine Tr.iload_n (pc := 41) (i := 1) d_X8_makeRoom_41 rfl rfl ?_
    refine Tr.callS (pc := 42) (as := [_, _]) d_X8_makeRoom_42 s_8_56 ok_J7_copyOf_59c91 rfl rfl (Nat.le_of_ble_eq_true rfl) (Nat.le_of_ble_eq_true rfl) ?_
    refine Tr.imp (sp_copyI (N := fN b) (n := n) ((hH1.2.2.1 _ (hr 2 (by decide)).1).trans (tl_tyI hS eb (j := 2) (by decide) (by decide) rfl)) (by have := (hr 2 (by decide)).1; omega) (by omega) (by omega)) ?_
    rintro _ _ ⟨rfl, rfl⟩
    have hw1 := hH1.step (f := 2) (c := 20) (N := fN b) h63 rfl rfl (tl_ref hS eb (by decide)) (hr 2 (by decide)).1 (hr 2 (by decide)).2 (hel 2 (by decide))
    refine Tr.sc [(2, (M33.1 : Int)), (2, 63)] rfl ?_
    refine Tr.putfS (pc := 45) (P := Hf M0 n 2) d_X8_makeRoom_45 f_8_15 (by decide) (by decide) (by show mT (mnew M33 _) 63 = _; rw [mT_nw, if_neg (by omega)]; exact ty1) hw1 (fun M45 hH2 _ => ?_)
    have ty2 : mT M45 63 = (8, 12) := (hH2.2.2.1 63 h63).trans (ty_63 hS.1.1)
    have rr2 : rd M45 63 3 = tref b 3 := (hH2.2.2.2.2.1 63 3 h63 (fun i hi e => absurd (show i = 2 from tjk_inj (e.2.symm.trans (show (3 : Int) = tjk 2 from rfl))) (by omega))).trans (tl_ref hS eb (by decide))
    have mm2 := hH2.1
    refine Tr.aload_n (pc := 48) (i := 0) d_X8_makeRoom_48 rfl rfl ?_
    refine Tr.aload_n (pc := 49) (i := 0) d_X8_makeRoom_49 rfl rfl ?_
    refine Tr.getf (pc := 50) d_X8_makeRoom_50 f_8_18 (by decide) (by decide) ty2 ?_
    refine Tr.tp (tref b 3) rr2 ?_
    refine Tr.iload_n (pc := 53) (i := 1) d_X8_makeRoom_53 rfl rfl ?_
    refine Tr.callS (pc := 54) (as := [_, _]) d_X8_makeRoom_54 s_8_56 ok_J7_copyOf_59c91 rfl rfl (Nat.le_of_ble_eq_true rfl) (Nat.le_of_ble_eq_true rfl) ?_
    refine Tr.imp (sp_copyI (N := fN b) (n := n) ((hH2.2.2.1 _ (hr 3 (by decide)).1).trans (tl_tyI hS eb (j := 3) (by decide) (by decide) rfl)) (by have := (hr 3 (by decide)).1; omega) (by omega) (by omega)) ?_
    rintro _ _ ⟨rfl, rfl⟩
    have hw2 := hH2.step (f := 3) (c := 20) (N := fN b) h63 rfl rfl (tl_ref hS eb (by decide)) (hr 3 (by decide)).1 (hr 3 (by decide)).2 (hel 3 (by decide))
    refine Tr.sc [(2, (M45.1 : Int)), (2, 63)] rfl ?_
    refine Tr.putfS (pc := 57) (P := Hf M0 n 3) d_X8_makeRoom_57 f_8_18 (by decide) (by decide) (by show mT (mnew M45 _) 63 = _; rw [mT_nw, if_neg (by omega)]; exact ty2) hw2 (fun M57 hH3 _ => ?_)
    have ty3 : mT M57 63 = (8, 12) := (hH3.2.2.1 63 h63).trans (ty_63 hS.1.1)
    have rr3 : rd M57 63 4 = tref b 4 := (hH3.2.2.2.2.1 63 4 h63 (fun i hi e => absurd (show i = 3 from tjk_inj (e.2.symm.trans (show (4 : Int) = tjk 3 from rfl))) (by omega))).trans (tl_ref hS eb (by decide))
    have mm3 := hH3.1
    refine Tr.aload_n (pc := 60) (i := 0) d_X8_makeRoom_60 rfl rfl ?_
    refine Tr.aload_n (pc := 61) (i := 0) d_X8_makeRoom_61 rfl rfl ?_
    refine Tr.getf (pc := 62) d_X8_makeRoom_62 f_8_21 (by decide) (by decide) ty3 ?_
    refine Tr.tp (tref b 4) rr3 ?_
    refine Tr.iload_n (pc := 65) (i := 1) d_X8_makeRoom_65 rfl rfl ?_
    refine Tr.callS (pc := 66) (as := [_, _]) d_X8_makeRoom_66 s_8_56 ok_J7_copyOf_59c91 rfl rfl (Nat.le_of_ble_eq_true rfl) (Nat.le_of_ble_eq_true rfl) ?_
    refine Tr.imp (sp_copyI (N := fN b) (n := n) ((hH3.2.2.1 _ (hr 4 (by decide)).1).trans (tl_tyI hS eb (j := 4) (by decide) (by decide) rfl)) (by have := (hr 4 (by decide)).1; omega) (by omega) (by omega)) ?_
    rintro _ _ ⟨rfl, rfl⟩
    have hw3 := hH3.step (f := 4) (c := 20) (N := fN b) h63 rfl rfl (tl_ref hS eb (by decide)) (hr 4 (by decide)).1 (hr 4 (by decide)).2 (hel 4 (by decide))
    refine Tr.sc [(2, (M57.1 : Int)), (2, 63)] rfl ?_
    refine Tr.putfS (pc := 69) (P := Hf M0 n 4) d_X8_makeRoom_69 f_8_21 (by decide) (by decide) (by show mT (mnew M57 _) 63 = _; rw [mT_nw, if_neg (by omega)]; exact ty3) hw3 (fun M69 hH4 _ => ?_)
    have ty4 : mT M69 63 = (8, 12) := (hH4.2.2.1 63 h63).trans (ty_63 hS.1.1)
    have rr4 : rd M69 63 5 = tref b 5 := (hH4.2.2.2.2.1 63 5 h63 (fun i hi e => absurd (show i = 4 from tjk_inj (e.2.symm.trans (show (5 : Int) = tjk 4 from rfl))) (by omega))).trans (tl_ref hS eb (by decide))
    have mm4 := hH4.1
    refine Tr.aload_n (pc := 72) (i := 0) d_X8_makeRoom_72 rfl rfl ?_
    refine Tr.aload_n (pc := 73) (i := 0) d_X8_makeRoom_73 rfl rfl ?_
    refine Tr.getf (pc := 74) d_X8_makeRoom_74 f_8_24 (by decide) (by decide) ty4 ?_
    refine Tr.tp (tref b 5) rr4 ?_
    refine Tr.iload_n (pc := 77) (i := 1) d_X8_makeRoom_77 rfl rfl ?_
    refine Tr.callS (pc := 78) (as := [_, _]) d_X8_makeRoom_78 s_8_60 ok_J7_copyOf_c38d5 rfl rfl (Nat.le_of_ble_eq_true rfl) (Nat.le_of_ble_eq_true rfl) ?_
    refine Tr.imp (sp_copyL (N := fN b) (n := n) ((hH4.2.2.1 _ (hr 5 (by decide)).1).trans (tl_tyL hS eb rfl)) (by have := (hr 5 (by decide)).1; omega) (by omega) (by omega)) ?_
    rintro _ _ ⟨rfl, rfl⟩
    have hw4 := hH4.step (f := 5) (c := 21) (N := fN b) h63 rfl rfl (tl_ref hS eb (by decide)) (hr 5 (by decide)).1 (hr 5 (by decide)).2 (hel 5 (by decide))
    refine Tr.sc [(2, (M69.1 : Int)), (2, 63)] rfl ?_
    refine Tr.putfS (pc := 81) (P := Hf M0 n 5) d_X8_makeRoom_81 f_8_24 (by decide) (by decide) (by show mT (mnew M69 _) 63 = _; rw [mT_nw, if_neg (by omega)]; exact ty4) hw4 (fun M81 hH5 _ => ?_)
    have ty5 : mT M81 63 = (8, 12) := (hH5.2.2.1 63 h63).trans (ty_63 hS.1.1)
    have rr5 : rd M81 63 8 = tref b 8 := (hH5.2.2.2.2.1 63 8 h63 (fun i hi e => absurd (show i = 5 from tjk_inj (e.2.symm.trans (show (8 : Int) = tjk 5 from rfl))) (by omega))).trans (tl_ref hS eb (by decide))
    have mm5 := hH5.1
    refine Tr.aload_n (pc := 84) (i := 0) d_X8_makeRoom_84 rfl rfl ?_
    refine Tr.aload_n (pc := 85) (i := 0) d_X8_makeRoom_85 rfl rfl ?_
    refine Tr.getf (pc := 86) d_X8_makeRoom_86 f_8_31 (by decide) (by decide) ty5 ?_
    refine Tr.tp (tref b 8) rr5 ?_
    refine Tr.iload_n (pc := 89) (i := 1) d_X8_makeRoom_89 rfl rfl ?_
    refine Tr.callS (pc := 90) (as := [_, _]) d_X8_makeRoom_90 s_8_56 ok_J7_copyOf_59c91 rfl rfl (Nat.le_of_ble_eq_true rfl) (Nat.le_of_ble_eq_true rfl) ?_
    refine Tr.imp (sp_copyI (N := fN b) (n := n) ((hH5.2.2.1 _ (hr 8 (by decide)).1).trans (tl_tyI hS eb (j := 8) (by decide) (by decide) rfl)) (by have := (hr 8 (by decide)).1; omega) (by omega) (by omega)) ?_
    rintro _ _ ⟨rfl, rfl⟩
    have hw5 := hH5.step (f := 8) (c := 20) (N := fN b) h63 rfl rfl (tl_ref hS eb (by decide)) (hr 8 (by decide)).1 (hr 8 (by decide)).2 (hel 8 (by decide))
    refine Tr.sc [(2, (M81.1 : Int)), (2, 63)] rfl ?_
    refine Tr.putfS (pc := 93) (P := Hf M0 n 6) d_X8_makeRoom_93 f_8_31 (by decide) (by decide) (by show mT (mnew M81 _) 63 = _; rw [mT_nw, if_neg (by omega)]; exact ty5) hw5 (fun M93 hH6 _ => ?_)
    have ty6 : mT M93 63 = (8, 12) := (hH6.2.2.1 63 h63).trans (ty_63 hS.1.1)
    have rr6 : rd M93 63 9 = tref b 9 := (hH6.2.2.2.2.1 63 9 h63 (fun i hi e => absurd (show i = 6 from tjk_inj (e.2.symm.trans (show (9 : Int) = tjk 6 from rfl))) (by omega))).trans (tl_ref hS eb (by decide))
    have mm6 := hH6.1
    refine Tr.aload_n (pc := 96) (i := 0) d_X8_makeRoom_96 rfl rfl ?_
    refine Tr.aload_n (pc := 97) (i := 0) d_X8_makeRoom_97 rfl rfl ?_
    refine Tr.getf (pc := 98) d_X8_makeRoom_98 f_8_34 (by decide) (by decide) ty6 ?_
    refine Tr.tp (tref b 9) rr6 ?_
    refine Tr.iload_n (pc := 101) (i := 1) d_X8_makeRoom_101 rfl rfl ?_
    refine Tr.callS (pc := 102) (as := [_, _]) d_X8_makeRoom_102 s_8_56 ok_J7_copyOf_59c91 rfl rfl (Nat.le_of_ble_eq_true rfl) (Nat.le_of_ble_eq_true rfl) ?_
    refine Tr.imp (sp_copyI (N := fN b) (n := n) ((hH6.2.2.1 _ (hr 9 (by decide)).1).trans (tl_tyI hS eb (j := 9) (by decide) (by decide) rfl)) (by have := (hr 9 (by decide)).1; omega) (by omega) (by omega)) ?_
    rintro _ _ ⟨rfl, rfl⟩
    have hw6 := hH6.step (f := 9) (c := 20) (N := fN b) h63 rfl rfl (tl_ref hS eb (by decide)) (hr 9 (by decide)).1 (hr 9 (by decide)).2 (hel 9 (by decide))
    refine Tr.sc [(2, (M93.1 : Int)), (2, 63)] rfl ?_
    refine Tr.putfS (pc := 105) (P := Hf M0 n 7) d_X8_makeRoom_105 f_8_34 (by decide) (by decide) (by show mT (mnew M93 _) 63 = _; rw [mT_nw, if_neg (by omega)]; exact ty6) hw6 (fun M105 hH7 _ => ?_)
    have ty7 : mT M105 63 = (8, 12) := (hH7.2.2.1 63 h63).trans (ty_63 hS.1.1)
    have rr7 : rd M105 63 10 = tref b 10 := (hH7.2.2.2.2.1 63 10 h63 (fun i hi e => absurd (show i = 7 from tjk_inj (e.2.symm.trans (show (10 : Int) = tjk 7 from rfl))) (by omega))).trans (tl_ref hS eb (by decide))
    have mm7 := hH7.1
    refine Tr.aload_n (pc := 108) (i := 0) d_X8_makeRoom_108 rfl rfl ?_
    refine Tr.aload_n (pc := 109) (i := 0) d_X8_makeRoom_109 rfl rfl ?_
    refine Tr.getf (pc := 110) d_X8_makeRoom_110 f_8_37 (by decide) (by decide) ty7 ?_
    refine Tr.tp (tref b 10) rr7 ?_
    refine Tr.iload_n (pc := 113) (i := 1) d_X8_makeRoom_113 rfl rfl ?_
    refine Tr.callS (pc := 114) (as := [_, _]) d_X8_makeRoom_114 s_8_56 ok_J7_copyOf_59c91 rfl rfl (Nat.le_of_ble_eq_true rfl) (Nat.le_of_ble_eq_true rfl) ?_
    refine Tr.imp (sp_copyI (N := fN b) (n := n) ((hH7.2.2.1 _ (hr 10 (by decide)).1).trans (tl_tyI hS eb (j := 10) (by decide) (by decide) rfl)) (by have := (hr 10 (by decide)).1; omega) (by omega) (by omega)) ?_
    rintro _ _ ⟨rfl, rfl⟩
    have hw7 := hH7.step (f := 10) (c := 20) (N := fN b) h63 rfl rfl (tl_ref hS eb (by decide)) (hr 10 (by decide)).1 (hr 10 (by decide)).2 (hel 10 (by decide))
    refine Tr.sc [(2, (M105.1 : Int)), (2, 63)] rfl ?_
    refine Tr.putfS (pc := 117) (P := Hf M0 n 8) d_X8_makeRoom_117 f_8_37 (by decide) (by decide) (by show mT (mnew M105 _) 63 = _; rw [mT_nw, if_neg (by omega)]; exact ty7) hw7 (fun M117 hH8 _ => ?_)
    have ty8 : mT M117 63 = (8, 12) := (hH8.2.2.1 63 h63).trans (ty_63 hS.1.1)
    have rr8 : rd M117 63 11 = tref b 11 := (hH8.2.2.2.2.1 63 11 h63 (fun i hi e => absurd (show i = 8 from tjk_inj (e.2.symm.trans (show (11 : Int) = tjk 8 from rfl))) (by omega))).trans (tl_ref hS eb (by decide))
    have mm8 := hH8.1
    refine Tr.aload_n (pc := 120) (i := 0) d_X8_makeRoom_120 rfl rfl ?_
    refine Tr.aload_n (pc := 121) (i := 0) d_X8_makeRoom_121 rfl rfl ?_
    refine Tr.getf (pc := 122) d_X8_makeRoom_122 f_8_40 (by decide) (by decide) ty8 ?_
    refine Tr.tp (tref b 11) rr8 ?_
    refine Tr.iload_n (pc := 125) (i := 1) d_X8_makeRoom_125 rfl rfl ?_
    refine Tr.callS (pc := 126) (as := [_, _]) d_X8_makeRoom_126 s_8_56 ok_J7_copyOf_59c91 rfl rfl (Nat.le_of_ble_eq_true rfl) (Nat.le_of_ble_eq_true rfl) ?_
    refine Tr.imp (sp_copyI (N := fN b) (n := n) ((hH8.2.2.1 _ (hr 11 (by decide)).1).trans (tl_tyI hS eb (j := 11) (by decide) (by decide) rfl)) (by have := (hr 11 (by decide)).1; omega) (by omega) (by omega)) ?_
    rintro _ _ ⟨rfl, rfl⟩
    have hw8 := hH8.step (f := 11) (c := 20) (N := fN b) h63 rfl rfl (tl_ref hS eb (by decide)) (hr 11 (by decide)).1 (hr 11 (by decide)).2 (hel 11 (by decide))
    refine Tr.sc [(2, (M117.1 : Int)), (2, 63)] rfl ?_
    refine Tr.putfS (pc := 129) (P := Hf M0 n 9) d_X8_makeRoom_129 f_8_40 (by decide) (by decide) (by show mT (mnew M117 _) 63 = _; rw [mT_nw, if_neg (by omega)]; exact ty8) hw8 (fun M129 hH9 _ => ?_)
    exact Tr.vret (pc := 132) d_X8_makeRoom_132 rfl ⟨Hf.done hI eb hb2 en hH9 (by decide) (by decide), rfl⟩
  · exact Tr.vret (pc := 12) d_X8_makeRoom_12 rfl ⟨hS, rfl⟩
end
/-! 30.09 -/
section
def ws_X1_makeRoom_56 : List (Int × Int) := [(63, 1), (63, 2), (63, 3), (63, 4), (63, 5), (63, 8), (63, 9), (63, 10), (63, 11)]
def as_X1_makeRoom_56 : List Int := [191]
def q_X1_makeRoom_56 (M0 M' : Mem) (r : Option PV) : Prop := St Tru ws_X1_makeRoom_56 as_X1_makeRoom_56 M0 M' ∧ r = none
set_option maxRecDepth 100000 in
set_option maxHeartbeats 4000000 in
theorem sp_X1_makeRoom_56 {l : Launch} {K : EC} {M0 : Mem} (hI : In Tru M0)    (hq0 : rd M0 63 7 ≤ 2000) : Tr l K 3 mX1_makeRoom 0 [(0, (2, 56))] [] M0 (q_X1_makeRoom_56 M0) := by
  have hS : St Tru ws_X1_makeRoom_56 as_X1_makeRoom_56 M0 M0 := St.rf hI
  refine Tr.aload_n (pc := 0) (i := 0) d_X1_makeRoom_0 rfl rfl ?_
  refine Tr.getz (pc := 1) d_X1_makeRoom_1 f_1_37 (by decide) (ty_56 hS.1.1) ?_
  refine Tr.tp 1 (fx_56_0 hS.1.1) ?_
  refine Tr.if_eq (pc := 4) (tgt := 14) d_X1_makeRoom_4 rfl (fun hc => absurd hc (by omega)) (fun _ => ?_)
  refine Tr.aload_n (pc := 7) (i := 0) d_X1_makeRoom_7 rfl rfl ?_
  refine Tr.getf (pc := 8) d_X1_makeRoom_8 f_1_33 (by decide) (by decide) (ty_56 hS.1.1) ?_
  refine Tr.tp 63 (fx_56_8 hS.1.1) ?_
  refine Tr.callV (pc := 11) (as := []) d_X1_makeRoom_11 s_1_54 ok_X8_makeRoom rfl rfl (Nat.le_of_ble_eq_true rfl) (Nat.le_of_ble_eq_true rfl) (by decide) (ty_63 hS.1.1) ?_
  obtain ⟨w11_63_7, ew11_63_7⟩ : ∃ v, rd M0 63 7 = v := ⟨_, rfl⟩
  have bw11_63_7 : (-2147483648) ≤ w11_63_7 ∧ w11_63_7 ≤ 2147483647 := by rw [← ew11_63_7]; exact ir_63_7 hS.1.2.1
  have kb11_63_7 : rd M0 63 7 = w11_63_7 := ew11_63_7
  refine Tr.imp (Tr.deep (by decide) (sp_X8_makeRoom_63 hS.1.wk (by omega))) ?_
  rintro M11 _ ⟨h11, rfl⟩
  have hS := St.tr hS h11 (by decide) (by decide)
  refine Tr.sc [] rfl ?_
  exact Tr.vret (pc := 14) d_X1_makeRoom_14 rfl ⟨hS, rfl⟩

def ws_X6_sipsAt_48 : List (Int × Int) := []
def as_X6_sipsAt_48 : List Int := []
def q_X6_sipsAt_48 (M0 M' : Mem) (r : Option PV) : Prop := St Tru ws_X6_sipsAt_48 as_X6_sipsAt_48 M0 M' ∧ ∃ v : Int, r = some (0, v) ∧ (-2147483648) ≤ v ∧ v ≤ 2147483647
set_option maxRecDepth 100000 in
set_option maxHeartbeats 4000000 in
theorem sp_X6_sipsAt_48 {l : Launch} {K : EC} {M0 : Mem} (hI : In Tru M0) (en_48_1 : rd M0 48 1 = 7) (a1 : Int) (ha1 : (-2147483648) ≤ a1 ∧ a1 ≤ 2147483647) (a2 : Int) (ha2 : (-1) ≤ a2 ∧ a2 ≤ (-1)) (a3 : Int) (ha3 : 0 ≤ a3 ∧ a3 ≤ 0)  : Tr l K 0 mX6_sipsAt 0 [(0, (2, 48)), (1, (0, a1)), (2, (0, a2)), (3, (0, a3))] [] M0 (q_X6_sipsAt_48 M0) := by
  have hS : St Tru ws_X6_sipsAt_48 as_X6_sipsAt_48 M0 M0 := St.rf hI
  refine Tr.aload_n (pc := 0) (i := 0) d_X6_sipsAt_0 rfl rfl ?_
  refine Tr.getf (pc := 1) d_X6_sipsAt_1 f_6_46 (by decide) (by decide) (ty_48 hS.1.1) ?_
  refine Tr.tp 7 ((St.kp hS (by decide) (by decide) (by decide)).trans en_48_1) ?_
  refine Tr.getf (pc := 4) d_X6_sipsAt_4 f_6_135 (by decide) (by decide) (ty_7 hS.1.1) ?_
  refine Tr.gen (P := fun v => (-1) ≤ v ∧ v ≤ 999) (ir_7_0 hS.1.2.1) (fun r4 er4 br4 => ?_)
  refine Tr.istore (pc := 7) (i := 4) (ls2 := [(4, (0, r4)), (0, (2, 48)), (1, (0, a1)), (2, (0, a2)), (3, (0, a3))]) d_X6_sipsAt_7 (by decide) rfl ?_
  refine Tr.iconst (pc := 9) d_X6_sipsAt_9 (by decide) ?_
  refine Tr.istore (pc := 10) (i := 5) (ls2 := [(5, (0, 0)), (4, (0, r4)), (0, (2, 48)), (1, (0, a1)), (2, (0, a2)), (3, (0, a3))]) d_X6_sipsAt_10 (by decide) rfl ?_
  have J12 : ∀ (n12 : Nat) (M : Mem) (p12_4 p12_5 : Int), St Tru ws_X6_sipsAt_48 as_X6_sipsAt_48 M0 M → ((-2147483648) ≤ p12_4 ∧ p12_4 ≤ 2147483647) → (0 ≤ p12_5 ∧ p12_5 ≤ 6) → rd M 7 0 = r4 → (6 - p12_5).toNat < n12 → Tr l K 0 mX6_sipsAt 12 [(0, (2, 48)), (1, (0, a1)), (2, (0, a2)), (3, (0, a3)), (4, (0, p12_4)), (5, (0, p12_5))] [] M (q_X6_sipsAt_48 M0) := by
    intro n12
    induction n12 with
    | zero => intro M p12_4 p12_5 hS bp12_4 bp12_5 k12_7_0 hm12; exact absurd hm12 (Nat.not_lt_zero _)
    | succ n12 J12 =>
      intro M p12_4 p12_5 hS bp12_4 bp12_5 k12_7_0 hm12
      refine Tr.iload (pc := 12) (i := 5) d_X6_sipsAt_12 rfl ?_
      refine Tr.aload_n (pc := 14) (i := 0) d_X6_sipsAt_14 rfl rfl ?_
      refine Tr.getf (pc := 15) d_X6_sipsAt_15 f_6_46 (by decide) (by decide) (ty_48 hS.1.1) ?_
      refine Tr.tp 7 ((St.kp hS (by decide) (by decide) (by decide)).trans en_48_1) ?_
      refine Tr.getf (pc := 18) d_X6_sipsAt_18 f_6_116 (by decide) (by decide) (ty_7 hS.1.1) ?_
      refine Tr.tp 8 (fx_7_4 hS.1.1) ?_
      refine Tr.iconst (pc := 21) d_X6_sipsAt_21 (by decide) ?_
      refine Tr.iald (pc := 22) d_X6_sipsAt_22 (ty_8 hS.1.1) (by omega) (by omega) ?_
      refine Tr.gen (P := fun v => 0 ≤ v ∧ v ≤ 6) (ir_8_0 hS.1.2.1) (fun r22 er22 br22 => ?_)
      refine Tr.icmp_ge (pc := 23) (tgt := 91) d_X6_sipsAt_23 rfl (fun c23 => ?_) (fun c23 => ?_)
      · refine Tr.iload (pc := 91) (i := 4) d_X6_sipsAt_91 rfl ?_
        exact Tr.iret (pc := 93) d_X6_sipsAt_93 rfl ⟨hS, _, rfl, by omega, by omega⟩
      · refine Tr.aload_n (pc := 26) (i := 0) d_X6_sipsAt_26 rfl rfl ?_
        refine Tr.getf (pc := 27) d_X6_sipsAt_27 f_6_24 (by decide) (by decide) (ty_48 hS.1.1) ?_
        refine Tr.tp 53 (fx_48_6 hS.1.1) ?_
        refine Tr.iload (pc := 30) (i := 5) d_X6_sipsAt_30 rfl ?_
        refine Tr.iald (pc := 32) d_X6_sipsAt_32 (ty_53 hS.1.1) (by omega) (by omega) ?_
        refine Tr.gen (P := fun v => 0 ≤ v ∧ v ≤ 1) (ar_53 hS.1.2.1 _) (fun r32 er32 br32 => ?_)
        refine Tr.iconst (pc := 33) d_X6_sipsAt_33 (by decide) ?_
        have J53 : ∀ (M : Mem) (q53_0 : Int), St Tru ws_X6_sipsAt_48 as_X6_sipsAt_48 M0 M → (0 ≤ q53_0 ∧ q53_0 ≤ 2) → rd M 53 p12_5 = r32 → rd M 7 0 = r4 → rd M 8 0 = r22 → Tr l K 0 mX6_sipsAt 53 [(0, (2, 48)), (1, (0, a1)), (2, (0, a2)), (3, (0, a3)), (4, (0, p12_4)), (5, (0, p12_5))] [(0, q53_0)] M (q_X6_sipsAt_48 M0) := by
          intro M q53_0 hS bq53_0 k53_53_p12_510 k53_7_0 k53_8_0
          refine Tr.istore (pc := 53) (i := 6) (ls2 := [(6, (0, q53_0)), (0, (2, 48)), (1, (0, a1)), (2, (0, a2)), (3, (0, a3)), (4, (0, p12_4)), (5, (0, p12_5))]) d_X6_sipsAt_53 (by decide) rfl ?_
          refine Tr.iload (pc := 55) (i := 4) d_X6_sipsAt_55 rfl ?_
          refine Tr.aload_n (pc := 57) (i := 0) d_X6_sipsAt_57 rfl rfl ?_
          refine Tr.getf (pc := 58) d_X6_sipsAt_58 f_6_46 (by decide) (by decide) (ty_48 hS.1.1) ?_
          refine Tr.tp 7 ((St.kp hS (by decide) (by decide) (by decide)).trans en_48_1) ?_
          refine Tr.getf (pc := 61) d_X6_sipsAt_61 f_6_189 (by decide) (by decide) (ty_7 hS.1.1) ?_
          refine Tr.tp 9 (fx_7_5 hS.1.1) ?_
          refine Tr.iload (pc := 64) (i := 5) d_X6_sipsAt_64 rfl ?_
          refine Tr.iconst (pc := 66) d_X6_sipsAt_66 (by decide) ?_
          refine Tr.imul (pc := 67) d_X6_sipsAt_67 ?_
          refine Tr.tp (4 * p12_5) ((w32_id (by omega)).trans (by omega)) ?_
          refine Tr.iload (pc := 68) (i := 5) d_X6_sipsAt_68 rfl ?_
          refine Tr.iload_n (pc := 70) (i := 2) d_X6_sipsAt_70 rfl rfl ?_
          refine Tr.tp (-1) (by omega) ?_
          refine Tr.icmp_ne (pc := 71) (tgt := 78) d_X6_sipsAt_71 rfl (fun _ => ?_) (fun hc => absurd hc (by omega))
          refine Tr.iload (pc := 78) (i := 6) d_X6_sipsAt_78 rfl ?_
          refine Tr.iadd (pc := 80) d_X6_sipsAt_80 ?_
          refine Tr.tp (4 * p12_5 + q53_0) ((w32_id (by omega)).trans (by omega)) ?_
          refine Tr.iald (pc := 81) d_X6_sipsAt_81 (ty_9 hS.1.1) (by omega) (by omega) ?_
          refine Tr.gen (P := fun v => (-1) ≤ v ∧ v ≤ 999) (ar_9 hS.1.2.1 _) (fun r81 er81 br81 => ?_)
          refine Tr.iadd (pc := 82) d_X6_sipsAt_82 ?_
          refine Tr.gen (P := fun v => (-2147483648) ≤ v ∧ v ≤ 2147483647) (w32_b _) (fun r82 er82 br82 => ?_)
          refine Tr.istore (pc := 83) (i := 4) (ls2 := [(4, (0, r82)), (6, (0, q53_0)), (0, (2, 48)), (1, (0, a1)), (2, (0, a2)), (3, (0, a3)), (5, (0, p12_5))]) d_X6_sipsAt_83 (by decide) rfl ?_
          refine Tr.iincV (pc := 85) (n2 := (p12_5 + 1)) (ls2 := [(5, (0, (p12_5 + 1))), (4, (0, r82)), (6, (0, q53_0)), (0, (2, 48)), (1, (0, a1)), (2, (0, a2)), (3, (0, a3))]) d_X6_sipsAt_85 rfl (by decide) ((w32_id (by omega)).trans (by omega)) rfl ?_
          refine Tr.goto (pc := 88) (tgt := 12) d_X6_sipsAt_88 rfl ?_
          refine Tr.pick [3, 4, 5, 6, 1, 0] (ls2 := [(0, (2, 48)), (1, (0, a1)), (2, (0, a2)), (3, (0, a3)), (4, (0, r82)), (5, (0, (p12_5 + 1)))]) rfl ?_
          exact J12 _ _ _ hS (by omega) (by omega) k53_7_0 (by omega)
        have J48 : ∀ (M : Mem), St Tru ws_X6_sipsAt_48 as_X6_sipsAt_48 M0 M → rd M 53 p12_5 = r32 → rd M 7 0 = r4 → rd M 8 0 = r22 → Tr l K 0 mX6_sipsAt 48 [(0, (2, 48)), (1, (0, a1)), (2, (0, a2)), (3, (0, a3)), (4, (0, p12_4)), (5, (0, p12_5))] [] M (q_X6_sipsAt_48 M0) := by
          intro M  hS  k48_53_p12_510 k48_7_0 k48_8_0
          refine Tr.iconst (pc := 48) d_X6_sipsAt_48 (by decide) ?_
          refine Tr.goto (pc := 49) (tgt := 53) d_X6_sipsAt_49 rfl ?_
          refine Tr.pick [0, 1, 2, 3, 4, 5] (ls2 := [(0, (2, 48)), (1, (0, a1)), (2, (0, a2)), (3, (0, a3)), (4, (0, p12_4)), (5, (0, p12_5))]) rfl ?_
          exact J53 _ _ hS (by omega) k48_53_p12_510 k48_7_0 k48_8_0
        refine Tr.icmp_eq (pc := 34) (tgt := 48) d_X6_sipsAt_34 rfl (fun c34 => ?_) (fun c34 => ?_)
        · refine Tr.pick [0, 1, 2, 3, 4, 5] (ls2 := [(0, (2, 48)), (1, (0, a1)), (2, (0, a2)), (3, (0, a3)), (4, (0, p12_4)), (5, (0, p12_5))]) rfl ?_
          exact J48 _ hS er32 k12_7_0 er22
        · refine Tr.iload_n (pc := 37) (i := 1) d_X6_sipsAt_37 rfl rfl ?_
          refine Tr.aload_n (pc := 38) (i := 0) d_X6_sipsAt_38 rfl rfl ?_
          refine Tr.getf (pc := 39) d_X6_sipsAt_39 f_6_27 (by decide) (by decide) (ty_48 hS.1.1) ?_
          refine Tr.tp 54 (fx_48_7 hS.1.1) ?_
          refine Tr.iload (pc := 42) (i := 5) d_X6_sipsAt_42 rfl ?_
          refine Tr.iald (pc := 44) d_X6_sipsAt_44 (ty_54 hS.1.1) (by omega) (by omega) ?_
          refine Tr.gen (P := fun v => (-2147483648) ≤ v ∧ v ≤ 2147483647) (ar_54 hS.1.2.1 _) (fun r44 er44 br44 => ?_)
          refine Tr.icmp_ge (pc := 45) (tgt := 52) d_X6_sipsAt_45 rfl (fun c45 => ?_) (fun c45 => ?_)
          · refine Tr.iconst (pc := 52) d_X6_sipsAt_52 (by decide) ?_
            refine Tr.pick [0, 1, 2, 3, 4, 5] (ls2 := [(0, (2, 48)), (1, (0, a1)), (2, (0, a2)), (3, (0, a3)), (4, (0, p12_4)), (5, (0, p12_5))]) rfl ?_
            exact J53 _ _ hS (by omega) er32 k12_7_0 er22
          · refine Tr.pick [0, 1, 2, 3, 4, 5] (ls2 := [(0, (2, 48)), (1, (0, a1)), (2, (0, a2)), (3, (0, a3)), (4, (0, p12_4)), (5, (0, p12_5))]) rfl ?_
            exact J48 _ hS er32 k12_7_0 er22
  refine Tr.pick [2, 3, 4, 5, 1, 0] (ls2 := [(0, (2, 48)), (1, (0, a1)), (2, (0, a2)), (3, (0, a3)), (4, (0, r4)), (5, (0, 0))]) rfl ?_
  exact J12 _ _ _ _ hS (by omega) (by omega) er4 (Nat.lt_succ_self _)

def ws_X6_afforded_48 : List (Int × Int) := [(48, 17)]
def as_X6_afforded_48 : List Int := []
def q_X6_afforded_48 (M0 M' : Mem) (r : Option PV) : Prop := St Tru ws_X6_afforded_48 as_X6_afforded_48 M0 M' ∧ ∃ v : Int, r = some (0, v) ∧ (-2147483648) ≤ v ∧ v ≤ 1
set_option maxRecDepth 100000 in
set_option maxHeartbeats 4000000 in
theorem sp_X6_afforded_48 {l : Launch} {K : EC} {M0 : Mem} (hI : In Tru M0) (en_48_1 : rd M0 48 1 = 7) (a1 : Int) (ha1 : (-2147483648) ≤ a1 ∧ a1 ≤ 1) (a2 : Int) (ha2 : (-1) ≤ a2 ∧ a2 ≤ (-1)) (a3 : Int) (ha3 : 0 ≤ a3 ∧ a3 ≤ 0)  : Tr l K 1 mX6_afforded 0 [(0, (2, 48)), (1, (0, a1)), (2, (0, a2)), (3, (0, a3))] [] M0 (q_X6_afforded_48 M0) := by
  have hS : St Tru ws_X6_afforded_48 as_X6_afforded_48 M0 M0 := St.rf hI
  refine Tr.iconst (pc := 0) d_X6_afforded_0 (by decide) ?_
  refine Tr.istore (pc := 1) (i := 4) (ls2 := [(4, (0, 0)), (0, (2, 48)), (1, (0, a1)), (2, (0, a2)), (3, (0, a3))]) d_X6_afforded_1 (by decide) rfl ?_
  have J3 : ∀ (n3 : Nat) (M : Mem) (p3_4 : Int), St Tru ws_X6_afforded_48 as_X6_afforded_48 M0 M → (0 ≤ p3_4 ∧ p3_4 ≤ 1) → (1 - p3_4).toNat < n3 → Tr l K 1 mX6_afforded 3 [(0, (2, 48)), (1, (0, a1)), (2, (0, a2)), (3, (0, a3)), (4, (0, p3_4))] [] M (q_X6_afforded_48 M0) := by
    intro n3
    induction n3 with
    | zero => intro M p3_4 hS bp3_4  hm3; exact absurd hm3 (Nat.not_lt_zero _)
    | succ n3 J3 =>
      intro M p3_4 hS bp3_4  hm3
      refine Tr.iload (pc := 3) (i := 4) d_X6_afforded_3 rfl ?_
      refine Tr.iload_n (pc := 5) (i := 1) d_X6_afforded_5 rfl rfl ?_
      refine Tr.icmp_ge (pc := 6) (tgt := 53) d_X6_afforded_6 rfl (fun c6 => ?_) (fun c6 => ?_)
      · refine Tr.iload_n (pc := 53) (i := 1) d_X6_afforded_53 rfl rfl ?_
        exact Tr.iret (pc := 54) d_X6_afforded_54 rfl ⟨hS, _, rfl, by omega, by omega⟩
      · refine Tr.aload_n (pc := 9) (i := 0) d_X6_afforded_9 rfl rfl ?_
        refine Tr.aload_n (pc := 10) (i := 0) d_X6_afforded_10 rfl rfl ?_
        refine Tr.getf (pc := 11) d_X6_afforded_11 f_6_68 (by decide) (by decide) (ty_48 hS.1.1) ?_
        refine Tr.gen (P := fun v => (-2147483648) ≤ v ∧ v ≤ 2147483647) (ir_48_9 hS.1.2.1) (fun r11 er11 br11 => ?_)
        refine Tr.iload (pc := 14) (i := 4) d_X6_afforded_14 rfl ?_
        refine Tr.iadd (pc := 16) d_X6_afforded_16 ?_
        refine Tr.tp (p3_4 + r11) ((w32_id (by omega)).trans (by omega)) ?_
        refine Tr.iload_n (pc := 17) (i := 2) d_X6_afforded_17 rfl rfl ?_
        refine Tr.tp (-1) (by omega) ?_
        refine Tr.iload_n (pc := 18) (i := 3) d_X6_afforded_18 rfl rfl ?_
        refine Tr.tp 0 (by omega) ?_
        refine Tr.callV (pc := 19) (as := [_, _, _]) d_X6_afforded_19 s_6_186 ok_X6_sipsAt rfl rfl (Nat.le_of_ble_eq_true rfl) (Nat.le_of_ble_eq_true rfl) (by decide) (ty_48 hS.1.1) ?_
        refine Tr.imp (Tr.deep (by decide) (sp_X6_sipsAt_48 hS.1 ((St.kp hS (by decide) (by decide) (by decide)).trans en_48_1) (p3_4 + r11) (by omega) (-1) (by omega) 0 (by omega))) ?_
        rintro M19 _ ⟨h19, r19, rfl, lr19, ur19⟩
        have hS := St.tr hS h19 (by decide) (by decide)
        refine Tr.sc [(0, r19)] rfl ?_
        refine Tr.istore (pc := 22) (i := 5) (ls2 := [(5, (0, r19)), (0, (2, 48)), (1, (0, a1)), (2, (0, a2)), (3, (0, a3)), (4, (0, p3_4))]) d_X6_afforded_22 (by decide) rfl ?_
        refine Tr.iload (pc := 24) (i := 5) d_X6_afforded_24 rfl ?_
        refine Tr.aload_n (pc := 26) (i := 0) d_X6_afforded_26 rfl rfl ?_
        refine Tr.getf (pc := 27) d_X6_afforded_27 f_6_110 (by decide) (by decide) (ty_48 hS.1.1) ?_
        refine Tr.gen (P := fun v => (-2147483648) ≤ v ∧ v ≤ 2147483647) (ir_48_17 hS.1.2.1) (fun r27 er27 br27 => ?_)
        refine Tr.icmp_le (pc := 30) (tgt := 36) d_X6_afforded_30 rfl (fun c30 => ?_) (fun c30 => ?_)
        · refine Tr.aload_n (pc := 36) (i := 0) d_X6_afforded_36 rfl rfl ?_
          refine Tr.dup (pc := 37) d_X6_afforded_37 ne21 ?_
          refine Tr.getf (pc := 38) d_X6_afforded_38 f_6_110 (by decide) (by decide) (ty_48 hS.1.1) ?_
          refine Tr.tp r27 er27 ?_
          refine Tr.iload (pc := 41) (i := 5) d_X6_afforded_41 rfl ?_
          refine Tr.isub (pc := 43) d_X6_afforded_43 ?_
          refine Tr.gen (P := fun v => (-2147483648) ≤ v ∧ v ≤ 2147483647) (w32_b _) (fun r43 er43 br43 => ?_)
          refine Tr.putfS (pc := 44) (P := St Tru ws_X6_afforded_48 as_X6_afforded_48 M0) d_X6_afforded_44 f_6_110 (by decide) (by decide) (ty_48 hS.1.1) (st_48_17 hS (by decide) (by omega) trivial) (fun M44 hS w44 => ?_)
          refine Tr.iincV (pc := 47) (n2 := (p3_4 + 1)) (ls2 := [(4, (0, (p3_4 + 1))), (5, (0, r19)), (0, (2, 48)), (1, (0, a1)), (2, (0, a2)), (3, (0, a3))]) d_X6_afforded_47 rfl (by decide) ((w32_id (by omega)).trans (by omega)) rfl ?_
          refine Tr.goto (pc := 50) (tgt := 3) d_X6_afforded_50 rfl ?_
          refine Tr.pick [2, 3, 4, 5, 0] (ls2 := [(0, (2, 48)), (1, (0, a1)), (2, (0, a2)), (3, (0, a3)), (4, (0, (p3_4 + 1)))]) rfl ?_
          exact J3 _ _ hS (by omega) (by omega)
        · refine Tr.iload (pc := 33) (i := 4) d_X6_afforded_33 rfl ?_
          exact Tr.iret (pc := 35) d_X6_afforded_35 rfl ⟨hS, _, rfl, by omega, by omega⟩
  refine Tr.pick [1, 2, 3, 4, 0] (ls2 := [(0, (2, 48)), (1, (0, a1)), (2, (0, a2)), (3, (0, a3)), (4, (0, 0))]) rfl ?_
  exact J3 _ _ _ hS (by omega) (Nat.lt_succ_self _)

def ws_X6_pass_48 : List (Int × Int) := [(48, 9), (48, 14), (48, 17)]
def as_X6_pass_48 : List Int := []
def q_X6_pass_48 (M0 M' : Mem) (r : Option PV) : Prop := St Tru ws_X6_pass_48 as_X6_pass_48 M0 M' ∧ ∃ v : Int, r = some (0, v) ∧ (-2147483648) ≤ v ∧ v ≤ 1
set_option maxRecDepth 100000 in
set_option maxHeartbeats 4000000 in
theorem sp_X6_pass_48 {l : Launch} {K : EC} {M0 : Mem} (hI : In Tru M0) (en_48_1 : rd M0 48 1 = 7) (a1 : Int) (ha1 : 1 ≤ a1 ∧ a1 ≤ 1) (a2 : Int) (ha2 : (-1) ≤ a2 ∧ a2 ≤ (-1)) (a3 : Int) (ha3 : 0 ≤ a3 ∧ a3 ≤ 0)  : Tr l K 2 mX6_pass 0 [(0, (2, 48)), (1, (0, a1)), (2, (0, a2)), (3, (0, a3))] [] M0 (q_X6_pass_48 M0) := by
  have hS : St Tru ws_X6_pass_48 as_X6_pass_48 M0 M0 := St.rf hI
  refine Tr.iload_n (pc := 0) (i := 1) d_X6_pass_0 rfl rfl ?_
  refine Tr.tp 1 (by omega) ?_
  refine Tr.sipush (pc := 1) d_X6_pass_1 rfl (by decide) ?_
  refine Tr.aload_n (pc := 4) (i := 0) d_X6_pass_4 rfl rfl ?_
  refine Tr.getf (pc := 5) d_X6_pass_5 f_6_68 (by decide) (by decide) (ty_48 hS.1.1) ?_
  refine Tr.gen (P := fun v => (-2147483648) ≤ v ∧ v ≤ 2147483647) (ir_48_9 hS.1.2.1) (fun r5 er5 br5 => ?_)
  refine Tr.isub (pc := 8) d_X6_pass_8 ?_
  refine Tr.gen (P := fun v => (-2147483648) ≤ v ∧ v ≤ 2147483647) (w32_b _) (fun r8 er8 br8 => ?_)
  refine Tr.mmin (pc := 9) d_X6_pass_9 ml_6_158 mw_mmin (Nat.le_of_ble_eq_true rfl) ?_
  refine Tr.gen (P := fun v => (v = 1 ∧ 1 ≤ r8) ∨ (v = r8 ∧ r8 ≤ 1)) (f_min_p _ _) (fun r9 er9 br9 => ?_)
  refine Tr.istore (pc := 12) (i := 4) (ls2 := [(4, (0, r9)), (0, (2, 48)), (1, (0, a1)), (2, (0, a2)), (3, (0, a3))]) d_X6_pass_12 (by decide) rfl ?_
  refine Tr.aload_n (pc := 14) (i := 0) d_X6_pass_14 rfl rfl ?_
  refine Tr.getz (pc := 15) d_X6_pass_15 f_6_106 (by decide) (ty_48 hS.1.1) ?_
  refine Tr.gen (P := fun v => 0 ≤ v ∧ v ≤ 1) (ir_48_16 hS.1.2.1) (fun r15 er15 br15 => ?_)
  have J34 : ∀ (M : Mem) (q34_0 : Int), St Tru ws_X6_pass_48 as_X6_pass_48 M0 M → ((-2147483648) ≤ q34_0 ∧ q34_0 ≤ 1) → rd M 48 16 = r15 → rd M 48 9 = r5 → Tr l K 2 mX6_pass 34 [(0, (2, 48)), (1, (0, a1)), (4, (0, r9))] [(0, q34_0)] M (q_X6_pass_48 M0) := by
    intro M q34_0 hS bq34_0 k34_48_16 k34_48_9
    refine Tr.istore (pc := 34) (i := 5) (ls2 := [(5, (0, q34_0)), (0, (2, 48)), (1, (0, a1)), (4, (0, r9))]) d_X6_pass_34 (by decide) rfl ?_
    refine Tr.aload_n (pc := 36) (i := 0) d_X6_pass_36 rfl rfl ?_
    refine Tr.dup (pc := 37) d_X6_pass_37 ne21 ?_
    refine Tr.getf (pc := 38) d_X6_pass_38 f_6_68 (by decide) (by decide) (ty_48 hS.1.1) ?_
    refine Tr.tp r5 k34_48_9 ?_
    refine Tr.iload (pc := 41) (i := 5) d_X6_pass_41 rfl ?_
    refine Tr.iadd (pc := 43) d_X6_pass_43 ?_
    refine Tr.gen (P := fun v => (-2147483648) ≤ v ∧ v ≤ 2147483647) (w32_b _) (fun r43 er43 br43 => ?_)
    refine Tr.putfS (pc := 44) (P := St Tru ws_X6_pass_48 as_X6_pass_48 M0) d_X6_pass_44 f_6_68 (by decide) (by decide) (ty_48 hS.1.1) (st_48_9 hS (by decide) (by omega) trivial) (fun M44 hS w44 => ?_)
    refine Tr.iload (pc := 47) (i := 5) d_X6_pass_47 rfl ?_
    refine Tr.iload_n (pc := 49) (i := 1) d_X6_pass_49 rfl rfl ?_
    refine Tr.tp 1 (by omega) ?_
    refine Tr.icmp_ge (pc := 50) (tgt := 69) d_X6_pass_50 rfl (fun c50 => ?_) (fun c50 => ?_)
    · refine Tr.iload (pc := 69) (i := 5) d_X6_pass_69 rfl ?_
      refine Tr.tp 1 (by omega) ?_
      exact Tr.iret (pc := 71) d_X6_pass_71 rfl ⟨hS, _, rfl, by omega, by omega⟩
    · refine Tr.aload_n (pc := 53) (i := 0) d_X6_pass_53 rfl rfl ?_
      refine Tr.iload (pc := 54) (i := 5) d_X6_pass_54 rfl ?_
      refine Tr.iload (pc := 56) (i := 4) d_X6_pass_56 rfl ?_
      refine Tr.icmp_ne (pc := 58) (tgt := 65) d_X6_pass_58 rfl (fun c58 => ?_) (fun c58 => ?_)
      · refine Tr.iconst (pc := 65) d_X6_pass_65 (by decide) ?_
        refine Tr.putfS (pc := 66) (P := St Tru ws_X6_pass_48 as_X6_pass_48 M0) d_X6_pass_66 f_6_62 (by decide) (by decide) (ty_48 hS.1.1) (st_48_14 hS (by decide) (by omega) trivial) (fun M66 hS w66 => ?_)
        refine Tr.iload (pc := 69) (i := 5) d_X6_pass_69 rfl ?_
        exact Tr.iret (pc := 71) d_X6_pass_71 rfl ⟨hS, _, rfl, by omega, by omega⟩
      · refine Tr.iconst (pc := 61) d_X6_pass_61 (by decide) ?_
        refine Tr.goto (pc := 62) (tgt := 66) d_X6_pass_62 rfl ?_
        refine Tr.putfS (pc := 66) (P := St Tru ws_X6_pass_48 as_X6_pass_48 M0) d_X6_pass_66 f_6_62 (by decide) (by decide) (ty_48 hS.1.1) (st_48_14 hS (by decide) (by omega) trivial) (fun M66 hS w66 => ?_)
        refine Tr.iload (pc := 69) (i := 5) d_X6_pass_69 rfl ?_
        exact Tr.iret (pc := 71) d_X6_pass_71 rfl ⟨hS, _, rfl, by omega, by omega⟩
  refine Tr.if_eq (pc := 18) (tgt := 32) d_X6_pass_18 rfl (fun c18 => ?_) (fun c18 => ?_)
  · refine Tr.iload (pc := 32) (i := 4) d_X6_pass_32 rfl ?_
    refine Tr.pick [1, 2, 0] (ls2 := [(0, (2, 48)), (1, (0, a1)), (4, (0, r9))]) rfl ?_
    exact J34 _ _ hS (by omega) er15 er5
  · refine Tr.aload_n (pc := 21) (i := 0) d_X6_pass_21 rfl rfl ?_
    refine Tr.iload (pc := 22) (i := 4) d_X6_pass_22 rfl ?_
    refine Tr.iload_n (pc := 24) (i := 2) d_X6_pass_24 rfl rfl ?_
    refine Tr.tp (-1) (by omega) ?_
    refine Tr.iload_n (pc := 25) (i := 3) d_X6_pass_25 rfl rfl ?_
    refine Tr.tp 0 (by omega) ?_
    refine Tr.callV (pc := 26) (as := [_, _, _]) d_X6_pass_26 s_6_183 ok_X6_afforded rfl rfl (Nat.le_of_ble_eq_true rfl) (Nat.le_of_ble_eq_true rfl) (by decide) (ty_48 hS.1.1) ?_
    refine Tr.imp (Tr.deep (by decide) (sp_X6_afforded_48 hS.1 ((St.kp hS (by decide) (by decide) (by decide)).trans en_48_1) r9 (by omega) (-1) (by omega) 0 (by omega))) ?_
    rintro M26 _ ⟨h26, r26, rfl, lr26, ur26⟩
    have hS := St.tr hS h26 (by decide) (by decide)
    refine Tr.sc [(0, r26)] rfl ?_
    refine Tr.goto (pc := 29) (tgt := 34) d_X6_pass_29 rfl ?_
    refine Tr.pick [1, 2, 0] (ls2 := [(0, (2, 48)), (1, (0, a1)), (4, (0, r9))]) rfl ?_
    exact J34 _ _ hS (by omega) ((St.kp h26 (by decide) (by decide) (by decide)).trans er15) ((St.kp h26 (by decide) (by decide) (by decide)).trans er5)

def ws_X6_single_48 : List (Int × Int) := []
def as_X6_single_48 : List Int := []
def q_X6_single_48 (M0 M' : Mem) (r : Option PV) : Prop := St Tru ws_X6_single_48 as_X6_single_48 M0 M' ∧ ∃ v : Int, r = some (0, v) ∧ (-2147483648) ≤ v ∧ v ≤ 2147483647
set_option maxRecDepth 100000 in
set_option maxHeartbeats 4000000 in
theorem sp_X6_single_48 {l : Launch} {K : EC} {M0 : Mem} (hI : In Tru M0)  (a1 : Int) (ha1 : (-2147483648) ≤ a1 ∧ a1 ≤ 5) (a2 : Int) (ha2 : (-2147483648) ≤ a2 ∧ a2 ≤ 2147483647) (hp0 : (a1 = 1 → 0 ≤ a2 ∧ a2 ≤ 2) ∧ (a1 = 2 ∨ a1 = 4 → 0 ≤ a2 ∧ a2 ≤ 5)) : Tr l K 0 mX6_single 0 [(0, (2, 48)), (1, (0, a1)), (2, (0, a2))] [] M0 (q_X6_single_48 M0) := by
  have hS : St Tru ws_X6_single_48 as_X6_single_48 M0 M0 := St.rf hI
  refine Tr.iload_n (pc := 0) (i := 1) d_X6_single_0 rfl rfl ?_
  rcases (show (a1 < 1 ∨ 4 < a1) ∨ a1 = 1 ∨ a1 = 2 ∨ a1 = 3 ∨ a1 = 4 by omega) with c1 | c1 | c1 | c1 | c1
  · refine Tr.tswOut (pc := 1) (tgt := 58) d_X6_single_1 c1 rfl ?_
    refine Tr.iload_n (pc := 58) (i := 2) d_X6_single_58 rfl rfl ?_
    exact Tr.iret (pc := 59) d_X6_single_59 rfl ⟨hS, _, rfl, by omega, by omega⟩
  · refine Tr.tp 1 c1 ?_
    refine Tr.tswIn (pc := 1) (off := 31) (tgt := 32) d_X6_single_1 (by decide) (by decide) rfl rfl ?_
    refine Tr.aload_n (pc := 32) (i := 0) d_X6_single_32 rfl rfl ?_
    refine Tr.getf (pc := 33) d_X6_single_33 f_6_9 (by decide) (by decide) (ty_48 hS.1.1) ?_
    refine Tr.tp 49 (fx_48_2 hS.1.1) ?_
    refine Tr.iload_n (pc := 36) (i := 2) d_X6_single_36 rfl rfl ?_
    refine Tr.iald (pc := 37) d_X6_single_37 (ty_49 hS.1.1) (by omega) (by omega) ?_
    refine Tr.gen (P := fun v => (-2147483648) ≤ v ∧ v ≤ 2147483647) (ar_49 hS.1.2.1 _) (fun r37 er37 br37 => ?_)
    exact Tr.iret (pc := 38) d_X6_single_38 rfl ⟨hS, _, rfl, by omega, by omega⟩
  · refine Tr.tp 2 c1 ?_
    refine Tr.tswIn (pc := 1) (off := 38) (tgt := 39) d_X6_single_1 (by decide) (by decide) rfl rfl ?_
    refine Tr.aload_n (pc := 39) (i := 0) d_X6_single_39 rfl rfl ?_
    refine Tr.getf (pc := 40) d_X6_single_40 f_6_15 (by decide) (by decide) (ty_48 hS.1.1) ?_
    refine Tr.tp 50 (fx_48_3 hS.1.1) ?_
    refine Tr.iload_n (pc := 43) (i := 2) d_X6_single_43 rfl rfl ?_
    refine Tr.iald (pc := 44) d_X6_single_44 (ty_50 hS.1.1) (by omega) (by omega) ?_
    refine Tr.gen (P := fun v => (-2147483648) ≤ v ∧ v ≤ 2147483647) (ar_50 hS.1.2.1 _) (fun r44 er44 br44 => ?_)
    exact Tr.iret (pc := 45) d_X6_single_45 rfl ⟨hS, _, rfl, by omega, by omega⟩
  · refine Tr.tp 3 c1 ?_
    refine Tr.tswIn (pc := 1) (off := 45) (tgt := 46) d_X6_single_1 (by decide) (by decide) rfl rfl ?_
    refine Tr.aload_n (pc := 46) (i := 0) d_X6_single_46 rfl rfl ?_
    refine Tr.getf (pc := 47) d_X6_single_47 f_6_68 (by decide) (by decide) (ty_48 hS.1.1) ?_
    refine Tr.gen (P := fun v => (-2147483648) ≤ v ∧ v ≤ 2147483647) (ir_48_9 hS.1.2.1) (fun r47 er47 br47 => ?_)
    exact Tr.iret (pc := 50) d_X6_single_50 rfl ⟨hS, _, rfl, by omega, by omega⟩
  · refine Tr.tp 4 c1 ?_
    refine Tr.tswIn (pc := 1) (off := 50) (tgt := 51) d_X6_single_1 (by decide) (by decide) rfl rfl ?_
    refine Tr.aload_n (pc := 51) (i := 0) d_X6_single_51 rfl rfl ?_
    refine Tr.getf (pc := 52) d_X6_single_52 f_6_24 (by decide) (by decide) (ty_48 hS.1.1) ?_
    refine Tr.tp 53 (fx_48_6 hS.1.1) ?_
    refine Tr.iload_n (pc := 55) (i := 2) d_X6_single_55 rfl rfl ?_
    refine Tr.iald (pc := 56) d_X6_single_56 (ty_53 hS.1.1) (by omega) (by omega) ?_
    refine Tr.gen (P := fun v => 0 ≤ v ∧ v ≤ 1) (ar_53 hS.1.2.1 _) (fun r56 er56 br56 => ?_)
    exact Tr.iret (pc := 57) d_X6_single_57 rfl ⟨hS, _, rfl, by omega, by omega⟩

def ws_X6_afforded_48_w1 : List (Int × Int) := [(48, 17)]
def as_X6_afforded_48_w1 : List Int := []
def q_X6_afforded_48_w1 (M0 M' : Mem) (r : Option PV) : Prop := St Tru ws_X6_afforded_48_w1 as_X6_afforded_48_w1 M0 M' ∧ ∃ v : Int, r = some (0, v) ∧ (-2147483648) ≤ v ∧ v ≤ 20
set_option maxRecDepth 100000 in
set_option maxHeartbeats 4000000 in
theorem sp_X6_afforded_48_w1 {l : Launch} {K : EC} {M0 : Mem} (hI : In Tru M0) (en_48_1 : rd M0 48 1 = 7) (a1 : Int) (ha1 : (-2147483648) ≤ a1 ∧ a1 ≤ 20) (a2 : Int) (ha2 : (-1) ≤ a2 ∧ a2 ≤ (-1)) (a3 : Int) (ha3 : 0 ≤ a3 ∧ a3 ≤ 0)  : Tr l K 1 mX6_afforded 0 [(0, (2, 48)), (1, (0, a1)), (2, (0, a2)), (3, (0, a3))] [] M0 (q_X6_afforded_48_w1 M0) := by
  have hS : St Tru ws_X6_afforded_48_w1 as_X6_afforded_48_w1 M0 M0 := St.rf hI
  refine Tr.iconst (pc := 0) d_X6_afforded_0 (by decide) ?_
  refine Tr.istore (pc := 1) (i := 4) (ls2 := [(4, (0, 0)), (0, (2, 48)), (1, (0, a1)), (2, (0, a2)), (3, (0, a3))]) d_X6_afforded_1 (by decide) rfl ?_
  have J3 : ∀ (n3 : Nat) (M : Mem) (p3_4 : Int), St Tru ws_X6_afforded_48_w1 as_X6_afforded_48_w1 M0 M → (0 ≤ p3_4 ∧ p3_4 ≤ 20) → (20 - p3_4).toNat < n3 → Tr l K 1 mX6_afforded 3 [(0, (2, 48)), (1, (0, a1)), (2, (0, a2)), (3, (0, a3)), (4, (0, p3_4))] [] M (q_X6_afforded_48_w1 M0) := by
    intro n3
    induction n3 with
    | zero => intro M p3_4 hS bp3_4  hm3; exact absurd hm3 (Nat.not_lt_zero _)
    | succ n3 J3 =>
      intro M p3_4 hS bp3_4  hm3
      refine Tr.iload (pc := 3) (i := 4) d_X6_afforded_3 rfl ?_
      refine Tr.iload_n (pc := 5) (i := 1) d_X6_afforded_5 rfl rfl ?_
      refine Tr.icmp_ge (pc := 6) (tgt := 53) d_X6_afforded_6 rfl (fun c6 => ?_) (fun c6 => ?_)
      · refine Tr.iload_n (pc := 53) (i := 1) d_X6_afforded_53 rfl rfl ?_
        exact Tr.iret (pc := 54) d_X6_afforded_54 rfl ⟨hS, _, rfl, by omega, by omega⟩
      · refine Tr.aload_n (pc := 9) (i := 0) d_X6_afforded_9 rfl rfl ?_
        refine Tr.aload_n (pc := 10) (i := 0) d_X6_afforded_10 rfl rfl ?_
        refine Tr.getf (pc := 11) d_X6_afforded_11 f_6_68 (by decide) (by decide) (ty_48 hS.1.1) ?_
        refine Tr.gen (P := fun v => (-2147483648) ≤ v ∧ v ≤ 2147483647) (ir_48_9 hS.1.2.1) (fun r11 er11 br11 => ?_)
        refine Tr.iload (pc := 14) (i := 4) d_X6_afforded_14 rfl ?_
        refine Tr.iadd (pc := 16) d_X6_afforded_16 ?_
        refine Tr.gen (P := fun v => (-2147483648) ≤ v ∧ v ≤ 2147483647) (w32_b _) (fun r16 er16 br16 => ?_)
        refine Tr.iload_n (pc := 17) (i := 2) d_X6_afforded_17 rfl rfl ?_
        refine Tr.tp (-1) (by omega) ?_
        refine Tr.iload_n (pc := 18) (i := 3) d_X6_afforded_18 rfl rfl ?_
        refine Tr.tp 0 (by omega) ?_
        refine Tr.callV (pc := 19) (as := [_, _, _]) d_X6_afforded_19 s_6_186 ok_X6_sipsAt rfl rfl (Nat.le_of_ble_eq_true rfl) (Nat.le_of_ble_eq_true rfl) (by decide) (ty_48 hS.1.1) ?_
        refine Tr.imp (Tr.deep (by decide) (sp_X6_sipsAt_48 hS.1 ((St.kp hS (by decide) (by decide) (by decide)).trans en_48_1) r16 (by omega) (-1) (by omega) 0 (by omega))) ?_
        rintro M19 _ ⟨h19, r19, rfl, lr19, ur19⟩
        have hS := St.tr hS h19 (by decide) (by decide)
        refine Tr.sc [(0, r19)] rfl ?_
        refine Tr.istore (pc := 22) (i := 5) (ls2 := [(5, (0, r19)), (0, (2, 48)), (1, (0, a1)), (2, (0, a2)), (3, (0, a3)), (4, (0, p3_4))]) d_X6_afforded_22 (by decide) rfl ?_
        refine Tr.iload (pc := 24) (i := 5) d_X6_afforded_24 rfl ?_
        refine Tr.aload_n (pc := 26) (i := 0) d_X6_afforded_26 rfl rfl ?_
        refine Tr.getf (pc := 27) d_X6_afforded_27 f_6_110 (by decide) (by decide) (ty_48 hS.1.1) ?_
        refine Tr.gen (P := fun v => (-2147483648) ≤ v ∧ v ≤ 2147483647) (ir_48_17 hS.1.2.1) (fun r27 er27 br27 => ?_)
        refine Tr.icmp_le (pc := 30) (tgt := 36) d_X6_afforded_30 rfl (fun c30 => ?_) (fun c30 => ?_)
        · refine Tr.aload_n (pc := 36) (i := 0) d_X6_afforded_36 rfl rfl ?_
          refine Tr.dup (pc := 37) d_X6_afforded_37 ne21 ?_
          refine Tr.getf (pc := 38) d_X6_afforded_38 f_6_110 (by decide) (by decide) (ty_48 hS.1.1) ?_
          refine Tr.tp r27 er27 ?_
          refine Tr.iload (pc := 41) (i := 5) d_X6_afforded_41 rfl ?_
          refine Tr.isub (pc := 43) d_X6_afforded_43 ?_
          refine Tr.gen (P := fun v => (-2147483648) ≤ v ∧ v ≤ 2147483647) (w32_b _) (fun r43 er43 br43 => ?_)
          refine Tr.putfS (pc := 44) (P := St Tru ws_X6_afforded_48_w1 as_X6_afforded_48_w1 M0) d_X6_afforded_44 f_6_110 (by decide) (by decide) (ty_48 hS.1.1) (st_48_17 hS (by decide) (by omega) trivial) (fun M44 hS w44 => ?_)
          refine Tr.iincV (pc := 47) (n2 := (p3_4 + 1)) (ls2 := [(4, (0, (p3_4 + 1))), (5, (0, r19)), (0, (2, 48)), (1, (0, a1)), (2, (0, a2)), (3, (0, a3))]) d_X6_afforded_47 rfl (by decide) ((w32_id (by omega)).trans (by omega)) rfl ?_
          refine Tr.goto (pc := 50) (tgt := 3) d_X6_afforded_50 rfl ?_
          refine Tr.pick [2, 3, 4, 5, 0] (ls2 := [(0, (2, 48)), (1, (0, a1)), (2, (0, a2)), (3, (0, a3)), (4, (0, (p3_4 + 1)))]) rfl ?_
          exact J3 _ _ hS (by omega) (by omega)
        · refine Tr.iload (pc := 33) (i := 4) d_X6_afforded_33 rfl ?_
          exact Tr.iret (pc := 35) d_X6_afforded_35 rfl ⟨hS, _, rfl, by omega, by omega⟩
  refine Tr.pick [1, 2, 3, 4, 0] (ls2 := [(0, (2, 48)), (1, (0, a1)), (2, (0, a2)), (3, (0, a3)), (4, (0, 0))]) rfl ?_
  exact J3 _ _ _ hS (by omega) (Nat.lt_succ_self _)

def ws_X6_pass_48_w1 : List (Int × Int) := [(48, 9), (48, 14), (48, 17)]
def as_X6_pass_48_w1 : List Int := []
def q_X6_pass_48_w1 (M0 M' : Mem) (r : Option PV) : Prop := St Tru ws_X6_pass_48_w1 as_X6_pass_48_w1 M0 M' ∧ ∃ v : Int, r = some (0, v) ∧ (-2147483648) ≤ v ∧ v ≤ 20
set_option maxRecDepth 100000 in
set_option maxHeartbeats 4000000 in
theorem sp_X6_pass_48_w1 {l : Launch} {K : EC} {M0 : Mem} (hI : In Tru M0) (en_48_1 : rd M0 48 1 = 7) (a1 : Int) (ha1 : (-1) ≤ a1 ∧ a1 ≤ 20) (a2 : Int) (ha2 : (-1) ≤ a2 ∧ a2 ≤ (-1)) (a3 : Int) (ha3 : 0 ≤ a3 ∧ a3 ≤ 0)  : Tr l K 2 mX6_pass 0 [(0, (2, 48)), (1, (0, a1)), (2, (0, a2)), (3, (0, a3))] [] M0 (q_X6_pass_48_w1 M0) := by
  have hS : St Tru ws_X6_pass_48_w1 as_X6_pass_48_w1 M0 M0 := St.rf hI
  refine Tr.iload_n (pc := 0) (i := 1) d_X6_pass_0 rfl rfl ?_
  refine Tr.sipush (pc := 1) d_X6_pass_1 rfl (by decide) ?_
  refine Tr.aload_n (pc := 4) (i := 0) d_X6_pass_4 rfl rfl ?_
  refine Tr.getf (pc := 5) d_X6_pass_5 f_6_68 (by decide) (by decide) (ty_48 hS.1.1) ?_
  refine Tr.gen (P := fun v => (-2147483648) ≤ v ∧ v ≤ 2147483647) (ir_48_9 hS.1.2.1) (fun r5 er5 br5 => ?_)
  refine Tr.isub (pc := 8) d_X6_pass_8 ?_
  refine Tr.gen (P := fun v => (-2147483648) ≤ v ∧ v ≤ 2147483647) (w32_b _) (fun r8 er8 br8 => ?_)
  refine Tr.mmin (pc := 9) d_X6_pass_9 ml_6_158 mw_mmin (Nat.le_of_ble_eq_true rfl) ?_
  refine Tr.gen (P := fun v => (v = a1 ∧ a1 ≤ r8) ∨ (v = r8 ∧ r8 ≤ a1)) (f_min_p _ _) (fun r9 er9 br9 => ?_)
  refine Tr.istore (pc := 12) (i := 4) (ls2 := [(4, (0, r9)), (0, (2, 48)), (1, (0, a1)), (2, (0, a2)), (3, (0, a3))]) d_X6_pass_12 (by decide) rfl ?_
  refine Tr.aload_n (pc := 14) (i := 0) d_X6_pass_14 rfl rfl ?_
  refine Tr.getz (pc := 15) d_X6_pass_15 f_6_106 (by decide) (ty_48 hS.1.1) ?_
  refine Tr.gen (P := fun v => 0 ≤ v ∧ v ≤ 1) (ir_48_16 hS.1.2.1) (fun r15 er15 br15 => ?_)
  have J34 : ∀ (M : Mem) (q34_0 : Int), St Tru ws_X6_pass_48_w1 as_X6_pass_48_w1 M0 M → ((-2147483648) ≤ q34_0 ∧ q34_0 ≤ 20) → rd M 48 16 = r15 → rd M 48 9 = r5 → Tr l K 2 mX6_pass 34 [(0, (2, 48)), (1, (0, a1)), (4, (0, r9))] [(0, q34_0)] M (q_X6_pass_48_w1 M0) := by
    intro M q34_0 hS bq34_0 k34_48_16 k34_48_9
    refine Tr.istore (pc := 34) (i := 5) (ls2 := [(5, (0, q34_0)), (0, (2, 48)), (1, (0, a1)), (4, (0, r9))]) d_X6_pass_34 (by decide) rfl ?_
    refine Tr.aload_n (pc := 36) (i := 0) d_X6_pass_36 rfl rfl ?_
    refine Tr.dup (pc := 37) d_X6_pass_37 ne21 ?_
    refine Tr.getf (pc := 38) d_X6_pass_38 f_6_68 (by decide) (by decide) (ty_48 hS.1.1) ?_
    refine Tr.tp r5 k34_48_9 ?_
    refine Tr.iload (pc := 41) (i := 5) d_X6_pass_41 rfl ?_
    refine Tr.iadd (pc := 43) d_X6_pass_43 ?_
    refine Tr.gen (P := fun v => (-2147483648) ≤ v ∧ v ≤ 2147483647) (w32_b _) (fun r43 er43 br43 => ?_)
    refine Tr.putfS (pc := 44) (P := St Tru ws_X6_pass_48_w1 as_X6_pass_48_w1 M0) d_X6_pass_44 f_6_68 (by decide) (by decide) (ty_48 hS.1.1) (st_48_9 hS (by decide) (by omega) trivial) (fun M44 hS w44 => ?_)
    refine Tr.iload (pc := 47) (i := 5) d_X6_pass_47 rfl ?_
    refine Tr.iload_n (pc := 49) (i := 1) d_X6_pass_49 rfl rfl ?_
    refine Tr.icmp_ge (pc := 50) (tgt := 69) d_X6_pass_50 rfl (fun c50 => ?_) (fun c50 => ?_)
    · refine Tr.iload (pc := 69) (i := 5) d_X6_pass_69 rfl ?_
      exact Tr.iret (pc := 71) d_X6_pass_71 rfl ⟨hS, _, rfl, by omega, by omega⟩
    · refine Tr.aload_n (pc := 53) (i := 0) d_X6_pass_53 rfl rfl ?_
      refine Tr.iload (pc := 54) (i := 5) d_X6_pass_54 rfl ?_
      refine Tr.iload (pc := 56) (i := 4) d_X6_pass_56 rfl ?_
      refine Tr.icmp_ne (pc := 58) (tgt := 65) d_X6_pass_58 rfl (fun c58 => ?_) (fun c58 => ?_)
      · refine Tr.iconst (pc := 65) d_X6_pass_65 (by decide) ?_
        refine Tr.putfS (pc := 66) (P := St Tru ws_X6_pass_48_w1 as_X6_pass_48_w1 M0) d_X6_pass_66 f_6_62 (by decide) (by decide) (ty_48 hS.1.1) (st_48_14 hS (by decide) (by omega) trivial) (fun M66 hS w66 => ?_)
        refine Tr.iload (pc := 69) (i := 5) d_X6_pass_69 rfl ?_
        exact Tr.iret (pc := 71) d_X6_pass_71 rfl ⟨hS, _, rfl, by omega, by omega⟩
      · refine Tr.iconst (pc := 61) d_X6_pass_61 (by decide) ?_
        refine Tr.goto (pc := 62) (tgt := 66) d_X6_pass_62 rfl ?_
        refine Tr.putfS (pc := 66) (P := St Tru ws_X6_pass_48_w1 as_X6_pass_48_w1 M0) d_X6_pass_66 f_6_62 (by decide) (by decide) (ty_48 hS.1.1) (st_48_14 hS (by decide) (by omega) trivial) (fun M66 hS w66 => ?_)
        refine Tr.iload (pc := 69) (i := 5) d_X6_pass_69 rfl ?_
        exact Tr.iret (pc := 71) d_X6_pass_71 rfl ⟨hS, _, rfl, by omega, by omega⟩
  refine Tr.if_eq (pc := 18) (tgt := 32) d_X6_pass_18 rfl (fun c18 => ?_) (fun c18 => ?_)
  · refine Tr.iload (pc := 32) (i := 4) d_X6_pass_32 rfl ?_
    refine Tr.pick [1, 2, 0] (ls2 := [(0, (2, 48)), (1, (0, a1)), (4, (0, r9))]) rfl ?_
    exact J34 _ _ hS (by omega) er15 er5
  · refine Tr.aload_n (pc := 21) (i := 0) d_X6_pass_21 rfl rfl ?_
    refine Tr.iload (pc := 22) (i := 4) d_X6_pass_22 rfl ?_
    refine Tr.iload_n (pc := 24) (i := 2) d_X6_pass_24 rfl rfl ?_
    refine Tr.tp (-1) (by omega) ?_
    refine Tr.iload_n (pc := 25) (i := 3) d_X6_pass_25 rfl rfl ?_
    refine Tr.tp 0 (by omega) ?_
    refine Tr.callV (pc := 26) (as := [_, _, _]) d_X6_pass_26 s_6_183 ok_X6_afforded rfl rfl (Nat.le_of_ble_eq_true rfl) (Nat.le_of_ble_eq_true rfl) (by decide) (ty_48 hS.1.1) ?_
    refine Tr.imp (Tr.deep (by decide) (sp_X6_afforded_48_w1 hS.1 ((St.kp hS (by decide) (by decide) (by decide)).trans en_48_1) r9 (by omega) (-1) (by omega) 0 (by omega))) ?_
    rintro M26 _ ⟨h26, r26, rfl, lr26, ur26⟩
    have hS := St.tr hS h26 (by decide) (by decide)
    refine Tr.sc [(0, r26)] rfl ?_
    refine Tr.goto (pc := 29) (tgt := 34) d_X6_pass_29 rfl ?_
    refine Tr.pick [1, 2, 0] (ls2 := [(0, (2, 48)), (1, (0, a1)), (4, (0, r9))]) rfl ?_
    exact J34 _ _ hS (by omega) ((St.kp h26 (by decide) (by decide) (by decide)).trans er15) ((St.kp h26 (by decide) (by decide) (by decide)).trans er5)

def ws_X6_touch_48 : List (Int × Int) := [(48, 9), (48, 12), (48, 13), (48, 14), (48, 17)]
def as_X6_touch_48 : List Int := [52]
def q_X6_touch_48 (M0 M' : Mem) (r : Option PV) : Prop := St Tru ws_X6_touch_48 as_X6_touch_48 M0 M' ∧ r = none
set_option maxRecDepth 100000 in
set_option maxHeartbeats 4000000 in
theorem sp_X6_touch_48 {l : Launch} {K : EC} {M0 : Mem} (hI : In Tru M0) (en_48_1 : rd M0 48 1 = 7) (a1 : Int) (ha1 : 0 ≤ a1 ∧ a1 ≤ 999)  : Tr l K 3 mX6_touch 0 [(0, (2, 48)), (1, (0, a1))] [] M0 (q_X6_touch_48 M0) := by
  have hS : St Tru ws_X6_touch_48 as_X6_touch_48 M0 M0 := St.rf hI
  refine Tr.aload_n (pc := 0) (i := 0) d_X6_touch_0 rfl rfl ?_
  refine Tr.dup (pc := 1) d_X6_touch_1 ne21 ?_
  refine Tr.getf (pc := 2) d_X6_touch_2 f_6_103 (by decide) (by decide) (ty_48 hS.1.1) ?_
  refine Tr.gen (P := fun v => (-2147483648) ≤ v ∧ v ≤ 2147483647) (ir_48_13 hS.1.2.1) (fun r2 er2 br2 => ?_)
  refine Tr.iconst (pc := 5) d_X6_touch_5 (by decide) ?_
  refine Tr.iadd (pc := 6) d_X6_touch_6 ?_
  refine Tr.gen (P := fun v => (-2147483648) ≤ v ∧ v ≤ 2147483647) (w32_b _) (fun r6 er6 br6 => ?_)
  refine Tr.putfS (pc := 7) (P := St Tru ws_X6_touch_48 as_X6_touch_48 M0) d_X6_touch_7 f_6_103 (by decide) (by decide) (ty_48 hS.1.1) (st_48_13 hS (by decide) (by omega) trivial) (fun M7 hS w7 => ?_)
  refine Tr.aload_n (pc := 10) (i := 0) d_X6_touch_10 rfl rfl ?_
  refine Tr.getf (pc := 11) d_X6_touch_11 f_6_46 (by decide) (by decide) (ty_48 hS.1.1) ?_
  refine Tr.tp 7 ((St.kp hS (by decide) (by decide) (by decide)).trans en_48_1) ?_
  refine Tr.getf (pc := 14) d_X6_touch_14 f_6_217 (by decide) (by decide) (ty_7 hS.1.1) ?_
  refine Tr.gen (P := fun v => (-1) ≤ v ∧ v ≤ 8) (ir_7_2 hS.1.2.1) (fun r14 er14 br14 => ?_)
  refine Tr.if_le (pc := 17) (tgt := 42) d_X6_touch_17 rfl (fun c17 => ?_) (fun c17 => ?_)
  · exact Tr.vret (pc := 42) d_X6_touch_42 rfl ⟨hS, rfl⟩
  · refine Tr.aload_n (pc := 20) (i := 0) d_X6_touch_20 rfl rfl ?_
    refine Tr.getf (pc := 21) d_X6_touch_21 f_6_46 (by decide) (by decide) (ty_48 hS.1.1) ?_
    refine Tr.tp 7 ((St.kp hS (by decide) (by decide) (by decide)).trans en_48_1) ?_
    refine Tr.getf (pc := 24) d_X6_touch_24 f_6_220 (by decide) (by decide) (ty_7 hS.1.1) ?_
    refine Tr.gen (P := fun v => (-1) ≤ v ∧ v ≤ 8) (ir_7_1 hS.1.2.1) (fun r24 er24 br24 => ?_)
    refine Tr.if_le (pc := 27) (tgt := 42) d_X6_touch_27 rfl (fun c27 => ?_) (fun c27 => ?_)
    · exact Tr.vret (pc := 42) d_X6_touch_42 rfl ⟨hS, rfl⟩
    · refine Tr.aload_n (pc := 30) (i := 0) d_X6_touch_30 rfl rfl ?_
      refine Tr.getf (pc := 31) d_X6_touch_31 f_6_46 (by decide) (by decide) (ty_48 hS.1.1) ?_
      refine Tr.tp 7 ((St.kp hS (by decide) (by decide) (by decide)).trans en_48_1) ?_
      refine Tr.getf (pc := 34) d_X6_touch_34 f_6_220 (by decide) (by decide) (ty_7 hS.1.1) ?_
      refine Tr.tp r24 er24 ?_
      refine Tr.bipush (pc := 37) d_X6_touch_37 rfl (by decide) ?_
      refine Tr.icmp_le (pc := 39) (tgt := 43) d_X6_touch_39 rfl (fun _ => ?_) (fun hc => absurd (by omega) hc)
      refine Tr.iload_n (pc := 43) (i := 1) d_X6_touch_43 rfl rfl ?_
      refine Tr.aload_n (pc := 44) (i := 0) d_X6_touch_44 rfl rfl ?_
      refine Tr.getf (pc := 45) d_X6_touch_45 f_6_46 (by decide) (by decide) (ty_48 hS.1.1) ?_
      refine Tr.tp 7 ((St.kp hS (by decide) (by decide) (by decide)).trans en_48_1) ?_
      refine Tr.getf (pc := 48) d_X6_touch_48 f_6_217 (by decide) (by decide) (ty_7 hS.1.1) ?_
      refine Tr.tp r14 er14 ?_
      refine Tr.idiv (pc := 51) d_X6_touch_51 (by omega) ?_
      refine Tr.gen (P := fun v => 0 ≤ v ∧ v ≤ 999) (div32_p (A := 999) (by omega) (by omega) (by omega) (by omega)) (fun r51 er51 br51 => ?_)
      refine Tr.istore_n (pc := 52) (i := 2) (ls2 := [(2, (0, r51)), (0, (2, 48)), (1, (0, a1))]) d_X6_touch_52 rfl (by decide) rfl ?_
      refine Tr.iload_n (pc := 53) (i := 2) d_X6_touch_53 rfl rfl ?_
      refine Tr.aload_n (pc := 54) (i := 0) d_X6_touch_54 rfl rfl ?_
      refine Tr.getf (pc := 55) d_X6_touch_55 f_6_46 (by decide) (by decide) (ty_48 hS.1.1) ?_
      refine Tr.tp 7 ((St.kp hS (by decide) (by decide) (by decide)).trans en_48_1) ?_
      refine Tr.getf (pc := 58) d_X6_touch_58 f_6_220 (by decide) (by decide) (ty_7 hS.1.1) ?_
      refine Tr.tp r24 er24 ?_
      refine Tr.irem (pc := 61) d_X6_touch_61 (by omega) ?_
      refine Tr.gen (P := fun v => 0 ≤ v ∧ v ≤ 7) (rem_p (A := 7) (by omega) (by omega) (by omega)) (fun r61 er61 br61 => ?_)
      refine Tr.istore_n (pc := 62) (i := 3) (ls2 := [(3, (0, r61)), (2, (0, r51)), (0, (2, 48)), (1, (0, a1))]) d_X6_touch_62 rfl (by decide) rfl ?_
      refine Tr.aload_n (pc := 63) (i := 0) d_X6_touch_63 rfl rfl ?_
      refine Tr.getf (pc := 64) d_X6_touch_64 f_6_21 (by decide) (by decide) (ty_48 hS.1.1) ?_
      refine Tr.tp 52 (fx_48_5 hS.1.1) ?_
      refine Tr.iload_n (pc := 67) (i := 3) d_X6_touch_67 rfl rfl ?_
      refine Tr.iald (pc := 68) d_X6_touch_68 (ty_52 hS.1.1) (by omega) (by omega) ?_
      refine Tr.gen (P := fun v => (-2147483648) ≤ v ∧ v ≤ 2147483647) (ar_52 hS.1.2.1 _) (fun r68 er68 br68 => ?_)
      refine Tr.iload_n (pc := 69) (i := 2) d_X6_touch_69 rfl rfl ?_
      refine Tr.icmp_eq (pc := 70) (tgt := 104) d_X6_touch_70 rfl (fun c70 => ?_) (fun c70 => ?_)
      · exact Tr.vret (pc := 104) d_X6_touch_104 rfl ⟨hS, rfl⟩
      · refine Tr.aload_n (pc := 73) (i := 0) d_X6_touch_73 rfl rfl ?_
        refine Tr.dup (pc := 74) d_X6_touch_74 ne21 ?_
        refine Tr.getf (pc := 75) d_X6_touch_75 f_6_100 (by decide) (by decide) (ty_48 hS.1.1) ?_
        refine Tr.gen (P := fun v => (-2147483648) ≤ v ∧ v ≤ 2147483647) (ir_48_12 hS.1.2.1) (fun r75 er75 br75 => ?_)
        refine Tr.iconst (pc := 78) d_X6_touch_78 (by decide) ?_
        refine Tr.iadd (pc := 79) d_X6_touch_79 ?_
        refine Tr.gen (P := fun v => (-2147483648) ≤ v ∧ v ≤ 2147483647) (w32_b _) (fun r79 er79 br79 => ?_)
        refine Tr.putfS (pc := 80) (P := St Tru ws_X6_touch_48 as_X6_touch_48 M0) d_X6_touch_80 f_6_100 (by decide) (by decide) (ty_48 hS.1.1) (st_48_12 hS (by decide) (by omega) trivial) (fun M80 hS w80 => ?_)
        refine Tr.aload_n (pc := 83) (i := 0) d_X6_touch_83 rfl rfl ?_
        refine Tr.getf (pc := 84) d_X6_touch_84 f_6_21 (by decide) (by decide) (ty_48 hS.1.1) ?_
        refine Tr.tp 52 (fx_48_5 hS.1.1) ?_
        refine Tr.iload_n (pc := 87) (i := 3) d_X6_touch_87 rfl rfl ?_
        refine Tr.iload_n (pc := 88) (i := 2) d_X6_touch_88 rfl rfl ?_
        refine Tr.iastS (pc := 89) (P := St Tru ws_X6_touch_48 as_X6_touch_48 M0) d_X6_touch_89 (ty_52 hS.1.1) (by omega) (by omega) (sa_52 hS (by decide) (by omega) trivial) (fun M89 hS w89 => ?_)
        refine Tr.aload_n (pc := 90) (i := 0) d_X6_touch_90 rfl rfl ?_
        refine Tr.aload_n (pc := 91) (i := 0) d_X6_touch_91 rfl rfl ?_
        refine Tr.getf (pc := 92) d_X6_touch_92 f_6_46 (by decide) (by decide) (ty_48 hS.1.1) ?_
        refine Tr.tp 7 ((St.kp hS (by decide) (by decide) (by decide)).trans en_48_1) ?_
        refine Tr.getf (pc := 95) d_X6_touch_95 f_6_223 (by decide) (by decide) (ty_7 hS.1.1) ?_
        refine Tr.gen (P := fun v => (-1) ≤ v ∧ v ≤ 20) (ir_7_3 hS.1.2.1) (fun r95 er95 br95 => ?_)
        refine Tr.iconst (pc := 98) d_X6_touch_98 (by decide) ?_
        refine Tr.iconst (pc := 99) d_X6_touch_99 (by decide) ?_
        refine Tr.callV (pc := 100) (as := [_, _, _]) d_X6_touch_100 s_6_145 ok_X6_pass rfl rfl (Nat.le_of_ble_eq_true rfl) (Nat.le_of_ble_eq_true rfl) (by decide) (ty_48 hS.1.1) ?_
        refine Tr.imp (Tr.deep (by decide) (sp_X6_pass_48_w1 hS.1 ((St.kp hS (by decide) (by decide) (by decide)).trans en_48_1) r95 (by omega) (-1) (by omega) 0 (by omega))) ?_
        rintro M100 _ ⟨h100, r100, rfl, lr100, ur100⟩
        have hS := St.tr hS h100 (by decide) (by decide)
        refine Tr.sc [(0, r100)] rfl ?_
        refine Tr.pop (pc := 103) d_X6_touch_103 ne01 ?_
        exact Tr.vret (pc := 104) d_X6_touch_104 rfl ⟨hS, rfl⟩

def ws_X6_afforded_48_w2 : List (Int × Int) := [(48, 17)]
def as_X6_afforded_48_w2 : List Int := []
def q_X6_afforded_48_w2 (M0 M' : Mem) (r : Option PV) : Prop := St Tru ws_X6_afforded_48_w2 as_X6_afforded_48_w2 M0 M' ∧ ∃ v : Int, r = some (0, v) ∧ (-2147483648) ≤ v ∧ v ≤ 100
set_option maxRecDepth 100000 in
set_option maxHeartbeats 4000000 in
theorem sp_X6_afforded_48_w2 {l : Launch} {K : EC} {M0 : Mem} (hI : In Tru M0) (en_48_1 : rd M0 48 1 = 7) (a1 : Int) (ha1 : (-2147483648) ≤ a1 ∧ a1 ≤ 100) (a2 : Int) (ha2 : (-1) ≤ a2 ∧ a2 ≤ (-1)) (a3 : Int) (ha3 : 0 ≤ a3 ∧ a3 ≤ 0)  : Tr l K 1 mX6_afforded 0 [(0, (2, 48)), (1, (0, a1)), (2, (0, a2)), (3, (0, a3))] [] M0 (q_X6_afforded_48_w2 M0) := by
  have hS : St Tru ws_X6_afforded_48_w2 as_X6_afforded_48_w2 M0 M0 := St.rf hI
  refine Tr.iconst (pc := 0) d_X6_afforded_0 (by decide) ?_
  refine Tr.istore (pc := 1) (i := 4) (ls2 := [(4, (0, 0)), (0, (2, 48)), (1, (0, a1)), (2, (0, a2)), (3, (0, a3))]) d_X6_afforded_1 (by decide) rfl ?_
  have J3 : ∀ (n3 : Nat) (M : Mem) (p3_4 : Int), St Tru ws_X6_afforded_48_w2 as_X6_afforded_48_w2 M0 M → (0 ≤ p3_4 ∧ p3_4 ≤ 100) → (100 - p3_4).toNat < n3 → Tr l K 1 mX6_afforded 3 [(0, (2, 48)), (1, (0, a1)), (2, (0, a2)), (3, (0, a3)), (4, (0, p3_4))] [] M (q_X6_afforded_48_w2 M0) := by
    intro n3
    induction n3 with
    | zero => intro M p3_4 hS bp3_4  hm3; exact absurd hm3 (Nat.not_lt_zero _)
    | succ n3 J3 =>
      intro M p3_4 hS bp3_4  hm3
      refine Tr.iload (pc := 3) (i := 4) d_X6_afforded_3 rfl ?_
      refine Tr.iload_n (pc := 5) (i := 1) d_X6_afforded_5 rfl rfl ?_
      refine Tr.icmp_ge (pc := 6) (tgt := 53) d_X6_afforded_6 rfl (fun c6 => ?_) (fun c6 => ?_)
      · refine Tr.iload_n (pc := 53) (i := 1) d_X6_afforded_53 rfl rfl ?_
        exact Tr.iret (pc := 54) d_X6_afforded_54 rfl ⟨hS, _, rfl, by omega, by omega⟩
      · refine Tr.aload_n (pc := 9) (i := 0) d_X6_afforded_9 rfl rfl ?_
        refine Tr.aload_n (pc := 10) (i := 0) d_X6_afforded_10 rfl rfl ?_
        refine Tr.getf (pc := 11) d_X6_afforded_11 f_6_68 (by decide) (by decide) (ty_48 hS.1.1) ?_
        refine Tr.gen (P := fun v => (-2147483648) ≤ v ∧ v ≤ 2147483647) (ir_48_9 hS.1.2.1) (fun r11 er11 br11 => ?_)
        refine Tr.iload (pc := 14) (i := 4) d_X6_afforded_14 rfl ?_
        refine Tr.iadd (pc := 16) d_X6_afforded_16 ?_
        refine Tr.gen (P := fun v => (-2147483648) ≤ v ∧ v ≤ 2147483647) (w32_b _) (fun r16 er16 br16 => ?_)
        refine Tr.iload_n (pc := 17) (i := 2) d_X6_afforded_17 rfl rfl ?_
        refine Tr.tp (-1) (by omega) ?_
        refine Tr.iload_n (pc := 18) (i := 3) d_X6_afforded_18 rfl rfl ?_
        refine Tr.tp 0 (by omega) ?_
        refine Tr.callV (pc := 19) (as := [_, _, _]) d_X6_afforded_19 s_6_186 ok_X6_sipsAt rfl rfl (Nat.le_of_ble_eq_true rfl) (Nat.le_of_ble_eq_true rfl) (by decide) (ty_48 hS.1.1) ?_
        refine Tr.imp (Tr.deep (by decide) (sp_X6_sipsAt_48 hS.1 ((St.kp hS (by decide) (by decide) (by decide)).trans en_48_1) r16 (by omega) (-1) (by omega) 0 (by omega))) ?_
        rintro M19 _ ⟨h19, r19, rfl, lr19, ur19⟩
        have hS := St.tr hS h19 (by decide) (by decide)
        refine Tr.sc [(0, r19)] rfl ?_
        refine Tr.istore (pc := 22) (i := 5) (ls2 := [(5, (0, r19)), (0, (2, 48)), (1, (0, a1)), (2, (0, a2)), (3, (0, a3)), (4, (0, p3_4))]) d_X6_afforded_22 (by decide) rfl ?_
        refine Tr.iload (pc := 24) (i := 5) d_X6_afforded_24 rfl ?_
        refine Tr.aload_n (pc := 26) (i := 0) d_X6_afforded_26 rfl rfl ?_
        refine Tr.getf (pc := 27) d_X6_afforded_27 f_6_110 (by decide) (by decide) (ty_48 hS.1.1) ?_
        refine Tr.gen (P := fun v => (-2147483648) ≤ v ∧ v ≤ 2147483647) (ir_48_17 hS.1.2.1) (fun r27 er27 br27 => ?_)
        refine Tr.icmp_le (pc := 30) (tgt := 36) d_X6_afforded_30 rfl (fun c30 => ?_) (fun c30 => ?_)
        · refine Tr.aload_n (pc := 36) (i := 0) d_X6_afforded_36 rfl rfl ?_
          refine Tr.dup (pc := 37) d_X6_afforded_37 ne21 ?_
          refine Tr.getf (pc := 38) d_X6_afforded_38 f_6_110 (by decide) (by decide) (ty_48 hS.1.1) ?_
          refine Tr.tp r27 er27 ?_
          refine Tr.iload (pc := 41) (i := 5) d_X6_afforded_41 rfl ?_
          refine Tr.isub (pc := 43) d_X6_afforded_43 ?_
          refine Tr.gen (P := fun v => (-2147483648) ≤ v ∧ v ≤ 2147483647) (w32_b _) (fun r43 er43 br43 => ?_)
          refine Tr.putfS (pc := 44) (P := St Tru ws_X6_afforded_48_w2 as_X6_afforded_48_w2 M0) d_X6_afforded_44 f_6_110 (by decide) (by decide) (ty_48 hS.1.1) (st_48_17 hS (by decide) (by omega) trivial) (fun M44 hS w44 => ?_)
          refine Tr.iincV (pc := 47) (n2 := (p3_4 + 1)) (ls2 := [(4, (0, (p3_4 + 1))), (5, (0, r19)), (0, (2, 48)), (1, (0, a1)), (2, (0, a2)), (3, (0, a3))]) d_X6_afforded_47 rfl (by decide) ((w32_id (by omega)).trans (by omega)) rfl ?_
          refine Tr.goto (pc := 50) (tgt := 3) d_X6_afforded_50 rfl ?_
          refine Tr.pick [2, 3, 4, 5, 0] (ls2 := [(0, (2, 48)), (1, (0, a1)), (2, (0, a2)), (3, (0, a3)), (4, (0, (p3_4 + 1)))]) rfl ?_
          exact J3 _ _ hS (by omega) (by omega)
        · refine Tr.iload (pc := 33) (i := 4) d_X6_afforded_33 rfl ?_
          exact Tr.iret (pc := 35) d_X6_afforded_35 rfl ⟨hS, _, rfl, by omega, by omega⟩
  refine Tr.pick [1, 2, 3, 4, 0] (ls2 := [(0, (2, 48)), (1, (0, a1)), (2, (0, a2)), (3, (0, a3)), (4, (0, 0))]) rfl ?_
  exact J3 _ _ _ hS (by omega) (Nat.lt_succ_self _)

def ws_X6_pass_48_w2 : List (Int × Int) := [(48, 9), (48, 14), (48, 17)]
def as_X6_pass_48_w2 : List Int := []
def q_X6_pass_48_w2 (M0 M' : Mem) (r : Option PV) : Prop := St Tru ws_X6_pass_48_w2 as_X6_pass_48_w2 M0 M' ∧ ∃ v : Int, r = some (0, v) ∧ (-2147483648) ≤ v ∧ v ≤ 100
set_option maxRecDepth 100000 in
set_option maxHeartbeats 4000000 in
theorem sp_X6_pass_48_w2 {l : Launch} {K : EC} {M0 : Mem} (hI : In Tru M0) (en_48_1 : rd M0 48 1 = 7) (a1 : Int) (ha1 : 0 ≤ a1 ∧ a1 ≤ 100) (a2 : Int) (ha2 : (-1) ≤ a2 ∧ a2 ≤ (-1)) (a3 : Int) (ha3 : 0 ≤ a3 ∧ a3 ≤ 0)  : Tr l K 2 mX6_pass 0 [(0, (2, 48)), (1, (0, a1)), (2, (0, a2)), (3, (0, a3))] [] M0 (q_X6_pass_48_w2 M0) := by
  have hS : St Tru ws_X6_pass_48_w2 as_X6_pass_48_w2 M0 M0 := St.rf hI
  refine Tr.iload_n (pc := 0) (i := 1) d_X6_pass_0 rfl rfl ?_
  refine Tr.sipush (pc := 1) d_X6_pass_1 rfl (by decide) ?_
  refine Tr.aload_n (pc := 4) (i := 0) d_X6_pass_4 rfl rfl ?_
  refine Tr.getf (pc := 5) d_X6_pass_5 f_6_68 (by decide) (by decide) (ty_48 hS.1.1) ?_
  refine Tr.gen (P := fun v => (-2147483648) ≤ v ∧ v ≤ 2147483647) (ir_48_9 hS.1.2.1) (fun r5 er5 br5 => ?_)
  refine Tr.isub (pc := 8) d_X6_pass_8 ?_
  refine Tr.gen (P := fun v => (-2147483648) ≤ v ∧ v ≤ 2147483647) (w32_b _) (fun r8 er8 br8 => ?_)
  refine Tr.mmin (pc := 9) d_X6_pass_9 ml_6_158 mw_mmin (Nat.le_of_ble_eq_true rfl) ?_
  refine Tr.gen (P := fun v => (v = a1 ∧ a1 ≤ r8) ∨ (v = r8 ∧ r8 ≤ a1)) (f_min_p _ _) (fun r9 er9 br9 => ?_)
  refine Tr.istore (pc := 12) (i := 4) (ls2 := [(4, (0, r9)), (0, (2, 48)), (1, (0, a1)), (2, (0, a2)), (3, (0, a3))]) d_X6_pass_12 (by decide) rfl ?_
  refine Tr.aload_n (pc := 14) (i := 0) d_X6_pass_14 rfl rfl ?_
  refine Tr.getz (pc := 15) d_X6_pass_15 f_6_106 (by decide) (ty_48 hS.1.1) ?_
  refine Tr.gen (P := fun v => 0 ≤ v ∧ v ≤ 1) (ir_48_16 hS.1.2.1) (fun r15 er15 br15 => ?_)
  have J34 : ∀ (M : Mem) (q34_0 : Int), St Tru ws_X6_pass_48_w2 as_X6_pass_48_w2 M0 M → ((-2147483648) ≤ q34_0 ∧ q34_0 ≤ 100) → rd M 48 16 = r15 → rd M 48 9 = r5 → Tr l K 2 mX6_pass 34 [(0, (2, 48)), (1, (0, a1)), (4, (0, r9))] [(0, q34_0)] M (q_X6_pass_48_w2 M0) := by
    intro M q34_0 hS bq34_0 k34_48_16 k34_48_9
    refine Tr.istore (pc := 34) (i := 5) (ls2 := [(5, (0, q34_0)), (0, (2, 48)), (1, (0, a1)), (4, (0, r9))]) d_X6_pass_34 (by decide) rfl ?_
    refine Tr.aload_n (pc := 36) (i := 0) d_X6_pass_36 rfl rfl ?_
    refine Tr.dup (pc := 37) d_X6_pass_37 ne21 ?_
    refine Tr.getf (pc := 38) d_X6_pass_38 f_6_68 (by decide) (by decide) (ty_48 hS.1.1) ?_
    refine Tr.tp r5 k34_48_9 ?_
    refine Tr.iload (pc := 41) (i := 5) d_X6_pass_41 rfl ?_
    refine Tr.iadd (pc := 43) d_X6_pass_43 ?_
    refine Tr.gen (P := fun v => (-2147483648) ≤ v ∧ v ≤ 2147483647) (w32_b _) (fun r43 er43 br43 => ?_)
    refine Tr.putfS (pc := 44) (P := St Tru ws_X6_pass_48_w2 as_X6_pass_48_w2 M0) d_X6_pass_44 f_6_68 (by decide) (by decide) (ty_48 hS.1.1) (st_48_9 hS (by decide) (by omega) trivial) (fun M44 hS w44 => ?_)
    refine Tr.iload (pc := 47) (i := 5) d_X6_pass_47 rfl ?_
    refine Tr.iload_n (pc := 49) (i := 1) d_X6_pass_49 rfl rfl ?_
    refine Tr.icmp_ge (pc := 50) (tgt := 69) d_X6_pass_50 rfl (fun c50 => ?_) (fun c50 => ?_)
    · refine Tr.iload (pc := 69) (i := 5) d_X6_pass_69 rfl ?_
      exact Tr.iret (pc := 71) d_X6_pass_71 rfl ⟨hS, _, rfl, by omega, by omega⟩
    · refine Tr.aload_n (pc := 53) (i := 0) d_X6_pass_53 rfl rfl ?_
      refine Tr.iload (pc := 54) (i := 5) d_X6_pass_54 rfl ?_
      refine Tr.iload (pc := 56) (i := 4) d_X6_pass_56 rfl ?_
      refine Tr.icmp_ne (pc := 58) (tgt := 65) d_X6_pass_58 rfl (fun c58 => ?_) (fun c58 => ?_)
      · refine Tr.iconst (pc := 65) d_X6_pass_65 (by decide) ?_
        refine Tr.putfS (pc := 66) (P := St Tru ws_X6_pass_48_w2 as_X6_pass_48_w2 M0) d_X6_pass_66 f_6_62 (by decide) (by decide) (ty_48 hS.1.1) (st_48_14 hS (by decide) (by omega) trivial) (fun M66 hS w66 => ?_)
        refine Tr.iload (pc := 69) (i := 5) d_X6_pass_69 rfl ?_
        exact Tr.iret (pc := 71) d_X6_pass_71 rfl ⟨hS, _, rfl, by omega, by omega⟩
      · refine Tr.iconst (pc := 61) d_X6_pass_61 (by decide) ?_
        refine Tr.goto (pc := 62) (tgt := 66) d_X6_pass_62 rfl ?_
        refine Tr.putfS (pc := 66) (P := St Tru ws_X6_pass_48_w2 as_X6_pass_48_w2 M0) d_X6_pass_66 f_6_62 (by decide) (by decide) (ty_48 hS.1.1) (st_48_14 hS (by decide) (by omega) trivial) (fun M66 hS w66 => ?_)
        refine Tr.iload (pc := 69) (i := 5) d_X6_pass_69 rfl ?_
        exact Tr.iret (pc := 71) d_X6_pass_71 rfl ⟨hS, _, rfl, by omega, by omega⟩
  refine Tr.if_eq (pc := 18) (tgt := 32) d_X6_pass_18 rfl (fun c18 => ?_) (fun c18 => ?_)
  · refine Tr.iload (pc := 32) (i := 4) d_X6_pass_32 rfl ?_
    refine Tr.pick [1, 2, 0] (ls2 := [(0, (2, 48)), (1, (0, a1)), (4, (0, r9))]) rfl ?_
    exact J34 _ _ hS (by omega) er15 er5
  · refine Tr.aload_n (pc := 21) (i := 0) d_X6_pass_21 rfl rfl ?_
    refine Tr.iload (pc := 22) (i := 4) d_X6_pass_22 rfl ?_
    refine Tr.iload_n (pc := 24) (i := 2) d_X6_pass_24 rfl rfl ?_
    refine Tr.tp (-1) (by omega) ?_
    refine Tr.iload_n (pc := 25) (i := 3) d_X6_pass_25 rfl rfl ?_
    refine Tr.tp 0 (by omega) ?_
    refine Tr.callV (pc := 26) (as := [_, _, _]) d_X6_pass_26 s_6_183 ok_X6_afforded rfl rfl (Nat.le_of_ble_eq_true rfl) (Nat.le_of_ble_eq_true rfl) (by decide) (ty_48 hS.1.1) ?_
    refine Tr.imp (Tr.deep (by decide) (sp_X6_afforded_48_w2 hS.1 ((St.kp hS (by decide) (by decide) (by decide)).trans en_48_1) r9 (by omega) (-1) (by omega) 0 (by omega))) ?_
    rintro M26 _ ⟨h26, r26, rfl, lr26, ur26⟩
    have hS := St.tr hS h26 (by decide) (by decide)
    refine Tr.sc [(0, r26)] rfl ?_
    refine Tr.goto (pc := 29) (tgt := 34) d_X6_pass_29 rfl ?_
    refine Tr.pick [1, 2, 0] (ls2 := [(0, (2, 48)), (1, (0, a1)), (4, (0, r9))]) rfl ?_
    exact J34 _ _ hS (by omega) ((St.kp h26 (by decide) (by decide) (by decide)).trans er15) ((St.kp h26 (by decide) (by decide) (by decide)).trans er5)

def ws_X8_stayUp_63 : List (Int × Int) := [(63, 0)]
def as_X8_stayUp_63 : List Int := [69, 191]
def q_X8_stayUp_63 (M0 M' : Mem) (r : Option PV) : Prop := St Rn ws_X8_stayUp_63 as_X8_stayUp_63 M0 M' ∧ r = none
set_option maxRecDepth 100000 in
set_option maxHeartbeats 4000000 in
theorem sp_X8_stayUp_63 {l : Launch} {K : EC} {M0 : Mem} (hI : In Rn M0)  (a1 : Int) (ha1 : 0 ≤ a1 ∧ a1 ≤ 5) (a2 : Int) (ha2 : 0 ≤ a2 ∧ a2 ≤ 59) (a3 : Int) (ha3 : (-2147483648) ≤ a3 ∧ a3 ≤ 2147483647) (a4 : Int) (ha4 : (-2147483648) ≤ a4 ∧ a4 ≤ 2147483647) (a5 : Int) (ha5 : 1 ≤ a5 ∧ a5 ≤ 1)  : Tr l K 0 mX8_stayUp 0 [(0, (2, 63)), (1, (0, a1)), (2, (0, a2)), (3, (0, a3)), (4, (0, a4)), (5, (0, a5))] [] M0 (q_X8_stayUp_63 M0) := by
  have hS : St Rn ws_X8_stayUp_63 as_X8_stayUp_63 M0 M0 := St.rf hI
  obtain ⟨g63_1, eg63_1⟩ : ∃ v, rd M0 63 1 = v := ⟨_, rfl⟩
  have bg63_1 : (-1000000000) ≤ g63_1 ∧ g63_1 ≤ 1000000000 := by rw [← eg63_1]; exact ir_63_1 hI.2.1
  obtain ⟨g63_0, eg63_0⟩ : ∃ v, rd M0 63 0 = v := ⟨_, rfl⟩
  have bg63_0 : (-2147483648) ≤ g63_0 ∧ g63_0 ≤ 2147483647 := by rw [← eg63_0]; exact ir_63_0 hI.2.1
  refine Tr.aload_n (pc := 0) (i := 0) d_X8_stayUp_0 rfl rfl ?_
  refine Tr.getf (pc := 1) d_X8_stayUp_1 f_8_28 (by decide) (by decide) (ty_63 hS.1.1) ?_
  refine Tr.tp 69 (fx_63_6 hS.1.1) ?_
  refine Tr.iload_n (pc := 4) (i := 1) d_X8_stayUp_4 rfl rfl ?_
  refine Tr.iald (pc := 5) d_X8_stayUp_5 (ty_69 hS.1.1) (by omega) (by omega) ?_
  refine Tr.gen (P := fun v => ((-2147483648) ≤ v ∧ v ≤ 2147483647) ∧ v < g63_0) (by have h8 := tl_r hS (p := a1) (by omega) (by omega) eg63_0; have h9 := (ar_69 hS.1.2.1 (a1)); omega) (fun r5 er5 br5 => ?_)
  have J84 : ∀ (M : Mem) (u84_63_0 : Int), St Rn ws_X8_stayUp_63 as_X8_stayUp_63 M0 M → ((-2147483648) ≤ u84_63_0 ∧ u84_63_0 ≤ 2147483647) → rd M 63 0 = u84_63_0 → rd M 63 1 = g63_1 → (0 ≤ rd M 69 a1) → Tr l K 0 mX8_stayUp 84 [(0, (2, 63)), (1, (0, a1)), (3, (0, a3)), (4, (0, a4)), (5, (0, a5))] [] M (q_X8_stayUp_63 M0) := by
    intro M u84_63_0 hS bu84_63_0 k84_63_0 k84_63_1 t84_0
    refine Tr.aload_n (pc := 84) (i := 0) d_X8_stayUp_84 rfl rfl ?_
    refine Tr.getf (pc := 85) d_X8_stayUp_85 f_8_28 (by decide) (by decide) (ty_63 hS.1.1) ?_
    refine Tr.tp 69 (fx_63_6 hS.1.1) ?_
    refine Tr.iload_n (pc := 88) (i := 1) d_X8_stayUp_88 rfl rfl ?_
    refine Tr.iald (pc := 89) d_X8_stayUp_89 (ty_69 hS.1.1) (by omega) (by omega) ?_
    refine Tr.gen (P := fun v => ((-2147483648) ≤ v ∧ v ≤ 2147483647) ∧ v < u84_63_0) (by have h8 := tl_r hS (p := a1) (by omega) (by omega) k84_63_0; have h9 := (ar_69 hS.1.2.1 (a1)); omega) (fun r89 er89 br89 => ?_)
    refine Tr.istore (pc := 90) (i := 6) (ls2 := [(6, (0, r89)), (0, (2, 63)), (1, (0, a1)), (3, (0, a3)), (4, (0, a4)), (5, (0, a5))]) d_X8_stayUp_90 (by decide) rfl ?_
    refine Tr.aload_n (pc := 92) (i := 0) d_X8_stayUp_92 rfl rfl ?_
    refine Tr.getf (pc := 93) d_X8_stayUp_93 f_8_18 (by decide) (by decide) (ty_63 hS.1.1) ?_
    refine Tr.gen (P := fun v => v = tref g63_1 3) (tl_ref hS k84_63_1 (by decide)) (fun t93 et93 bt93 => ?_)
    refine Tr.iload (pc := 96) (i := 6) d_X8_stayUp_96 rfl ?_
    refine Tr.iload (pc := 98) (i := 4) d_X8_stayUp_98 rfl ?_
    have nk100_0 : rd M 63 0 = u84_63_0 := k84_63_0
    have nn100 := tl_n hS k84_63_1
    have nh100 := tl_hi hS k84_63_1 (j := 3) (by decide) bt93 (i := r89) (by omega) (by omega)
    refine Tr.iastS (pc := 100) (P := St Rn ws_X8_stayUp_63 as_X8_stayUp_63 M0) d_X8_stayUp_100 (tl_tyI hS k84_63_1 (j := 3) (by decide) (by decide) bt93) (by omega) (by omega) (tl_wr hS (by decide) k84_63_1 (j := 3) (by decide) bt93 (by omega) (by omega) (by have hb := (show tlo 3 = (-2147483648) ∧ thi 3 = 2147483647 by decide); omega) (Rn.of hS.1.2.2.2.2 (fun _ => rd_wn _ (fun c => by have := c.1; omega)) (rd_wn _ (fun c => by have := c.1; omega)))) (fun M100 hS w100 => ?_)
    refine Tr.aload_n (pc := 101) (i := 0) d_X8_stayUp_101 rfl rfl ?_
    refine Tr.getf (pc := 102) d_X8_stayUp_102 f_8_21 (by decide) (by decide) (ty_63 hS.1.1) ?_
    refine Tr.gen (P := fun v => v = tref g63_1 4) (tl_ref hS ((Wr.n w100 (by omega)).trans k84_63_1) (by decide)) (fun t102 et102 bt102 => ?_)
    refine Tr.iload (pc := 105) (i := 6) d_X8_stayUp_105 rfl ?_
    refine Tr.dup2 (pc := 107) d_X8_stayUp_107 ne01 ne21 ?_
    have nk108_0 : rd M100 63 0 = u84_63_0 := ((Wr.n w100 (by omega)).trans k84_63_0)
    have nn108 := tl_n hS ((Wr.n w100 (by omega)).trans k84_63_1)
    refine Tr.iald (pc := 108) d_X8_stayUp_108 (tl_tyI hS ((Wr.n w100 (by omega)).trans k84_63_1) (j := 4) (by decide) (by decide) bt102) (by omega) (by omega) ?_
    refine Tr.gen (P := fun v => (-2147483648) ≤ v ∧ v ≤ 2147483647) (tl_eI hS ((Wr.n w100 (by omega)).trans k84_63_1) (j := 4) (by decide) (by decide) bt102 (by omega) (by omega)) (fun r108 er108 br108 => ?_)
    refine Tr.iload (pc := 109) (i := 5) d_X8_stayUp_109 rfl ?_
    refine Tr.tp 1 (by omega) ?_
    refine Tr.if_eq (pc := 111) (tgt := 121) d_X8_stayUp_111 rfl (fun hc => absurd hc (by omega)) (fun _ => ?_)
    refine Tr.iload (pc := 114) (i := 4) d_X8_stayUp_114 rfl ?_
    refine Tr.iload_n (pc := 116) (i := 3) d_X8_stayUp_116 rfl rfl ?_
    refine Tr.isub (pc := 117) d_X8_stayUp_117 ?_
    refine Tr.gen (P := fun v => (-2147483648) ≤ v ∧ v ≤ 2147483647) (w32_b _) (fun r117 er117 br117 => ?_)
    refine Tr.goto (pc := 118) (tgt := 122) d_X8_stayUp_118 rfl ?_
    refine Tr.iadd (pc := 122) d_X8_stayUp_122 ?_
    refine Tr.gen (P := fun v => (-2147483648) ≤ v ∧ v ≤ 2147483647) (w32_b _) (fun r122 er122 br122 => ?_)
    have nk123_0 : rd M100 63 0 = u84_63_0 := ((Wr.n w100 (by omega)).trans k84_63_0)
    have nn123 := tl_n hS ((Wr.n w100 (by omega)).trans k84_63_1)
    have nh123 := tl_hi hS ((Wr.n w100 (by omega)).trans k84_63_1) (j := 4) (by decide) bt102 (i := r89) (by omega) (by omega)
    refine Tr.iastS (pc := 123) (P := St Rn ws_X8_stayUp_63 as_X8_stayUp_63 M0) d_X8_stayUp_123 (tl_tyI hS ((Wr.n w100 (by omega)).trans k84_63_1) (j := 4) (by decide) (by decide) bt102) (by omega) (by omega) (tl_wr hS (by decide) ((Wr.n w100 (by omega)).trans k84_63_1) (j := 4) (by decide) bt102 (by omega) (by omega) (by have hb := (show tlo 4 = (-2147483648) ∧ thi 4 = 2147483647 by decide); omega) (Rn.of hS.1.2.2.2.2 (fun _ => rd_wn _ (fun c => by have := c.1; omega)) (rd_wn _ (fun c => by have := c.1; omega)))) (fun M123 hS w123 => ?_)
    exact Tr.vret (pc := 124) d_X8_stayUp_124 rfl ⟨hS, rfl⟩
  refine Tr.if_ge (pc := 6) (tgt := 84) d_X8_stayUp_6 rfl (fun c6 => ?_) (fun c6 => ?_)
  · refine Tr.pick [0, 1, 3, 4, 5] (ls2 := [(0, (2, 63)), (1, (0, a1)), (3, (0, a3)), (4, (0, a4)), (5, (0, a5))]) rfl ?_
    have jr84_0 : rd M0 69 a1 = r5 := er5
    exact J84 _ _ hS (by omega) eg63_0 eg63_1 (by omega)
  · refine Tr.aload_n (pc := 9) (i := 0) d_X8_stayUp_9 rfl rfl ?_
    refine Tr.getf (pc := 10) d_X8_stayUp_10 f_8_43 (by decide) (by decide) (ty_63 hS.1.1) ?_
    refine Tr.tp g63_0 eg63_0 ?_
    refine Tr.aload_n (pc := 13) (i := 0) d_X8_stayUp_13 rfl rfl ?_
    refine Tr.getf (pc := 14) d_X8_stayUp_14 f_8_9 (by decide) (by decide) (ty_63 hS.1.1) ?_
    refine Tr.gen (P := fun v => v = tref g63_1 1) (tl_ref hS eg63_1 (by decide)) (fun t14 et14 bt14 => ?_)
    have nk17_0 : rd M0 63 0 = g63_0 := eg63_0
    have nn17 := tl_n hS eg63_1
    refine Tr.alen (pc := 17) d_X8_stayUp_17 (tl_tyI hS eg63_1 (j := 1) (by decide) (by decide) bt14) (by decide) (by omega) ?_
    refine Tr.gen (P := fun v => v = ((fN g63_1 : Nat) : Int) ∧ (0 ≤ v ∧ v ≤ 2016)) ⟨rfl, by omega, by omega⟩ (fun r17 er17 br17 => ?_)
    refine Tr.icmp_lt (pc := 18) (tgt := 22) d_X8_stayUp_18 rfl (fun c18 => ?_) (fun c18 => ?_)
    · refine Tr.aload_n (pc := 22) (i := 0) d_X8_stayUp_22 rfl rfl ?_
      refine Tr.getf (pc := 23) d_X8_stayUp_23 f_8_9 (by decide) (by decide) (ty_63 hS.1.1) ?_
      refine Tr.gen (P := fun v => v = tref g63_1 1) (tl_ref hS eg63_1 (by decide)) (fun t23 et23 bt23 => ?_)
      refine Tr.aload_n (pc := 26) (i := 0) d_X8_stayUp_26 rfl rfl ?_
      refine Tr.getf (pc := 27) d_X8_stayUp_27 f_8_43 (by decide) (by decide) (ty_63 hS.1.1) ?_
      refine Tr.tp g63_0 eg63_0 ?_
      refine Tr.iload_n (pc := 30) (i := 1) d_X8_stayUp_30 rfl rfl ?_
      have nk31_0 : rd M0 63 0 = g63_0 := eg63_0
      have nn31 := tl_n hS eg63_1
      have nh31 := tl_hi hS eg63_1 (j := 1) (by decide) bt23 (i := g63_0) (by omega) (by omega)
      refine Tr.iastS (pc := 31) (P := St Rn ws_X8_stayUp_63 as_X8_stayUp_63 M0) d_X8_stayUp_31 (tl_tyI hS eg63_1 (j := 1) (by decide) (by decide) bt23) (by omega) (by omega) (tl_wr hS (by decide) eg63_1 (j := 1) (by decide) bt23 (by omega) (by omega) (by have hb := (show tlo 1 = 0 ∧ thi 1 = 5 by decide); omega) (Rn.of hS.1.2.2.2.2 (fun _ => rd_wn _ (fun c => by have := c.1; omega)) (rd_wn _ (fun c => by have := c.1; omega)))) (fun M31 hS w31 => ?_)
      refine Tr.aload_n (pc := 32) (i := 0) d_X8_stayUp_32 rfl rfl ?_
      refine Tr.getf (pc := 33) d_X8_stayUp_33 f_8_15 (by decide) (by decide) (ty_63 hS.1.1) ?_
      refine Tr.gen (P := fun v => v = tref g63_1 2) (tl_ref hS ((Wr.n w31 (by omega)).trans eg63_1) (by decide)) (fun t33 et33 bt33 => ?_)
      refine Tr.aload_n (pc := 36) (i := 0) d_X8_stayUp_36 rfl rfl ?_
      refine Tr.getf (pc := 37) d_X8_stayUp_37 f_8_43 (by decide) (by decide) (ty_63 hS.1.1) ?_
      refine Tr.tp g63_0 ((Wr.n w31 (by omega)).trans eg63_0) ?_
      refine Tr.iload_n (pc := 40) (i := 3) d_X8_stayUp_40 rfl rfl ?_
      have nk41_0 : rd M31 63 0 = g63_0 := ((Wr.n w31 (by omega)).trans eg63_0)
      have nn41 := tl_n hS ((Wr.n w31 (by omega)).trans eg63_1)
      have nh41 := tl_hi hS ((Wr.n w31 (by omega)).trans eg63_1) (j := 2) (by decide) bt33 (i := g63_0) (by omega) (by omega)
      refine Tr.iastS (pc := 41) (P := St Rn ws_X8_stayUp_63 as_X8_stayUp_63 M0) d_X8_stayUp_41 (tl_tyI hS ((Wr.n w31 (by omega)).trans eg63_1) (j := 2) (by decide) (by decide) bt33) (by omega) (by omega) (tl_wr hS (by decide) ((Wr.n w31 (by omega)).trans eg63_1) (j := 2) (by decide) bt33 (by omega) (by omega) (by have hb := (show tlo 2 = (-2147483648) ∧ thi 2 = 2147483647 by decide); omega) (Rn.of hS.1.2.2.2.2 (fun _ => rd_wn _ (fun c => by have := c.1; omega)) (rd_wn _ (fun c => by have := c.1; omega)))) (fun M41 hS w41 => ?_)
      refine Tr.aload_n (pc := 42) (i := 0) d_X8_stayUp_42 rfl rfl ?_
      refine Tr.getf (pc := 43) d_X8_stayUp_43 f_8_21 (by decide) (by decide) (ty_63 hS.1.1) ?_
      refine Tr.gen (P := fun v => v = tref g63_1 4) (tl_ref hS ((Wr.n w41 (by omega)).trans ((Wr.n w31 (by omega)).trans eg63_1)) (by decide)) (fun t43 et43 bt43 => ?_)
      refine Tr.aload_n (pc := 46) (i := 0) d_X8_stayUp_46 rfl rfl ?_
      refine Tr.getf (pc := 47) d_X8_stayUp_47 f_8_43 (by decide) (by decide) (ty_63 hS.1.1) ?_
      refine Tr.tp g63_0 ((Wr.n w41 (by omega)).trans ((Wr.n w31 (by omega)).trans eg63_0)) ?_
      refine Tr.iconst (pc := 50) d_X8_stayUp_50 (by decide) ?_
      have nk51_0 : rd M41 63 0 = g63_0 := ((Wr.n w41 (by omega)).trans ((Wr.n w31 (by omega)).trans eg63_0))
      have nn51 := tl_n hS ((Wr.n w41 (by omega)).trans ((Wr.n w31 (by omega)).trans eg63_1))
      have nh51 := tl_hi hS ((Wr.n w41 (by omega)).trans ((Wr.n w31 (by omega)).trans eg63_1)) (j := 4) (by decide) bt43 (i := g63_0) (by omega) (by omega)
      refine Tr.iastS (pc := 51) (P := St Rn ws_X8_stayUp_63 as_X8_stayUp_63 M0) d_X8_stayUp_51 (tl_tyI hS ((Wr.n w41 (by omega)).trans ((Wr.n w31 (by omega)).trans eg63_1)) (j := 4) (by decide) (by decide) bt43) (by omega) (by omega) (tl_wr hS (by decide) ((Wr.n w41 (by omega)).trans ((Wr.n w31 (by omega)).trans eg63_1)) (j := 4) (by decide) bt43 (by omega) (by omega) (by have hb := (show tlo 4 = (-2147483648) ∧ thi 4 = 2147483647 by decide); omega) (Rn.of hS.1.2.2.2.2 (fun _ => rd_wn _ (fun c => by have := c.1; omega)) (rd_wn _ (fun c => by have := c.1; omega)))) (fun M51 hS w51 => ?_)
      refine Tr.aload_n (pc := 52) (i := 0) d_X8_stayUp_52 rfl rfl ?_
      refine Tr.getf (pc := 53) d_X8_stayUp_53 f_8_24 (by decide) (by decide) (ty_63 hS.1.1) ?_
      refine Tr.gen (P := fun v => v = tref g63_1 5) (tl_ref hS ((Wr.n w51 (by omega)).trans ((Wr.n w41 (by omega)).trans ((Wr.n w31 (by omega)).trans eg63_1))) (by decide)) (fun t53 et53 bt53 => ?_)
      refine Tr.aload_n (pc := 56) (i := 0) d_X8_stayUp_56 rfl rfl ?_
      refine Tr.getf (pc := 57) d_X8_stayUp_57 f_8_43 (by decide) (by decide) (ty_63 hS.1.1) ?_
      refine Tr.tp g63_0 ((Wr.n w51 (by omega)).trans ((Wr.n w41 (by omega)).trans ((Wr.n w31 (by omega)).trans eg63_0))) ?_
      refine Tr.lconst (pc := 60) (v := 1) d_X8_stayUp_60 rfl (by decide) ?_
      refine Tr.iload_n (pc := 61) (i := 2) d_X8_stayUp_61 rfl rfl ?_
      refine Tr.lshl (pc := 62) d_X8_stayUp_62 ?_
      refine Tr.gen (P := fun v => (-9223372036854775808) ≤ v ∧ v ≤ 9223372036854775807) (i64_b _) (fun r62 er62 br62 => ?_)
      have nk63_0 : rd M51 63 0 = g63_0 := ((Wr.n w51 (by omega)).trans ((Wr.n w41 (by omega)).trans ((Wr.n w31 (by omega)).trans eg63_0)))
      have nn63 := tl_n hS ((Wr.n w51 (by omega)).trans ((Wr.n w41 (by omega)).trans ((Wr.n w31 (by omega)).trans eg63_1)))
      have nh63 := tl_hi hS ((Wr.n w51 (by omega)).trans ((Wr.n w41 (by omega)).trans ((Wr.n w31 (by omega)).trans eg63_1))) (j := 5) (by decide) bt53 (i := g63_0) (by omega) (by omega)
      refine Tr.lastS (pc := 63) (P := St Rn ws_X8_stayUp_63 as_X8_stayUp_63 M0) d_X8_stayUp_63 (tl_tyL hS ((Wr.n w51 (by omega)).trans ((Wr.n w41 (by omega)).trans ((Wr.n w31 (by omega)).trans eg63_1))) bt53) (by omega) (by omega) (tl_wr hS (by decide) ((Wr.n w51 (by omega)).trans ((Wr.n w41 (by omega)).trans ((Wr.n w31 (by omega)).trans eg63_1))) (j := 5) (by decide) bt53 (by omega) (by omega) (by have hb := (show tlo 5 = (-9223372036854775808) ∧ thi 5 = 9223372036854775807 by decide); omega) (Rn.of hS.1.2.2.2.2 (fun _ => rd_wn _ (fun c => by have := c.1; omega)) (rd_wn _ (fun c => by have := c.1; omega)))) (fun M63 hS w63 => ?_)
      refine Tr.aload_n (pc := 64) (i := 0) d_X8_stayUp_64 rfl rfl ?_
      refine Tr.getf (pc := 65) d_X8_stayUp_65 f_8_28 (by decide) (by decide) (ty_63 hS.1.1) ?_
      refine Tr.tp 69 (fx_63_6 hS.1.1) ?_
      refine Tr.iload_n (pc := 68) (i := 1) d_X8_stayUp_68 rfl rfl ?_
      refine Tr.aload_n (pc := 69) (i := 0) d_X8_stayUp_69 rfl rfl ?_
      refine Tr.getf (pc := 70) d_X8_stayUp_70 f_8_43 (by decide) (by decide) (ty_63 hS.1.1) ?_
      refine Tr.tp g63_0 ((Wr.n w63 (by omega)).trans ((Wr.n w51 (by omega)).trans ((Wr.n w41 (by omega)).trans ((Wr.n w31 (by omega)).trans eg63_0)))) ?_
      have kc73_63_0 : rd M63 63 0 = g63_0 := ((Wr.n w63 (by omega)).trans ((Wr.n w51 (by omega)).trans ((Wr.n w41 (by omega)).trans ((Wr.n w31 (by omega)).trans eg63_0))))
      have hS9 := hS
      refine Tr.iastS (pc := 73) (P := St Tru ws_X8_stayUp_63 as_X8_stayUp_63 M0) d_X8_stayUp_73 (ty_69 hS.1.1) (by omega) (by omega) (sa_69 hS.wk (by decide) (by omega) trivial) (fun M73 hS w73 => ?_)
      have hrn : ∀ p : Int, 0 ≤ p → p < 6 → rd M73 69 p < g63_0 + 1 := fun p p0 p1 => by
        have h1 := tl_r hS9 p0 p1 ((Wr.n w63 (by omega)).trans ((Wr.n w51 (by omega)).trans ((Wr.n w41 (by omega)).trans ((Wr.n w31 (by omega)).trans eg63_0))))
        by_cases hp : p = a1
        · rw [hp, w73.1]; omega
        · rw [w73.2 _ _ (fun d => hp d.2)]; omega
      refine Tr.aload_n (pc := 74) (i := 0) d_X8_stayUp_74 rfl rfl ?_
      refine Tr.dup (pc := 75) d_X8_stayUp_75 ne21 ?_
      refine Tr.getf (pc := 76) d_X8_stayUp_76 f_8_43 (by decide) (by decide) (ty_63 hS.1.1) ?_
      refine Tr.tp g63_0 ((Wr.b w73 rfl).trans ((Wr.n w63 (by omega)).trans ((Wr.n w51 (by omega)).trans ((Wr.n w41 (by omega)).trans ((Wr.n w31 (by omega)).trans eg63_0))))) ?_
      refine Tr.iconst (pc := 79) d_X8_stayUp_79 (by decide) ?_
      refine Tr.iadd (pc := 80) d_X8_stayUp_80 ?_
      refine Tr.tp (g63_0 + 1) ((w32_id (by omega)).trans (by omega)) ?_
      have nk81_0 : rd M73 63 0 = g63_0 := ((Wr.b w73 rfl).trans ((Wr.n w63 (by omega)).trans ((Wr.n w51 (by omega)).trans ((Wr.n w41 (by omega)).trans ((Wr.n w31 (by omega)).trans eg63_0)))))
      have nn81 := tl_n hS ((Wr.b w73 rfl).trans ((Wr.n w63 (by omega)).trans ((Wr.n w51 (by omega)).trans ((Wr.n w41 (by omega)).trans ((Wr.n w31 (by omega)).trans eg63_1)))))
      refine Tr.putfS (pc := 81) (P := St Rn ws_X8_stayUp_63 as_X8_stayUp_63 M0) d_X8_stayUp_81 f_8_43 (by decide) (by decide) (ty_63 hS.1.1) (st_up hS (by decide) ((Wr.b w73 rfl).trans ((Wr.n w63 (by omega)).trans ((Wr.n w51 (by omega)).trans ((Wr.n w41 (by omega)).trans ((Wr.n w31 (by omega)).trans eg63_1))))) (by omega) (by omega) (fun p p0 p1 => by have h1 := hrn p p0 p1; omega)) (fun M81 hS w81 => ?_)
      refine Tr.pick [0, 1, 3, 4, 5] (ls2 := [(0, (2, 63)), (1, (0, a1)), (3, (0, a3)), (4, (0, a4)), (5, (0, a5))]) rfl ?_
      have jr84_0 : rd M81 69 a1 = g63_0 := ((Wr.b w81 rfl).trans w73.1)
      exact J84 _ _ hS (by omega) w81.1 ((Wr.b w81 rfl).trans ((Wr.b w73 rfl).trans ((Wr.n w63 (by omega)).trans ((Wr.n w51 (by omega)).trans ((Wr.n w41 (by omega)).trans ((Wr.n w31 (by omega)).trans eg63_1)))))) (by omega)
    · exact Tr.vret (pc := 21) d_X8_stayUp_21 rfl ⟨hS, rfl⟩
end
/-! 30.10 -/
section
def ws_X1_note_56 : List (Int × Int) := [(63, 0)]
def as_X1_note_56 : List Int := [57, 60, 61, 69, 191]
def q_X1_note_56 (M0 M' : Mem) (r : Option PV) : Prop := St Rn ws_X1_note_56 as_X1_note_56 M0 M' ∧ r = none
set_option maxRecDepth 100000 in
set_option maxHeartbeats 4000000 in
theorem sp_X1_note_56 {l : Launch} {K : EC} {M0 : Mem} (hI : In Rn M0) (en_56_1 : rd M0 56 1 = 7) (a1 : Int) (ha1 : 0 ≤ a1 ∧ a1 ≤ 5) (a2 : Int) (ha2 : 2 ≤ a2 ∧ a2 ≤ 2) (a3 : Int) (ha3 : (-2147483648) ≤ a3 ∧ a3 ≤ 2147483647) (a4 : Int) (ha4 : (-2147483648) ≤ a4 ∧ a4 ≤ 2147483647)  : Tr l K 1 mX1_note 0 [(0, (2, 56)), (1, (0, a1)), (2, (0, a2)), (3, (0, a3)), (4, (0, a4))] [] M0 (q_X1_note_56 M0) := by
  have hS : St Rn ws_X1_note_56 as_X1_note_56 M0 M0 := St.rf hI
  refine Tr.iload_n (pc := 0) (i := 3) d_X1_note_0 rfl rfl ?_
  refine Tr.iload (pc := 1) (i := 4) d_X1_note_1 rfl ?_
  refine Tr.icmp_lt (pc := 3) (tgt := 7) d_X1_note_3 rfl (fun c3 => ?_) (fun c3 => ?_)
  · refine Tr.aload_n (pc := 7) (i := 0) d_X1_note_7 rfl rfl ?_
    refine Tr.getf (pc := 8) d_X1_note_8 f_1_9 (by decide) (by decide) (ty_56 hS.1.1) ?_
    refine Tr.tp 57 (fx_56_2 hS.1.1) ?_
    refine Tr.iload_n (pc := 11) (i := 1) d_X1_note_11 rfl rfl ?_
    refine Tr.iconst (pc := 12) d_X1_note_12 (by decide) ?_
    refine Tr.imul (pc := 13) d_X1_note_13 ?_
    refine Tr.tp (4 * a1) ((w32_id (by omega)).trans (by omega)) ?_
    refine Tr.iload_n (pc := 14) (i := 2) d_X1_note_14 rfl rfl ?_
    refine Tr.tp 2 (by omega) ?_
    refine Tr.iadd (pc := 15) d_X1_note_15 ?_
    refine Tr.tp (4 * a1 + 2) ((w32_id (by omega)).trans (by omega)) ?_
    refine Tr.dup2 (pc := 16) d_X1_note_16 ne01 ne21 ?_
    refine Tr.iald (pc := 17) d_X1_note_17 (ty_57 hS.1.1) (by omega) (by omega) ?_
    refine Tr.gen (P := fun v => (-2147483648) ≤ v ∧ v ≤ 2147483647) (ar_57 hS.1.2.1 _) (fun r17 er17 br17 => ?_)
    refine Tr.iload (pc := 18) (i := 4) d_X1_note_18 rfl ?_
    refine Tr.iload_n (pc := 20) (i := 3) d_X1_note_20 rfl rfl ?_
    refine Tr.isub (pc := 21) d_X1_note_21 ?_
    refine Tr.gen (P := fun v => (-2147483648) ≤ v ∧ v ≤ 2147483647) (w32_b _) (fun r21 er21 br21 => ?_)
    refine Tr.iadd (pc := 22) d_X1_note_22 ?_
    refine Tr.gen (P := fun v => (-2147483648) ≤ v ∧ v ≤ 2147483647) (w32_b _) (fun r22 er22 br22 => ?_)
    refine Tr.iastS (pc := 23) (P := St Rn ws_X1_note_56 as_X1_note_56 M0) d_X1_note_23 (ty_57 hS.1.1) (by omega) (by omega) (sa_57 hS (by decide) (by omega) (Rn.of hS.1.2.2.2.2 (fun _ => rd_wb _ rfl) (rd_wb _ rfl))) (fun M23 hS w23 => ?_)
    refine Tr.aload_n (pc := 24) (i := 0) d_X1_note_24 rfl rfl ?_
    refine Tr.getz (pc := 25) d_X1_note_25 f_1_37 (by decide) (ty_56 hS.1.1) ?_
    refine Tr.tp 1 (fx_56_0 hS.1.1) ?_
    refine Tr.if_ne (pc := 28) (tgt := 32) d_X1_note_28 rfl (fun _ => ?_) (fun hc => absurd hc (by omega))
    refine Tr.aload_n (pc := 32) (i := 0) d_X1_note_32 rfl rfl ?_
    refine Tr.getf (pc := 33) d_X1_note_33 f_1_15 (by decide) (by decide) (ty_56 hS.1.1) ?_
    refine Tr.tp 58 (fx_56_3 hS.1.1) ?_
    refine Tr.iload_n (pc := 36) (i := 1) d_X1_note_36 rfl rfl ?_
    refine Tr.iald (pc := 37) d_X1_note_37 (ty_58 hS.1.1) (by omega) (by omega) ?_
    refine Tr.gen (P := fun v => (-1) ≤ v ∧ v ≤ 59) (ar_58 hS.1.2.1 _) (fun r37 er37 br37 => ?_)
    refine Tr.istore (pc := 38) (i := 5) (ls2 := [(5, (0, r37)), (0, (2, 56)), (1, (0, a1)), (2, (0, a2)), (3, (0, a3)), (4, (0, a4))]) d_X1_note_38 (by decide) rfl ?_
    refine Tr.iload_n (pc := 40) (i := 2) d_X1_note_40 rfl rfl ?_
    refine Tr.tp 2 (by omega) ?_
    refine Tr.if_ne (pc := 41) (tgt := 52) d_X1_note_41 rfl (fun _ => ?_) (fun hc => absurd hc (by omega))
    refine Tr.iload (pc := 52) (i := 5) d_X1_note_52 rfl ?_
    refine Tr.if_lt (pc := 54) (tgt := 142) d_X1_note_54 rfl (fun c54 => ?_) (fun c54 => ?_)
    · exact Tr.vret (pc := 142) d_X1_note_142 rfl ⟨hS, rfl⟩
    · refine Tr.iload (pc := 57) (i := 4) d_X1_note_57 rfl ?_
      refine Tr.iload_n (pc := 59) (i := 3) d_X1_note_59 rfl rfl ?_
      refine Tr.isub (pc := 60) d_X1_note_60 ?_
      refine Tr.gen (P := fun v => (-2147483648) ≤ v ∧ v ≤ 2147483647) (w32_b _) (fun r60 er60 br60 => ?_)
      refine Tr.aload_n (pc := 61) (i := 0) d_X1_note_61 rfl rfl ?_
      refine Tr.getf (pc := 62) d_X1_note_62 f_1_41 (by decide) (by decide) (ty_56 hS.1.1) ?_
      refine Tr.tp 7 ((St.kp hS (by decide) (by decide) (by decide)).trans en_56_1) ?_
      refine Tr.getf (pc := 65) d_X1_note_65 f_1_71 (by decide) (by decide) (ty_7 hS.1.1) ?_
      refine Tr.tp 9 (fx_7_5 hS.1.1) ?_
      refine Tr.iload_n (pc := 68) (i := 1) d_X1_note_68 rfl rfl ?_
      refine Tr.iconst (pc := 69) d_X1_note_69 (by decide) ?_
      refine Tr.imul (pc := 70) d_X1_note_70 ?_
      refine Tr.tp (4 * a1) ((w32_id (by omega)).trans (by omega)) ?_
      refine Tr.iload_n (pc := 71) (i := 2) d_X1_note_71 rfl rfl ?_
      refine Tr.tp 2 (by omega) ?_
      refine Tr.iadd (pc := 72) d_X1_note_72 ?_
      refine Tr.tp (4 * a1 + 2) ((w32_id (by omega)).trans (by omega)) ?_
      refine Tr.iald (pc := 73) d_X1_note_73 (ty_9 hS.1.1) (by omega) (by omega) ?_
      refine Tr.gen (P := fun v => (-1) ≤ v ∧ v ≤ 999) (ar_9 hS.1.2.1 _) (fun r73 er73 br73 => ?_)
      refine Tr.imul (pc := 74) d_X1_note_74 ?_
      refine Tr.gen (P := fun v => (-2147483648) ≤ v ∧ v ≤ 2147483647) (w32_b _) (fun r74 er74 br74 => ?_)
      refine Tr.istore (pc := 75) (i := 6) (ls2 := [(6, (0, r74)), (5, (0, r37)), (0, (2, 56)), (1, (0, a1)), (2, (0, a2)), (3, (0, a3)), (4, (0, a4))]) d_X1_note_75 (by decide) rfl ?_
      refine Tr.aload_n (pc := 77) (i := 0) d_X1_note_77 rfl rfl ?_
      refine Tr.getf (pc := 78) d_X1_note_78 f_1_24 (by decide) (by decide) (ty_56 hS.1.1) ?_
      refine Tr.tp 61 (fx_56_6 hS.1.1) ?_
      refine Tr.iload (pc := 81) (i := 5) d_X1_note_81 rfl ?_
      refine Tr.dup2 (pc := 83) d_X1_note_83 ne01 ne21 ?_
      refine Tr.iald (pc := 84) d_X1_note_84 (ty_61 hS.1.1) (by omega) (by omega) ?_
      refine Tr.gen (P := fun v => (-2147483648) ≤ v ∧ v ≤ 2147483647) (ar_61 hS.1.2.1 _) (fun r84 er84 br84 => ?_)
      refine Tr.iload_n (pc := 85) (i := 2) d_X1_note_85 rfl rfl ?_
      refine Tr.tp 2 (by omega) ?_
      refine Tr.iconst (pc := 86) d_X1_note_86 (by decide) ?_
      refine Tr.icmp_ne (pc := 87) (tgt := 95) d_X1_note_87 rfl (fun hc => absurd (by omega) hc) (fun _ => ?_)
      refine Tr.iload (pc := 90) (i := 6) d_X1_note_90 rfl ?_
      refine Tr.goto (pc := 92) (tgt := 96) d_X1_note_92 rfl ?_
      refine Tr.iadd (pc := 96) d_X1_note_96 ?_
      refine Tr.gen (P := fun v => (-2147483648) ≤ v ∧ v ≤ 2147483647) (w32_b _) (fun r96 er96 br96 => ?_)
      refine Tr.iastS (pc := 97) (P := St Rn ws_X1_note_56 as_X1_note_56 M0) d_X1_note_97 (ty_61 hS.1.1) (by omega) (by omega) (sa_61 hS (by decide) (by omega) (Rn.of hS.1.2.2.2.2 (fun _ => rd_wb _ rfl) (rd_wb _ rfl))) (fun M97 hS w97 => ?_)
      refine Tr.aload_n (pc := 98) (i := 0) d_X1_note_98 rfl rfl ?_
      refine Tr.getf (pc := 99) d_X1_note_99 f_1_21 (by decide) (by decide) (ty_56 hS.1.1) ?_
      refine Tr.tp 60 (fx_56_5 hS.1.1) ?_
      refine Tr.iload (pc := 102) (i := 5) d_X1_note_102 rfl ?_
      refine Tr.dup2 (pc := 104) d_X1_note_104 ne01 ne21 ?_
      refine Tr.iald (pc := 105) d_X1_note_105 (ty_60 hS.1.1) (by omega) (by omega) ?_
      refine Tr.gen (P := fun v => (-2147483648) ≤ v ∧ v ≤ 2147483647) (ar_60 hS.1.2.1 _) (fun r105 er105 br105 => ?_)
      refine Tr.iload_n (pc := 106) (i := 2) d_X1_note_106 rfl rfl ?_
      refine Tr.tp 2 (by omega) ?_
      refine Tr.iconst (pc := 107) d_X1_note_107 (by decide) ?_
      refine Tr.icmp_ne (pc := 108) (tgt := 115) d_X1_note_108 rfl (fun hc => absurd (by omega) hc) (fun _ => ?_)
      refine Tr.iconst (pc := 111) d_X1_note_111 (by decide) ?_
      refine Tr.goto (pc := 112) (tgt := 117) d_X1_note_112 rfl ?_
      refine Tr.iadd (pc := 117) d_X1_note_117 ?_
      refine Tr.tp r105 ((w32_id (by omega)).trans (by omega)) ?_
      refine Tr.iastS (pc := 118) (P := St Rn ws_X1_note_56 as_X1_note_56 M0) d_X1_note_118 (ty_60 hS.1.1) (by omega) (by omega) (sa_60 hS (by decide) (by omega) (Rn.of hS.1.2.2.2.2 (fun _ => rd_wb _ rfl) (rd_wb _ rfl))) (fun M118 hS w118 => ?_)
      refine Tr.aload_n (pc := 119) (i := 0) d_X1_note_119 rfl rfl ?_
      refine Tr.getf (pc := 120) d_X1_note_120 f_1_33 (by decide) (by decide) (ty_56 hS.1.1) ?_
      refine Tr.tp 63 (fx_56_8 hS.1.1) ?_
      refine Tr.iload_n (pc := 123) (i := 1) d_X1_note_123 rfl rfl ?_
      refine Tr.iload (pc := 124) (i := 5) d_X1_note_124 rfl ?_
      refine Tr.iload_n (pc := 126) (i := 3) d_X1_note_126 rfl rfl ?_
      refine Tr.iload (pc := 127) (i := 4) d_X1_note_127 rfl ?_
      refine Tr.iload_n (pc := 129) (i := 2) d_X1_note_129 rfl rfl ?_
      refine Tr.tp 2 (by omega) ?_
      refine Tr.iconst (pc := 130) d_X1_note_130 (by decide) ?_
      refine Tr.icmp_ne (pc := 131) (tgt := 138) d_X1_note_131 rfl (fun hc => absurd (by omega) hc) (fun _ => ?_)
      refine Tr.iconst (pc := 134) d_X1_note_134 (by decide) ?_
      refine Tr.goto (pc := 135) (tgt := 139) d_X1_note_135 rfl ?_
      refine Tr.callV (pc := 139) (as := [_, _, _, _, _]) d_X1_note_139 s_1_74 ok_X8_stayUp rfl rfl (Nat.le_of_ble_eq_true rfl) (Nat.le_of_ble_eq_true rfl) (by decide) (ty_63 hS.1.1) ?_
      refine Tr.imp (Tr.deep (by decide) (sp_X8_stayUp_63 hS.1 a1 (by omega) r37 (by omega) a3 (by omega) a4 (by omega) 1 (by omega))) ?_
      rintro M139 _ ⟨h139, rfl⟩
      have hS := St.tr hS h139 (by decide) (by decide)
      refine Tr.sc [] rfl ?_
      exact Tr.vret (pc := 142) d_X1_note_142 rfl ⟨hS, rfl⟩
  · exact Tr.vret (pc := 6) d_X1_note_6 rfl ⟨hS, rfl⟩

def ws_X1_fallAsleep_56 : List (Int × Int) := []
def as_X1_fallAsleep_56 : List Int := [62, 69]
def q_X1_fallAsleep_56 (M0 M' : Mem) (r : Option PV) : Prop := St Rn ws_X1_fallAsleep_56 as_X1_fallAsleep_56 M0 M' ∧ r = none
set_option maxRecDepth 100000 in
set_option maxHeartbeats 4000000 in
theorem sp_X1_fallAsleep_56 {l : Launch} {K : EC} {M0 : Mem} (hI : In Rn M0) (en_56_1 : rd M0 56 1 = 7) (a1 : Int) (ha1 : 0 ≤ a1 ∧ a1 ≤ 5)  : Tr l K 0 mX1_fallAsleep 0 [(0, (2, 56)), (1, (0, a1))] [] M0 (q_X1_fallAsleep_56 M0) := by
  have hS : St Rn ws_X1_fallAsleep_56 as_X1_fallAsleep_56 M0 M0 := St.rf hI
  refine Tr.aload_n (pc := 0) (i := 0) d_X1_fallAsleep_0 rfl rfl ?_
  refine Tr.getz (pc := 1) d_X1_fallAsleep_1 f_1_37 (by decide) (ty_56 hS.1.1) ?_
  refine Tr.tp 1 (fx_56_0 hS.1.1) ?_
  refine Tr.if_eq (pc := 4) (tgt := 75) d_X1_fallAsleep_4 rfl (fun hc => absurd hc (by omega)) (fun _ => ?_)
  refine Tr.aload_n (pc := 7) (i := 0) d_X1_fallAsleep_7 rfl rfl ?_
  refine Tr.getf (pc := 8) d_X1_fallAsleep_8 f_1_33 (by decide) (by decide) (ty_56 hS.1.1) ?_
  refine Tr.tp 63 (fx_56_8 hS.1.1) ?_
  refine Tr.getf (pc := 11) d_X1_fallAsleep_11 f_1_78 (by decide) (by decide) (ty_63 hS.1.1) ?_
  refine Tr.tp 69 (fx_63_6 hS.1.1) ?_
  refine Tr.iload_n (pc := 14) (i := 1) d_X1_fallAsleep_14 rfl rfl ?_
  refine Tr.iald (pc := 15) d_X1_fallAsleep_15 (ty_69 hS.1.1) (by omega) (by omega) ?_
  refine Tr.gen (P := fun v => (-2147483648) ≤ v ∧ v ≤ 2147483647) (ar_69 hS.1.2.1 _) (fun r15 er15 br15 => ?_)
  refine Tr.if_lt (pc := 16) (tgt := 75) d_X1_fallAsleep_16 rfl (fun c16 => ?_) (fun c16 => ?_)
  · exact Tr.vret (pc := 75) d_X1_fallAsleep_75 rfl ⟨hS, rfl⟩
  · refine Tr.aload_n (pc := 19) (i := 0) d_X1_fallAsleep_19 rfl rfl ?_
    refine Tr.getf (pc := 20) d_X1_fallAsleep_20 f_1_15 (by decide) (by decide) (ty_56 hS.1.1) ?_
    refine Tr.tp 58 (fx_56_3 hS.1.1) ?_
    refine Tr.iload_n (pc := 23) (i := 1) d_X1_fallAsleep_23 rfl rfl ?_
    refine Tr.iald (pc := 24) d_X1_fallAsleep_24 (ty_58 hS.1.1) (by omega) (by omega) ?_
    refine Tr.gen (P := fun v => (-1) ≤ v ∧ v ≤ 59) (ar_58 hS.1.2.1 _) (fun r24 er24 br24 => ?_)
    refine Tr.if_lt (pc := 25) (tgt := 75) d_X1_fallAsleep_25 rfl (fun c25 => ?_) (fun c25 => ?_)
    · exact Tr.vret (pc := 75) d_X1_fallAsleep_75 rfl ⟨hS, rfl⟩
    · refine Tr.aload_n (pc := 28) (i := 0) d_X1_fallAsleep_28 rfl rfl ?_
      refine Tr.getf (pc := 29) d_X1_fallAsleep_29 f_1_27 (by decide) (by decide) (ty_56 hS.1.1) ?_
      refine Tr.tp 62 (fx_56_7 hS.1.1) ?_
      refine Tr.aload_n (pc := 32) (i := 0) d_X1_fallAsleep_32 rfl rfl ?_
      refine Tr.getf (pc := 33) d_X1_fallAsleep_33 f_1_15 (by decide) (by decide) (ty_56 hS.1.1) ?_
      refine Tr.tp 58 (fx_56_3 hS.1.1) ?_
      refine Tr.iload_n (pc := 36) (i := 1) d_X1_fallAsleep_36 rfl rfl ?_
      refine Tr.iald (pc := 37) d_X1_fallAsleep_37 (ty_58 hS.1.1) (by omega) (by omega) ?_
      refine Tr.tp r24 er24 ?_
      refine Tr.dup2 (pc := 38) d_X1_fallAsleep_38 ne01 ne21 ?_
      refine Tr.iald (pc := 39) d_X1_fallAsleep_39 (ty_62 hS.1.1) (by omega) (by omega) ?_
      refine Tr.gen (P := fun v => (-2147483648) ≤ v ∧ v ≤ 2147483647) (ar_62 hS.1.2.1 _) (fun r39 er39 br39 => ?_)
      refine Tr.aload_n (pc := 40) (i := 0) d_X1_fallAsleep_40 rfl rfl ?_
      refine Tr.getf (pc := 41) d_X1_fallAsleep_41 f_1_41 (by decide) (by decide) (ty_56 hS.1.1) ?_
      refine Tr.tp 7 ((St.kp hS (by decide) (by decide) (by decide)).trans en_56_1) ?_
      refine Tr.getf (pc := 44) d_X1_fallAsleep_44 f_1_81 (by decide) (by decide) (ty_7 hS.1.1) ?_
      refine Tr.tp 11 (fx_7_7 hS.1.1) ?_
      refine Tr.iload_n (pc := 47) (i := 1) d_X1_fallAsleep_47 rfl rfl ?_
      refine Tr.iald (pc := 48) d_X1_fallAsleep_48 (ty_11 hS.1.1) (by omega) (by omega) ?_
      refine Tr.gen (P := fun v => 0 ≤ v ∧ v ≤ 50) (ar_11 hS.1.2.1 _) (fun r48 er48 br48 => ?_)
      refine Tr.aload_n (pc := 49) (i := 0) d_X1_fallAsleep_49 rfl rfl ?_
      refine Tr.getf (pc := 50) d_X1_fallAsleep_50 f_1_41 (by decide) (by decide) (ty_56 hS.1.1) ?_
      refine Tr.tp 7 ((St.kp hS (by decide) (by decide) (by decide)).trans en_56_1) ?_
      refine Tr.getf (pc := 53) d_X1_fallAsleep_53 f_1_71 (by decide) (by decide) (ty_7 hS.1.1) ?_
      refine Tr.tp 9 (fx_7_5 hS.1.1) ?_
      refine Tr.iload_n (pc := 56) (i := 1) d_X1_fallAsleep_56 rfl rfl ?_
      refine Tr.iconst (pc := 57) d_X1_fallAsleep_57 (by decide) ?_
      refine Tr.imul (pc := 58) d_X1_fallAsleep_58 ?_
      refine Tr.tp (4 * a1) ((w32_id (by omega)).trans (by omega)) ?_
      refine Tr.iconst (pc := 59) d_X1_fallAsleep_59 (by decide) ?_
      refine Tr.iadd (pc := 60) d_X1_fallAsleep_60 ?_
      refine Tr.tp (4 * a1 + 2) ((w32_id (by omega)).trans (by omega)) ?_
      refine Tr.iald (pc := 61) d_X1_fallAsleep_61 (ty_9 hS.1.1) (by omega) (by omega) ?_
      refine Tr.gen (P := fun v => (-1) ≤ v ∧ v ≤ 999) (ar_9 hS.1.2.1 _) (fun r61 er61 br61 => ?_)
      refine Tr.imul (pc := 62) d_X1_fallAsleep_62 ?_
      refine Tr.gen (P := fun v => (-2147483648) ≤ v ∧ v ≤ 2147483647) (w32_b _) (fun r62 er62 br62 => ?_)
      refine Tr.iadd (pc := 63) d_X1_fallAsleep_63 ?_
      refine Tr.gen (P := fun v => (-2147483648) ≤ v ∧ v ≤ 2147483647) (w32_b _) (fun r63 er63 br63 => ?_)
      refine Tr.iastS (pc := 64) (P := St Rn ws_X1_fallAsleep_56 as_X1_fallAsleep_56 M0) d_X1_fallAsleep_64 (ty_62 hS.1.1) (by omega) (by omega) (sa_62 hS (by decide) (by omega) (Rn.of hS.1.2.2.2.2 (fun _ => rd_wb _ rfl) (rd_wb _ rfl))) (fun M64 hS w64 => ?_)
      refine Tr.aload_n (pc := 65) (i := 0) d_X1_fallAsleep_65 rfl rfl ?_
      refine Tr.getf (pc := 66) d_X1_fallAsleep_66 f_1_33 (by decide) (by decide) (ty_56 hS.1.1) ?_
      refine Tr.tp 63 (fx_56_8 hS.1.1) ?_
      refine Tr.getf (pc := 69) d_X1_fallAsleep_69 f_1_78 (by decide) (by decide) (ty_63 hS.1.1) ?_
      refine Tr.tp 69 (fx_63_6 hS.1.1) ?_
      refine Tr.iload_n (pc := 72) (i := 1) d_X1_fallAsleep_72 rfl rfl ?_
      refine Tr.iconst (pc := 73) d_X1_fallAsleep_73 (by decide) ?_
      refine Tr.iastS (pc := 74) (P := St Rn ws_X1_fallAsleep_56 as_X1_fallAsleep_56 M0) d_X1_fallAsleep_74 (ty_69 hS.1.1) (by omega) (by omega) (sa_69 hS (by decide) (by omega) (Rn.run hS.1.2.2.2.2 (by have h8 := tl_n hS rfl; omega))) (fun M74 hS w74 => ?_)
      exact Tr.vret (pc := 75) d_X1_fallAsleep_75 rfl ⟨hS, rfl⟩

def ws_X1_note_56_w1 : List (Int × Int) := []
def as_X1_note_56_w1 : List Int := [57, 62, 69]
def q_X1_note_56_w1 (M0 M' : Mem) (r : Option PV) : Prop := St Rn ws_X1_note_56_w1 as_X1_note_56_w1 M0 M' ∧ r = none
set_option maxRecDepth 100000 in
set_option maxHeartbeats 4000000 in
theorem sp_X1_note_56_w1 {l : Launch} {K : EC} {M0 : Mem} (hI : In Rn M0) (en_56_1 : rd M0 56 1 = 7) (a1 : Int) (ha1 : 0 ≤ a1 ∧ a1 ≤ 5) (a2 : Int) (ha2 : 0 ≤ a2 ∧ a2 ≤ 0) (a3 : Int) (ha3 : (-2147483648) ≤ a3 ∧ a3 ≤ 2147483647) (a4 : Int) (ha4 : (-2147483648) ≤ a4 ∧ a4 ≤ 2147483647)  : Tr l K 1 mX1_note 0 [(0, (2, 56)), (1, (0, a1)), (2, (0, a2)), (3, (0, a3)), (4, (0, a4))] [] M0 (q_X1_note_56_w1 M0) := by
  have hS : St Rn ws_X1_note_56_w1 as_X1_note_56_w1 M0 M0 := St.rf hI
  refine Tr.iload_n (pc := 0) (i := 3) d_X1_note_0 rfl rfl ?_
  refine Tr.iload (pc := 1) (i := 4) d_X1_note_1 rfl ?_
  refine Tr.icmp_lt (pc := 3) (tgt := 7) d_X1_note_3 rfl (fun c3 => ?_) (fun c3 => ?_)
  · refine Tr.aload_n (pc := 7) (i := 0) d_X1_note_7 rfl rfl ?_
    refine Tr.getf (pc := 8) d_X1_note_8 f_1_9 (by decide) (by decide) (ty_56 hS.1.1) ?_
    refine Tr.tp 57 (fx_56_2 hS.1.1) ?_
    refine Tr.iload_n (pc := 11) (i := 1) d_X1_note_11 rfl rfl ?_
    refine Tr.iconst (pc := 12) d_X1_note_12 (by decide) ?_
    refine Tr.imul (pc := 13) d_X1_note_13 ?_
    refine Tr.tp (4 * a1) ((w32_id (by omega)).trans (by omega)) ?_
    refine Tr.iload_n (pc := 14) (i := 2) d_X1_note_14 rfl rfl ?_
    refine Tr.tp 0 (by omega) ?_
    refine Tr.iadd (pc := 15) d_X1_note_15 ?_
    refine Tr.tp (4 * a1) ((w32_id (by omega)).trans (by omega)) ?_
    refine Tr.dup2 (pc := 16) d_X1_note_16 ne01 ne21 ?_
    refine Tr.iald (pc := 17) d_X1_note_17 (ty_57 hS.1.1) (by omega) (by omega) ?_
    refine Tr.gen (P := fun v => (-2147483648) ≤ v ∧ v ≤ 2147483647) (ar_57 hS.1.2.1 _) (fun r17 er17 br17 => ?_)
    refine Tr.iload (pc := 18) (i := 4) d_X1_note_18 rfl ?_
    refine Tr.iload_n (pc := 20) (i := 3) d_X1_note_20 rfl rfl ?_
    refine Tr.isub (pc := 21) d_X1_note_21 ?_
    refine Tr.gen (P := fun v => (-2147483648) ≤ v ∧ v ≤ 2147483647) (w32_b _) (fun r21 er21 br21 => ?_)
    refine Tr.iadd (pc := 22) d_X1_note_22 ?_
    refine Tr.gen (P := fun v => (-2147483648) ≤ v ∧ v ≤ 2147483647) (w32_b _) (fun r22 er22 br22 => ?_)
    refine Tr.iastS (pc := 23) (P := St Rn ws_X1_note_56_w1 as_X1_note_56_w1 M0) d_X1_note_23 (ty_57 hS.1.1) (by omega) (by omega) (sa_57 hS (by decide) (by omega) (Rn.of hS.1.2.2.2.2 (fun _ => rd_wb _ rfl) (rd_wb _ rfl))) (fun M23 hS w23 => ?_)
    refine Tr.aload_n (pc := 24) (i := 0) d_X1_note_24 rfl rfl ?_
    refine Tr.getz (pc := 25) d_X1_note_25 f_1_37 (by decide) (ty_56 hS.1.1) ?_
    refine Tr.tp 1 (fx_56_0 hS.1.1) ?_
    refine Tr.if_ne (pc := 28) (tgt := 32) d_X1_note_28 rfl (fun _ => ?_) (fun hc => absurd hc (by omega))
    refine Tr.aload_n (pc := 32) (i := 0) d_X1_note_32 rfl rfl ?_
    refine Tr.getf (pc := 33) d_X1_note_33 f_1_15 (by decide) (by decide) (ty_56 hS.1.1) ?_
    refine Tr.tp 58 (fx_56_3 hS.1.1) ?_
    refine Tr.iload_n (pc := 36) (i := 1) d_X1_note_36 rfl rfl ?_
    refine Tr.iald (pc := 37) d_X1_note_37 (ty_58 hS.1.1) (by omega) (by omega) ?_
    refine Tr.gen (P := fun v => (-1) ≤ v ∧ v ≤ 59) (ar_58 hS.1.2.1 _) (fun r37 er37 br37 => ?_)
    refine Tr.istore (pc := 38) (i := 5) (ls2 := [(5, (0, r37)), (0, (2, 56)), (1, (0, a1)), (2, (0, a2)), (3, (0, a3)), (4, (0, a4))]) d_X1_note_38 (by decide) rfl ?_
    refine Tr.iload_n (pc := 40) (i := 2) d_X1_note_40 rfl rfl ?_
    refine Tr.tp 0 (by omega) ?_
    refine Tr.if_ne (pc := 41) (tgt := 52) d_X1_note_41 rfl (fun hc => absurd (by omega) hc) (fun _ => ?_)
    refine Tr.aload_n (pc := 44) (i := 0) d_X1_note_44 rfl rfl ?_
    refine Tr.iload_n (pc := 45) (i := 1) d_X1_note_45 rfl rfl ?_
    refine Tr.callV (pc := 46) (as := [_]) d_X1_note_46 s_1_67 ok_X1_fallAsleep rfl rfl (Nat.le_of_ble_eq_true rfl) (Nat.le_of_ble_eq_true rfl) (by decide) (ty_56 hS.1.1) ?_
    refine Tr.imp (Tr.deep (by decide) (sp_X1_fallAsleep_56 hS.1 ((St.kp hS (by decide) (by decide) (by decide)).trans en_56_1) a1 (by omega))) ?_
    rintro M46 _ ⟨h46, rfl⟩
    have hS := St.tr hS h46 (by decide) (by decide)
    refine Tr.sc [] rfl ?_
    refine Tr.goto (pc := 49) (tgt := 142) d_X1_note_49 rfl ?_
    exact Tr.vret (pc := 142) d_X1_note_142 rfl ⟨hS, rfl⟩
  · exact Tr.vret (pc := 6) d_X1_note_6 rfl ⟨hS, rfl⟩

def ws_X6_settle_48 : List (Int × Int) := [(63, 0)]
def as_X6_settle_48 : List Int := [55, 57, 60, 61, 62, 69, 191]
def q_X6_settle_48 (M0 M' : Mem) (r : Option PV) : Prop := St Rn ws_X6_settle_48 as_X6_settle_48 M0 M' ∧ r = none
set_option maxRecDepth 100000 in
set_option maxHeartbeats 4000000 in
theorem sp_X6_settle_48 {l : Launch} {K : EC} {M0 : Mem} (hI : In Rn M0) (en_56_1 : rd M0 56 1 = 7) (a1 : Int) (ha1 : 0 ≤ a1 ∧ a1 ≤ 5) (a2 : Int) (ha2 : (-2147483648) ≤ a2 ∧ a2 ≤ 2147483647)  : Tr l K 2 mX6_settle 0 [(0, (2, 48)), (1, (0, a1)), (2, (0, a2))] [] M0 (q_X6_settle_48 M0) := by
  have hS : St Rn ws_X6_settle_48 as_X6_settle_48 M0 M0 := St.rf hI
  refine Tr.aload_n (pc := 0) (i := 0) d_X6_settle_0 rfl rfl ?_
  refine Tr.getf (pc := 1) d_X6_settle_1 f_6_30 (by decide) (by decide) (ty_48 hS.1.1) ?_
  refine Tr.tp 55 (fx_48_8 hS.1.1) ?_
  refine Tr.iload_n (pc := 4) (i := 1) d_X6_settle_4 rfl rfl ?_
  refine Tr.iald (pc := 5) d_X6_settle_5 (ty_55 hS.1.1) (by omega) (by omega) ?_
  refine Tr.gen (P := fun v => (-2147483648) ≤ v ∧ v ≤ 2147483647) (ar_55 hS.1.2.1 _) (fun r5 er5 br5 => ?_)
  refine Tr.istore_n (pc := 6) (i := 3) (ls2 := [(3, (0, r5)), (0, (2, 48)), (1, (0, a1)), (2, (0, a2))]) d_X6_settle_6 rfl (by decide) rfl ?_
  refine Tr.aload_n (pc := 7) (i := 0) d_X6_settle_7 rfl rfl ?_
  refine Tr.getf (pc := 8) d_X6_settle_8 f_6_24 (by decide) (by decide) (ty_48 hS.1.1) ?_
  refine Tr.tp 53 (fx_48_6 hS.1.1) ?_
  refine Tr.iload_n (pc := 11) (i := 1) d_X6_settle_11 rfl rfl ?_
  refine Tr.iald (pc := 12) d_X6_settle_12 (ty_53 hS.1.1) (by omega) (by omega) ?_
  refine Tr.gen (P := fun v => 0 ≤ v ∧ v ≤ 1) (ar_53 hS.1.2.1 _) (fun r12 er12 br12 => ?_)
  refine Tr.iconst (pc := 13) d_X6_settle_13 (by decide) ?_
  have J35 : ∀ (M : Mem) (q35_0 : Int), St Rn ws_X6_settle_48 as_X6_settle_48 M0 M → ((-2147483648) ≤ q35_0 ∧ q35_0 ≤ 2147483647) → rd M 53 a1 = r12 → rd M 55 a1 = r5 → Tr l K 2 mX6_settle 35 [(0, (2, 48)), (1, (0, a1)), (2, (0, a2)), (3, (0, r5))] [(0, q35_0)] M (q_X6_settle_48 M0) := by
    intro M q35_0 hS bq35_0 k35_53_a110 k35_55_a110
    refine Tr.istore (pc := 35) (i := 4) (ls2 := [(4, (0, q35_0)), (0, (2, 48)), (1, (0, a1)), (2, (0, a2)), (3, (0, r5))]) d_X6_settle_35 (by decide) rfl ?_
    refine Tr.aload_n (pc := 37) (i := 0) d_X6_settle_37 rfl rfl ?_
    refine Tr.getf (pc := 38) d_X6_settle_38 f_6_38 (by decide) (by decide) (ty_48 hS.1.1) ?_
    refine Tr.tp 56 (fx_48_0 hS.1.1) ?_
    refine Tr.iload_n (pc := 41) (i := 1) d_X6_settle_41 rfl rfl ?_
    refine Tr.iconst (pc := 42) d_X6_settle_42 (by decide) ?_
    refine Tr.iload_n (pc := 43) (i := 3) d_X6_settle_43 rfl rfl ?_
    refine Tr.iload (pc := 44) (i := 4) d_X6_settle_44 rfl ?_
    refine Tr.callV (pc := 46) (as := [_, _, _, _]) d_X6_settle_46 s_6_192 ok_X1_note rfl rfl (Nat.le_of_ble_eq_true rfl) (Nat.le_of_ble_eq_true rfl) (by decide) (ty_56 hS.1.1) ?_
    refine Tr.imp (Tr.deep (by decide) (sp_X1_note_56 hS.1 ((St.kp hS (by decide) (by decide) (by decide)).trans en_56_1) a1 (by omega) 2 (by omega) r5 (by omega) q35_0 (by omega))) ?_
    rintro M46 _ ⟨h46, rfl⟩
    have hS := St.tr hS h46 (by decide) (by decide)
    refine Tr.sc [] rfl ?_
    refine Tr.aload_n (pc := 49) (i := 0) d_X6_settle_49 rfl rfl ?_
    refine Tr.getf (pc := 50) d_X6_settle_50 f_6_38 (by decide) (by decide) (ty_48 hS.1.1) ?_
    refine Tr.tp 56 (fx_48_0 hS.1.1) ?_
    refine Tr.iload_n (pc := 53) (i := 1) d_X6_settle_53 rfl rfl ?_
    refine Tr.iconst (pc := 54) d_X6_settle_54 (by decide) ?_
    refine Tr.iload (pc := 55) (i := 4) d_X6_settle_55 rfl ?_
    refine Tr.iload_n (pc := 57) (i := 2) d_X6_settle_57 rfl rfl ?_
    refine Tr.callV (pc := 58) (as := [_, _, _, _]) d_X6_settle_58 s_6_192 ok_X1_note rfl rfl (Nat.le_of_ble_eq_true rfl) (Nat.le_of_ble_eq_true rfl) (by decide) (ty_56 hS.1.1) ?_
    refine Tr.imp (Tr.deep (by decide) (sp_X1_note_56_w1 hS.1 ((St.kp hS (by decide) (by decide) (by decide)).trans en_56_1) a1 (by omega) 0 (by omega) q35_0 (by omega) a2 (by omega))) ?_
    rintro M58 _ ⟨h58, rfl⟩
    have hS := St.tr hS h58 (by decide) (by decide)
    refine Tr.sc [] rfl ?_
    refine Tr.aload_n (pc := 61) (i := 0) d_X6_settle_61 rfl rfl ?_
    refine Tr.getf (pc := 62) d_X6_settle_62 f_6_30 (by decide) (by decide) (ty_48 hS.1.1) ?_
    refine Tr.tp 55 (fx_48_8 hS.1.1) ?_
    refine Tr.iload_n (pc := 65) (i := 1) d_X6_settle_65 rfl rfl ?_
    refine Tr.iload_n (pc := 66) (i := 2) d_X6_settle_66 rfl rfl ?_
    refine Tr.iastS (pc := 67) (P := St Rn ws_X6_settle_48 as_X6_settle_48 M0) d_X6_settle_67 (ty_55 hS.1.1) (by omega) (by omega) (sa_55 hS (by decide) (by omega) (Rn.of hS.1.2.2.2.2 (fun _ => rd_wb _ rfl) (rd_wb _ rfl))) (fun M67 hS w67 => ?_)
    exact Tr.vret (pc := 68) d_X6_settle_68 rfl ⟨hS, rfl⟩
  refine Tr.icmp_ne (pc := 14) (tgt := 21) d_X6_settle_14 rfl (fun c14 => ?_) (fun c14 => ?_)
  · refine Tr.aload_n (pc := 21) (i := 0) d_X6_settle_21 rfl rfl ?_
    refine Tr.getf (pc := 22) d_X6_settle_22 f_6_27 (by decide) (by decide) (ty_48 hS.1.1) ?_
    refine Tr.tp 54 (fx_48_7 hS.1.1) ?_
    refine Tr.iload_n (pc := 25) (i := 1) d_X6_settle_25 rfl rfl ?_
    refine Tr.iald (pc := 26) d_X6_settle_26 (ty_54 hS.1.1) (by omega) (by omega) ?_
    refine Tr.gen (P := fun v => (-2147483648) ≤ v ∧ v ≤ 2147483647) (ar_54 hS.1.2.1 _) (fun r26 er26 br26 => ?_)
    refine Tr.iload_n (pc := 27) (i := 3) d_X6_settle_27 rfl rfl ?_
    refine Tr.mmax (pc := 28) d_X6_settle_28 ml_6_119 mw_mmax (Nat.le_of_ble_eq_true rfl) ?_
    refine Tr.gen (P := fun v => (v = r26 ∧ r5 ≤ r26) ∨ (v = r5 ∧ r26 ≤ r5)) (f_max_p _ _) (fun r28 er28 br28 => ?_)
    refine Tr.iload_n (pc := 31) (i := 2) d_X6_settle_31 rfl rfl ?_
    refine Tr.mmin (pc := 32) d_X6_settle_32 ml_6_158 mw_mmin (Nat.le_of_ble_eq_true rfl) ?_
    refine Tr.gen (P := fun v => (v = r28 ∧ r28 ≤ a2) ∨ (v = a2 ∧ a2 ≤ r28)) (f_min_p _ _) (fun r32 er32 br32 => ?_)
    refine Tr.pick [1, 2, 3, 0] (ls2 := [(0, (2, 48)), (1, (0, a1)), (2, (0, a2)), (3, (0, r5))]) rfl ?_
    exact J35 _ _ hS (by omega) er12 er5
  · refine Tr.iload_n (pc := 17) (i := 2) d_X6_settle_17 rfl rfl ?_
    refine Tr.goto (pc := 18) (tgt := 35) d_X6_settle_18 rfl ?_
    refine Tr.pick [1, 2, 3, 0] (ls2 := [(0, (2, 48)), (1, (0, a1)), (2, (0, a2)), (3, (0, r5))]) rfl ?_
    exact J35 _ _ hS (by omega) er12 er5

def ws_X8_coverTo_63 : List (Int × Int) := []
def as_X8_coverTo_63 : List Int := [191]
def q_X8_coverTo_63 (M0 M' : Mem) (r : Option PV) : Prop := St Tru ws_X8_coverTo_63 as_X8_coverTo_63 M0 M' ∧ r = none
set_option maxRecDepth 100000 in
set_option maxHeartbeats 4000000 in
theorem sp_X8_coverTo_63 {l : Launch} {K : EC} {M0 : Mem} (hI : In Tru M0)  (a1 : Int) (ha1 : (-2147483648) ≤ a1 ∧ a1 ≤ 2147483647) (a2 : Int) (ha2 : (-2147483648) ≤ a2 ∧ a2 ≤ 2147483647)  : Tr l K 0 mX8_coverTo 0 [(0, (2, 63)), (1, (0, a1)), (2, (0, a2))] [] M0 (q_X8_coverTo_63 M0) := by
  have hS : St Tru ws_X8_coverTo_63 as_X8_coverTo_63 M0 M0 := St.rf hI
  obtain ⟨g63_1, eg63_1⟩ : ∃ v, rd M0 63 1 = v := ⟨_, rfl⟩
  have bg63_1 : (-1000000000) ≤ g63_1 ∧ g63_1 ≤ 1000000000 := by rw [← eg63_1]; exact ir_63_1 hI.2.1
  obtain ⟨g63_7, eg63_7⟩ : ∃ v, rd M0 63 7 = v := ⟨_, rfl⟩
  have bg63_7 : (-2147483648) ≤ g63_7 ∧ g63_7 ≤ 2147483647 := by rw [← eg63_7]; exact ir_63_7 hI.2.1
  refine Tr.iload_n (pc := 0) (i := 1) d_X8_coverTo_0 rfl rfl ?_
  refine Tr.if_lt (pc := 1) (tgt := 19) d_X8_coverTo_1 rfl (fun c1 => ?_) (fun c1 => ?_)
  · exact Tr.vret (pc := 19) d_X8_coverTo_19 rfl ⟨hS, rfl⟩
  · refine Tr.iload_n (pc := 4) (i := 1) d_X8_coverTo_4 rfl rfl ?_
    refine Tr.aload_n (pc := 5) (i := 0) d_X8_coverTo_5 rfl rfl ?_
    refine Tr.getf (pc := 6) d_X8_coverTo_6 f_8_47 (by decide) (by decide) (ty_63 hS.1.1) ?_
    refine Tr.tp g63_7 eg63_7 ?_
    refine Tr.icmp_ge (pc := 9) (tgt := 19) d_X8_coverTo_9 rfl (fun c9 => ?_) (fun c9 => ?_)
    · exact Tr.vret (pc := 19) d_X8_coverTo_19 rfl ⟨hS, rfl⟩
    · refine Tr.aload_n (pc := 12) (i := 0) d_X8_coverTo_12 rfl rfl ?_
      refine Tr.getf (pc := 13) d_X8_coverTo_13 f_8_40 (by decide) (by decide) (ty_63 hS.1.1) ?_
      refine Tr.gen (P := fun v => v = tref g63_1 11) (tl_ref hS eg63_1 (by decide)) (fun t13 et13 bt13 => ?_)
      refine Tr.iload_n (pc := 16) (i := 1) d_X8_coverTo_16 rfl rfl ?_
      refine Tr.iload_n (pc := 17) (i := 2) d_X8_coverTo_17 rfl rfl ?_
      have nk18_7 : rd M0 63 7 = g63_7 := eg63_7
      have nn18 := tl_n hS eg63_1
      have nh18 := tl_hi hS eg63_1 (j := 11) (by decide) bt13 (i := a1) (by omega) (by omega)
      refine Tr.iastS (pc := 18) (P := St Tru ws_X8_coverTo_63 as_X8_coverTo_63 M0) d_X8_coverTo_18 (tl_tyI hS eg63_1 (j := 11) (by decide) (by decide) bt13) (by omega) (by omega) (tl_wr hS (by decide) eg63_1 (j := 11) (by decide) bt13 (by omega) (by omega) (by have hb := (show tlo 11 = (-2147483648) ∧ thi 11 = 2147483647 by decide); omega) trivial) (fun M18 hS w18 => ?_)
      exact Tr.vret (pc := 19) d_X8_coverTo_19 rfl ⟨hS, rfl⟩

def ws_X1_letGo_56 : List (Int × Int) := []
def as_X1_letGo_56 : List Int := [191]
def q_X1_letGo_56 (M0 M' : Mem) (r : Option PV) : Prop := St Tru ws_X1_letGo_56 as_X1_letGo_56 M0 M' ∧ r = none
set_option maxRecDepth 100000 in
set_option maxHeartbeats 4000000 in
theorem sp_X1_letGo_56 {l : Launch} {K : EC} {M0 : Mem} (hI : In Tru M0)  (a1 : Int) (ha1 : 0 ≤ a1 ∧ a1 ≤ 5) (a2 : Int) (ha2 : (-2147483648) ≤ a2 ∧ a2 ≤ 2147483647)  : Tr l K 1 mX1_letGo 0 [(0, (2, 56)), (1, (0, a1)), (2, (0, a2))] [] M0 (q_X1_letGo_56 M0) := by
  have hS : St Tru ws_X1_letGo_56 as_X1_letGo_56 M0 M0 := St.rf hI
  refine Tr.aload_n (pc := 0) (i := 0) d_X1_letGo_0 rfl rfl ?_
  refine Tr.getz (pc := 1) d_X1_letGo_1 f_1_37 (by decide) (ty_56 hS.1.1) ?_
  refine Tr.tp 1 (fx_56_0 hS.1.1) ?_
  refine Tr.if_eq (pc := 4) (tgt := 21) d_X1_letGo_4 rfl (fun hc => absurd hc (by omega)) (fun _ => ?_)
  refine Tr.aload_n (pc := 7) (i := 0) d_X1_letGo_7 rfl rfl ?_
  refine Tr.getf (pc := 8) d_X1_letGo_8 f_1_33 (by decide) (by decide) (ty_56 hS.1.1) ?_
  refine Tr.tp 63 (fx_56_8 hS.1.1) ?_
  refine Tr.aload_n (pc := 11) (i := 0) d_X1_letGo_11 rfl rfl ?_
  refine Tr.getf (pc := 12) d_X1_letGo_12 f_1_18 (by decide) (by decide) (ty_56 hS.1.1) ?_
  refine Tr.tp 59 (fx_56_4 hS.1.1) ?_
  refine Tr.iload_n (pc := 15) (i := 1) d_X1_letGo_15 rfl rfl ?_
  refine Tr.iald (pc := 16) d_X1_letGo_16 (ty_59 hS.1.1) (by omega) (by omega) ?_
  refine Tr.gen (P := fun v => (-2147483648) ≤ v ∧ v ≤ 2147483647) (ar_59 hS.1.2.1 _) (fun r16 er16 br16 => ?_)
  refine Tr.iload_n (pc := 17) (i := 2) d_X1_letGo_17 rfl rfl ?_
  refine Tr.callV (pc := 18) (as := [_, _]) d_X1_letGo_18 s_1_88 ok_X8_coverTo rfl rfl (Nat.le_of_ble_eq_true rfl) (Nat.le_of_ble_eq_true rfl) (by decide) (ty_63 hS.1.1) ?_
  refine Tr.imp (Tr.deep (by decide) (sp_X8_coverTo_63 hS.1 r16 (by omega) a2 (by omega))) ?_
  rintro M18 _ ⟨h18, rfl⟩
  have hS := St.tr hS h18 (by decide) (by decide)
  refine Tr.sc [] rfl ?_
  exact Tr.vret (pc := 21) d_X1_letGo_21 rfl ⟨hS, rfl⟩

def ws_X6_wakeOf_48 : List (Int × Int) := []
def as_X6_wakeOf_48 : List Int := []
def q_X6_wakeOf_48 (M0 M' : Mem) (r : Option PV) : Prop := St Tru ws_X6_wakeOf_48 as_X6_wakeOf_48 M0 M' ∧ ∃ v : Int, r = some (0, v) ∧ (-1) ≤ v ∧ v ≤ 20
set_option maxRecDepth 100000 in
set_option maxHeartbeats 4000000 in
theorem sp_X6_wakeOf_48 {l : Launch} {K : EC} {M0 : Mem} (hI : In Tru M0) (en_48_1 : rd M0 48 1 = 7) (a1 : Int) (ha1 : 0 ≤ a1 ∧ a1 ≤ 5)  : Tr l K 0 mX6_wakeOf 0 [(0, (2, 48)), (1, (0, a1))] [] M0 (q_X6_wakeOf_48 M0) := by
  have hS : St Tru ws_X6_wakeOf_48 as_X6_wakeOf_48 M0 M0 := St.rf hI
  refine Tr.aload_n (pc := 0) (i := 0) d_X6_wakeOf_0 rfl rfl ?_
  refine Tr.getf (pc := 1) d_X6_wakeOf_1 f_6_24 (by decide) (by decide) (ty_48 hS.1.1) ?_
  refine Tr.tp 53 (fx_48_6 hS.1.1) ?_
  refine Tr.iload_n (pc := 4) (i := 1) d_X6_wakeOf_4 rfl rfl ?_
  refine Tr.iald (pc := 5) d_X6_wakeOf_5 (ty_53 hS.1.1) (by omega) (by omega) ?_
  refine Tr.gen (P := fun v => 0 ≤ v ∧ v ≤ 1) (ar_53 hS.1.2.1 _) (fun r5 er5 br5 => ?_)
  refine Tr.if_ne (pc := 6) (tgt := 34) d_X6_wakeOf_6 rfl (fun c6 => ?_) (fun c6 => ?_)
  · refine Tr.iconst (pc := 34) d_X6_wakeOf_34 (by decide) ?_
    exact Tr.iret (pc := 35) d_X6_wakeOf_35 rfl ⟨hS, _, rfl, by omega, by omega⟩
  · refine Tr.aload_n (pc := 9) (i := 0) d_X6_wakeOf_9 rfl rfl ?_
    refine Tr.getf (pc := 10) d_X6_wakeOf_10 f_6_27 (by decide) (by decide) (ty_48 hS.1.1) ?_
    refine Tr.tp 54 (fx_48_7 hS.1.1) ?_
    refine Tr.iload_n (pc := 13) (i := 1) d_X6_wakeOf_13 rfl rfl ?_
    refine Tr.iald (pc := 14) d_X6_wakeOf_14 (ty_54 hS.1.1) (by omega) (by omega) ?_
    refine Tr.gen (P := fun v => (-2147483648) ≤ v ∧ v ≤ 2147483647) (ar_54 hS.1.2.1 _) (fun r14 er14 br14 => ?_)
    refine Tr.aload_n (pc := 15) (i := 0) d_X6_wakeOf_15 rfl rfl ?_
    refine Tr.getf (pc := 16) d_X6_wakeOf_16 f_6_68 (by decide) (by decide) (ty_48 hS.1.1) ?_
    refine Tr.gen (P := fun v => (-2147483648) ≤ v ∧ v ≤ 2147483647) (ir_48_9 hS.1.2.1) (fun r16 er16 br16 => ?_)
    refine Tr.icmp_gt (pc := 19) (tgt := 34) d_X6_wakeOf_19 rfl (fun c19 => ?_) (fun c19 => ?_)
    · refine Tr.iconst (pc := 34) d_X6_wakeOf_34 (by decide) ?_
      exact Tr.iret (pc := 35) d_X6_wakeOf_35 rfl ⟨hS, _, rfl, by omega, by omega⟩
    · refine Tr.aload_n (pc := 22) (i := 0) d_X6_wakeOf_22 rfl rfl ?_
      refine Tr.getf (pc := 23) d_X6_wakeOf_23 f_6_46 (by decide) (by decide) (ty_48 hS.1.1) ?_
      refine Tr.tp 7 ((St.kp hS (by decide) (by decide) (by decide)).trans en_48_1) ?_
      refine Tr.getf (pc := 26) d_X6_wakeOf_26 f_6_196 (by decide) (by decide) (ty_7 hS.1.1) ?_
      refine Tr.tp 10 (fx_7_6 hS.1.1) ?_
      refine Tr.iload_n (pc := 29) (i := 1) d_X6_wakeOf_29 rfl rfl ?_
      refine Tr.iald (pc := 30) d_X6_wakeOf_30 (ty_10 hS.1.1) (by omega) (by omega) ?_
      refine Tr.gen (P := fun v => (-1) ≤ v ∧ v ≤ 20) (ar_10 hS.1.2.1 _) (fun r30 er30 br30 => ?_)
      refine Tr.goto (pc := 31) (tgt := 35) d_X6_wakeOf_31 rfl ?_
      exact Tr.iret (pc := 35) d_X6_wakeOf_35 rfl ⟨hS, _, rfl, by omega, by omega⟩

def ws_X6_sipsAt_48_w1 : List (Int × Int) := []
def as_X6_sipsAt_48_w1 : List Int := []
def q_X6_sipsAt_48_w1 (M0 M' : Mem) (r : Option PV) : Prop := St Tru ws_X6_sipsAt_48_w1 as_X6_sipsAt_48_w1 M0 M' ∧ ∃ v : Int, r = some (0, v) ∧ (-2147483648) ≤ v ∧ v ≤ 2147483647
set_option maxRecDepth 100000 in
set_option maxHeartbeats 4000000 in
theorem sp_X6_sipsAt_48_w1 {l : Launch} {K : EC} {M0 : Mem} (hI : In Tru M0) (en_48_1 : rd M0 48 1 = 7) (a1 : Int) (ha1 : (-2147483648) ≤ a1 ∧ a1 ≤ 2147483647) (a2 : Int) (ha2 : 0 ≤ a2 ∧ a2 ≤ 5) (a3 : Int) (ha3 : 1 ≤ a3 ∧ a3 ≤ 1)  : Tr l K 0 mX6_sipsAt 0 [(0, (2, 48)), (1, (0, a1)), (2, (0, a2)), (3, (0, a3))] [] M0 (q_X6_sipsAt_48_w1 M0) := by
  have hS : St Tru ws_X6_sipsAt_48_w1 as_X6_sipsAt_48_w1 M0 M0 := St.rf hI
  refine Tr.aload_n (pc := 0) (i := 0) d_X6_sipsAt_0 rfl rfl ?_
  refine Tr.getf (pc := 1) d_X6_sipsAt_1 f_6_46 (by decide) (by decide) (ty_48 hS.1.1) ?_
  refine Tr.tp 7 ((St.kp hS (by decide) (by decide) (by decide)).trans en_48_1) ?_
  refine Tr.getf (pc := 4) d_X6_sipsAt_4 f_6_135 (by decide) (by decide) (ty_7 hS.1.1) ?_
  refine Tr.gen (P := fun v => (-1) ≤ v ∧ v ≤ 999) (ir_7_0 hS.1.2.1) (fun r4 er4 br4 => ?_)
  refine Tr.istore (pc := 7) (i := 4) (ls2 := [(4, (0, r4)), (0, (2, 48)), (1, (0, a1)), (2, (0, a2)), (3, (0, a3))]) d_X6_sipsAt_7 (by decide) rfl ?_
  refine Tr.iconst (pc := 9) d_X6_sipsAt_9 (by decide) ?_
  refine Tr.istore (pc := 10) (i := 5) (ls2 := [(5, (0, 0)), (4, (0, r4)), (0, (2, 48)), (1, (0, a1)), (2, (0, a2)), (3, (0, a3))]) d_X6_sipsAt_10 (by decide) rfl ?_
  have J12 : ∀ (n12 : Nat) (M : Mem) (p12_4 p12_5 : Int), St Tru ws_X6_sipsAt_48_w1 as_X6_sipsAt_48_w1 M0 M → ((-2147483648) ≤ p12_4 ∧ p12_4 ≤ 2147483647) → (0 ≤ p12_5 ∧ p12_5 ≤ 6) → rd M 7 0 = r4 → (6 - p12_5).toNat < n12 → Tr l K 0 mX6_sipsAt 12 [(0, (2, 48)), (1, (0, a1)), (2, (0, a2)), (3, (0, a3)), (4, (0, p12_4)), (5, (0, p12_5))] [] M (q_X6_sipsAt_48_w1 M0) := by
    intro n12
    induction n12 with
    | zero => intro M p12_4 p12_5 hS bp12_4 bp12_5 k12_7_0 hm12; exact absurd hm12 (Nat.not_lt_zero _)
    | succ n12 J12 =>
      intro M p12_4 p12_5 hS bp12_4 bp12_5 k12_7_0 hm12
      refine Tr.iload (pc := 12) (i := 5) d_X6_sipsAt_12 rfl ?_
      refine Tr.aload_n (pc := 14) (i := 0) d_X6_sipsAt_14 rfl rfl ?_
      refine Tr.getf (pc := 15) d_X6_sipsAt_15 f_6_46 (by decide) (by decide) (ty_48 hS.1.1) ?_
      refine Tr.tp 7 ((St.kp hS (by decide) (by decide) (by decide)).trans en_48_1) ?_
      refine Tr.getf (pc := 18) d_X6_sipsAt_18 f_6_116 (by decide) (by decide) (ty_7 hS.1.1) ?_
      refine Tr.tp 8 (fx_7_4 hS.1.1) ?_
      refine Tr.iconst (pc := 21) d_X6_sipsAt_21 (by decide) ?_
      refine Tr.iald (pc := 22) d_X6_sipsAt_22 (ty_8 hS.1.1) (by omega) (by omega) ?_
      refine Tr.gen (P := fun v => 0 ≤ v ∧ v ≤ 6) (ir_8_0 hS.1.2.1) (fun r22 er22 br22 => ?_)
      refine Tr.icmp_ge (pc := 23) (tgt := 91) d_X6_sipsAt_23 rfl (fun c23 => ?_) (fun c23 => ?_)
      · refine Tr.iload (pc := 91) (i := 4) d_X6_sipsAt_91 rfl ?_
        exact Tr.iret (pc := 93) d_X6_sipsAt_93 rfl ⟨hS, _, rfl, by omega, by omega⟩
      · refine Tr.aload_n (pc := 26) (i := 0) d_X6_sipsAt_26 rfl rfl ?_
        refine Tr.getf (pc := 27) d_X6_sipsAt_27 f_6_24 (by decide) (by decide) (ty_48 hS.1.1) ?_
        refine Tr.tp 53 (fx_48_6 hS.1.1) ?_
        refine Tr.iload (pc := 30) (i := 5) d_X6_sipsAt_30 rfl ?_
        refine Tr.iald (pc := 32) d_X6_sipsAt_32 (ty_53 hS.1.1) (by omega) (by omega) ?_
        refine Tr.gen (P := fun v => 0 ≤ v ∧ v ≤ 1) (ar_53 hS.1.2.1 _) (fun r32 er32 br32 => ?_)
        refine Tr.iconst (pc := 33) d_X6_sipsAt_33 (by decide) ?_
        have J53 : ∀ (M : Mem) (q53_0 : Int), St Tru ws_X6_sipsAt_48_w1 as_X6_sipsAt_48_w1 M0 M → (0 ≤ q53_0 ∧ q53_0 ≤ 2) → rd M 53 p12_5 = r32 → rd M 7 0 = r4 → rd M 8 0 = r22 → Tr l K 0 mX6_sipsAt 53 [(0, (2, 48)), (1, (0, a1)), (2, (0, a2)), (3, (0, a3)), (4, (0, p12_4)), (5, (0, p12_5))] [(0, q53_0)] M (q_X6_sipsAt_48_w1 M0) := by
          intro M q53_0 hS bq53_0 k53_53_p12_510 k53_7_0 k53_8_0
          refine Tr.istore (pc := 53) (i := 6) (ls2 := [(6, (0, q53_0)), (0, (2, 48)), (1, (0, a1)), (2, (0, a2)), (3, (0, a3)), (4, (0, p12_4)), (5, (0, p12_5))]) d_X6_sipsAt_53 (by decide) rfl ?_
          refine Tr.iload (pc := 55) (i := 4) d_X6_sipsAt_55 rfl ?_
          refine Tr.aload_n (pc := 57) (i := 0) d_X6_sipsAt_57 rfl rfl ?_
          refine Tr.getf (pc := 58) d_X6_sipsAt_58 f_6_46 (by decide) (by decide) (ty_48 hS.1.1) ?_
          refine Tr.tp 7 ((St.kp hS (by decide) (by decide) (by decide)).trans en_48_1) ?_
          refine Tr.getf (pc := 61) d_X6_sipsAt_61 f_6_189 (by decide) (by decide) (ty_7 hS.1.1) ?_
          refine Tr.tp 9 (fx_7_5 hS.1.1) ?_
          refine Tr.iload (pc := 64) (i := 5) d_X6_sipsAt_64 rfl ?_
          refine Tr.iconst (pc := 66) d_X6_sipsAt_66 (by decide) ?_
          refine Tr.imul (pc := 67) d_X6_sipsAt_67 ?_
          refine Tr.tp (4 * p12_5) ((w32_id (by omega)).trans (by omega)) ?_
          refine Tr.iload (pc := 68) (i := 5) d_X6_sipsAt_68 rfl ?_
          refine Tr.iload_n (pc := 70) (i := 2) d_X6_sipsAt_70 rfl rfl ?_
          have J80 : ∀ (M : Mem) (q80_3 : Int), St Tru ws_X6_sipsAt_48_w1 as_X6_sipsAt_48_w1 M0 M → (0 ≤ q80_3 ∧ q80_3 ≤ 2) → rd M 53 p12_5 = r32 → rd M 7 0 = r4 → rd M 8 0 = r22 → Tr l K 0 mX6_sipsAt 80 [(0, (2, 48)), (1, (0, a1)), (2, (0, a2)), (3, (0, a3)), (5, (0, p12_5))] [(0, q80_3), (0, (4 * p12_5)), (2, 9), (0, p12_4)] M (q_X6_sipsAt_48_w1 M0) := by
            intro M q80_3 hS bq80_3 k80_53_p12_510 k80_7_0 k80_8_0
            refine Tr.iadd (pc := 80) d_X6_sipsAt_80 ?_
            refine Tr.tp (4 * p12_5 + q80_3) ((w32_id (by omega)).trans (by omega)) ?_
            refine Tr.iald (pc := 81) d_X6_sipsAt_81 (ty_9 hS.1.1) (by omega) (by omega) ?_
            refine Tr.gen (P := fun v => (-1) ≤ v ∧ v ≤ 999) (ar_9 hS.1.2.1 _) (fun r81 er81 br81 => ?_)
            refine Tr.iadd (pc := 82) d_X6_sipsAt_82 ?_
            refine Tr.gen (P := fun v => (-2147483648) ≤ v ∧ v ≤ 2147483647) (w32_b _) (fun r82 er82 br82 => ?_)
            refine Tr.istore (pc := 83) (i := 4) (ls2 := [(4, (0, r82)), (0, (2, 48)), (1, (0, a1)), (2, (0, a2)), (3, (0, a3)), (5, (0, p12_5))]) d_X6_sipsAt_83 (by decide) rfl ?_
            refine Tr.iincV (pc := 85) (n2 := (p12_5 + 1)) (ls2 := [(5, (0, (p12_5 + 1))), (4, (0, r82)), (0, (2, 48)), (1, (0, a1)), (2, (0, a2)), (3, (0, a3))]) d_X6_sipsAt_85 rfl (by decide) ((w32_id (by omega)).trans (by omega)) rfl ?_
            refine Tr.goto (pc := 88) (tgt := 12) d_X6_sipsAt_88 rfl ?_
            refine Tr.pick [2, 3, 4, 5, 1, 0] (ls2 := [(0, (2, 48)), (1, (0, a1)), (2, (0, a2)), (3, (0, a3)), (4, (0, r82)), (5, (0, (p12_5 + 1)))]) rfl ?_
            exact J12 _ _ _ hS (by omega) (by omega) k80_7_0 (by omega)
          refine Tr.icmp_ne (pc := 71) (tgt := 78) d_X6_sipsAt_71 rfl (fun c71 => ?_) (fun c71 => ?_)
          · refine Tr.iload (pc := 78) (i := 6) d_X6_sipsAt_78 rfl ?_
            refine Tr.pick [1, 2, 3, 4, 6] (ls2 := [(0, (2, 48)), (1, (0, a1)), (2, (0, a2)), (3, (0, a3)), (5, (0, p12_5))]) rfl ?_
            exact J80 _ _ hS (by omega) k53_53_p12_510 k53_7_0 k53_8_0
          · refine Tr.iload_n (pc := 74) (i := 3) d_X6_sipsAt_74 rfl rfl ?_
            refine Tr.tp 1 (by omega) ?_
            refine Tr.goto (pc := 75) (tgt := 80) d_X6_sipsAt_75 rfl ?_
            refine Tr.pick [1, 2, 3, 4, 6] (ls2 := [(0, (2, 48)), (1, (0, a1)), (2, (0, a2)), (3, (0, a3)), (5, (0, p12_5))]) rfl ?_
            exact J80 _ _ hS (by omega) k53_53_p12_510 k53_7_0 k53_8_0
        have J48 : ∀ (M : Mem), St Tru ws_X6_sipsAt_48_w1 as_X6_sipsAt_48_w1 M0 M → rd M 53 p12_5 = r32 → rd M 7 0 = r4 → rd M 8 0 = r22 → Tr l K 0 mX6_sipsAt 48 [(0, (2, 48)), (1, (0, a1)), (2, (0, a2)), (3, (0, a3)), (4, (0, p12_4)), (5, (0, p12_5))] [] M (q_X6_sipsAt_48_w1 M0) := by
          intro M  hS  k48_53_p12_510 k48_7_0 k48_8_0
          refine Tr.iconst (pc := 48) d_X6_sipsAt_48 (by decide) ?_
          refine Tr.goto (pc := 49) (tgt := 53) d_X6_sipsAt_49 rfl ?_
          refine Tr.pick [0, 1, 2, 3, 4, 5] (ls2 := [(0, (2, 48)), (1, (0, a1)), (2, (0, a2)), (3, (0, a3)), (4, (0, p12_4)), (5, (0, p12_5))]) rfl ?_
          exact J53 _ _ hS (by omega) k48_53_p12_510 k48_7_0 k48_8_0
        refine Tr.icmp_eq (pc := 34) (tgt := 48) d_X6_sipsAt_34 rfl (fun c34 => ?_) (fun c34 => ?_)
        · refine Tr.pick [0, 1, 2, 3, 4, 5] (ls2 := [(0, (2, 48)), (1, (0, a1)), (2, (0, a2)), (3, (0, a3)), (4, (0, p12_4)), (5, (0, p12_5))]) rfl ?_
          exact J48 _ hS er32 k12_7_0 er22
        · refine Tr.iload_n (pc := 37) (i := 1) d_X6_sipsAt_37 rfl rfl ?_
          refine Tr.aload_n (pc := 38) (i := 0) d_X6_sipsAt_38 rfl rfl ?_
          refine Tr.getf (pc := 39) d_X6_sipsAt_39 f_6_27 (by decide) (by decide) (ty_48 hS.1.1) ?_
          refine Tr.tp 54 (fx_48_7 hS.1.1) ?_
          refine Tr.iload (pc := 42) (i := 5) d_X6_sipsAt_42 rfl ?_
          refine Tr.iald (pc := 44) d_X6_sipsAt_44 (ty_54 hS.1.1) (by omega) (by omega) ?_
          refine Tr.gen (P := fun v => (-2147483648) ≤ v ∧ v ≤ 2147483647) (ar_54 hS.1.2.1 _) (fun r44 er44 br44 => ?_)
          refine Tr.icmp_ge (pc := 45) (tgt := 52) d_X6_sipsAt_45 rfl (fun c45 => ?_) (fun c45 => ?_)
          · refine Tr.iconst (pc := 52) d_X6_sipsAt_52 (by decide) ?_
            refine Tr.pick [0, 1, 2, 3, 4, 5] (ls2 := [(0, (2, 48)), (1, (0, a1)), (2, (0, a2)), (3, (0, a3)), (4, (0, p12_4)), (5, (0, p12_5))]) rfl ?_
            exact J53 _ _ hS (by omega) er32 k12_7_0 er22
          · refine Tr.pick [0, 1, 2, 3, 4, 5] (ls2 := [(0, (2, 48)), (1, (0, a1)), (2, (0, a2)), (3, (0, a3)), (4, (0, p12_4)), (5, (0, p12_5))]) rfl ?_
            exact J48 _ hS er32 k12_7_0 er22
  refine Tr.pick [2, 3, 4, 5, 1, 0] (ls2 := [(0, (2, 48)), (1, (0, a1)), (2, (0, a2)), (3, (0, a3)), (4, (0, r4)), (5, (0, 0))]) rfl ?_
  exact J12 _ _ _ _ hS (by omega) (by omega) er4 (Nat.lt_succ_self _)

def ws_X6_afforded_48_w3 : List (Int × Int) := [(48, 17)]
def as_X6_afforded_48_w3 : List Int := []
def q_X6_afforded_48_w3 (M0 M' : Mem) (r : Option PV) : Prop := St Tru ws_X6_afforded_48_w3 as_X6_afforded_48_w3 M0 M' ∧ ∃ v : Int, r = some (0, v) ∧ (-2147483648) ≤ v ∧ v ≤ 20
set_option maxRecDepth 100000 in
set_option maxHeartbeats 4000000 in
theorem sp_X6_afforded_48_w3 {l : Launch} {K : EC} {M0 : Mem} (hI : In Tru M0) (en_48_1 : rd M0 48 1 = 7) (a1 : Int) (ha1 : (-2147483648) ≤ a1 ∧ a1 ≤ 20) (a2 : Int) (ha2 : 0 ≤ a2 ∧ a2 ≤ 5) (a3 : Int) (ha3 : 1 ≤ a3 ∧ a3 ≤ 1)  : Tr l K 1 mX6_afforded 0 [(0, (2, 48)), (1, (0, a1)), (2, (0, a2)), (3, (0, a3))] [] M0 (q_X6_afforded_48_w3 M0) := by
  have hS : St Tru ws_X6_afforded_48_w3 as_X6_afforded_48_w3 M0 M0 := St.rf hI
  refine Tr.iconst (pc := 0) d_X6_afforded_0 (by decide) ?_
  refine Tr.istore (pc := 1) (i := 4) (ls2 := [(4, (0, 0)), (0, (2, 48)), (1, (0, a1)), (2, (0, a2)), (3, (0, a3))]) d_X6_afforded_1 (by decide) rfl ?_
  have J3 : ∀ (n3 : Nat) (M : Mem) (p3_4 : Int), St Tru ws_X6_afforded_48_w3 as_X6_afforded_48_w3 M0 M → (0 ≤ p3_4 ∧ p3_4 ≤ 20) → (20 - p3_4).toNat < n3 → Tr l K 1 mX6_afforded 3 [(0, (2, 48)), (1, (0, a1)), (2, (0, a2)), (3, (0, a3)), (4, (0, p3_4))] [] M (q_X6_afforded_48_w3 M0) := by
    intro n3
    induction n3 with
    | zero => intro M p3_4 hS bp3_4  hm3; exact absurd hm3 (Nat.not_lt_zero _)
    | succ n3 J3 =>
      intro M p3_4 hS bp3_4  hm3
      refine Tr.iload (pc := 3) (i := 4) d_X6_afforded_3 rfl ?_
      refine Tr.iload_n (pc := 5) (i := 1) d_X6_afforded_5 rfl rfl ?_
      refine Tr.icmp_ge (pc := 6) (tgt := 53) d_X6_afforded_6 rfl (fun c6 => ?_) (fun c6 => ?_)
      · refine Tr.iload_n (pc := 53) (i := 1) d_X6_afforded_53 rfl rfl ?_
        exact Tr.iret (pc := 54) d_X6_afforded_54 rfl ⟨hS, _, rfl, by omega, by omega⟩
      · refine Tr.aload_n (pc := 9) (i := 0) d_X6_afforded_9 rfl rfl ?_
        refine Tr.aload_n (pc := 10) (i := 0) d_X6_afforded_10 rfl rfl ?_
        refine Tr.getf (pc := 11) d_X6_afforded_11 f_6_68 (by decide) (by decide) (ty_48 hS.1.1) ?_
        refine Tr.gen (P := fun v => (-2147483648) ≤ v ∧ v ≤ 2147483647) (ir_48_9 hS.1.2.1) (fun r11 er11 br11 => ?_)
        refine Tr.iload (pc := 14) (i := 4) d_X6_afforded_14 rfl ?_
        refine Tr.iadd (pc := 16) d_X6_afforded_16 ?_
        refine Tr.gen (P := fun v => (-2147483648) ≤ v ∧ v ≤ 2147483647) (w32_b _) (fun r16 er16 br16 => ?_)
        refine Tr.iload_n (pc := 17) (i := 2) d_X6_afforded_17 rfl rfl ?_
        refine Tr.iload_n (pc := 18) (i := 3) d_X6_afforded_18 rfl rfl ?_
        refine Tr.tp 1 (by omega) ?_
        refine Tr.callV (pc := 19) (as := [_, _, _]) d_X6_afforded_19 s_6_186 ok_X6_sipsAt rfl rfl (Nat.le_of_ble_eq_true rfl) (Nat.le_of_ble_eq_true rfl) (by decide) (ty_48 hS.1.1) ?_
        refine Tr.imp (Tr.deep (by decide) (sp_X6_sipsAt_48_w1 hS.1 ((St.kp hS (by decide) (by decide) (by decide)).trans en_48_1) r16 (by omega) a2 (by omega) 1 (by omega))) ?_
        rintro M19 _ ⟨h19, r19, rfl, lr19, ur19⟩
        have hS := St.tr hS h19 (by decide) (by decide)
        refine Tr.sc [(0, r19)] rfl ?_
        refine Tr.istore (pc := 22) (i := 5) (ls2 := [(5, (0, r19)), (0, (2, 48)), (1, (0, a1)), (2, (0, a2)), (3, (0, a3)), (4, (0, p3_4))]) d_X6_afforded_22 (by decide) rfl ?_
        refine Tr.iload (pc := 24) (i := 5) d_X6_afforded_24 rfl ?_
        refine Tr.aload_n (pc := 26) (i := 0) d_X6_afforded_26 rfl rfl ?_
        refine Tr.getf (pc := 27) d_X6_afforded_27 f_6_110 (by decide) (by decide) (ty_48 hS.1.1) ?_
        refine Tr.gen (P := fun v => (-2147483648) ≤ v ∧ v ≤ 2147483647) (ir_48_17 hS.1.2.1) (fun r27 er27 br27 => ?_)
        refine Tr.icmp_le (pc := 30) (tgt := 36) d_X6_afforded_30 rfl (fun c30 => ?_) (fun c30 => ?_)
        · refine Tr.aload_n (pc := 36) (i := 0) d_X6_afforded_36 rfl rfl ?_
          refine Tr.dup (pc := 37) d_X6_afforded_37 ne21 ?_
          refine Tr.getf (pc := 38) d_X6_afforded_38 f_6_110 (by decide) (by decide) (ty_48 hS.1.1) ?_
          refine Tr.tp r27 er27 ?_
          refine Tr.iload (pc := 41) (i := 5) d_X6_afforded_41 rfl ?_
          refine Tr.isub (pc := 43) d_X6_afforded_43 ?_
          refine Tr.gen (P := fun v => (-2147483648) ≤ v ∧ v ≤ 2147483647) (w32_b _) (fun r43 er43 br43 => ?_)
          refine Tr.putfS (pc := 44) (P := St Tru ws_X6_afforded_48_w3 as_X6_afforded_48_w3 M0) d_X6_afforded_44 f_6_110 (by decide) (by decide) (ty_48 hS.1.1) (st_48_17 hS (by decide) (by omega) trivial) (fun M44 hS w44 => ?_)
          refine Tr.iincV (pc := 47) (n2 := (p3_4 + 1)) (ls2 := [(4, (0, (p3_4 + 1))), (5, (0, r19)), (0, (2, 48)), (1, (0, a1)), (2, (0, a2)), (3, (0, a3))]) d_X6_afforded_47 rfl (by decide) ((w32_id (by omega)).trans (by omega)) rfl ?_
          refine Tr.goto (pc := 50) (tgt := 3) d_X6_afforded_50 rfl ?_
          refine Tr.pick [2, 3, 4, 5, 0] (ls2 := [(0, (2, 48)), (1, (0, a1)), (2, (0, a2)), (3, (0, a3)), (4, (0, (p3_4 + 1)))]) rfl ?_
          exact J3 _ _ hS (by omega) (by omega)
        · refine Tr.iload (pc := 33) (i := 4) d_X6_afforded_33 rfl ?_
          exact Tr.iret (pc := 35) d_X6_afforded_35 rfl ⟨hS, _, rfl, by omega, by omega⟩
  refine Tr.pick [1, 2, 3, 4, 0] (ls2 := [(0, (2, 48)), (1, (0, a1)), (2, (0, a2)), (3, (0, a3)), (4, (0, 0))]) rfl ?_
  exact J3 _ _ _ hS (by omega) (Nat.lt_succ_self _)

def ws_X6_pass_48_w3 : List (Int × Int) := [(48, 9), (48, 14), (48, 17)]
def as_X6_pass_48_w3 : List Int := []
def q_X6_pass_48_w3 (M0 M' : Mem) (r : Option PV) : Prop := St Tru ws_X6_pass_48_w3 as_X6_pass_48_w3 M0 M' ∧ ∃ v : Int, r = some (0, v) ∧ (-2147483648) ≤ v ∧ v ≤ 20
set_option maxRecDepth 100000 in
set_option maxHeartbeats 4000000 in
theorem sp_X6_pass_48_w3 {l : Launch} {K : EC} {M0 : Mem} (hI : In Tru M0) (en_48_1 : rd M0 48 1 = 7) (a1 : Int) (ha1 : (-1) ≤ a1 ∧ a1 ≤ 20) (a2 : Int) (ha2 : 0 ≤ a2 ∧ a2 ≤ 5) (a3 : Int) (ha3 : 1 ≤ a3 ∧ a3 ≤ 1)  : Tr l K 2 mX6_pass 0 [(0, (2, 48)), (1, (0, a1)), (2, (0, a2)), (3, (0, a3))] [] M0 (q_X6_pass_48_w3 M0) := by
  have hS : St Tru ws_X6_pass_48_w3 as_X6_pass_48_w3 M0 M0 := St.rf hI
  refine Tr.iload_n (pc := 0) (i := 1) d_X6_pass_0 rfl rfl ?_
  refine Tr.sipush (pc := 1) d_X6_pass_1 rfl (by decide) ?_
  refine Tr.aload_n (pc := 4) (i := 0) d_X6_pass_4 rfl rfl ?_
  refine Tr.getf (pc := 5) d_X6_pass_5 f_6_68 (by decide) (by decide) (ty_48 hS.1.1) ?_
  refine Tr.gen (P := fun v => (-2147483648) ≤ v ∧ v ≤ 2147483647) (ir_48_9 hS.1.2.1) (fun r5 er5 br5 => ?_)
  refine Tr.isub (pc := 8) d_X6_pass_8 ?_
  refine Tr.gen (P := fun v => (-2147483648) ≤ v ∧ v ≤ 2147483647) (w32_b _) (fun r8 er8 br8 => ?_)
  refine Tr.mmin (pc := 9) d_X6_pass_9 ml_6_158 mw_mmin (Nat.le_of_ble_eq_true rfl) ?_
  refine Tr.gen (P := fun v => (v = a1 ∧ a1 ≤ r8) ∨ (v = r8 ∧ r8 ≤ a1)) (f_min_p _ _) (fun r9 er9 br9 => ?_)
  refine Tr.istore (pc := 12) (i := 4) (ls2 := [(4, (0, r9)), (0, (2, 48)), (1, (0, a1)), (2, (0, a2)), (3, (0, a3))]) d_X6_pass_12 (by decide) rfl ?_
  refine Tr.aload_n (pc := 14) (i := 0) d_X6_pass_14 rfl rfl ?_
  refine Tr.getz (pc := 15) d_X6_pass_15 f_6_106 (by decide) (ty_48 hS.1.1) ?_
  refine Tr.gen (P := fun v => 0 ≤ v ∧ v ≤ 1) (ir_48_16 hS.1.2.1) (fun r15 er15 br15 => ?_)
  have J34 : ∀ (M : Mem) (q34_0 : Int), St Tru ws_X6_pass_48_w3 as_X6_pass_48_w3 M0 M → ((-2147483648) ≤ q34_0 ∧ q34_0 ≤ 20) → rd M 48 16 = r15 → rd M 48 9 = r5 → Tr l K 2 mX6_pass 34 [(0, (2, 48)), (1, (0, a1)), (4, (0, r9))] [(0, q34_0)] M (q_X6_pass_48_w3 M0) := by
    intro M q34_0 hS bq34_0 k34_48_16 k34_48_9
    refine Tr.istore (pc := 34) (i := 5) (ls2 := [(5, (0, q34_0)), (0, (2, 48)), (1, (0, a1)), (4, (0, r9))]) d_X6_pass_34 (by decide) rfl ?_
    refine Tr.aload_n (pc := 36) (i := 0) d_X6_pass_36 rfl rfl ?_
    refine Tr.dup (pc := 37) d_X6_pass_37 ne21 ?_
    refine Tr.getf (pc := 38) d_X6_pass_38 f_6_68 (by decide) (by decide) (ty_48 hS.1.1) ?_
    refine Tr.tp r5 k34_48_9 ?_
    refine Tr.iload (pc := 41) (i := 5) d_X6_pass_41 rfl ?_
    refine Tr.iadd (pc := 43) d_X6_pass_43 ?_
    refine Tr.gen (P := fun v => (-2147483648) ≤ v ∧ v ≤ 2147483647) (w32_b _) (fun r43 er43 br43 => ?_)
    refine Tr.putfS (pc := 44) (P := St Tru ws_X6_pass_48_w3 as_X6_pass_48_w3 M0) d_X6_pass_44 f_6_68 (by decide) (by decide) (ty_48 hS.1.1) (st_48_9 hS (by decide) (by omega) trivial) (fun M44 hS w44 => ?_)
    refine Tr.iload (pc := 47) (i := 5) d_X6_pass_47 rfl ?_
    refine Tr.iload_n (pc := 49) (i := 1) d_X6_pass_49 rfl rfl ?_
    refine Tr.icmp_ge (pc := 50) (tgt := 69) d_X6_pass_50 rfl (fun c50 => ?_) (fun c50 => ?_)
    · refine Tr.iload (pc := 69) (i := 5) d_X6_pass_69 rfl ?_
      exact Tr.iret (pc := 71) d_X6_pass_71 rfl ⟨hS, _, rfl, by omega, by omega⟩
    · refine Tr.aload_n (pc := 53) (i := 0) d_X6_pass_53 rfl rfl ?_
      refine Tr.iload (pc := 54) (i := 5) d_X6_pass_54 rfl ?_
      refine Tr.iload (pc := 56) (i := 4) d_X6_pass_56 rfl ?_
      refine Tr.icmp_ne (pc := 58) (tgt := 65) d_X6_pass_58 rfl (fun c58 => ?_) (fun c58 => ?_)
      · refine Tr.iconst (pc := 65) d_X6_pass_65 (by decide) ?_
        refine Tr.putfS (pc := 66) (P := St Tru ws_X6_pass_48_w3 as_X6_pass_48_w3 M0) d_X6_pass_66 f_6_62 (by decide) (by decide) (ty_48 hS.1.1) (st_48_14 hS (by decide) (by omega) trivial) (fun M66 hS w66 => ?_)
        refine Tr.iload (pc := 69) (i := 5) d_X6_pass_69 rfl ?_
        exact Tr.iret (pc := 71) d_X6_pass_71 rfl ⟨hS, _, rfl, by omega, by omega⟩
      · refine Tr.iconst (pc := 61) d_X6_pass_61 (by decide) ?_
        refine Tr.goto (pc := 62) (tgt := 66) d_X6_pass_62 rfl ?_
        refine Tr.putfS (pc := 66) (P := St Tru ws_X6_pass_48_w3 as_X6_pass_48_w3 M0) d_X6_pass_66 f_6_62 (by decide) (by decide) (ty_48 hS.1.1) (st_48_14 hS (by decide) (by omega) trivial) (fun M66 hS w66 => ?_)
        refine Tr.iload (pc := 69) (i := 5) d_X6_pass_69 rfl ?_
        exact Tr.iret (pc := 71) d_X6_pass_71 rfl ⟨hS, _, rfl, by omega, by omega⟩
  refine Tr.if_eq (pc := 18) (tgt := 32) d_X6_pass_18 rfl (fun c18 => ?_) (fun c18 => ?_)
  · refine Tr.iload (pc := 32) (i := 4) d_X6_pass_32 rfl ?_
    refine Tr.pick [1, 2, 0] (ls2 := [(0, (2, 48)), (1, (0, a1)), (4, (0, r9))]) rfl ?_
    exact J34 _ _ hS (by omega) er15 er5
  · refine Tr.aload_n (pc := 21) (i := 0) d_X6_pass_21 rfl rfl ?_
    refine Tr.iload (pc := 22) (i := 4) d_X6_pass_22 rfl ?_
    refine Tr.iload_n (pc := 24) (i := 2) d_X6_pass_24 rfl rfl ?_
    refine Tr.iload_n (pc := 25) (i := 3) d_X6_pass_25 rfl rfl ?_
    refine Tr.tp 1 (by omega) ?_
    refine Tr.callV (pc := 26) (as := [_, _, _]) d_X6_pass_26 s_6_183 ok_X6_afforded rfl rfl (Nat.le_of_ble_eq_true rfl) (Nat.le_of_ble_eq_true rfl) (by decide) (ty_48 hS.1.1) ?_
    refine Tr.imp (Tr.deep (by decide) (sp_X6_afforded_48_w3 hS.1 ((St.kp hS (by decide) (by decide) (by decide)).trans en_48_1) r9 (by omega) a2 (by omega) 1 (by omega))) ?_
    rintro M26 _ ⟨h26, r26, rfl, lr26, ur26⟩
    have hS := St.tr hS h26 (by decide) (by decide)
    refine Tr.sc [(0, r26)] rfl ?_
    refine Tr.goto (pc := 29) (tgt := 34) d_X6_pass_29 rfl ?_
    refine Tr.pick [1, 2, 0] (ls2 := [(0, (2, 48)), (1, (0, a1)), (4, (0, r9))]) rfl ?_
    exact J34 _ _ hS (by omega) ((St.kp h26 (by decide) (by decide) (by decide)).trans er15) ((St.kp h26 (by decide) (by decide) (by decide)).trans er5)

def ws_X8_stayUp_63_w1 : List (Int × Int) := [(63, 0)]
def as_X8_stayUp_63_w1 : List Int := [69, 191]
def q_X8_stayUp_63_w1 (M0 M' : Mem) (r : Option PV) : Prop := St Rn ws_X8_stayUp_63_w1 as_X8_stayUp_63_w1 M0 M' ∧ r = none
set_option maxRecDepth 100000 in
set_option maxHeartbeats 4000000 in
theorem sp_X8_stayUp_63_w1 {l : Launch} {K : EC} {M0 : Mem} (hI : In Rn M0)  (a1 : Int) (ha1 : 0 ≤ a1 ∧ a1 ≤ 5) (a2 : Int) (ha2 : 0 ≤ a2 ∧ a2 ≤ 59) (a3 : Int) (ha3 : (-2147483648) ≤ a3 ∧ a3 ≤ 2147483647) (a4 : Int) (ha4 : (-2147483648) ≤ a4 ∧ a4 ≤ 2147483647) (a5 : Int) (ha5 : 0 ≤ a5 ∧ a5 ≤ 0)  : Tr l K 0 mX8_stayUp 0 [(0, (2, 63)), (1, (0, a1)), (2, (0, a2)), (3, (0, a3)), (4, (0, a4)), (5, (0, a5))] [] M0 (q_X8_stayUp_63_w1 M0) := by
  have hS : St Rn ws_X8_stayUp_63_w1 as_X8_stayUp_63_w1 M0 M0 := St.rf hI
  obtain ⟨g63_1, eg63_1⟩ : ∃ v, rd M0 63 1 = v := ⟨_, rfl⟩
  have bg63_1 : (-1000000000) ≤ g63_1 ∧ g63_1 ≤ 1000000000 := by rw [← eg63_1]; exact ir_63_1 hI.2.1
  obtain ⟨g63_0, eg63_0⟩ : ∃ v, rd M0 63 0 = v := ⟨_, rfl⟩
  have bg63_0 : (-2147483648) ≤ g63_0 ∧ g63_0 ≤ 2147483647 := by rw [← eg63_0]; exact ir_63_0 hI.2.1
  refine Tr.aload_n (pc := 0) (i := 0) d_X8_stayUp_0 rfl rfl ?_
  refine Tr.getf (pc := 1) d_X8_stayUp_1 f_8_28 (by decide) (by decide) (ty_63 hS.1.1) ?_
  refine Tr.tp 69 (fx_63_6 hS.1.1) ?_
  refine Tr.iload_n (pc := 4) (i := 1) d_X8_stayUp_4 rfl rfl ?_
  refine Tr.iald (pc := 5) d_X8_stayUp_5 (ty_69 hS.1.1) (by omega) (by omega) ?_
  refine Tr.gen (P := fun v => ((-2147483648) ≤ v ∧ v ≤ 2147483647) ∧ v < g63_0) (by have h8 := tl_r hS (p := a1) (by omega) (by omega) eg63_0; have h9 := (ar_69 hS.1.2.1 (a1)); omega) (fun r5 er5 br5 => ?_)
  have J84 : ∀ (M : Mem) (u84_63_0 : Int), St Rn ws_X8_stayUp_63_w1 as_X8_stayUp_63_w1 M0 M → ((-2147483648) ≤ u84_63_0 ∧ u84_63_0 ≤ 2147483647) → rd M 63 0 = u84_63_0 → rd M 63 1 = g63_1 → (0 ≤ rd M 69 a1) → Tr l K 0 mX8_stayUp 84 [(0, (2, 63)), (1, (0, a1)), (3, (0, a3)), (4, (0, a4)), (5, (0, a5))] [] M (q_X8_stayUp_63_w1 M0) := by
    intro M u84_63_0 hS bu84_63_0 k84_63_0 k84_63_1 t84_0
    refine Tr.aload_n (pc := 84) (i := 0) d_X8_stayUp_84 rfl rfl ?_
    refine Tr.getf (pc := 85) d_X8_stayUp_85 f_8_28 (by decide) (by decide) (ty_63 hS.1.1) ?_
    refine Tr.tp 69 (fx_63_6 hS.1.1) ?_
    refine Tr.iload_n (pc := 88) (i := 1) d_X8_stayUp_88 rfl rfl ?_
    refine Tr.iald (pc := 89) d_X8_stayUp_89 (ty_69 hS.1.1) (by omega) (by omega) ?_
    refine Tr.gen (P := fun v => ((-2147483648) ≤ v ∧ v ≤ 2147483647) ∧ v < u84_63_0) (by have h8 := tl_r hS (p := a1) (by omega) (by omega) k84_63_0; have h9 := (ar_69 hS.1.2.1 (a1)); omega) (fun r89 er89 br89 => ?_)
    refine Tr.istore (pc := 90) (i := 6) (ls2 := [(6, (0, r89)), (0, (2, 63)), (1, (0, a1)), (3, (0, a3)), (4, (0, a4)), (5, (0, a5))]) d_X8_stayUp_90 (by decide) rfl ?_
    refine Tr.aload_n (pc := 92) (i := 0) d_X8_stayUp_92 rfl rfl ?_
    refine Tr.getf (pc := 93) d_X8_stayUp_93 f_8_18 (by decide) (by decide) (ty_63 hS.1.1) ?_
    refine Tr.gen (P := fun v => v = tref g63_1 3) (tl_ref hS k84_63_1 (by decide)) (fun t93 et93 bt93 => ?_)
    refine Tr.iload (pc := 96) (i := 6) d_X8_stayUp_96 rfl ?_
    refine Tr.iload (pc := 98) (i := 4) d_X8_stayUp_98 rfl ?_
    have nk100_0 : rd M 63 0 = u84_63_0 := k84_63_0
    have nn100 := tl_n hS k84_63_1
    have nh100 := tl_hi hS k84_63_1 (j := 3) (by decide) bt93 (i := r89) (by omega) (by omega)
    refine Tr.iastS (pc := 100) (P := St Rn ws_X8_stayUp_63_w1 as_X8_stayUp_63_w1 M0) d_X8_stayUp_100 (tl_tyI hS k84_63_1 (j := 3) (by decide) (by decide) bt93) (by omega) (by omega) (tl_wr hS (by decide) k84_63_1 (j := 3) (by decide) bt93 (by omega) (by omega) (by have hb := (show tlo 3 = (-2147483648) ∧ thi 3 = 2147483647 by decide); omega) (Rn.of hS.1.2.2.2.2 (fun _ => rd_wn _ (fun c => by have := c.1; omega)) (rd_wn _ (fun c => by have := c.1; omega)))) (fun M100 hS w100 => ?_)
    refine Tr.aload_n (pc := 101) (i := 0) d_X8_stayUp_101 rfl rfl ?_
    refine Tr.getf (pc := 102) d_X8_stayUp_102 f_8_21 (by decide) (by decide) (ty_63 hS.1.1) ?_
    refine Tr.gen (P := fun v => v = tref g63_1 4) (tl_ref hS ((Wr.n w100 (by omega)).trans k84_63_1) (by decide)) (fun t102 et102 bt102 => ?_)
    refine Tr.iload (pc := 105) (i := 6) d_X8_stayUp_105 rfl ?_
    refine Tr.dup2 (pc := 107) d_X8_stayUp_107 ne01 ne21 ?_
    have nk108_0 : rd M100 63 0 = u84_63_0 := ((Wr.n w100 (by omega)).trans k84_63_0)
    have nn108 := tl_n hS ((Wr.n w100 (by omega)).trans k84_63_1)
    refine Tr.iald (pc := 108) d_X8_stayUp_108 (tl_tyI hS ((Wr.n w100 (by omega)).trans k84_63_1) (j := 4) (by decide) (by decide) bt102) (by omega) (by omega) ?_
    refine Tr.gen (P := fun v => (-2147483648) ≤ v ∧ v ≤ 2147483647) (tl_eI hS ((Wr.n w100 (by omega)).trans k84_63_1) (j := 4) (by decide) (by decide) bt102 (by omega) (by omega)) (fun r108 er108 br108 => ?_)
    refine Tr.iload (pc := 109) (i := 5) d_X8_stayUp_109 rfl ?_
    refine Tr.tp 0 (by omega) ?_
    refine Tr.if_eq (pc := 111) (tgt := 121) d_X8_stayUp_111 rfl (fun _ => ?_) (fun hc => absurd (by omega) hc)
    refine Tr.iconst (pc := 121) d_X8_stayUp_121 (by decide) ?_
    refine Tr.iadd (pc := 122) d_X8_stayUp_122 ?_
    refine Tr.tp r108 ((w32_id (by omega)).trans (by omega)) ?_
    have nk123_0 : rd M100 63 0 = u84_63_0 := ((Wr.n w100 (by omega)).trans k84_63_0)
    have nn123 := tl_n hS ((Wr.n w100 (by omega)).trans k84_63_1)
    have nh123 := tl_hi hS ((Wr.n w100 (by omega)).trans k84_63_1) (j := 4) (by decide) bt102 (i := r89) (by omega) (by omega)
    refine Tr.iastS (pc := 123) (P := St Rn ws_X8_stayUp_63_w1 as_X8_stayUp_63_w1 M0) d_X8_stayUp_123 (tl_tyI hS ((Wr.n w100 (by omega)).trans k84_63_1) (j := 4) (by decide) (by decide) bt102) (by omega) (by omega) (tl_wr hS (by decide) ((Wr.n w100 (by omega)).trans k84_63_1) (j := 4) (by decide) bt102 (by omega) (by omega) (by have hb := (show tlo 4 = (-2147483648) ∧ thi 4 = 2147483647 by decide); omega) (Rn.of hS.1.2.2.2.2 (fun _ => rd_wn _ (fun c => by have := c.1; omega)) (rd_wn _ (fun c => by have := c.1; omega)))) (fun M123 hS w123 => ?_)
    exact Tr.vret (pc := 124) d_X8_stayUp_124 rfl ⟨hS, rfl⟩
  refine Tr.if_ge (pc := 6) (tgt := 84) d_X8_stayUp_6 rfl (fun c6 => ?_) (fun c6 => ?_)
  · refine Tr.pick [0, 1, 3, 4, 5] (ls2 := [(0, (2, 63)), (1, (0, a1)), (3, (0, a3)), (4, (0, a4)), (5, (0, a5))]) rfl ?_
    have jr84_0 : rd M0 69 a1 = r5 := er5
    exact J84 _ _ hS (by omega) eg63_0 eg63_1 (by omega)
  · refine Tr.aload_n (pc := 9) (i := 0) d_X8_stayUp_9 rfl rfl ?_
    refine Tr.getf (pc := 10) d_X8_stayUp_10 f_8_43 (by decide) (by decide) (ty_63 hS.1.1) ?_
    refine Tr.tp g63_0 eg63_0 ?_
    refine Tr.aload_n (pc := 13) (i := 0) d_X8_stayUp_13 rfl rfl ?_
    refine Tr.getf (pc := 14) d_X8_stayUp_14 f_8_9 (by decide) (by decide) (ty_63 hS.1.1) ?_
    refine Tr.gen (P := fun v => v = tref g63_1 1) (tl_ref hS eg63_1 (by decide)) (fun t14 et14 bt14 => ?_)
    have nk17_0 : rd M0 63 0 = g63_0 := eg63_0
    have nn17 := tl_n hS eg63_1
    refine Tr.alen (pc := 17) d_X8_stayUp_17 (tl_tyI hS eg63_1 (j := 1) (by decide) (by decide) bt14) (by decide) (by omega) ?_
    refine Tr.gen (P := fun v => v = ((fN g63_1 : Nat) : Int) ∧ (0 ≤ v ∧ v ≤ 2016)) ⟨rfl, by omega, by omega⟩ (fun r17 er17 br17 => ?_)
    refine Tr.icmp_lt (pc := 18) (tgt := 22) d_X8_stayUp_18 rfl (fun c18 => ?_) (fun c18 => ?_)
    · refine Tr.aload_n (pc := 22) (i := 0) d_X8_stayUp_22 rfl rfl ?_
      refine Tr.getf (pc := 23) d_X8_stayUp_23 f_8_9 (by decide) (by decide) (ty_63 hS.1.1) ?_
      refine Tr.gen (P := fun v => v = tref g63_1 1) (tl_ref hS eg63_1 (by decide)) (fun t23 et23 bt23 => ?_)
      refine Tr.aload_n (pc := 26) (i := 0) d_X8_stayUp_26 rfl rfl ?_
      refine Tr.getf (pc := 27) d_X8_stayUp_27 f_8_43 (by decide) (by decide) (ty_63 hS.1.1) ?_
      refine Tr.tp g63_0 eg63_0 ?_
      refine Tr.iload_n (pc := 30) (i := 1) d_X8_stayUp_30 rfl rfl ?_
      have nk31_0 : rd M0 63 0 = g63_0 := eg63_0
      have nn31 := tl_n hS eg63_1
      have nh31 := tl_hi hS eg63_1 (j := 1) (by decide) bt23 (i := g63_0) (by omega) (by omega)
      refine Tr.iastS (pc := 31) (P := St Rn ws_X8_stayUp_63_w1 as_X8_stayUp_63_w1 M0) d_X8_stayUp_31 (tl_tyI hS eg63_1 (j := 1) (by decide) (by decide) bt23) (by omega) (by omega) (tl_wr hS (by decide) eg63_1 (j := 1) (by decide) bt23 (by omega) (by omega) (by have hb := (show tlo 1 = 0 ∧ thi 1 = 5 by decide); omega) (Rn.of hS.1.2.2.2.2 (fun _ => rd_wn _ (fun c => by have := c.1; omega)) (rd_wn _ (fun c => by have := c.1; omega)))) (fun M31 hS w31 => ?_)
      refine Tr.aload_n (pc := 32) (i := 0) d_X8_stayUp_32 rfl rfl ?_
      refine Tr.getf (pc := 33) d_X8_stayUp_33 f_8_15 (by decide) (by decide) (ty_63 hS.1.1) ?_
      refine Tr.gen (P := fun v => v = tref g63_1 2) (tl_ref hS ((Wr.n w31 (by omega)).trans eg63_1) (by decide)) (fun t33 et33 bt33 => ?_)
      refine Tr.aload_n (pc := 36) (i := 0) d_X8_stayUp_36 rfl rfl ?_
      refine Tr.getf (pc := 37) d_X8_stayUp_37 f_8_43 (by decide) (by decide) (ty_63 hS.1.1) ?_
      refine Tr.tp g63_0 ((Wr.n w31 (by omega)).trans eg63_0) ?_
      refine Tr.iload_n (pc := 40) (i := 3) d_X8_stayUp_40 rfl rfl ?_
      have nk41_0 : rd M31 63 0 = g63_0 := ((Wr.n w31 (by omega)).trans eg63_0)
      have nn41 := tl_n hS ((Wr.n w31 (by omega)).trans eg63_1)
      have nh41 := tl_hi hS ((Wr.n w31 (by omega)).trans eg63_1) (j := 2) (by decide) bt33 (i := g63_0) (by omega) (by omega)
      refine Tr.iastS (pc := 41) (P := St Rn ws_X8_stayUp_63_w1 as_X8_stayUp_63_w1 M0) d_X8_stayUp_41 (tl_tyI hS ((Wr.n w31 (by omega)).trans eg63_1) (j := 2) (by decide) (by decide) bt33) (by omega) (by omega) (tl_wr hS (by decide) ((Wr.n w31 (by omega)).trans eg63_1) (j := 2) (by decide) bt33 (by omega) (by omega) (by have hb := (show tlo 2 = (-2147483648) ∧ thi 2 = 2147483647 by decide); omega) (Rn.of hS.1.2.2.2.2 (fun _ => rd_wn _ (fun c => by have := c.1; omega)) (rd_wn _ (fun c => by have := c.1; omega)))) (fun M41 hS w41 => ?_)
      refine Tr.aload_n (pc := 42) (i := 0) d_X8_stayUp_42 rfl rfl ?_
      refine Tr.getf (pc := 43) d_X8_stayUp_43 f_8_21 (by decide) (by decide) (ty_63 hS.1.1) ?_
      refine Tr.gen (P := fun v => v = tref g63_1 4) (tl_ref hS ((Wr.n w41 (by omega)).trans ((Wr.n w31 (by omega)).trans eg63_1)) (by decide)) (fun t43 et43 bt43 => ?_)
      refine Tr.aload_n (pc := 46) (i := 0) d_X8_stayUp_46 rfl rfl ?_
      refine Tr.getf (pc := 47) d_X8_stayUp_47 f_8_43 (by decide) (by decide) (ty_63 hS.1.1) ?_
      refine Tr.tp g63_0 ((Wr.n w41 (by omega)).trans ((Wr.n w31 (by omega)).trans eg63_0)) ?_
      refine Tr.iconst (pc := 50) d_X8_stayUp_50 (by decide) ?_
      have nk51_0 : rd M41 63 0 = g63_0 := ((Wr.n w41 (by omega)).trans ((Wr.n w31 (by omega)).trans eg63_0))
      have nn51 := tl_n hS ((Wr.n w41 (by omega)).trans ((Wr.n w31 (by omega)).trans eg63_1))
      have nh51 := tl_hi hS ((Wr.n w41 (by omega)).trans ((Wr.n w31 (by omega)).trans eg63_1)) (j := 4) (by decide) bt43 (i := g63_0) (by omega) (by omega)
      refine Tr.iastS (pc := 51) (P := St Rn ws_X8_stayUp_63_w1 as_X8_stayUp_63_w1 M0) d_X8_stayUp_51 (tl_tyI hS ((Wr.n w41 (by omega)).trans ((Wr.n w31 (by omega)).trans eg63_1)) (j := 4) (by decide) (by decide) bt43) (by omega) (by omega) (tl_wr hS (by decide) ((Wr.n w41 (by omega)).trans ((Wr.n w31 (by omega)).trans eg63_1)) (j := 4) (by decide) bt43 (by omega) (by omega) (by have hb := (show tlo 4 = (-2147483648) ∧ thi 4 = 2147483647 by decide); omega) (Rn.of hS.1.2.2.2.2 (fun _ => rd_wn _ (fun c => by have := c.1; omega)) (rd_wn _ (fun c => by have := c.1; omega)))) (fun M51 hS w51 => ?_)
      refine Tr.aload_n (pc := 52) (i := 0) d_X8_stayUp_52 rfl rfl ?_
      refine Tr.getf (pc := 53) d_X8_stayUp_53 f_8_24 (by decide) (by decide) (ty_63 hS.1.1) ?_
      refine Tr.gen (P := fun v => v = tref g63_1 5) (tl_ref hS ((Wr.n w51 (by omega)).trans ((Wr.n w41 (by omega)).trans ((Wr.n w31 (by omega)).trans eg63_1))) (by decide)) (fun t53 et53 bt53 => ?_)
      refine Tr.aload_n (pc := 56) (i := 0) d_X8_stayUp_56 rfl rfl ?_
      refine Tr.getf (pc := 57) d_X8_stayUp_57 f_8_43 (by decide) (by decide) (ty_63 hS.1.1) ?_
      refine Tr.tp g63_0 ((Wr.n w51 (by omega)).trans ((Wr.n w41 (by omega)).trans ((Wr.n w31 (by omega)).trans eg63_0))) ?_
      refine Tr.lconst (pc := 60) (v := 1) d_X8_stayUp_60 rfl (by decide) ?_
      refine Tr.iload_n (pc := 61) (i := 2) d_X8_stayUp_61 rfl rfl ?_
      refine Tr.lshl (pc := 62) d_X8_stayUp_62 ?_
      refine Tr.gen (P := fun v => (-9223372036854775808) ≤ v ∧ v ≤ 9223372036854775807) (i64_b _) (fun r62 er62 br62 => ?_)
      have nk63_0 : rd M51 63 0 = g63_0 := ((Wr.n w51 (by omega)).trans ((Wr.n w41 (by omega)).trans ((Wr.n w31 (by omega)).trans eg63_0)))
      have nn63 := tl_n hS ((Wr.n w51 (by omega)).trans ((Wr.n w41 (by omega)).trans ((Wr.n w31 (by omega)).trans eg63_1)))
      have nh63 := tl_hi hS ((Wr.n w51 (by omega)).trans ((Wr.n w41 (by omega)).trans ((Wr.n w31 (by omega)).trans eg63_1))) (j := 5) (by decide) bt53 (i := g63_0) (by omega) (by omega)
      refine Tr.lastS (pc := 63) (P := St Rn ws_X8_stayUp_63_w1 as_X8_stayUp_63_w1 M0) d_X8_stayUp_63 (tl_tyL hS ((Wr.n w51 (by omega)).trans ((Wr.n w41 (by omega)).trans ((Wr.n w31 (by omega)).trans eg63_1))) bt53) (by omega) (by omega) (tl_wr hS (by decide) ((Wr.n w51 (by omega)).trans ((Wr.n w41 (by omega)).trans ((Wr.n w31 (by omega)).trans eg63_1))) (j := 5) (by decide) bt53 (by omega) (by omega) (by have hb := (show tlo 5 = (-9223372036854775808) ∧ thi 5 = 9223372036854775807 by decide); omega) (Rn.of hS.1.2.2.2.2 (fun _ => rd_wn _ (fun c => by have := c.1; omega)) (rd_wn _ (fun c => by have := c.1; omega)))) (fun M63 hS w63 => ?_)
      refine Tr.aload_n (pc := 64) (i := 0) d_X8_stayUp_64 rfl rfl ?_
      refine Tr.getf (pc := 65) d_X8_stayUp_65 f_8_28 (by decide) (by decide) (ty_63 hS.1.1) ?_
      refine Tr.tp 69 (fx_63_6 hS.1.1) ?_
      refine Tr.iload_n (pc := 68) (i := 1) d_X8_stayUp_68 rfl rfl ?_
      refine Tr.aload_n (pc := 69) (i := 0) d_X8_stayUp_69 rfl rfl ?_
      refine Tr.getf (pc := 70) d_X8_stayUp_70 f_8_43 (by decide) (by decide) (ty_63 hS.1.1) ?_
      refine Tr.tp g63_0 ((Wr.n w63 (by omega)).trans ((Wr.n w51 (by omega)).trans ((Wr.n w41 (by omega)).trans ((Wr.n w31 (by omega)).trans eg63_0)))) ?_
      have kc73_63_0 : rd M63 63 0 = g63_0 := ((Wr.n w63 (by omega)).trans ((Wr.n w51 (by omega)).trans ((Wr.n w41 (by omega)).trans ((Wr.n w31 (by omega)).trans eg63_0))))
      have hS9 := hS
      refine Tr.iastS (pc := 73) (P := St Tru ws_X8_stayUp_63_w1 as_X8_stayUp_63_w1 M0) d_X8_stayUp_73 (ty_69 hS.1.1) (by omega) (by omega) (sa_69 hS.wk (by decide) (by omega) trivial) (fun M73 hS w73 => ?_)
      have hrn : ∀ p : Int, 0 ≤ p → p < 6 → rd M73 69 p < g63_0 + 1 := fun p p0 p1 => by
        have h1 := tl_r hS9 p0 p1 ((Wr.n w63 (by omega)).trans ((Wr.n w51 (by omega)).trans ((Wr.n w41 (by omega)).trans ((Wr.n w31 (by omega)).trans eg63_0))))
        by_cases hp : p = a1
        · rw [hp, w73.1]; omega
        · rw [w73.2 _ _ (fun d => hp d.2)]; omega
      refine Tr.aload_n (pc := 74) (i := 0) d_X8_stayUp_74 rfl rfl ?_
      refine Tr.dup (pc := 75) d_X8_stayUp_75 ne21 ?_
      refine Tr.getf (pc := 76) d_X8_stayUp_76 f_8_43 (by decide) (by decide) (ty_63 hS.1.1) ?_
      refine Tr.tp g63_0 ((Wr.b w73 rfl).trans ((Wr.n w63 (by omega)).trans ((Wr.n w51 (by omega)).trans ((Wr.n w41 (by omega)).trans ((Wr.n w31 (by omega)).trans eg63_0))))) ?_
      refine Tr.iconst (pc := 79) d_X8_stayUp_79 (by decide) ?_
      refine Tr.iadd (pc := 80) d_X8_stayUp_80 ?_
      refine Tr.tp (g63_0 + 1) ((w32_id (by omega)).trans (by omega)) ?_
      have nk81_0 : rd M73 63 0 = g63_0 := ((Wr.b w73 rfl).trans ((Wr.n w63 (by omega)).trans ((Wr.n w51 (by omega)).trans ((Wr.n w41 (by omega)).trans ((Wr.n w31 (by omega)).trans eg63_0)))))
      have nn81 := tl_n hS ((Wr.b w73 rfl).trans ((Wr.n w63 (by omega)).trans ((Wr.n w51 (by omega)).trans ((Wr.n w41 (by omega)).trans ((Wr.n w31 (by omega)).trans eg63_1)))))
      refine Tr.putfS (pc := 81) (P := St Rn ws_X8_stayUp_63_w1 as_X8_stayUp_63_w1 M0) d_X8_stayUp_81 f_8_43 (by decide) (by decide) (ty_63 hS.1.1) (st_up hS (by decide) ((Wr.b w73 rfl).trans ((Wr.n w63 (by omega)).trans ((Wr.n w51 (by omega)).trans ((Wr.n w41 (by omega)).trans ((Wr.n w31 (by omega)).trans eg63_1))))) (by omega) (by omega) (fun p p0 p1 => by have h1 := hrn p p0 p1; omega)) (fun M81 hS w81 => ?_)
      refine Tr.pick [0, 1, 3, 4, 5] (ls2 := [(0, (2, 63)), (1, (0, a1)), (3, (0, a3)), (4, (0, a4)), (5, (0, a5))]) rfl ?_
      have jr84_0 : rd M81 69 a1 = g63_0 := ((Wr.b w81 rfl).trans w73.1)
      exact J84 _ _ hS (by omega) w81.1 ((Wr.b w81 rfl).trans ((Wr.b w73 rfl).trans ((Wr.n w63 (by omega)).trans ((Wr.n w51 (by omega)).trans ((Wr.n w41 (by omega)).trans ((Wr.n w31 (by omega)).trans eg63_1)))))) (by omega)
    · exact Tr.vret (pc := 21) d_X8_stayUp_21 rfl ⟨hS, rfl⟩
end
/-! 30.11 -/
section
def ws_X1_note_56_w2 : List (Int × Int) := [(63, 0)]
def as_X1_note_56_w2 : List Int := [57, 60, 61, 69, 191]
def q_X1_note_56_w2 (M0 M' : Mem) (r : Option PV) : Prop := St Rn ws_X1_note_56_w2 as_X1_note_56_w2 M0 M' ∧ r = none
set_option maxRecDepth 100000 in
set_option maxHeartbeats 4000000 in
theorem sp_X1_note_56_w2 {l : Launch} {K : EC} {M0 : Mem} (hI : In Rn M0) (en_56_1 : rd M0 56 1 = 7) (a1 : Int) (ha1 : 0 ≤ a1 ∧ a1 ≤ 5) (a2 : Int) (ha2 : 1 ≤ a2 ∧ a2 ≤ 1) (a3 : Int) (ha3 : (-2147483648) ≤ a3 ∧ a3 ≤ 2147483647) (a4 : Int) (ha4 : (-2147483648) ≤ a4 ∧ a4 ≤ 2147483647)  : Tr l K 1 mX1_note 0 [(0, (2, 56)), (1, (0, a1)), (2, (0, a2)), (3, (0, a3)), (4, (0, a4))] [] M0 (q_X1_note_56_w2 M0) := by
  have hS : St Rn ws_X1_note_56_w2 as_X1_note_56_w2 M0 M0 := St.rf hI
  refine Tr.iload_n (pc := 0) (i := 3) d_X1_note_0 rfl rfl ?_
  refine Tr.iload (pc := 1) (i := 4) d_X1_note_1 rfl ?_
  refine Tr.icmp_lt (pc := 3) (tgt := 7) d_X1_note_3 rfl (fun c3 => ?_) (fun c3 => ?_)
  · refine Tr.aload_n (pc := 7) (i := 0) d_X1_note_7 rfl rfl ?_
    refine Tr.getf (pc := 8) d_X1_note_8 f_1_9 (by decide) (by decide) (ty_56 hS.1.1) ?_
    refine Tr.tp 57 (fx_56_2 hS.1.1) ?_
    refine Tr.iload_n (pc := 11) (i := 1) d_X1_note_11 rfl rfl ?_
    refine Tr.iconst (pc := 12) d_X1_note_12 (by decide) ?_
    refine Tr.imul (pc := 13) d_X1_note_13 ?_
    refine Tr.tp (4 * a1) ((w32_id (by omega)).trans (by omega)) ?_
    refine Tr.iload_n (pc := 14) (i := 2) d_X1_note_14 rfl rfl ?_
    refine Tr.tp 1 (by omega) ?_
    refine Tr.iadd (pc := 15) d_X1_note_15 ?_
    refine Tr.tp (4 * a1 + 1) ((w32_id (by omega)).trans (by omega)) ?_
    refine Tr.dup2 (pc := 16) d_X1_note_16 ne01 ne21 ?_
    refine Tr.iald (pc := 17) d_X1_note_17 (ty_57 hS.1.1) (by omega) (by omega) ?_
    refine Tr.gen (P := fun v => (-2147483648) ≤ v ∧ v ≤ 2147483647) (ar_57 hS.1.2.1 _) (fun r17 er17 br17 => ?_)
    refine Tr.iload (pc := 18) (i := 4) d_X1_note_18 rfl ?_
    refine Tr.iload_n (pc := 20) (i := 3) d_X1_note_20 rfl rfl ?_
    refine Tr.isub (pc := 21) d_X1_note_21 ?_
    refine Tr.gen (P := fun v => (-2147483648) ≤ v ∧ v ≤ 2147483647) (w32_b _) (fun r21 er21 br21 => ?_)
    refine Tr.iadd (pc := 22) d_X1_note_22 ?_
    refine Tr.gen (P := fun v => (-2147483648) ≤ v ∧ v ≤ 2147483647) (w32_b _) (fun r22 er22 br22 => ?_)
    refine Tr.iastS (pc := 23) (P := St Rn ws_X1_note_56_w2 as_X1_note_56_w2 M0) d_X1_note_23 (ty_57 hS.1.1) (by omega) (by omega) (sa_57 hS (by decide) (by omega) (Rn.of hS.1.2.2.2.2 (fun _ => rd_wb _ rfl) (rd_wb _ rfl))) (fun M23 hS w23 => ?_)
    refine Tr.aload_n (pc := 24) (i := 0) d_X1_note_24 rfl rfl ?_
    refine Tr.getz (pc := 25) d_X1_note_25 f_1_37 (by decide) (ty_56 hS.1.1) ?_
    refine Tr.tp 1 (fx_56_0 hS.1.1) ?_
    refine Tr.if_ne (pc := 28) (tgt := 32) d_X1_note_28 rfl (fun _ => ?_) (fun hc => absurd hc (by omega))
    refine Tr.aload_n (pc := 32) (i := 0) d_X1_note_32 rfl rfl ?_
    refine Tr.getf (pc := 33) d_X1_note_33 f_1_15 (by decide) (by decide) (ty_56 hS.1.1) ?_
    refine Tr.tp 58 (fx_56_3 hS.1.1) ?_
    refine Tr.iload_n (pc := 36) (i := 1) d_X1_note_36 rfl rfl ?_
    refine Tr.iald (pc := 37) d_X1_note_37 (ty_58 hS.1.1) (by omega) (by omega) ?_
    refine Tr.gen (P := fun v => (-1) ≤ v ∧ v ≤ 59) (ar_58 hS.1.2.1 _) (fun r37 er37 br37 => ?_)
    refine Tr.istore (pc := 38) (i := 5) (ls2 := [(5, (0, r37)), (0, (2, 56)), (1, (0, a1)), (2, (0, a2)), (3, (0, a3)), (4, (0, a4))]) d_X1_note_38 (by decide) rfl ?_
    refine Tr.iload_n (pc := 40) (i := 2) d_X1_note_40 rfl rfl ?_
    refine Tr.tp 1 (by omega) ?_
    refine Tr.if_ne (pc := 41) (tgt := 52) d_X1_note_41 rfl (fun _ => ?_) (fun hc => absurd hc (by omega))
    refine Tr.iload (pc := 52) (i := 5) d_X1_note_52 rfl ?_
    refine Tr.if_lt (pc := 54) (tgt := 142) d_X1_note_54 rfl (fun c54 => ?_) (fun c54 => ?_)
    · exact Tr.vret (pc := 142) d_X1_note_142 rfl ⟨hS, rfl⟩
    · refine Tr.iload (pc := 57) (i := 4) d_X1_note_57 rfl ?_
      refine Tr.iload_n (pc := 59) (i := 3) d_X1_note_59 rfl rfl ?_
      refine Tr.isub (pc := 60) d_X1_note_60 ?_
      refine Tr.gen (P := fun v => (-2147483648) ≤ v ∧ v ≤ 2147483647) (w32_b _) (fun r60 er60 br60 => ?_)
      refine Tr.aload_n (pc := 61) (i := 0) d_X1_note_61 rfl rfl ?_
      refine Tr.getf (pc := 62) d_X1_note_62 f_1_41 (by decide) (by decide) (ty_56 hS.1.1) ?_
      refine Tr.tp 7 ((St.kp hS (by decide) (by decide) (by decide)).trans en_56_1) ?_
      refine Tr.getf (pc := 65) d_X1_note_65 f_1_71 (by decide) (by decide) (ty_7 hS.1.1) ?_
      refine Tr.tp 9 (fx_7_5 hS.1.1) ?_
      refine Tr.iload_n (pc := 68) (i := 1) d_X1_note_68 rfl rfl ?_
      refine Tr.iconst (pc := 69) d_X1_note_69 (by decide) ?_
      refine Tr.imul (pc := 70) d_X1_note_70 ?_
      refine Tr.tp (4 * a1) ((w32_id (by omega)).trans (by omega)) ?_
      refine Tr.iload_n (pc := 71) (i := 2) d_X1_note_71 rfl rfl ?_
      refine Tr.tp 1 (by omega) ?_
      refine Tr.iadd (pc := 72) d_X1_note_72 ?_
      refine Tr.tp (4 * a1 + 1) ((w32_id (by omega)).trans (by omega)) ?_
      refine Tr.iald (pc := 73) d_X1_note_73 (ty_9 hS.1.1) (by omega) (by omega) ?_
      refine Tr.gen (P := fun v => (-1) ≤ v ∧ v ≤ 999) (ar_9 hS.1.2.1 _) (fun r73 er73 br73 => ?_)
      refine Tr.imul (pc := 74) d_X1_note_74 ?_
      refine Tr.gen (P := fun v => (-2147483648) ≤ v ∧ v ≤ 2147483647) (w32_b _) (fun r74 er74 br74 => ?_)
      refine Tr.istore (pc := 75) (i := 6) (ls2 := [(6, (0, r74)), (5, (0, r37)), (0, (2, 56)), (1, (0, a1)), (2, (0, a2)), (3, (0, a3)), (4, (0, a4))]) d_X1_note_75 (by decide) rfl ?_
      refine Tr.aload_n (pc := 77) (i := 0) d_X1_note_77 rfl rfl ?_
      refine Tr.getf (pc := 78) d_X1_note_78 f_1_24 (by decide) (by decide) (ty_56 hS.1.1) ?_
      refine Tr.tp 61 (fx_56_6 hS.1.1) ?_
      refine Tr.iload (pc := 81) (i := 5) d_X1_note_81 rfl ?_
      refine Tr.dup2 (pc := 83) d_X1_note_83 ne01 ne21 ?_
      refine Tr.iald (pc := 84) d_X1_note_84 (ty_61 hS.1.1) (by omega) (by omega) ?_
      refine Tr.gen (P := fun v => (-2147483648) ≤ v ∧ v ≤ 2147483647) (ar_61 hS.1.2.1 _) (fun r84 er84 br84 => ?_)
      refine Tr.iload_n (pc := 85) (i := 2) d_X1_note_85 rfl rfl ?_
      refine Tr.tp 1 (by omega) ?_
      refine Tr.iconst (pc := 86) d_X1_note_86 (by decide) ?_
      refine Tr.icmp_ne (pc := 87) (tgt := 95) d_X1_note_87 rfl (fun _ => ?_) (fun hc => absurd hc (by omega))
      refine Tr.iconst (pc := 95) d_X1_note_95 (by decide) ?_
      refine Tr.iadd (pc := 96) d_X1_note_96 ?_
      refine Tr.tp r84 ((w32_id (by omega)).trans (by omega)) ?_
      refine Tr.iastS (pc := 97) (P := St Rn ws_X1_note_56_w2 as_X1_note_56_w2 M0) d_X1_note_97 (ty_61 hS.1.1) (by omega) (by omega) (sa_61 hS (by decide) (by omega) (Rn.of hS.1.2.2.2.2 (fun _ => rd_wb _ rfl) (rd_wb _ rfl))) (fun M97 hS w97 => ?_)
      refine Tr.aload_n (pc := 98) (i := 0) d_X1_note_98 rfl rfl ?_
      refine Tr.getf (pc := 99) d_X1_note_99 f_1_21 (by decide) (by decide) (ty_56 hS.1.1) ?_
      refine Tr.tp 60 (fx_56_5 hS.1.1) ?_
      refine Tr.iload (pc := 102) (i := 5) d_X1_note_102 rfl ?_
      refine Tr.dup2 (pc := 104) d_X1_note_104 ne01 ne21 ?_
      refine Tr.iald (pc := 105) d_X1_note_105 (ty_60 hS.1.1) (by omega) (by omega) ?_
      refine Tr.gen (P := fun v => (-2147483648) ≤ v ∧ v ≤ 2147483647) (ar_60 hS.1.2.1 _) (fun r105 er105 br105 => ?_)
      refine Tr.iload_n (pc := 106) (i := 2) d_X1_note_106 rfl rfl ?_
      refine Tr.tp 1 (by omega) ?_
      refine Tr.iconst (pc := 107) d_X1_note_107 (by decide) ?_
      refine Tr.icmp_ne (pc := 108) (tgt := 115) d_X1_note_108 rfl (fun _ => ?_) (fun hc => absurd hc (by omega))
      refine Tr.iload (pc := 115) (i := 6) d_X1_note_115 rfl ?_
      refine Tr.iadd (pc := 117) d_X1_note_117 ?_
      refine Tr.gen (P := fun v => (-2147483648) ≤ v ∧ v ≤ 2147483647) (w32_b _) (fun r117 er117 br117 => ?_)
      refine Tr.iastS (pc := 118) (P := St Rn ws_X1_note_56_w2 as_X1_note_56_w2 M0) d_X1_note_118 (ty_60 hS.1.1) (by omega) (by omega) (sa_60 hS (by decide) (by omega) (Rn.of hS.1.2.2.2.2 (fun _ => rd_wb _ rfl) (rd_wb _ rfl))) (fun M118 hS w118 => ?_)
      refine Tr.aload_n (pc := 119) (i := 0) d_X1_note_119 rfl rfl ?_
      refine Tr.getf (pc := 120) d_X1_note_120 f_1_33 (by decide) (by decide) (ty_56 hS.1.1) ?_
      refine Tr.tp 63 (fx_56_8 hS.1.1) ?_
      refine Tr.iload_n (pc := 123) (i := 1) d_X1_note_123 rfl rfl ?_
      refine Tr.iload (pc := 124) (i := 5) d_X1_note_124 rfl ?_
      refine Tr.iload_n (pc := 126) (i := 3) d_X1_note_126 rfl rfl ?_
      refine Tr.iload (pc := 127) (i := 4) d_X1_note_127 rfl ?_
      refine Tr.iload_n (pc := 129) (i := 2) d_X1_note_129 rfl rfl ?_
      refine Tr.tp 1 (by omega) ?_
      refine Tr.iconst (pc := 130) d_X1_note_130 (by decide) ?_
      refine Tr.icmp_ne (pc := 131) (tgt := 138) d_X1_note_131 rfl (fun _ => ?_) (fun hc => absurd hc (by omega))
      refine Tr.iconst (pc := 138) d_X1_note_138 (by decide) ?_
      refine Tr.callV (pc := 139) (as := [_, _, _, _, _]) d_X1_note_139 s_1_74 ok_X8_stayUp rfl rfl (Nat.le_of_ble_eq_true rfl) (Nat.le_of_ble_eq_true rfl) (by decide) (ty_63 hS.1.1) ?_
      refine Tr.imp (Tr.deep (by decide) (sp_X8_stayUp_63_w1 hS.1 a1 (by omega) r37 (by omega) a3 (by omega) a4 (by omega) 0 (by omega))) ?_
      rintro M139 _ ⟨h139, rfl⟩
      have hS := St.tr hS h139 (by decide) (by decide)
      refine Tr.sc [] rfl ?_
      exact Tr.vret (pc := 142) d_X1_note_142 rfl ⟨hS, rfl⟩
  · exact Tr.vret (pc := 6) d_X1_note_6 rfl ⟨hS, rfl⟩

def ws_X1_note_56_w3 : List (Int × Int) := [(63, 0)]
def as_X1_note_56_w3 : List Int := [57, 60, 61, 69, 191]
def q_X1_note_56_w3 (M0 M' : Mem) (r : Option PV) : Prop := St Rn ws_X1_note_56_w3 as_X1_note_56_w3 M0 M' ∧ r = none
set_option maxRecDepth 100000 in
set_option maxHeartbeats 4000000 in
theorem sp_X1_note_56_w3 {l : Launch} {K : EC} {M0 : Mem} (hI : In Rn M0) (en_56_1 : rd M0 56 1 = 7) (a1 : Int) (ha1 : 0 ≤ a1 ∧ a1 ≤ 5) (a2 : Int) (ha2 : 3 ≤ a2 ∧ a2 ≤ 3) (a3 : Int) (ha3 : (-2147483648) ≤ a3 ∧ a3 ≤ 2147483647) (a4 : Int) (ha4 : (-2147483648) ≤ a4 ∧ a4 ≤ 2147483647)  : Tr l K 1 mX1_note 0 [(0, (2, 56)), (1, (0, a1)), (2, (0, a2)), (3, (0, a3)), (4, (0, a4))] [] M0 (q_X1_note_56_w3 M0) := by
  have hS : St Rn ws_X1_note_56_w3 as_X1_note_56_w3 M0 M0 := St.rf hI
  refine Tr.iload_n (pc := 0) (i := 3) d_X1_note_0 rfl rfl ?_
  refine Tr.iload (pc := 1) (i := 4) d_X1_note_1 rfl ?_
  refine Tr.icmp_lt (pc := 3) (tgt := 7) d_X1_note_3 rfl (fun c3 => ?_) (fun c3 => ?_)
  · refine Tr.aload_n (pc := 7) (i := 0) d_X1_note_7 rfl rfl ?_
    refine Tr.getf (pc := 8) d_X1_note_8 f_1_9 (by decide) (by decide) (ty_56 hS.1.1) ?_
    refine Tr.tp 57 (fx_56_2 hS.1.1) ?_
    refine Tr.iload_n (pc := 11) (i := 1) d_X1_note_11 rfl rfl ?_
    refine Tr.iconst (pc := 12) d_X1_note_12 (by decide) ?_
    refine Tr.imul (pc := 13) d_X1_note_13 ?_
    refine Tr.tp (4 * a1) ((w32_id (by omega)).trans (by omega)) ?_
    refine Tr.iload_n (pc := 14) (i := 2) d_X1_note_14 rfl rfl ?_
    refine Tr.tp 3 (by omega) ?_
    refine Tr.iadd (pc := 15) d_X1_note_15 ?_
    refine Tr.tp (4 * a1 + 3) ((w32_id (by omega)).trans (by omega)) ?_
    refine Tr.dup2 (pc := 16) d_X1_note_16 ne01 ne21 ?_
    refine Tr.iald (pc := 17) d_X1_note_17 (ty_57 hS.1.1) (by omega) (by omega) ?_
    refine Tr.gen (P := fun v => (-2147483648) ≤ v ∧ v ≤ 2147483647) (ar_57 hS.1.2.1 _) (fun r17 er17 br17 => ?_)
    refine Tr.iload (pc := 18) (i := 4) d_X1_note_18 rfl ?_
    refine Tr.iload_n (pc := 20) (i := 3) d_X1_note_20 rfl rfl ?_
    refine Tr.isub (pc := 21) d_X1_note_21 ?_
    refine Tr.gen (P := fun v => (-2147483648) ≤ v ∧ v ≤ 2147483647) (w32_b _) (fun r21 er21 br21 => ?_)
    refine Tr.iadd (pc := 22) d_X1_note_22 ?_
    refine Tr.gen (P := fun v => (-2147483648) ≤ v ∧ v ≤ 2147483647) (w32_b _) (fun r22 er22 br22 => ?_)
    refine Tr.iastS (pc := 23) (P := St Rn ws_X1_note_56_w3 as_X1_note_56_w3 M0) d_X1_note_23 (ty_57 hS.1.1) (by omega) (by omega) (sa_57 hS (by decide) (by omega) (Rn.of hS.1.2.2.2.2 (fun _ => rd_wb _ rfl) (rd_wb _ rfl))) (fun M23 hS w23 => ?_)
    refine Tr.aload_n (pc := 24) (i := 0) d_X1_note_24 rfl rfl ?_
    refine Tr.getz (pc := 25) d_X1_note_25 f_1_37 (by decide) (ty_56 hS.1.1) ?_
    refine Tr.tp 1 (fx_56_0 hS.1.1) ?_
    refine Tr.if_ne (pc := 28) (tgt := 32) d_X1_note_28 rfl (fun _ => ?_) (fun hc => absurd hc (by omega))
    refine Tr.aload_n (pc := 32) (i := 0) d_X1_note_32 rfl rfl ?_
    refine Tr.getf (pc := 33) d_X1_note_33 f_1_15 (by decide) (by decide) (ty_56 hS.1.1) ?_
    refine Tr.tp 58 (fx_56_3 hS.1.1) ?_
    refine Tr.iload_n (pc := 36) (i := 1) d_X1_note_36 rfl rfl ?_
    refine Tr.iald (pc := 37) d_X1_note_37 (ty_58 hS.1.1) (by omega) (by omega) ?_
    refine Tr.gen (P := fun v => (-1) ≤ v ∧ v ≤ 59) (ar_58 hS.1.2.1 _) (fun r37 er37 br37 => ?_)
    refine Tr.istore (pc := 38) (i := 5) (ls2 := [(5, (0, r37)), (0, (2, 56)), (1, (0, a1)), (2, (0, a2)), (3, (0, a3)), (4, (0, a4))]) d_X1_note_38 (by decide) rfl ?_
    refine Tr.iload_n (pc := 40) (i := 2) d_X1_note_40 rfl rfl ?_
    refine Tr.tp 3 (by omega) ?_
    refine Tr.if_ne (pc := 41) (tgt := 52) d_X1_note_41 rfl (fun _ => ?_) (fun hc => absurd hc (by omega))
    refine Tr.iload (pc := 52) (i := 5) d_X1_note_52 rfl ?_
    refine Tr.if_lt (pc := 54) (tgt := 142) d_X1_note_54 rfl (fun c54 => ?_) (fun c54 => ?_)
    · exact Tr.vret (pc := 142) d_X1_note_142 rfl ⟨hS, rfl⟩
    · refine Tr.iload (pc := 57) (i := 4) d_X1_note_57 rfl ?_
      refine Tr.iload_n (pc := 59) (i := 3) d_X1_note_59 rfl rfl ?_
      refine Tr.isub (pc := 60) d_X1_note_60 ?_
      refine Tr.gen (P := fun v => (-2147483648) ≤ v ∧ v ≤ 2147483647) (w32_b _) (fun r60 er60 br60 => ?_)
      refine Tr.aload_n (pc := 61) (i := 0) d_X1_note_61 rfl rfl ?_
      refine Tr.getf (pc := 62) d_X1_note_62 f_1_41 (by decide) (by decide) (ty_56 hS.1.1) ?_
      refine Tr.tp 7 ((St.kp hS (by decide) (by decide) (by decide)).trans en_56_1) ?_
      refine Tr.getf (pc := 65) d_X1_note_65 f_1_71 (by decide) (by decide) (ty_7 hS.1.1) ?_
      refine Tr.tp 9 (fx_7_5 hS.1.1) ?_
      refine Tr.iload_n (pc := 68) (i := 1) d_X1_note_68 rfl rfl ?_
      refine Tr.iconst (pc := 69) d_X1_note_69 (by decide) ?_
      refine Tr.imul (pc := 70) d_X1_note_70 ?_
      refine Tr.tp (4 * a1) ((w32_id (by omega)).trans (by omega)) ?_
      refine Tr.iload_n (pc := 71) (i := 2) d_X1_note_71 rfl rfl ?_
      refine Tr.tp 3 (by omega) ?_
      refine Tr.iadd (pc := 72) d_X1_note_72 ?_
      refine Tr.tp (4 * a1 + 3) ((w32_id (by omega)).trans (by omega)) ?_
      refine Tr.iald (pc := 73) d_X1_note_73 (ty_9 hS.1.1) (by omega) (by omega) ?_
      refine Tr.gen (P := fun v => (-1) ≤ v ∧ v ≤ 999) (ar_9 hS.1.2.1 _) (fun r73 er73 br73 => ?_)
      refine Tr.imul (pc := 74) d_X1_note_74 ?_
      refine Tr.gen (P := fun v => (-2147483648) ≤ v ∧ v ≤ 2147483647) (w32_b _) (fun r74 er74 br74 => ?_)
      refine Tr.istore (pc := 75) (i := 6) (ls2 := [(6, (0, r74)), (5, (0, r37)), (0, (2, 56)), (1, (0, a1)), (2, (0, a2)), (3, (0, a3)), (4, (0, a4))]) d_X1_note_75 (by decide) rfl ?_
      refine Tr.aload_n (pc := 77) (i := 0) d_X1_note_77 rfl rfl ?_
      refine Tr.getf (pc := 78) d_X1_note_78 f_1_24 (by decide) (by decide) (ty_56 hS.1.1) ?_
      refine Tr.tp 61 (fx_56_6 hS.1.1) ?_
      refine Tr.iload (pc := 81) (i := 5) d_X1_note_81 rfl ?_
      refine Tr.dup2 (pc := 83) d_X1_note_83 ne01 ne21 ?_
      refine Tr.iald (pc := 84) d_X1_note_84 (ty_61 hS.1.1) (by omega) (by omega) ?_
      refine Tr.gen (P := fun v => (-2147483648) ≤ v ∧ v ≤ 2147483647) (ar_61 hS.1.2.1 _) (fun r84 er84 br84 => ?_)
      refine Tr.iload_n (pc := 85) (i := 2) d_X1_note_85 rfl rfl ?_
      refine Tr.tp 3 (by omega) ?_
      refine Tr.iconst (pc := 86) d_X1_note_86 (by decide) ?_
      refine Tr.icmp_ne (pc := 87) (tgt := 95) d_X1_note_87 rfl (fun _ => ?_) (fun hc => absurd hc (by omega))
      refine Tr.iconst (pc := 95) d_X1_note_95 (by decide) ?_
      refine Tr.iadd (pc := 96) d_X1_note_96 ?_
      refine Tr.tp r84 ((w32_id (by omega)).trans (by omega)) ?_
      refine Tr.iastS (pc := 97) (P := St Rn ws_X1_note_56_w3 as_X1_note_56_w3 M0) d_X1_note_97 (ty_61 hS.1.1) (by omega) (by omega) (sa_61 hS (by decide) (by omega) (Rn.of hS.1.2.2.2.2 (fun _ => rd_wb _ rfl) (rd_wb _ rfl))) (fun M97 hS w97 => ?_)
      refine Tr.aload_n (pc := 98) (i := 0) d_X1_note_98 rfl rfl ?_
      refine Tr.getf (pc := 99) d_X1_note_99 f_1_21 (by decide) (by decide) (ty_56 hS.1.1) ?_
      refine Tr.tp 60 (fx_56_5 hS.1.1) ?_
      refine Tr.iload (pc := 102) (i := 5) d_X1_note_102 rfl ?_
      refine Tr.dup2 (pc := 104) d_X1_note_104 ne01 ne21 ?_
      refine Tr.iald (pc := 105) d_X1_note_105 (ty_60 hS.1.1) (by omega) (by omega) ?_
      refine Tr.gen (P := fun v => (-2147483648) ≤ v ∧ v ≤ 2147483647) (ar_60 hS.1.2.1 _) (fun r105 er105 br105 => ?_)
      refine Tr.iload_n (pc := 106) (i := 2) d_X1_note_106 rfl rfl ?_
      refine Tr.tp 3 (by omega) ?_
      refine Tr.iconst (pc := 107) d_X1_note_107 (by decide) ?_
      refine Tr.icmp_ne (pc := 108) (tgt := 115) d_X1_note_108 rfl (fun _ => ?_) (fun hc => absurd hc (by omega))
      refine Tr.iload (pc := 115) (i := 6) d_X1_note_115 rfl ?_
      refine Tr.iadd (pc := 117) d_X1_note_117 ?_
      refine Tr.gen (P := fun v => (-2147483648) ≤ v ∧ v ≤ 2147483647) (w32_b _) (fun r117 er117 br117 => ?_)
      refine Tr.iastS (pc := 118) (P := St Rn ws_X1_note_56_w3 as_X1_note_56_w3 M0) d_X1_note_118 (ty_60 hS.1.1) (by omega) (by omega) (sa_60 hS (by decide) (by omega) (Rn.of hS.1.2.2.2.2 (fun _ => rd_wb _ rfl) (rd_wb _ rfl))) (fun M118 hS w118 => ?_)
      refine Tr.aload_n (pc := 119) (i := 0) d_X1_note_119 rfl rfl ?_
      refine Tr.getf (pc := 120) d_X1_note_120 f_1_33 (by decide) (by decide) (ty_56 hS.1.1) ?_
      refine Tr.tp 63 (fx_56_8 hS.1.1) ?_
      refine Tr.iload_n (pc := 123) (i := 1) d_X1_note_123 rfl rfl ?_
      refine Tr.iload (pc := 124) (i := 5) d_X1_note_124 rfl ?_
      refine Tr.iload_n (pc := 126) (i := 3) d_X1_note_126 rfl rfl ?_
      refine Tr.iload (pc := 127) (i := 4) d_X1_note_127 rfl ?_
      refine Tr.iload_n (pc := 129) (i := 2) d_X1_note_129 rfl rfl ?_
      refine Tr.tp 3 (by omega) ?_
      refine Tr.iconst (pc := 130) d_X1_note_130 (by decide) ?_
      refine Tr.icmp_ne (pc := 131) (tgt := 138) d_X1_note_131 rfl (fun _ => ?_) (fun hc => absurd hc (by omega))
      refine Tr.iconst (pc := 138) d_X1_note_138 (by decide) ?_
      refine Tr.callV (pc := 139) (as := [_, _, _, _, _]) d_X1_note_139 s_1_74 ok_X8_stayUp rfl rfl (Nat.le_of_ble_eq_true rfl) (Nat.le_of_ble_eq_true rfl) (by decide) (ty_63 hS.1.1) ?_
      refine Tr.imp (Tr.deep (by decide) (sp_X8_stayUp_63_w1 hS.1 a1 (by omega) r37 (by omega) a3 (by omega) a4 (by omega) 0 (by omega))) ?_
      rintro M139 _ ⟨h139, rfl⟩
      have hS := St.tr hS h139 (by decide) (by decide)
      refine Tr.sc [] rfl ?_
      exact Tr.vret (pc := 142) d_X1_note_142 rfl ⟨hS, rfl⟩
  · exact Tr.vret (pc := 6) d_X1_note_6 rfl ⟨hS, rfl⟩

def ws_X6_sipsAt_48_w2 : List (Int × Int) := []
def as_X6_sipsAt_48_w2 : List Int := []
def q_X6_sipsAt_48_w2 (M0 M' : Mem) (r : Option PV) : Prop := St Tru ws_X6_sipsAt_48_w2 as_X6_sipsAt_48_w2 M0 M' ∧ ∃ v : Int, r = some (0, v) ∧ (-2147483648) ≤ v ∧ v ≤ 2147483647
set_option maxRecDepth 100000 in
set_option maxHeartbeats 4000000 in
theorem sp_X6_sipsAt_48_w2 {l : Launch} {K : EC} {M0 : Mem} (hI : In Tru M0) (en_48_1 : rd M0 48 1 = 7) (a1 : Int) (ha1 : (-2147483648) ≤ a1 ∧ a1 ≤ 2147483647) (a2 : Int) (ha2 : 0 ≤ a2 ∧ a2 ≤ 5) (a3 : Int) (ha3 : 3 ≤ a3 ∧ a3 ≤ 3)  : Tr l K 0 mX6_sipsAt 0 [(0, (2, 48)), (1, (0, a1)), (2, (0, a2)), (3, (0, a3))] [] M0 (q_X6_sipsAt_48_w2 M0) := by
  have hS : St Tru ws_X6_sipsAt_48_w2 as_X6_sipsAt_48_w2 M0 M0 := St.rf hI
  refine Tr.aload_n (pc := 0) (i := 0) d_X6_sipsAt_0 rfl rfl ?_
  refine Tr.getf (pc := 1) d_X6_sipsAt_1 f_6_46 (by decide) (by decide) (ty_48 hS.1.1) ?_
  refine Tr.tp 7 ((St.kp hS (by decide) (by decide) (by decide)).trans en_48_1) ?_
  refine Tr.getf (pc := 4) d_X6_sipsAt_4 f_6_135 (by decide) (by decide) (ty_7 hS.1.1) ?_
  refine Tr.gen (P := fun v => (-1) ≤ v ∧ v ≤ 999) (ir_7_0 hS.1.2.1) (fun r4 er4 br4 => ?_)
  refine Tr.istore (pc := 7) (i := 4) (ls2 := [(4, (0, r4)), (0, (2, 48)), (1, (0, a1)), (2, (0, a2)), (3, (0, a3))]) d_X6_sipsAt_7 (by decide) rfl ?_
  refine Tr.iconst (pc := 9) d_X6_sipsAt_9 (by decide) ?_
  refine Tr.istore (pc := 10) (i := 5) (ls2 := [(5, (0, 0)), (4, (0, r4)), (0, (2, 48)), (1, (0, a1)), (2, (0, a2)), (3, (0, a3))]) d_X6_sipsAt_10 (by decide) rfl ?_
  have J12 : ∀ (n12 : Nat) (M : Mem) (p12_4 p12_5 : Int), St Tru ws_X6_sipsAt_48_w2 as_X6_sipsAt_48_w2 M0 M → ((-2147483648) ≤ p12_4 ∧ p12_4 ≤ 2147483647) → (0 ≤ p12_5 ∧ p12_5 ≤ 6) → rd M 7 0 = r4 → (6 - p12_5).toNat < n12 → Tr l K 0 mX6_sipsAt 12 [(0, (2, 48)), (1, (0, a1)), (2, (0, a2)), (3, (0, a3)), (4, (0, p12_4)), (5, (0, p12_5))] [] M (q_X6_sipsAt_48_w2 M0) := by
    intro n12
    induction n12 with
    | zero => intro M p12_4 p12_5 hS bp12_4 bp12_5 k12_7_0 hm12; exact absurd hm12 (Nat.not_lt_zero _)
    | succ n12 J12 =>
      intro M p12_4 p12_5 hS bp12_4 bp12_5 k12_7_0 hm12
      refine Tr.iload (pc := 12) (i := 5) d_X6_sipsAt_12 rfl ?_
      refine Tr.aload_n (pc := 14) (i := 0) d_X6_sipsAt_14 rfl rfl ?_
      refine Tr.getf (pc := 15) d_X6_sipsAt_15 f_6_46 (by decide) (by decide) (ty_48 hS.1.1) ?_
      refine Tr.tp 7 ((St.kp hS (by decide) (by decide) (by decide)).trans en_48_1) ?_
      refine Tr.getf (pc := 18) d_X6_sipsAt_18 f_6_116 (by decide) (by decide) (ty_7 hS.1.1) ?_
      refine Tr.tp 8 (fx_7_4 hS.1.1) ?_
      refine Tr.iconst (pc := 21) d_X6_sipsAt_21 (by decide) ?_
      refine Tr.iald (pc := 22) d_X6_sipsAt_22 (ty_8 hS.1.1) (by omega) (by omega) ?_
      refine Tr.gen (P := fun v => 0 ≤ v ∧ v ≤ 6) (ir_8_0 hS.1.2.1) (fun r22 er22 br22 => ?_)
      refine Tr.icmp_ge (pc := 23) (tgt := 91) d_X6_sipsAt_23 rfl (fun c23 => ?_) (fun c23 => ?_)
      · refine Tr.iload (pc := 91) (i := 4) d_X6_sipsAt_91 rfl ?_
        exact Tr.iret (pc := 93) d_X6_sipsAt_93 rfl ⟨hS, _, rfl, by omega, by omega⟩
      · refine Tr.aload_n (pc := 26) (i := 0) d_X6_sipsAt_26 rfl rfl ?_
        refine Tr.getf (pc := 27) d_X6_sipsAt_27 f_6_24 (by decide) (by decide) (ty_48 hS.1.1) ?_
        refine Tr.tp 53 (fx_48_6 hS.1.1) ?_
        refine Tr.iload (pc := 30) (i := 5) d_X6_sipsAt_30 rfl ?_
        refine Tr.iald (pc := 32) d_X6_sipsAt_32 (ty_53 hS.1.1) (by omega) (by omega) ?_
        refine Tr.gen (P := fun v => 0 ≤ v ∧ v ≤ 1) (ar_53 hS.1.2.1 _) (fun r32 er32 br32 => ?_)
        refine Tr.iconst (pc := 33) d_X6_sipsAt_33 (by decide) ?_
        have J53 : ∀ (M : Mem) (q53_0 : Int), St Tru ws_X6_sipsAt_48_w2 as_X6_sipsAt_48_w2 M0 M → (0 ≤ q53_0 ∧ q53_0 ≤ 2) → rd M 53 p12_5 = r32 → rd M 7 0 = r4 → rd M 8 0 = r22 → Tr l K 0 mX6_sipsAt 53 [(0, (2, 48)), (1, (0, a1)), (2, (0, a2)), (3, (0, a3)), (4, (0, p12_4)), (5, (0, p12_5))] [(0, q53_0)] M (q_X6_sipsAt_48_w2 M0) := by
          intro M q53_0 hS bq53_0 k53_53_p12_510 k53_7_0 k53_8_0
          refine Tr.istore (pc := 53) (i := 6) (ls2 := [(6, (0, q53_0)), (0, (2, 48)), (1, (0, a1)), (2, (0, a2)), (3, (0, a3)), (4, (0, p12_4)), (5, (0, p12_5))]) d_X6_sipsAt_53 (by decide) rfl ?_
          refine Tr.iload (pc := 55) (i := 4) d_X6_sipsAt_55 rfl ?_
          refine Tr.aload_n (pc := 57) (i := 0) d_X6_sipsAt_57 rfl rfl ?_
          refine Tr.getf (pc := 58) d_X6_sipsAt_58 f_6_46 (by decide) (by decide) (ty_48 hS.1.1) ?_
          refine Tr.tp 7 ((St.kp hS (by decide) (by decide) (by decide)).trans en_48_1) ?_
          refine Tr.getf (pc := 61) d_X6_sipsAt_61 f_6_189 (by decide) (by decide) (ty_7 hS.1.1) ?_
          refine Tr.tp 9 (fx_7_5 hS.1.1) ?_
          refine Tr.iload (pc := 64) (i := 5) d_X6_sipsAt_64 rfl ?_
          refine Tr.iconst (pc := 66) d_X6_sipsAt_66 (by decide) ?_
          refine Tr.imul (pc := 67) d_X6_sipsAt_67 ?_
          refine Tr.tp (4 * p12_5) ((w32_id (by omega)).trans (by omega)) ?_
          refine Tr.iload (pc := 68) (i := 5) d_X6_sipsAt_68 rfl ?_
          refine Tr.iload_n (pc := 70) (i := 2) d_X6_sipsAt_70 rfl rfl ?_
          have J80 : ∀ (M : Mem) (q80_3 : Int), St Tru ws_X6_sipsAt_48_w2 as_X6_sipsAt_48_w2 M0 M → (0 ≤ q80_3 ∧ q80_3 ≤ 3) → rd M 53 p12_5 = r32 → rd M 7 0 = r4 → rd M 8 0 = r22 → Tr l K 0 mX6_sipsAt 80 [(0, (2, 48)), (1, (0, a1)), (2, (0, a2)), (3, (0, a3)), (5, (0, p12_5))] [(0, q80_3), (0, (4 * p12_5)), (2, 9), (0, p12_4)] M (q_X6_sipsAt_48_w2 M0) := by
            intro M q80_3 hS bq80_3 k80_53_p12_510 k80_7_0 k80_8_0
            refine Tr.iadd (pc := 80) d_X6_sipsAt_80 ?_
            refine Tr.tp (4 * p12_5 + q80_3) ((w32_id (by omega)).trans (by omega)) ?_
            refine Tr.iald (pc := 81) d_X6_sipsAt_81 (ty_9 hS.1.1) (by omega) (by omega) ?_
            refine Tr.gen (P := fun v => (-1) ≤ v ∧ v ≤ 999) (ar_9 hS.1.2.1 _) (fun r81 er81 br81 => ?_)
            refine Tr.iadd (pc := 82) d_X6_sipsAt_82 ?_
            refine Tr.gen (P := fun v => (-2147483648) ≤ v ∧ v ≤ 2147483647) (w32_b _) (fun r82 er82 br82 => ?_)
            refine Tr.istore (pc := 83) (i := 4) (ls2 := [(4, (0, r82)), (0, (2, 48)), (1, (0, a1)), (2, (0, a2)), (3, (0, a3)), (5, (0, p12_5))]) d_X6_sipsAt_83 (by decide) rfl ?_
            refine Tr.iincV (pc := 85) (n2 := (p12_5 + 1)) (ls2 := [(5, (0, (p12_5 + 1))), (4, (0, r82)), (0, (2, 48)), (1, (0, a1)), (2, (0, a2)), (3, (0, a3))]) d_X6_sipsAt_85 rfl (by decide) ((w32_id (by omega)).trans (by omega)) rfl ?_
            refine Tr.goto (pc := 88) (tgt := 12) d_X6_sipsAt_88 rfl ?_
            refine Tr.pick [2, 3, 4, 5, 1, 0] (ls2 := [(0, (2, 48)), (1, (0, a1)), (2, (0, a2)), (3, (0, a3)), (4, (0, r82)), (5, (0, (p12_5 + 1)))]) rfl ?_
            exact J12 _ _ _ hS (by omega) (by omega) k80_7_0 (by omega)
          refine Tr.icmp_ne (pc := 71) (tgt := 78) d_X6_sipsAt_71 rfl (fun c71 => ?_) (fun c71 => ?_)
          · refine Tr.iload (pc := 78) (i := 6) d_X6_sipsAt_78 rfl ?_
            refine Tr.pick [1, 2, 3, 4, 6] (ls2 := [(0, (2, 48)), (1, (0, a1)), (2, (0, a2)), (3, (0, a3)), (5, (0, p12_5))]) rfl ?_
            exact J80 _ _ hS (by omega) k53_53_p12_510 k53_7_0 k53_8_0
          · refine Tr.iload_n (pc := 74) (i := 3) d_X6_sipsAt_74 rfl rfl ?_
            refine Tr.tp 3 (by omega) ?_
            refine Tr.goto (pc := 75) (tgt := 80) d_X6_sipsAt_75 rfl ?_
            refine Tr.pick [1, 2, 3, 4, 6] (ls2 := [(0, (2, 48)), (1, (0, a1)), (2, (0, a2)), (3, (0, a3)), (5, (0, p12_5))]) rfl ?_
            exact J80 _ _ hS (by omega) k53_53_p12_510 k53_7_0 k53_8_0
        have J48 : ∀ (M : Mem), St Tru ws_X6_sipsAt_48_w2 as_X6_sipsAt_48_w2 M0 M → rd M 53 p12_5 = r32 → rd M 7 0 = r4 → rd M 8 0 = r22 → Tr l K 0 mX6_sipsAt 48 [(0, (2, 48)), (1, (0, a1)), (2, (0, a2)), (3, (0, a3)), (4, (0, p12_4)), (5, (0, p12_5))] [] M (q_X6_sipsAt_48_w2 M0) := by
          intro M  hS  k48_53_p12_510 k48_7_0 k48_8_0
          refine Tr.iconst (pc := 48) d_X6_sipsAt_48 (by decide) ?_
          refine Tr.goto (pc := 49) (tgt := 53) d_X6_sipsAt_49 rfl ?_
          refine Tr.pick [0, 1, 2, 3, 4, 5] (ls2 := [(0, (2, 48)), (1, (0, a1)), (2, (0, a2)), (3, (0, a3)), (4, (0, p12_4)), (5, (0, p12_5))]) rfl ?_
          exact J53 _ _ hS (by omega) k48_53_p12_510 k48_7_0 k48_8_0
        refine Tr.icmp_eq (pc := 34) (tgt := 48) d_X6_sipsAt_34 rfl (fun c34 => ?_) (fun c34 => ?_)
        · refine Tr.pick [0, 1, 2, 3, 4, 5] (ls2 := [(0, (2, 48)), (1, (0, a1)), (2, (0, a2)), (3, (0, a3)), (4, (0, p12_4)), (5, (0, p12_5))]) rfl ?_
          exact J48 _ hS er32 k12_7_0 er22
        · refine Tr.iload_n (pc := 37) (i := 1) d_X6_sipsAt_37 rfl rfl ?_
          refine Tr.aload_n (pc := 38) (i := 0) d_X6_sipsAt_38 rfl rfl ?_
          refine Tr.getf (pc := 39) d_X6_sipsAt_39 f_6_27 (by decide) (by decide) (ty_48 hS.1.1) ?_
          refine Tr.tp 54 (fx_48_7 hS.1.1) ?_
          refine Tr.iload (pc := 42) (i := 5) d_X6_sipsAt_42 rfl ?_
          refine Tr.iald (pc := 44) d_X6_sipsAt_44 (ty_54 hS.1.1) (by omega) (by omega) ?_
          refine Tr.gen (P := fun v => (-2147483648) ≤ v ∧ v ≤ 2147483647) (ar_54 hS.1.2.1 _) (fun r44 er44 br44 => ?_)
          refine Tr.icmp_ge (pc := 45) (tgt := 52) d_X6_sipsAt_45 rfl (fun c45 => ?_) (fun c45 => ?_)
          · refine Tr.iconst (pc := 52) d_X6_sipsAt_52 (by decide) ?_
            refine Tr.pick [0, 1, 2, 3, 4, 5] (ls2 := [(0, (2, 48)), (1, (0, a1)), (2, (0, a2)), (3, (0, a3)), (4, (0, p12_4)), (5, (0, p12_5))]) rfl ?_
            exact J53 _ _ hS (by omega) er32 k12_7_0 er22
          · refine Tr.pick [0, 1, 2, 3, 4, 5] (ls2 := [(0, (2, 48)), (1, (0, a1)), (2, (0, a2)), (3, (0, a3)), (4, (0, p12_4)), (5, (0, p12_5))]) rfl ?_
            exact J48 _ hS er32 k12_7_0 er22
  refine Tr.pick [2, 3, 4, 5, 1, 0] (ls2 := [(0, (2, 48)), (1, (0, a1)), (2, (0, a2)), (3, (0, a3)), (4, (0, r4)), (5, (0, 0))]) rfl ?_
  exact J12 _ _ _ _ hS (by omega) (by omega) er4 (Nat.lt_succ_self _)

def ws_X6_afforded_48_w4 : List (Int × Int) := [(48, 17)]
def as_X6_afforded_48_w4 : List Int := []
def q_X6_afforded_48_w4 (M0 M' : Mem) (r : Option PV) : Prop := St Tru ws_X6_afforded_48_w4 as_X6_afforded_48_w4 M0 M' ∧ ∃ v : Int, r = some (0, v) ∧ (-2147483648) ≤ v ∧ v ≤ 50
set_option maxRecDepth 100000 in
set_option maxHeartbeats 4000000 in
theorem sp_X6_afforded_48_w4 {l : Launch} {K : EC} {M0 : Mem} (hI : In Tru M0) (en_48_1 : rd M0 48 1 = 7) (a1 : Int) (ha1 : (-2147483648) ≤ a1 ∧ a1 ≤ 50) (a2 : Int) (ha2 : 0 ≤ a2 ∧ a2 ≤ 5) (a3 : Int) (ha3 : 3 ≤ a3 ∧ a3 ≤ 3)  : Tr l K 1 mX6_afforded 0 [(0, (2, 48)), (1, (0, a1)), (2, (0, a2)), (3, (0, a3))] [] M0 (q_X6_afforded_48_w4 M0) := by
  have hS : St Tru ws_X6_afforded_48_w4 as_X6_afforded_48_w4 M0 M0 := St.rf hI
  refine Tr.iconst (pc := 0) d_X6_afforded_0 (by decide) ?_
  refine Tr.istore (pc := 1) (i := 4) (ls2 := [(4, (0, 0)), (0, (2, 48)), (1, (0, a1)), (2, (0, a2)), (3, (0, a3))]) d_X6_afforded_1 (by decide) rfl ?_
  have J3 : ∀ (n3 : Nat) (M : Mem) (p3_4 : Int), St Tru ws_X6_afforded_48_w4 as_X6_afforded_48_w4 M0 M → (0 ≤ p3_4 ∧ p3_4 ≤ 50) → (50 - p3_4).toNat < n3 → Tr l K 1 mX6_afforded 3 [(0, (2, 48)), (1, (0, a1)), (2, (0, a2)), (3, (0, a3)), (4, (0, p3_4))] [] M (q_X6_afforded_48_w4 M0) := by
    intro n3
    induction n3 with
    | zero => intro M p3_4 hS bp3_4  hm3; exact absurd hm3 (Nat.not_lt_zero _)
    | succ n3 J3 =>
      intro M p3_4 hS bp3_4  hm3
      refine Tr.iload (pc := 3) (i := 4) d_X6_afforded_3 rfl ?_
      refine Tr.iload_n (pc := 5) (i := 1) d_X6_afforded_5 rfl rfl ?_
      refine Tr.icmp_ge (pc := 6) (tgt := 53) d_X6_afforded_6 rfl (fun c6 => ?_) (fun c6 => ?_)
      · refine Tr.iload_n (pc := 53) (i := 1) d_X6_afforded_53 rfl rfl ?_
        exact Tr.iret (pc := 54) d_X6_afforded_54 rfl ⟨hS, _, rfl, by omega, by omega⟩
      · refine Tr.aload_n (pc := 9) (i := 0) d_X6_afforded_9 rfl rfl ?_
        refine Tr.aload_n (pc := 10) (i := 0) d_X6_afforded_10 rfl rfl ?_
        refine Tr.getf (pc := 11) d_X6_afforded_11 f_6_68 (by decide) (by decide) (ty_48 hS.1.1) ?_
        refine Tr.gen (P := fun v => (-2147483648) ≤ v ∧ v ≤ 2147483647) (ir_48_9 hS.1.2.1) (fun r11 er11 br11 => ?_)
        refine Tr.iload (pc := 14) (i := 4) d_X6_afforded_14 rfl ?_
        refine Tr.iadd (pc := 16) d_X6_afforded_16 ?_
        refine Tr.gen (P := fun v => (-2147483648) ≤ v ∧ v ≤ 2147483647) (w32_b _) (fun r16 er16 br16 => ?_)
        refine Tr.iload_n (pc := 17) (i := 2) d_X6_afforded_17 rfl rfl ?_
        refine Tr.iload_n (pc := 18) (i := 3) d_X6_afforded_18 rfl rfl ?_
        refine Tr.tp 3 (by omega) ?_
        refine Tr.callV (pc := 19) (as := [_, _, _]) d_X6_afforded_19 s_6_186 ok_X6_sipsAt rfl rfl (Nat.le_of_ble_eq_true rfl) (Nat.le_of_ble_eq_true rfl) (by decide) (ty_48 hS.1.1) ?_
        refine Tr.imp (Tr.deep (by decide) (sp_X6_sipsAt_48_w2 hS.1 ((St.kp hS (by decide) (by decide) (by decide)).trans en_48_1) r16 (by omega) a2 (by omega) 3 (by omega))) ?_
        rintro M19 _ ⟨h19, r19, rfl, lr19, ur19⟩
        have hS := St.tr hS h19 (by decide) (by decide)
        refine Tr.sc [(0, r19)] rfl ?_
        refine Tr.istore (pc := 22) (i := 5) (ls2 := [(5, (0, r19)), (0, (2, 48)), (1, (0, a1)), (2, (0, a2)), (3, (0, a3)), (4, (0, p3_4))]) d_X6_afforded_22 (by decide) rfl ?_
        refine Tr.iload (pc := 24) (i := 5) d_X6_afforded_24 rfl ?_
        refine Tr.aload_n (pc := 26) (i := 0) d_X6_afforded_26 rfl rfl ?_
        refine Tr.getf (pc := 27) d_X6_afforded_27 f_6_110 (by decide) (by decide) (ty_48 hS.1.1) ?_
        refine Tr.gen (P := fun v => (-2147483648) ≤ v ∧ v ≤ 2147483647) (ir_48_17 hS.1.2.1) (fun r27 er27 br27 => ?_)
        refine Tr.icmp_le (pc := 30) (tgt := 36) d_X6_afforded_30 rfl (fun c30 => ?_) (fun c30 => ?_)
        · refine Tr.aload_n (pc := 36) (i := 0) d_X6_afforded_36 rfl rfl ?_
          refine Tr.dup (pc := 37) d_X6_afforded_37 ne21 ?_
          refine Tr.getf (pc := 38) d_X6_afforded_38 f_6_110 (by decide) (by decide) (ty_48 hS.1.1) ?_
          refine Tr.tp r27 er27 ?_
          refine Tr.iload (pc := 41) (i := 5) d_X6_afforded_41 rfl ?_
          refine Tr.isub (pc := 43) d_X6_afforded_43 ?_
          refine Tr.gen (P := fun v => (-2147483648) ≤ v ∧ v ≤ 2147483647) (w32_b _) (fun r43 er43 br43 => ?_)
          refine Tr.putfS (pc := 44) (P := St Tru ws_X6_afforded_48_w4 as_X6_afforded_48_w4 M0) d_X6_afforded_44 f_6_110 (by decide) (by decide) (ty_48 hS.1.1) (st_48_17 hS (by decide) (by omega) trivial) (fun M44 hS w44 => ?_)
          refine Tr.iincV (pc := 47) (n2 := (p3_4 + 1)) (ls2 := [(4, (0, (p3_4 + 1))), (5, (0, r19)), (0, (2, 48)), (1, (0, a1)), (2, (0, a2)), (3, (0, a3))]) d_X6_afforded_47 rfl (by decide) ((w32_id (by omega)).trans (by omega)) rfl ?_
          refine Tr.goto (pc := 50) (tgt := 3) d_X6_afforded_50 rfl ?_
          refine Tr.pick [2, 3, 4, 5, 0] (ls2 := [(0, (2, 48)), (1, (0, a1)), (2, (0, a2)), (3, (0, a3)), (4, (0, (p3_4 + 1)))]) rfl ?_
          exact J3 _ _ hS (by omega) (by omega)
        · refine Tr.iload (pc := 33) (i := 4) d_X6_afforded_33 rfl ?_
          exact Tr.iret (pc := 35) d_X6_afforded_35 rfl ⟨hS, _, rfl, by omega, by omega⟩
  refine Tr.pick [1, 2, 3, 4, 0] (ls2 := [(0, (2, 48)), (1, (0, a1)), (2, (0, a2)), (3, (0, a3)), (4, (0, 0))]) rfl ?_
  exact J3 _ _ _ hS (by omega) (Nat.lt_succ_self _)

def ws_X6_pass_48_w4 : List (Int × Int) := [(48, 9), (48, 14), (48, 17)]
def as_X6_pass_48_w4 : List Int := []
def q_X6_pass_48_w4 (M0 M' : Mem) (r : Option PV) : Prop := St Tru ws_X6_pass_48_w4 as_X6_pass_48_w4 M0 M' ∧ ∃ v : Int, r = some (0, v) ∧ (-2147483648) ≤ v ∧ v ≤ 50
set_option maxRecDepth 100000 in
set_option maxHeartbeats 4000000 in
theorem sp_X6_pass_48_w4 {l : Launch} {K : EC} {M0 : Mem} (hI : In Tru M0) (en_48_1 : rd M0 48 1 = 7) (a1 : Int) (ha1 : 0 ≤ a1 ∧ a1 ≤ 50) (a2 : Int) (ha2 : 0 ≤ a2 ∧ a2 ≤ 5) (a3 : Int) (ha3 : 3 ≤ a3 ∧ a3 ≤ 3)  : Tr l K 2 mX6_pass 0 [(0, (2, 48)), (1, (0, a1)), (2, (0, a2)), (3, (0, a3))] [] M0 (q_X6_pass_48_w4 M0) := by
  have hS : St Tru ws_X6_pass_48_w4 as_X6_pass_48_w4 M0 M0 := St.rf hI
  refine Tr.iload_n (pc := 0) (i := 1) d_X6_pass_0 rfl rfl ?_
  refine Tr.sipush (pc := 1) d_X6_pass_1 rfl (by decide) ?_
  refine Tr.aload_n (pc := 4) (i := 0) d_X6_pass_4 rfl rfl ?_
  refine Tr.getf (pc := 5) d_X6_pass_5 f_6_68 (by decide) (by decide) (ty_48 hS.1.1) ?_
  refine Tr.gen (P := fun v => (-2147483648) ≤ v ∧ v ≤ 2147483647) (ir_48_9 hS.1.2.1) (fun r5 er5 br5 => ?_)
  refine Tr.isub (pc := 8) d_X6_pass_8 ?_
  refine Tr.gen (P := fun v => (-2147483648) ≤ v ∧ v ≤ 2147483647) (w32_b _) (fun r8 er8 br8 => ?_)
  refine Tr.mmin (pc := 9) d_X6_pass_9 ml_6_158 mw_mmin (Nat.le_of_ble_eq_true rfl) ?_
  refine Tr.gen (P := fun v => (v = a1 ∧ a1 ≤ r8) ∨ (v = r8 ∧ r8 ≤ a1)) (f_min_p _ _) (fun r9 er9 br9 => ?_)
  refine Tr.istore (pc := 12) (i := 4) (ls2 := [(4, (0, r9)), (0, (2, 48)), (1, (0, a1)), (2, (0, a2)), (3, (0, a3))]) d_X6_pass_12 (by decide) rfl ?_
  refine Tr.aload_n (pc := 14) (i := 0) d_X6_pass_14 rfl rfl ?_
  refine Tr.getz (pc := 15) d_X6_pass_15 f_6_106 (by decide) (ty_48 hS.1.1) ?_
  refine Tr.gen (P := fun v => 0 ≤ v ∧ v ≤ 1) (ir_48_16 hS.1.2.1) (fun r15 er15 br15 => ?_)
  have J34 : ∀ (M : Mem) (q34_0 : Int), St Tru ws_X6_pass_48_w4 as_X6_pass_48_w4 M0 M → ((-2147483648) ≤ q34_0 ∧ q34_0 ≤ 50) → rd M 48 16 = r15 → rd M 48 9 = r5 → Tr l K 2 mX6_pass 34 [(0, (2, 48)), (1, (0, a1)), (4, (0, r9))] [(0, q34_0)] M (q_X6_pass_48_w4 M0) := by
    intro M q34_0 hS bq34_0 k34_48_16 k34_48_9
    refine Tr.istore (pc := 34) (i := 5) (ls2 := [(5, (0, q34_0)), (0, (2, 48)), (1, (0, a1)), (4, (0, r9))]) d_X6_pass_34 (by decide) rfl ?_
    refine Tr.aload_n (pc := 36) (i := 0) d_X6_pass_36 rfl rfl ?_
    refine Tr.dup (pc := 37) d_X6_pass_37 ne21 ?_
    refine Tr.getf (pc := 38) d_X6_pass_38 f_6_68 (by decide) (by decide) (ty_48 hS.1.1) ?_
    refine Tr.tp r5 k34_48_9 ?_
    refine Tr.iload (pc := 41) (i := 5) d_X6_pass_41 rfl ?_
    refine Tr.iadd (pc := 43) d_X6_pass_43 ?_
    refine Tr.gen (P := fun v => (-2147483648) ≤ v ∧ v ≤ 2147483647) (w32_b _) (fun r43 er43 br43 => ?_)
    refine Tr.putfS (pc := 44) (P := St Tru ws_X6_pass_48_w4 as_X6_pass_48_w4 M0) d_X6_pass_44 f_6_68 (by decide) (by decide) (ty_48 hS.1.1) (st_48_9 hS (by decide) (by omega) trivial) (fun M44 hS w44 => ?_)
    refine Tr.iload (pc := 47) (i := 5) d_X6_pass_47 rfl ?_
    refine Tr.iload_n (pc := 49) (i := 1) d_X6_pass_49 rfl rfl ?_
    refine Tr.icmp_ge (pc := 50) (tgt := 69) d_X6_pass_50 rfl (fun c50 => ?_) (fun c50 => ?_)
    · refine Tr.iload (pc := 69) (i := 5) d_X6_pass_69 rfl ?_
      exact Tr.iret (pc := 71) d_X6_pass_71 rfl ⟨hS, _, rfl, by omega, by omega⟩
    · refine Tr.aload_n (pc := 53) (i := 0) d_X6_pass_53 rfl rfl ?_
      refine Tr.iload (pc := 54) (i := 5) d_X6_pass_54 rfl ?_
      refine Tr.iload (pc := 56) (i := 4) d_X6_pass_56 rfl ?_
      refine Tr.icmp_ne (pc := 58) (tgt := 65) d_X6_pass_58 rfl (fun c58 => ?_) (fun c58 => ?_)
      · refine Tr.iconst (pc := 65) d_X6_pass_65 (by decide) ?_
        refine Tr.putfS (pc := 66) (P := St Tru ws_X6_pass_48_w4 as_X6_pass_48_w4 M0) d_X6_pass_66 f_6_62 (by decide) (by decide) (ty_48 hS.1.1) (st_48_14 hS (by decide) (by omega) trivial) (fun M66 hS w66 => ?_)
        refine Tr.iload (pc := 69) (i := 5) d_X6_pass_69 rfl ?_
        exact Tr.iret (pc := 71) d_X6_pass_71 rfl ⟨hS, _, rfl, by omega, by omega⟩
      · refine Tr.iconst (pc := 61) d_X6_pass_61 (by decide) ?_
        refine Tr.goto (pc := 62) (tgt := 66) d_X6_pass_62 rfl ?_
        refine Tr.putfS (pc := 66) (P := St Tru ws_X6_pass_48_w4 as_X6_pass_48_w4 M0) d_X6_pass_66 f_6_62 (by decide) (by decide) (ty_48 hS.1.1) (st_48_14 hS (by decide) (by omega) trivial) (fun M66 hS w66 => ?_)
        refine Tr.iload (pc := 69) (i := 5) d_X6_pass_69 rfl ?_
        exact Tr.iret (pc := 71) d_X6_pass_71 rfl ⟨hS, _, rfl, by omega, by omega⟩
  refine Tr.if_eq (pc := 18) (tgt := 32) d_X6_pass_18 rfl (fun c18 => ?_) (fun c18 => ?_)
  · refine Tr.iload (pc := 32) (i := 4) d_X6_pass_32 rfl ?_
    refine Tr.pick [1, 2, 0] (ls2 := [(0, (2, 48)), (1, (0, a1)), (4, (0, r9))]) rfl ?_
    exact J34 _ _ hS (by omega) er15 er5
  · refine Tr.aload_n (pc := 21) (i := 0) d_X6_pass_21 rfl rfl ?_
    refine Tr.iload (pc := 22) (i := 4) d_X6_pass_22 rfl ?_
    refine Tr.iload_n (pc := 24) (i := 2) d_X6_pass_24 rfl rfl ?_
    refine Tr.iload_n (pc := 25) (i := 3) d_X6_pass_25 rfl rfl ?_
    refine Tr.tp 3 (by omega) ?_
    refine Tr.callV (pc := 26) (as := [_, _, _]) d_X6_pass_26 s_6_183 ok_X6_afforded rfl rfl (Nat.le_of_ble_eq_true rfl) (Nat.le_of_ble_eq_true rfl) (by decide) (ty_48 hS.1.1) ?_
    refine Tr.imp (Tr.deep (by decide) (sp_X6_afforded_48_w4 hS.1 ((St.kp hS (by decide) (by decide) (by decide)).trans en_48_1) r9 (by omega) a2 (by omega) 3 (by omega))) ?_
    rintro M26 _ ⟨h26, r26, rfl, lr26, ur26⟩
    have hS := St.tr hS h26 (by decide) (by decide)
    refine Tr.sc [(0, r26)] rfl ?_
    refine Tr.goto (pc := 29) (tgt := 34) d_X6_pass_29 rfl ?_
    refine Tr.pick [1, 2, 0] (ls2 := [(0, (2, 48)), (1, (0, a1)), (4, (0, r9))]) rfl ?_
    exact J34 _ _ hS (by omega) ((St.kp h26 (by decide) (by decide) (by decide)).trans er15) ((St.kp h26 (by decide) (by decide) (by decide)).trans er5)

def ws_X1_sippedByParts_56 : List (Int × Int) := []
def as_X1_sippedByParts_56 : List Int := []
def q_X1_sippedByParts_56 (M0 M' : Mem) (r : Option PV) : Prop := St Tru ws_X1_sippedByParts_56 as_X1_sippedByParts_56 M0 M' ∧ ∃ v : Int, r = some (0, v) ∧ (-2147483648) ≤ v ∧ v ≤ 2147483647
set_option maxRecDepth 100000 in
set_option maxHeartbeats 4000000 in
theorem sp_X1_sippedByParts_56 {l : Launch} {K : EC} {M0 : Mem} (hI : In Tru M0) (en_56_1 : rd M0 56 1 = 7)   : Tr l K 0 mX1_sippedByParts 0 [(0, (2, 56))] [] M0 (q_X1_sippedByParts_56 M0) := by
  have hS : St Tru ws_X1_sippedByParts_56 as_X1_sippedByParts_56 M0 M0 := St.rf hI
  refine Tr.iconst (pc := 0) d_X1_sippedByParts_0 (by decide) ?_
  refine Tr.istore_n (pc := 1) (i := 1) (ls2 := [(1, (0, 0)), (0, (2, 56))]) d_X1_sippedByParts_1 rfl (by decide) rfl ?_
  refine Tr.iconst (pc := 2) d_X1_sippedByParts_2 (by decide) ?_
  refine Tr.istore_n (pc := 3) (i := 2) (ls2 := [(2, (0, 0)), (1, (0, 0)), (0, (2, 56))]) d_X1_sippedByParts_3 rfl (by decide) rfl ?_
  have J4 : ∀ (n4 : Nat) (M : Mem) (p4_1 p4_2 : Int), St Tru ws_X1_sippedByParts_56 as_X1_sippedByParts_56 M0 M → ((-2147483648) ≤ p4_1 ∧ p4_1 ≤ 2147483647) → (0 ≤ p4_2 ∧ p4_2 ≤ 24) → (24 - p4_2).toNat < n4 → Tr l K 0 mX1_sippedByParts 4 [(0, (2, 56)), (1, (0, p4_1)), (2, (0, p4_2))] [] M (q_X1_sippedByParts_56 M0) := by
    intro n4
    induction n4 with
    | zero => intro M p4_1 p4_2 hS bp4_1 bp4_2  hm4; exact absurd hm4 (Nat.not_lt_zero _)
    | succ n4 J4 =>
      intro M p4_1 p4_2 hS bp4_1 bp4_2  hm4
      refine Tr.iload_n (pc := 4) (i := 2) d_X1_sippedByParts_4 rfl rfl ?_
      refine Tr.aload_n (pc := 5) (i := 0) d_X1_sippedByParts_5 rfl rfl ?_
      refine Tr.getf (pc := 6) d_X1_sippedByParts_6 f_1_41 (by decide) (by decide) (ty_56 hS.1.1) ?_
      refine Tr.tp 7 ((St.kp hS (by decide) (by decide) (by decide)).trans en_56_1) ?_
      refine Tr.getf (pc := 9) d_X1_sippedByParts_9 f_1_91 (by decide) (by decide) (ty_7 hS.1.1) ?_
      refine Tr.tp 8 (fx_7_4 hS.1.1) ?_
      refine Tr.iconst (pc := 12) d_X1_sippedByParts_12 (by decide) ?_
      refine Tr.iald (pc := 13) d_X1_sippedByParts_13 (ty_8 hS.1.1) (by omega) (by omega) ?_
      refine Tr.gen (P := fun v => 0 ≤ v ∧ v ≤ 6) (ir_8_0 hS.1.2.1) (fun r13 er13 br13 => ?_)
      refine Tr.iconst (pc := 14) d_X1_sippedByParts_14 (by decide) ?_
      refine Tr.imul (pc := 15) d_X1_sippedByParts_15 ?_
      refine Tr.tp (4 * r13) ((w32_id (by omega)).trans (by omega)) ?_
      refine Tr.icmp_ge (pc := 16) (tgt := 44) d_X1_sippedByParts_16 rfl (fun c16 => ?_) (fun c16 => ?_)
      · refine Tr.iload_n (pc := 44) (i := 1) d_X1_sippedByParts_44 rfl rfl ?_
        exact Tr.iret (pc := 45) d_X1_sippedByParts_45 rfl ⟨hS, _, rfl, by omega, by omega⟩
      · refine Tr.iload_n (pc := 19) (i := 1) d_X1_sippedByParts_19 rfl rfl ?_
        refine Tr.aload_n (pc := 20) (i := 0) d_X1_sippedByParts_20 rfl rfl ?_
        refine Tr.getf (pc := 21) d_X1_sippedByParts_21 f_1_9 (by decide) (by decide) (ty_56 hS.1.1) ?_
        refine Tr.tp 57 (fx_56_2 hS.1.1) ?_
        refine Tr.iload_n (pc := 24) (i := 2) d_X1_sippedByParts_24 rfl rfl ?_
        refine Tr.iald (pc := 25) d_X1_sippedByParts_25 (ty_57 hS.1.1) (by omega) (by omega) ?_
        refine Tr.gen (P := fun v => (-2147483648) ≤ v ∧ v ≤ 2147483647) (ar_57 hS.1.2.1 _) (fun r25 er25 br25 => ?_)
        refine Tr.aload_n (pc := 26) (i := 0) d_X1_sippedByParts_26 rfl rfl ?_
        refine Tr.getf (pc := 27) d_X1_sippedByParts_27 f_1_41 (by decide) (by decide) (ty_56 hS.1.1) ?_
        refine Tr.tp 7 ((St.kp hS (by decide) (by decide) (by decide)).trans en_56_1) ?_
        refine Tr.getf (pc := 30) d_X1_sippedByParts_30 f_1_71 (by decide) (by decide) (ty_7 hS.1.1) ?_
        refine Tr.tp 9 (fx_7_5 hS.1.1) ?_
        refine Tr.iload_n (pc := 33) (i := 2) d_X1_sippedByParts_33 rfl rfl ?_
        refine Tr.iald (pc := 34) d_X1_sippedByParts_34 (ty_9 hS.1.1) (by omega) (by omega) ?_
        refine Tr.gen (P := fun v => (-1) ≤ v ∧ v ≤ 999) (ar_9 hS.1.2.1 _) (fun r34 er34 br34 => ?_)
        refine Tr.imul (pc := 35) d_X1_sippedByParts_35 ?_
        refine Tr.gen (P := fun v => (-2147483648) ≤ v ∧ v ≤ 2147483647) (w32_b _) (fun r35 er35 br35 => ?_)
        refine Tr.iadd (pc := 36) d_X1_sippedByParts_36 ?_
        refine Tr.gen (P := fun v => (-2147483648) ≤ v ∧ v ≤ 2147483647) (w32_b _) (fun r36 er36 br36 => ?_)
        refine Tr.istore_n (pc := 37) (i := 1) (ls2 := [(1, (0, r36)), (0, (2, 56)), (2, (0, p4_2))]) d_X1_sippedByParts_37 rfl (by decide) rfl ?_
        refine Tr.iincV (pc := 38) (n2 := (p4_2 + 1)) (ls2 := [(2, (0, (p4_2 + 1))), (1, (0, r36)), (0, (2, 56))]) d_X1_sippedByParts_38 rfl (by decide) ((w32_id (by omega)).trans (by omega)) rfl ?_
        refine Tr.goto (pc := 41) (tgt := 4) d_X1_sippedByParts_41 rfl ?_
        refine Tr.pick [2, 1, 0] (ls2 := [(0, (2, 56)), (1, (0, r36)), (2, (0, (p4_2 + 1)))]) rfl ?_
        exact J4 _ _ _ hS (by omega) (by omega) (by omega)
  refine Tr.pick [2, 1, 0] (ls2 := [(0, (2, 56)), (1, (0, 0)), (2, (0, 0))]) rfl ?_
  exact J4 _ _ _ _ hS (by omega) (by omega) (Nat.lt_succ_self _)

def ws_X6_finish_48 : List (Int × Int) := [(48, 9), (48, 10), (63, 0)]
def as_X6_finish_48 : List Int := [55, 57, 60, 61, 62, 69, 191]
def q_X6_finish_48 (M0 M' : Mem) (r : Option PV) : Prop := St Rn ws_X6_finish_48 as_X6_finish_48 M0 M' ∧ r = none
set_option maxRecDepth 100000 in
set_option maxHeartbeats 4000000 in
theorem sp_X6_finish_48 {l : Launch} {K : EC} {M0 : Mem} (hI : In Rn M0) (en_48_1 : rd M0 48 1 = 7) (en_56_1 : rd M0 56 1 = 7)   : Tr l K 3 mX6_finish 0 [(0, (2, 48))] [] M0 (q_X6_finish_48 M0) := by
  have hS : St Rn ws_X6_finish_48 as_X6_finish_48 M0 M0 := St.rf hI
  refine Tr.aload_n (pc := 0) (i := 0) d_X6_finish_0 rfl rfl ?_
  refine Tr.getf (pc := 1) d_X6_finish_1 f_6_68 (by decide) (by decide) (ty_48 hS.1.1) ?_
  refine Tr.gen (P := fun v => (-2147483648) ≤ v ∧ v ≤ 2147483647) (ir_48_9 hS.1.2.1) (fun r1 er1 br1 => ?_)
  refine Tr.istore_n (pc := 4) (i := 1) (ls2 := [(1, (0, r1)), (0, (2, 48))]) d_X6_finish_4 rfl (by decide) rfl ?_
  refine Tr.aload_n (pc := 5) (i := 0) d_X6_finish_5 rfl rfl ?_
  refine Tr.getf (pc := 6) d_X6_finish_6 f_6_46 (by decide) (by decide) (ty_48 hS.1.1) ?_
  refine Tr.tp 7 ((St.kp hS (by decide) (by decide) (by decide)).trans en_48_1) ?_
  refine Tr.getf (pc := 9) d_X6_finish_9 f_6_116 (by decide) (by decide) (ty_7 hS.1.1) ?_
  refine Tr.tp 8 (fx_7_4 hS.1.1) ?_
  refine Tr.iconst (pc := 12) d_X6_finish_12 (by decide) ?_
  refine Tr.iald (pc := 13) d_X6_finish_13 (ty_8 hS.1.1) (by omega) (by omega) ?_
  refine Tr.gen (P := fun v => 0 ≤ v ∧ v ≤ 6) (ir_8_0 hS.1.2.1) (fun r13 er13 br13 => ?_)
  refine Tr.istore_n (pc := 14) (i := 2) (ls2 := [(2, (0, r13)), (1, (0, r1)), (0, (2, 48))]) d_X6_finish_14 rfl (by decide) rfl ?_
  refine Tr.iconst (pc := 15) d_X6_finish_15 (by decide) ?_
  refine Tr.istore_n (pc := 16) (i := 3) (ls2 := [(3, (0, 0)), (2, (0, r13)), (1, (0, r1)), (0, (2, 48))]) d_X6_finish_16 rfl (by decide) rfl ?_
  have J17 : ∀ (n17 : Nat) (M : Mem) (p17_3 : Int), St Rn ws_X6_finish_48 as_X6_finish_48 M0 M → (0 ≤ p17_3 ∧ p17_3 ≤ 6) → rd M 8 0 = r13 → (6 - p17_3).toNat < n17 → Tr l K 3 mX6_finish 17 [(0, (2, 48)), (1, (0, r1)), (2, (0, r13)), (3, (0, p17_3))] [] M (q_X6_finish_48 M0) := by
    intro n17
    induction n17 with
    | zero => intro M p17_3 hS bp17_3 k17_8_0 hm17; exact absurd hm17 (Nat.not_lt_zero _)
    | succ n17 J17 =>
      intro M p17_3 hS bp17_3 k17_8_0 hm17
      refine Tr.iload_n (pc := 17) (i := 3) d_X6_finish_17 rfl rfl ?_
      refine Tr.iload_n (pc := 18) (i := 2) d_X6_finish_18 rfl rfl ?_
      have J61 : ∀ (M : Mem), St Rn ws_X6_finish_48 as_X6_finish_48 M0 M → rd M 8 0 = r13 → Tr l K 3 mX6_finish 61 [(0, (2, 48)), (1, (0, r1)), (2, (0, r13))] [] M (q_X6_finish_48 M0) := by
        intro M  hS  k61_8_0
        refine Tr.iconst (pc := 61) d_X6_finish_61 (by decide) ?_
        refine Tr.istore_n (pc := 62) (i := 3) (ls2 := [(3, (0, 0)), (0, (2, 48)), (1, (0, r1)), (2, (0, r13))]) d_X6_finish_62 rfl (by decide) rfl ?_
        have J63 : ∀ (n63 : Nat) (M : Mem) (p63_3 : Int), St Rn ws_X6_finish_48 as_X6_finish_48 M0 M → (0 ≤ p63_3 ∧ p63_3 ≤ 6) → rd M 8 0 = r13 → (6 - p63_3).toNat < n63 → Tr l K 3 mX6_finish 63 [(0, (2, 48)), (1, (0, r1)), (2, (0, r13)), (3, (0, p63_3))] [] M (q_X6_finish_48 M0) := by
          intro n63
          induction n63 with
          | zero => intro M p63_3 hS bp63_3 k63_8_0 hm63; exact absurd hm63 (Nat.not_lt_zero _)
          | succ n63 J63 =>
            intro M p63_3 hS bp63_3 k63_8_0 hm63
            refine Tr.iload_n (pc := 63) (i := 3) d_X6_finish_63 rfl rfl ?_
            refine Tr.iload_n (pc := 64) (i := 2) d_X6_finish_64 rfl rfl ?_
            refine Tr.icmp_ge (pc := 65) (tgt := 129) d_X6_finish_65 rfl (fun c65 => ?_) (fun c65 => ?_)
            · refine Tr.aload_n (pc := 129) (i := 0) d_X6_finish_129 rfl rfl ?_
              refine Tr.iload_n (pc := 130) (i := 1) d_X6_finish_130 rfl rfl ?_
              refine Tr.aload_n (pc := 131) (i := 0) d_X6_finish_131 rfl rfl ?_
              refine Tr.getf (pc := 132) d_X6_finish_132 f_6_46 (by decide) (by decide) (ty_48 hS.1.1) ?_
              refine Tr.tp 7 ((St.kp hS (by decide) (by decide) (by decide)).trans en_48_1) ?_
              refine Tr.getf (pc := 135) d_X6_finish_135 f_6_135 (by decide) (by decide) (ty_7 hS.1.1) ?_
              refine Tr.gen (P := fun v => (-1) ≤ v ∧ v ≤ 999) (ir_7_0 hS.1.2.1) (fun r135 er135 br135 => ?_)
              refine Tr.imul (pc := 138) d_X6_finish_138 ?_
              refine Tr.gen (P := fun v => (-2147483648) ≤ v ∧ v ≤ 2147483647) (w32_b _) (fun r138 er138 br138 => ?_)
              refine Tr.aload_n (pc := 139) (i := 0) d_X6_finish_139 rfl rfl ?_
              refine Tr.getf (pc := 140) d_X6_finish_140 f_6_38 (by decide) (by decide) (ty_48 hS.1.1) ?_
              refine Tr.tp 56 (fx_48_0 hS.1.1) ?_
              refine Tr.callV (pc := 143) (as := []) d_X6_finish_143 s_6_138 ok_X1_sippedByParts rfl rfl (Nat.le_of_ble_eq_true rfl) (Nat.le_of_ble_eq_true rfl) (by decide) (ty_56 hS.1.1) ?_
              refine Tr.imp (Tr.deep (by decide) (sp_X1_sippedByParts_56 hS.1.wk ((St.kp hS (by decide) (by decide) (by decide)).trans en_56_1))) ?_
              rintro M143 _ ⟨h143, r143, rfl, lr143, ur143⟩
              have h143 := St.rn h143 (Rn.of hS.1.2.2.2.2 (fun _ => (St.ka h143 (by decide) (by decide) (by decide))) (St.kp h143 (by decide) (by decide) (by decide)))
              have hS := St.tr hS h143 (by decide) (by decide)
              refine Tr.sc [(0, r143), (0, r138), (2, 48)] rfl ?_
              refine Tr.iadd (pc := 146) d_X6_finish_146 ?_
              refine Tr.gen (P := fun v => (-2147483648) ≤ v ∧ v ≤ 2147483647) (w32_b _) (fun r146 er146 br146 => ?_)
              refine Tr.putfS (pc := 147) (P := St Rn ws_X6_finish_48 as_X6_finish_48 M0) d_X6_finish_147 f_6_142 (by decide) (by decide) (ty_48 hS.1.1) (st_48_10 hS (by decide) (by omega) (Rn.of hS.1.2.2.2.2 (fun _ => rd_wb _ rfl) (rd_wb _ rfl))) (fun M147 hS w147 => ?_)
              exact Tr.vret (pc := 150) d_X6_finish_150 rfl ⟨hS, rfl⟩
            · refine Tr.aload_n (pc := 68) (i := 0) d_X6_finish_68 rfl rfl ?_
              refine Tr.iload_n (pc := 69) (i := 3) d_X6_finish_69 rfl rfl ?_
              refine Tr.aload_n (pc := 70) (i := 0) d_X6_finish_70 rfl rfl ?_
              refine Tr.getf (pc := 71) d_X6_finish_71 f_6_68 (by decide) (by decide) (ty_48 hS.1.1) ?_
              refine Tr.gen (P := fun v => (-2147483648) ≤ v ∧ v ≤ 2147483647) (ir_48_9 hS.1.2.1) (fun r71 er71 br71 => ?_)
              refine Tr.callV (pc := 74) (as := [_, _]) d_X6_finish_74 s_6_125 ok_X6_settle rfl rfl (Nat.le_of_ble_eq_true rfl) (Nat.le_of_ble_eq_true rfl) (by decide) (ty_48 hS.1.1) ?_
              refine Tr.imp (Tr.deep (by decide) (sp_X6_settle_48 hS.1 ((St.kp hS (by decide) (by decide) (by decide)).trans en_56_1) p63_3 (by omega) r71 (by omega))) ?_
              rintro M74 _ ⟨h74, rfl⟩
              have hS := St.tr hS h74 (by decide) (by decide)
              refine Tr.sc [] rfl ?_
              refine Tr.aload_n (pc := 77) (i := 0) d_X6_finish_77 rfl rfl ?_
              refine Tr.getf (pc := 78) d_X6_finish_78 f_6_24 (by decide) (by decide) (ty_48 hS.1.1) ?_
              refine Tr.tp 53 (fx_48_6 hS.1.1) ?_
              refine Tr.iload_n (pc := 81) (i := 3) d_X6_finish_81 rfl rfl ?_
              refine Tr.iald (pc := 82) d_X6_finish_82 (ty_53 hS.1.1) (by omega) (by omega) ?_
              refine Tr.gen (P := fun v => 0 ≤ v ∧ v ≤ 1) (ar_53 hS.1.2.1 _) (fun r82 er82 br82 => ?_)
              refine Tr.iconst (pc := 83) d_X6_finish_83 (by decide) ?_
              have J123 : ∀ (M : Mem), St Rn ws_X6_finish_48 as_X6_finish_48 M0 M → rd M 48 9 = r71 → rd M 53 p63_3 = r82 → rd M 8 0 = r13 → Tr l K 3 mX6_finish 123 [(0, (2, 48)), (1, (0, r1)), (2, (0, r13)), (3, (0, p63_3))] [] M (q_X6_finish_48 M0) := by
                intro M  hS  k123_48_9 k123_53_p63_310 k123_8_0
                refine Tr.iincV (pc := 123) (n2 := (p63_3 + 1)) (ls2 := [(3, (0, (p63_3 + 1))), (0, (2, 48)), (1, (0, r1)), (2, (0, r13))]) d_X6_finish_123 rfl (by decide) ((w32_id (by omega)).trans (by omega)) rfl ?_
                refine Tr.goto (pc := 126) (tgt := 63) d_X6_finish_126 rfl ?_
                refine Tr.pick [1, 2, 3, 0] (ls2 := [(0, (2, 48)), (1, (0, r1)), (2, (0, r13)), (3, (0, (p63_3 + 1)))]) rfl ?_
                exact J63 _ _ hS (by omega) k123_8_0 (by omega)
              refine Tr.icmp_ne (pc := 84) (tgt := 102) d_X6_finish_84 rfl (fun c84 => ?_) (fun c84 => ?_)
              · refine Tr.aload_n (pc := 102) (i := 0) d_X6_finish_102 rfl rfl ?_
                refine Tr.getf (pc := 103) d_X6_finish_103 f_6_27 (by decide) (by decide) (ty_48 hS.1.1) ?_
                refine Tr.tp 54 (fx_48_7 hS.1.1) ?_
                refine Tr.iload_n (pc := 106) (i := 3) d_X6_finish_106 rfl rfl ?_
                refine Tr.iald (pc := 107) d_X6_finish_107 (ty_54 hS.1.1) (by omega) (by omega) ?_
                refine Tr.gen (P := fun v => (-2147483648) ≤ v ∧ v ≤ 2147483647) (ar_54 hS.1.2.1 _) (fun r107 er107 br107 => ?_)
                refine Tr.aload_n (pc := 108) (i := 0) d_X6_finish_108 rfl rfl ?_
                refine Tr.getf (pc := 109) d_X6_finish_109 f_6_68 (by decide) (by decide) (ty_48 hS.1.1) ?_
                refine Tr.tp r71 ((St.kp h74 (by decide) (by decide) (by decide)).trans er71) ?_
                refine Tr.icmp_gt (pc := 112) (tgt := 123) d_X6_finish_112 rfl (fun c112 => ?_) (fun c112 => ?_)
                · refine Tr.pick [0, 1, 2, 3] (ls2 := [(0, (2, 48)), (1, (0, r1)), (2, (0, r13)), (3, (0, p63_3))]) rfl ?_
                  exact J123 _ hS ((St.kp h74 (by decide) (by decide) (by decide)).trans er71) er82 ((St.kp h74 (by decide) (by decide) (by decide)).trans k63_8_0)
                · refine Tr.aload_n (pc := 115) (i := 0) d_X6_finish_115 rfl rfl ?_
                  refine Tr.getf (pc := 116) d_X6_finish_116 f_6_38 (by decide) (by decide) (ty_48 hS.1.1) ?_
                  refine Tr.tp 56 (fx_48_0 hS.1.1) ?_
                  refine Tr.iload_n (pc := 119) (i := 3) d_X6_finish_119 rfl rfl ?_
                  refine Tr.callV (pc := 120) (as := [_]) d_X6_finish_120 s_6_131 ok_X1_fallAsleep rfl rfl (Nat.le_of_ble_eq_true rfl) (Nat.le_of_ble_eq_true rfl) (by decide) (ty_56 hS.1.1) ?_
                  refine Tr.imp (Tr.deep (by decide) (sp_X1_fallAsleep_56 hS.1 ((St.kp hS (by decide) (by decide) (by decide)).trans en_56_1) p63_3 (by omega))) ?_
                  rintro M120 _ ⟨h120, rfl⟩
                  have hS := St.tr hS h120 (by decide) (by decide)
                  refine Tr.sc [] rfl ?_
                  refine Tr.pick [0, 1, 2, 3] (ls2 := [(0, (2, 48)), (1, (0, r1)), (2, (0, r13)), (3, (0, p63_3))]) rfl ?_
                  exact J123 _ hS ((St.kp h120 (by decide) (by decide) (by decide)).trans ((St.kp h74 (by decide) (by decide) (by decide)).trans er71)) ((St.ka h120 (by decide) (by decide) (by decide)).trans er82) ((St.kp h120 (by decide) (by decide) (by decide)).trans ((St.kp h74 (by decide) (by decide) (by decide)).trans k63_8_0))
              · refine Tr.aload_n (pc := 87) (i := 0) d_X6_finish_87 rfl rfl ?_
                refine Tr.getf (pc := 88) d_X6_finish_88 f_6_38 (by decide) (by decide) (ty_48 hS.1.1) ?_
                refine Tr.tp 56 (fx_48_0 hS.1.1) ?_
                refine Tr.iload_n (pc := 91) (i := 3) d_X6_finish_91 rfl rfl ?_
                refine Tr.aload_n (pc := 92) (i := 0) d_X6_finish_92 rfl rfl ?_
                refine Tr.getf (pc := 93) d_X6_finish_93 f_6_68 (by decide) (by decide) (ty_48 hS.1.1) ?_
                refine Tr.tp r71 ((St.kp h74 (by decide) (by decide) (by decide)).trans er71) ?_
                refine Tr.callV (pc := 96) (as := [_, _]) d_X6_finish_96 s_6_128 ok_X1_letGo rfl rfl (Nat.le_of_ble_eq_true rfl) (Nat.le_of_ble_eq_true rfl) (by decide) (ty_56 hS.1.1) ?_
                refine Tr.imp (Tr.deep (by decide) (sp_X1_letGo_56 hS.1.wk p63_3 (by omega) r71 (by omega))) ?_
                rintro M96 _ ⟨h96, rfl⟩
                have h96 := St.rn h96 (Rn.of hS.1.2.2.2.2 (fun _ => (St.ka h96 (by decide) (by decide) (by decide))) (St.kp h96 (by decide) (by decide) (by decide)))
                have hS := St.tr hS h96 (by decide) (by decide)
                refine Tr.sc [] rfl ?_
                refine Tr.goto (pc := 99) (tgt := 123) d_X6_finish_99 rfl ?_
                refine Tr.pick [0, 1, 2, 3] (ls2 := [(0, (2, 48)), (1, (0, r1)), (2, (0, r13)), (3, (0, p63_3))]) rfl ?_
                exact J123 _ hS ((St.kp h96 (by decide) (by decide) (by decide)).trans ((St.kp h74 (by decide) (by decide) (by decide)).trans er71)) ((St.ka h96 (by decide) (by decide) (by decide)).trans er82) ((St.kp h96 (by decide) (by decide) (by decide)).trans ((St.kp h74 (by decide) (by decide) (by decide)).trans k63_8_0))
        refine Tr.pick [1, 2, 3, 0] (ls2 := [(0, (2, 48)), (1, (0, r1)), (2, (0, r13)), (3, (0, 0))]) rfl ?_
        exact J63 _ _ _ hS (by omega) k61_8_0 (Nat.lt_succ_self _)
      refine Tr.icmp_ge (pc := 19) (tgt := 61) d_X6_finish_19 rfl (fun c19 => ?_) (fun c19 => ?_)
      · refine Tr.pick [0, 1, 2] (ls2 := [(0, (2, 48)), (1, (0, r1)), (2, (0, r13))]) rfl ?_
        exact J61 _ hS k17_8_0
      · refine Tr.aload_n (pc := 22) (i := 0) d_X6_finish_22 rfl rfl ?_
        refine Tr.getf (pc := 23) d_X6_finish_23 f_6_62 (by decide) (by decide) (ty_48 hS.1.1) ?_
        refine Tr.gen (P := fun v => (-2147483648) ≤ v ∧ v ≤ 2147483647) (ir_48_14 hS.1.2.1) (fun r23 er23 br23 => ?_)
        refine Tr.if_ne (pc := 26) (tgt := 61) d_X6_finish_26 rfl (fun c26 => ?_) (fun c26 => ?_)
        · refine Tr.pick [0, 1, 2] (ls2 := [(0, (2, 48)), (1, (0, r1)), (2, (0, r13))]) rfl ?_
          exact J61 _ hS k17_8_0
        · refine Tr.aload_n (pc := 29) (i := 0) d_X6_finish_29 rfl rfl ?_
          refine Tr.getf (pc := 30) d_X6_finish_30 f_6_24 (by decide) (by decide) (ty_48 hS.1.1) ?_
          refine Tr.tp 53 (fx_48_6 hS.1.1) ?_
          refine Tr.iload_n (pc := 33) (i := 3) d_X6_finish_33 rfl rfl ?_
          refine Tr.iald (pc := 34) d_X6_finish_34 (ty_53 hS.1.1) (by omega) (by omega) ?_
          refine Tr.gen (P := fun v => 0 ≤ v ∧ v ≤ 1) (ar_53 hS.1.2.1 _) (fun r34 er34 br34 => ?_)
          have J55 : ∀ (M : Mem), St Rn ws_X6_finish_48 as_X6_finish_48 M0 M → rd M 48 14 = r23 → rd M 53 p17_3 = r34 → rd M 8 0 = r13 → Tr l K 3 mX6_finish 55 [(0, (2, 48)), (1, (0, r1)), (2, (0, r13)), (3, (0, p17_3))] [] M (q_X6_finish_48 M0) := by
            intro M  hS  k55_48_14 k55_53_p17_310 k55_8_0
            refine Tr.iincV (pc := 55) (n2 := (p17_3 + 1)) (ls2 := [(3, (0, (p17_3 + 1))), (0, (2, 48)), (1, (0, r1)), (2, (0, r13))]) d_X6_finish_55 rfl (by decide) ((w32_id (by omega)).trans (by omega)) rfl ?_
            refine Tr.goto (pc := 58) (tgt := 17) d_X6_finish_58 rfl ?_
            refine Tr.pick [1, 2, 3, 0] (ls2 := [(0, (2, 48)), (1, (0, r1)), (2, (0, r13)), (3, (0, (p17_3 + 1)))]) rfl ?_
            exact J17 _ _ hS (by omega) k55_8_0 (by omega)
          refine Tr.if_ne (pc := 35) (tgt := 55) d_X6_finish_35 rfl (fun c35 => ?_) (fun c35 => ?_)
          · refine Tr.pick [0, 1, 2, 3] (ls2 := [(0, (2, 48)), (1, (0, r1)), (2, (0, r13)), (3, (0, p17_3))]) rfl ?_
            exact J55 _ hS er23 er34 k17_8_0
          · refine Tr.aload_n (pc := 38) (i := 0) d_X6_finish_38 rfl rfl ?_
            refine Tr.aload_n (pc := 39) (i := 0) d_X6_finish_39 rfl rfl ?_
            refine Tr.getf (pc := 40) d_X6_finish_40 f_6_68 (by decide) (by decide) (ty_48 hS.1.1) ?_
            refine Tr.gen (P := fun v => (-2147483648) ≤ v ∧ v ≤ 2147483647) (ir_48_9 hS.1.2.1) (fun r40 er40 br40 => ?_)
            refine Tr.aload_n (pc := 43) (i := 0) d_X6_finish_43 rfl rfl ?_
            refine Tr.getf (pc := 44) d_X6_finish_44 f_6_27 (by decide) (by decide) (ty_48 hS.1.1) ?_
            refine Tr.tp 54 (fx_48_7 hS.1.1) ?_
            refine Tr.iload_n (pc := 47) (i := 3) d_X6_finish_47 rfl rfl ?_
            refine Tr.iald (pc := 48) d_X6_finish_48 (ty_54 hS.1.1) (by omega) (by omega) ?_
            refine Tr.gen (P := fun v => (-2147483648) ≤ v ∧ v ≤ 2147483647) (ar_54 hS.1.2.1 _) (fun r48 er48 br48 => ?_)
            refine Tr.mmax (pc := 49) d_X6_finish_49 ml_6_119 mw_mmax (Nat.le_of_ble_eq_true rfl) ?_
            refine Tr.gen (P := fun v => (v = r40 ∧ r48 ≤ r40) ∨ (v = r48 ∧ r40 ≤ r48)) (f_max_p _ _) (fun r49 er49 br49 => ?_)
            refine Tr.putfS (pc := 52) (P := St Rn ws_X6_finish_48 as_X6_finish_48 M0) d_X6_finish_52 f_6_68 (by decide) (by decide) (ty_48 hS.1.1) (st_48_9 hS (by decide) (by omega) (Rn.of hS.1.2.2.2.2 (fun _ => rd_wb _ rfl) (rd_wb _ rfl))) (fun M52 hS w52 => ?_)
            refine Tr.pick [0, 1, 2, 3] (ls2 := [(0, (2, 48)), (1, (0, r1)), (2, (0, r13)), (3, (0, p17_3))]) rfl ?_
            exact J55 _ hS ((Wr.b w52 rfl).trans er23) ((Wr.b w52 rfl).trans er34) ((Wr.b w52 rfl).trans k17_8_0)
  refine Tr.pick [3, 2, 1, 0] (ls2 := [(0, (2, 48)), (1, (0, r1)), (2, (0, r13)), (3, (0, 0))]) rfl ?_
  exact J17 _ _ _ hS (by omega) er13 (Nat.lt_succ_self _)

def ws_X6_worked_48_w1 : List (Int × Int) := []
def as_X6_worked_48_w1 : List Int := [51]
def q_X6_worked_48_w1 (M0 M' : Mem) (r : Option PV) : Prop := St Tru ws_X6_worked_48_w1 as_X6_worked_48_w1 M0 M' ∧ ∃ v : Int, r = some (0, v) ∧ (-2147483648) ≤ v ∧ v ≤ 2147483647
set_option maxRecDepth 100000 in
set_option maxHeartbeats 4000000 in
theorem sp_X6_worked_48_w1 {l : Launch} {K : EC} {M0 : Mem} (hI : In Tru M0) (en_48_1 : rd M0 48 1 = 7) (a1 : Int) (ha1 : 0 ≤ a1 ∧ a1 ≤ 59)  : Tr l K 3 mX6_worked 0 [(0, (2, 48)), (1, (0, a1))] [] M0 (q_X6_worked_48_w1 M0) := by
  have hS : St Tru ws_X6_worked_48_w1 as_X6_worked_48_w1 M0 M0 := St.rf hI
  refine Tr.aload_n (pc := 0) (i := 0) d_X6_worked_0 rfl rfl ?_
  refine Tr.getf (pc := 1) d_X6_worked_1 f_6_46 (by decide) (by decide) (ty_48 hS.1.1) ?_
  refine Tr.tp 7 ((St.kp hS (by decide) (by decide) (by decide)).trans en_48_1) ?_
  refine Tr.getf (pc := 4) d_X6_worked_4 f_6_50 (by decide) (by decide) (ty_7 hS.1.1) ?_
  refine Tr.tp 15 (fx_7_11 hS.1.1) ?_
  refine Tr.astore_n (pc := 7) (i := 2) (ls2 := [(2, (2, 15)), (0, (2, 48)), (1, (0, a1))]) d_X6_worked_7 rfl (by decide) rfl ?_
  refine Tr.iconst (pc := 8) d_X6_worked_8 (by decide) ?_
  refine Tr.istore_n (pc := 9) (i := 3) (ls2 := [(3, (0, 0)), (2, (2, 15)), (0, (2, 48)), (1, (0, a1))]) d_X6_worked_9 rfl (by decide) rfl ?_
  refine Tr.aload_n (pc := 10) (i := 2) d_X6_worked_10 rfl rfl ?_
  refine Tr.getf (pc := 11) d_X6_worked_11 f_6_226 (by decide) (by decide) (ty_15 hS.1.1) ?_
  refine Tr.tp 18 (fx_15_3 hS.1.1) ?_
  refine Tr.iload_n (pc := 14) (i := 1) d_X6_worked_14 rfl rfl ?_
  refine Tr.iald (pc := 15) d_X6_worked_15 (ty_18 hS.1.1) (by omega) (by omega) ?_
  refine Tr.gen (P := fun v => 0 ≤ v ∧ v ≤ 900) (ar_18 hS.1.2.1 _) (fun r15 er15 br15 => ?_)
  refine Tr.istore (pc := 16) (i := 4) (ls2 := [(4, (0, r15)), (3, (0, 0)), (2, (2, 15)), (0, (2, 48)), (1, (0, a1))]) d_X6_worked_16 (by decide) rfl ?_
  have J18 : ∀ (n18 : Nat) (M : Mem) (p18_3 p18_4 : Int), St Tru ws_X6_worked_48_w1 as_X6_worked_48_w1 M0 M → (0 ≤ p18_3 ∧ p18_3 ≤ 64) → (0 ≤ p18_4 ∧ p18_4 ≤ 900) → rd M 18 a1 = r15 → (900 - p18_4).toNat < n18 → Tr l K 3 mX6_worked 18 [(0, (2, 48)), (1, (0, a1)), (2, (2, 15)), (3, (0, p18_3)), (4, (0, p18_4))] [] M (q_X6_worked_48_w1 M0) := by
    intro n18
    induction n18 with
    | zero => intro M p18_3 p18_4 hS bp18_3 bp18_4 k18_18_a110 hm18; exact absurd hm18 (Nat.not_lt_zero _)
    | succ n18 J18 =>
      intro M p18_3 p18_4 hS bp18_3 bp18_4 k18_18_a110 hm18
      refine Tr.iload (pc := 18) (i := 4) d_X6_worked_18 rfl ?_
      refine Tr.aload_n (pc := 20) (i := 2) d_X6_worked_20 rfl rfl ?_
      refine Tr.getf (pc := 21) d_X6_worked_21 f_6_226 (by decide) (by decide) (ty_15 hS.1.1) ?_
      refine Tr.tp 18 (fx_15_3 hS.1.1) ?_
      refine Tr.iload_n (pc := 24) (i := 1) d_X6_worked_24 rfl rfl ?_
      refine Tr.iconst (pc := 25) d_X6_worked_25 (by decide) ?_
      refine Tr.iadd (pc := 26) d_X6_worked_26 ?_
      refine Tr.tp (a1 + 1) ((w32_id (by omega)).trans (by omega)) ?_
      refine Tr.iald (pc := 27) d_X6_worked_27 (ty_18 hS.1.1) (by omega) (by omega) ?_
      refine Tr.gen (P := fun v => 0 ≤ v ∧ v ≤ 900) (ar_18 hS.1.2.1 _) (fun r27 er27 br27 => ?_)
      refine Tr.icmp_ge (pc := 28) (tgt := 156) d_X6_worked_28 rfl (fun c28 => ?_) (fun c28 => ?_)
      · refine Tr.iload_n (pc := 156) (i := 3) d_X6_worked_156 rfl rfl ?_
        refine Tr.iconst (pc := 157) d_X6_worked_157 (by decide) ?_
        refine Tr.icmp_ne (pc := 158) (tgt := 170) d_X6_worked_158 rfl (fun c158 => ?_) (fun c158 => ?_)
        · refine Tr.iconst (pc := 170) d_X6_worked_170 (by decide) ?_
          exact Tr.iret (pc := 171) d_X6_worked_171 rfl ⟨hS, _, rfl, by omega, by omega⟩
        · refine Tr.aload_n (pc := 161) (i := 0) d_X6_worked_161 rfl rfl ?_
          refine Tr.getf (pc := 162) d_X6_worked_162 f_6_18 (by decide) (by decide) (ty_48 hS.1.1) ?_
          refine Tr.tp 51 (fx_48_4 hS.1.1) ?_
          refine Tr.iconst (pc := 165) d_X6_worked_165 (by decide) ?_
          refine Tr.iald (pc := 166) d_X6_worked_166 (ty_51 hS.1.1) (by omega) (by omega) ?_
          refine Tr.gen (P := fun v => (-2147483648) ≤ v ∧ v ≤ 2147483647) (ar_51 hS.1.2.1 _) (fun r166 er166 br166 => ?_)
          refine Tr.goto (pc := 167) (tgt := 171) d_X6_worked_167 rfl ?_
          exact Tr.iret (pc := 171) d_X6_worked_171 rfl ⟨hS, _, rfl, by omega, by omega⟩
      · refine Tr.aload_n (pc := 31) (i := 2) d_X6_worked_31 rfl rfl ?_
        refine Tr.getf (pc := 32) d_X6_worked_32 f_6_229 (by decide) (by decide) (ty_15 hS.1.1) ?_
        refine Tr.tp 24 (fx_15_9 hS.1.1) ?_
        refine Tr.iload (pc := 35) (i := 4) d_X6_worked_35 rfl ?_
        refine Tr.iald (pc := 37) d_X6_worked_37 (ty_24 hS.1.1) (by omega) (by omega) ?_
        refine Tr.gen (P := fun v => (-2147483648) ≤ v ∧ v ≤ 2147483647) (ar_24 hS.1.2.1 _) (fun r37 er37 br37 => ?_)
        refine Tr.istore (pc := 38) (i := 5) (ls2 := [(5, (0, r37)), (0, (2, 48)), (1, (0, a1)), (2, (2, 15)), (3, (0, p18_3)), (4, (0, p18_4))]) d_X6_worked_38 (by decide) rfl ?_
        refine Tr.iload (pc := 40) (i := 5) d_X6_worked_40 rfl ?_
        refine Tr.iconst (pc := 42) d_X6_worked_42 (by decide) ?_
        have J150 : ∀ (M : Mem) (p150_3 : Int), St Tru ws_X6_worked_48_w1 as_X6_worked_48_w1 M0 M → (1 ≤ p150_3 ∧ p150_3 ≤ 64) → rd M 18 a1 = r15 → rd M 18 (a1 + 1) = r27 → rd M 24 p18_4 = r37 → Tr l K 3 mX6_worked 150 [(0, (2, 48)), (1, (0, a1)), (2, (2, 15)), (3, (0, p150_3)), (4, (0, p18_4))] [] M (q_X6_worked_48_w1 M0) := by
          intro M p150_3 hS bp150_3 k150_18_a110 k150_18_a111 k150_24_p18_410
          refine Tr.iincV (pc := 150) (n2 := (p18_4 + 1)) (ls2 := [(4, (0, (p18_4 + 1))), (0, (2, 48)), (1, (0, a1)), (2, (2, 15)), (3, (0, p150_3))]) d_X6_worked_150 rfl (by decide) ((w32_id (by omega)).trans (by omega)) rfl ?_
          refine Tr.goto (pc := 153) (tgt := 18) d_X6_worked_153 rfl ?_
          refine Tr.pick [1, 2, 3, 4, 0] (ls2 := [(0, (2, 48)), (1, (0, a1)), (2, (2, 15)), (3, (0, p150_3)), (4, (0, (p18_4 + 1)))]) rfl ?_
          exact J18 _ _ _ hS (by omega) (by omega) k150_18_a110 (by omega)
        refine Tr.icmp_ge (pc := 43) (tgt := 79) d_X6_worked_43 rfl (fun c43 => ?_) (fun c43 => ?_)
        · refine Tr.iload (pc := 79) (i := 5) d_X6_worked_79 rfl ?_
          refine Tr.iconst (pc := 81) d_X6_worked_81 (by decide) ?_
          refine Tr.icmp_ne (pc := 82) (tgt := 113) d_X6_worked_82 rfl (fun c82 => ?_) (fun c82 => ?_)
          · refine Tr.iload_n (pc := 113) (i := 3) d_X6_worked_113 rfl rfl ?_
            refine Tr.iconst (pc := 114) d_X6_worked_114 (by decide) ?_
            refine Tr.icmp_ge (pc := 115) (tgt := 120) d_X6_worked_115 rfl (fun c115 => ?_) (fun c115 => ?_)
            · refine Tr.iincV (pc := 120) (n2 := (p18_3 - 1)) (ls2 := [(3, (0, (p18_3 - 1))), (5, (0, r37)), (0, (2, 48)), (1, (0, a1)), (2, (2, 15)), (4, (0, p18_4))]) d_X6_worked_120 rfl (by decide) ((w32_id (by omega)).trans (by omega)) rfl ?_
              refine Tr.aload_n (pc := 123) (i := 0) d_X6_worked_123 rfl rfl ?_
              refine Tr.getf (pc := 124) d_X6_worked_124 f_6_18 (by decide) (by decide) (ty_48 hS.1.1) ?_
              refine Tr.tp 51 (fx_48_4 hS.1.1) ?_
              refine Tr.iload_n (pc := 127) (i := 3) d_X6_worked_127 rfl rfl ?_
              refine Tr.iconst (pc := 128) d_X6_worked_128 (by decide) ?_
              refine Tr.isub (pc := 129) d_X6_worked_129 ?_
              refine Tr.tp (p18_3 - 2) ((w32_id (by omega)).trans (by omega)) ?_
              refine Tr.iload (pc := 130) (i := 5) d_X6_worked_130 rfl ?_
              refine Tr.aload_n (pc := 132) (i := 0) d_X6_worked_132 rfl rfl ?_
              refine Tr.getf (pc := 133) d_X6_worked_133 f_6_18 (by decide) (by decide) (ty_48 hS.1.1) ?_
              refine Tr.tp 51 (fx_48_4 hS.1.1) ?_
              refine Tr.iload_n (pc := 136) (i := 3) d_X6_worked_136 rfl rfl ?_
              refine Tr.iconst (pc := 137) d_X6_worked_137 (by decide) ?_
              refine Tr.isub (pc := 138) d_X6_worked_138 ?_
              refine Tr.tp (p18_3 - 2) ((w32_id (by omega)).trans (by omega)) ?_
              refine Tr.iald (pc := 139) d_X6_worked_139 (ty_51 hS.1.1) (by omega) (by omega) ?_
              refine Tr.gen (P := fun v => (-2147483648) ≤ v ∧ v ≤ 2147483647) (ar_51 hS.1.2.1 _) (fun r139 er139 br139 => ?_)
              refine Tr.aload_n (pc := 140) (i := 0) d_X6_worked_140 rfl rfl ?_
              refine Tr.getf (pc := 141) d_X6_worked_141 f_6_18 (by decide) (by decide) (ty_48 hS.1.1) ?_
              refine Tr.tp 51 (fx_48_4 hS.1.1) ?_
              refine Tr.iload_n (pc := 144) (i := 3) d_X6_worked_144 rfl rfl ?_
              refine Tr.iald (pc := 145) d_X6_worked_145 (ty_51 hS.1.1) (by omega) (by omega) ?_
              refine Tr.gen (P := fun v => (-2147483648) ≤ v ∧ v ≤ 2147483647) (ar_51 hS.1.2.1 _) (fun r145 er145 br145 => ?_)
              refine Tr.callS (pc := 146) (as := [_, _, _]) d_X6_worked_146 s_6_238 ok_X6_joined rfl rfl (Nat.le_of_ble_eq_true rfl) (Nat.le_of_ble_eq_true rfl) ?_
              refine Tr.imp (Tr.deep (by decide) (sp_X6_joined hS.1 r37 (by omega) r139 (by omega) r145 (by omega))) ?_
              rintro M146 _ ⟨h146, r146, rfl, lr146, ur146⟩
              have hS := St.tr hS h146 (by decide) (by decide)
              refine Tr.sc [(0, r146), (0, (p18_3 - 2)), (2, 51)] rfl ?_
              refine Tr.iastS (pc := 149) (P := St Tru ws_X6_worked_48_w1 as_X6_worked_48_w1 M0) d_X6_worked_149 (ty_51 hS.1.1) (by omega) (by omega) (sa_51 hS (by decide) (by omega) trivial) (fun M149 hS w149 => ?_)
              refine Tr.pick [2, 3, 4, 0, 5] (ls2 := [(0, (2, 48)), (1, (0, a1)), (2, (2, 15)), (3, (0, (p18_3 - 1))), (4, (0, p18_4))]) rfl ?_
              exact J150 _ _ hS (by omega) ((Wr.b w149 rfl).trans ((St.ka h146 (by decide) (by decide) (by decide)).trans k18_18_a110)) ((Wr.b w149 rfl).trans ((St.ka h146 (by decide) (by decide) (by decide)).trans er27)) ((Wr.b w149 rfl).trans ((St.ka h146 (by decide) (by decide) (by decide)).trans er37))
            · refine Tr.iconst (pc := 118) d_X6_worked_118 (by decide) ?_
              exact Tr.iret (pc := 119) d_X6_worked_119 rfl ⟨hS, _, rfl, by omega, by omega⟩
          · refine Tr.iload_n (pc := 85) (i := 3) d_X6_worked_85 rfl rfl ?_
            refine Tr.iconst (pc := 86) d_X6_worked_86 (by decide) ?_
            refine Tr.icmp_ge (pc := 87) (tgt := 92) d_X6_worked_87 rfl (fun c87 => ?_) (fun c87 => ?_)
            · refine Tr.aload_n (pc := 92) (i := 0) d_X6_worked_92 rfl rfl ?_
              refine Tr.getf (pc := 93) d_X6_worked_93 f_6_18 (by decide) (by decide) (ty_48 hS.1.1) ?_
              refine Tr.tp 51 (fx_48_4 hS.1.1) ?_
              refine Tr.iload_n (pc := 96) (i := 3) d_X6_worked_96 rfl rfl ?_
              refine Tr.iconst (pc := 97) d_X6_worked_97 (by decide) ?_
              refine Tr.isub (pc := 98) d_X6_worked_98 ?_
              refine Tr.tp (p18_3 - 1) ((w32_id (by omega)).trans (by omega)) ?_
              refine Tr.iconst (pc := 99) d_X6_worked_99 (by decide) ?_
              refine Tr.aload_n (pc := 100) (i := 0) d_X6_worked_100 rfl rfl ?_
              refine Tr.getf (pc := 101) d_X6_worked_101 f_6_18 (by decide) (by decide) (ty_48 hS.1.1) ?_
              refine Tr.tp 51 (fx_48_4 hS.1.1) ?_
              refine Tr.iload_n (pc := 104) (i := 3) d_X6_worked_104 rfl rfl ?_
              refine Tr.iconst (pc := 105) d_X6_worked_105 (by decide) ?_
              refine Tr.isub (pc := 106) d_X6_worked_106 ?_
              refine Tr.tp (p18_3 - 1) ((w32_id (by omega)).trans (by omega)) ?_
              refine Tr.iald (pc := 107) d_X6_worked_107 (ty_51 hS.1.1) (by omega) (by omega) ?_
              refine Tr.gen (P := fun v => (-2147483648) ≤ v ∧ v ≤ 2147483647) (ar_51 hS.1.2.1 _) (fun r107 er107 br107 => ?_)
              refine Tr.isub (pc := 108) d_X6_worked_108 ?_
              refine Tr.gen (P := fun v => (-2147483648) ≤ v ∧ v ≤ 2147483647) (w32_b _) (fun r108 er108 br108 => ?_)
              refine Tr.iastS (pc := 109) (P := St Tru ws_X6_worked_48_w1 as_X6_worked_48_w1 M0) d_X6_worked_109 (ty_51 hS.1.1) (by omega) (by omega) (sa_51 hS (by decide) (by omega) trivial) (fun M109 hS w109 => ?_)
              refine Tr.goto (pc := 110) (tgt := 150) d_X6_worked_110 rfl ?_
              refine Tr.pick [1, 2, 3, 4, 5] (ls2 := [(0, (2, 48)), (1, (0, a1)), (2, (2, 15)), (3, (0, p18_3)), (4, (0, p18_4))]) rfl ?_
              exact J150 _ _ hS (by omega) ((Wr.b w109 rfl).trans k18_18_a110) ((Wr.b w109 rfl).trans er27) ((Wr.b w109 rfl).trans er37)
            · refine Tr.iconst (pc := 90) d_X6_worked_90 (by decide) ?_
              exact Tr.iret (pc := 91) d_X6_worked_91 rfl ⟨hS, _, rfl, by omega, by omega⟩
        · refine Tr.iload_n (pc := 46) (i := 3) d_X6_worked_46 rfl rfl ?_
          refine Tr.bipush (pc := 47) d_X6_worked_47 rfl (by decide) ?_
          refine Tr.icmp_lt (pc := 49) (tgt := 54) d_X6_worked_49 rfl (fun c49 => ?_) (fun c49 => ?_)
          · refine Tr.aload_n (pc := 54) (i := 0) d_X6_worked_54 rfl rfl ?_
            refine Tr.getf (pc := 55) d_X6_worked_55 f_6_18 (by decide) (by decide) (ty_48 hS.1.1) ?_
            refine Tr.tp 51 (fx_48_4 hS.1.1) ?_
            refine Tr.iload_n (pc := 58) (i := 3) d_X6_worked_58 rfl rfl ?_
            refine Tr.aload_n (pc := 59) (i := 0) d_X6_worked_59 rfl rfl ?_
            refine Tr.iload (pc := 60) (i := 5) d_X6_worked_60 rfl ?_
            refine Tr.aload_n (pc := 62) (i := 2) d_X6_worked_62 rfl rfl ?_
            refine Tr.getf (pc := 63) d_X6_worked_63 f_6_232 (by decide) (by decide) (ty_15 hS.1.1) ?_
            refine Tr.tp 25 (fx_15_10 hS.1.1) ?_
            refine Tr.iload (pc := 66) (i := 4) d_X6_worked_66 rfl ?_
            refine Tr.iald (pc := 68) d_X6_worked_68 (ty_25 hS.1.1) (by omega) (by omega) ?_
            refine Tr.gen (P := fun v => ((-2147483648) ≤ v ∧ v ≤ 2147483647) ∧ ((r37 = 1 → 0 ≤ v ∧ v ≤ 2) ∧ (r37 = 2 ∨ r37 = 4 → 0 ≤ v ∧ v ≤ 5))) (by have h8 := gc_at hS.1.2.2 24 25 (by decide) er37; have h9 := (ar_25 hS.1.2.1 (p18_4)); exact ⟨h9, h8⟩) (fun r68 er68 br68 => ?_)
            refine Tr.callV (pc := 69) (as := [_, _]) d_X6_worked_69 s_6_235 ok_X6_single rfl rfl (Nat.le_of_ble_eq_true rfl) (Nat.le_of_ble_eq_true rfl) (by decide) (ty_48 hS.1.1) ?_
            refine Tr.imp (Tr.deep (by decide) (sp_X6_single_48 hS.1 r37 (by omega) r68 (by omega) (by omega))) ?_
            rintro M69 _ ⟨h69, r69, rfl, lr69, ur69⟩
            have hS := St.tr hS h69 (by decide) (by decide)
            refine Tr.sc [(0, r69), (0, p18_3), (2, 51)] rfl ?_
            refine Tr.iastS (pc := 72) (P := St Tru ws_X6_worked_48_w1 as_X6_worked_48_w1 M0) d_X6_worked_72 (ty_51 hS.1.1) (by omega) (by omega) (sa_51 hS (by decide) (by omega) trivial) (fun M72 hS w72 => ?_)
            refine Tr.iincV (pc := 73) (n2 := (p18_3 + 1)) (ls2 := [(3, (0, (p18_3 + 1))), (5, (0, r37)), (0, (2, 48)), (1, (0, a1)), (2, (2, 15)), (4, (0, p18_4))]) d_X6_worked_73 rfl (by decide) ((w32_id (by omega)).trans (by omega)) rfl ?_
            refine Tr.goto (pc := 76) (tgt := 150) d_X6_worked_76 rfl ?_
            refine Tr.pick [2, 3, 4, 0, 5] (ls2 := [(0, (2, 48)), (1, (0, a1)), (2, (2, 15)), (3, (0, (p18_3 + 1))), (4, (0, p18_4))]) rfl ?_
            exact J150 _ _ hS (by omega) ((Wr.b w72 rfl).trans ((St.ka h69 (by decide) (by decide) (by decide)).trans k18_18_a110)) ((Wr.b w72 rfl).trans ((St.ka h69 (by decide) (by decide) (by decide)).trans er27)) ((Wr.b w72 rfl).trans ((St.ka h69 (by decide) (by decide) (by decide)).trans er37))
          · refine Tr.iconst (pc := 52) d_X6_worked_52 (by decide) ?_
            exact Tr.iret (pc := 53) d_X6_worked_53 rfl ⟨hS, _, rfl, by omega, by omega⟩
  refine Tr.pick [3, 4, 2, 1, 0] (ls2 := [(0, (2, 48)), (1, (0, a1)), (2, (2, 15)), (3, (0, 0)), (4, (0, r15))]) rfl ?_
  exact J18 _ _ _ _ hS (by omega) (by omega) er15 (Nat.lt_succ_self _)
end
/-! 30.12 -/
section
def ws_X8_join_63_w1 : List (Int × Int) := []
def as_X8_join_63_w1 : List Int := [191]
def q_X8_join_63_w1 (M0 M' : Mem) (r : Option PV) : Prop := St Rn ws_X8_join_63_w1 as_X8_join_63_w1 M0 M' ∧ r = none
set_option maxRecDepth 100000 in
set_option maxHeartbeats 4000000 in
theorem sp_X8_join_63_w1 {l : Launch} {K : EC} {M0 : Mem} (hI : In Rn M0)  (a1 : Int) (ha1 : 0 ≤ a1 ∧ a1 ≤ 5) (a2 : Int) (ha2 : 0 ≤ a2 ∧ a2 ≤ 59)  : Tr l K 0 mX8_join 0 [(0, (2, 63)), (1, (0, a1)), (2, (0, a2))] [] M0 (q_X8_join_63_w1 M0) := by
  have hS : St Rn ws_X8_join_63_w1 as_X8_join_63_w1 M0 M0 := St.rf hI
  obtain ⟨g63_1, eg63_1⟩ : ∃ v, rd M0 63 1 = v := ⟨_, rfl⟩
  have bg63_1 : (-1000000000) ≤ g63_1 ∧ g63_1 ≤ 1000000000 := by rw [← eg63_1]; exact ir_63_1 hI.2.1
  obtain ⟨g63_0, eg63_0⟩ : ∃ v, rd M0 63 0 = v := ⟨_, rfl⟩
  have bg63_0 : (-2147483648) ≤ g63_0 ∧ g63_0 ≤ 2147483647 := by rw [← eg63_0]; exact ir_63_0 hI.2.1
  refine Tr.aload_n (pc := 0) (i := 0) d_X8_join_0 rfl rfl ?_
  refine Tr.getf (pc := 1) d_X8_join_1 f_8_28 (by decide) (by decide) (ty_63 hS.1.1) ?_
  refine Tr.tp 69 (fx_63_6 hS.1.1) ?_
  refine Tr.iload_n (pc := 4) (i := 1) d_X8_join_4 rfl rfl ?_
  refine Tr.iald (pc := 5) d_X8_join_5 (ty_69 hS.1.1) (by omega) (by omega) ?_
  refine Tr.gen (P := fun v => ((-2147483648) ≤ v ∧ v ≤ 2147483647) ∧ v < g63_0) (by have h8 := tl_r hS (p := a1) (by omega) (by omega) eg63_0; have h9 := (ar_69 hS.1.2.1 (a1)); omega) (fun r5 er5 br5 => ?_)
  refine Tr.if_lt (pc := 6) (tgt := 26) d_X8_join_6 rfl (fun c6 => ?_) (fun c6 => ?_)
  · exact Tr.vret (pc := 26) d_X8_join_26 rfl ⟨hS, rfl⟩
  · refine Tr.aload_n (pc := 9) (i := 0) d_X8_join_9 rfl rfl ?_
    refine Tr.getf (pc := 10) d_X8_join_10 f_8_24 (by decide) (by decide) (ty_63 hS.1.1) ?_
    refine Tr.gen (P := fun v => v = tref g63_1 5) (tl_ref hS eg63_1 (by decide)) (fun t10 et10 bt10 => ?_)
    refine Tr.aload_n (pc := 13) (i := 0) d_X8_join_13 rfl rfl ?_
    refine Tr.getf (pc := 14) d_X8_join_14 f_8_28 (by decide) (by decide) (ty_63 hS.1.1) ?_
    refine Tr.tp 69 (fx_63_6 hS.1.1) ?_
    refine Tr.iload_n (pc := 17) (i := 1) d_X8_join_17 rfl rfl ?_
    refine Tr.iald (pc := 18) d_X8_join_18 (ty_69 hS.1.1) (by omega) (by omega) ?_
    refine Tr.tp r5 er5 ?_
    refine Tr.dup2 (pc := 19) d_X8_join_19 ne01 ne21 ?_
    have nk20_0 : rd M0 63 0 = g63_0 := eg63_0
    have nn20 := tl_n hS eg63_1
    refine Tr.lald (pc := 20) d_X8_join_20 (tl_tyL hS eg63_1 bt10) (by omega) (by omega) ?_
    refine Tr.gen (P := fun v => (-9223372036854775808) ≤ v ∧ v ≤ 9223372036854775807) (tl_eL hS eg63_1 bt10 (by omega) (by omega)) (fun r20 er20 br20 => ?_)
    refine Tr.lconst (pc := 21) (v := 1) d_X8_join_21 rfl (by decide) ?_
    refine Tr.iload_n (pc := 22) (i := 2) d_X8_join_22 rfl rfl ?_
    refine Tr.lshl (pc := 23) d_X8_join_23 ?_
    refine Tr.gen (P := fun v => (-9223372036854775808) ≤ v ∧ v ≤ 9223372036854775807) (i64_b _) (fun r23 er23 br23 => ?_)
    refine Tr.lor (pc := 24) d_X8_join_24 ?_
    refine Tr.gen (P := fun v => (-9223372036854775808) ≤ v ∧ v ≤ 9223372036854775807) (i64_b _) (fun r24 er24 br24 => ?_)
    have nk25_0 : rd M0 63 0 = g63_0 := eg63_0
    have nn25 := tl_n hS eg63_1
    have nh25 := tl_hi hS eg63_1 (j := 5) (by decide) bt10 (i := r5) (by omega) (by omega)
    refine Tr.lastS (pc := 25) (P := St Rn ws_X8_join_63_w1 as_X8_join_63_w1 M0) d_X8_join_25 (tl_tyL hS eg63_1 bt10) (by omega) (by omega) (tl_wr hS (by decide) eg63_1 (j := 5) (by decide) bt10 (by omega) (by omega) (by have hb := (show tlo 5 = (-9223372036854775808) ∧ thi 5 = 9223372036854775807 by decide); omega) (Rn.of hS.1.2.2.2.2 (fun _ => rd_wn _ (fun c => by have := c.1; omega)) (rd_wn _ (fun c => by have := c.1; omega)))) (fun M25 hS w25 => ?_)
    exact Tr.vret (pc := 26) d_X8_join_26 rfl ⟨hS, rfl⟩

def ws_X1_act_56_w1 : List (Int × Int) := []
def as_X1_act_56_w1 : List Int := [58, 191]
def q_X1_act_56_w1 (M0 M' : Mem) (r : Option PV) : Prop := St Rn ws_X1_act_56_w1 as_X1_act_56_w1 M0 M' ∧ r = none
set_option maxRecDepth 100000 in
set_option maxHeartbeats 4000000 in
theorem sp_X1_act_56_w1 {l : Launch} {K : EC} {M0 : Mem} (hI : In Rn M0)  (a1 : Int) (ha1 : 0 ≤ a1 ∧ a1 ≤ 5) (a2 : Int) (ha2 : 0 ≤ a2 ∧ a2 ≤ 59)  : Tr l K 1 mX1_act 0 [(0, (2, 56)), (1, (0, a1)), (2, (0, a2))] [] M0 (q_X1_act_56_w1 M0) := by
  have hS : St Rn ws_X1_act_56_w1 as_X1_act_56_w1 M0 M0 := St.rf hI
  refine Tr.aload_n (pc := 0) (i := 0) d_X1_act_0 rfl rfl ?_
  refine Tr.getz (pc := 1) d_X1_act_1 f_1_37 (by decide) (ty_56 hS.1.1) ?_
  refine Tr.tp 1 (fx_56_0 hS.1.1) ?_
  refine Tr.if_ne (pc := 4) (tgt := 8) d_X1_act_4 rfl (fun _ => ?_) (fun hc => absurd hc (by omega))
  refine Tr.aload_n (pc := 8) (i := 0) d_X1_act_8 rfl rfl ?_
  refine Tr.getf (pc := 9) d_X1_act_9 f_1_15 (by decide) (by decide) (ty_56 hS.1.1) ?_
  refine Tr.tp 58 (fx_56_3 hS.1.1) ?_
  refine Tr.iload_n (pc := 12) (i := 1) d_X1_act_12 rfl rfl ?_
  refine Tr.iload_n (pc := 13) (i := 2) d_X1_act_13 rfl rfl ?_
  refine Tr.iastS (pc := 14) (P := St Rn ws_X1_act_56_w1 as_X1_act_56_w1 M0) d_X1_act_14 (ty_58 hS.1.1) (by omega) (by omega) (sa_58 hS (by decide) (by omega) (Rn.of hS.1.2.2.2.2 (fun _ => rd_wb _ rfl) (rd_wb _ rfl))) (fun M14 hS w14 => ?_)
  refine Tr.aload_n (pc := 15) (i := 0) d_X1_act_15 rfl rfl ?_
  refine Tr.getf (pc := 16) d_X1_act_16 f_1_33 (by decide) (by decide) (ty_56 hS.1.1) ?_
  refine Tr.tp 63 (fx_56_8 hS.1.1) ?_
  refine Tr.iload_n (pc := 19) (i := 1) d_X1_act_19 rfl rfl ?_
  refine Tr.iload_n (pc := 20) (i := 2) d_X1_act_20 rfl rfl ?_
  refine Tr.callV (pc := 21) (as := [_, _]) d_X1_act_21 s_1_63 ok_X8_join rfl rfl (Nat.le_of_ble_eq_true rfl) (Nat.le_of_ble_eq_true rfl) (by decide) (ty_63 hS.1.1) ?_
  refine Tr.imp (Tr.deep (by decide) (sp_X8_join_63_w1 hS.1 a1 (by omega) a2 (by omega))) ?_
  rintro M21 _ ⟨h21, rfl⟩
  have hS := St.tr hS h21 (by decide) (by decide)
  refine Tr.sc [] rfl ?_
  exact Tr.vret (pc := 24) d_X1_act_24 rfl ⟨hS, rfl⟩

def ws_X6_free_48_w1 : List (Int × Int) := [(63, 0)]
def as_X6_free_48_w1 : List Int := [53, 54, 55, 57, 58, 60, 61, 62, 69, 191]
def q_X6_free_48_w1 (M0 M' : Mem) (r : Option PV) : Prop := St Rn ws_X6_free_48_w1 as_X6_free_48_w1 M0 M' ∧ r = none
set_option maxRecDepth 100000 in
set_option maxHeartbeats 4000000 in
theorem sp_X6_free_48_w1 {l : Launch} {K : EC} {M0 : Mem} (hI : In Rn M0) (en_48_1 : rd M0 48 1 = 7) (en_56_1 : rd M0 56 1 = 7) (a1 : Int) (ha1 : 0 ≤ a1 ∧ a1 ≤ 59) (a2 : Int) (ha2 : 0 ≤ a2 ∧ a2 ≤ 5)  : Tr l K 3 mX6_free 0 [(0, (2, 48)), (1, (0, a1)), (2, (0, a2))] [] M0 (q_X6_free_48_w1 M0) := by
  have hS : St Rn ws_X6_free_48_w1 as_X6_free_48_w1 M0 M0 := St.rf hI
  refine Tr.aload_n (pc := 0) (i := 0) d_X6_free_0 rfl rfl ?_
  refine Tr.getf (pc := 1) d_X6_free_1 f_6_24 (by decide) (by decide) (ty_48 hS.1.1) ?_
  refine Tr.tp 53 (fx_48_6 hS.1.1) ?_
  refine Tr.iload_n (pc := 4) (i := 2) d_X6_free_4 rfl rfl ?_
  refine Tr.iald (pc := 5) d_X6_free_5 (ty_53 hS.1.1) (by omega) (by omega) ?_
  refine Tr.gen (P := fun v => 0 ≤ v ∧ v ≤ 1) (ar_53 hS.1.2.1 _) (fun r5 er5 br5 => ?_)
  refine Tr.if_ne (pc := 6) (tgt := 10) d_X6_free_6 rfl (fun c6 => ?_) (fun c6 => ?_)
  · refine Tr.aload_n (pc := 10) (i := 0) d_X6_free_10 rfl rfl ?_
    refine Tr.iload_n (pc := 11) (i := 2) d_X6_free_11 rfl rfl ?_
    refine Tr.aload_n (pc := 12) (i := 0) d_X6_free_12 rfl rfl ?_
    refine Tr.getf (pc := 13) d_X6_free_13 f_6_68 (by decide) (by decide) (ty_48 hS.1.1) ?_
    refine Tr.gen (P := fun v => (-2147483648) ≤ v ∧ v ≤ 2147483647) (ir_48_9 hS.1.2.1) (fun r13 er13 br13 => ?_)
    refine Tr.callV (pc := 16) (as := [_, _]) d_X6_free_16 s_6_125 ok_X6_settle rfl rfl (Nat.le_of_ble_eq_true rfl) (Nat.le_of_ble_eq_true rfl) (by decide) (ty_48 hS.1.1) ?_
    refine Tr.imp (Tr.deep (by decide) (sp_X6_settle_48 hS.1 ((St.kp hS (by decide) (by decide) (by decide)).trans en_56_1) a2 (by omega) r13 (by omega))) ?_
    rintro M16 _ ⟨h16, rfl⟩
    have hS := St.tr hS h16 (by decide) (by decide)
    refine Tr.sc [] rfl ?_
    refine Tr.aload_n (pc := 19) (i := 0) d_X6_free_19 rfl rfl ?_
    refine Tr.getf (pc := 20) d_X6_free_20 f_6_38 (by decide) (by decide) (ty_48 hS.1.1) ?_
    refine Tr.tp 56 (fx_48_0 hS.1.1) ?_
    refine Tr.iload_n (pc := 23) (i := 2) d_X6_free_23 rfl rfl ?_
    refine Tr.aload_n (pc := 24) (i := 0) d_X6_free_24 rfl rfl ?_
    refine Tr.getf (pc := 25) d_X6_free_25 f_6_68 (by decide) (by decide) (ty_48 hS.1.1) ?_
    refine Tr.tp r13 ((St.kp h16 (by decide) (by decide) (by decide)).trans er13) ?_
    refine Tr.callV (pc := 28) (as := [_, _]) d_X6_free_28 s_6_128 ok_X1_letGo rfl rfl (Nat.le_of_ble_eq_true rfl) (Nat.le_of_ble_eq_true rfl) (by decide) (ty_56 hS.1.1) ?_
    refine Tr.imp (Tr.deep (by decide) (sp_X1_letGo_56 hS.1.wk a2 (by omega) r13 (by omega))) ?_
    rintro M28 _ ⟨h28, rfl⟩
    have h28 := St.rn h28 (Rn.of hS.1.2.2.2.2 (fun _ => (St.ka h28 (by decide) (by decide) (by decide))) (St.kp h28 (by decide) (by decide) (by decide)))
    have hS := St.tr hS h28 (by decide) (by decide)
    refine Tr.sc [] rfl ?_
    refine Tr.aload_n (pc := 31) (i := 0) d_X6_free_31 rfl rfl ?_
    refine Tr.getf (pc := 32) d_X6_free_32 f_6_38 (by decide) (by decide) (ty_48 hS.1.1) ?_
    refine Tr.tp 56 (fx_48_0 hS.1.1) ?_
    refine Tr.iload_n (pc := 35) (i := 2) d_X6_free_35 rfl rfl ?_
    refine Tr.iload_n (pc := 36) (i := 1) d_X6_free_36 rfl rfl ?_
    refine Tr.callV (pc := 37) (as := [_, _]) d_X6_free_37 s_6_214 ok_X1_act rfl rfl (Nat.le_of_ble_eq_true rfl) (Nat.le_of_ble_eq_true rfl) (by decide) (ty_56 hS.1.1) ?_
    refine Tr.imp (Tr.deep (by decide) (sp_X1_act_56_w1 hS.1 a2 (by omega) a1 (by omega))) ?_
    rintro M37 _ ⟨h37, rfl⟩
    have hS := St.tr hS h37 (by decide) (by decide)
    refine Tr.sc [] rfl ?_
    refine Tr.aload_n (pc := 40) (i := 0) d_X6_free_40 rfl rfl ?_
    refine Tr.getf (pc := 41) d_X6_free_41 f_6_24 (by decide) (by decide) (ty_48 hS.1.1) ?_
    refine Tr.tp 53 (fx_48_6 hS.1.1) ?_
    refine Tr.iload_n (pc := 44) (i := 2) d_X6_free_44 rfl rfl ?_
    refine Tr.iconst (pc := 45) d_X6_free_45 (by decide) ?_
    refine Tr.iastS (pc := 46) (P := St Rn ws_X6_free_48_w1 as_X6_free_48_w1 M0) d_X6_free_46 (ty_53 hS.1.1) (by omega) (by omega) (sa_53 hS (by decide) (by omega) (Rn.of hS.1.2.2.2.2 (fun _ => rd_wb _ rfl) (rd_wb _ rfl))) (fun M46 hS w46 => ?_)
    refine Tr.aload_n (pc := 47) (i := 0) d_X6_free_47 rfl rfl ?_
    refine Tr.getf (pc := 48) d_X6_free_48 f_6_27 (by decide) (by decide) (ty_48 hS.1.1) ?_
    refine Tr.tp 54 (fx_48_7 hS.1.1) ?_
    refine Tr.iload_n (pc := 51) (i := 2) d_X6_free_51 rfl rfl ?_
    refine Tr.aload_n (pc := 52) (i := 0) d_X6_free_52 rfl rfl ?_
    refine Tr.getf (pc := 53) d_X6_free_53 f_6_68 (by decide) (by decide) (ty_48 hS.1.1) ?_
    refine Tr.tp r13 ((Wr.b w46 rfl).trans ((St.kp h37 (by decide) (by decide) (by decide)).trans ((St.kp h28 (by decide) (by decide) (by decide)).trans ((St.kp h16 (by decide) (by decide) (by decide)).trans er13)))) ?_
    refine Tr.aload_n (pc := 56) (i := 0) d_X6_free_56 rfl rfl ?_
    refine Tr.getf (pc := 57) d_X6_free_57 f_6_46 (by decide) (by decide) (ty_48 hS.1.1) ?_
    refine Tr.tp 7 ((St.kp hS (by decide) (by decide) (by decide)).trans en_48_1) ?_
    refine Tr.getf (pc := 60) d_X6_free_60 f_6_208 (by decide) (by decide) (ty_7 hS.1.1) ?_
    refine Tr.tp 11 (fx_7_7 hS.1.1) ?_
    refine Tr.iload_n (pc := 63) (i := 2) d_X6_free_63 rfl rfl ?_
    refine Tr.iald (pc := 64) d_X6_free_64 (ty_11 hS.1.1) (by omega) (by omega) ?_
    refine Tr.gen (P := fun v => 0 ≤ v ∧ v ≤ 50) (ar_11 hS.1.2.1 _) (fun r64 er64 br64 => ?_)
    refine Tr.iadd (pc := 65) d_X6_free_65 ?_
    refine Tr.gen (P := fun v => (-2147483648) ≤ v ∧ v ≤ 2147483647) (w32_b _) (fun r65 er65 br65 => ?_)
    refine Tr.iastS (pc := 66) (P := St Rn ws_X6_free_48_w1 as_X6_free_48_w1 M0) d_X6_free_66 (ty_54 hS.1.1) (by omega) (by omega) (sa_54 hS (by decide) (by omega) (Rn.of hS.1.2.2.2.2 (fun _ => rd_wb _ rfl) (rd_wb _ rfl))) (fun M66 hS w66 => ?_)
    exact Tr.vret (pc := 67) d_X6_free_67 rfl ⟨hS, rfl⟩
  · exact Tr.vret (pc := 9) d_X6_free_9 rfl ⟨hS, rfl⟩

def ws_X6_bookBusy_48_w1 : List (Int × Int) := [(63, 0)]
def as_X6_bookBusy_48_w1 : List Int := [55, 57, 58, 60, 61, 69, 191]
def q_X6_bookBusy_48_w1 (M0 M' : Mem) (r : Option PV) : Prop := St Rn ws_X6_bookBusy_48_w1 as_X6_bookBusy_48_w1 M0 M' ∧ r = none
set_option maxRecDepth 100000 in
set_option maxHeartbeats 4000000 in
theorem sp_X6_bookBusy_48_w1 {l : Launch} {K : EC} {M0 : Mem} (hI : In Rn M0) (en_56_1 : rd M0 56 1 = 7) (a1 : Int) (ha1 : 0 ≤ a1 ∧ a1 ≤ 59) (a2 : Int) (ha2 : 0 ≤ a2 ∧ a2 ≤ 5) (a3 : Int) (ha3 : (-2147483648) ≤ a3 ∧ a3 ≤ 2147483647) (a4 : Int) (ha4 : (-2147483648) ≤ a4 ∧ a4 ≤ 2147483647)  : Tr l K 2 mX6_bookBusy 0 [(0, (2, 48)), (1, (0, a1)), (2, (0, a2)), (3, (0, a3)), (4, (0, a4))] [] M0 (q_X6_bookBusy_48_w1 M0) := by
  have hS : St Rn ws_X6_bookBusy_48_w1 as_X6_bookBusy_48_w1 M0 M0 := St.rf hI
  refine Tr.aload_n (pc := 0) (i := 0) d_X6_bookBusy_0 rfl rfl ?_
  refine Tr.getf (pc := 1) d_X6_bookBusy_1 f_6_38 (by decide) (by decide) (ty_48 hS.1.1) ?_
  refine Tr.tp 56 (fx_48_0 hS.1.1) ?_
  refine Tr.iload_n (pc := 4) (i := 2) d_X6_bookBusy_4 rfl rfl ?_
  refine Tr.iload_n (pc := 5) (i := 1) d_X6_bookBusy_5 rfl rfl ?_
  refine Tr.callV (pc := 6) (as := [_, _]) d_X6_bookBusy_6 s_6_214 ok_X1_act rfl rfl (Nat.le_of_ble_eq_true rfl) (Nat.le_of_ble_eq_true rfl) (by decide) (ty_56 hS.1.1) ?_
  refine Tr.imp (Tr.deep (by decide) (sp_X1_act_56_w1 hS.1 a2 (by omega) a1 (by omega))) ?_
  rintro M6 _ ⟨h6, rfl⟩
  have hS := St.tr hS h6 (by decide) (by decide)
  refine Tr.sc [] rfl ?_
  refine Tr.aload_n (pc := 9) (i := 0) d_X6_bookBusy_9 rfl rfl ?_
  refine Tr.getf (pc := 10) d_X6_bookBusy_10 f_6_38 (by decide) (by decide) (ty_48 hS.1.1) ?_
  refine Tr.tp 56 (fx_48_0 hS.1.1) ?_
  refine Tr.iload_n (pc := 13) (i := 2) d_X6_bookBusy_13 rfl rfl ?_
  refine Tr.iconst (pc := 14) d_X6_bookBusy_14 (by decide) ?_
  refine Tr.iload_n (pc := 15) (i := 3) d_X6_bookBusy_15 rfl rfl ?_
  refine Tr.iload (pc := 16) (i := 4) d_X6_bookBusy_16 rfl ?_
  refine Tr.callV (pc := 18) (as := [_, _, _, _]) d_X6_bookBusy_18 s_6_192 ok_X1_note rfl rfl (Nat.le_of_ble_eq_true rfl) (Nat.le_of_ble_eq_true rfl) (by decide) (ty_56 hS.1.1) ?_
  refine Tr.imp (Tr.deep (by decide) (sp_X1_note_56_w2 hS.1 ((St.kp hS (by decide) (by decide) (by decide)).trans en_56_1) a2 (by omega) 1 (by omega) a3 (by omega) a4 (by omega))) ?_
  rintro M18 _ ⟨h18, rfl⟩
  have hS := St.tr hS h18 (by decide) (by decide)
  refine Tr.sc [] rfl ?_
  refine Tr.aload_n (pc := 21) (i := 0) d_X6_bookBusy_21 rfl rfl ?_
  refine Tr.getf (pc := 22) d_X6_bookBusy_22 f_6_38 (by decide) (by decide) (ty_48 hS.1.1) ?_
  refine Tr.tp 56 (fx_48_0 hS.1.1) ?_
  refine Tr.iload_n (pc := 25) (i := 2) d_X6_bookBusy_25 rfl rfl ?_
  refine Tr.iconst (pc := 26) d_X6_bookBusy_26 (by decide) ?_
  refine Tr.iload (pc := 27) (i := 4) d_X6_bookBusy_27 rfl ?_
  refine Tr.aload_n (pc := 29) (i := 0) d_X6_bookBusy_29 rfl rfl ?_
  refine Tr.getf (pc := 30) d_X6_bookBusy_30 f_6_68 (by decide) (by decide) (ty_48 hS.1.1) ?_
  refine Tr.gen (P := fun v => (-2147483648) ≤ v ∧ v ≤ 2147483647) (ir_48_9 hS.1.2.1) (fun r30 er30 br30 => ?_)
  refine Tr.callV (pc := 33) (as := [_, _, _, _]) d_X6_bookBusy_33 s_6_192 ok_X1_note rfl rfl (Nat.le_of_ble_eq_true rfl) (Nat.le_of_ble_eq_true rfl) (by decide) (ty_56 hS.1.1) ?_
  refine Tr.imp (Tr.deep (by decide) (sp_X1_note_56_w3 hS.1 ((St.kp hS (by decide) (by decide) (by decide)).trans en_56_1) a2 (by omega) 3 (by omega) a4 (by omega) r30 (by omega))) ?_
  rintro M33 _ ⟨h33, rfl⟩
  have hS := St.tr hS h33 (by decide) (by decide)
  refine Tr.sc [] rfl ?_
  refine Tr.aload_n (pc := 36) (i := 0) d_X6_bookBusy_36 rfl rfl ?_
  refine Tr.getf (pc := 37) d_X6_bookBusy_37 f_6_30 (by decide) (by decide) (ty_48 hS.1.1) ?_
  refine Tr.tp 55 (fx_48_8 hS.1.1) ?_
  refine Tr.iload_n (pc := 40) (i := 2) d_X6_bookBusy_40 rfl rfl ?_
  refine Tr.aload_n (pc := 41) (i := 0) d_X6_bookBusy_41 rfl rfl ?_
  refine Tr.getf (pc := 42) d_X6_bookBusy_42 f_6_68 (by decide) (by decide) (ty_48 hS.1.1) ?_
  refine Tr.tp r30 ((St.kp h33 (by decide) (by decide) (by decide)).trans er30) ?_
  refine Tr.iastS (pc := 45) (P := St Rn ws_X6_bookBusy_48_w1 as_X6_bookBusy_48_w1 M0) d_X6_bookBusy_45 (ty_55 hS.1.1) (by omega) (by omega) (sa_55 hS (by decide) (by omega) (Rn.of hS.1.2.2.2.2 (fun _ => rd_wb _ rfl) (rd_wb _ rfl))) (fun M45 hS w45 => ?_)
  exact Tr.vret (pc := 46) d_X6_bookBusy_46 rfl ⟨hS, rfl⟩

def ws_X8_cover_63_w1 : List (Int × Int) := [(63, 7)]
def as_X8_cover_63_w1 : List Int := [191]
def q_X8_cover_63_w1 (a1 : Int) (a2 : Int) (a3 : Int) (a4 : Int) (M0 M' : Mem) (r : Option PV) : Prop := St Tru ws_X8_cover_63_w1 as_X8_cover_63_w1 M0 M' ∧ ∃ v : Int, r = some (0, v) ∧ (-1) ≤ v ∧ v ≤ 2015 ∧ (rd M' 63 7 ≤ rd M0 63 7 + 1)
set_option maxRecDepth 100000 in
set_option maxHeartbeats 4000000 in
theorem sp_X8_cover_63_w1 {l : Launch} {K : EC} {M0 : Mem} (hI : In Tru M0)  (a1 : Int) (ha1 : 0 ≤ a1 ∧ a1 ≤ 5) (a2 : Int) (ha2 : 0 ≤ a2 ∧ a2 ≤ 59) (a3 : Int) (ha3 : (-2147483648) ≤ a3 ∧ a3 ≤ 2147483647) (a4 : Int) (ha4 : (-2147483648) ≤ a4 ∧ a4 ≤ 2147483647)  : Tr l K 0 mX8_cover 0 [(0, (2, 63)), (1, (0, a1)), (2, (0, a2)), (3, (0, a3)), (4, (0, a4))] [] M0 (q_X8_cover_63_w1 a1 a2 a3 a4 M0) := by
  have hS : St Tru ws_X8_cover_63_w1 as_X8_cover_63_w1 M0 M0 := St.rf hI
  obtain ⟨g63_1, eg63_1⟩ : ∃ v, rd M0 63 1 = v := ⟨_, rfl⟩
  have bg63_1 : (-1000000000) ≤ g63_1 ∧ g63_1 ≤ 1000000000 := by rw [← eg63_1]; exact ir_63_1 hI.2.1
  obtain ⟨g63_7, eg63_7⟩ : ∃ v, rd M0 63 7 = v := ⟨_, rfl⟩
  have bg63_7 : (-2147483648) ≤ g63_7 ∧ g63_7 ≤ 2147483647 := by rw [← eg63_7]; exact ir_63_7 hI.2.1
  refine Tr.aload_n (pc := 0) (i := 0) d_X8_cover_0 rfl rfl ?_
  refine Tr.getf (pc := 1) d_X8_cover_1 f_8_47 (by decide) (by decide) (ty_63 hS.1.1) ?_
  refine Tr.tp g63_7 eg63_7 ?_
  refine Tr.aload_n (pc := 4) (i := 0) d_X8_cover_4 rfl rfl ?_
  refine Tr.getf (pc := 5) d_X8_cover_5 f_8_31 (by decide) (by decide) (ty_63 hS.1.1) ?_
  refine Tr.gen (P := fun v => v = tref g63_1 8) (tl_ref hS eg63_1 (by decide)) (fun t5 et5 bt5 => ?_)
  have nk8_7 : rd M0 63 7 = g63_7 := eg63_7
  have nn8 := tl_n hS eg63_1
  refine Tr.alen (pc := 8) d_X8_cover_8 (tl_tyI hS eg63_1 (j := 8) (by decide) (by decide) bt5) (by decide) (by omega) ?_
  refine Tr.gen (P := fun v => v = ((fN g63_1 : Nat) : Int) ∧ (0 ≤ v ∧ v ≤ 2016)) ⟨rfl, by omega, by omega⟩ (fun r8 er8 br8 => ?_)
  refine Tr.icmp_lt (pc := 9) (tgt := 14) d_X8_cover_9 rfl (fun c9 => ?_) (fun c9 => ?_)
  · refine Tr.aload_n (pc := 14) (i := 0) d_X8_cover_14 rfl rfl ?_
    refine Tr.getf (pc := 15) d_X8_cover_15 f_8_31 (by decide) (by decide) (ty_63 hS.1.1) ?_
    refine Tr.gen (P := fun v => v = tref g63_1 8) (tl_ref hS eg63_1 (by decide)) (fun t15 et15 bt15 => ?_)
    refine Tr.aload_n (pc := 18) (i := 0) d_X8_cover_18 rfl rfl ?_
    refine Tr.getf (pc := 19) d_X8_cover_19 f_8_47 (by decide) (by decide) (ty_63 hS.1.1) ?_
    refine Tr.tp g63_7 eg63_7 ?_
    refine Tr.iload_n (pc := 22) (i := 1) d_X8_cover_22 rfl rfl ?_
    have nk23_7 : rd M0 63 7 = g63_7 := eg63_7
    have nn23 := tl_n hS eg63_1
    have nh23 := tl_hi hS eg63_1 (j := 8) (by decide) bt15 (i := g63_7) (by omega) (by omega)
    refine Tr.iastS (pc := 23) (P := St Tru ws_X8_cover_63_w1 as_X8_cover_63_w1 M0) d_X8_cover_23 (tl_tyI hS eg63_1 (j := 8) (by decide) (by decide) bt15) (by omega) (by omega) (tl_wr hS (by decide) eg63_1 (j := 8) (by decide) bt15 (by omega) (by omega) (by have hb := (show tlo 8 = 0 ∧ thi 8 = 5 by decide); omega) trivial) (fun M23 hS w23 => ?_)
    refine Tr.aload_n (pc := 24) (i := 0) d_X8_cover_24 rfl rfl ?_
    refine Tr.getf (pc := 25) d_X8_cover_25 f_8_34 (by decide) (by decide) (ty_63 hS.1.1) ?_
    refine Tr.gen (P := fun v => v = tref g63_1 9) (tl_ref hS ((Wr.n w23 (by omega)).trans eg63_1) (by decide)) (fun t25 et25 bt25 => ?_)
    refine Tr.aload_n (pc := 28) (i := 0) d_X8_cover_28 rfl rfl ?_
    refine Tr.getf (pc := 29) d_X8_cover_29 f_8_47 (by decide) (by decide) (ty_63 hS.1.1) ?_
    refine Tr.tp g63_7 ((Wr.n w23 (by omega)).trans eg63_7) ?_
    refine Tr.iload_n (pc := 32) (i := 2) d_X8_cover_32 rfl rfl ?_
    have nk33_7 : rd M23 63 7 = g63_7 := ((Wr.n w23 (by omega)).trans eg63_7)
    have nn33 := tl_n hS ((Wr.n w23 (by omega)).trans eg63_1)
    have nh33 := tl_hi hS ((Wr.n w23 (by omega)).trans eg63_1) (j := 9) (by decide) bt25 (i := g63_7) (by omega) (by omega)
    refine Tr.iastS (pc := 33) (P := St Tru ws_X8_cover_63_w1 as_X8_cover_63_w1 M0) d_X8_cover_33 (tl_tyI hS ((Wr.n w23 (by omega)).trans eg63_1) (j := 9) (by decide) (by decide) bt25) (by omega) (by omega) (tl_wr hS (by decide) ((Wr.n w23 (by omega)).trans eg63_1) (j := 9) (by decide) bt25 (by omega) (by omega) (by have hb := (show tlo 9 = (-2147483648) ∧ thi 9 = 2147483647 by decide); omega) trivial) (fun M33 hS w33 => ?_)
    refine Tr.aload_n (pc := 34) (i := 0) d_X8_cover_34 rfl rfl ?_
    refine Tr.getf (pc := 35) d_X8_cover_35 f_8_37 (by decide) (by decide) (ty_63 hS.1.1) ?_
    refine Tr.gen (P := fun v => v = tref g63_1 10) (tl_ref hS ((Wr.n w33 (by omega)).trans ((Wr.n w23 (by omega)).trans eg63_1)) (by decide)) (fun t35 et35 bt35 => ?_)
    refine Tr.aload_n (pc := 38) (i := 0) d_X8_cover_38 rfl rfl ?_
    refine Tr.getf (pc := 39) d_X8_cover_39 f_8_47 (by decide) (by decide) (ty_63 hS.1.1) ?_
    refine Tr.tp g63_7 ((Wr.n w33 (by omega)).trans ((Wr.n w23 (by omega)).trans eg63_7)) ?_
    refine Tr.iload_n (pc := 42) (i := 3) d_X8_cover_42 rfl rfl ?_
    have nk43_7 : rd M33 63 7 = g63_7 := ((Wr.n w33 (by omega)).trans ((Wr.n w23 (by omega)).trans eg63_7))
    have nn43 := tl_n hS ((Wr.n w33 (by omega)).trans ((Wr.n w23 (by omega)).trans eg63_1))
    have nh43 := tl_hi hS ((Wr.n w33 (by omega)).trans ((Wr.n w23 (by omega)).trans eg63_1)) (j := 10) (by decide) bt35 (i := g63_7) (by omega) (by omega)
    refine Tr.iastS (pc := 43) (P := St Tru ws_X8_cover_63_w1 as_X8_cover_63_w1 M0) d_X8_cover_43 (tl_tyI hS ((Wr.n w33 (by omega)).trans ((Wr.n w23 (by omega)).trans eg63_1)) (j := 10) (by decide) (by decide) bt35) (by omega) (by omega) (tl_wr hS (by decide) ((Wr.n w33 (by omega)).trans ((Wr.n w23 (by omega)).trans eg63_1)) (j := 10) (by decide) bt35 (by omega) (by omega) (by have hb := (show tlo 10 = (-2147483648) ∧ thi 10 = 2147483647 by decide); omega) trivial) (fun M43 hS w43 => ?_)
    refine Tr.aload_n (pc := 44) (i := 0) d_X8_cover_44 rfl rfl ?_
    refine Tr.getf (pc := 45) d_X8_cover_45 f_8_40 (by decide) (by decide) (ty_63 hS.1.1) ?_
    refine Tr.gen (P := fun v => v = tref g63_1 11) (tl_ref hS ((Wr.n w43 (by omega)).trans ((Wr.n w33 (by omega)).trans ((Wr.n w23 (by omega)).trans eg63_1))) (by decide)) (fun t45 et45 bt45 => ?_)
    refine Tr.aload_n (pc := 48) (i := 0) d_X8_cover_48 rfl rfl ?_
    refine Tr.getf (pc := 49) d_X8_cover_49 f_8_47 (by decide) (by decide) (ty_63 hS.1.1) ?_
    refine Tr.tp g63_7 ((Wr.n w43 (by omega)).trans ((Wr.n w33 (by omega)).trans ((Wr.n w23 (by omega)).trans eg63_7))) ?_
    refine Tr.iload (pc := 52) (i := 4) d_X8_cover_52 rfl ?_
    have nk54_7 : rd M43 63 7 = g63_7 := ((Wr.n w43 (by omega)).trans ((Wr.n w33 (by omega)).trans ((Wr.n w23 (by omega)).trans eg63_7)))
    have nn54 := tl_n hS ((Wr.n w43 (by omega)).trans ((Wr.n w33 (by omega)).trans ((Wr.n w23 (by omega)).trans eg63_1)))
    have nh54 := tl_hi hS ((Wr.n w43 (by omega)).trans ((Wr.n w33 (by omega)).trans ((Wr.n w23 (by omega)).trans eg63_1))) (j := 11) (by decide) bt45 (i := g63_7) (by omega) (by omega)
    refine Tr.iastS (pc := 54) (P := St Tru ws_X8_cover_63_w1 as_X8_cover_63_w1 M0) d_X8_cover_54 (tl_tyI hS ((Wr.n w43 (by omega)).trans ((Wr.n w33 (by omega)).trans ((Wr.n w23 (by omega)).trans eg63_1))) (j := 11) (by decide) (by decide) bt45) (by omega) (by omega) (tl_wr hS (by decide) ((Wr.n w43 (by omega)).trans ((Wr.n w33 (by omega)).trans ((Wr.n w23 (by omega)).trans eg63_1))) (j := 11) (by decide) bt45 (by omega) (by omega) (by have hb := (show tlo 11 = (-2147483648) ∧ thi 11 = 2147483647 by decide); omega) trivial) (fun M54 hS w54 => ?_)
    refine Tr.aload_n (pc := 55) (i := 0) d_X8_cover_55 rfl rfl ?_
    refine Tr.dup (pc := 56) d_X8_cover_56 ne21 ?_
    refine Tr.getf (pc := 57) d_X8_cover_57 f_8_47 (by decide) (by decide) (ty_63 hS.1.1) ?_
    refine Tr.tp g63_7 ((Wr.n w54 (by omega)).trans ((Wr.n w43 (by omega)).trans ((Wr.n w33 (by omega)).trans ((Wr.n w23 (by omega)).trans eg63_7)))) ?_
    refine Tr.iconst (pc := 60) d_X8_cover_60 (by decide) ?_
    refine Tr.iadd (pc := 61) d_X8_cover_61 ?_
    refine Tr.tp (g63_7 + 1) ((w32_id (by omega)).trans (by omega)) ?_
    have nk62_7 : rd M54 63 7 = g63_7 := ((Wr.n w54 (by omega)).trans ((Wr.n w43 (by omega)).trans ((Wr.n w33 (by omega)).trans ((Wr.n w23 (by omega)).trans eg63_7))))
    have nn62 := tl_n hS ((Wr.n w54 (by omega)).trans ((Wr.n w43 (by omega)).trans ((Wr.n w33 (by omega)).trans ((Wr.n w23 (by omega)).trans eg63_1))))
    refine Tr.putfS (pc := 62) (P := St Tru ws_X8_cover_63_w1 as_X8_cover_63_w1 M0) d_X8_cover_62 f_8_47 (by decide) (by decide) (ty_63 hS.1.1) (stX_63_7 hS (by decide) (by omega) (xp_cnt hS.1.2.2 ((Wr.n w54 (by omega)).trans ((Wr.n w43 (by omega)).trans ((Wr.n w33 (by omega)).trans ((Wr.n w23 (by omega)).trans eg63_1)))) (Or.inr rfl) (by omega) (by omega) trivial)) (fun M62 hS w62 => ?_)
    refine Tr.aload_n (pc := 65) (i := 0) d_X8_cover_65 rfl rfl ?_
    refine Tr.getf (pc := 66) d_X8_cover_66 f_8_47 (by decide) (by decide) (ty_63 hS.1.1) ?_
    refine Tr.tp (g63_7 + 1) w62.1 ?_
    refine Tr.iconst (pc := 69) d_X8_cover_69 (by decide) ?_
    refine Tr.isub (pc := 70) d_X8_cover_70 ?_
    refine Tr.tp g63_7 ((w32_id (by omega)).trans (by omega)) ?_
    have kr_63_7 : rd M62 63 7 = (g63_7 + 1) := w62.1
    exact Tr.iret (pc := 71) d_X8_cover_71 rfl ⟨hS, _, rfl, by omega, by omega, by omega⟩
  · refine Tr.iconst (pc := 12) d_X8_cover_12 (by decide) ?_
    have kr_63_7 : rd M0 63 7 = g63_7 := eg63_7
    exact Tr.iret (pc := 13) d_X8_cover_13 rfl ⟨hS, _, rfl, by omega, by omega, by omega⟩

def ws_X1_holdFor_56_w1 : List (Int × Int) := [(63, 7)]
def as_X1_holdFor_56_w1 : List Int := [59, 191]
def q_X1_holdFor_56_w1 (a1 : Int) (a2 : Int) (a3 : Int) (M0 M' : Mem) (r : Option PV) : Prop := St Tru ws_X1_holdFor_56_w1 as_X1_holdFor_56_w1 M0 M' ∧ r = none ∧ (rd M' 63 7 ≤ rd M0 63 7 + 1)
set_option maxRecDepth 100000 in
set_option maxHeartbeats 4000000 in
theorem sp_X1_holdFor_56_w1 {l : Launch} {K : EC} {M0 : Mem} (hI : In Tru M0)  (a1 : Int) (ha1 : 0 ≤ a1 ∧ a1 ≤ 5) (a2 : Int) (ha2 : 0 ≤ a2 ∧ a2 ≤ 59) (a3 : Int) (ha3 : (-2147483648) ≤ a3 ∧ a3 ≤ 2147483647)  : Tr l K 1 mX1_holdFor 0 [(0, (2, 56)), (1, (0, a1)), (2, (0, a2)), (3, (0, a3))] [] M0 (q_X1_holdFor_56_w1 a1 a2 a3 M0) := by
  have hS : St Tru ws_X1_holdFor_56_w1 as_X1_holdFor_56_w1 M0 M0 := St.rf hI
  obtain ⟨g63_7, eg63_7⟩ : ∃ v, rd M0 63 7 = v := ⟨_, rfl⟩
  have bg63_7 : (-2147483648) ≤ g63_7 ∧ g63_7 ≤ 2147483647 := by rw [← eg63_7]; exact ir_63_7 hI.2.1
  refine Tr.aload_n (pc := 0) (i := 0) d_X1_holdFor_0 rfl rfl ?_
  refine Tr.getz (pc := 1) d_X1_holdFor_1 f_1_37 (by decide) (ty_56 hS.1.1) ?_
  refine Tr.tp 1 (fx_56_0 hS.1.1) ?_
  refine Tr.if_eq (pc := 4) (tgt := 24) d_X1_holdFor_4 rfl (fun hc => absurd hc (by omega)) (fun _ => ?_)
  refine Tr.aload_n (pc := 7) (i := 0) d_X1_holdFor_7 rfl rfl ?_
  refine Tr.getf (pc := 8) d_X1_holdFor_8 f_1_18 (by decide) (by decide) (ty_56 hS.1.1) ?_
  refine Tr.tp 59 (fx_56_4 hS.1.1) ?_
  refine Tr.iload_n (pc := 11) (i := 1) d_X1_holdFor_11 rfl rfl ?_
  refine Tr.aload_n (pc := 12) (i := 0) d_X1_holdFor_12 rfl rfl ?_
  refine Tr.getf (pc := 13) d_X1_holdFor_13 f_1_33 (by decide) (by decide) (ty_56 hS.1.1) ?_
  refine Tr.tp 63 (fx_56_8 hS.1.1) ?_
  refine Tr.iload_n (pc := 16) (i := 1) d_X1_holdFor_16 rfl rfl ?_
  refine Tr.iload_n (pc := 17) (i := 2) d_X1_holdFor_17 rfl rfl ?_
  refine Tr.iload_n (pc := 18) (i := 3) d_X1_holdFor_18 rfl rfl ?_
  refine Tr.iload_n (pc := 19) (i := 3) d_X1_holdFor_19 rfl rfl ?_
  refine Tr.callV (pc := 20) (as := [_, _, _, _]) d_X1_holdFor_20 s_1_84 ok_X8_cover rfl rfl (Nat.le_of_ble_eq_true rfl) (Nat.le_of_ble_eq_true rfl) (by decide) (ty_63 hS.1.1) ?_
  have kb20_63_7 : rd M0 63 7 = g63_7 := eg63_7
  refine Tr.imp (Tr.deep (by decide) (sp_X8_cover_63_w1 hS.1 a1 (by omega) a2 (by omega) a3 (by omega) a3 (by omega))) ?_
  rintro M20 _ ⟨h20, r20, rfl, lr20, ur20, z20_0⟩
  have hS := St.tr hS h20 (by decide) (by decide)
  obtain ⟨s20_63_7, es20_63_7⟩ : ∃ v, rd M20 63 7 = v := ⟨_, rfl⟩
  have bs20_63_7 : (-2147483648) ≤ s20_63_7 ∧ s20_63_7 ≤ 2147483647 := by rw [← es20_63_7]; exact ir_63_7 hS.1.2.1
  refine Tr.sc [(0, r20), (0, a1), (2, 59)] rfl ?_
  refine Tr.iastS (pc := 23) (P := St Tru ws_X1_holdFor_56_w1 as_X1_holdFor_56_w1 M0) d_X1_holdFor_23 (ty_59 hS.1.1) (by omega) (by omega) (sa_59 hS (by decide) (by omega) trivial) (fun M23 hS w23 => ?_)
  have kr_63_7 : rd M23 63 7 = s20_63_7 := ((Wr.b w23 rfl).trans es20_63_7)
  exact Tr.vret (pc := 24) d_X1_holdFor_24 rfl ⟨hS, rfl, by omega⟩

def ws_X6_hold_48_w1 : List (Int × Int) := [(48, 9), (48, 14), (48, 17), (63, 0), (63, 7)]
def as_X6_hold_48_w1 : List Int := [53, 54, 55, 57, 58, 59, 60, 61, 62, 69, 191]
def q_X6_hold_48_w1 (a1 : Int) (a2 : Int) (M0 M' : Mem) (r : Option PV) : Prop := St Rn ws_X6_hold_48_w1 as_X6_hold_48_w1 M0 M' ∧ r = none ∧ (rd M' 63 7 ≤ rd M0 63 7 + 1)
set_option maxRecDepth 100000 in
set_option maxHeartbeats 4000000 in
theorem sp_X6_hold_48_w1 {l : Launch} {K : EC} {M0 : Mem} (hI : In Rn M0) (en_48_1 : rd M0 48 1 = 7) (en_56_1 : rd M0 56 1 = 7) (a1 : Int) (ha1 : 0 ≤ a1 ∧ a1 ≤ 59) (a2 : Int) (ha2 : 0 ≤ a2 ∧ a2 ≤ 5)  : Tr l K 3 mX6_hold 0 [(0, (2, 48)), (1, (0, a1)), (2, (0, a2))] [] M0 (q_X6_hold_48_w1 a1 a2 M0) := by
  have hS : St Rn ws_X6_hold_48_w1 as_X6_hold_48_w1 M0 M0 := St.rf hI
  obtain ⟨g63_7, eg63_7⟩ : ∃ v, rd M0 63 7 = v := ⟨_, rfl⟩
  have bg63_7 : (-2147483648) ≤ g63_7 ∧ g63_7 ≤ 2147483647 := by rw [← eg63_7]; exact ir_63_7 hI.2.1
  refine Tr.aload_n (pc := 0) (i := 0) d_X6_hold_0 rfl rfl ?_
  refine Tr.getf (pc := 1) d_X6_hold_1 f_6_24 (by decide) (by decide) (ty_48 hS.1.1) ?_
  refine Tr.tp 53 (fx_48_6 hS.1.1) ?_
  refine Tr.iload_n (pc := 4) (i := 2) d_X6_hold_4 rfl rfl ?_
  refine Tr.iald (pc := 5) d_X6_hold_5 (ty_53 hS.1.1) (by omega) (by omega) ?_
  refine Tr.gen (P := fun v => 0 ≤ v ∧ v ≤ 1) (ar_53 hS.1.2.1 _) (fun r5 er5 br5 => ?_)
  refine Tr.iconst (pc := 6) d_X6_hold_6 (by decide) ?_
  refine Tr.icmp_ne (pc := 7) (tgt := 11) d_X6_hold_7 rfl (fun c7 => ?_) (fun c7 => ?_)
  · refine Tr.aload_n (pc := 11) (i := 0) d_X6_hold_11 rfl rfl ?_
    refine Tr.getf (pc := 12) d_X6_hold_12 f_6_68 (by decide) (by decide) (ty_48 hS.1.1) ?_
    refine Tr.gen (P := fun v => (-2147483648) ≤ v ∧ v ≤ 2147483647) (ir_48_9 hS.1.2.1) (fun r12 er12 br12 => ?_)
    refine Tr.istore_n (pc := 15) (i := 3) (ls2 := [(3, (0, r12)), (0, (2, 48)), (1, (0, a1)), (2, (0, a2))]) d_X6_hold_15 rfl (by decide) rfl ?_
    refine Tr.aload_n (pc := 16) (i := 0) d_X6_hold_16 rfl rfl ?_
    refine Tr.aload_n (pc := 17) (i := 0) d_X6_hold_17 rfl rfl ?_
    refine Tr.iload_n (pc := 18) (i := 2) d_X6_hold_18 rfl rfl ?_
    refine Tr.callV (pc := 19) (as := [_]) d_X6_hold_19 s_6_199 ok_X6_wakeOf rfl rfl (Nat.le_of_ble_eq_true rfl) (Nat.le_of_ble_eq_true rfl) (by decide) (ty_48 hS.1.1) ?_
    refine Tr.imp (Tr.deep (by decide) (sp_X6_wakeOf_48 hS.1.wk ((St.kp hS (by decide) (by decide) (by decide)).trans en_48_1) a2 (by omega))) ?_
    rintro M19 _ ⟨h19, r19, rfl, lr19, ur19⟩
    have h19 := St.rn h19 (Rn.of hS.1.2.2.2.2 (fun _ => (St.ka h19 (by decide) (by decide) (by decide))) (St.kp h19 (by decide) (by decide) (by decide)))
    have hS := St.tr hS h19 (by decide) (by decide)
    refine Tr.sc [(0, r19), (2, 48)] rfl ?_
    refine Tr.iload_n (pc := 22) (i := 2) d_X6_hold_22 rfl rfl ?_
    refine Tr.iconst (pc := 23) d_X6_hold_23 (by decide) ?_
    refine Tr.callV (pc := 24) (as := [_, _, _]) d_X6_hold_24 s_6_145 ok_X6_pass rfl rfl (Nat.le_of_ble_eq_true rfl) (Nat.le_of_ble_eq_true rfl) (by decide) (ty_48 hS.1.1) ?_
    refine Tr.imp (Tr.deep (by decide) (sp_X6_pass_48_w3 hS.1.wk ((St.kp hS (by decide) (by decide) (by decide)).trans en_48_1) r19 (by omega) a2 (by omega) 1 (by omega))) ?_
    rintro M24 _ ⟨h24, r24, rfl, lr24, ur24⟩
    have h24 := St.rn h24 (Rn.of hS.1.2.2.2.2 (fun _ => (St.ka h24 (by decide) (by decide) (by decide))) (St.kp h24 (by decide) (by decide) (by decide)))
    have hS := St.tr hS h24 (by decide) (by decide)
    refine Tr.sc [(0, r24)] rfl ?_
    refine Tr.pop (pc := 27) d_X6_hold_27 ne01 ?_
    refine Tr.aload_n (pc := 28) (i := 0) d_X6_hold_28 rfl rfl ?_
    refine Tr.getf (pc := 29) d_X6_hold_29 f_6_62 (by decide) (by decide) (ty_48 hS.1.1) ?_
    refine Tr.gen (P := fun v => (-2147483648) ≤ v ∧ v ≤ 2147483647) (ir_48_14 hS.1.2.1) (fun r29 er29 br29 => ?_)
    have J44 : ∀ (M : Mem), St Rn ws_X6_hold_48_w1 as_X6_hold_48_w1 M0 M → rd M 48 14 = r29 → rd M 53 a2 = r5 → rd M 63 7 = g63_7 → Tr l K 3 mX6_hold 44 [(0, (2, 48)), (1, (0, a1)), (2, (0, a2)), (3, (0, r12))] [] M (q_X6_hold_48_w1 a1 a2 M0) := by
      intro M  hS  k44_48_14 k44_53_a210 k44_63_7
      refine Tr.aload_n (pc := 44) (i := 0) d_X6_hold_44 rfl rfl ?_
      refine Tr.iload_n (pc := 45) (i := 2) d_X6_hold_45 rfl rfl ?_
      refine Tr.iload_n (pc := 46) (i := 3) d_X6_hold_46 rfl rfl ?_
      refine Tr.callV (pc := 47) (as := [_, _]) d_X6_hold_47 s_6_125 ok_X6_settle rfl rfl (Nat.le_of_ble_eq_true rfl) (Nat.le_of_ble_eq_true rfl) (by decide) (ty_48 hS.1.1) ?_
      refine Tr.imp (Tr.deep (by decide) (sp_X6_settle_48 hS.1 ((St.kp hS (by decide) (by decide) (by decide)).trans en_56_1) a2 (by omega) r12 (by omega))) ?_
      rintro M47 _ ⟨h47, rfl⟩
      have hS := St.tr hS h47 (by decide) (by decide)
      refine Tr.sc [] rfl ?_
      refine Tr.aload_n (pc := 50) (i := 0) d_X6_hold_50 rfl rfl ?_
      refine Tr.iload_n (pc := 51) (i := 1) d_X6_hold_51 rfl rfl ?_
      refine Tr.iload_n (pc := 52) (i := 2) d_X6_hold_52 rfl rfl ?_
      refine Tr.iload_n (pc := 53) (i := 3) d_X6_hold_53 rfl rfl ?_
      refine Tr.aload_n (pc := 54) (i := 0) d_X6_hold_54 rfl rfl ?_
      refine Tr.getf (pc := 55) d_X6_hold_55 f_6_68 (by decide) (by decide) (ty_48 hS.1.1) ?_
      refine Tr.gen (P := fun v => (-2147483648) ≤ v ∧ v ≤ 2147483647) (ir_48_9 hS.1.2.1) (fun r55 er55 br55 => ?_)
      refine Tr.callV (pc := 58) (as := [_, _, _, _]) d_X6_hold_58 s_6_202 ok_X6_bookBusy rfl rfl (Nat.le_of_ble_eq_true rfl) (Nat.le_of_ble_eq_true rfl) (by decide) (ty_48 hS.1.1) ?_
      refine Tr.imp (Tr.deep (by decide) (sp_X6_bookBusy_48_w1 hS.1 ((St.kp hS (by decide) (by decide) (by decide)).trans en_56_1) a1 (by omega) a2 (by omega) r12 (by omega) r55 (by omega))) ?_
      rintro M58 _ ⟨h58, rfl⟩
      have hS := St.tr hS h58 (by decide) (by decide)
      refine Tr.sc [] rfl ?_
      refine Tr.aload_n (pc := 61) (i := 0) d_X6_hold_61 rfl rfl ?_
      refine Tr.getf (pc := 62) d_X6_hold_62 f_6_38 (by decide) (by decide) (ty_48 hS.1.1) ?_
      refine Tr.tp 56 (fx_48_0 hS.1.1) ?_
      refine Tr.iload_n (pc := 65) (i := 2) d_X6_hold_65 rfl rfl ?_
      refine Tr.iload_n (pc := 66) (i := 1) d_X6_hold_66 rfl rfl ?_
      refine Tr.aload_n (pc := 67) (i := 0) d_X6_hold_67 rfl rfl ?_
      refine Tr.getf (pc := 68) d_X6_hold_68 f_6_68 (by decide) (by decide) (ty_48 hS.1.1) ?_
      refine Tr.tp r55 ((St.kp h58 (by decide) (by decide) (by decide)).trans er55) ?_
      refine Tr.callV (pc := 71) (as := [_, _, _]) d_X6_hold_71 s_6_211 ok_X1_holdFor rfl rfl (Nat.le_of_ble_eq_true rfl) (Nat.le_of_ble_eq_true rfl) (by decide) (ty_56 hS.1.1) ?_
      have kb71_63_7 : rd M58 63 7 = g63_7 := ((St.kp h58 (by decide) (by decide) (by decide)).trans ((St.kp h47 (by decide) (by decide) (by decide)).trans k44_63_7))
      refine Tr.imp (Tr.deep (by decide) (sp_X1_holdFor_56_w1 hS.1.wk a2 (by omega) a1 (by omega) r55 (by omega))) ?_
      rintro M71 _ ⟨h71, rfl, z71_0⟩
      have h71 := St.rn h71 (Rn.of hS.1.2.2.2.2 (fun _ => (St.ka h71 (by decide) (by decide) (by decide))) (St.kp h71 (by decide) (by decide) (by decide)))
      have hS := St.tr hS h71 (by decide) (by decide)
      obtain ⟨s71_63_7, es71_63_7⟩ : ∃ v, rd M71 63 7 = v := ⟨_, rfl⟩
      have bs71_63_7 : (-2147483648) ≤ s71_63_7 ∧ s71_63_7 ≤ 2147483647 := by rw [← es71_63_7]; exact ir_63_7 hS.1.2.1
      refine Tr.sc [] rfl ?_
      refine Tr.aload_n (pc := 74) (i := 0) d_X6_hold_74 rfl rfl ?_
      refine Tr.getf (pc := 75) d_X6_hold_75 f_6_62 (by decide) (by decide) (ty_48 hS.1.1) ?_
      refine Tr.tp r29 ((St.kp h71 (by decide) (by decide) (by decide)).trans ((St.kp h58 (by decide) (by decide) (by decide)).trans ((St.kp h47 (by decide) (by decide) (by decide)).trans k44_48_14))) ?_
      refine Tr.if_ne (pc := 78) (tgt := 91) d_X6_hold_78 rfl (fun c78 => ?_) (fun c78 => ?_)
      · refine Tr.aload_n (pc := 91) (i := 0) d_X6_hold_91 rfl rfl ?_
        refine Tr.getf (pc := 92) d_X6_hold_92 f_6_27 (by decide) (by decide) (ty_48 hS.1.1) ?_
        refine Tr.tp 54 (fx_48_7 hS.1.1) ?_
        refine Tr.iload_n (pc := 95) (i := 2) d_X6_hold_95 rfl rfl ?_
        refine Tr.aload_n (pc := 96) (i := 0) d_X6_hold_96 rfl rfl ?_
        refine Tr.getf (pc := 97) d_X6_hold_97 f_6_68 (by decide) (by decide) (ty_48 hS.1.1) ?_
        refine Tr.tp r55 ((St.kp h71 (by decide) (by decide) (by decide)).trans ((St.kp h58 (by decide) (by decide) (by decide)).trans er55)) ?_
        refine Tr.iconst (pc := 100) d_X6_hold_100 (by decide) ?_
        refine Tr.iadd (pc := 101) d_X6_hold_101 ?_
        refine Tr.gen (P := fun v => (-2147483648) ≤ v ∧ v ≤ 2147483647) (w32_b _) (fun r101 er101 br101 => ?_)
        refine Tr.iastS (pc := 102) (P := St Rn ws_X6_hold_48_w1 as_X6_hold_48_w1 M0) d_X6_hold_102 (ty_54 hS.1.1) (by omega) (by omega) (sa_54 hS (by decide) (by omega) (Rn.of hS.1.2.2.2.2 (fun _ => rd_wb _ rfl) (rd_wb _ rfl))) (fun M102 hS w102 => ?_)
        have kr_63_7 : rd M102 63 7 = s71_63_7 := ((Wr.b w102 rfl).trans es71_63_7)
        exact Tr.vret (pc := 103) d_X6_hold_103 rfl ⟨hS, rfl, by omega⟩
      · refine Tr.aload_n (pc := 81) (i := 0) d_X6_hold_81 rfl rfl ?_
        refine Tr.getf (pc := 82) d_X6_hold_82 f_6_24 (by decide) (by decide) (ty_48 hS.1.1) ?_
        refine Tr.tp 53 (fx_48_6 hS.1.1) ?_
        refine Tr.iload_n (pc := 85) (i := 2) d_X6_hold_85 rfl rfl ?_
        refine Tr.iconst (pc := 86) d_X6_hold_86 (by decide) ?_
        refine Tr.iastS (pc := 87) (P := St Rn ws_X6_hold_48_w1 as_X6_hold_48_w1 M0) d_X6_hold_87 (ty_53 hS.1.1) (by omega) (by omega) (sa_53 hS (by decide) (by omega) (Rn.of hS.1.2.2.2.2 (fun _ => rd_wb _ rfl) (rd_wb _ rfl))) (fun M87 hS w87 => ?_)
        refine Tr.goto (pc := 88) (tgt := 103) d_X6_hold_88 rfl ?_
        have kr_63_7 : rd M87 63 7 = s71_63_7 := ((Wr.b w87 rfl).trans es71_63_7)
        exact Tr.vret (pc := 103) d_X6_hold_103 rfl ⟨hS, rfl, by omega⟩
    refine Tr.if_eq (pc := 32) (tgt := 44) d_X6_hold_32 rfl (fun c32 => ?_) (fun c32 => ?_)
    · refine Tr.pick [1, 2, 3, 0] (ls2 := [(0, (2, 48)), (1, (0, a1)), (2, (0, a2)), (3, (0, r12))]) rfl ?_
      exact J44 _ hS er29 ((St.ka h24 (by decide) (by decide) (by decide)).trans ((St.ka h19 (by decide) (by decide) (by decide)).trans er5)) ((St.kp h24 (by decide) (by decide) (by decide)).trans ((St.kp h19 (by decide) (by decide) (by decide)).trans eg63_7))
    · refine Tr.aload_n (pc := 35) (i := 0) d_X6_hold_35 rfl rfl ?_
      refine Tr.getf (pc := 36) d_X6_hold_36 f_6_68 (by decide) (by decide) (ty_48 hS.1.1) ?_
      refine Tr.gen (P := fun v => (-2147483648) ≤ v ∧ v ≤ 2147483647) (ir_48_9 hS.1.2.1) (fun r36 er36 br36 => ?_)
      refine Tr.iload_n (pc := 39) (i := 3) d_X6_hold_39 rfl rfl ?_
      refine Tr.icmp_ne (pc := 40) (tgt := 44) d_X6_hold_40 rfl (fun c40 => ?_) (fun c40 => ?_)
      · refine Tr.pick [1, 2, 3, 0] (ls2 := [(0, (2, 48)), (1, (0, a1)), (2, (0, a2)), (3, (0, r12))]) rfl ?_
        exact J44 _ hS er29 ((St.ka h24 (by decide) (by decide) (by decide)).trans ((St.ka h19 (by decide) (by decide) (by decide)).trans er5)) ((St.kp h24 (by decide) (by decide) (by decide)).trans ((St.kp h19 (by decide) (by decide) (by decide)).trans eg63_7))
      · have kr_63_7 : rd M24 63 7 = g63_7 := ((St.kp h24 (by decide) (by decide) (by decide)).trans ((St.kp h19 (by decide) (by decide) (by decide)).trans eg63_7))
        exact Tr.vret (pc := 43) d_X6_hold_43 rfl ⟨hS, rfl, by omega⟩
  · have kr_63_7 : rd M0 63 7 = g63_7 := eg63_7
    exact Tr.vret (pc := 10) d_X6_hold_10 rfl ⟨hS, rfl, by omega⟩

def ws_X1_workFor_56_w1 : List (Int × Int) := [(63, 7)]
def as_X1_workFor_56_w1 : List Int := [191]
def q_X1_workFor_56_w1 (a1 : Int) (a2 : Int) (a3 : Int) (a4 : Int) (M0 M' : Mem) (r : Option PV) : Prop := St Tru ws_X1_workFor_56_w1 as_X1_workFor_56_w1 M0 M' ∧ r = none ∧ (rd M' 63 7 ≤ rd M0 63 7 + 1)
set_option maxRecDepth 100000 in
set_option maxHeartbeats 4000000 in
theorem sp_X1_workFor_56_w1 {l : Launch} {K : EC} {M0 : Mem} (hI : In Tru M0)  (a1 : Int) (ha1 : 0 ≤ a1 ∧ a1 ≤ 5) (a2 : Int) (ha2 : 0 ≤ a2 ∧ a2 ≤ 59) (a3 : Int) (ha3 : (-2147483648) ≤ a3 ∧ a3 ≤ 2147483647) (a4 : Int) (ha4 : (-2147483648) ≤ a4 ∧ a4 ≤ 2147483647)  : Tr l K 1 mX1_workFor 0 [(0, (2, 56)), (1, (0, a1)), (2, (0, a2)), (3, (0, a3)), (4, (0, a4))] [] M0 (q_X1_workFor_56_w1 a1 a2 a3 a4 M0) := by
  have hS : St Tru ws_X1_workFor_56_w1 as_X1_workFor_56_w1 M0 M0 := St.rf hI
  obtain ⟨g63_7, eg63_7⟩ : ∃ v, rd M0 63 7 = v := ⟨_, rfl⟩
  have bg63_7 : (-2147483648) ≤ g63_7 ∧ g63_7 ≤ 2147483647 := by rw [← eg63_7]; exact ir_63_7 hI.2.1
  refine Tr.aload_n (pc := 0) (i := 0) d_X1_workFor_0 rfl rfl ?_
  refine Tr.getz (pc := 1) d_X1_workFor_1 f_1_37 (by decide) (ty_56 hS.1.1) ?_
  refine Tr.tp 1 (fx_56_0 hS.1.1) ?_
  refine Tr.if_eq (pc := 4) (tgt := 20) d_X1_workFor_4 rfl (fun hc => absurd hc (by omega)) (fun _ => ?_)
  refine Tr.aload_n (pc := 7) (i := 0) d_X1_workFor_7 rfl rfl ?_
  refine Tr.getf (pc := 8) d_X1_workFor_8 f_1_33 (by decide) (by decide) (ty_56 hS.1.1) ?_
  refine Tr.tp 63 (fx_56_8 hS.1.1) ?_
  refine Tr.iload_n (pc := 11) (i := 1) d_X1_workFor_11 rfl rfl ?_
  refine Tr.iload_n (pc := 12) (i := 2) d_X1_workFor_12 rfl rfl ?_
  refine Tr.iload_n (pc := 13) (i := 3) d_X1_workFor_13 rfl rfl ?_
  refine Tr.iload (pc := 14) (i := 4) d_X1_workFor_14 rfl ?_
  refine Tr.callV (pc := 16) (as := [_, _, _, _]) d_X1_workFor_16 s_1_84 ok_X8_cover rfl rfl (Nat.le_of_ble_eq_true rfl) (Nat.le_of_ble_eq_true rfl) (by decide) (ty_63 hS.1.1) ?_
  have kb16_63_7 : rd M0 63 7 = g63_7 := eg63_7
  refine Tr.imp (Tr.deep (by decide) (sp_X8_cover_63_w1 hS.1 a1 (by omega) a2 (by omega) a3 (by omega) a4 (by omega))) ?_
  rintro M16 _ ⟨h16, r16, rfl, lr16, ur16, z16_0⟩
  have hS := St.tr hS h16 (by decide) (by decide)
  obtain ⟨s16_63_7, es16_63_7⟩ : ∃ v, rd M16 63 7 = v := ⟨_, rfl⟩
  have bs16_63_7 : (-2147483648) ≤ s16_63_7 ∧ s16_63_7 ≤ 2147483647 := by rw [← es16_63_7]; exact ir_63_7 hS.1.2.1
  refine Tr.sc [(0, r16)] rfl ?_
  refine Tr.pop (pc := 19) d_X1_workFor_19 ne01 ?_
  have kr_63_7 : rd M16 63 7 = s16_63_7 := es16_63_7
  exact Tr.vret (pc := 20) d_X1_workFor_20 rfl ⟨hS, rfl, by omega⟩

def ws_X6_use_48_w1 : List (Int × Int) := [(48, 9), (48, 14), (48, 17), (63, 0), (63, 7)]
def as_X6_use_48_w1 : List Int := [54, 55, 57, 58, 60, 61, 62, 69, 191]
def q_X6_use_48_w1 (a1 : Int) (a2 : Int) (a3 : Int) (M0 M' : Mem) (r : Option PV) : Prop := St Rn ws_X6_use_48_w1 as_X6_use_48_w1 M0 M' ∧ r = none ∧ (rd M' 63 7 ≤ rd M0 63 7 + 1)
set_option maxRecDepth 100000 in
set_option maxHeartbeats 4000000 in
theorem sp_X6_use_48_w1 {l : Launch} {K : EC} {M0 : Mem} (hI : In Rn M0) (en_48_1 : rd M0 48 1 = 7) (en_56_1 : rd M0 56 1 = 7) (a1 : Int) (ha1 : 0 ≤ a1 ∧ a1 ≤ 59) (a2 : Int) (ha2 : 0 ≤ a2 ∧ a2 ≤ 5) (a3 : Int) (ha3 : 0 ≤ a3 ∧ a3 ≤ 50)  : Tr l K 3 mX6_use 0 [(0, (2, 48)), (1, (0, a1)), (2, (0, a2)), (3, (0, a3))] [] M0 (q_X6_use_48_w1 a1 a2 a3 M0) := by
  have hS : St Rn ws_X6_use_48_w1 as_X6_use_48_w1 M0 M0 := St.rf hI
  obtain ⟨g63_7, eg63_7⟩ : ∃ v, rd M0 63 7 = v := ⟨_, rfl⟩
  have bg63_7 : (-2147483648) ≤ g63_7 ∧ g63_7 ≤ 2147483647 := by rw [← eg63_7]; exact ir_63_7 hI.2.1
  refine Tr.aload_n (pc := 0) (i := 0) d_X6_use_0 rfl rfl ?_
  refine Tr.getf (pc := 1) d_X6_use_1 f_6_68 (by decide) (by decide) (ty_48 hS.1.1) ?_
  refine Tr.gen (P := fun v => (-2147483648) ≤ v ∧ v ≤ 2147483647) (ir_48_9 hS.1.2.1) (fun r1 er1 br1 => ?_)
  refine Tr.istore (pc := 4) (i := 4) (ls2 := [(4, (0, r1)), (0, (2, 48)), (1, (0, a1)), (2, (0, a2)), (3, (0, a3))]) d_X6_use_4 (by decide) rfl ?_
  refine Tr.aload_n (pc := 6) (i := 0) d_X6_use_6 rfl rfl ?_
  refine Tr.aload_n (pc := 7) (i := 0) d_X6_use_7 rfl rfl ?_
  refine Tr.iload_n (pc := 8) (i := 2) d_X6_use_8 rfl rfl ?_
  refine Tr.callV (pc := 9) (as := [_]) d_X6_use_9 s_6_199 ok_X6_wakeOf rfl rfl (Nat.le_of_ble_eq_true rfl) (Nat.le_of_ble_eq_true rfl) (by decide) (ty_48 hS.1.1) ?_
  refine Tr.imp (Tr.deep (by decide) (sp_X6_wakeOf_48 hS.1.wk ((St.kp hS (by decide) (by decide) (by decide)).trans en_48_1) a2 (by omega))) ?_
  rintro M9 _ ⟨h9, r9, rfl, lr9, ur9⟩
  have h9 := St.rn h9 (Rn.of hS.1.2.2.2.2 (fun _ => (St.ka h9 (by decide) (by decide) (by decide))) (St.kp h9 (by decide) (by decide) (by decide)))
  have hS := St.tr hS h9 (by decide) (by decide)
  refine Tr.sc [(0, r9), (2, 48)] rfl ?_
  refine Tr.iload_n (pc := 12) (i := 2) d_X6_use_12 rfl rfl ?_
  refine Tr.iconst (pc := 13) d_X6_use_13 (by decide) ?_
  refine Tr.callV (pc := 14) (as := [_, _, _]) d_X6_use_14 s_6_145 ok_X6_pass rfl rfl (Nat.le_of_ble_eq_true rfl) (Nat.le_of_ble_eq_true rfl) (by decide) (ty_48 hS.1.1) ?_
  refine Tr.imp (Tr.deep (by decide) (sp_X6_pass_48_w3 hS.1.wk ((St.kp hS (by decide) (by decide) (by decide)).trans en_48_1) r9 (by omega) a2 (by omega) 1 (by omega))) ?_
  rintro M14 _ ⟨h14, r14, rfl, lr14, ur14⟩
  have h14 := St.rn h14 (Rn.of hS.1.2.2.2.2 (fun _ => (St.ka h14 (by decide) (by decide) (by decide))) (St.kp h14 (by decide) (by decide) (by decide)))
  have hS := St.tr hS h14 (by decide) (by decide)
  refine Tr.sc [(0, r14)] rfl ?_
  refine Tr.pop (pc := 17) d_X6_use_17 ne01 ?_
  refine Tr.aload_n (pc := 18) (i := 0) d_X6_use_18 rfl rfl ?_
  refine Tr.getf (pc := 19) d_X6_use_19 f_6_68 (by decide) (by decide) (ty_48 hS.1.1) ?_
  refine Tr.gen (P := fun v => (-2147483648) ≤ v ∧ v ≤ 2147483647) (ir_48_9 hS.1.2.1) (fun r19 er19 br19 => ?_)
  refine Tr.istore (pc := 22) (i := 5) (ls2 := [(5, (0, r19)), (4, (0, r1)), (0, (2, 48)), (1, (0, a1)), (2, (0, a2)), (3, (0, a3))]) d_X6_use_22 (by decide) rfl ?_
  refine Tr.aload_n (pc := 24) (i := 0) d_X6_use_24 rfl rfl ?_
  refine Tr.getf (pc := 25) d_X6_use_25 f_6_62 (by decide) (by decide) (ty_48 hS.1.1) ?_
  refine Tr.gen (P := fun v => (-2147483648) ≤ v ∧ v ≤ 2147483647) (ir_48_14 hS.1.2.1) (fun r25 er25 br25 => ?_)
  have J39 : ∀ (M : Mem), St Rn ws_X6_use_48_w1 as_X6_use_48_w1 M0 M → rd M 63 7 = g63_7 → Tr l K 3 mX6_use 39 [(0, (2, 48)), (1, (0, a1)), (2, (0, a2)), (4, (0, r1)), (5, (0, r19))] [] M (q_X6_use_48_w1 a1 a2 a3 M0) := by
    intro M  hS  k39_63_7
    refine Tr.aload_n (pc := 39) (i := 0) d_X6_use_39 rfl rfl ?_
    refine Tr.getf (pc := 40) d_X6_use_40 f_6_62 (by decide) (by decide) (ty_48 hS.1.1) ?_
    refine Tr.gen (P := fun v => (-2147483648) ≤ v ∧ v ≤ 2147483647) (ir_48_14 hS.1.2.1) (fun r40 er40 br40 => ?_)
    have J56 : ∀ (M : Mem), St Rn ws_X6_use_48_w1 as_X6_use_48_w1 M0 M → rd M 48 14 = r40 → rd M 63 7 = g63_7 → Tr l K 3 mX6_use 56 [(0, (2, 48)), (1, (0, a1)), (2, (0, a2)), (4, (0, r1)), (5, (0, r19))] [] M (q_X6_use_48_w1 a1 a2 a3 M0) := by
      intro M  hS  k56_48_14 k56_63_7
      refine Tr.aload_n (pc := 56) (i := 0) d_X6_use_56 rfl rfl ?_
      refine Tr.iload_n (pc := 57) (i := 2) d_X6_use_57 rfl rfl ?_
      refine Tr.iload (pc := 58) (i := 4) d_X6_use_58 rfl ?_
      refine Tr.callV (pc := 60) (as := [_, _]) d_X6_use_60 s_6_125 ok_X6_settle rfl rfl (Nat.le_of_ble_eq_true rfl) (Nat.le_of_ble_eq_true rfl) (by decide) (ty_48 hS.1.1) ?_
      refine Tr.imp (Tr.deep (by decide) (sp_X6_settle_48 hS.1 ((St.kp hS (by decide) (by decide) (by decide)).trans en_56_1) a2 (by omega) r1 (by omega))) ?_
      rintro M60 _ ⟨h60, rfl⟩
      have hS := St.tr hS h60 (by decide) (by decide)
      refine Tr.sc [] rfl ?_
      refine Tr.aload_n (pc := 63) (i := 0) d_X6_use_63 rfl rfl ?_
      refine Tr.iload_n (pc := 64) (i := 1) d_X6_use_64 rfl rfl ?_
      refine Tr.iload_n (pc := 65) (i := 2) d_X6_use_65 rfl rfl ?_
      refine Tr.iload (pc := 66) (i := 4) d_X6_use_66 rfl ?_
      refine Tr.iload (pc := 68) (i := 5) d_X6_use_68 rfl ?_
      refine Tr.callV (pc := 70) (as := [_, _, _, _]) d_X6_use_70 s_6_202 ok_X6_bookBusy rfl rfl (Nat.le_of_ble_eq_true rfl) (Nat.le_of_ble_eq_true rfl) (by decide) (ty_48 hS.1.1) ?_
      refine Tr.imp (Tr.deep (by decide) (sp_X6_bookBusy_48_w1 hS.1 ((St.kp hS (by decide) (by decide) (by decide)).trans en_56_1) a1 (by omega) a2 (by omega) r1 (by omega) r19 (by omega))) ?_
      rintro M70 _ ⟨h70, rfl⟩
      have hS := St.tr hS h70 (by decide) (by decide)
      refine Tr.sc [] rfl ?_
      refine Tr.aload_n (pc := 73) (i := 0) d_X6_use_73 rfl rfl ?_
      refine Tr.getf (pc := 74) d_X6_use_74 f_6_38 (by decide) (by decide) (ty_48 hS.1.1) ?_
      refine Tr.tp 56 (fx_48_0 hS.1.1) ?_
      refine Tr.iload_n (pc := 77) (i := 2) d_X6_use_77 rfl rfl ?_
      refine Tr.iload_n (pc := 78) (i := 1) d_X6_use_78 rfl rfl ?_
      refine Tr.iload (pc := 79) (i := 5) d_X6_use_79 rfl ?_
      refine Tr.aload_n (pc := 81) (i := 0) d_X6_use_81 rfl rfl ?_
      refine Tr.getf (pc := 82) d_X6_use_82 f_6_68 (by decide) (by decide) (ty_48 hS.1.1) ?_
      refine Tr.gen (P := fun v => (-2147483648) ≤ v ∧ v ≤ 2147483647) (ir_48_9 hS.1.2.1) (fun r82 er82 br82 => ?_)
      refine Tr.callV (pc := 85) (as := [_, _, _, _]) d_X6_use_85 s_6_205 ok_X1_workFor rfl rfl (Nat.le_of_ble_eq_true rfl) (Nat.le_of_ble_eq_true rfl) (by decide) (ty_56 hS.1.1) ?_
      have kb85_63_7 : rd M70 63 7 = g63_7 := ((St.kp h70 (by decide) (by decide) (by decide)).trans ((St.kp h60 (by decide) (by decide) (by decide)).trans k56_63_7))
      refine Tr.imp (Tr.deep (by decide) (sp_X1_workFor_56_w1 hS.1.wk a2 (by omega) a1 (by omega) r19 (by omega) r82 (by omega))) ?_
      rintro M85 _ ⟨h85, rfl, z85_0⟩
      have h85 := St.rn h85 (Rn.of hS.1.2.2.2.2 (fun _ => (St.ka h85 (by decide) (by decide) (by decide))) (St.kp h85 (by decide) (by decide) (by decide)))
      have hS := St.tr hS h85 (by decide) (by decide)
      obtain ⟨s85_63_7, es85_63_7⟩ : ∃ v, rd M85 63 7 = v := ⟨_, rfl⟩
      have bs85_63_7 : (-2147483648) ≤ s85_63_7 ∧ s85_63_7 ≤ 2147483647 := by rw [← es85_63_7]; exact ir_63_7 hS.1.2.1
      refine Tr.sc [] rfl ?_
      refine Tr.aload_n (pc := 88) (i := 0) d_X6_use_88 rfl rfl ?_
      refine Tr.getf (pc := 89) d_X6_use_89 f_6_27 (by decide) (by decide) (ty_48 hS.1.1) ?_
      refine Tr.tp 54 (fx_48_7 hS.1.1) ?_
      refine Tr.iload_n (pc := 92) (i := 2) d_X6_use_92 rfl rfl ?_
      refine Tr.aload_n (pc := 93) (i := 0) d_X6_use_93 rfl rfl ?_
      refine Tr.getf (pc := 94) d_X6_use_94 f_6_62 (by decide) (by decide) (ty_48 hS.1.1) ?_
      refine Tr.tp r40 ((St.kp h85 (by decide) (by decide) (by decide)).trans ((St.kp h70 (by decide) (by decide) (by decide)).trans ((St.kp h60 (by decide) (by decide) (by decide)).trans k56_48_14))) ?_
      refine Tr.if_ne (pc := 97) (tgt := 117) d_X6_use_97 rfl (fun c97 => ?_) (fun c97 => ?_)
      · refine Tr.aload_n (pc := 117) (i := 0) d_X6_use_117 rfl rfl ?_
        refine Tr.getf (pc := 118) d_X6_use_118 f_6_68 (by decide) (by decide) (ty_48 hS.1.1) ?_
        refine Tr.tp r82 ((St.kp h85 (by decide) (by decide) (by decide)).trans er82) ?_
        refine Tr.iconst (pc := 121) d_X6_use_121 (by decide) ?_
        refine Tr.iadd (pc := 122) d_X6_use_122 ?_
        refine Tr.gen (P := fun v => (-2147483648) ≤ v ∧ v ≤ 2147483647) (w32_b _) (fun r122 er122 br122 => ?_)
        refine Tr.iastS (pc := 123) (P := St Rn ws_X6_use_48_w1 as_X6_use_48_w1 M0) d_X6_use_123 (ty_54 hS.1.1) (by omega) (by omega) (sa_54 hS (by decide) (by omega) (Rn.of hS.1.2.2.2.2 (fun _ => rd_wb _ rfl) (rd_wb _ rfl))) (fun M123 hS w123 => ?_)
        have kr_63_7 : rd M123 63 7 = s85_63_7 := ((Wr.b w123 rfl).trans es85_63_7)
        exact Tr.vret (pc := 124) d_X6_use_124 rfl ⟨hS, rfl, by omega⟩
      · refine Tr.aload_n (pc := 100) (i := 0) d_X6_use_100 rfl rfl ?_
        refine Tr.getf (pc := 101) d_X6_use_101 f_6_68 (by decide) (by decide) (ty_48 hS.1.1) ?_
        refine Tr.tp r82 ((St.kp h85 (by decide) (by decide) (by decide)).trans er82) ?_
        refine Tr.aload_n (pc := 104) (i := 0) d_X6_use_104 rfl rfl ?_
        refine Tr.getf (pc := 105) d_X6_use_105 f_6_46 (by decide) (by decide) (ty_48 hS.1.1) ?_
        refine Tr.tp 7 ((St.kp hS (by decide) (by decide) (by decide)).trans en_48_1) ?_
        refine Tr.getf (pc := 108) d_X6_use_108 f_6_208 (by decide) (by decide) (ty_7 hS.1.1) ?_
        refine Tr.tp 11 (fx_7_7 hS.1.1) ?_
        refine Tr.iload_n (pc := 111) (i := 2) d_X6_use_111 rfl rfl ?_
        refine Tr.iald (pc := 112) d_X6_use_112 (ty_11 hS.1.1) (by omega) (by omega) ?_
        refine Tr.gen (P := fun v => 0 ≤ v ∧ v ≤ 50) (ar_11 hS.1.2.1 _) (fun r112 er112 br112 => ?_)
        refine Tr.iadd (pc := 113) d_X6_use_113 ?_
        refine Tr.gen (P := fun v => (-2147483648) ≤ v ∧ v ≤ 2147483647) (w32_b _) (fun r113 er113 br113 => ?_)
        refine Tr.goto (pc := 114) (tgt := 123) d_X6_use_114 rfl ?_
        refine Tr.iastS (pc := 123) (P := St Rn ws_X6_use_48_w1 as_X6_use_48_w1 M0) d_X6_use_123 (ty_54 hS.1.1) (by omega) (by omega) (sa_54 hS (by decide) (by omega) (Rn.of hS.1.2.2.2.2 (fun _ => rd_wb _ rfl) (rd_wb _ rfl))) (fun M123 hS w123 => ?_)
        have kr_63_7 : rd M123 63 7 = s85_63_7 := ((Wr.b w123 rfl).trans es85_63_7)
        exact Tr.vret (pc := 124) d_X6_use_124 rfl ⟨hS, rfl, by omega⟩
    refine Tr.if_eq (pc := 43) (tgt := 56) d_X6_use_43 rfl (fun c43 => ?_) (fun c43 => ?_)
    · refine Tr.pick [0, 1, 2, 3, 4] (ls2 := [(0, (2, 48)), (1, (0, a1)), (2, (0, a2)), (4, (0, r1)), (5, (0, r19))]) rfl ?_
      exact J56 _ hS er40 k39_63_7
    · refine Tr.aload_n (pc := 46) (i := 0) d_X6_use_46 rfl rfl ?_
      refine Tr.getf (pc := 47) d_X6_use_47 f_6_68 (by decide) (by decide) (ty_48 hS.1.1) ?_
      refine Tr.gen (P := fun v => (-2147483648) ≤ v ∧ v ≤ 2147483647) (ir_48_9 hS.1.2.1) (fun r47 er47 br47 => ?_)
      refine Tr.iload (pc := 50) (i := 4) d_X6_use_50 rfl ?_
      refine Tr.icmp_ne (pc := 52) (tgt := 56) d_X6_use_52 rfl (fun c52 => ?_) (fun c52 => ?_)
      · refine Tr.pick [0, 1, 2, 3, 4] (ls2 := [(0, (2, 48)), (1, (0, a1)), (2, (0, a2)), (4, (0, r1)), (5, (0, r19))]) rfl ?_
        exact J56 _ hS er40 k39_63_7
      · have kr_63_7 : rd M 63 7 = g63_7 := k39_63_7
        exact Tr.vret (pc := 55) d_X6_use_55 rfl ⟨hS, rfl, by omega⟩
  refine Tr.if_ne (pc := 28) (tgt := 39) d_X6_use_28 rfl (fun c28 => ?_) (fun c28 => ?_)
  · refine Tr.pick [2, 3, 4, 1, 0] (ls2 := [(0, (2, 48)), (1, (0, a1)), (2, (0, a2)), (4, (0, r1)), (5, (0, r19))]) rfl ?_
    exact J39 _ hS ((St.kp h14 (by decide) (by decide) (by decide)).trans ((St.kp h9 (by decide) (by decide) (by decide)).trans eg63_7))
  · refine Tr.aload_n (pc := 31) (i := 0) d_X6_use_31 rfl rfl ?_
    refine Tr.iload_n (pc := 32) (i := 3) d_X6_use_32 rfl rfl ?_
    refine Tr.iload_n (pc := 33) (i := 2) d_X6_use_33 rfl rfl ?_
    refine Tr.iconst (pc := 34) d_X6_use_34 (by decide) ?_
    refine Tr.callV (pc := 35) (as := [_, _, _]) d_X6_use_35 s_6_145 ok_X6_pass rfl rfl (Nat.le_of_ble_eq_true rfl) (Nat.le_of_ble_eq_true rfl) (by decide) (ty_48 hS.1.1) ?_
    refine Tr.imp (Tr.deep (by decide) (sp_X6_pass_48_w4 hS.1.wk ((St.kp hS (by decide) (by decide) (by decide)).trans en_48_1) a3 (by omega) a2 (by omega) 3 (by omega))) ?_
    rintro M35 _ ⟨h35, r35, rfl, lr35, ur35⟩
    have h35 := St.rn h35 (Rn.of hS.1.2.2.2.2 (fun _ => (St.ka h35 (by decide) (by decide) (by decide))) (St.kp h35 (by decide) (by decide) (by decide)))
    have hS := St.tr hS h35 (by decide) (by decide)
    refine Tr.sc [(0, r35)] rfl ?_
    refine Tr.pop (pc := 38) d_X6_use_38 ne01 ?_
    refine Tr.pick [2, 3, 4, 1, 0] (ls2 := [(0, (2, 48)), (1, (0, a1)), (2, (0, a2)), (4, (0, r1)), (5, (0, r19))]) rfl ?_
    exact J39 _ hS ((St.kp h35 (by decide) (by decide) (by decide)).trans ((St.kp h14 (by decide) (by decide) (by decide)).trans ((St.kp h9 (by decide) (by decide) (by decide)).trans eg63_7)))

def ws_X6_step_48_w1 : List (Int × Int) := [(48, 9), (48, 11), (48, 12), (48, 13), (48, 14), (48, 17), (63, 0), (63, 7)]
def as_X6_step_48_w1 : List Int := [50, 51, 52, 53, 54, 55, 57, 58, 59, 60, 61, 62, 69, 191]
def q_X6_step_48_w1 (a1 : Int) (M0 M' : Mem) (r : Option PV) : Prop := St Rn ws_X6_step_48_w1 as_X6_step_48_w1 M0 M' ∧ ∃ v : Int, r = some (0, v) ∧ 0 ≤ v ∧ v ≤ 2147483647 ∧ (rd M' 63 7 ≤ rd M0 63 7 + 1)
set_option maxRecDepth 100000 in
set_option maxHeartbeats 4000000 in
theorem sp_X6_step_48_w1 {l : Launch} {K : EC} {M0 : Mem} (hI : In Rn M0) (en_48_1 : rd M0 48 1 = 7) (en_56_1 : rd M0 56 1 = 7) (a1 : Int) (ha1 : 0 ≤ a1 ∧ a1 ≤ 59)  (hq0 : a1 < rd M0 15 0) (hF_Y15 : Yn15 M0) : Tr l K 4 mX6_step 0 [(0, (2, 48)), (1, (0, a1))] [] M0 (q_X6_step_48_w1 a1 M0) := by
  have hS : St Rn ws_X6_step_48_w1 as_X6_step_48_w1 M0 M0 := St.rf hI
  obtain ⟨g63_7, eg63_7⟩ : ∃ v, rd M0 63 7 = v := ⟨_, rfl⟩
  have bg63_7 : (-2147483648) ≤ g63_7 ∧ g63_7 ≤ 2147483647 := by rw [← eg63_7]; exact ir_63_7 hI.2.1
  obtain ⟨g15_0, eg15_0⟩ : ∃ v, rd M0 15 0 = v := ⟨_, rfl⟩
  have bg15_0 : 0 ≤ g15_0 ∧ g15_0 ≤ 60 := by rw [← eg15_0]; exact ir_15_0 hI.2.1
  refine Tr.aload_n (pc := 0) (i := 0) d_X6_step_0 rfl rfl ?_
  refine Tr.iconst (pc := 1) d_X6_step_1 (by decide) ?_
  refine Tr.iconst (pc := 2) d_X6_step_2 (by decide) ?_
  refine Tr.iconst (pc := 3) d_X6_step_3 (by decide) ?_
  refine Tr.callV (pc := 4) (as := [_, _, _]) d_X6_step_4 s_6_145 ok_X6_pass rfl rfl (Nat.le_of_ble_eq_true rfl) (Nat.le_of_ble_eq_true rfl) (by decide) (ty_48 hS.1.1) ?_
  refine Tr.imp (Tr.deep (by decide) (sp_X6_pass_48 hS.1.wk ((St.kp hS (by decide) (by decide) (by decide)).trans en_48_1) 1 (by omega) (-1) (by omega) 0 (by omega))) ?_
  rintro M4 _ ⟨h4, r4, rfl, lr4, ur4⟩
  have h4 := St.rn h4 (Rn.of hS.1.2.2.2.2 (fun _ => (St.ka h4 (by decide) (by decide) (by decide))) (St.kp h4 (by decide) (by decide) (by decide)))
  have hS := St.tr hS h4 (by decide) (by decide)
  refine Tr.sc [(0, r4)] rfl ?_
  refine Tr.if_ne (pc := 7) (tgt := 12) d_X6_step_7 rfl (fun c7 => ?_) (fun c7 => ?_)
  · refine Tr.aload_n (pc := 12) (i := 0) d_X6_step_12 rfl rfl ?_
    refine Tr.dup (pc := 13) d_X6_step_13 ne21 ?_
    refine Tr.getf (pc := 14) d_X6_step_14 f_6_97 (by decide) (by decide) (ty_48 hS.1.1) ?_
    refine Tr.gen (P := fun v => (-2147483648) ≤ v ∧ v ≤ 2147483647) (ir_48_11 hS.1.2.1) (fun r14 er14 br14 => ?_)
    refine Tr.iconst (pc := 17) d_X6_step_17 (by decide) ?_
    refine Tr.iadd (pc := 18) d_X6_step_18 ?_
    refine Tr.gen (P := fun v => (-2147483648) ≤ v ∧ v ≤ 2147483647) (w32_b _) (fun r18 er18 br18 => ?_)
    refine Tr.putfS (pc := 19) (P := St Rn ws_X6_step_48_w1 as_X6_step_48_w1 M0) d_X6_step_19 f_6_97 (by decide) (by decide) (ty_48 hS.1.1) (st_48_11 hS (by decide) (by omega) (Rn.of hS.1.2.2.2.2 (fun _ => rd_wb _ rfl) (rd_wb _ rfl))) (fun M19 hS w19 => ?_)
    refine Tr.aload_n (pc := 22) (i := 0) d_X6_step_22 rfl rfl ?_
    refine Tr.getf (pc := 23) d_X6_step_23 f_6_46 (by decide) (by decide) (ty_48 hS.1.1) ?_
    refine Tr.tp 7 ((St.kp hS (by decide) (by decide) (by decide)).trans en_48_1) ?_
    refine Tr.getf (pc := 26) d_X6_step_26 f_6_50 (by decide) (by decide) (ty_7 hS.1.1) ?_
    refine Tr.tp 15 (fx_7_11 hS.1.1) ?_
    refine Tr.astore_n (pc := 29) (i := 2) (ls2 := [(2, (2, 15)), (0, (2, 48)), (1, (0, a1))]) d_X6_step_29 rfl (by decide) rfl ?_
    refine Tr.aload_n (pc := 30) (i := 2) d_X6_step_30 rfl rfl ?_
    refine Tr.getf (pc := 31) d_X6_step_31 f_6_149 (by decide) (by decide) (ty_15 hS.1.1) ?_
    refine Tr.tp 17 (fx_15_2 hS.1.1) ?_
    refine Tr.iload_n (pc := 34) (i := 1) d_X6_step_34 rfl rfl ?_
    refine Tr.iald (pc := 35) d_X6_step_35 (ty_17 hS.1.1) (by omega) (by omega) ?_
    refine Tr.gen (P := fun v => 0 ≤ v ∧ v ≤ 5) (ar_17 hS.1.2.1 _) (fun r35 er35 br35 => ?_)
    refine Tr.istore_n (pc := 36) (i := 3) (ls2 := [(3, (0, r35)), (2, (2, 15)), (0, (2, 48)), (1, (0, a1))]) d_X6_step_36 rfl (by decide) rfl ?_
    refine Tr.aload_n (pc := 37) (i := 2) d_X6_step_37 rfl rfl ?_
    refine Tr.getf (pc := 38) d_X6_step_38 f_6_152 (by decide) (by decide) (ty_15 hS.1.1) ?_
    refine Tr.tp 16 (fx_15_1 hS.1.1) ?_
    refine Tr.iload_n (pc := 41) (i := 1) d_X6_step_41 rfl rfl ?_
    refine Tr.iald (pc := 42) d_X6_step_42 (ty_16 hS.1.1) (by omega) (by omega) ?_
    refine Tr.gen (P := fun v => (-2147483648) ≤ v ∧ v ≤ 2147483647) (ar_16 hS.1.2.1 _) (fun r42 er42 br42 => ?_)
    rcases (show (r42 < 5 ∨ 10 < r42) ∨ r42 = 5 ∨ r42 = 6 ∨ r42 = 7 ∨ r42 = 8 ∨ r42 = 9 ∨ r42 = 10 by omega) with c43 | c43 | c43 | c43 | c43 | c43 | c43
    · refine Tr.tswOut (pc := 43) (tgt := 177) d_X6_step_43 c43 rfl ?_
      refine Tr.aload_n (pc := 177) (i := 0) d_X6_step_177 rfl rfl ?_
      refine Tr.iload_n (pc := 178) (i := 1) d_X6_step_178 rfl rfl ?_
      refine Tr.callV (pc := 179) (as := [_]) d_X6_step_179 s_6_155 ok_X6_worked rfl rfl (Nat.le_of_ble_eq_true rfl) (Nat.le_of_ble_eq_true rfl) (by decide) (ty_48 hS.1.1) ?_
      refine Tr.imp (Tr.deep (by decide) (sp_X6_worked_48_w1 hS.1.wk ((St.kp hS (by decide) (by decide) (by decide)).trans en_48_1) a1 (by omega))) ?_
      rintro M179 _ ⟨h179, r179, rfl, lr179, ur179⟩
      have h179 := St.rn h179 (Rn.of hS.1.2.2.2.2 (fun _ => (St.ka h179 (by decide) (by decide) (by decide))) (St.kp h179 (by decide) (by decide) (by decide)))
      have hS := St.tr hS h179 (by decide) (by decide)
      refine Tr.sc [(0, r179)] rfl ?_
      refine Tr.if_eq (pc := 182) (tgt := 194) d_X6_step_182 rfl (fun c182 => ?_) (fun c182 => ?_)
      · refine Tr.aload_n (pc := 194) (i := 2) d_X6_step_194 rfl rfl ?_
        refine Tr.getf (pc := 195) d_X6_step_195 f_6_180 (by decide) (by decide) (ty_15 hS.1.1) ?_
        refine Tr.tp 20 (fx_15_5 hS.1.1) ?_
        refine Tr.iload_n (pc := 198) (i := 1) d_X6_step_198 rfl rfl ?_
        refine Tr.iald (pc := 199) d_X6_step_199 (ty_20 hS.1.1) (by omega) (by omega) ?_
        have ky199_15_0 : rd M179 15 0 = g15_0 := ((St.kp h179 (by decide) (by decide) (by decide)).trans ((Wr.b w19 rfl).trans ((St.kp h4 (by decide) (by decide) (by decide)).trans eg15_0)))
        refine Tr.gen (P := fun v => 0 ≤ v ∧ v ≤ 2147483647) (by have h8 := (Yn15.of hF_Y15 (fun j => (St.ka hS (by decide) (by decide) (by decide))) (fun j => (St.ka hS (by decide) (by decide) (by decide))) (St.kp hS (by decide) (by decide) (by decide))) (a1) (by omega) (by omega); have h9 := (ar_20 hS.1.2.1 (a1)); omega) (fun r199 er199 br199 => ?_)
        have kr_63_7 : rd M179 63 7 = g63_7 := ((St.kp h179 (by decide) (by decide) (by decide)).trans ((Wr.b w19 rfl).trans ((St.kp h4 (by decide) (by decide) (by decide)).trans eg63_7)))
        exact Tr.iret (pc := 200) d_X6_step_200 rfl ⟨hS, _, rfl, by omega, by omega, by omega⟩
      · refine Tr.aload_n (pc := 185) (i := 2) d_X6_step_185 rfl rfl ?_
        refine Tr.getf (pc := 186) d_X6_step_186 f_6_177 (by decide) (by decide) (ty_15 hS.1.1) ?_
        refine Tr.tp 19 (fx_15_4 hS.1.1) ?_
        refine Tr.iload_n (pc := 189) (i := 1) d_X6_step_189 rfl rfl ?_
        refine Tr.iald (pc := 190) d_X6_step_190 (ty_19 hS.1.1) (by omega) (by omega) ?_
        have ky190_15_0 : rd M179 15 0 = g15_0 := ((St.kp h179 (by decide) (by decide) (by decide)).trans ((Wr.b w19 rfl).trans ((St.kp h4 (by decide) (by decide) (by decide)).trans eg15_0)))
        refine Tr.gen (P := fun v => 0 ≤ v ∧ v ≤ 2147483647) (by have h8 := (Yn15.of hF_Y15 (fun j => (St.ka hS (by decide) (by decide) (by decide))) (fun j => (St.ka hS (by decide) (by decide) (by decide))) (St.kp hS (by decide) (by decide) (by decide))) (a1) (by omega) (by omega); have h9 := (ar_19 hS.1.2.1 (a1)); omega) (fun r190 er190 br190 => ?_)
        refine Tr.goto (pc := 191) (tgt := 200) d_X6_step_191 rfl ?_
        have kr_63_7 : rd M179 63 7 = g63_7 := ((St.kp h179 (by decide) (by decide) (by decide)).trans ((Wr.b w19 rfl).trans ((St.kp h4 (by decide) (by decide) (by decide)).trans eg63_7)))
        exact Tr.iret (pc := 200) d_X6_step_200 rfl ⟨hS, _, rfl, by omega, by omega, by omega⟩
    · refine Tr.tp 5 c43 ?_
      refine Tr.tswIn (pc := 43) (off := 37) (tgt := 80) d_X6_step_43 (by decide) (by decide) rfl rfl ?_
      refine Tr.aload_n (pc := 80) (i := 0) d_X6_step_80 rfl rfl ?_
      refine Tr.getf (pc := 81) d_X6_step_81 f_6_15 (by decide) (by decide) (ty_48 hS.1.1) ?_
      refine Tr.tp 50 (fx_48_3 hS.1.1) ?_
      refine Tr.iload_n (pc := 84) (i := 3) d_X6_step_84 rfl rfl ?_
      refine Tr.aload_n (pc := 85) (i := 0) d_X6_step_85 rfl rfl ?_
      refine Tr.iload_n (pc := 86) (i := 1) d_X6_step_86 rfl rfl ?_
      refine Tr.callV (pc := 87) (as := [_]) d_X6_step_87 s_6_155 ok_X6_worked rfl rfl (Nat.le_of_ble_eq_true rfl) (Nat.le_of_ble_eq_true rfl) (by decide) (ty_48 hS.1.1) ?_
      refine Tr.imp (Tr.deep (by decide) (sp_X6_worked_48_w1 hS.1.wk ((St.kp hS (by decide) (by decide) (by decide)).trans en_48_1) a1 (by omega))) ?_
      rintro M87 _ ⟨h87, r87, rfl, lr87, ur87⟩
      have h87 := St.rn h87 (Rn.of hS.1.2.2.2.2 (fun _ => (St.ka h87 (by decide) (by decide) (by decide))) (St.kp h87 (by decide) (by decide) (by decide)))
      have hS := St.tr hS h87 (by decide) (by decide)
      refine Tr.sc [(0, r87), (0, r35), (2, 50)] rfl ?_
      refine Tr.iastS (pc := 90) (P := St Rn ws_X6_step_48_w1 as_X6_step_48_w1 M0) d_X6_step_90 (ty_50 hS.1.1) (by omega) (by omega) (sa_50 hS (by decide) (by omega) (Rn.of hS.1.2.2.2.2 (fun _ => rd_wb _ rfl) (rd_wb _ rfl))) (fun M90 hS w90 => ?_)
      refine Tr.goto (pc := 91) (tgt := 201) d_X6_step_91 rfl ?_
      refine Tr.aload_n (pc := 201) (i := 2) d_X6_step_201 rfl rfl ?_
      refine Tr.getf (pc := 202) d_X6_step_202 f_6_177 (by decide) (by decide) (ty_15 hS.1.1) ?_
      refine Tr.tp 19 (fx_15_4 hS.1.1) ?_
      refine Tr.iload_n (pc := 205) (i := 1) d_X6_step_205 rfl rfl ?_
      refine Tr.iald (pc := 206) d_X6_step_206 (ty_19 hS.1.1) (by omega) (by omega) ?_
      have ky206_15_0 : rd M90 15 0 = g15_0 := ((Wr.b w90 rfl).trans ((St.kp h87 (by decide) (by decide) (by decide)).trans ((Wr.b w19 rfl).trans ((St.kp h4 (by decide) (by decide) (by decide)).trans eg15_0))))
      refine Tr.gen (P := fun v => 0 ≤ v ∧ v ≤ 2147483647) (by have h8 := (Yn15.of hF_Y15 (fun j => (St.ka hS (by decide) (by decide) (by decide))) (fun j => (St.ka hS (by decide) (by decide) (by decide))) (St.kp hS (by decide) (by decide) (by decide))) (a1) (by omega) (by omega); have h9 := (ar_19 hS.1.2.1 (a1)); omega) (fun r206 er206 br206 => ?_)
      have kr_63_7 : rd M90 63 7 = g63_7 := ((Wr.b w90 rfl).trans ((St.kp h87 (by decide) (by decide) (by decide)).trans ((Wr.b w19 rfl).trans ((St.kp h4 (by decide) (by decide) (by decide)).trans eg63_7))))
      exact Tr.iret (pc := 207) d_X6_step_207 rfl ⟨hS, _, rfl, by omega, by omega, by omega⟩
    · refine Tr.tp 6 c43 ?_
      refine Tr.tswIn (pc := 43) (off := 51) (tgt := 94) d_X6_step_43 (by decide) (by decide) rfl rfl ?_
      refine Tr.aload_n (pc := 94) (i := 0) d_X6_step_94 rfl rfl ?_
      refine Tr.iload_n (pc := 95) (i := 1) d_X6_step_95 rfl rfl ?_
      refine Tr.iload_n (pc := 96) (i := 3) d_X6_step_96 rfl rfl ?_
      refine Tr.aload_n (pc := 97) (i := 0) d_X6_step_97 rfl rfl ?_
      refine Tr.iload_n (pc := 98) (i := 1) d_X6_step_98 rfl rfl ?_
      refine Tr.callV (pc := 99) (as := [_]) d_X6_step_99 s_6_155 ok_X6_worked rfl rfl (Nat.le_of_ble_eq_true rfl) (Nat.le_of_ble_eq_true rfl) (by decide) (ty_48 hS.1.1) ?_
      refine Tr.imp (Tr.deep (by decide) (sp_X6_worked_48_w1 hS.1.wk ((St.kp hS (by decide) (by decide) (by decide)).trans en_48_1) a1 (by omega))) ?_
      rintro M99 _ ⟨h99, r99, rfl, lr99, ur99⟩
      have h99 := St.rn h99 (Rn.of hS.1.2.2.2.2 (fun _ => (St.ka h99 (by decide) (by decide) (by decide))) (St.kp h99 (by decide) (by decide) (by decide)))
      have hS := St.tr hS h99 (by decide) (by decide)
      refine Tr.sc [(0, r99), (0, r35), (0, a1), (2, 48)] rfl ?_
      refine Tr.iconst (pc := 102) d_X6_step_102 (by decide) ?_
      refine Tr.mmax (pc := 103) d_X6_step_103 ml_6_119 mw_mmax (Nat.le_of_ble_eq_true rfl) ?_
      refine Tr.gen (P := fun v => (v = r99 ∧ 0 ≤ r99) ∨ (v = 0 ∧ r99 ≤ 0)) (f_max_p _ _) (fun r103 er103 br103 => ?_)
      refine Tr.bipush (pc := 106) d_X6_step_106 rfl (by decide) ?_
      refine Tr.mmin (pc := 108) d_X6_step_108 ml_6_158 mw_mmin (Nat.le_of_ble_eq_true rfl) ?_
      refine Tr.gen (P := fun v => (v = r103 ∧ r103 ≤ 50) ∨ (v = 50 ∧ 50 ≤ r103)) (f_min_p _ _) (fun r108 er108 br108 => ?_)
      refine Tr.callV (pc := 111) (as := [_, _, _]) d_X6_step_111 s_6_161 ok_X6_use rfl rfl (Nat.le_of_ble_eq_true rfl) (Nat.le_of_ble_eq_true rfl) (by decide) (ty_48 hS.1.1) ?_
      have kb111_63_7 : rd M99 63 7 = g63_7 := ((St.kp h99 (by decide) (by decide) (by decide)).trans ((Wr.b w19 rfl).trans ((St.kp h4 (by decide) (by decide) (by decide)).trans eg63_7)))
      refine Tr.imp (Tr.deep (by decide) (sp_X6_use_48_w1 hS.1 ((St.kp hS (by decide) (by decide) (by decide)).trans en_48_1) ((St.kp hS (by decide) (by decide) (by decide)).trans en_56_1) a1 (by omega) r35 (by omega) r108 (by omega))) ?_
      rintro M111 _ ⟨h111, rfl, z111_0⟩
      have hS := St.tr hS h111 (by decide) (by decide)
      obtain ⟨s111_63_7, es111_63_7⟩ : ∃ v, rd M111 63 7 = v := ⟨_, rfl⟩
      have bs111_63_7 : (-2147483648) ≤ s111_63_7 ∧ s111_63_7 ≤ 2147483647 := by rw [← es111_63_7]; exact ir_63_7 hS.1.2.1
      refine Tr.sc [] rfl ?_
      refine Tr.goto (pc := 114) (tgt := 201) d_X6_step_114 rfl ?_
      refine Tr.aload_n (pc := 201) (i := 2) d_X6_step_201 rfl rfl ?_
      refine Tr.getf (pc := 202) d_X6_step_202 f_6_177 (by decide) (by decide) (ty_15 hS.1.1) ?_
      refine Tr.tp 19 (fx_15_4 hS.1.1) ?_
      refine Tr.iload_n (pc := 205) (i := 1) d_X6_step_205 rfl rfl ?_
      refine Tr.iald (pc := 206) d_X6_step_206 (ty_19 hS.1.1) (by omega) (by omega) ?_
      have ky206_15_0 : rd M111 15 0 = g15_0 := ((St.kp h111 (by decide) (by decide) (by decide)).trans ((St.kp h99 (by decide) (by decide) (by decide)).trans ((Wr.b w19 rfl).trans ((St.kp h4 (by decide) (by decide) (by decide)).trans eg15_0))))
      refine Tr.gen (P := fun v => 0 ≤ v ∧ v ≤ 2147483647) (by have h8 := (Yn15.of hF_Y15 (fun j => (St.ka hS (by decide) (by decide) (by decide))) (fun j => (St.ka hS (by decide) (by decide) (by decide))) (St.kp hS (by decide) (by decide) (by decide))) (a1) (by omega) (by omega); have h9 := (ar_19 hS.1.2.1 (a1)); omega) (fun r206 er206 br206 => ?_)
      have kr_63_7 : rd M111 63 7 = s111_63_7 := es111_63_7
      exact Tr.iret (pc := 207) d_X6_step_207 rfl ⟨hS, _, rfl, by omega, by omega, by omega⟩
    · refine Tr.tp 7 c43 ?_
      refine Tr.tswIn (pc := 43) (off := 74) (tgt := 117) d_X6_step_43 (by decide) (by decide) rfl rfl ?_
      refine Tr.aload_n (pc := 117) (i := 0) d_X6_step_117 rfl rfl ?_
      refine Tr.iload_n (pc := 118) (i := 1) d_X6_step_118 rfl rfl ?_
      refine Tr.iload_n (pc := 119) (i := 3) d_X6_step_119 rfl rfl ?_
      refine Tr.callV (pc := 120) (as := [_, _]) d_X6_step_120 s_6_165 ok_X6_hold rfl rfl (Nat.le_of_ble_eq_true rfl) (Nat.le_of_ble_eq_true rfl) (by decide) (ty_48 hS.1.1) ?_
      have kb120_63_7 : rd M19 63 7 = g63_7 := ((Wr.b w19 rfl).trans ((St.kp h4 (by decide) (by decide) (by decide)).trans eg63_7))
      refine Tr.imp (Tr.deep (by decide) (sp_X6_hold_48_w1 hS.1 ((St.kp hS (by decide) (by decide) (by decide)).trans en_48_1) ((St.kp hS (by decide) (by decide) (by decide)).trans en_56_1) a1 (by omega) r35 (by omega))) ?_
      rintro M120 _ ⟨h120, rfl, z120_0⟩
      have hS := St.tr hS h120 (by decide) (by decide)
      obtain ⟨s120_63_7, es120_63_7⟩ : ∃ v, rd M120 63 7 = v := ⟨_, rfl⟩
      have bs120_63_7 : (-2147483648) ≤ s120_63_7 ∧ s120_63_7 ≤ 2147483647 := by rw [← es120_63_7]; exact ir_63_7 hS.1.2.1
      refine Tr.sc [] rfl ?_
      refine Tr.goto (pc := 123) (tgt := 201) d_X6_step_123 rfl ?_
      refine Tr.aload_n (pc := 201) (i := 2) d_X6_step_201 rfl rfl ?_
      refine Tr.getf (pc := 202) d_X6_step_202 f_6_177 (by decide) (by decide) (ty_15 hS.1.1) ?_
      refine Tr.tp 19 (fx_15_4 hS.1.1) ?_
      refine Tr.iload_n (pc := 205) (i := 1) d_X6_step_205 rfl rfl ?_
      refine Tr.iald (pc := 206) d_X6_step_206 (ty_19 hS.1.1) (by omega) (by omega) ?_
      have ky206_15_0 : rd M120 15 0 = g15_0 := ((St.kp h120 (by decide) (by decide) (by decide)).trans ((Wr.b w19 rfl).trans ((St.kp h4 (by decide) (by decide) (by decide)).trans eg15_0)))
      refine Tr.gen (P := fun v => 0 ≤ v ∧ v ≤ 2147483647) (by have h8 := (Yn15.of hF_Y15 (fun j => (St.ka hS (by decide) (by decide) (by decide))) (fun j => (St.ka hS (by decide) (by decide) (by decide))) (St.kp hS (by decide) (by decide) (by decide))) (a1) (by omega) (by omega); have h9 := (ar_19 hS.1.2.1 (a1)); omega) (fun r206 er206 br206 => ?_)
      have kr_63_7 : rd M120 63 7 = s120_63_7 := es120_63_7
      exact Tr.iret (pc := 207) d_X6_step_207 rfl ⟨hS, _, rfl, by omega, by omega, by omega⟩
    · refine Tr.tp 8 c43 ?_
      refine Tr.tswIn (pc := 43) (off := 83) (tgt := 126) d_X6_step_43 (by decide) (by decide) rfl rfl ?_
      refine Tr.aload_n (pc := 126) (i := 0) d_X6_step_126 rfl rfl ?_
      refine Tr.iload_n (pc := 127) (i := 1) d_X6_step_127 rfl rfl ?_
      refine Tr.iload_n (pc := 128) (i := 3) d_X6_step_128 rfl rfl ?_
      refine Tr.callV (pc := 129) (as := [_, _]) d_X6_step_129 s_6_168 ok_X6_free rfl rfl (Nat.le_of_ble_eq_true rfl) (Nat.le_of_ble_eq_true rfl) (by decide) (ty_48 hS.1.1) ?_
      refine Tr.imp (Tr.deep (by decide) (sp_X6_free_48_w1 hS.1 ((St.kp hS (by decide) (by decide) (by decide)).trans en_48_1) ((St.kp hS (by decide) (by decide) (by decide)).trans en_56_1) a1 (by omega) r35 (by omega))) ?_
      rintro M129 _ ⟨h129, rfl⟩
      have hS := St.tr hS h129 (by decide) (by decide)
      refine Tr.sc [] rfl ?_
      refine Tr.goto (pc := 132) (tgt := 201) d_X6_step_132 rfl ?_
      refine Tr.aload_n (pc := 201) (i := 2) d_X6_step_201 rfl rfl ?_
      refine Tr.getf (pc := 202) d_X6_step_202 f_6_177 (by decide) (by decide) (ty_15 hS.1.1) ?_
      refine Tr.tp 19 (fx_15_4 hS.1.1) ?_
      refine Tr.iload_n (pc := 205) (i := 1) d_X6_step_205 rfl rfl ?_
      refine Tr.iald (pc := 206) d_X6_step_206 (ty_19 hS.1.1) (by omega) (by omega) ?_
      have ky206_15_0 : rd M129 15 0 = g15_0 := ((St.kp h129 (by decide) (by decide) (by decide)).trans ((Wr.b w19 rfl).trans ((St.kp h4 (by decide) (by decide) (by decide)).trans eg15_0)))
      refine Tr.gen (P := fun v => 0 ≤ v ∧ v ≤ 2147483647) (by have h8 := (Yn15.of hF_Y15 (fun j => (St.ka hS (by decide) (by decide) (by decide))) (fun j => (St.ka hS (by decide) (by decide) (by decide))) (St.kp hS (by decide) (by decide) (by decide))) (a1) (by omega) (by omega); have h9 := (ar_19 hS.1.2.1 (a1)); omega) (fun r206 er206 br206 => ?_)
      have kr_63_7 : rd M129 63 7 = g63_7 := ((St.kp h129 (by decide) (by decide) (by decide)).trans ((Wr.b w19 rfl).trans ((St.kp h4 (by decide) (by decide) (by decide)).trans eg63_7)))
      exact Tr.iret (pc := 207) d_X6_step_207 rfl ⟨hS, _, rfl, by omega, by omega, by omega⟩
    · refine Tr.tp 9 c43 ?_
      refine Tr.tswIn (pc := 43) (off := 92) (tgt := 135) d_X6_step_43 (by decide) (by decide) rfl rfl ?_
      refine Tr.aload_n (pc := 135) (i := 0) d_X6_step_135 rfl rfl ?_
      refine Tr.aload_n (pc := 136) (i := 0) d_X6_step_136 rfl rfl ?_
      refine Tr.iload_n (pc := 137) (i := 1) d_X6_step_137 rfl rfl ?_
      refine Tr.callV (pc := 138) (as := [_]) d_X6_step_138 s_6_155 ok_X6_worked rfl rfl (Nat.le_of_ble_eq_true rfl) (Nat.le_of_ble_eq_true rfl) (by decide) (ty_48 hS.1.1) ?_
      refine Tr.imp (Tr.deep (by decide) (sp_X6_worked_48_w1 hS.1.wk ((St.kp hS (by decide) (by decide) (by decide)).trans en_48_1) a1 (by omega))) ?_
      rintro M138 _ ⟨h138, r138, rfl, lr138, ur138⟩
      have h138 := St.rn h138 (Rn.of hS.1.2.2.2.2 (fun _ => (St.ka h138 (by decide) (by decide) (by decide))) (St.kp h138 (by decide) (by decide) (by decide)))
      have hS := St.tr hS h138 (by decide) (by decide)
      refine Tr.sc [(0, r138), (2, 48)] rfl ?_
      refine Tr.iconst (pc := 141) d_X6_step_141 (by decide) ?_
      refine Tr.mmax (pc := 142) d_X6_step_142 ml_6_119 mw_mmax (Nat.le_of_ble_eq_true rfl) ?_
      refine Tr.gen (P := fun v => (v = r138 ∧ 0 ≤ r138) ∨ (v = 0 ∧ r138 ≤ 0)) (f_max_p _ _) (fun r142 er142 br142 => ?_)
      refine Tr.bipush (pc := 145) d_X6_step_145 rfl (by decide) ?_
      refine Tr.mmin (pc := 147) d_X6_step_147 ml_6_158 mw_mmin (Nat.le_of_ble_eq_true rfl) ?_
      refine Tr.gen (P := fun v => (v = r142 ∧ r142 ≤ 100) ∨ (v = 100 ∧ 100 ≤ r142)) (f_min_p _ _) (fun r147 er147 br147 => ?_)
      refine Tr.iconst (pc := 150) d_X6_step_150 (by decide) ?_
      refine Tr.iconst (pc := 151) d_X6_step_151 (by decide) ?_
      refine Tr.callV (pc := 152) (as := [_, _, _]) d_X6_step_152 s_6_145 ok_X6_pass rfl rfl (Nat.le_of_ble_eq_true rfl) (Nat.le_of_ble_eq_true rfl) (by decide) (ty_48 hS.1.1) ?_
      refine Tr.imp (Tr.deep (by decide) (sp_X6_pass_48_w2 hS.1.wk ((St.kp hS (by decide) (by decide) (by decide)).trans en_48_1) r147 (by omega) (-1) (by omega) 0 (by omega))) ?_
      rintro M152 _ ⟨h152, r152, rfl, lr152, ur152⟩
      have h152 := St.rn h152 (Rn.of hS.1.2.2.2.2 (fun _ => (St.ka h152 (by decide) (by decide) (by decide))) (St.kp h152 (by decide) (by decide) (by decide)))
      have hS := St.tr hS h152 (by decide) (by decide)
      refine Tr.sc [(0, r152)] rfl ?_
      refine Tr.pop (pc := 155) d_X6_step_155 ne01 ?_
      refine Tr.goto (pc := 156) (tgt := 201) d_X6_step_156 rfl ?_
      refine Tr.aload_n (pc := 201) (i := 2) d_X6_step_201 rfl rfl ?_
      refine Tr.getf (pc := 202) d_X6_step_202 f_6_177 (by decide) (by decide) (ty_15 hS.1.1) ?_
      refine Tr.tp 19 (fx_15_4 hS.1.1) ?_
      refine Tr.iload_n (pc := 205) (i := 1) d_X6_step_205 rfl rfl ?_
      refine Tr.iald (pc := 206) d_X6_step_206 (ty_19 hS.1.1) (by omega) (by omega) ?_
      have ky206_15_0 : rd M152 15 0 = g15_0 := ((St.kp h152 (by decide) (by decide) (by decide)).trans ((St.kp h138 (by decide) (by decide) (by decide)).trans ((Wr.b w19 rfl).trans ((St.kp h4 (by decide) (by decide) (by decide)).trans eg15_0))))
      refine Tr.gen (P := fun v => 0 ≤ v ∧ v ≤ 2147483647) (by have h8 := (Yn15.of hF_Y15 (fun j => (St.ka hS (by decide) (by decide) (by decide))) (fun j => (St.ka hS (by decide) (by decide) (by decide))) (St.kp hS (by decide) (by decide) (by decide))) (a1) (by omega) (by omega); have h9 := (ar_19 hS.1.2.1 (a1)); omega) (fun r206 er206 br206 => ?_)
      have kr_63_7 : rd M152 63 7 = g63_7 := ((St.kp h152 (by decide) (by decide) (by decide)).trans ((St.kp h138 (by decide) (by decide) (by decide)).trans ((Wr.b w19 rfl).trans ((St.kp h4 (by decide) (by decide) (by decide)).trans eg63_7))))
      exact Tr.iret (pc := 207) d_X6_step_207 rfl ⟨hS, _, rfl, by omega, by omega, by omega⟩
    · refine Tr.tp 10 c43 ?_
      refine Tr.tswIn (pc := 43) (off := 116) (tgt := 159) d_X6_step_43 (by decide) (by decide) rfl rfl ?_
      refine Tr.aload_n (pc := 159) (i := 0) d_X6_step_159 rfl rfl ?_
      refine Tr.aload_n (pc := 160) (i := 0) d_X6_step_160 rfl rfl ?_
      refine Tr.iload_n (pc := 161) (i := 1) d_X6_step_161 rfl rfl ?_
      refine Tr.callV (pc := 162) (as := [_]) d_X6_step_162 s_6_155 ok_X6_worked rfl rfl (Nat.le_of_ble_eq_true rfl) (Nat.le_of_ble_eq_true rfl) (by decide) (ty_48 hS.1.1) ?_
      refine Tr.imp (Tr.deep (by decide) (sp_X6_worked_48_w1 hS.1.wk ((St.kp hS (by decide) (by decide) (by decide)).trans en_48_1) a1 (by omega))) ?_
      rintro M162 _ ⟨h162, r162, rfl, lr162, ur162⟩
      have h162 := St.rn h162 (Rn.of hS.1.2.2.2.2 (fun _ => (St.ka h162 (by decide) (by decide) (by decide))) (St.kp h162 (by decide) (by decide) (by decide)))
      have hS := St.tr hS h162 (by decide) (by decide)
      refine Tr.sc [(0, r162), (2, 48)] rfl ?_
      refine Tr.sipush (pc := 165) d_X6_step_165 rfl (by decide) ?_
      refine Tr.callS (pc := 168) (as := [_, _]) d_X6_step_168 s_6_171 ok_J9_floorMod_7cf53 rfl rfl (Nat.le_of_ble_eq_true rfl) (Nat.le_of_ble_eq_true rfl) ?_
      refine Tr.imp (Tr.deep (by decide) (sp_J9_floorMod_7cf53 hS.1.wk r162 (by omega) 1000 (by omega) (by omega))) ?_
      rintro M168 _ ⟨h168, r168, rfl, lr168, ur168, wr168⟩
      have h168 := St.rn h168 (Rn.of hS.1.2.2.2.2 (fun _ => (St.ka h168 (by decide) (by decide) (by decide))) (St.kp h168 (by decide) (by decide) (by decide)))
      have hS := St.tr hS h168 (by decide) (by decide)
      refine Tr.sc [(0, r168), (2, 48)] rfl ?_
      refine Tr.callV (pc := 171) (as := [_]) d_X6_step_171 s_6_174 ok_X6_touch rfl rfl (Nat.le_of_ble_eq_true rfl) (Nat.le_of_ble_eq_true rfl) (by decide) (ty_48 hS.1.1) ?_
      refine Tr.imp (Tr.deep (by decide) (sp_X6_touch_48 hS.1.wk ((St.kp hS (by decide) (by decide) (by decide)).trans en_48_1) r168 (by omega))) ?_
      rintro M171 _ ⟨h171, rfl⟩
      have h171 := St.rn h171 (Rn.of hS.1.2.2.2.2 (fun _ => (St.ka h171 (by decide) (by decide) (by decide))) (St.kp h171 (by decide) (by decide) (by decide)))
      have hS := St.tr hS h171 (by decide) (by decide)
      refine Tr.sc [] rfl ?_
      refine Tr.goto (pc := 174) (tgt := 201) d_X6_step_174 rfl ?_
      refine Tr.aload_n (pc := 201) (i := 2) d_X6_step_201 rfl rfl ?_
      refine Tr.getf (pc := 202) d_X6_step_202 f_6_177 (by decide) (by decide) (ty_15 hS.1.1) ?_
      refine Tr.tp 19 (fx_15_4 hS.1.1) ?_
      refine Tr.iload_n (pc := 205) (i := 1) d_X6_step_205 rfl rfl ?_
      refine Tr.iald (pc := 206) d_X6_step_206 (ty_19 hS.1.1) (by omega) (by omega) ?_
      have ky206_15_0 : rd M171 15 0 = g15_0 := ((St.kp h171 (by decide) (by decide) (by decide)).trans ((St.kp h168 (by decide) (by decide) (by decide)).trans ((St.kp h162 (by decide) (by decide) (by decide)).trans ((Wr.b w19 rfl).trans ((St.kp h4 (by decide) (by decide) (by decide)).trans eg15_0)))))
      refine Tr.gen (P := fun v => 0 ≤ v ∧ v ≤ 2147483647) (by have h8 := (Yn15.of hF_Y15 (fun j => (St.ka hS (by decide) (by decide) (by decide))) (fun j => (St.ka hS (by decide) (by decide) (by decide))) (St.kp hS (by decide) (by decide) (by decide))) (a1) (by omega) (by omega); have h9 := (ar_19 hS.1.2.1 (a1)); omega) (fun r206 er206 br206 => ?_)
      have kr_63_7 : rd M171 63 7 = g63_7 := ((St.kp h171 (by decide) (by decide) (by decide)).trans ((St.kp h168 (by decide) (by decide) (by decide)).trans ((St.kp h162 (by decide) (by decide) (by decide)).trans ((Wr.b w19 rfl).trans ((St.kp h4 (by decide) (by decide) (by decide)).trans eg63_7)))))
      exact Tr.iret (pc := 207) d_X6_step_207 rfl ⟨hS, _, rfl, by omega, by omega, by omega⟩
  · refine Tr.iload_n (pc := 10) (i := 1) d_X6_step_10 rfl rfl ?_
    have kr_63_7 : rd M4 63 7 = g63_7 := ((St.kp h4 (by decide) (by decide) (by decide)).trans eg63_7)
    exact Tr.iret (pc := 11) d_X6_step_11 rfl ⟨hS, _, rfl, by omega, by omega, by omega⟩
end
/-! 30.13 -/
section
def ws_X1_payHeart_56_w1 : List (Int × Int) := []
def as_X1_payHeart_56_w1 : List Int := [60]
def q_X1_payHeart_56_w1 (M0 M' : Mem) (r : Option PV) : Prop := St Tru ws_X1_payHeart_56_w1 as_X1_payHeart_56_w1 M0 M' ∧ r = none
set_option maxRecDepth 100000 in
set_option maxHeartbeats 4000000 in
theorem sp_X1_payHeart_56_w1 {l : Launch} {K : EC} {M0 : Mem} (hI : In Tru M0) (en_56_1 : rd M0 56 1 = 7) (a1 : Int) (ha1 : 0 ≤ a1 ∧ a1 ≤ 59) (a2 : Int) (ha2 : (-2147483648) ≤ a2 ∧ a2 ≤ 2147483647)  : Tr l K 0 mX1_payHeart 0 [(0, (2, 56)), (1, (0, a1)), (2, (0, a2))] [] M0 (q_X1_payHeart_56_w1 M0) := by
  have hS : St Tru ws_X1_payHeart_56_w1 as_X1_payHeart_56_w1 M0 M0 := St.rf hI
  refine Tr.aload_n (pc := 0) (i := 0) d_X1_payHeart_0 rfl rfl ?_
  refine Tr.getz (pc := 1) d_X1_payHeart_1 f_1_37 (by decide) (ty_56 hS.1.1) ?_
  refine Tr.tp 1 (fx_56_0 hS.1.1) ?_
  refine Tr.if_eq (pc := 4) (tgt := 25) d_X1_payHeart_4 rfl (fun hc => absurd hc (by omega)) (fun _ => ?_)
  refine Tr.aload_n (pc := 7) (i := 0) d_X1_payHeart_7 rfl rfl ?_
  refine Tr.getf (pc := 8) d_X1_payHeart_8 f_1_21 (by decide) (by decide) (ty_56 hS.1.1) ?_
  refine Tr.tp 60 (fx_56_5 hS.1.1) ?_
  refine Tr.iload_n (pc := 11) (i := 1) d_X1_payHeart_11 rfl rfl ?_
  refine Tr.dup2 (pc := 12) d_X1_payHeart_12 ne01 ne21 ?_
  refine Tr.iald (pc := 13) d_X1_payHeart_13 (ty_60 hS.1.1) (by omega) (by omega) ?_
  refine Tr.gen (P := fun v => (-2147483648) ≤ v ∧ v ≤ 2147483647) (ar_60 hS.1.2.1 _) (fun r13 er13 br13 => ?_)
  refine Tr.iload_n (pc := 14) (i := 2) d_X1_payHeart_14 rfl rfl ?_
  refine Tr.aload_n (pc := 15) (i := 0) d_X1_payHeart_15 rfl rfl ?_
  refine Tr.getf (pc := 16) d_X1_payHeart_16 f_1_41 (by decide) (by decide) (ty_56 hS.1.1) ?_
  refine Tr.tp 7 ((St.kp hS (by decide) (by decide) (by decide)).trans en_56_1) ?_
  refine Tr.getf (pc := 19) d_X1_payHeart_19 f_1_57 (by decide) (by decide) (ty_7 hS.1.1) ?_
  refine Tr.gen (P := fun v => (-1) ≤ v ∧ v ≤ 999) (ir_7_0 hS.1.2.1) (fun r19 er19 br19 => ?_)
  refine Tr.imul (pc := 22) d_X1_payHeart_22 ?_
  refine Tr.gen (P := fun v => (-2147483648) ≤ v ∧ v ≤ 2147483647) (w32_b _) (fun r22 er22 br22 => ?_)
  refine Tr.iadd (pc := 23) d_X1_payHeart_23 ?_
  refine Tr.gen (P := fun v => (-2147483648) ≤ v ∧ v ≤ 2147483647) (w32_b _) (fun r23 er23 br23 => ?_)
  refine Tr.iastS (pc := 24) (P := St Tru ws_X1_payHeart_56_w1 as_X1_payHeart_56_w1 M0) d_X1_payHeart_24 (ty_60 hS.1.1) (by omega) (by omega) (sa_60 hS (by decide) (by omega) trivial) (fun M24 hS w24 => ?_)
  exact Tr.vret (pc := 25) d_X1_payHeart_25 rfl ⟨hS, rfl⟩

def ws_X6_go_48_7_47 : List (Int × Int) := [(48, 1), (48, 9), (48, 10), (48, 11), (48, 12), (48, 13), (48, 14), (48, 15), (48, 16), (48, 17), (56, 1), (63, 0), (63, 1), (63, 2), (63, 3), (63, 4), (63, 5), (63, 7), (63, 8), (63, 9), (63, 10), (63, 11)]
def as_X6_go_48_7_47 : List Int := [49, 50, 51, 52, 53, 54, 55, 57, 58, 59, 60, 61, 62, 69, 191]
def q_X6_go_48_7_47 (M0 M' : Mem) (r : Option PV) : Prop := St Tru ws_X6_go_48_7_47 as_X6_go_48_7_47 M0 M' ∧ rd M' 48 1 = 7 ∧ rd M' 56 1 = 7 ∧ r = none
set_option maxRecDepth 100000 in
set_option maxHeartbeats 4000000 in
theorem sp_X6_go_48_7_47 {l : Launch} {K : EC} {M0 : Mem} (hI : In Tru M0)  (a3 : Int) (ha3 : (-1) ≤ a3 ∧ a3 ≤ 2147483647)  (hF_Y15 : Yn15 M0) : Tr l K 5 mX6_go 0 [(0, (2, 48)), (1, (2, 7)), (2, (2, 47)), (3, (0, a3))] [] M0 (q_X6_go_48_7_47 M0) := by
  have hS : St Tru ws_X6_go_48_7_47 as_X6_go_48_7_47 M0 M0 := St.rf hI
  obtain ⟨g63_7, eg63_7⟩ : ∃ v, rd M0 63 7 = v := ⟨_, rfl⟩
  have bg63_7 : (-2147483648) ≤ g63_7 ∧ g63_7 ≤ 2147483647 := by rw [← eg63_7]; exact ir_63_7 hI.2.1
  obtain ⟨g15_0, eg15_0⟩ : ∃ v, rd M0 15 0 = v := ⟨_, rfl⟩
  have bg15_0 : 0 ≤ g15_0 ∧ g15_0 ≤ 60 := by rw [← eg15_0]; exact ir_15_0 hI.2.1
  refine Tr.aload_n (pc := 0) (i := 0) d_X6_go_0 rfl rfl ?_
  refine Tr.aload_n (pc := 1) (i := 1) d_X6_go_1 rfl rfl ?_
  refine Tr.aload_n (pc := 2) (i := 2) d_X6_go_2 rfl rfl ?_
  refine Tr.iload_n (pc := 3) (i := 3) d_X6_go_3 rfl rfl ?_
  refine Tr.callV (pc := 4) (as := [_, _, _]) d_X6_go_4 s_6_42 ok_X6_begin rfl rfl (Nat.le_of_ble_eq_true rfl) (Nat.le_of_ble_eq_true rfl) (by decide) (ty_48 hS.1.1) ?_
  refine Tr.imp (Tr.deep (by decide) (sp_X6_begin_48_7_47 hS.1 a3 (by omega))) ?_
  rintro M4 _ ⟨h4, o4_48_1, o4_56_1, rfl, z4_0, f4_Rn⟩
  have hS := St.tr hS h4 (by decide) (by decide)
  obtain ⟨s4_63_7, es4_63_7⟩ : ∃ v, rd M4 63 7 = v := ⟨_, rfl⟩
  have bs4_63_7 : (-2147483648) ≤ s4_63_7 ∧ s4_63_7 ≤ 2147483647 := by rw [← es4_63_7]; exact ir_63_7 hS.1.2.1
  have hS := St.rn hS f4_Rn
  refine Tr.sc [] rfl ?_
  refine Tr.iconst (pc := 7) d_X6_go_7 (by decide) ?_
  refine Tr.istore (pc := 8) (i := 4) (ls2 := [(4, (0, 0)), (0, (2, 48)), (1, (2, 7)), (2, (2, 47)), (3, (0, a3))]) d_X6_go_8 (by decide) rfl ?_
  refine Tr.iconst (pc := 10) d_X6_go_10 (by decide) ?_
  refine Tr.istore (pc := 11) (i := 5) (ls2 := [(5, (0, 0)), (4, (0, 0)), (0, (2, 48)), (1, (2, 7)), (2, (2, 47)), (3, (0, a3))]) d_X6_go_11 (by decide) rfl ?_
  have J13 : ∀ (n13 : Nat) (M : Mem) (p13_4 p13_5 u13_63_7 : Int), St Rn ws_X6_go_48_7_47 as_X6_go_48_7_47 M0 M → (0 ≤ p13_4 ∧ p13_4 ≤ 2147483647) → (0 ≤ p13_5 ∧ p13_5 ≤ 2001) → ((-2147483648) ≤ u13_63_7 ∧ u13_63_7 ≤ 2147483647) → rd M 15 0 = g15_0 → rd M 48 1 = 7 → rd M 56 1 = 7 → rd M 63 7 = u13_63_7 → (u13_63_7 ≤ p13_5) → (2001 - p13_5).toNat < n13 → Tr l K 5 mX6_go 13 [(0, (2, 48)), (4, (0, p13_4)), (5, (0, p13_5))] [] M (q_X6_go_48_7_47 M0) := by
    intro n13
    induction n13 with
    | zero => intro M p13_4 p13_5 u13_63_7 hS bp13_4 bp13_5 bu13_63_7 k13_15_0 k13_48_1 k13_56_1 k13_63_7 t13_0 hm13; exact absurd hm13 (Nat.not_lt_zero _)
    | succ n13 J13 =>
      intro M p13_4 p13_5 u13_63_7 hS bp13_4 bp13_5 bu13_63_7 k13_15_0 k13_48_1 k13_56_1 k13_63_7 t13_0 hm13
      refine Tr.iload (pc := 13) (i := 5) d_X6_go_13 rfl ?_
      refine Tr.sipush (pc := 15) d_X6_go_15 rfl (by decide) ?_
      have J103 : ∀ (M : Mem), St Rn ws_X6_go_48_7_47 as_X6_go_48_7_47 M0 M → rd M 15 0 = g15_0 → rd M 48 1 = 7 → rd M 56 1 = 7 → rd M 63 7 = u13_63_7 → Tr l K 5 mX6_go 103 [(0, (2, 48))] [] M (q_X6_go_48_7_47 M0) := by
        intro M  hS  k103_15_0 k103_48_1 k103_56_1 k103_63_7
        refine Tr.aload_n (pc := 103) (i := 0) d_X6_go_103 rfl rfl ?_
        refine Tr.callV (pc := 104) (as := []) d_X6_go_104 s_6_82 ok_X6_finish rfl rfl (Nat.le_of_ble_eq_true rfl) (Nat.le_of_ble_eq_true rfl) (by decide) (ty_48 hS.1.1) ?_
        refine Tr.imp (Tr.deep (by decide) (sp_X6_finish_48 hS.1 k103_48_1 k103_56_1)) ?_
        rintro M104 _ ⟨h104, rfl⟩
        have hS := St.tr hS h104 (by decide) (by decide)
        refine Tr.sc [] rfl ?_
        have hS := hS.wk
        exact Tr.vret (pc := 107) d_X6_go_107 rfl ⟨hS, ((St.kp h104 (by decide) (by decide) (by decide)).trans k103_48_1), ((St.kp h104 (by decide) (by decide) (by decide)).trans k103_56_1), rfl⟩
      refine Tr.icmp_gt (pc := 18) (tgt := 103) d_X6_go_18 rfl (fun c18 => ?_) (fun c18 => ?_)
      · refine Tr.pick [0] (ls2 := [(0, (2, 48))]) rfl ?_
        exact J103 _ hS k13_15_0 k13_48_1 k13_56_1 k13_63_7
      · refine Tr.iload (pc := 21) (i := 4) d_X6_go_21 rfl ?_
        refine Tr.aload_n (pc := 23) (i := 0) d_X6_go_23 rfl rfl ?_
        refine Tr.getf (pc := 24) d_X6_go_24 f_6_46 (by decide) (by decide) (ty_48 hS.1.1) ?_
        refine Tr.tp 7 k13_48_1 ?_
        refine Tr.getf (pc := 27) d_X6_go_27 f_6_50 (by decide) (by decide) (ty_7 hS.1.1) ?_
        refine Tr.tp 15 (fx_7_11 hS.1.1) ?_
        refine Tr.getf (pc := 30) d_X6_go_30 f_6_56 (by decide) (by decide) (ty_15 hS.1.1) ?_
        refine Tr.tp g15_0 k13_15_0 ?_
        refine Tr.icmp_ge (pc := 33) (tgt := 103) d_X6_go_33 rfl (fun c33 => ?_) (fun c33 => ?_)
        · refine Tr.pick [0] (ls2 := [(0, (2, 48))]) rfl ?_
          exact J103 _ hS k13_15_0 k13_48_1 k13_56_1 k13_63_7
        · refine Tr.aload_n (pc := 36) (i := 0) d_X6_go_36 rfl rfl ?_
          refine Tr.getf (pc := 37) d_X6_go_37 f_6_62 (by decide) (by decide) (ty_48 hS.1.1) ?_
          refine Tr.gen (P := fun v => (-2147483648) ≤ v ∧ v ≤ 2147483647) (ir_48_14 hS.1.2.1) (fun r37 er37 br37 => ?_)
          refine Tr.if_ne (pc := 40) (tgt := 103) d_X6_go_40 rfl (fun c40 => ?_) (fun c40 => ?_)
          · refine Tr.pick [0] (ls2 := [(0, (2, 48))]) rfl ?_
            exact J103 _ hS k13_15_0 k13_48_1 k13_56_1 k13_63_7
          · refine Tr.aload_n (pc := 43) (i := 0) d_X6_go_43 rfl rfl ?_
            refine Tr.getf (pc := 44) d_X6_go_44 f_6_38 (by decide) (by decide) (ty_48 hS.1.1) ?_
            refine Tr.tp 56 (fx_48_0 hS.1.1) ?_
            refine Tr.callV (pc := 47) (as := []) d_X6_go_47 s_6_65 ok_X1_makeRoom rfl rfl (Nat.le_of_ble_eq_true rfl) (Nat.le_of_ble_eq_true rfl) (by decide) (ty_56 hS.1.1) ?_
            have kb47_63_7 : rd M 63 7 = u13_63_7 := k13_63_7
            refine Tr.imp (Tr.deep (by decide) (sp_X1_makeRoom_56 hS.1.wk (by omega))) ?_
            rintro M47 _ ⟨h47, rfl⟩
            have h47 := St.rn h47 (Rn.of hS.1.2.2.2.2 (fun _ => (St.ka h47 (by decide) (by decide) (by decide))) (St.kp h47 (by decide) (by decide) (by decide)))
            have hS := St.tr hS h47 (by decide) (by decide)
            refine Tr.sc [] rfl ?_
            refine Tr.aload_n (pc := 50) (i := 0) d_X6_go_50 rfl rfl ?_
            refine Tr.getf (pc := 51) d_X6_go_51 f_6_68 (by decide) (by decide) (ty_48 hS.1.1) ?_
            refine Tr.gen (P := fun v => (-2147483648) ≤ v ∧ v ≤ 2147483647) (ir_48_9 hS.1.2.1) (fun r51 er51 br51 => ?_)
            refine Tr.istore (pc := 54) (i := 6) (ls2 := [(6, (0, r51)), (0, (2, 48)), (4, (0, p13_4)), (5, (0, p13_5))]) d_X6_go_54 (by decide) rfl ?_
            refine Tr.aload_n (pc := 56) (i := 0) d_X6_go_56 rfl rfl ?_
            refine Tr.iload (pc := 57) (i := 4) d_X6_go_57 rfl ?_
            refine Tr.callV (pc := 59) (as := [_]) d_X6_go_59 s_6_71 ok_X6_step rfl rfl (Nat.le_of_ble_eq_true rfl) (Nat.le_of_ble_eq_true rfl) (by decide) (ty_48 hS.1.1) ?_
            have kb59_15_0 : rd M47 15 0 = g15_0 := ((St.kp h47 (by decide) (by decide) (by decide)).trans k13_15_0)
            have kb59_63_7 : rd M47 63 7 = u13_63_7 := ((St.kp h47 (by decide) (by decide) (by decide)).trans k13_63_7)
            refine Tr.imp (Tr.deep (by decide) (sp_X6_step_48_w1 hS.1 ((St.kp h47 (by decide) (by decide) (by decide)).trans k13_48_1) ((St.kp h47 (by decide) (by decide) (by decide)).trans k13_56_1) p13_4 (by omega) (by omega) (Yn15.of hF_Y15 (fun j => (St.ka hS (by decide) (by decide) (by decide))) (fun j => (St.ka hS (by decide) (by decide) (by decide))) (St.kp hS (by decide) (by decide) (by decide))))) ?_
            rintro M59 _ ⟨h59, r59, rfl, lr59, ur59, z59_0⟩
            have hS := St.tr hS h59 (by decide) (by decide)
            obtain ⟨s59_63_7, es59_63_7⟩ : ∃ v, rd M59 63 7 = v := ⟨_, rfl⟩
            have bs59_63_7 : (-2147483648) ≤ s59_63_7 ∧ s59_63_7 ≤ 2147483647 := by rw [← es59_63_7]; exact ir_63_7 hS.1.2.1
            refine Tr.sc [(0, r59)] rfl ?_
            refine Tr.istore (pc := 62) (i := 7) (ls2 := [(7, (0, r59)), (6, (0, r51)), (0, (2, 48)), (4, (0, p13_4)), (5, (0, p13_5))]) d_X6_go_62 (by decide) rfl ?_
            refine Tr.aload_n (pc := 64) (i := 0) d_X6_go_64 rfl rfl ?_
            refine Tr.getf (pc := 65) d_X6_go_65 f_6_38 (by decide) (by decide) (ty_48 hS.1.1) ?_
            refine Tr.tp 56 (fx_48_0 hS.1.1) ?_
            refine Tr.iload (pc := 68) (i := 4) d_X6_go_68 rfl ?_
            refine Tr.aload_n (pc := 70) (i := 0) d_X6_go_70 rfl rfl ?_
            refine Tr.getf (pc := 71) d_X6_go_71 f_6_68 (by decide) (by decide) (ty_48 hS.1.1) ?_
            refine Tr.gen (P := fun v => (-2147483648) ≤ v ∧ v ≤ 2147483647) (ir_48_9 hS.1.2.1) (fun r71 er71 br71 => ?_)
            refine Tr.iload (pc := 74) (i := 6) d_X6_go_74 rfl ?_
            refine Tr.isub (pc := 76) d_X6_go_76 ?_
            refine Tr.gen (P := fun v => (-2147483648) ≤ v ∧ v ≤ 2147483647) (w32_b _) (fun r76 er76 br76 => ?_)
            refine Tr.callV (pc := 77) (as := [_, _]) d_X6_go_77 s_6_75 ok_X1_payHeart rfl rfl (Nat.le_of_ble_eq_true rfl) (Nat.le_of_ble_eq_true rfl) (by decide) (ty_56 hS.1.1) ?_
            refine Tr.imp (Tr.deep (by decide) (sp_X1_payHeart_56_w1 hS.1.wk ((St.kp h59 (by decide) (by decide) (by decide)).trans ((St.kp h47 (by decide) (by decide) (by decide)).trans k13_56_1)) p13_4 (by omega) r76 (by omega))) ?_
            rintro M77 _ ⟨h77, rfl⟩
            have h77 := St.rn h77 (Rn.of hS.1.2.2.2.2 (fun _ => (St.ka h77 (by decide) (by decide) (by decide))) (St.kp h77 (by decide) (by decide) (by decide)))
            have hS := St.tr hS h77 (by decide) (by decide)
            refine Tr.sc [] rfl ?_
            refine Tr.aload_n (pc := 80) (i := 0) d_X6_go_80 rfl rfl ?_
            refine Tr.getf (pc := 81) d_X6_go_81 f_6_62 (by decide) (by decide) (ty_48 hS.1.1) ?_
            refine Tr.gen (P := fun v => (-2147483648) ≤ v ∧ v ≤ 2147483647) (ir_48_14 hS.1.2.1) (fun r81 er81 br81 => ?_)
            have J93 : ∀ (M : Mem), St Rn ws_X6_go_48_7_47 as_X6_go_48_7_47 M0 M → rd M 15 0 = g15_0 → rd M 48 1 = 7 → rd M 48 14 = r81 → rd M 48 9 = r71 → rd M 56 1 = 7 → rd M 63 7 = s59_63_7 → Tr l K 5 mX6_go 93 [(0, (2, 48)), (5, (0, p13_5)), (7, (0, r59))] [] M (q_X6_go_48_7_47 M0) := by
              intro M  hS  k93_15_0 k93_48_1 k93_48_14 k93_48_9 k93_56_1 k93_63_7
              refine Tr.iload (pc := 93) (i := 7) d_X6_go_93 rfl ?_
              refine Tr.istore (pc := 95) (i := 4) (ls2 := [(4, (0, r59)), (0, (2, 48)), (5, (0, p13_5)), (7, (0, r59))]) d_X6_go_95 (by decide) rfl ?_
              refine Tr.iincV (pc := 97) (n2 := (p13_5 + 1)) (ls2 := [(5, (0, (p13_5 + 1))), (4, (0, r59)), (0, (2, 48)), (7, (0, r59))]) d_X6_go_97 rfl (by decide) ((w32_id (by omega)).trans (by omega)) rfl ?_
              refine Tr.goto (pc := 100) (tgt := 13) d_X6_go_100 rfl ?_
              refine Tr.pick [2, 1, 0] (ls2 := [(0, (2, 48)), (4, (0, r59)), (5, (0, (p13_5 + 1)))]) rfl ?_
              exact J13 _ _ _ _ hS (by omega) (by omega) (by omega) k93_15_0 k93_48_1 k93_56_1 k93_63_7 (by omega) (by omega)
            refine Tr.if_eq (pc := 84) (tgt := 93) d_X6_go_84 rfl (fun c84 => ?_) (fun c84 => ?_)
            · refine Tr.pick [2, 4, 0] (ls2 := [(0, (2, 48)), (5, (0, p13_5)), (7, (0, r59))]) rfl ?_
              exact J93 _ hS ((St.kp h77 (by decide) (by decide) (by decide)).trans ((St.kp h59 (by decide) (by decide) (by decide)).trans ((St.kp h47 (by decide) (by decide) (by decide)).trans k13_15_0))) ((St.kp h77 (by decide) (by decide) (by decide)).trans ((St.kp h59 (by decide) (by decide) (by decide)).trans ((St.kp h47 (by decide) (by decide) (by decide)).trans k13_48_1))) er81 ((St.kp h77 (by decide) (by decide) (by decide)).trans er71) ((St.kp h77 (by decide) (by decide) (by decide)).trans ((St.kp h59 (by decide) (by decide) (by decide)).trans ((St.kp h47 (by decide) (by decide) (by decide)).trans k13_56_1))) ((St.kp h77 (by decide) (by decide) (by decide)).trans es59_63_7)
            · refine Tr.aload_n (pc := 87) (i := 0) d_X6_go_87 rfl rfl ?_
              refine Tr.iload (pc := 88) (i := 4) d_X6_go_88 rfl ?_
              refine Tr.putfS (pc := 90) (P := St Rn ws_X6_go_48_7_47 as_X6_go_48_7_47 M0) d_X6_go_90 f_6_79 (by decide) (by decide) (ty_48 hS.1.1) (st_48_15 hS (by decide) (by omega) (Rn.of hS.1.2.2.2.2 (fun _ => rd_wb _ rfl) (rd_wb _ rfl))) (fun M90 hS w90 => ?_)
              refine Tr.pick [2, 4, 0] (ls2 := [(0, (2, 48)), (5, (0, p13_5)), (7, (0, r59))]) rfl ?_
              exact J93 _ hS ((Wr.b w90 rfl).trans ((St.kp h77 (by decide) (by decide) (by decide)).trans ((St.kp h59 (by decide) (by decide) (by decide)).trans ((St.kp h47 (by decide) (by decide) (by decide)).trans k13_15_0)))) ((Wr.b w90 rfl).trans ((St.kp h77 (by decide) (by decide) (by decide)).trans ((St.kp h59 (by decide) (by decide) (by decide)).trans ((St.kp h47 (by decide) (by decide) (by decide)).trans k13_48_1)))) ((Wr.b w90 rfl).trans er81) ((Wr.b w90 rfl).trans ((St.kp h77 (by decide) (by decide) (by decide)).trans er71)) ((Wr.b w90 rfl).trans ((St.kp h77 (by decide) (by decide) (by decide)).trans ((St.kp h59 (by decide) (by decide) (by decide)).trans ((St.kp h47 (by decide) (by decide) (by decide)).trans k13_56_1)))) ((Wr.b w90 rfl).trans ((St.kp h77 (by decide) (by decide) (by decide)).trans es59_63_7))
  refine Tr.pick [2, 1, 0] (ls2 := [(0, (2, 48)), (4, (0, 0)), (5, (0, 0))]) rfl ?_
  exact J13 _ _ _ _ _ hS (by omega) (by omega) (by omega) ((St.kp h4 (by decide) (by decide) (by decide)).trans eg15_0) o4_48_1 o4_56_1 es4_63_7 (by omega) (Nat.lt_succ_self _)

def ws_X9_clear_100 : List (Int × Int) := [(100, 3)]
def as_X9_clear_100 : List Int := []
def q_X9_clear_100 (M0 M' : Mem) (r : Option PV) : Prop := St Tru ws_X9_clear_100 as_X9_clear_100 M0 M' ∧ r = none ∧ (rd M' 100 3 = -1)
set_option maxRecDepth 100000 in
set_option maxHeartbeats 4000000 in
theorem sp_X9_clear_100 {l : Launch} {K : EC} {M0 : Mem} (hI : In Tru M0)    : Tr l K 0 mX9_clear 0 [(0, (2, 100))] [] M0 (q_X9_clear_100 M0) := by
  have hS : St Tru ws_X9_clear_100 as_X9_clear_100 M0 M0 := St.rf hI
  refine Tr.aload_n (pc := 0) (i := 0) d_X9_clear_0 rfl rfl ?_
  refine Tr.iconst (pc := 1) d_X9_clear_1 (by decide) ?_
  refine Tr.putfS (pc := 2) (P := St Tru ws_X9_clear_100 as_X9_clear_100 M0) d_X9_clear_2 f_9_19 (by decide) (by decide) (ty_100 hS.1.1) (st_100_3 hS (by decide) (by omega) trivial) (fun M2 hS w2 => ?_)
  have kr_100_3 : rd M2 100 3 = (-1) := w2.1
  exact Tr.vret (pc := 5) d_X9_clear_5 rfl ⟨hS, rfl, by omega⟩

def ws_X11_run_0 : List (Int × Int) := [(0, 9), (48, 1), (48, 9), (48, 10), (48, 11), (48, 12), (48, 13), (48, 14), (48, 15), (48, 16), (48, 17), (56, 1), (63, 0), (63, 1), (63, 2), (63, 3), (63, 4), (63, 5), (63, 7), (63, 8), (63, 9), (63, 10), (63, 11), (100, 3)]
def as_X11_run_0 : List Int := [49, 50, 51, 52, 53, 54, 55, 57, 58, 59, 60, 61, 62, 69, 191]
def q_X11_run_0 (a1 : Int) (M0 M' : Mem) (r : Option PV) : Prop := St Tru ws_X11_run_0 as_X11_run_0 M0 M' ∧ ∃ v : Int, r = some (0, v) ∧ (-2147483648) ≤ v ∧ v ≤ 2147483647 ∧ ((rd M' 0 9 = 1 ∧ rd M' 56 1 = 7 ∧ rd M' 100 3 = -1) ∨ M' = M0)
set_option maxRecDepth 100000 in
set_option maxHeartbeats 4000000 in
theorem sp_X11_run_0 {l : Launch} {K : EC} {M0 : Mem} (hI : In Tru M0) (en_0_4 : rd M0 0 4 = 7) (a1 : Int) (ha1 : (-2147483648) ≤ a1 ∧ a1 ≤ 2147483647)  (hF_Y15 : Yn15 M0) : Tr l K 6 mX11_run 0 [(0, (2, 0)), (1, (0, a1))] [] M0 (q_X11_run_0 a1 M0) := by
  have hS : St Tru ws_X11_run_0 as_X11_run_0 M0 M0 := St.rf hI
  refine Tr.iload_n (pc := 0) (i := 1) d_X11_run_0 rfl rfl ?_
  refine Tr.iconst (pc := 1) d_X11_run_1 (by decide) ?_
  refine Tr.icmp_ge (pc := 2) (tgt := 8) d_X11_run_2 rfl (fun c2 => ?_) (fun c2 => ?_)
  · refine Tr.aload_n (pc := 8) (i := 0) d_X11_run_8 rfl rfl ?_
    refine Tr.getf (pc := 9) d_X11_run_9 f_11_46 (by decide) (by decide) (ty_0 hS.1.1) ?_
    refine Tr.tp 48 (fx_0_7 hS.1.1) ?_
    refine Tr.aload_n (pc := 12) (i := 0) d_X11_run_12 rfl rfl ?_
    refine Tr.getf (pc := 13) d_X11_run_13 f_11_30 (by decide) (by decide) (ty_0 hS.1.1) ?_
    refine Tr.tp 7 ((St.kp hS (by decide) (by decide) (by decide)).trans en_0_4) ?_
    refine Tr.aload_n (pc := 16) (i := 0) d_X11_run_16 rfl rfl ?_
    refine Tr.getf (pc := 17) d_X11_run_17 f_11_37 (by decide) (by decide) (ty_0 hS.1.1) ?_
    refine Tr.tp 47 (fx_0_6 hS.1.1) ?_
    refine Tr.iload_n (pc := 20) (i := 1) d_X11_run_20 rfl rfl ?_
    refine Tr.callV (pc := 21) (as := [_, _, _]) d_X11_run_21 s_11_144 ok_X6_go rfl rfl (Nat.le_of_ble_eq_true rfl) (Nat.le_of_ble_eq_true rfl) (by decide) (ty_48 hS.1.1) ?_
    refine Tr.imp (Tr.deep (by decide) (sp_X6_go_48_7_47 hS.1 a1 (by omega) (Yn15.of hF_Y15 (fun j => (St.ka hS (by decide) (by decide) (by decide))) (fun j => (St.ka hS (by decide) (by decide) (by decide))) (St.kp hS (by decide) (by decide) (by decide))))) ?_
    rintro M21 _ ⟨h21, o21_48_1, o21_56_1, rfl⟩
    have hS := St.tr hS h21 (by decide) (by decide)
    refine Tr.sc [] rfl ?_
    refine Tr.aload_n (pc := 24) (i := 0) d_X11_run_24 rfl rfl ?_
    refine Tr.getf (pc := 25) d_X11_run_25 f_11_56 (by decide) (by decide) (ty_0 hS.1.1) ?_
    refine Tr.tp 100 (fx_0_10 hS.1.1) ?_
    refine Tr.callV (pc := 28) (as := []) d_X11_run_28 s_11_148 ok_X9_clear rfl rfl (Nat.le_of_ble_eq_true rfl) (Nat.le_of_ble_eq_true rfl) (by decide) (ty_100 hS.1.1) ?_
    refine Tr.imp (Tr.deep (by decide) (sp_X9_clear_100 hS.1 )) ?_
    rintro M28 _ ⟨h28, rfl, z28_0⟩
    have hS := St.tr hS h28 (by decide) (by decide)
    obtain ⟨s28_100_3, es28_100_3⟩ : ∃ v, rd M28 100 3 = v := ⟨_, rfl⟩
    have bs28_100_3 : (-2147483648) ≤ s28_100_3 ∧ s28_100_3 ≤ 2147483647 := by rw [← es28_100_3]; exact ir_100_3 hS.1.2.1
    refine Tr.sc [] rfl ?_
    refine Tr.aload_n (pc := 31) (i := 0) d_X11_run_31 rfl rfl ?_
    refine Tr.iconst (pc := 32) d_X11_run_32 (by decide) ?_
    refine Tr.putzS (pc := 33) (P := St Tru ws_X11_run_0 as_X11_run_0 M0) d_X11_run_33 f_11_109 (by decide) (ty_0 hS.1.1) (by omega) (st_0_9 hS (by decide) (by omega) trivial) (fun M33 hS w33 => ?_)
    refine Tr.aload_n (pc := 36) (i := 0) d_X11_run_36 rfl rfl ?_
    refine Tr.getf (pc := 37) d_X11_run_37 f_11_46 (by decide) (by decide) (ty_0 hS.1.1) ?_
    refine Tr.tp 48 (fx_0_7 hS.1.1) ?_
    refine Tr.getf (pc := 40) d_X11_run_40 f_11_149 (by decide) (by decide) (ty_48 hS.1.1) ?_
    refine Tr.gen (P := fun v => (-2147483648) ≤ v ∧ v ≤ 2147483647) (ir_48_14 hS.1.2.1) (fun r40 er40 br40 => ?_)
    have kz_0_9 : rd M33 0 9 = 1 := w33.1
    have kz_56_1 : rd M33 56 1 = 7 := ((Wr.b w33 rfl).trans ((St.kp h28 (by decide) (by decide) (by decide)).trans o21_56_1))
    have kz_100_3 : rd M33 100 3 = s28_100_3 := ((Wr.b w33 rfl).trans es28_100_3)
    exact Tr.iret (pc := 43) d_X11_run_43 rfl ⟨hS, _, rfl, by omega, by omega, Or.inl ⟨by omega, by omega, by omega⟩⟩
  · refine Tr.bipush (pc := 5) d_X11_run_5 rfl (by decide) ?_
    exact Tr.iret (pc := 7) d_X11_run_7 rfl ⟨hS, _, rfl, by omega, by omega, Or.inr rfl⟩

def ws_X7_isLetter : List (Int × Int) := []
def as_X7_isLetter : List Int := []
def q_X7_isLetter (M0 M' : Mem) (r : Option PV) : Prop := St Tru ws_X7_isLetter as_X7_isLetter M0 M' ∧ ∃ v : Int, r = some (0, v) ∧ 0 ≤ v ∧ v ≤ 1
set_option maxRecDepth 100000 in
set_option maxHeartbeats 4000000 in
theorem sp_X7_isLetter {l : Launch} {K : EC} {M0 : Mem} (hI : In Tru M0)  (a0 : Int) (ha0 : (-1000) ≤ a0 ∧ a0 ≤ 161)  : Tr l K 0 mX7_isLetter 0 [(0, (0, a0))] [] M0 (q_X7_isLetter M0) := by
  have hS : St Tru ws_X7_isLetter as_X7_isLetter M0 M0 := St.rf hI
  refine Tr.iload_n (pc := 0) (i := 0) d_X7_isLetter_0 rfl rfl ?_
  refine Tr.bipush (pc := 1) d_X7_isLetter_1 rfl (by decide) ?_
  refine Tr.icmp_lt (pc := 3) (tgt := 16) d_X7_isLetter_3 rfl (fun c3 => ?_) (fun c3 => ?_)
  · refine Tr.iconst (pc := 16) d_X7_isLetter_16 (by decide) ?_
    exact Tr.zret (pc := 17) d_X7_isLetter_17 rfl (by omega) ⟨hS, _, rfl, by omega, by omega⟩
  · refine Tr.iload_n (pc := 6) (i := 0) d_X7_isLetter_6 rfl rfl ?_
    refine Tr.bipush (pc := 7) d_X7_isLetter_7 rfl (by decide) ?_
    refine Tr.icmp_gt (pc := 9) (tgt := 16) d_X7_isLetter_9 rfl (fun c9 => ?_) (fun c9 => ?_)
    · refine Tr.iconst (pc := 16) d_X7_isLetter_16 (by decide) ?_
      exact Tr.zret (pc := 17) d_X7_isLetter_17 rfl (by omega) ⟨hS, _, rfl, by omega, by omega⟩
    · refine Tr.iconst (pc := 12) d_X7_isLetter_12 (by decide) ?_
      refine Tr.goto (pc := 13) (tgt := 17) d_X7_isLetter_13 rfl ?_
      exact Tr.zret (pc := 17) d_X7_isLetter_17 rfl (by omega) ⟨hS, _, rfl, by omega, by omega⟩

def ws_X7_isDigit : List (Int × Int) := []
def as_X7_isDigit : List Int := []
def q_X7_isDigit (M0 M' : Mem) (r : Option PV) : Prop := St Tru ws_X7_isDigit as_X7_isDigit M0 M' ∧ ∃ v : Int, r = some (0, v) ∧ 0 ≤ v ∧ v ≤ 1
set_option maxRecDepth 100000 in
set_option maxHeartbeats 4000000 in
theorem sp_X7_isDigit {l : Launch} {K : EC} {M0 : Mem} (hI : In Tru M0)  (a0 : Int) (ha0 : (-1000) ≤ a0 ∧ a0 ≤ 161)  : Tr l K 0 mX7_isDigit 0 [(0, (0, a0))] [] M0 (q_X7_isDigit M0) := by
  have hS : St Tru ws_X7_isDigit as_X7_isDigit M0 M0 := St.rf hI
  refine Tr.iload_n (pc := 0) (i := 0) d_X7_isDigit_0 rfl rfl ?_
  refine Tr.bipush (pc := 1) d_X7_isDigit_1 rfl (by decide) ?_
  refine Tr.icmp_lt (pc := 3) (tgt := 16) d_X7_isDigit_3 rfl (fun c3 => ?_) (fun c3 => ?_)
  · refine Tr.iconst (pc := 16) d_X7_isDigit_16 (by decide) ?_
    exact Tr.zret (pc := 17) d_X7_isDigit_17 rfl (by omega) ⟨hS, _, rfl, by omega, by omega⟩
  · refine Tr.iload_n (pc := 6) (i := 0) d_X7_isDigit_6 rfl rfl ?_
    refine Tr.bipush (pc := 7) d_X7_isDigit_7 rfl (by decide) ?_
    refine Tr.icmp_gt (pc := 9) (tgt := 16) d_X7_isDigit_9 rfl (fun c9 => ?_) (fun c9 => ?_)
    · refine Tr.iconst (pc := 16) d_X7_isDigit_16 (by decide) ?_
      exact Tr.zret (pc := 17) d_X7_isDigit_17 rfl (by omega) ⟨hS, _, rfl, by omega, by omega⟩
    · refine Tr.iconst (pc := 12) d_X7_isDigit_12 (by decide) ?_
      refine Tr.goto (pc := 13) (tgt := 17) d_X7_isDigit_13 rfl ?_
      exact Tr.zret (pc := 17) d_X7_isDigit_17 rfl (by omega) ⟨hS, _, rfl, by omega, by omega⟩

def ws_J1_canEncode_9a6ad : List (Int × Int) := []
def as_J1_canEncode_9a6ad : List Int := []
def q_J1_canEncode_9a6ad (M0 M' : Mem) (r : Option PV) : Prop := St Tru ws_J1_canEncode_9a6ad as_J1_canEncode_9a6ad M0 M' ∧ ∃ v : Int, r = some (0, v) ∧ 1 ≤ v ∧ v ≤ 1
set_option maxRecDepth 100000 in
set_option maxHeartbeats 4000000 in
theorem sp_J1_canEncode_9a6ad {l : Launch} {K : EC} {M0 : Mem} (hI : In Tru M0)  (a0 : Int) (ha0 : 1 ≤ a0 ∧ a0 ≤ 161)  : Tr l K 0 mJ1_canEncode_9a6ad 0 [(0, (0, a0))] [] M0 (q_J1_canEncode_9a6ad M0) := by
  have hS : St Tru ws_J1_canEncode_9a6ad as_J1_canEncode_9a6ad M0 M0 := St.rf hI
  refine Tr.iload_n (pc := 0) (i := 0) d_J1_canEncode_9a6ad_0 rfl rfl ?_
  refine Tr.if_lt (pc := 1) (tgt := 15) d_J1_canEncode_9a6ad_1 rfl (fun hc => absurd hc (by omega)) (fun _ => ?_)
  refine Tr.iload_n (pc := 4) (i := 0) d_J1_canEncode_9a6ad_4 rfl rfl ?_
  refine Tr.sipush (pc := 5) d_J1_canEncode_9a6ad_5 rfl (by decide) ?_
  refine Tr.icmp_gt (pc := 8) (tgt := 15) d_J1_canEncode_9a6ad_8 rfl (fun hc => absurd hc (by omega)) (fun _ => ?_)
  refine Tr.iconst (pc := 11) d_J1_canEncode_9a6ad_11 (by decide) ?_
  refine Tr.goto (pc := 12) (tgt := 16) d_J1_canEncode_9a6ad_12 rfl ?_
  exact Tr.zret (pc := 16) d_J1_canEncode_9a6ad_16 rfl (by omega) ⟨hS, _, rfl, by omega, by omega⟩

def ws_X7_add_2 : List (Int × Int) := [(2, 3)]
def as_X7_add_2 : List Int := [3, 4, 5]
def q_X7_add_2 (M0 M' : Mem) (r : Option PV) : Prop := St Tru ws_X7_add_2 as_X7_add_2 M0 M' ∧ ∃ v : Int, r = some (0, v) ∧ 1 ≤ v ∧ v ≤ 900
set_option maxRecDepth 100000 in
set_option maxHeartbeats 4000000 in
theorem sp_X7_add_2 {l : Launch} {K : EC} {M0 : Mem} (hI : In Tru M0)  (a1 : Int) (ha1 : 5 ≤ a1 ∧ a1 ≤ 5) (a2 : Int) (ha2 : 0 ≤ a2 ∧ a2 ≤ 899) (a3 : Int) (ha3 : 1 ≤ a3 ∧ a3 ≤ 161) (a4 : Int) (ha4 : 1 ≤ a4 ∧ a4 ≤ 900)  : Tr l K 0 mX7_add 0 [(0, (2, 2)), (1, (0, a1)), (2, (0, a2)), (3, (0, a3)), (4, (0, a4))] [] M0 (q_X7_add_2 M0) := by
  have hS : St Tru ws_X7_add_2 as_X7_add_2 M0 M0 := St.rf hI
  refine Tr.aload_n (pc := 0) (i := 0) d_X7_add_0 rfl rfl ?_
  refine Tr.getf (pc := 1) d_X7_add_1 f_7_29 (by decide) (by decide) (ty_2 hS.1.1) ?_
  refine Tr.gen (P := fun v => 0 ≤ v ∧ v ≤ 901) (ir_2_3 hS.1.2.1) (fun r1 er1 br1 => ?_)
  refine Tr.aload_n (pc := 4) (i := 0) d_X7_add_4 rfl rfl ?_
  refine Tr.getf (pc := 5) d_X7_add_5 f_7_9 (by decide) (by decide) (ty_2 hS.1.1) ?_
  refine Tr.tp 3 (fx_2_0 hS.1.1) ?_
  refine Tr.alen (pc := 8) d_X7_add_8 (ty_3 hS.1.1) (by decide) (by decide) ?_
  refine Tr.tp 901 rfl ?_
  refine Tr.icmp_ge (pc := 9) (tgt := 52) d_X7_add_9 rfl (fun c9 => ?_) (fun c9 => ?_)
  · refine Tr.iload (pc := 52) (i := 4) d_X7_add_52 rfl ?_
    exact Tr.iret (pc := 54) d_X7_add_54 rfl ⟨hS, _, rfl, by omega, by omega⟩
  · refine Tr.aload_n (pc := 12) (i := 0) d_X7_add_12 rfl rfl ?_
    refine Tr.getf (pc := 13) d_X7_add_13 f_7_9 (by decide) (by decide) (ty_2 hS.1.1) ?_
    refine Tr.tp 3 (fx_2_0 hS.1.1) ?_
    refine Tr.aload_n (pc := 16) (i := 0) d_X7_add_16 rfl rfl ?_
    refine Tr.getf (pc := 17) d_X7_add_17 f_7_29 (by decide) (by decide) (ty_2 hS.1.1) ?_
    refine Tr.tp r1 er1 ?_
    refine Tr.iload_n (pc := 20) (i := 1) d_X7_add_20 rfl rfl ?_
    refine Tr.tp 5 (by omega) ?_
    refine Tr.iastS (pc := 21) (P := St Tru ws_X7_add_2 as_X7_add_2 M0) d_X7_add_21 (ty_3 hS.1.1) (by omega) (by omega) (sa_3 hS (by decide) (by omega) trivial) (fun M21 hS w21 => ?_)
    refine Tr.aload_n (pc := 22) (i := 0) d_X7_add_22 rfl rfl ?_
    refine Tr.getf (pc := 23) d_X7_add_23 f_7_15 (by decide) (by decide) (ty_2 hS.1.1) ?_
    refine Tr.tp 4 (fx_2_1 hS.1.1) ?_
    refine Tr.aload_n (pc := 26) (i := 0) d_X7_add_26 rfl rfl ?_
    refine Tr.getf (pc := 27) d_X7_add_27 f_7_29 (by decide) (by decide) (ty_2 hS.1.1) ?_
    refine Tr.tp r1 ((Wr.b w21 rfl).trans er1) ?_
    refine Tr.iload_n (pc := 30) (i := 2) d_X7_add_30 rfl rfl ?_
    refine Tr.iastS (pc := 31) (P := St Tru ws_X7_add_2 as_X7_add_2 M0) d_X7_add_31 (ty_4 hS.1.1) (by omega) (by omega) (sa_4 hS (by decide) (by omega) trivial) (fun M31 hS w31 => ?_)
    refine Tr.aload_n (pc := 32) (i := 0) d_X7_add_32 rfl rfl ?_
    refine Tr.getf (pc := 33) d_X7_add_33 f_7_18 (by decide) (by decide) (ty_2 hS.1.1) ?_
    refine Tr.tp 5 (fx_2_2 hS.1.1) ?_
    refine Tr.aload_n (pc := 36) (i := 0) d_X7_add_36 rfl rfl ?_
    refine Tr.getf (pc := 37) d_X7_add_37 f_7_29 (by decide) (by decide) (ty_2 hS.1.1) ?_
    refine Tr.tp r1 ((Wr.b w31 rfl).trans ((Wr.b w21 rfl).trans er1)) ?_
    refine Tr.iload_n (pc := 40) (i := 3) d_X7_add_40 rfl rfl ?_
    refine Tr.iastS (pc := 41) (P := St Tru ws_X7_add_2 as_X7_add_2 M0) d_X7_add_41 (ty_5 hS.1.1) (by omega) (by omega) (sa_5 hS (by decide) (by omega) trivial) (fun M41 hS w41 => ?_)
    refine Tr.aload_n (pc := 42) (i := 0) d_X7_add_42 rfl rfl ?_
    refine Tr.dup (pc := 43) d_X7_add_43 ne21 ?_
    refine Tr.getf (pc := 44) d_X7_add_44 f_7_29 (by decide) (by decide) (ty_2 hS.1.1) ?_
    refine Tr.tp r1 ((Wr.b w41 rfl).trans ((Wr.b w31 rfl).trans ((Wr.b w21 rfl).trans er1))) ?_
    refine Tr.iconst (pc := 47) d_X7_add_47 (by decide) ?_
    refine Tr.iadd (pc := 48) d_X7_add_48 ?_
    refine Tr.tp (r1 + 1) ((w32_id (by omega)).trans (by omega)) ?_
    refine Tr.putfS (pc := 49) (P := St Tru ws_X7_add_2 as_X7_add_2 M0) d_X7_add_49 f_7_29 (by decide) (by decide) (ty_2 hS.1.1) (st_2_3 hS (by decide) (by omega) trivial) (fun M49 hS w49 => ?_)
    refine Tr.iload (pc := 52) (i := 4) d_X7_add_52 rfl ?_
    exact Tr.iret (pc := 54) d_X7_add_54 rfl ⟨hS, _, rfl, by omega, by omega⟩

def ws_X7_add_2_w1 : List (Int × Int) := [(2, 3)]
def as_X7_add_2_w1 : List Int := [3, 4, 5]
def q_X7_add_2_w1 (M0 M' : Mem) (r : Option PV) : Prop := St Tru ws_X7_add_2_w1 as_X7_add_2_w1 M0 M' ∧ ∃ v : Int, r = some (0, v) ∧ (-1) ≤ v ∧ v ≤ (-1)
set_option maxRecDepth 100000 in
set_option maxHeartbeats 4000000 in
theorem sp_X7_add_2_w1 {l : Launch} {K : EC} {M0 : Mem} (hI : In Tru M0)  (a1 : Int) (ha1 : 0 ≤ a1 ∧ a1 ≤ 0) (a2 : Int) (ha2 : 0 ≤ a2 ∧ a2 ≤ 900) (a3 : Int) (ha3 : 0 ≤ a3 ∧ a3 ≤ 0) (a4 : Int) (ha4 : (-1) ≤ a4 ∧ a4 ≤ (-1))  : Tr l K 0 mX7_add 0 [(0, (2, 2)), (1, (0, a1)), (2, (0, a2)), (3, (0, a3)), (4, (0, a4))] [] M0 (q_X7_add_2_w1 M0) := by
  have hS : St Tru ws_X7_add_2_w1 as_X7_add_2_w1 M0 M0 := St.rf hI
  refine Tr.aload_n (pc := 0) (i := 0) d_X7_add_0 rfl rfl ?_
  refine Tr.getf (pc := 1) d_X7_add_1 f_7_29 (by decide) (by decide) (ty_2 hS.1.1) ?_
  refine Tr.gen (P := fun v => 0 ≤ v ∧ v ≤ 901) (ir_2_3 hS.1.2.1) (fun r1 er1 br1 => ?_)
  refine Tr.aload_n (pc := 4) (i := 0) d_X7_add_4 rfl rfl ?_
  refine Tr.getf (pc := 5) d_X7_add_5 f_7_9 (by decide) (by decide) (ty_2 hS.1.1) ?_
  refine Tr.tp 3 (fx_2_0 hS.1.1) ?_
  refine Tr.alen (pc := 8) d_X7_add_8 (ty_3 hS.1.1) (by decide) (by decide) ?_
  refine Tr.tp 901 rfl ?_
  refine Tr.icmp_ge (pc := 9) (tgt := 52) d_X7_add_9 rfl (fun c9 => ?_) (fun c9 => ?_)
  · refine Tr.iload (pc := 52) (i := 4) d_X7_add_52 rfl ?_
    refine Tr.tp (-1) (by omega) ?_
    exact Tr.iret (pc := 54) d_X7_add_54 rfl ⟨hS, _, rfl, by omega, by omega⟩
  · refine Tr.aload_n (pc := 12) (i := 0) d_X7_add_12 rfl rfl ?_
    refine Tr.getf (pc := 13) d_X7_add_13 f_7_9 (by decide) (by decide) (ty_2 hS.1.1) ?_
    refine Tr.tp 3 (fx_2_0 hS.1.1) ?_
    refine Tr.aload_n (pc := 16) (i := 0) d_X7_add_16 rfl rfl ?_
    refine Tr.getf (pc := 17) d_X7_add_17 f_7_29 (by decide) (by decide) (ty_2 hS.1.1) ?_
    refine Tr.tp r1 er1 ?_
    refine Tr.iload_n (pc := 20) (i := 1) d_X7_add_20 rfl rfl ?_
    refine Tr.tp 0 (by omega) ?_
    refine Tr.iastS (pc := 21) (P := St Tru ws_X7_add_2_w1 as_X7_add_2_w1 M0) d_X7_add_21 (ty_3 hS.1.1) (by omega) (by omega) (sa_3 hS (by decide) (by omega) trivial) (fun M21 hS w21 => ?_)
    refine Tr.aload_n (pc := 22) (i := 0) d_X7_add_22 rfl rfl ?_
    refine Tr.getf (pc := 23) d_X7_add_23 f_7_15 (by decide) (by decide) (ty_2 hS.1.1) ?_
    refine Tr.tp 4 (fx_2_1 hS.1.1) ?_
    refine Tr.aload_n (pc := 26) (i := 0) d_X7_add_26 rfl rfl ?_
    refine Tr.getf (pc := 27) d_X7_add_27 f_7_29 (by decide) (by decide) (ty_2 hS.1.1) ?_
    refine Tr.tp r1 ((Wr.b w21 rfl).trans er1) ?_
    refine Tr.iload_n (pc := 30) (i := 2) d_X7_add_30 rfl rfl ?_
    refine Tr.iastS (pc := 31) (P := St Tru ws_X7_add_2_w1 as_X7_add_2_w1 M0) d_X7_add_31 (ty_4 hS.1.1) (by omega) (by omega) (sa_4 hS (by decide) (by omega) trivial) (fun M31 hS w31 => ?_)
    refine Tr.aload_n (pc := 32) (i := 0) d_X7_add_32 rfl rfl ?_
    refine Tr.getf (pc := 33) d_X7_add_33 f_7_18 (by decide) (by decide) (ty_2 hS.1.1) ?_
    refine Tr.tp 5 (fx_2_2 hS.1.1) ?_
    refine Tr.aload_n (pc := 36) (i := 0) d_X7_add_36 rfl rfl ?_
    refine Tr.getf (pc := 37) d_X7_add_37 f_7_29 (by decide) (by decide) (ty_2 hS.1.1) ?_
    refine Tr.tp r1 ((Wr.b w31 rfl).trans ((Wr.b w21 rfl).trans er1)) ?_
    refine Tr.iload_n (pc := 40) (i := 3) d_X7_add_40 rfl rfl ?_
    refine Tr.tp 0 (by omega) ?_
    refine Tr.iastS (pc := 41) (P := St Tru ws_X7_add_2_w1 as_X7_add_2_w1 M0) d_X7_add_41 (ty_5 hS.1.1) (by omega) (by omega) (sa_5 hS (by decide) (by omega) trivial) (fun M41 hS w41 => ?_)
    refine Tr.aload_n (pc := 42) (i := 0) d_X7_add_42 rfl rfl ?_
    refine Tr.dup (pc := 43) d_X7_add_43 ne21 ?_
    refine Tr.getf (pc := 44) d_X7_add_44 f_7_29 (by decide) (by decide) (ty_2 hS.1.1) ?_
    refine Tr.tp r1 ((Wr.b w41 rfl).trans ((Wr.b w31 rfl).trans ((Wr.b w21 rfl).trans er1))) ?_
    refine Tr.iconst (pc := 47) d_X7_add_47 (by decide) ?_
    refine Tr.iadd (pc := 48) d_X7_add_48 ?_
    refine Tr.tp (r1 + 1) ((w32_id (by omega)).trans (by omega)) ?_
    refine Tr.putfS (pc := 49) (P := St Tru ws_X7_add_2_w1 as_X7_add_2_w1 M0) d_X7_add_49 f_7_29 (by decide) (by decide) (ty_2 hS.1.1) (st_2_3 hS (by decide) (by omega) trivial) (fun M49 hS w49 => ?_)
    refine Tr.iload (pc := 52) (i := 4) d_X7_add_52 rfl ?_
    refine Tr.tp (-1) (by omega) ?_
    exact Tr.iret (pc := 54) d_X7_add_54 rfl ⟨hS, _, rfl, by omega, by omega⟩

def ws_X7_add_2_w2 : List (Int × Int) := [(2, 3)]
def as_X7_add_2_w2 : List Int := [3, 4, 5]
def q_X7_add_2_w2 (M0 M' : Mem) (r : Option PV) : Prop := St Tru ws_X7_add_2_w2 as_X7_add_2_w2 M0 M' ∧ ∃ v : Int, r = some (0, v) ∧ (-1) ≤ v ∧ v ≤ (-1)
set_option maxRecDepth 100000 in
set_option maxHeartbeats 4000000 in
theorem sp_X7_add_2_w2 {l : Launch} {K : EC} {M0 : Mem} (hI : In Tru M0)  (a1 : Int) (ha1 : 1 ≤ a1 ∧ a1 ≤ 1) (a2 : Int) (ha2 : 0 ≤ a2 ∧ a2 ≤ 899) (a3 : Int) (ha3 : 0 ≤ a3 ∧ a3 ≤ 0) (a4 : Int) (ha4 : (-1) ≤ a4 ∧ a4 ≤ (-1))  : Tr l K 0 mX7_add 0 [(0, (2, 2)), (1, (0, a1)), (2, (0, a2)), (3, (0, a3)), (4, (0, a4))] [] M0 (q_X7_add_2_w2 M0) := by
  have hS : St Tru ws_X7_add_2_w2 as_X7_add_2_w2 M0 M0 := St.rf hI
  refine Tr.aload_n (pc := 0) (i := 0) d_X7_add_0 rfl rfl ?_
  refine Tr.getf (pc := 1) d_X7_add_1 f_7_29 (by decide) (by decide) (ty_2 hS.1.1) ?_
  refine Tr.gen (P := fun v => 0 ≤ v ∧ v ≤ 901) (ir_2_3 hS.1.2.1) (fun r1 er1 br1 => ?_)
  refine Tr.aload_n (pc := 4) (i := 0) d_X7_add_4 rfl rfl ?_
  refine Tr.getf (pc := 5) d_X7_add_5 f_7_9 (by decide) (by decide) (ty_2 hS.1.1) ?_
  refine Tr.tp 3 (fx_2_0 hS.1.1) ?_
  refine Tr.alen (pc := 8) d_X7_add_8 (ty_3 hS.1.1) (by decide) (by decide) ?_
  refine Tr.tp 901 rfl ?_
  refine Tr.icmp_ge (pc := 9) (tgt := 52) d_X7_add_9 rfl (fun c9 => ?_) (fun c9 => ?_)
  · refine Tr.iload (pc := 52) (i := 4) d_X7_add_52 rfl ?_
    refine Tr.tp (-1) (by omega) ?_
    exact Tr.iret (pc := 54) d_X7_add_54 rfl ⟨hS, _, rfl, by omega, by omega⟩
  · refine Tr.aload_n (pc := 12) (i := 0) d_X7_add_12 rfl rfl ?_
    refine Tr.getf (pc := 13) d_X7_add_13 f_7_9 (by decide) (by decide) (ty_2 hS.1.1) ?_
    refine Tr.tp 3 (fx_2_0 hS.1.1) ?_
    refine Tr.aload_n (pc := 16) (i := 0) d_X7_add_16 rfl rfl ?_
    refine Tr.getf (pc := 17) d_X7_add_17 f_7_29 (by decide) (by decide) (ty_2 hS.1.1) ?_
    refine Tr.tp r1 er1 ?_
    refine Tr.iload_n (pc := 20) (i := 1) d_X7_add_20 rfl rfl ?_
    refine Tr.tp 1 (by omega) ?_
    refine Tr.iastS (pc := 21) (P := St Tru ws_X7_add_2_w2 as_X7_add_2_w2 M0) d_X7_add_21 (ty_3 hS.1.1) (by omega) (by omega) (sa_3 hS (by decide) (by omega) trivial) (fun M21 hS w21 => ?_)
    refine Tr.aload_n (pc := 22) (i := 0) d_X7_add_22 rfl rfl ?_
    refine Tr.getf (pc := 23) d_X7_add_23 f_7_15 (by decide) (by decide) (ty_2 hS.1.1) ?_
    refine Tr.tp 4 (fx_2_1 hS.1.1) ?_
    refine Tr.aload_n (pc := 26) (i := 0) d_X7_add_26 rfl rfl ?_
    refine Tr.getf (pc := 27) d_X7_add_27 f_7_29 (by decide) (by decide) (ty_2 hS.1.1) ?_
    refine Tr.tp r1 ((Wr.b w21 rfl).trans er1) ?_
    refine Tr.iload_n (pc := 30) (i := 2) d_X7_add_30 rfl rfl ?_
    refine Tr.iastS (pc := 31) (P := St Tru ws_X7_add_2_w2 as_X7_add_2_w2 M0) d_X7_add_31 (ty_4 hS.1.1) (by omega) (by omega) (sa_4 hS (by decide) (by omega) trivial) (fun M31 hS w31 => ?_)
    refine Tr.aload_n (pc := 32) (i := 0) d_X7_add_32 rfl rfl ?_
    refine Tr.getf (pc := 33) d_X7_add_33 f_7_18 (by decide) (by decide) (ty_2 hS.1.1) ?_
    refine Tr.tp 5 (fx_2_2 hS.1.1) ?_
    refine Tr.aload_n (pc := 36) (i := 0) d_X7_add_36 rfl rfl ?_
    refine Tr.getf (pc := 37) d_X7_add_37 f_7_29 (by decide) (by decide) (ty_2 hS.1.1) ?_
    refine Tr.tp r1 ((Wr.b w31 rfl).trans ((Wr.b w21 rfl).trans er1)) ?_
    refine Tr.iload_n (pc := 40) (i := 3) d_X7_add_40 rfl rfl ?_
    refine Tr.tp 0 (by omega) ?_
    refine Tr.iastS (pc := 41) (P := St Tru ws_X7_add_2_w2 as_X7_add_2_w2 M0) d_X7_add_41 (ty_5 hS.1.1) (by omega) (by omega) (sa_5 hS (by decide) (by omega) trivial) (fun M41 hS w41 => ?_)
    refine Tr.aload_n (pc := 42) (i := 0) d_X7_add_42 rfl rfl ?_
    refine Tr.dup (pc := 43) d_X7_add_43 ne21 ?_
    refine Tr.getf (pc := 44) d_X7_add_44 f_7_29 (by decide) (by decide) (ty_2 hS.1.1) ?_
    refine Tr.tp r1 ((Wr.b w41 rfl).trans ((Wr.b w31 rfl).trans ((Wr.b w21 rfl).trans er1))) ?_
    refine Tr.iconst (pc := 47) d_X7_add_47 (by decide) ?_
    refine Tr.iadd (pc := 48) d_X7_add_48 ?_
    refine Tr.tp (r1 + 1) ((w32_id (by omega)).trans (by omega)) ?_
    refine Tr.putfS (pc := 49) (P := St Tru ws_X7_add_2_w2 as_X7_add_2_w2 M0) d_X7_add_49 f_7_29 (by decide) (by decide) (ty_2 hS.1.1) (st_2_3 hS (by decide) (by omega) trivial) (fun M49 hS w49 => ?_)
    refine Tr.iload (pc := 52) (i := 4) d_X7_add_52 rfl ?_
    refine Tr.tp (-1) (by omega) ?_
    exact Tr.iret (pc := 54) d_X7_add_54 rfl ⟨hS, _, rfl, by omega, by omega⟩

def ws_X7_add_2_w3 : List (Int × Int) := [(2, 3)]
def as_X7_add_2_w3 : List Int := [3, 4, 5]
def q_X7_add_2_w3 (M0 M' : Mem) (r : Option PV) : Prop := St Tru ws_X7_add_2_w3 as_X7_add_2_w3 M0 M' ∧ ∃ v : Int, r = some (0, v) ∧ 0 ≤ v ∧ v ≤ 900
set_option maxRecDepth 100000 in
set_option maxHeartbeats 4000000 in
theorem sp_X7_add_2_w3 {l : Launch} {K : EC} {M0 : Mem} (hI : In Tru M0)  (a1 : Int) (ha1 : 3 ≤ a1 ∧ a1 ≤ 5) (a2 : Int) (ha2 : 0 ≤ a2 ∧ a2 ≤ 899) (a3 : Int) (ha3 : (-2147483648) ≤ a3 ∧ a3 ≤ 2147483647) (a4 : Int) (ha4 : 0 ≤ a4 ∧ a4 ≤ 900)  : Tr l K 0 mX7_add 0 [(0, (2, 2)), (1, (0, a1)), (2, (0, a2)), (3, (0, a3)), (4, (0, a4))] [] M0 (q_X7_add_2_w3 M0) := by
  have hS : St Tru ws_X7_add_2_w3 as_X7_add_2_w3 M0 M0 := St.rf hI
  refine Tr.aload_n (pc := 0) (i := 0) d_X7_add_0 rfl rfl ?_
  refine Tr.getf (pc := 1) d_X7_add_1 f_7_29 (by decide) (by decide) (ty_2 hS.1.1) ?_
  refine Tr.gen (P := fun v => 0 ≤ v ∧ v ≤ 901) (ir_2_3 hS.1.2.1) (fun r1 er1 br1 => ?_)
  refine Tr.aload_n (pc := 4) (i := 0) d_X7_add_4 rfl rfl ?_
  refine Tr.getf (pc := 5) d_X7_add_5 f_7_9 (by decide) (by decide) (ty_2 hS.1.1) ?_
  refine Tr.tp 3 (fx_2_0 hS.1.1) ?_
  refine Tr.alen (pc := 8) d_X7_add_8 (ty_3 hS.1.1) (by decide) (by decide) ?_
  refine Tr.tp 901 rfl ?_
  refine Tr.icmp_ge (pc := 9) (tgt := 52) d_X7_add_9 rfl (fun c9 => ?_) (fun c9 => ?_)
  · refine Tr.iload (pc := 52) (i := 4) d_X7_add_52 rfl ?_
    exact Tr.iret (pc := 54) d_X7_add_54 rfl ⟨hS, _, rfl, by omega, by omega⟩
  · refine Tr.aload_n (pc := 12) (i := 0) d_X7_add_12 rfl rfl ?_
    refine Tr.getf (pc := 13) d_X7_add_13 f_7_9 (by decide) (by decide) (ty_2 hS.1.1) ?_
    refine Tr.tp 3 (fx_2_0 hS.1.1) ?_
    refine Tr.aload_n (pc := 16) (i := 0) d_X7_add_16 rfl rfl ?_
    refine Tr.getf (pc := 17) d_X7_add_17 f_7_29 (by decide) (by decide) (ty_2 hS.1.1) ?_
    refine Tr.tp r1 er1 ?_
    refine Tr.iload_n (pc := 20) (i := 1) d_X7_add_20 rfl rfl ?_
    refine Tr.iastS (pc := 21) (P := St Tru ws_X7_add_2_w3 as_X7_add_2_w3 M0) d_X7_add_21 (ty_3 hS.1.1) (by omega) (by omega) (sa_3 hS (by decide) (by omega) trivial) (fun M21 hS w21 => ?_)
    refine Tr.aload_n (pc := 22) (i := 0) d_X7_add_22 rfl rfl ?_
    refine Tr.getf (pc := 23) d_X7_add_23 f_7_15 (by decide) (by decide) (ty_2 hS.1.1) ?_
    refine Tr.tp 4 (fx_2_1 hS.1.1) ?_
    refine Tr.aload_n (pc := 26) (i := 0) d_X7_add_26 rfl rfl ?_
    refine Tr.getf (pc := 27) d_X7_add_27 f_7_29 (by decide) (by decide) (ty_2 hS.1.1) ?_
    refine Tr.tp r1 ((Wr.b w21 rfl).trans er1) ?_
    refine Tr.iload_n (pc := 30) (i := 2) d_X7_add_30 rfl rfl ?_
    refine Tr.iastS (pc := 31) (P := St Tru ws_X7_add_2_w3 as_X7_add_2_w3 M0) d_X7_add_31 (ty_4 hS.1.1) (by omega) (by omega) (sa_4 hS (by decide) (by omega) trivial) (fun M31 hS w31 => ?_)
    refine Tr.aload_n (pc := 32) (i := 0) d_X7_add_32 rfl rfl ?_
    refine Tr.getf (pc := 33) d_X7_add_33 f_7_18 (by decide) (by decide) (ty_2 hS.1.1) ?_
    refine Tr.tp 5 (fx_2_2 hS.1.1) ?_
    refine Tr.aload_n (pc := 36) (i := 0) d_X7_add_36 rfl rfl ?_
    refine Tr.getf (pc := 37) d_X7_add_37 f_7_29 (by decide) (by decide) (ty_2 hS.1.1) ?_
    refine Tr.tp r1 ((Wr.b w31 rfl).trans ((Wr.b w21 rfl).trans er1)) ?_
    refine Tr.iload_n (pc := 40) (i := 3) d_X7_add_40 rfl rfl ?_
    refine Tr.iastS (pc := 41) (P := St Tru ws_X7_add_2_w3 as_X7_add_2_w3 M0) d_X7_add_41 (ty_5 hS.1.1) (by omega) (by omega) (sa_5 hS (by decide) (by omega) trivial) (fun M41 hS w41 => ?_)
    refine Tr.aload_n (pc := 42) (i := 0) d_X7_add_42 rfl rfl ?_
    refine Tr.dup (pc := 43) d_X7_add_43 ne21 ?_
    refine Tr.getf (pc := 44) d_X7_add_44 f_7_29 (by decide) (by decide) (ty_2 hS.1.1) ?_
    refine Tr.tp r1 ((Wr.b w41 rfl).trans ((Wr.b w31 rfl).trans ((Wr.b w21 rfl).trans er1))) ?_
    refine Tr.iconst (pc := 47) d_X7_add_47 (by decide) ?_
    refine Tr.iadd (pc := 48) d_X7_add_48 ?_
    refine Tr.tp (r1 + 1) ((w32_id (by omega)).trans (by omega)) ?_
    refine Tr.putfS (pc := 49) (P := St Tru ws_X7_add_2_w3 as_X7_add_2_w3 M0) d_X7_add_49 f_7_29 (by decide) (by decide) (ty_2 hS.1.1) (st_2_3 hS (by decide) (by omega) trivial) (fun M49 hS w49 => ?_)
    refine Tr.iload (pc := 52) (i := 4) d_X7_add_52 rfl ?_
    exact Tr.iret (pc := 54) d_X7_add_54 rfl ⟨hS, _, rfl, by omega, by omega⟩

def ws_X7_takeNumber_2 : List (Int × Int) := [(2, 3)]
def as_X7_takeNumber_2 : List Int := [3, 4, 5]
def q_X7_takeNumber_2 (M0 M' : Mem) (r : Option PV) : Prop := St Tru ws_X7_takeNumber_2 as_X7_takeNumber_2 M0 M' ∧ ∃ v : Int, r = some (0, v) ∧ (-1) ≤ v ∧ v ≤ 900
set_option maxRecDepth 100000 in
set_option maxHeartbeats 4000000 in
theorem sp_X7_takeNumber_2 {l : Launch} {K : EC} {M0 : Mem} (hI : In Tru M0) (en_2_4 : rd M0 2 4 = 1) (a1 : Int) (ha1 : 0 ≤ a1 ∧ a1 ≤ 899)  : Tr l K 1 mX7_takeNumber 0 [(0, (2, 2)), (1, (0, a1))] [] M0 (q_X7_takeNumber_2 M0) := by
  have hS : St Tru ws_X7_takeNumber_2 as_X7_takeNumber_2 M0 M0 := St.rf hI
  refine Tr.iload_n (pc := 0) (i := 1) d_X7_takeNumber_0 rfl rfl ?_
  refine Tr.istore_n (pc := 1) (i := 2) (ls2 := [(2, (0, a1)), (0, (2, 2)), (1, (0, a1))]) d_X7_takeNumber_1 rfl (by decide) rfl ?_
  refine Tr.iconst (pc := 2) d_X7_takeNumber_2 (by decide) ?_
  refine Tr.istore_n (pc := 3) (i := 3) (ls2 := [(3, (0, 0)), (2, (0, a1)), (0, (2, 2)), (1, (0, a1))]) d_X7_takeNumber_3 rfl (by decide) rfl ?_
  have J4 : ∀ (n4 : Nat) (M : Mem) (p4_2 p4_3 : Int), St Tru ws_X7_takeNumber_2 as_X7_takeNumber_2 M0 M → (0 ≤ p4_2 ∧ p4_2 ≤ 900) → ((-2147483648) ≤ p4_3 ∧ p4_3 ≤ 2147483647) → (900 - p4_2).toNat < n4 → Tr l K 1 mX7_takeNumber 4 [(0, (2, 2)), (1, (0, a1)), (2, (0, p4_2)), (3, (0, p4_3))] [] M (q_X7_takeNumber_2 M0) := by
    intro n4
    induction n4 with
    | zero => intro M p4_2 p4_3 hS bp4_2 bp4_3  hm4; exact absurd hm4 (Nat.not_lt_zero _)
    | succ n4 J4 =>
      intro M p4_2 p4_3 hS bp4_2 bp4_3  hm4
      refine Tr.iload_n (pc := 4) (i := 2) d_X7_takeNumber_4 rfl rfl ?_
      refine Tr.aload_n (pc := 5) (i := 0) d_X7_takeNumber_5 rfl rfl ?_
      refine Tr.getf (pc := 6) d_X7_takeNumber_6 f_7_25 (by decide) (by decide) (ty_2 hS.1.1) ?_
      refine Tr.gen (P := fun v => 0 ≤ v ∧ v ≤ 900) (ir_2_5 hS.1.2.1) (fun r6 er6 br6 => ?_)
      have J52 : ∀ (M : Mem), St Tru ws_X7_takeNumber_2 as_X7_takeNumber_2 M0 M → rd M 2 5 = r6 → Tr l K 1 mX7_takeNumber 52 [(0, (2, 2)), (1, (0, a1)), (2, (0, p4_2)), (3, (0, p4_3))] [] M (q_X7_takeNumber_2 M0) := by
        intro M  hS  k52_2_5
        refine Tr.iload_n (pc := 52) (i := 2) d_X7_takeNumber_52 rfl rfl ?_
        refine Tr.iload_n (pc := 53) (i := 1) d_X7_takeNumber_53 rfl rfl ?_
        refine Tr.isub (pc := 54) d_X7_takeNumber_54 ?_
        refine Tr.tp (-a1 + p4_2) ((w32_id (by omega)).trans (by omega)) ?_
        refine Tr.iconst (pc := 55) d_X7_takeNumber_55 (by decide) ?_
        refine Tr.icmp_le (pc := 56) (tgt := 70) d_X7_takeNumber_56 rfl (fun c56 => ?_) (fun c56 => ?_)
        · refine Tr.aload_n (pc := 70) (i := 0) d_X7_takeNumber_70 rfl rfl ?_
          refine Tr.iconst (pc := 71) d_X7_takeNumber_71 (by decide) ?_
          refine Tr.iload_n (pc := 72) (i := 1) d_X7_takeNumber_72 rfl rfl ?_
          refine Tr.iload_n (pc := 73) (i := 3) d_X7_takeNumber_73 rfl rfl ?_
          refine Tr.iload_n (pc := 74) (i := 2) d_X7_takeNumber_74 rfl rfl ?_
          refine Tr.callV (pc := 75) (as := [_, _, _, _]) d_X7_takeNumber_75 s_7_40 ok_X7_add rfl rfl (Nat.le_of_ble_eq_true rfl) (Nat.le_of_ble_eq_true rfl) (by decide) (ty_2 hS.1.1) ?_
          refine Tr.imp (Tr.deep (by decide) (sp_X7_add_2_w3 hS.1 4 (by omega) a1 (by omega) p4_3 (by omega) p4_2 (by omega))) ?_
          rintro M75 _ ⟨h75, r75, rfl, lr75, ur75⟩
          have hS := St.tr hS h75 (by decide) (by decide)
          refine Tr.sc [(0, r75)] rfl ?_
          exact Tr.iret (pc := 78) d_X7_takeNumber_78 rfl ⟨hS, _, rfl, by omega, by omega⟩
        · refine Tr.aload_n (pc := 59) (i := 0) d_X7_takeNumber_59 rfl rfl ?_
          refine Tr.iconst (pc := 60) d_X7_takeNumber_60 (by decide) ?_
          refine Tr.iload_n (pc := 61) (i := 1) d_X7_takeNumber_61 rfl rfl ?_
          refine Tr.iconst (pc := 62) d_X7_takeNumber_62 (by decide) ?_
          refine Tr.iadd (pc := 63) d_X7_takeNumber_63 ?_
          refine Tr.tp (a1 + 4) ((w32_id (by omega)).trans (by omega)) ?_
          refine Tr.iconst (pc := 64) d_X7_takeNumber_64 (by decide) ?_
          refine Tr.iconst (pc := 65) d_X7_takeNumber_65 (by decide) ?_
          refine Tr.callV (pc := 66) (as := [_, _, _, _]) d_X7_takeNumber_66 s_7_40 ok_X7_add rfl rfl (Nat.le_of_ble_eq_true rfl) (Nat.le_of_ble_eq_true rfl) (by decide) (ty_2 hS.1.1) ?_
          refine Tr.imp (Tr.deep (by decide) (sp_X7_add_2_w2 hS.1 1 (by omega) (a1 + 4) (by omega) 0 (by omega) (-1) (by omega))) ?_
          rintro M66 _ ⟨h66, r66, rfl, lr66, ur66⟩
          have hS := St.tr hS h66 (by decide) (by decide)
          refine Tr.sc [(0, r66)] rfl ?_
          exact Tr.iret (pc := 69) d_X7_takeNumber_69 rfl ⟨hS, _, rfl, by omega, by omega⟩
      refine Tr.icmp_ge (pc := 9) (tgt := 52) d_X7_takeNumber_9 rfl (fun c9 => ?_) (fun c9 => ?_)
      · refine Tr.pick [0, 1, 2, 3] (ls2 := [(0, (2, 2)), (1, (0, a1)), (2, (0, p4_2)), (3, (0, p4_3))]) rfl ?_
        exact J52 _ hS er6
      · refine Tr.iload_n (pc := 12) (i := 2) d_X7_takeNumber_12 rfl rfl ?_
        refine Tr.iload_n (pc := 13) (i := 1) d_X7_takeNumber_13 rfl rfl ?_
        refine Tr.iconst (pc := 14) d_X7_takeNumber_14 (by decide) ?_
        refine Tr.iadd (pc := 15) d_X7_takeNumber_15 ?_
        refine Tr.tp (a1 + 4) ((w32_id (by omega)).trans (by omega)) ?_
        refine Tr.icmp_gt (pc := 16) (tgt := 52) d_X7_takeNumber_16 rfl (fun c16 => ?_) (fun c16 => ?_)
        · refine Tr.pick [0, 1, 2, 3] (ls2 := [(0, (2, 2)), (1, (0, a1)), (2, (0, p4_2)), (3, (0, p4_3))]) rfl ?_
          exact J52 _ hS er6
        · refine Tr.aload_n (pc := 19) (i := 0) d_X7_takeNumber_19 rfl rfl ?_
          refine Tr.getf (pc := 20) d_X7_takeNumber_20 f_7_21 (by decide) (by decide) (ty_2 hS.1.1) ?_
          refine Tr.tp 1 ((St.kp hS (by decide) (by decide) (by decide)).trans en_2_4) ?_
          refine Tr.iload_n (pc := 23) (i := 2) d_X7_takeNumber_23 rfl rfl ?_
          refine Tr.bald (pc := 24) d_X7_takeNumber_24 (ty_1 hS.1.1) (by omega) (by omega) ?_
          refine Tr.gen (P := fun v => (-128) ≤ v ∧ v ≤ 127) (ar_1 hS.1.2.1 _) (fun r24 er24 br24 => ?_)
          refine Tr.callS (pc := 25) (as := [_]) d_X7_takeNumber_25 s_7_48 ok_X7_isDigit rfl rfl (Nat.le_of_ble_eq_true rfl) (Nat.le_of_ble_eq_true rfl) ?_
          refine Tr.imp (Tr.deep (by decide) (sp_X7_isDigit hS.1 r24 (by omega))) ?_
          rintro M25 _ ⟨h25, r25, rfl, lr25, ur25⟩
          have hS := St.tr hS h25 (by decide) (by decide)
          refine Tr.sc [(0, r25)] rfl ?_
          refine Tr.if_eq (pc := 28) (tgt := 52) d_X7_takeNumber_28 rfl (fun c28 => ?_) (fun c28 => ?_)
          · refine Tr.pick [0, 1, 2, 3] (ls2 := [(0, (2, 2)), (1, (0, a1)), (2, (0, p4_2)), (3, (0, p4_3))]) rfl ?_
            exact J52 _ hS ((St.kp h25 (by decide) (by decide) (by decide)).trans er6)
          · refine Tr.iload_n (pc := 31) (i := 3) d_X7_takeNumber_31 rfl rfl ?_
            refine Tr.bipush (pc := 32) d_X7_takeNumber_32 rfl (by decide) ?_
            refine Tr.imul (pc := 34) d_X7_takeNumber_34 ?_
            refine Tr.gen (P := fun v => (-2147483648) ≤ v ∧ v ≤ 2147483647) (w32_b _) (fun r34 er34 br34 => ?_)
            refine Tr.aload_n (pc := 35) (i := 0) d_X7_takeNumber_35 rfl rfl ?_
            refine Tr.getf (pc := 36) d_X7_takeNumber_36 f_7_21 (by decide) (by decide) (ty_2 hS.1.1) ?_
            refine Tr.tp 1 ((St.kp hS (by decide) (by decide) (by decide)).trans en_2_4) ?_
            refine Tr.iload_n (pc := 39) (i := 2) d_X7_takeNumber_39 rfl rfl ?_
            refine Tr.bald (pc := 40) d_X7_takeNumber_40 (ty_1 hS.1.1) (by omega) (by omega) ?_
            refine Tr.tp r24 ((St.ka h25 (by decide) (by decide) (by decide)).trans er24) ?_
            refine Tr.iadd (pc := 41) d_X7_takeNumber_41 ?_
            refine Tr.gen (P := fun v => (-2147483648) ≤ v ∧ v ≤ 2147483647) (w32_b _) (fun r41 er41 br41 => ?_)
            refine Tr.bipush (pc := 42) d_X7_takeNumber_42 rfl (by decide) ?_
            refine Tr.isub (pc := 44) d_X7_takeNumber_44 ?_
            refine Tr.gen (P := fun v => (-2147483648) ≤ v ∧ v ≤ 2147483647) (w32_b _) (fun r44 er44 br44 => ?_)
            refine Tr.istore_n (pc := 45) (i := 3) (ls2 := [(3, (0, r44)), (0, (2, 2)), (1, (0, a1)), (2, (0, p4_2))]) d_X7_takeNumber_45 rfl (by decide) rfl ?_
            refine Tr.iincV (pc := 46) (n2 := (p4_2 + 1)) (ls2 := [(2, (0, (p4_2 + 1))), (3, (0, r44)), (0, (2, 2)), (1, (0, a1))]) d_X7_takeNumber_46 rfl (by decide) ((w32_id (by omega)).trans (by omega)) rfl ?_
            refine Tr.goto (pc := 49) (tgt := 4) d_X7_takeNumber_49 rfl ?_
            refine Tr.pick [2, 3, 0, 1] (ls2 := [(0, (2, 2)), (1, (0, a1)), (2, (0, (p4_2 + 1))), (3, (0, r44))]) rfl ?_
            exact J4 _ _ _ hS (by omega) (by omega) (by omega)
  refine Tr.pick [2, 3, 1, 0] (ls2 := [(0, (2, 2)), (1, (0, a1)), (2, (0, a1)), (3, (0, 0))]) rfl ?_
  exact J4 _ _ _ _ hS (by omega) (by omega) (Nat.lt_succ_self _)

def ws_J3_checkIndex_8e157_xq : List (Int × Int) := []
def as_J3_checkIndex_8e157_xq : List Int := []
def q_J3_checkIndex_8e157_xq (M0 M' : Mem) (r : Option PV) : Prop := St Tru ws_J3_checkIndex_8e157_xq as_J3_checkIndex_8e157_xq M0 M' ∧ ∃ v : Int, r = some (0, v) ∧ 0 ≤ v ∧ v ≤ 161
set_option maxRecDepth 100000 in
set_option maxHeartbeats 4000000 in
theorem sp_J3_checkIndex_8e157_xq {l : Launch} {K : EC} {M0 : Mem} {xq : Int} (hI : In Tru M0)  (a0 : Int) (ha0 : 0 ≤ a0 ∧ a0 ≤ 161) (a1 : Int) (ha1 : 162 ≤ a1 ∧ a1 ≤ 162)  : Tr l K 0 mJ3_checkIndex_8e157 0 [(0, (0, a0)), (1, (0, a1)), (2, (2, xq))] [] M0 (q_J3_checkIndex_8e157_xq M0) := by
  have hS : St Tru ws_J3_checkIndex_8e157_xq as_J3_checkIndex_8e157_xq M0 M0 := St.rf hI
  refine Tr.iload_n (pc := 0) (i := 0) d_J3_checkIndex_8e157_0 rfl rfl ?_
  refine Tr.if_lt (pc := 1) (tgt := 9) d_J3_checkIndex_8e157_1 rfl (fun hc => absurd hc (by omega)) (fun _ => ?_)
  refine Tr.iload_n (pc := 4) (i := 0) d_J3_checkIndex_8e157_4 rfl rfl ?_
  refine Tr.iload_n (pc := 5) (i := 1) d_J3_checkIndex_8e157_5 rfl rfl ?_
  refine Tr.tp 162 (by omega) ?_
  refine Tr.icmp_lt (pc := 6) (tgt := 16) d_J3_checkIndex_8e157_6 rfl (fun _ => ?_) (fun hc => absurd (by omega) hc)
  refine Tr.iload_n (pc := 16) (i := 0) d_J3_checkIndex_8e157_16 rfl rfl ?_
  exact Tr.iret (pc := 17) d_J3_checkIndex_8e157_17 rfl ⟨hS, _, rfl, by omega, by omega⟩

def ws_X7_add_2_w4 : List (Int × Int) := [(2, 3)]
def as_X7_add_2_w4 : List Int := [3, 4, 5]
def q_X7_add_2_w4 (M0 M' : Mem) (r : Option PV) : Prop := St Tru ws_X7_add_2_w4 as_X7_add_2_w4 M0 M' ∧ ∃ v : Int, r = some (0, v) ∧ 0 ≤ v ∧ v ≤ 900
set_option maxRecDepth 100000 in
set_option maxHeartbeats 4000000 in
theorem sp_X7_add_2_w4 {l : Launch} {K : EC} {M0 : Mem} (hI : In Tru M0)  (a1 : Int) (ha1 : 2 ≤ a1 ∧ a1 ≤ 2) (a2 : Int) (ha2 : 0 ≤ a2 ∧ a2 ≤ 899) (a3 : Int) (ha3 : 0 ≤ a3 ∧ a3 ≤ 50) (a4 : Int) (ha4 : 0 ≤ a4 ∧ a4 ≤ 900)  : Tr l K 0 mX7_add 0 [(0, (2, 2)), (1, (0, a1)), (2, (0, a2)), (3, (0, a3)), (4, (0, a4))] [] M0 (q_X7_add_2_w4 M0) := by
  have hS : St Tru ws_X7_add_2_w4 as_X7_add_2_w4 M0 M0 := St.rf hI
  refine Tr.aload_n (pc := 0) (i := 0) d_X7_add_0 rfl rfl ?_
  refine Tr.getf (pc := 1) d_X7_add_1 f_7_29 (by decide) (by decide) (ty_2 hS.1.1) ?_
  refine Tr.gen (P := fun v => 0 ≤ v ∧ v ≤ 901) (ir_2_3 hS.1.2.1) (fun r1 er1 br1 => ?_)
  refine Tr.aload_n (pc := 4) (i := 0) d_X7_add_4 rfl rfl ?_
  refine Tr.getf (pc := 5) d_X7_add_5 f_7_9 (by decide) (by decide) (ty_2 hS.1.1) ?_
  refine Tr.tp 3 (fx_2_0 hS.1.1) ?_
  refine Tr.alen (pc := 8) d_X7_add_8 (ty_3 hS.1.1) (by decide) (by decide) ?_
  refine Tr.tp 901 rfl ?_
  refine Tr.icmp_ge (pc := 9) (tgt := 52) d_X7_add_9 rfl (fun c9 => ?_) (fun c9 => ?_)
  · refine Tr.iload (pc := 52) (i := 4) d_X7_add_52 rfl ?_
    exact Tr.iret (pc := 54) d_X7_add_54 rfl ⟨hS, _, rfl, by omega, by omega⟩
  · refine Tr.aload_n (pc := 12) (i := 0) d_X7_add_12 rfl rfl ?_
    refine Tr.getf (pc := 13) d_X7_add_13 f_7_9 (by decide) (by decide) (ty_2 hS.1.1) ?_
    refine Tr.tp 3 (fx_2_0 hS.1.1) ?_
    refine Tr.aload_n (pc := 16) (i := 0) d_X7_add_16 rfl rfl ?_
    refine Tr.getf (pc := 17) d_X7_add_17 f_7_29 (by decide) (by decide) (ty_2 hS.1.1) ?_
    refine Tr.tp r1 er1 ?_
    refine Tr.iload_n (pc := 20) (i := 1) d_X7_add_20 rfl rfl ?_
    refine Tr.tp 2 (by omega) ?_
    refine Tr.iastS (pc := 21) (P := St Tru ws_X7_add_2_w4 as_X7_add_2_w4 M0) d_X7_add_21 (ty_3 hS.1.1) (by omega) (by omega) (sa_3 hS (by decide) (by omega) trivial) (fun M21 hS w21 => ?_)
    refine Tr.aload_n (pc := 22) (i := 0) d_X7_add_22 rfl rfl ?_
    refine Tr.getf (pc := 23) d_X7_add_23 f_7_15 (by decide) (by decide) (ty_2 hS.1.1) ?_
    refine Tr.tp 4 (fx_2_1 hS.1.1) ?_
    refine Tr.aload_n (pc := 26) (i := 0) d_X7_add_26 rfl rfl ?_
    refine Tr.getf (pc := 27) d_X7_add_27 f_7_29 (by decide) (by decide) (ty_2 hS.1.1) ?_
    refine Tr.tp r1 ((Wr.b w21 rfl).trans er1) ?_
    refine Tr.iload_n (pc := 30) (i := 2) d_X7_add_30 rfl rfl ?_
    refine Tr.iastS (pc := 31) (P := St Tru ws_X7_add_2_w4 as_X7_add_2_w4 M0) d_X7_add_31 (ty_4 hS.1.1) (by omega) (by omega) (sa_4 hS (by decide) (by omega) trivial) (fun M31 hS w31 => ?_)
    refine Tr.aload_n (pc := 32) (i := 0) d_X7_add_32 rfl rfl ?_
    refine Tr.getf (pc := 33) d_X7_add_33 f_7_18 (by decide) (by decide) (ty_2 hS.1.1) ?_
    refine Tr.tp 5 (fx_2_2 hS.1.1) ?_
    refine Tr.aload_n (pc := 36) (i := 0) d_X7_add_36 rfl rfl ?_
    refine Tr.getf (pc := 37) d_X7_add_37 f_7_29 (by decide) (by decide) (ty_2 hS.1.1) ?_
    refine Tr.tp r1 ((Wr.b w31 rfl).trans ((Wr.b w21 rfl).trans er1)) ?_
    refine Tr.iload_n (pc := 40) (i := 3) d_X7_add_40 rfl rfl ?_
    refine Tr.iastS (pc := 41) (P := St Tru ws_X7_add_2_w4 as_X7_add_2_w4 M0) d_X7_add_41 (ty_5 hS.1.1) (by omega) (by omega) (sa_5 hS (by decide) (by omega) trivial) (fun M41 hS w41 => ?_)
    refine Tr.aload_n (pc := 42) (i := 0) d_X7_add_42 rfl rfl ?_
    refine Tr.dup (pc := 43) d_X7_add_43 ne21 ?_
    refine Tr.getf (pc := 44) d_X7_add_44 f_7_29 (by decide) (by decide) (ty_2 hS.1.1) ?_
    refine Tr.tp r1 ((Wr.b w41 rfl).trans ((Wr.b w31 rfl).trans ((Wr.b w21 rfl).trans er1))) ?_
    refine Tr.iconst (pc := 47) d_X7_add_47 (by decide) ?_
    refine Tr.iadd (pc := 48) d_X7_add_48 ?_
    refine Tr.tp (r1 + 1) ((w32_id (by omega)).trans (by omega)) ?_
    refine Tr.putfS (pc := 49) (P := St Tru ws_X7_add_2_w4 as_X7_add_2_w4 M0) d_X7_add_49 f_7_29 (by decide) (by decide) (ty_2 hS.1.1) (st_2_3 hS (by decide) (by omega) trivial) (fun M49 hS w49 => ?_)
    refine Tr.iload (pc := 52) (i := 4) d_X7_add_52 rfl ?_
    exact Tr.iret (pc := 54) d_X7_add_54 rfl ⟨hS, _, rfl, by omega, by omega⟩

def ws_X7_skipBlanks_2_w1 : List (Int × Int) := []
def as_X7_skipBlanks_2_w1 : List Int := []
def q_X7_skipBlanks_2_w1 (M0 M' : Mem) (r : Option PV) : Prop := St Tru ws_X7_skipBlanks_2_w1 as_X7_skipBlanks_2_w1 M0 M' ∧ ∃ v : Int, r = some (0, v) ∧ 0 ≤ v ∧ v ≤ 900
set_option maxRecDepth 100000 in
set_option maxHeartbeats 4000000 in
theorem sp_X7_skipBlanks_2_w1 {l : Launch} {K : EC} {M0 : Mem} (hI : In Tru M0) (en_2_4 : rd M0 2 4 = 1) (a1 : Int) (ha1 : 0 ≤ a1 ∧ a1 ≤ 900)  : Tr l K 0 mX7_skipBlanks 0 [(0, (2, 2)), (1, (0, a1))] [] M0 (q_X7_skipBlanks_2_w1 M0) := by
  have hS : St Tru ws_X7_skipBlanks_2_w1 as_X7_skipBlanks_2_w1 M0 M0 := St.rf hI
  refine Tr.iload_n (pc := 0) (i := 1) d_X7_skipBlanks_0 rfl rfl ?_
  refine Tr.istore_n (pc := 1) (i := 2) (ls2 := [(2, (0, a1)), (0, (2, 2)), (1, (0, a1))]) d_X7_skipBlanks_1 rfl (by decide) rfl ?_
  have J2 : ∀ (n2 : Nat) (M : Mem) (p2_2 : Int), St Tru ws_X7_skipBlanks_2_w1 as_X7_skipBlanks_2_w1 M0 M → (0 ≤ p2_2 ∧ p2_2 ≤ 900) → (900 - p2_2).toNat < n2 → Tr l K 0 mX7_skipBlanks 2 [(0, (2, 2)), (2, (0, p2_2))] [] M (q_X7_skipBlanks_2_w1 M0) := by
    intro n2
    induction n2 with
    | zero => intro M p2_2 hS bp2_2  hm2; exact absurd hm2 (Nat.not_lt_zero _)
    | succ n2 J2 =>
      intro M p2_2 hS bp2_2  hm2
      refine Tr.iload_n (pc := 2) (i := 2) d_X7_skipBlanks_2 rfl rfl ?_
      refine Tr.aload_n (pc := 3) (i := 0) d_X7_skipBlanks_3 rfl rfl ?_
      refine Tr.getf (pc := 4) d_X7_skipBlanks_4 f_7_25 (by decide) (by decide) (ty_2 hS.1.1) ?_
      refine Tr.gen (P := fun v => 0 ≤ v ∧ v ≤ 900) (ir_2_5 hS.1.2.1) (fun r4 er4 br4 => ?_)
      refine Tr.icmp_ge (pc := 7) (tgt := 38) d_X7_skipBlanks_7 rfl (fun c7 => ?_) (fun c7 => ?_)
      · refine Tr.iload_n (pc := 38) (i := 2) d_X7_skipBlanks_38 rfl rfl ?_
        exact Tr.iret (pc := 39) d_X7_skipBlanks_39 rfl ⟨hS, _, rfl, by omega, by omega⟩
      · refine Tr.aload_n (pc := 10) (i := 0) d_X7_skipBlanks_10 rfl rfl ?_
        refine Tr.getf (pc := 11) d_X7_skipBlanks_11 f_7_21 (by decide) (by decide) (ty_2 hS.1.1) ?_
        refine Tr.tp 1 ((St.kp hS (by decide) (by decide) (by decide)).trans en_2_4) ?_
        refine Tr.iload_n (pc := 14) (i := 2) d_X7_skipBlanks_14 rfl rfl ?_
        refine Tr.bald (pc := 15) d_X7_skipBlanks_15 (ty_1 hS.1.1) (by omega) (by omega) ?_
        refine Tr.gen (P := fun v => (-128) ≤ v ∧ v ≤ 127) (ar_1 hS.1.2.1 _) (fun r15 er15 br15 => ?_)
        refine Tr.bipush (pc := 16) d_X7_skipBlanks_16 rfl (by decide) ?_
        have J32 : ∀ (M : Mem), St Tru ws_X7_skipBlanks_2_w1 as_X7_skipBlanks_2_w1 M0 M → (10 ≤ r15 ∧ r15 ≤ 32) → rd M 1 p2_2 = r15 → rd M 2 5 = r4 → Tr l K 0 mX7_skipBlanks 32 [(0, (2, 2)), (2, (0, p2_2))] [] M (q_X7_skipBlanks_2_w1 M0) := by
          intro M  hS z32r15 k32_1_p2_210 k32_2_5
          refine Tr.iincV (pc := 32) (n2 := (p2_2 + 1)) (ls2 := [(2, (0, (p2_2 + 1))), (0, (2, 2))]) d_X7_skipBlanks_32 rfl (by decide) ((w32_id (by omega)).trans (by omega)) rfl ?_
          refine Tr.goto (pc := 35) (tgt := 2) d_X7_skipBlanks_35 rfl ?_
          refine Tr.pick [1, 0] (ls2 := [(0, (2, 2)), (2, (0, (p2_2 + 1)))]) rfl ?_
          exact J2 _ _ hS (by omega) (by omega)
        refine Tr.icmp_eq (pc := 18) (tgt := 32) d_X7_skipBlanks_18 rfl (fun c18 => ?_) (fun c18 => ?_)
        · refine Tr.pick [0, 1] (ls2 := [(0, (2, 2)), (2, (0, p2_2))]) rfl ?_
          exact J32 _ hS (by omega) er15 er4
        · refine Tr.aload_n (pc := 21) (i := 0) d_X7_skipBlanks_21 rfl rfl ?_
          refine Tr.getf (pc := 22) d_X7_skipBlanks_22 f_7_21 (by decide) (by decide) (ty_2 hS.1.1) ?_
          refine Tr.tp 1 ((St.kp hS (by decide) (by decide) (by decide)).trans en_2_4) ?_
          refine Tr.iload_n (pc := 25) (i := 2) d_X7_skipBlanks_25 rfl rfl ?_
          refine Tr.bald (pc := 26) d_X7_skipBlanks_26 (ty_1 hS.1.1) (by omega) (by omega) ?_
          refine Tr.tp r15 er15 ?_
          refine Tr.bipush (pc := 27) d_X7_skipBlanks_27 rfl (by decide) ?_
          refine Tr.icmp_ne (pc := 29) (tgt := 38) d_X7_skipBlanks_29 rfl (fun c29 => ?_) (fun c29 => ?_)
          · refine Tr.iload_n (pc := 38) (i := 2) d_X7_skipBlanks_38 rfl rfl ?_
            exact Tr.iret (pc := 39) d_X7_skipBlanks_39 rfl ⟨hS, _, rfl, by omega, by omega⟩
          · refine Tr.pick [0, 1] (ls2 := [(0, (2, 2)), (2, (0, p2_2))]) rfl ?_
            exact J32 _ hS (by omega) er15 er4
  refine Tr.pick [1, 0] (ls2 := [(0, (2, 2)), (2, (0, a1))]) rfl ?_
  exact J2 _ _ _ hS (by omega) (Nat.lt_succ_self _)

def ws_X4_clear_35 : List (Int × Int) := [(35, 0), (35, 11)]
def as_X4_clear_35 : List Int := []
def q_X4_clear_35 (M0 M' : Mem) (r : Option PV) : Prop := St Tru ws_X4_clear_35 as_X4_clear_35 M0 M' ∧ r = none
set_option maxRecDepth 100000 in
set_option maxHeartbeats 4000000 in
theorem sp_X4_clear_35 {l : Launch} {K : EC} {M0 : Mem} (hI : In Tru M0)    : Tr l K 0 mX4_clear 0 [(0, (2, 35))] [] M0 (q_X4_clear_35 M0) := by
  have hS : St Tru ws_X4_clear_35 as_X4_clear_35 M0 M0 := St.rf hI
  refine Tr.aload_n (pc := 0) (i := 0) d_X4_clear_0 rfl rfl ?_
  refine Tr.iconst (pc := 1) d_X4_clear_1 (by decide) ?_
  refine Tr.putfS (pc := 2) (P := St Tru ws_X4_clear_35 as_X4_clear_35 M0) d_X4_clear_2 f_4_45 (by decide) (by decide) (ty_35 hS.1.1) (st_35_0 hS (by decide) (by omega) trivial) (fun M2 hS w2 => ?_)
  refine Tr.aload_n (pc := 5) (i := 0) d_X4_clear_5 rfl rfl ?_
  refine Tr.iconst (pc := 6) d_X4_clear_6 (by decide) ?_
  refine Tr.putfS (pc := 7) (P := St Tru ws_X4_clear_35 as_X4_clear_35 M0) d_X4_clear_7 f_4_49 (by decide) (by decide) (ty_35 hS.1.1) (st_35_11 hS (by decide) (by omega) trivial) (fun M7 hS w7 => ?_)
  exact Tr.vret (pc := 10) d_X4_clear_10 rfl ⟨hS, rfl⟩
end
/-! 30.14 -/
section
def ws_X3_clear_27 : List (Int × Int) := [(27, 0), (27, 1), (27, 2), (27, 3), (35, 0), (35, 11)]
def as_X3_clear_27 : List Int := [28, 29, 32, 33, 34]
def q_X3_clear_27 (M0 M' : Mem) (r : Option PV) : Prop := St Tru ws_X3_clear_27 as_X3_clear_27 M0 M' ∧ r = none
set_option maxRecDepth 100000 in
set_option maxHeartbeats 4000000 in
theorem sp_X3_clear_27 {l : Launch} {K : EC} {M0 : Mem} (hI : In Tru M0)    : Tr l K 1 mX3_clear 0 [(0, (2, 27))] [] M0 (q_X3_clear_27 M0) := by
  have hS : St Tru ws_X3_clear_27 as_X3_clear_27 M0 M0 := St.rf hI
  refine Tr.aload_n (pc := 0) (i := 0) d_X3_clear_0 rfl rfl ?_
  refine Tr.iconst (pc := 1) d_X3_clear_1 (by decide) ?_
  refine Tr.putfS (pc := 2) (P := St Tru ws_X3_clear_27 as_X3_clear_27 M0) d_X3_clear_2 f_3_40 (by decide) (by decide) (ty_27 hS.1.1) (st_27_0 hS (by decide) (by omega) trivial) (fun M2 hS w2 => ?_)
  refine Tr.aload_n (pc := 5) (i := 0) d_X3_clear_5 rfl rfl ?_
  refine Tr.iconst (pc := 6) d_X3_clear_6 (by decide) ?_
  refine Tr.putfS (pc := 7) (P := St Tru ws_X3_clear_27 as_X3_clear_27 M0) d_X3_clear_7 f_3_44 (by decide) (by decide) (ty_27 hS.1.1) (st_27_1 hS (by decide) (by omega) trivial) (fun M7 hS w7 => ?_)
  refine Tr.aload_n (pc := 10) (i := 0) d_X3_clear_10 rfl rfl ?_
  refine Tr.iconst (pc := 11) d_X3_clear_11 (by decide) ?_
  refine Tr.putfS (pc := 12) (P := St Tru ws_X3_clear_27 as_X3_clear_27 M0) d_X3_clear_12 f_3_47 (by decide) (by decide) (ty_27 hS.1.1) (st_27_2 hS (by decide) (by omega) trivial) (fun M12 hS w12 => ?_)
  refine Tr.aload_n (pc := 15) (i := 0) d_X3_clear_15 rfl rfl ?_
  refine Tr.iconst (pc := 16) d_X3_clear_16 (by decide) ?_
  refine Tr.putfS (pc := 17) (P := St Tru ws_X3_clear_27 as_X3_clear_27 M0) d_X3_clear_17 f_3_50 (by decide) (by decide) (ty_27 hS.1.1) (st_27_3 hS (by decide) (by omega) trivial) (fun M17 hS w17 => ?_)
  refine Tr.aload_n (pc := 20) (i := 0) d_X3_clear_20 rfl rfl ?_
  refine Tr.getf (pc := 21) d_X3_clear_21 f_3_11 (by decide) (by decide) (ty_27 hS.1.1) ?_
  refine Tr.tp 28 (fx_27_4 hS.1.1) ?_
  refine Tr.iconst (pc := 24) d_X3_clear_24 (by decide) ?_
  refine Tr.callS (pc := 25) (as := [_, _]) d_X3_clear_25 s_3_53 ok_J7_fill_53178 rfl rfl (Nat.le_of_ble_eq_true rfl) (Nat.le_of_ble_eq_true rfl) ?_
  refine Tr.imp (sp_fill (N := 3) (ty_28 hS.1.1) (by decide)) ?_
  rintro _ _ ⟨rfl, rfl⟩
  refine Tr.nmA (P := St Tru ws_X3_clear_27 as_X3_clear_27 M0) (St.wp (x := 28) (v := 0) 3 hS (by decide) (by decide) (by decide +kernel) (by decide +kernel) (by decide +kernel) trivial) (fil_wa _ _ _ _) (fun M25 hS w25 => ?_)
  refine Tr.sc [] rfl ?_
  refine Tr.aload_n (pc := 28) (i := 0) d_X3_clear_28 rfl rfl ?_
  refine Tr.getf (pc := 29) d_X3_clear_29 f_3_15 (by decide) (by decide) (ty_27 hS.1.1) ?_
  refine Tr.tp 29 (fx_27_5 hS.1.1) ?_
  refine Tr.iconst (pc := 32) d_X3_clear_32 (by decide) ?_
  refine Tr.callS (pc := 33) (as := [_, _]) d_X3_clear_33 s_3_53 ok_J7_fill_53178 rfl rfl (Nat.le_of_ble_eq_true rfl) (Nat.le_of_ble_eq_true rfl) ?_
  refine Tr.imp (sp_fill (N := 24) (ty_29 hS.1.1) (by decide)) ?_
  rintro _ _ ⟨rfl, rfl⟩
  refine Tr.nmA (P := St Tru ws_X3_clear_27 as_X3_clear_27 M0) (sf_29 (v := 0) 24 hS (by decide) (by omega) trivial) (fil_wa _ _ _ _) (fun M33 hS w33 => ?_)
  refine Tr.sc [] rfl ?_
  refine Tr.aload_n (pc := 36) (i := 0) d_X3_clear_36 rfl rfl ?_
  refine Tr.getf (pc := 37) d_X3_clear_37 f_3_24 (by decide) (by decide) (ty_27 hS.1.1) ?_
  refine Tr.tp 32 (fx_27_8 hS.1.1) ?_
  refine Tr.iconst (pc := 40) d_X3_clear_40 (by decide) ?_
  refine Tr.callS (pc := 41) (as := [_, _]) d_X3_clear_41 s_3_53 ok_J7_fill_53178 rfl rfl (Nat.le_of_ble_eq_true rfl) (Nat.le_of_ble_eq_true rfl) ?_
  refine Tr.imp (sp_fill (N := 3) (ty_32 hS.1.1) (by decide)) ?_
  rintro _ _ ⟨rfl, rfl⟩
  refine Tr.nmA (P := St Tru ws_X3_clear_27 as_X3_clear_27 M0) (sf_32 (v := 0) 3 hS (by decide) (by omega) trivial) (fil_wa _ _ _ _) (fun M41 hS w41 => ?_)
  refine Tr.sc [] rfl ?_
  refine Tr.aload_n (pc := 44) (i := 0) d_X3_clear_44 rfl rfl ?_
  refine Tr.getf (pc := 45) d_X3_clear_45 f_3_27 (by decide) (by decide) (ty_27 hS.1.1) ?_
  refine Tr.tp 33 (fx_27_9 hS.1.1) ?_
  refine Tr.iconst (pc := 48) d_X3_clear_48 (by decide) ?_
  refine Tr.callS (pc := 49) (as := [_, _]) d_X3_clear_49 s_3_53 ok_J7_fill_53178 rfl rfl (Nat.le_of_ble_eq_true rfl) (Nat.le_of_ble_eq_true rfl) ?_
  refine Tr.imp (sp_fill (N := 3) (ty_33 hS.1.1) (by decide)) ?_
  rintro _ _ ⟨rfl, rfl⟩
  refine Tr.nmA (P := St Tru ws_X3_clear_27 as_X3_clear_27 M0) (sf_33 (v := 0) 3 hS (by decide) (by omega) trivial) (fil_wa _ _ _ _) (fun M49 hS w49 => ?_)
  refine Tr.sc [] rfl ?_
  refine Tr.aload_n (pc := 52) (i := 0) d_X3_clear_52 rfl rfl ?_
  refine Tr.getf (pc := 53) d_X3_clear_53 f_3_30 (by decide) (by decide) (ty_27 hS.1.1) ?_
  refine Tr.tp 34 (fx_27_10 hS.1.1) ?_
  refine Tr.iconst (pc := 56) d_X3_clear_56 (by decide) ?_
  refine Tr.callS (pc := 57) (as := [_, _]) d_X3_clear_57 s_3_53 ok_J7_fill_53178 rfl rfl (Nat.le_of_ble_eq_true rfl) (Nat.le_of_ble_eq_true rfl) ?_
  refine Tr.imp (sp_fill (N := 15) (ty_34 hS.1.1) (by decide)) ?_
  rintro _ _ ⟨rfl, rfl⟩
  refine Tr.nmA (P := St Tru ws_X3_clear_27 as_X3_clear_27 M0) (sf_34 (v := 0) 15 hS (by decide) (by omega) trivial) (fil_wa _ _ _ _) (fun M57 hS w57 => ?_)
  refine Tr.sc [] rfl ?_
  refine Tr.aload_n (pc := 60) (i := 0) d_X3_clear_60 rfl rfl ?_
  refine Tr.getf (pc := 61) d_X3_clear_61 f_3_36 (by decide) (by decide) (ty_27 hS.1.1) ?_
  refine Tr.tp 35 (fx_27_11 hS.1.1) ?_
  refine Tr.callV (pc := 64) (as := []) d_X3_clear_64 s_3_59 ok_X4_clear rfl rfl (Nat.le_of_ble_eq_true rfl) (Nat.le_of_ble_eq_true rfl) (by decide) (ty_35 hS.1.1) ?_
  refine Tr.imp (Tr.deep (by decide) (sp_X4_clear_35 hS.1 )) ?_
  rintro M64 _ ⟨h64, rfl⟩
  have hS := St.tr hS h64 (by decide) (by decide)
  refine Tr.sc [] rfl ?_
  exact Tr.vret (pc := 67) d_X3_clear_67 rfl ⟨hS, rfl⟩

def ws_X5_goOn_6 : List (Int × Int) := [(6, 5)]
def as_X5_goOn_6 : List Int := []
def q_X5_goOn_6 (M0 M' : Mem) (r : Option PV) : Prop := St Tru ws_X5_goOn_6 as_X5_goOn_6 M0 M' ∧ ∃ v : Int, r = some (0, v) ∧ 1 ≤ v ∧ v ≤ 1
set_option maxRecDepth 100000 in
set_option maxHeartbeats 4000000 in
theorem sp_X5_goOn_6 {l : Launch} {K : EC} {M0 : Mem} (hI : In Tru M0)    : Tr l K 0 mX5_goOn 0 [(0, (2, 6))] [] M0 (q_X5_goOn_6 M0) := by
  have hS : St Tru ws_X5_goOn_6 as_X5_goOn_6 M0 M0 := St.rf hI
  refine Tr.aload_n (pc := 0) (i := 0) d_X5_goOn_0 rfl rfl ?_
  refine Tr.getf (pc := 1) d_X5_goOn_1 f_5_36 (by decide) (by decide) (ty_6 hS.1.1) ?_
  refine Tr.gen (P := fun v => 0 ≤ v ∧ v ≤ 900) (ir_6_5 hS.1.2.1) (fun r1 er1 br1 => ?_)
  refine Tr.sipush (pc := 4) d_X5_goOn_4 rfl (by decide) ?_
  refine Tr.icmp_ge (pc := 7) (tgt := 20) d_X5_goOn_7 rfl (fun c7 => ?_) (fun c7 => ?_)
  · refine Tr.iconst (pc := 20) d_X5_goOn_20 (by decide) ?_
    exact Tr.zret (pc := 21) d_X5_goOn_21 rfl (by omega) ⟨hS, _, rfl, by omega, by omega⟩
  · refine Tr.aload_n (pc := 10) (i := 0) d_X5_goOn_10 rfl rfl ?_
    refine Tr.dup (pc := 11) d_X5_goOn_11 ne21 ?_
    refine Tr.getf (pc := 12) d_X5_goOn_12 f_5_36 (by decide) (by decide) (ty_6 hS.1.1) ?_
    refine Tr.tp r1 er1 ?_
    refine Tr.iconst (pc := 15) d_X5_goOn_15 (by decide) ?_
    refine Tr.iadd (pc := 16) d_X5_goOn_16 ?_
    refine Tr.tp (r1 + 1) ((w32_id (by omega)).trans (by omega)) ?_
    refine Tr.putfS (pc := 17) (P := St Tru ws_X5_goOn_6 as_X5_goOn_6 M0) d_X5_goOn_17 f_5_36 (by decide) (by decide) (ty_6 hS.1.1) (st_6_5 hS (by decide) (by omega) trivial) (fun M17 hS w17 => ?_)
    refine Tr.iconst (pc := 20) d_X5_goOn_20 (by decide) ?_
    exact Tr.zret (pc := 21) d_X5_goOn_21 rfl (by omega) ⟨hS, _, rfl, by omega, by omega⟩

def ws_X3_find_27 : List (Int × Int) := []
def as_X3_find_27 : List Int := []
def q_X3_find_27 (M0 M' : Mem) (r : Option PV) : Prop := St Tru ws_X3_find_27 as_X3_find_27 M0 M' ∧ ∃ v : Int, r = some (0, v) ∧ (-1) ≤ v ∧ v ≤ 14
set_option maxRecDepth 100000 in
set_option maxHeartbeats 4000000 in
theorem sp_X3_find_27 {l : Launch} {K : EC} {M0 : Mem} (hI : In Tru M0)  (a1 : Int) (ha1 : (-2147483648) ≤ a1 ∧ a1 ≤ 2147483647)  : Tr l K 0 mX3_find 0 [(0, (2, 27)), (1, (0, a1))] [] M0 (q_X3_find_27 M0) := by
  have hS : St Tru ws_X3_find_27 as_X3_find_27 M0 M0 := St.rf hI
  refine Tr.iconst (pc := 0) d_X3_find_0 (by decide) ?_
  refine Tr.istore_n (pc := 1) (i := 2) (ls2 := [(2, (0, 0)), (0, (2, 27)), (1, (0, a1))]) d_X3_find_1 rfl (by decide) rfl ?_
  have J2 : ∀ (n2 : Nat) (M : Mem) (p2_2 : Int), St Tru ws_X3_find_27 as_X3_find_27 M0 M → (0 ≤ p2_2 ∧ p2_2 ≤ 15) → (15 - p2_2).toNat < n2 → Tr l K 0 mX3_find 2 [(0, (2, 27)), (1, (0, a1)), (2, (0, p2_2))] [] M (q_X3_find_27 M0) := by
    intro n2
    induction n2 with
    | zero => intro M p2_2 hS bp2_2  hm2; exact absurd hm2 (Nat.not_lt_zero _)
    | succ n2 J2 =>
      intro M p2_2 hS bp2_2  hm2
      refine Tr.iload_n (pc := 2) (i := 2) d_X3_find_2 rfl rfl ?_
      refine Tr.bipush (pc := 3) d_X3_find_3 rfl (by decide) ?_
      refine Tr.icmp_ge (pc := 5) (tgt := 26) d_X3_find_5 rfl (fun c5 => ?_) (fun c5 => ?_)
      · refine Tr.iconst (pc := 26) d_X3_find_26 (by decide) ?_
        exact Tr.iret (pc := 27) d_X3_find_27 rfl ⟨hS, _, rfl, by omega, by omega⟩
      · refine Tr.aload_n (pc := 8) (i := 0) d_X3_find_8 rfl rfl ?_
        refine Tr.getf (pc := 9) d_X3_find_9 f_3_30 (by decide) (by decide) (ty_27 hS.1.1) ?_
        refine Tr.tp 34 (fx_27_10 hS.1.1) ?_
        refine Tr.iload_n (pc := 12) (i := 2) d_X3_find_12 rfl rfl ?_
        refine Tr.iald (pc := 13) d_X3_find_13 (ty_34 hS.1.1) (by omega) (by omega) ?_
        refine Tr.gen (P := fun v => (-2147483648) ≤ v ∧ v ≤ 2147483647) (ar_34 hS.1.2.1 _) (fun r13 er13 br13 => ?_)
        refine Tr.iload_n (pc := 14) (i := 1) d_X3_find_14 rfl rfl ?_
        refine Tr.icmp_ne (pc := 15) (tgt := 20) d_X3_find_15 rfl (fun c15 => ?_) (fun c15 => ?_)
        · refine Tr.iincV (pc := 20) (n2 := (p2_2 + 1)) (ls2 := [(2, (0, (p2_2 + 1))), (0, (2, 27)), (1, (0, a1))]) d_X3_find_20 rfl (by decide) ((w32_id (by omega)).trans (by omega)) rfl ?_
          refine Tr.goto (pc := 23) (tgt := 2) d_X3_find_23 rfl ?_
          refine Tr.pick [1, 2, 0] (ls2 := [(0, (2, 27)), (1, (0, a1)), (2, (0, (p2_2 + 1)))]) rfl ?_
          exact J2 _ _ hS (by omega) (by omega)
        · refine Tr.iload_n (pc := 18) (i := 2) d_X3_find_18 rfl rfl ?_
          exact Tr.iret (pc := 19) d_X3_find_19 rfl ⟨hS, _, rfl, by omega, by omega⟩
  refine Tr.pick [1, 2, 0] (ls2 := [(0, (2, 27)), (1, (0, a1)), (2, (0, 0))]) rfl ?_
  exact J2 _ _ _ hS (by omega) (Nat.lt_succ_self _)

def ws_X5_refuse_6 : List (Int × Int) := [(6, 0), (6, 1)]
def as_X5_refuse_6 : List Int := []
def q_X5_refuse_6 (M0 M' : Mem) (r : Option PV) : Prop := St Tru ws_X5_refuse_6 as_X5_refuse_6 M0 M' ∧ ∃ v : Int, r = some (0, v) ∧ 0 ≤ v ∧ v ≤ 0
set_option maxRecDepth 100000 in
set_option maxHeartbeats 4000000 in
theorem sp_X5_refuse_6 {l : Launch} {K : EC} {M0 : Mem} (hI : In Tru M0) (en_6_2 : rd M0 6 2 = 2) (a1 : Int) (ha1 : 2 ≤ a1 ∧ a1 ≤ 2)  : Tr l K 0 mX5_refuse 0 [(0, (2, 6)), (1, (0, a1))] [] M0 (q_X5_refuse_6 M0) := by
  have hS : St Tru ws_X5_refuse_6 as_X5_refuse_6 M0 M0 := St.rf hI
  refine Tr.aload_n (pc := 0) (i := 0) d_X5_refuse_0 rfl rfl ?_
  refine Tr.iload_n (pc := 1) (i := 1) d_X5_refuse_1 rfl rfl ?_
  refine Tr.tp 2 (by omega) ?_
  refine Tr.putfS (pc := 2) (P := St Tru ws_X5_refuse_6 as_X5_refuse_6 M0) d_X5_refuse_2 f_5_9 (by decide) (by decide) (ty_6 hS.1.1) (st_6_0 hS (by decide) (by omega) trivial) (fun M2 hS w2 => ?_)
  refine Tr.aload_n (pc := 5) (i := 0) d_X5_refuse_5 rfl rfl ?_
  refine Tr.aload_n (pc := 6) (i := 0) d_X5_refuse_6 rfl rfl ?_
  refine Tr.getf (pc := 7) d_X5_refuse_7 f_5_18 (by decide) (by decide) (ty_6 hS.1.1) ?_
  refine Tr.tp 2 ((St.kp hS (by decide) (by decide) (by decide)).trans en_6_2) ?_
  refine Tr.getf (pc := 10) d_X5_refuse_10 f_5_65 (by decide) (by decide) (ty_2 hS.1.1) ?_
  refine Tr.tp 4 (fx_2_1 hS.1.1) ?_
  refine Tr.aload_n (pc := 13) (i := 0) d_X5_refuse_13 rfl rfl ?_
  refine Tr.getf (pc := 14) d_X5_refuse_14 f_5_36 (by decide) (by decide) (ty_6 hS.1.1) ?_
  refine Tr.gen (P := fun v => 0 ≤ v ∧ v ≤ 900) (ir_6_5 hS.1.2.1) (fun r14 er14 br14 => ?_)
  refine Tr.iald (pc := 17) d_X5_refuse_17 (ty_4 hS.1.1) (by omega) (by omega) ?_
  refine Tr.gen (P := fun v => (-2147483648) ≤ v ∧ v ≤ 2147483647) (ar_4 hS.1.2.1 _) (fun r17 er17 br17 => ?_)
  refine Tr.putfS (pc := 18) (P := St Tru ws_X5_refuse_6 as_X5_refuse_6 M0) d_X5_refuse_18 f_5_15 (by decide) (by decide) (ty_6 hS.1.1) (st_6_1 hS (by decide) (by omega) trivial) (fun M18 hS w18 => ?_)
  refine Tr.iconst (pc := 21) d_X5_refuse_21 (by decide) ?_
  exact Tr.zret (pc := 22) d_X5_refuse_22 rfl (by omega) ⟨hS, _, rfl, by omega, by omega⟩

def ws_X5_refuse_6_w1 : List (Int × Int) := [(6, 0), (6, 1)]
def as_X5_refuse_6_w1 : List Int := []
def q_X5_refuse_6_w1 (M0 M' : Mem) (r : Option PV) : Prop := St Tru ws_X5_refuse_6_w1 as_X5_refuse_6_w1 M0 M' ∧ ∃ v : Int, r = some (0, v) ∧ 0 ≤ v ∧ v ≤ 0
set_option maxRecDepth 100000 in
set_option maxHeartbeats 4000000 in
theorem sp_X5_refuse_6_w1 {l : Launch} {K : EC} {M0 : Mem} (hI : In Tru M0) (en_6_2 : rd M0 6 2 = 2) (a1 : Int) (ha1 : 1 ≤ a1 ∧ a1 ≤ 1)  : Tr l K 0 mX5_refuse 0 [(0, (2, 6)), (1, (0, a1))] [] M0 (q_X5_refuse_6_w1 M0) := by
  have hS : St Tru ws_X5_refuse_6_w1 as_X5_refuse_6_w1 M0 M0 := St.rf hI
  refine Tr.aload_n (pc := 0) (i := 0) d_X5_refuse_0 rfl rfl ?_
  refine Tr.iload_n (pc := 1) (i := 1) d_X5_refuse_1 rfl rfl ?_
  refine Tr.tp 1 (by omega) ?_
  refine Tr.putfS (pc := 2) (P := St Tru ws_X5_refuse_6_w1 as_X5_refuse_6_w1 M0) d_X5_refuse_2 f_5_9 (by decide) (by decide) (ty_6 hS.1.1) (st_6_0 hS (by decide) (by omega) trivial) (fun M2 hS w2 => ?_)
  refine Tr.aload_n (pc := 5) (i := 0) d_X5_refuse_5 rfl rfl ?_
  refine Tr.aload_n (pc := 6) (i := 0) d_X5_refuse_6 rfl rfl ?_
  refine Tr.getf (pc := 7) d_X5_refuse_7 f_5_18 (by decide) (by decide) (ty_6 hS.1.1) ?_
  refine Tr.tp 2 ((St.kp hS (by decide) (by decide) (by decide)).trans en_6_2) ?_
  refine Tr.getf (pc := 10) d_X5_refuse_10 f_5_65 (by decide) (by decide) (ty_2 hS.1.1) ?_
  refine Tr.tp 4 (fx_2_1 hS.1.1) ?_
  refine Tr.aload_n (pc := 13) (i := 0) d_X5_refuse_13 rfl rfl ?_
  refine Tr.getf (pc := 14) d_X5_refuse_14 f_5_36 (by decide) (by decide) (ty_6 hS.1.1) ?_
  refine Tr.gen (P := fun v => 0 ≤ v ∧ v ≤ 900) (ir_6_5 hS.1.2.1) (fun r14 er14 br14 => ?_)
  refine Tr.iald (pc := 17) d_X5_refuse_17 (ty_4 hS.1.1) (by omega) (by omega) ?_
  refine Tr.gen (P := fun v => (-2147483648) ≤ v ∧ v ≤ 2147483647) (ar_4 hS.1.2.1 _) (fun r17 er17 br17 => ?_)
  refine Tr.putfS (pc := 18) (P := St Tru ws_X5_refuse_6_w1 as_X5_refuse_6_w1 M0) d_X5_refuse_18 f_5_15 (by decide) (by decide) (ty_6 hS.1.1) (st_6_1 hS (by decide) (by omega) trivial) (fun M18 hS w18 => ?_)
  refine Tr.iconst (pc := 21) d_X5_refuse_21 (by decide) ?_
  exact Tr.zret (pc := 22) d_X5_refuse_22 rfl (by omega) ⟨hS, _, rfl, by omega, by omega⟩

def ws_X5_refuse_6_w2 : List (Int × Int) := [(6, 0), (6, 1)]
def as_X5_refuse_6_w2 : List Int := []
def q_X5_refuse_6_w2 (M0 M' : Mem) (r : Option PV) : Prop := St Tru ws_X5_refuse_6_w2 as_X5_refuse_6_w2 M0 M' ∧ ∃ v : Int, r = some (0, v) ∧ 0 ≤ v ∧ v ≤ 0
set_option maxRecDepth 100000 in
set_option maxHeartbeats 4000000 in
theorem sp_X5_refuse_6_w2 {l : Launch} {K : EC} {M0 : Mem} (hI : In Tru M0) (en_6_2 : rd M0 6 2 = 2) (a1 : Int) (ha1 : 5 ≤ a1 ∧ a1 ≤ 5)  : Tr l K 0 mX5_refuse 0 [(0, (2, 6)), (1, (0, a1))] [] M0 (q_X5_refuse_6_w2 M0) := by
  have hS : St Tru ws_X5_refuse_6_w2 as_X5_refuse_6_w2 M0 M0 := St.rf hI
  refine Tr.aload_n (pc := 0) (i := 0) d_X5_refuse_0 rfl rfl ?_
  refine Tr.iload_n (pc := 1) (i := 1) d_X5_refuse_1 rfl rfl ?_
  refine Tr.tp 5 (by omega) ?_
  refine Tr.putfS (pc := 2) (P := St Tru ws_X5_refuse_6_w2 as_X5_refuse_6_w2 M0) d_X5_refuse_2 f_5_9 (by decide) (by decide) (ty_6 hS.1.1) (st_6_0 hS (by decide) (by omega) trivial) (fun M2 hS w2 => ?_)
  refine Tr.aload_n (pc := 5) (i := 0) d_X5_refuse_5 rfl rfl ?_
  refine Tr.aload_n (pc := 6) (i := 0) d_X5_refuse_6 rfl rfl ?_
  refine Tr.getf (pc := 7) d_X5_refuse_7 f_5_18 (by decide) (by decide) (ty_6 hS.1.1) ?_
  refine Tr.tp 2 ((St.kp hS (by decide) (by decide) (by decide)).trans en_6_2) ?_
  refine Tr.getf (pc := 10) d_X5_refuse_10 f_5_65 (by decide) (by decide) (ty_2 hS.1.1) ?_
  refine Tr.tp 4 (fx_2_1 hS.1.1) ?_
  refine Tr.aload_n (pc := 13) (i := 0) d_X5_refuse_13 rfl rfl ?_
  refine Tr.getf (pc := 14) d_X5_refuse_14 f_5_36 (by decide) (by decide) (ty_6 hS.1.1) ?_
  refine Tr.gen (P := fun v => 0 ≤ v ∧ v ≤ 900) (ir_6_5 hS.1.2.1) (fun r14 er14 br14 => ?_)
  refine Tr.iald (pc := 17) d_X5_refuse_17 (ty_4 hS.1.1) (by omega) (by omega) ?_
  refine Tr.gen (P := fun v => (-2147483648) ≤ v ∧ v ≤ 2147483647) (ar_4 hS.1.2.1 _) (fun r17 er17 br17 => ?_)
  refine Tr.putfS (pc := 18) (P := St Tru ws_X5_refuse_6_w2 as_X5_refuse_6_w2 M0) d_X5_refuse_18 f_5_15 (by decide) (by decide) (ty_6 hS.1.1) (st_6_1 hS (by decide) (by omega) trivial) (fun M18 hS w18 => ?_)
  refine Tr.iconst (pc := 21) d_X5_refuse_21 (by decide) ?_
  exact Tr.zret (pc := 22) d_X5_refuse_22 rfl (by omega) ⟨hS, _, rfl, by omega, by omega⟩

def ws_X5_isSign_6 : List (Int × Int) := []
def as_X5_isSign_6 : List Int := []
def q_X5_isSign_6 (M0 M' : Mem) (r : Option PV) : Prop := St Tru ws_X5_isSign_6 as_X5_isSign_6 M0 M' ∧ ∃ v : Int, r = some (0, v) ∧ 0 ≤ v ∧ v ≤ 1
set_option maxRecDepth 100000 in
set_option maxHeartbeats 4000000 in
theorem sp_X5_isSign_6 {l : Launch} {K : EC} {M0 : Mem} (hI : In Tru M0) (en_6_2 : rd M0 6 2 = 2) (a1 : Int) (ha1 : 59 ≤ a1 ∧ a1 ≤ 59)  : Tr l K 0 mX5_isSign 0 [(0, (2, 6)), (1, (0, a1))] [] M0 (q_X5_isSign_6 M0) := by
  have hS : St Tru ws_X5_isSign_6 as_X5_isSign_6 M0 M0 := St.rf hI
  refine Tr.aload_n (pc := 0) (i := 0) d_X5_isSign_0 rfl rfl ?_
  refine Tr.getf (pc := 1) d_X5_isSign_1 f_5_18 (by decide) (by decide) (ty_6 hS.1.1) ?_
  refine Tr.tp 2 ((St.kp hS (by decide) (by decide) (by decide)).trans en_6_2) ?_
  refine Tr.getf (pc := 4) d_X5_isSign_4 f_5_50 (by decide) (by decide) (ty_2 hS.1.1) ?_
  refine Tr.tp 3 (fx_2_0 hS.1.1) ?_
  refine Tr.aload_n (pc := 7) (i := 0) d_X5_isSign_7 rfl rfl ?_
  refine Tr.getf (pc := 8) d_X5_isSign_8 f_5_36 (by decide) (by decide) (ty_6 hS.1.1) ?_
  refine Tr.gen (P := fun v => 0 ≤ v ∧ v ≤ 900) (ir_6_5 hS.1.2.1) (fun r8 er8 br8 => ?_)
  refine Tr.iald (pc := 11) d_X5_isSign_11 (ty_3 hS.1.1) (by omega) (by omega) ?_
  refine Tr.gen (P := fun v => (-2147483648) ≤ v ∧ v ≤ 2147483647) (ar_3 hS.1.2.1 _) (fun r11 er11 br11 => ?_)
  refine Tr.iconst (pc := 12) d_X5_isSign_12 (by decide) ?_
  refine Tr.icmp_ne (pc := 13) (tgt := 36) d_X5_isSign_13 rfl (fun c13 => ?_) (fun c13 => ?_)
  · refine Tr.iconst (pc := 36) d_X5_isSign_36 (by decide) ?_
    exact Tr.zret (pc := 37) d_X5_isSign_37 rfl (by omega) ⟨hS, _, rfl, by omega, by omega⟩
  · refine Tr.aload_n (pc := 16) (i := 0) d_X5_isSign_16 rfl rfl ?_
    refine Tr.getf (pc := 17) d_X5_isSign_17 f_5_18 (by decide) (by decide) (ty_6 hS.1.1) ?_
    refine Tr.tp 2 ((St.kp hS (by decide) (by decide) (by decide)).trans en_6_2) ?_
    refine Tr.getf (pc := 20) d_X5_isSign_20 f_5_68 (by decide) (by decide) (ty_2 hS.1.1) ?_
    refine Tr.tp 5 (fx_2_2 hS.1.1) ?_
    refine Tr.aload_n (pc := 23) (i := 0) d_X5_isSign_23 rfl rfl ?_
    refine Tr.getf (pc := 24) d_X5_isSign_24 f_5_36 (by decide) (by decide) (ty_6 hS.1.1) ?_
    refine Tr.tp r8 er8 ?_
    refine Tr.iald (pc := 27) d_X5_isSign_27 (ty_5 hS.1.1) (by omega) (by omega) ?_
    refine Tr.gen (P := fun v => (-2147483648) ≤ v ∧ v ≤ 2147483647) (ar_5 hS.1.2.1 _) (fun r27 er27 br27 => ?_)
    refine Tr.iload_n (pc := 28) (i := 1) d_X5_isSign_28 rfl rfl ?_
    refine Tr.tp 59 (by omega) ?_
    refine Tr.icmp_ne (pc := 29) (tgt := 36) d_X5_isSign_29 rfl (fun c29 => ?_) (fun c29 => ?_)
    · refine Tr.iconst (pc := 36) d_X5_isSign_36 (by decide) ?_
      exact Tr.zret (pc := 37) d_X5_isSign_37 rfl (by omega) ⟨hS, _, rfl, by omega, by omega⟩
    · refine Tr.iconst (pc := 32) d_X5_isSign_32 (by decide) ?_
      refine Tr.goto (pc := 33) (tgt := 37) d_X5_isSign_33 rfl ?_
      exact Tr.zret (pc := 37) d_X5_isSign_37 rfl (by omega) ⟨hS, _, rfl, by omega, by omega⟩

def ws_X5_takeSign_6 : List (Int × Int) := [(6, 0), (6, 1), (6, 5)]
def as_X5_takeSign_6 : List Int := []
def q_X5_takeSign_6 (M0 M' : Mem) (r : Option PV) : Prop := St Tru ws_X5_takeSign_6 as_X5_takeSign_6 M0 M' ∧ ∃ v : Int, r = some (0, v) ∧ 0 ≤ v ∧ v ≤ 1
set_option maxRecDepth 100000 in
set_option maxHeartbeats 4000000 in
theorem sp_X5_takeSign_6 {l : Launch} {K : EC} {M0 : Mem} (hI : In Tru M0) (en_6_2 : rd M0 6 2 = 2) (a1 : Int) (ha1 : 59 ≤ a1 ∧ a1 ≤ 59)  : Tr l K 1 mX5_takeSign 0 [(0, (2, 6)), (1, (0, a1))] [] M0 (q_X5_takeSign_6 M0) := by
  have hS : St Tru ws_X5_takeSign_6 as_X5_takeSign_6 M0 M0 := St.rf hI
  refine Tr.aload_n (pc := 0) (i := 0) d_X5_takeSign_0 rfl rfl ?_
  refine Tr.iload_n (pc := 1) (i := 1) d_X5_takeSign_1 rfl rfl ?_
  refine Tr.tp 59 (by omega) ?_
  refine Tr.callV (pc := 2) (as := [_]) d_X5_takeSign_2 s_5_77 ok_X5_isSign rfl rfl (Nat.le_of_ble_eq_true rfl) (Nat.le_of_ble_eq_true rfl) (by decide) (ty_6 hS.1.1) ?_
  refine Tr.imp (Tr.deep (by decide) (sp_X5_isSign_6 hS.1 ((St.kp hS (by decide) (by decide) (by decide)).trans en_6_2) 59 (by omega))) ?_
  rintro M2 _ ⟨h2, r2, rfl, lr2, ur2⟩
  have hS := St.tr hS h2 (by decide) (by decide)
  refine Tr.sc [(0, r2)] rfl ?_
  refine Tr.if_eq (pc := 5) (tgt := 15) d_X5_takeSign_5 rfl (fun c5 => ?_) (fun c5 => ?_)
  · refine Tr.aload_n (pc := 15) (i := 0) d_X5_takeSign_15 rfl rfl ?_
    refine Tr.iconst (pc := 16) d_X5_takeSign_16 (by decide) ?_
    refine Tr.callV (pc := 17) (as := [_]) d_X5_takeSign_17 s_5_56 ok_X5_refuse rfl rfl (Nat.le_of_ble_eq_true rfl) (Nat.le_of_ble_eq_true rfl) (by decide) (ty_6 hS.1.1) ?_
    refine Tr.imp (Tr.deep (by decide) (sp_X5_refuse_6_w1 hS.1 ((St.kp hS (by decide) (by decide) (by decide)).trans en_6_2) 1 (by omega))) ?_
    rintro M17 _ ⟨h17, r17, rfl, lr17, ur17⟩
    have hS := St.tr hS h17 (by decide) (by decide)
    refine Tr.sc [(0, r17)] rfl ?_
    exact Tr.zret (pc := 20) d_X5_takeSign_20 rfl (by omega) ⟨hS, _, rfl, by omega, by omega⟩
  · refine Tr.aload_n (pc := 8) (i := 0) d_X5_takeSign_8 rfl rfl ?_
    refine Tr.callV (pc := 9) (as := []) d_X5_takeSign_9 s_5_74 ok_X5_goOn rfl rfl (Nat.le_of_ble_eq_true rfl) (Nat.le_of_ble_eq_true rfl) (by decide) (ty_6 hS.1.1) ?_
    refine Tr.imp (Tr.deep (by decide) (sp_X5_goOn_6 hS.1 )) ?_
    rintro M9 _ ⟨h9, r9, rfl, lr9, ur9⟩
    have hS := St.tr hS h9 (by decide) (by decide)
    refine Tr.sc [(0, r9)] rfl ?_
    refine Tr.goto (pc := 12) (tgt := 20) d_X5_takeSign_12 rfl ?_
    exact Tr.zret (pc := 20) d_X5_takeSign_20 rfl (by omega) ⟨hS, _, rfl, by omega, by omega⟩

def ws_X5_refuse_6_w3 : List (Int × Int) := [(6, 0), (6, 1)]
def as_X5_refuse_6_w3 : List Int := []
def q_X5_refuse_6_w3 (M0 M' : Mem) (r : Option PV) : Prop := St Tru ws_X5_refuse_6_w3 as_X5_refuse_6_w3 M0 M' ∧ ∃ v : Int, r = some (0, v) ∧ 0 ≤ v ∧ v ≤ 0
set_option maxRecDepth 100000 in
set_option maxHeartbeats 4000000 in
theorem sp_X5_refuse_6_w3 {l : Launch} {K : EC} {M0 : Mem} (hI : In Tru M0) (en_6_2 : rd M0 6 2 = 2) (a1 : Int) (ha1 : 3 ≤ a1 ∧ a1 ≤ 5)  : Tr l K 0 mX5_refuse 0 [(0, (2, 6)), (1, (0, a1))] [] M0 (q_X5_refuse_6_w3 M0) := by
  have hS : St Tru ws_X5_refuse_6_w3 as_X5_refuse_6_w3 M0 M0 := St.rf hI
  refine Tr.aload_n (pc := 0) (i := 0) d_X5_refuse_0 rfl rfl ?_
  refine Tr.iload_n (pc := 1) (i := 1) d_X5_refuse_1 rfl rfl ?_
  refine Tr.putfS (pc := 2) (P := St Tru ws_X5_refuse_6_w3 as_X5_refuse_6_w3 M0) d_X5_refuse_2 f_5_9 (by decide) (by decide) (ty_6 hS.1.1) (st_6_0 hS (by decide) (by omega) trivial) (fun M2 hS w2 => ?_)
  refine Tr.aload_n (pc := 5) (i := 0) d_X5_refuse_5 rfl rfl ?_
  refine Tr.aload_n (pc := 6) (i := 0) d_X5_refuse_6 rfl rfl ?_
  refine Tr.getf (pc := 7) d_X5_refuse_7 f_5_18 (by decide) (by decide) (ty_6 hS.1.1) ?_
  refine Tr.tp 2 ((St.kp hS (by decide) (by decide) (by decide)).trans en_6_2) ?_
  refine Tr.getf (pc := 10) d_X5_refuse_10 f_5_65 (by decide) (by decide) (ty_2 hS.1.1) ?_
  refine Tr.tp 4 (fx_2_1 hS.1.1) ?_
  refine Tr.aload_n (pc := 13) (i := 0) d_X5_refuse_13 rfl rfl ?_
  refine Tr.getf (pc := 14) d_X5_refuse_14 f_5_36 (by decide) (by decide) (ty_6 hS.1.1) ?_
  refine Tr.gen (P := fun v => 0 ≤ v ∧ v ≤ 900) (ir_6_5 hS.1.2.1) (fun r14 er14 br14 => ?_)
  refine Tr.iald (pc := 17) d_X5_refuse_17 (ty_4 hS.1.1) (by omega) (by omega) ?_
  refine Tr.gen (P := fun v => (-2147483648) ≤ v ∧ v ≤ 2147483647) (ar_4 hS.1.2.1 _) (fun r17 er17 br17 => ?_)
  refine Tr.putfS (pc := 18) (P := St Tru ws_X5_refuse_6_w3 as_X5_refuse_6_w3 M0) d_X5_refuse_18 f_5_15 (by decide) (by decide) (ty_6 hS.1.1) (st_6_1 hS (by decide) (by omega) trivial) (fun M18 hS w18 => ?_)
  refine Tr.iconst (pc := 21) d_X5_refuse_21 (by decide) ?_
  exact Tr.zret (pc := 22) d_X5_refuse_22 rfl (by omega) ⟨hS, _, rfl, by omega, by omega⟩

def ws_X5_takeNumber_6 : List (Int × Int) := [(6, 0), (6, 1), (6, 5)]
def as_X5_takeNumber_6 : List Int := []
def q_X5_takeNumber_6 (M0 M' : Mem) (r : Option PV) : Prop := St Tru ws_X5_takeNumber_6 as_X5_takeNumber_6 M0 M' ∧ ∃ v : Int, r = some (0, v) ∧ (-1) ≤ v ∧ v ≤ 99
set_option maxRecDepth 100000 in
set_option maxHeartbeats 4000000 in
theorem sp_X5_takeNumber_6 {l : Launch} {K : EC} {M0 : Mem} (hI : In Tru M0) (en_6_2 : rd M0 6 2 = 2) (a1 : Int) (ha1 : 0 ≤ a1 ∧ a1 ≤ 0) (a2 : Int) (ha2 : 99 ≤ a2 ∧ a2 ≤ 99)  : Tr l K 1 mX5_takeNumber 0 [(0, (2, 6)), (1, (0, a1)), (2, (0, a2))] [] M0 (q_X5_takeNumber_6 M0) := by
  have hS : St Tru ws_X5_takeNumber_6 as_X5_takeNumber_6 M0 M0 := St.rf hI
  refine Tr.aload_n (pc := 0) (i := 0) d_X5_takeNumber_0 rfl rfl ?_
  refine Tr.getf (pc := 1) d_X5_takeNumber_1 f_5_18 (by decide) (by decide) (ty_6 hS.1.1) ?_
  refine Tr.tp 2 ((St.kp hS (by decide) (by decide) (by decide)).trans en_6_2) ?_
  refine Tr.getf (pc := 4) d_X5_takeNumber_4 f_5_50 (by decide) (by decide) (ty_2 hS.1.1) ?_
  refine Tr.tp 3 (fx_2_0 hS.1.1) ?_
  refine Tr.aload_n (pc := 7) (i := 0) d_X5_takeNumber_7 rfl rfl ?_
  refine Tr.getf (pc := 8) d_X5_takeNumber_8 f_5_36 (by decide) (by decide) (ty_6 hS.1.1) ?_
  refine Tr.gen (P := fun v => 0 ≤ v ∧ v ≤ 900) (ir_6_5 hS.1.2.1) (fun r8 er8 br8 => ?_)
  refine Tr.iald (pc := 11) d_X5_takeNumber_11 (ty_3 hS.1.1) (by omega) (by omega) ?_
  refine Tr.gen (P := fun v => (-2147483648) ≤ v ∧ v ≤ 2147483647) (ar_3 hS.1.2.1 _) (fun r11 er11 br11 => ?_)
  refine Tr.iconst (pc := 12) d_X5_takeNumber_12 (by decide) ?_
  refine Tr.icmp_eq (pc := 13) (tgt := 24) d_X5_takeNumber_13 rfl (fun c13 => ?_) (fun c13 => ?_)
  · refine Tr.aload_n (pc := 24) (i := 0) d_X5_takeNumber_24 rfl rfl ?_
    refine Tr.getf (pc := 25) d_X5_takeNumber_25 f_5_18 (by decide) (by decide) (ty_6 hS.1.1) ?_
    refine Tr.tp 2 ((St.kp hS (by decide) (by decide) (by decide)).trans en_6_2) ?_
    refine Tr.getf (pc := 28) d_X5_takeNumber_28 f_5_68 (by decide) (by decide) (ty_2 hS.1.1) ?_
    refine Tr.tp 5 (fx_2_2 hS.1.1) ?_
    refine Tr.aload_n (pc := 31) (i := 0) d_X5_takeNumber_31 rfl rfl ?_
    refine Tr.getf (pc := 32) d_X5_takeNumber_32 f_5_36 (by decide) (by decide) (ty_6 hS.1.1) ?_
    refine Tr.tp r8 er8 ?_
    refine Tr.iald (pc := 35) d_X5_takeNumber_35 (ty_5 hS.1.1) (by omega) (by omega) ?_
    refine Tr.gen (P := fun v => (-2147483648) ≤ v ∧ v ≤ 2147483647) (ar_5 hS.1.2.1 _) (fun r35 er35 br35 => ?_)
    refine Tr.istore_n (pc := 36) (i := 3) (ls2 := [(3, (0, r35)), (0, (2, 6)), (1, (0, a1)), (2, (0, a2))]) d_X5_takeNumber_36 rfl (by decide) rfl ?_
    refine Tr.iload_n (pc := 37) (i := 3) d_X5_takeNumber_37 rfl rfl ?_
    refine Tr.iload_n (pc := 38) (i := 1) d_X5_takeNumber_38 rfl rfl ?_
    refine Tr.tp 0 (by omega) ?_
    have J47 : ∀ (M : Mem), St Tru ws_X5_takeNumber_6 as_X5_takeNumber_6 M0 M → rd M 3 r8 = r11 → rd M 5 r8 = r35 → rd M 6 5 = r8 → Tr l K 1 mX5_takeNumber 47 [(0, (2, 6))] [] M (q_X5_takeNumber_6 M0) := by
      intro M  hS  k47_3_r810 k47_5_r810 k47_6_5
      refine Tr.aload_n (pc := 47) (i := 0) d_X5_takeNumber_47 rfl rfl ?_
      refine Tr.iconst (pc := 48) d_X5_takeNumber_48 (by decide) ?_
      refine Tr.callV (pc := 49) (as := [_]) d_X5_takeNumber_49 s_5_56 ok_X5_refuse rfl rfl (Nat.le_of_ble_eq_true rfl) (Nat.le_of_ble_eq_true rfl) (by decide) (ty_6 hS.1.1) ?_
      refine Tr.imp (Tr.deep (by decide) (sp_X5_refuse_6_w3 hS.1 ((St.kp hS (by decide) (by decide) (by decide)).trans en_6_2) 4 (by omega))) ?_
      rintro M49 _ ⟨h49, r49, rfl, lr49, ur49⟩
      have hS := St.tr hS h49 (by decide) (by decide)
      refine Tr.sc [(0, r49)] rfl ?_
      refine Tr.pop (pc := 52) d_X5_takeNumber_52 ne01 ?_
      refine Tr.iconst (pc := 53) d_X5_takeNumber_53 (by decide) ?_
      exact Tr.iret (pc := 54) d_X5_takeNumber_54 rfl ⟨hS, _, rfl, by omega, by omega⟩
    refine Tr.icmp_lt (pc := 39) (tgt := 47) d_X5_takeNumber_39 rfl (fun c39 => ?_) (fun c39 => ?_)
    · refine Tr.pick [1] (ls2 := [(0, (2, 6))]) rfl ?_
      exact J47 _ hS er11 er35 er8
    · refine Tr.iload_n (pc := 42) (i := 3) d_X5_takeNumber_42 rfl rfl ?_
      refine Tr.iload_n (pc := 43) (i := 2) d_X5_takeNumber_43 rfl rfl ?_
      refine Tr.tp 99 (by omega) ?_
      refine Tr.icmp_le (pc := 44) (tgt := 55) d_X5_takeNumber_44 rfl (fun c44 => ?_) (fun c44 => ?_)
      · refine Tr.aload_n (pc := 55) (i := 0) d_X5_takeNumber_55 rfl rfl ?_
        refine Tr.callV (pc := 56) (as := []) d_X5_takeNumber_56 s_5_74 ok_X5_goOn rfl rfl (Nat.le_of_ble_eq_true rfl) (Nat.le_of_ble_eq_true rfl) (by decide) (ty_6 hS.1.1) ?_
        refine Tr.imp (Tr.deep (by decide) (sp_X5_goOn_6 hS.1 )) ?_
        rintro M56 _ ⟨h56, r56, rfl, lr56, ur56⟩
        have hS := St.tr hS h56 (by decide) (by decide)
        refine Tr.sc [(0, r56)] rfl ?_
        refine Tr.pop (pc := 59) d_X5_takeNumber_59 ne01 ?_
        refine Tr.iload_n (pc := 60) (i := 3) d_X5_takeNumber_60 rfl rfl ?_
        exact Tr.iret (pc := 61) d_X5_takeNumber_61 rfl ⟨hS, _, rfl, by omega, by omega⟩
      · refine Tr.pick [1] (ls2 := [(0, (2, 6))]) rfl ?_
        exact J47 _ hS er11 er35 er8
  · refine Tr.aload_n (pc := 16) (i := 0) d_X5_takeNumber_16 rfl rfl ?_
    refine Tr.iconst (pc := 17) d_X5_takeNumber_17 (by decide) ?_
    refine Tr.callV (pc := 18) (as := [_]) d_X5_takeNumber_18 s_5_56 ok_X5_refuse rfl rfl (Nat.le_of_ble_eq_true rfl) (Nat.le_of_ble_eq_true rfl) (by decide) (ty_6 hS.1.1) ?_
    refine Tr.imp (Tr.deep (by decide) (sp_X5_refuse_6_w1 hS.1 ((St.kp hS (by decide) (by decide) (by decide)).trans en_6_2) 1 (by omega))) ?_
    rintro M18 _ ⟨h18, r18, rfl, lr18, ur18⟩
    have hS := St.tr hS h18 (by decide) (by decide)
    refine Tr.sc [(0, r18)] rfl ?_
    refine Tr.pop (pc := 21) d_X5_takeNumber_21 ne01 ?_
    refine Tr.iconst (pc := 22) d_X5_takeNumber_22 (by decide) ?_
    exact Tr.iret (pc := 23) d_X5_takeNumber_23 rfl ⟨hS, _, rfl, by omega, by omega⟩

def ws_X5_takeNumber_6_w1 : List (Int × Int) := [(6, 0), (6, 1), (6, 5)]
def as_X5_takeNumber_6_w1 : List Int := []
def q_X5_takeNumber_6_w1 (M0 M' : Mem) (r : Option PV) : Prop := St Tru ws_X5_takeNumber_6_w1 as_X5_takeNumber_6_w1 M0 M' ∧ ∃ v : Int, r = some (0, v) ∧ (-1) ≤ v ∧ v ≤ 99
set_option maxRecDepth 100000 in
set_option maxHeartbeats 4000000 in
theorem sp_X5_takeNumber_6_w1 {l : Launch} {K : EC} {M0 : Mem} (hI : In Tru M0) (en_6_2 : rd M0 6 2 = 2) (a1 : Int) (ha1 : 0 ≤ a1 ∧ a1 ≤ 99) (a2 : Int) (ha2 : 99 ≤ a2 ∧ a2 ≤ 99)  : Tr l K 1 mX5_takeNumber 0 [(0, (2, 6)), (1, (0, a1)), (2, (0, a2))] [] M0 (q_X5_takeNumber_6_w1 M0) := by
  have hS : St Tru ws_X5_takeNumber_6_w1 as_X5_takeNumber_6_w1 M0 M0 := St.rf hI
  refine Tr.aload_n (pc := 0) (i := 0) d_X5_takeNumber_0 rfl rfl ?_
  refine Tr.getf (pc := 1) d_X5_takeNumber_1 f_5_18 (by decide) (by decide) (ty_6 hS.1.1) ?_
  refine Tr.tp 2 ((St.kp hS (by decide) (by decide) (by decide)).trans en_6_2) ?_
  refine Tr.getf (pc := 4) d_X5_takeNumber_4 f_5_50 (by decide) (by decide) (ty_2 hS.1.1) ?_
  refine Tr.tp 3 (fx_2_0 hS.1.1) ?_
  refine Tr.aload_n (pc := 7) (i := 0) d_X5_takeNumber_7 rfl rfl ?_
  refine Tr.getf (pc := 8) d_X5_takeNumber_8 f_5_36 (by decide) (by decide) (ty_6 hS.1.1) ?_
  refine Tr.gen (P := fun v => 0 ≤ v ∧ v ≤ 900) (ir_6_5 hS.1.2.1) (fun r8 er8 br8 => ?_)
  refine Tr.iald (pc := 11) d_X5_takeNumber_11 (ty_3 hS.1.1) (by omega) (by omega) ?_
  refine Tr.gen (P := fun v => (-2147483648) ≤ v ∧ v ≤ 2147483647) (ar_3 hS.1.2.1 _) (fun r11 er11 br11 => ?_)
  refine Tr.iconst (pc := 12) d_X5_takeNumber_12 (by decide) ?_
  refine Tr.icmp_eq (pc := 13) (tgt := 24) d_X5_takeNumber_13 rfl (fun c13 => ?_) (fun c13 => ?_)
  · refine Tr.aload_n (pc := 24) (i := 0) d_X5_takeNumber_24 rfl rfl ?_
    refine Tr.getf (pc := 25) d_X5_takeNumber_25 f_5_18 (by decide) (by decide) (ty_6 hS.1.1) ?_
    refine Tr.tp 2 ((St.kp hS (by decide) (by decide) (by decide)).trans en_6_2) ?_
    refine Tr.getf (pc := 28) d_X5_takeNumber_28 f_5_68 (by decide) (by decide) (ty_2 hS.1.1) ?_
    refine Tr.tp 5 (fx_2_2 hS.1.1) ?_
    refine Tr.aload_n (pc := 31) (i := 0) d_X5_takeNumber_31 rfl rfl ?_
    refine Tr.getf (pc := 32) d_X5_takeNumber_32 f_5_36 (by decide) (by decide) (ty_6 hS.1.1) ?_
    refine Tr.tp r8 er8 ?_
    refine Tr.iald (pc := 35) d_X5_takeNumber_35 (ty_5 hS.1.1) (by omega) (by omega) ?_
    refine Tr.gen (P := fun v => (-2147483648) ≤ v ∧ v ≤ 2147483647) (ar_5 hS.1.2.1 _) (fun r35 er35 br35 => ?_)
    refine Tr.istore_n (pc := 36) (i := 3) (ls2 := [(3, (0, r35)), (0, (2, 6)), (1, (0, a1)), (2, (0, a2))]) d_X5_takeNumber_36 rfl (by decide) rfl ?_
    refine Tr.iload_n (pc := 37) (i := 3) d_X5_takeNumber_37 rfl rfl ?_
    refine Tr.iload_n (pc := 38) (i := 1) d_X5_takeNumber_38 rfl rfl ?_
    have J47 : ∀ (M : Mem), St Tru ws_X5_takeNumber_6_w1 as_X5_takeNumber_6_w1 M0 M → rd M 3 r8 = r11 → rd M 5 r8 = r35 → rd M 6 5 = r8 → Tr l K 1 mX5_takeNumber 47 [(0, (2, 6))] [] M (q_X5_takeNumber_6_w1 M0) := by
      intro M  hS  k47_3_r810 k47_5_r810 k47_6_5
      refine Tr.aload_n (pc := 47) (i := 0) d_X5_takeNumber_47 rfl rfl ?_
      refine Tr.iconst (pc := 48) d_X5_takeNumber_48 (by decide) ?_
      refine Tr.callV (pc := 49) (as := [_]) d_X5_takeNumber_49 s_5_56 ok_X5_refuse rfl rfl (Nat.le_of_ble_eq_true rfl) (Nat.le_of_ble_eq_true rfl) (by decide) (ty_6 hS.1.1) ?_
      refine Tr.imp (Tr.deep (by decide) (sp_X5_refuse_6_w3 hS.1 ((St.kp hS (by decide) (by decide) (by decide)).trans en_6_2) 4 (by omega))) ?_
      rintro M49 _ ⟨h49, r49, rfl, lr49, ur49⟩
      have hS := St.tr hS h49 (by decide) (by decide)
      refine Tr.sc [(0, r49)] rfl ?_
      refine Tr.pop (pc := 52) d_X5_takeNumber_52 ne01 ?_
      refine Tr.iconst (pc := 53) d_X5_takeNumber_53 (by decide) ?_
      exact Tr.iret (pc := 54) d_X5_takeNumber_54 rfl ⟨hS, _, rfl, by omega, by omega⟩
    refine Tr.icmp_lt (pc := 39) (tgt := 47) d_X5_takeNumber_39 rfl (fun c39 => ?_) (fun c39 => ?_)
    · refine Tr.pick [1] (ls2 := [(0, (2, 6))]) rfl ?_
      exact J47 _ hS er11 er35 er8
    · refine Tr.iload_n (pc := 42) (i := 3) d_X5_takeNumber_42 rfl rfl ?_
      refine Tr.iload_n (pc := 43) (i := 2) d_X5_takeNumber_43 rfl rfl ?_
      refine Tr.tp 99 (by omega) ?_
      refine Tr.icmp_le (pc := 44) (tgt := 55) d_X5_takeNumber_44 rfl (fun c44 => ?_) (fun c44 => ?_)
      · refine Tr.aload_n (pc := 55) (i := 0) d_X5_takeNumber_55 rfl rfl ?_
        refine Tr.callV (pc := 56) (as := []) d_X5_takeNumber_56 s_5_74 ok_X5_goOn rfl rfl (Nat.le_of_ble_eq_true rfl) (Nat.le_of_ble_eq_true rfl) (by decide) (ty_6 hS.1.1) ?_
        refine Tr.imp (Tr.deep (by decide) (sp_X5_goOn_6 hS.1 )) ?_
        rintro M56 _ ⟨h56, r56, rfl, lr56, ur56⟩
        have hS := St.tr hS h56 (by decide) (by decide)
        refine Tr.sc [(0, r56)] rfl ?_
        refine Tr.pop (pc := 59) d_X5_takeNumber_59 ne01 ?_
        refine Tr.iload_n (pc := 60) (i := 3) d_X5_takeNumber_60 rfl rfl ?_
        exact Tr.iret (pc := 61) d_X5_takeNumber_61 rfl ⟨hS, _, rfl, by omega, by omega⟩
      · refine Tr.pick [1] (ls2 := [(0, (2, 6))]) rfl ?_
        exact J47 _ hS er11 er35 er8
  · refine Tr.aload_n (pc := 16) (i := 0) d_X5_takeNumber_16 rfl rfl ?_
    refine Tr.iconst (pc := 17) d_X5_takeNumber_17 (by decide) ?_
    refine Tr.callV (pc := 18) (as := [_]) d_X5_takeNumber_18 s_5_56 ok_X5_refuse rfl rfl (Nat.le_of_ble_eq_true rfl) (Nat.le_of_ble_eq_true rfl) (by decide) (ty_6 hS.1.1) ?_
    refine Tr.imp (Tr.deep (by decide) (sp_X5_refuse_6_w1 hS.1 ((St.kp hS (by decide) (by decide) (by decide)).trans en_6_2) 1 (by omega))) ?_
    rintro M18 _ ⟨h18, r18, rfl, lr18, ur18⟩
    have hS := St.tr hS h18 (by decide) (by decide)
    refine Tr.sc [(0, r18)] rfl ?_
    refine Tr.pop (pc := 21) d_X5_takeNumber_21 ne01 ?_
    refine Tr.iconst (pc := 22) d_X5_takeNumber_22 (by decide) ?_
    exact Tr.iret (pc := 23) d_X5_takeNumber_23 rfl ⟨hS, _, rfl, by omega, by omega⟩

def ws_X5_isOwn_6 : List (Int × Int) := []
def as_X5_isOwn_6 : List Int := []
def q_X5_isOwn_6 (M0 M' : Mem) (r : Option PV) : Prop := St Tru ws_X5_isOwn_6 as_X5_isOwn_6 M0 M' ∧ ∃ v : Int, r = some (0, v) ∧ 0 ≤ v ∧ v ≤ 1
set_option maxRecDepth 100000 in
set_option maxHeartbeats 4000000 in
theorem sp_X5_isOwn_6 {l : Launch} {K : EC} {M0 : Mem} (hI : In Tru M0) (en_6_2 : rd M0 6 2 = 2) (a1 : Int) (ha1 : 10 ≤ a1 ∧ a1 ≤ 15)  : Tr l K 0 mX5_isOwn 0 [(0, (2, 6)), (1, (0, a1))] [] M0 (q_X5_isOwn_6 M0) := by
  have hS : St Tru ws_X5_isOwn_6 as_X5_isOwn_6 M0 M0 := St.rf hI
  refine Tr.aload_n (pc := 0) (i := 0) d_X5_isOwn_0 rfl rfl ?_
  refine Tr.getf (pc := 1) d_X5_isOwn_1 f_5_18 (by decide) (by decide) (ty_6 hS.1.1) ?_
  refine Tr.tp 2 ((St.kp hS (by decide) (by decide) (by decide)).trans en_6_2) ?_
  refine Tr.getf (pc := 4) d_X5_isOwn_4 f_5_50 (by decide) (by decide) (ty_2 hS.1.1) ?_
  refine Tr.tp 3 (fx_2_0 hS.1.1) ?_
  refine Tr.aload_n (pc := 7) (i := 0) d_X5_isOwn_7 rfl rfl ?_
  refine Tr.getf (pc := 8) d_X5_isOwn_8 f_5_36 (by decide) (by decide) (ty_6 hS.1.1) ?_
  refine Tr.gen (P := fun v => 0 ≤ v ∧ v ≤ 900) (ir_6_5 hS.1.2.1) (fun r8 er8 br8 => ?_)
  refine Tr.iald (pc := 11) d_X5_isOwn_11 (ty_3 hS.1.1) (by omega) (by omega) ?_
  refine Tr.gen (P := fun v => (-2147483648) ≤ v ∧ v ≤ 2147483647) (ar_3 hS.1.2.1 _) (fun r11 er11 br11 => ?_)
  refine Tr.iconst (pc := 12) d_X5_isOwn_12 (by decide) ?_
  refine Tr.icmp_ne (pc := 13) (tgt := 36) d_X5_isOwn_13 rfl (fun c13 => ?_) (fun c13 => ?_)
  · refine Tr.iconst (pc := 36) d_X5_isOwn_36 (by decide) ?_
    exact Tr.zret (pc := 37) d_X5_isOwn_37 rfl (by omega) ⟨hS, _, rfl, by omega, by omega⟩
  · refine Tr.aload_n (pc := 16) (i := 0) d_X5_isOwn_16 rfl rfl ?_
    refine Tr.getf (pc := 17) d_X5_isOwn_17 f_5_18 (by decide) (by decide) (ty_6 hS.1.1) ?_
    refine Tr.tp 2 ((St.kp hS (by decide) (by decide) (by decide)).trans en_6_2) ?_
    refine Tr.getf (pc := 20) d_X5_isOwn_20 f_5_68 (by decide) (by decide) (ty_2 hS.1.1) ?_
    refine Tr.tp 5 (fx_2_2 hS.1.1) ?_
    refine Tr.aload_n (pc := 23) (i := 0) d_X5_isOwn_23 rfl rfl ?_
    refine Tr.getf (pc := 24) d_X5_isOwn_24 f_5_36 (by decide) (by decide) (ty_6 hS.1.1) ?_
    refine Tr.tp r8 er8 ?_
    refine Tr.iald (pc := 27) d_X5_isOwn_27 (ty_5 hS.1.1) (by omega) (by omega) ?_
    refine Tr.gen (P := fun v => (-2147483648) ≤ v ∧ v ≤ 2147483647) (ar_5 hS.1.2.1 _) (fun r27 er27 br27 => ?_)
    refine Tr.iload_n (pc := 28) (i := 1) d_X5_isOwn_28 rfl rfl ?_
    refine Tr.icmp_ne (pc := 29) (tgt := 36) d_X5_isOwn_29 rfl (fun c29 => ?_) (fun c29 => ?_)
    · refine Tr.iconst (pc := 36) d_X5_isOwn_36 (by decide) ?_
      exact Tr.zret (pc := 37) d_X5_isOwn_37 rfl (by omega) ⟨hS, _, rfl, by omega, by omega⟩
    · refine Tr.iconst (pc := 32) d_X5_isOwn_32 (by decide) ?_
      refine Tr.goto (pc := 33) (tgt := 37) d_X5_isOwn_33 rfl ?_
      exact Tr.zret (pc := 37) d_X5_isOwn_37 rfl (by omega) ⟨hS, _, rfl, by omega, by omega⟩

def ws_X5_takeOwn_6 : List (Int × Int) := [(6, 0), (6, 1), (6, 5)]
def as_X5_takeOwn_6 : List Int := []
def q_X5_takeOwn_6 (M0 M' : Mem) (r : Option PV) : Prop := St Tru ws_X5_takeOwn_6 as_X5_takeOwn_6 M0 M' ∧ ∃ v : Int, r = some (0, v) ∧ 0 ≤ v ∧ v ≤ 1
set_option maxRecDepth 100000 in
set_option maxHeartbeats 4000000 in
theorem sp_X5_takeOwn_6 {l : Launch} {K : EC} {M0 : Mem} (hI : In Tru M0) (en_6_2 : rd M0 6 2 = 2) (a1 : Int) (ha1 : 10 ≤ a1 ∧ a1 ≤ 15)  : Tr l K 1 mX5_takeOwn 0 [(0, (2, 6)), (1, (0, a1))] [] M0 (q_X5_takeOwn_6 M0) := by
  have hS : St Tru ws_X5_takeOwn_6 as_X5_takeOwn_6 M0 M0 := St.rf hI
  refine Tr.aload_n (pc := 0) (i := 0) d_X5_takeOwn_0 rfl rfl ?_
  refine Tr.iload_n (pc := 1) (i := 1) d_X5_takeOwn_1 rfl rfl ?_
  refine Tr.callV (pc := 2) (as := [_]) d_X5_takeOwn_2 s_5_71 ok_X5_isOwn rfl rfl (Nat.le_of_ble_eq_true rfl) (Nat.le_of_ble_eq_true rfl) (by decide) (ty_6 hS.1.1) ?_
  refine Tr.imp (Tr.deep (by decide) (sp_X5_isOwn_6 hS.1 ((St.kp hS (by decide) (by decide) (by decide)).trans en_6_2) a1 (by omega))) ?_
  rintro M2 _ ⟨h2, r2, rfl, lr2, ur2⟩
  have hS := St.tr hS h2 (by decide) (by decide)
  refine Tr.sc [(0, r2)] rfl ?_
  refine Tr.if_eq (pc := 5) (tgt := 15) d_X5_takeOwn_5 rfl (fun c5 => ?_) (fun c5 => ?_)
  · refine Tr.aload_n (pc := 15) (i := 0) d_X5_takeOwn_15 rfl rfl ?_
    refine Tr.iconst (pc := 16) d_X5_takeOwn_16 (by decide) ?_
    refine Tr.callV (pc := 17) (as := [_]) d_X5_takeOwn_17 s_5_56 ok_X5_refuse rfl rfl (Nat.le_of_ble_eq_true rfl) (Nat.le_of_ble_eq_true rfl) (by decide) (ty_6 hS.1.1) ?_
    refine Tr.imp (Tr.deep (by decide) (sp_X5_refuse_6_w1 hS.1 ((St.kp hS (by decide) (by decide) (by decide)).trans en_6_2) 1 (by omega))) ?_
    rintro M17 _ ⟨h17, r17, rfl, lr17, ur17⟩
    have hS := St.tr hS h17 (by decide) (by decide)
    refine Tr.sc [(0, r17)] rfl ?_
    exact Tr.zret (pc := 20) d_X5_takeOwn_20 rfl (by omega) ⟨hS, _, rfl, by omega, by omega⟩
  · refine Tr.aload_n (pc := 8) (i := 0) d_X5_takeOwn_8 rfl rfl ?_
    refine Tr.callV (pc := 9) (as := []) d_X5_takeOwn_9 s_5_74 ok_X5_goOn rfl rfl (Nat.le_of_ble_eq_true rfl) (Nat.le_of_ble_eq_true rfl) (by decide) (ty_6 hS.1.1) ?_
    refine Tr.imp (Tr.deep (by decide) (sp_X5_goOn_6 hS.1 )) ?_
    rintro M9 _ ⟨h9, r9, rfl, lr9, ur9⟩
    have hS := St.tr hS h9 (by decide) (by decide)
    refine Tr.sc [(0, r9)] rfl ?_
    refine Tr.goto (pc := 12) (tgt := 20) d_X5_takeOwn_12 rfl ?_
    exact Tr.zret (pc := 20) d_X5_takeOwn_20 rfl (by omega) ⟨hS, _, rfl, by omega, by omega⟩

def ws_X5_takeNumber_6_w2 : List (Int × Int) := [(6, 0), (6, 1), (6, 5)]
def as_X5_takeNumber_6_w2 : List Int := []
def q_X5_takeNumber_6_w2 (M0 M' : Mem) (r : Option PV) : Prop := St Tru ws_X5_takeNumber_6_w2 as_X5_takeNumber_6_w2 M0 M' ∧ ∃ v : Int, r = some (0, v) ∧ (-1) ≤ v ∧ v ≤ 999
set_option maxRecDepth 100000 in
set_option maxHeartbeats 4000000 in
theorem sp_X5_takeNumber_6_w2 {l : Launch} {K : EC} {M0 : Mem} (hI : In Tru M0) (en_6_2 : rd M0 6 2 = 2) (a1 : Int) (ha1 : 0 ≤ a1 ∧ a1 ≤ 0) (a2 : Int) (ha2 : 999 ≤ a2 ∧ a2 ≤ 999)  : Tr l K 1 mX5_takeNumber 0 [(0, (2, 6)), (1, (0, a1)), (2, (0, a2))] [] M0 (q_X5_takeNumber_6_w2 M0) := by
  have hS : St Tru ws_X5_takeNumber_6_w2 as_X5_takeNumber_6_w2 M0 M0 := St.rf hI
  refine Tr.aload_n (pc := 0) (i := 0) d_X5_takeNumber_0 rfl rfl ?_
  refine Tr.getf (pc := 1) d_X5_takeNumber_1 f_5_18 (by decide) (by decide) (ty_6 hS.1.1) ?_
  refine Tr.tp 2 ((St.kp hS (by decide) (by decide) (by decide)).trans en_6_2) ?_
  refine Tr.getf (pc := 4) d_X5_takeNumber_4 f_5_50 (by decide) (by decide) (ty_2 hS.1.1) ?_
  refine Tr.tp 3 (fx_2_0 hS.1.1) ?_
  refine Tr.aload_n (pc := 7) (i := 0) d_X5_takeNumber_7 rfl rfl ?_
  refine Tr.getf (pc := 8) d_X5_takeNumber_8 f_5_36 (by decide) (by decide) (ty_6 hS.1.1) ?_
  refine Tr.gen (P := fun v => 0 ≤ v ∧ v ≤ 900) (ir_6_5 hS.1.2.1) (fun r8 er8 br8 => ?_)
  refine Tr.iald (pc := 11) d_X5_takeNumber_11 (ty_3 hS.1.1) (by omega) (by omega) ?_
  refine Tr.gen (P := fun v => (-2147483648) ≤ v ∧ v ≤ 2147483647) (ar_3 hS.1.2.1 _) (fun r11 er11 br11 => ?_)
  refine Tr.iconst (pc := 12) d_X5_takeNumber_12 (by decide) ?_
  refine Tr.icmp_eq (pc := 13) (tgt := 24) d_X5_takeNumber_13 rfl (fun c13 => ?_) (fun c13 => ?_)
  · refine Tr.aload_n (pc := 24) (i := 0) d_X5_takeNumber_24 rfl rfl ?_
    refine Tr.getf (pc := 25) d_X5_takeNumber_25 f_5_18 (by decide) (by decide) (ty_6 hS.1.1) ?_
    refine Tr.tp 2 ((St.kp hS (by decide) (by decide) (by decide)).trans en_6_2) ?_
    refine Tr.getf (pc := 28) d_X5_takeNumber_28 f_5_68 (by decide) (by decide) (ty_2 hS.1.1) ?_
    refine Tr.tp 5 (fx_2_2 hS.1.1) ?_
    refine Tr.aload_n (pc := 31) (i := 0) d_X5_takeNumber_31 rfl rfl ?_
    refine Tr.getf (pc := 32) d_X5_takeNumber_32 f_5_36 (by decide) (by decide) (ty_6 hS.1.1) ?_
    refine Tr.tp r8 er8 ?_
    refine Tr.iald (pc := 35) d_X5_takeNumber_35 (ty_5 hS.1.1) (by omega) (by omega) ?_
    refine Tr.gen (P := fun v => (-2147483648) ≤ v ∧ v ≤ 2147483647) (ar_5 hS.1.2.1 _) (fun r35 er35 br35 => ?_)
    refine Tr.istore_n (pc := 36) (i := 3) (ls2 := [(3, (0, r35)), (0, (2, 6)), (1, (0, a1)), (2, (0, a2))]) d_X5_takeNumber_36 rfl (by decide) rfl ?_
    refine Tr.iload_n (pc := 37) (i := 3) d_X5_takeNumber_37 rfl rfl ?_
    refine Tr.iload_n (pc := 38) (i := 1) d_X5_takeNumber_38 rfl rfl ?_
    refine Tr.tp 0 (by omega) ?_
    have J47 : ∀ (M : Mem), St Tru ws_X5_takeNumber_6_w2 as_X5_takeNumber_6_w2 M0 M → rd M 3 r8 = r11 → rd M 5 r8 = r35 → rd M 6 5 = r8 → Tr l K 1 mX5_takeNumber 47 [(0, (2, 6))] [] M (q_X5_takeNumber_6_w2 M0) := by
      intro M  hS  k47_3_r810 k47_5_r810 k47_6_5
      refine Tr.aload_n (pc := 47) (i := 0) d_X5_takeNumber_47 rfl rfl ?_
      refine Tr.iconst (pc := 48) d_X5_takeNumber_48 (by decide) ?_
      refine Tr.callV (pc := 49) (as := [_]) d_X5_takeNumber_49 s_5_56 ok_X5_refuse rfl rfl (Nat.le_of_ble_eq_true rfl) (Nat.le_of_ble_eq_true rfl) (by decide) (ty_6 hS.1.1) ?_
      refine Tr.imp (Tr.deep (by decide) (sp_X5_refuse_6_w3 hS.1 ((St.kp hS (by decide) (by decide) (by decide)).trans en_6_2) 4 (by omega))) ?_
      rintro M49 _ ⟨h49, r49, rfl, lr49, ur49⟩
      have hS := St.tr hS h49 (by decide) (by decide)
      refine Tr.sc [(0, r49)] rfl ?_
      refine Tr.pop (pc := 52) d_X5_takeNumber_52 ne01 ?_
      refine Tr.iconst (pc := 53) d_X5_takeNumber_53 (by decide) ?_
      exact Tr.iret (pc := 54) d_X5_takeNumber_54 rfl ⟨hS, _, rfl, by omega, by omega⟩
    refine Tr.icmp_lt (pc := 39) (tgt := 47) d_X5_takeNumber_39 rfl (fun c39 => ?_) (fun c39 => ?_)
    · refine Tr.pick [1] (ls2 := [(0, (2, 6))]) rfl ?_
      exact J47 _ hS er11 er35 er8
    · refine Tr.iload_n (pc := 42) (i := 3) d_X5_takeNumber_42 rfl rfl ?_
      refine Tr.iload_n (pc := 43) (i := 2) d_X5_takeNumber_43 rfl rfl ?_
      refine Tr.tp 999 (by omega) ?_
      refine Tr.icmp_le (pc := 44) (tgt := 55) d_X5_takeNumber_44 rfl (fun c44 => ?_) (fun c44 => ?_)
      · refine Tr.aload_n (pc := 55) (i := 0) d_X5_takeNumber_55 rfl rfl ?_
        refine Tr.callV (pc := 56) (as := []) d_X5_takeNumber_56 s_5_74 ok_X5_goOn rfl rfl (Nat.le_of_ble_eq_true rfl) (Nat.le_of_ble_eq_true rfl) (by decide) (ty_6 hS.1.1) ?_
        refine Tr.imp (Tr.deep (by decide) (sp_X5_goOn_6 hS.1 )) ?_
        rintro M56 _ ⟨h56, r56, rfl, lr56, ur56⟩
        have hS := St.tr hS h56 (by decide) (by decide)
        refine Tr.sc [(0, r56)] rfl ?_
        refine Tr.pop (pc := 59) d_X5_takeNumber_59 ne01 ?_
        refine Tr.iload_n (pc := 60) (i := 3) d_X5_takeNumber_60 rfl rfl ?_
        exact Tr.iret (pc := 61) d_X5_takeNumber_61 rfl ⟨hS, _, rfl, by omega, by omega⟩
      · refine Tr.pick [1] (ls2 := [(0, (2, 6))]) rfl ?_
        exact J47 _ hS er11 er35 er8
  · refine Tr.aload_n (pc := 16) (i := 0) d_X5_takeNumber_16 rfl rfl ?_
    refine Tr.iconst (pc := 17) d_X5_takeNumber_17 (by decide) ?_
    refine Tr.callV (pc := 18) (as := [_]) d_X5_takeNumber_18 s_5_56 ok_X5_refuse rfl rfl (Nat.le_of_ble_eq_true rfl) (Nat.le_of_ble_eq_true rfl) (by decide) (ty_6 hS.1.1) ?_
    refine Tr.imp (Tr.deep (by decide) (sp_X5_refuse_6_w1 hS.1 ((St.kp hS (by decide) (by decide) (by decide)).trans en_6_2) 1 (by omega))) ?_
    rintro M18 _ ⟨h18, r18, rfl, lr18, ur18⟩
    have hS := St.tr hS h18 (by decide) (by decide)
    refine Tr.sc [(0, r18)] rfl ?_
    refine Tr.pop (pc := 21) d_X5_takeNumber_21 ne01 ?_
    refine Tr.iconst (pc := 22) d_X5_takeNumber_22 (by decide) ?_
    exact Tr.iret (pc := 23) d_X5_takeNumber_23 rfl ⟨hS, _, rfl, by omega, by omega⟩

def ws_X5_takeTold_6 : List (Int × Int) := [(6, 0), (6, 1), (6, 5)]
def as_X5_takeTold_6 : List Int := []
def q_X5_takeTold_6 (M0 M' : Mem) (r : Option PV) : Prop := St Tru ws_X5_takeTold_6 as_X5_takeTold_6 M0 M' ∧ ∃ v : Int, r = some (0, v) ∧ (-1) ≤ v ∧ v ≤ 999
set_option maxRecDepth 100000 in
set_option maxHeartbeats 4000000 in
theorem sp_X5_takeTold_6 {l : Launch} {K : EC} {M0 : Mem} (hI : In Tru M0) (en_6_2 : rd M0 6 2 = 2) (a1 : Int) (ha1 : 10 ≤ a1 ∧ a1 ≤ 15) (a2 : Int) (ha2 : 999 ≤ a2 ∧ a2 ≤ 999)  : Tr l K 2 mX5_takeTold 0 [(0, (2, 6)), (1, (0, a1)), (2, (0, a2))] [] M0 (q_X5_takeTold_6 M0) := by
  have hS : St Tru ws_X5_takeTold_6 as_X5_takeTold_6 M0 M0 := St.rf hI
  refine Tr.aload_n (pc := 0) (i := 0) d_X5_takeTold_0 rfl rfl ?_
  refine Tr.iload_n (pc := 1) (i := 1) d_X5_takeTold_1 rfl rfl ?_
  refine Tr.callV (pc := 2) (as := [_]) d_X5_takeTold_2 s_5_84 ok_X5_takeOwn rfl rfl (Nat.le_of_ble_eq_true rfl) (Nat.le_of_ble_eq_true rfl) (by decide) (ty_6 hS.1.1) ?_
  refine Tr.imp (Tr.deep (by decide) (sp_X5_takeOwn_6 hS.1 ((St.kp hS (by decide) (by decide) (by decide)).trans en_6_2) a1 (by omega))) ?_
  rintro M2 _ ⟨h2, r2, rfl, lr2, ur2⟩
  have hS := St.tr hS h2 (by decide) (by decide)
  refine Tr.sc [(0, r2)] rfl ?_
  refine Tr.if_eq (pc := 5) (tgt := 17) d_X5_takeTold_5 rfl (fun c5 => ?_) (fun c5 => ?_)
  · refine Tr.iconst (pc := 17) d_X5_takeTold_17 (by decide) ?_
    exact Tr.iret (pc := 18) d_X5_takeTold_18 rfl ⟨hS, _, rfl, by omega, by omega⟩
  · refine Tr.aload_n (pc := 8) (i := 0) d_X5_takeTold_8 rfl rfl ?_
    refine Tr.iconst (pc := 9) d_X5_takeTold_9 (by decide) ?_
    refine Tr.iload_n (pc := 10) (i := 2) d_X5_takeTold_10 rfl rfl ?_
    refine Tr.tp 999 (by omega) ?_
    refine Tr.callV (pc := 11) (as := [_, _]) d_X5_takeTold_11 s_5_87 ok_X5_takeNumber rfl rfl (Nat.le_of_ble_eq_true rfl) (Nat.le_of_ble_eq_true rfl) (by decide) (ty_6 hS.1.1) ?_
    refine Tr.imp (Tr.deep (by decide) (sp_X5_takeNumber_6_w2 hS.1 ((St.kp hS (by decide) (by decide) (by decide)).trans en_6_2) 0 (by omega) 999 (by omega))) ?_
    rintro M11 _ ⟨h11, r11, rfl, lr11, ur11⟩
    have hS := St.tr hS h11 (by decide) (by decide)
    refine Tr.sc [(0, r11)] rfl ?_
    refine Tr.goto (pc := 14) (tgt := 18) d_X5_takeTold_14 rfl ?_
    exact Tr.iret (pc := 18) d_X5_takeTold_18 rfl ⟨hS, _, rfl, by omega, by omega⟩

def ws_X5_takeNumber_6_w3 : List (Int × Int) := [(6, 0), (6, 1), (6, 5)]
def as_X5_takeNumber_6_w3 : List Int := []
def q_X5_takeNumber_6_w3 (M0 M' : Mem) (r : Option PV) : Prop := St Tru ws_X5_takeNumber_6_w3 as_X5_takeNumber_6_w3 M0 M' ∧ ∃ v : Int, r = some (0, v) ∧ (-1) ≤ v ∧ v ≤ 20
set_option maxRecDepth 100000 in
set_option maxHeartbeats 4000000 in
theorem sp_X5_takeNumber_6_w3 {l : Launch} {K : EC} {M0 : Mem} (hI : In Tru M0) (en_6_2 : rd M0 6 2 = 2) (a1 : Int) (ha1 : 0 ≤ a1 ∧ a1 ≤ 0) (a2 : Int) (ha2 : 20 ≤ a2 ∧ a2 ≤ 20)  : Tr l K 1 mX5_takeNumber 0 [(0, (2, 6)), (1, (0, a1)), (2, (0, a2))] [] M0 (q_X5_takeNumber_6_w3 M0) := by
  have hS : St Tru ws_X5_takeNumber_6_w3 as_X5_takeNumber_6_w3 M0 M0 := St.rf hI
  refine Tr.aload_n (pc := 0) (i := 0) d_X5_takeNumber_0 rfl rfl ?_
  refine Tr.getf (pc := 1) d_X5_takeNumber_1 f_5_18 (by decide) (by decide) (ty_6 hS.1.1) ?_
  refine Tr.tp 2 ((St.kp hS (by decide) (by decide) (by decide)).trans en_6_2) ?_
  refine Tr.getf (pc := 4) d_X5_takeNumber_4 f_5_50 (by decide) (by decide) (ty_2 hS.1.1) ?_
  refine Tr.tp 3 (fx_2_0 hS.1.1) ?_
  refine Tr.aload_n (pc := 7) (i := 0) d_X5_takeNumber_7 rfl rfl ?_
  refine Tr.getf (pc := 8) d_X5_takeNumber_8 f_5_36 (by decide) (by decide) (ty_6 hS.1.1) ?_
  refine Tr.gen (P := fun v => 0 ≤ v ∧ v ≤ 900) (ir_6_5 hS.1.2.1) (fun r8 er8 br8 => ?_)
  refine Tr.iald (pc := 11) d_X5_takeNumber_11 (ty_3 hS.1.1) (by omega) (by omega) ?_
  refine Tr.gen (P := fun v => (-2147483648) ≤ v ∧ v ≤ 2147483647) (ar_3 hS.1.2.1 _) (fun r11 er11 br11 => ?_)
  refine Tr.iconst (pc := 12) d_X5_takeNumber_12 (by decide) ?_
  refine Tr.icmp_eq (pc := 13) (tgt := 24) d_X5_takeNumber_13 rfl (fun c13 => ?_) (fun c13 => ?_)
  · refine Tr.aload_n (pc := 24) (i := 0) d_X5_takeNumber_24 rfl rfl ?_
    refine Tr.getf (pc := 25) d_X5_takeNumber_25 f_5_18 (by decide) (by decide) (ty_6 hS.1.1) ?_
    refine Tr.tp 2 ((St.kp hS (by decide) (by decide) (by decide)).trans en_6_2) ?_
    refine Tr.getf (pc := 28) d_X5_takeNumber_28 f_5_68 (by decide) (by decide) (ty_2 hS.1.1) ?_
    refine Tr.tp 5 (fx_2_2 hS.1.1) ?_
    refine Tr.aload_n (pc := 31) (i := 0) d_X5_takeNumber_31 rfl rfl ?_
    refine Tr.getf (pc := 32) d_X5_takeNumber_32 f_5_36 (by decide) (by decide) (ty_6 hS.1.1) ?_
    refine Tr.tp r8 er8 ?_
    refine Tr.iald (pc := 35) d_X5_takeNumber_35 (ty_5 hS.1.1) (by omega) (by omega) ?_
    refine Tr.gen (P := fun v => (-2147483648) ≤ v ∧ v ≤ 2147483647) (ar_5 hS.1.2.1 _) (fun r35 er35 br35 => ?_)
    refine Tr.istore_n (pc := 36) (i := 3) (ls2 := [(3, (0, r35)), (0, (2, 6)), (1, (0, a1)), (2, (0, a2))]) d_X5_takeNumber_36 rfl (by decide) rfl ?_
    refine Tr.iload_n (pc := 37) (i := 3) d_X5_takeNumber_37 rfl rfl ?_
    refine Tr.iload_n (pc := 38) (i := 1) d_X5_takeNumber_38 rfl rfl ?_
    refine Tr.tp 0 (by omega) ?_
    have J47 : ∀ (M : Mem), St Tru ws_X5_takeNumber_6_w3 as_X5_takeNumber_6_w3 M0 M → rd M 3 r8 = r11 → rd M 5 r8 = r35 → rd M 6 5 = r8 → Tr l K 1 mX5_takeNumber 47 [(0, (2, 6))] [] M (q_X5_takeNumber_6_w3 M0) := by
      intro M  hS  k47_3_r810 k47_5_r810 k47_6_5
      refine Tr.aload_n (pc := 47) (i := 0) d_X5_takeNumber_47 rfl rfl ?_
      refine Tr.iconst (pc := 48) d_X5_takeNumber_48 (by decide) ?_
      refine Tr.callV (pc := 49) (as := [_]) d_X5_takeNumber_49 s_5_56 ok_X5_refuse rfl rfl (Nat.le_of_ble_eq_true rfl) (Nat.le_of_ble_eq_true rfl) (by decide) (ty_6 hS.1.1) ?_
      refine Tr.imp (Tr.deep (by decide) (sp_X5_refuse_6_w3 hS.1 ((St.kp hS (by decide) (by decide) (by decide)).trans en_6_2) 4 (by omega))) ?_
      rintro M49 _ ⟨h49, r49, rfl, lr49, ur49⟩
      have hS := St.tr hS h49 (by decide) (by decide)
      refine Tr.sc [(0, r49)] rfl ?_
      refine Tr.pop (pc := 52) d_X5_takeNumber_52 ne01 ?_
      refine Tr.iconst (pc := 53) d_X5_takeNumber_53 (by decide) ?_
      exact Tr.iret (pc := 54) d_X5_takeNumber_54 rfl ⟨hS, _, rfl, by omega, by omega⟩
    refine Tr.icmp_lt (pc := 39) (tgt := 47) d_X5_takeNumber_39 rfl (fun c39 => ?_) (fun c39 => ?_)
    · refine Tr.pick [1] (ls2 := [(0, (2, 6))]) rfl ?_
      exact J47 _ hS er11 er35 er8
    · refine Tr.iload_n (pc := 42) (i := 3) d_X5_takeNumber_42 rfl rfl ?_
      refine Tr.iload_n (pc := 43) (i := 2) d_X5_takeNumber_43 rfl rfl ?_
      refine Tr.tp 20 (by omega) ?_
      refine Tr.icmp_le (pc := 44) (tgt := 55) d_X5_takeNumber_44 rfl (fun c44 => ?_) (fun c44 => ?_)
      · refine Tr.aload_n (pc := 55) (i := 0) d_X5_takeNumber_55 rfl rfl ?_
        refine Tr.callV (pc := 56) (as := []) d_X5_takeNumber_56 s_5_74 ok_X5_goOn rfl rfl (Nat.le_of_ble_eq_true rfl) (Nat.le_of_ble_eq_true rfl) (by decide) (ty_6 hS.1.1) ?_
        refine Tr.imp (Tr.deep (by decide) (sp_X5_goOn_6 hS.1 )) ?_
        rintro M56 _ ⟨h56, r56, rfl, lr56, ur56⟩
        have hS := St.tr hS h56 (by decide) (by decide)
        refine Tr.sc [(0, r56)] rfl ?_
        refine Tr.pop (pc := 59) d_X5_takeNumber_59 ne01 ?_
        refine Tr.iload_n (pc := 60) (i := 3) d_X5_takeNumber_60 rfl rfl ?_
        exact Tr.iret (pc := 61) d_X5_takeNumber_61 rfl ⟨hS, _, rfl, by omega, by omega⟩
      · refine Tr.pick [1] (ls2 := [(0, (2, 6))]) rfl ?_
        exact J47 _ hS er11 er35 er8
  · refine Tr.aload_n (pc := 16) (i := 0) d_X5_takeNumber_16 rfl rfl ?_
    refine Tr.iconst (pc := 17) d_X5_takeNumber_17 (by decide) ?_
    refine Tr.callV (pc := 18) (as := [_]) d_X5_takeNumber_18 s_5_56 ok_X5_refuse rfl rfl (Nat.le_of_ble_eq_true rfl) (Nat.le_of_ble_eq_true rfl) (by decide) (ty_6 hS.1.1) ?_
    refine Tr.imp (Tr.deep (by decide) (sp_X5_refuse_6_w1 hS.1 ((St.kp hS (by decide) (by decide) (by decide)).trans en_6_2) 1 (by omega))) ?_
    rintro M18 _ ⟨h18, r18, rfl, lr18, ur18⟩
    have hS := St.tr hS h18 (by decide) (by decide)
    refine Tr.sc [(0, r18)] rfl ?_
    refine Tr.pop (pc := 21) d_X5_takeNumber_21 ne01 ?_
    refine Tr.iconst (pc := 22) d_X5_takeNumber_22 (by decide) ?_
    exact Tr.iret (pc := 23) d_X5_takeNumber_23 rfl ⟨hS, _, rfl, by omega, by omega⟩

def ws_X5_takeTold_6_w1 : List (Int × Int) := [(6, 0), (6, 1), (6, 5)]
def as_X5_takeTold_6_w1 : List Int := []
def q_X5_takeTold_6_w1 (M0 M' : Mem) (r : Option PV) : Prop := St Tru ws_X5_takeTold_6_w1 as_X5_takeTold_6_w1 M0 M' ∧ ∃ v : Int, r = some (0, v) ∧ (-1) ≤ v ∧ v ≤ 20
set_option maxRecDepth 100000 in
set_option maxHeartbeats 4000000 in
theorem sp_X5_takeTold_6_w1 {l : Launch} {K : EC} {M0 : Mem} (hI : In Tru M0) (en_6_2 : rd M0 6 2 = 2) (a1 : Int) (ha1 : 15 ≤ a1 ∧ a1 ≤ 15) (a2 : Int) (ha2 : 20 ≤ a2 ∧ a2 ≤ 20)  : Tr l K 2 mX5_takeTold 0 [(0, (2, 6)), (1, (0, a1)), (2, (0, a2))] [] M0 (q_X5_takeTold_6_w1 M0) := by
  have hS : St Tru ws_X5_takeTold_6_w1 as_X5_takeTold_6_w1 M0 M0 := St.rf hI
  refine Tr.aload_n (pc := 0) (i := 0) d_X5_takeTold_0 rfl rfl ?_
  refine Tr.iload_n (pc := 1) (i := 1) d_X5_takeTold_1 rfl rfl ?_
  refine Tr.tp 15 (by omega) ?_
  refine Tr.callV (pc := 2) (as := [_]) d_X5_takeTold_2 s_5_84 ok_X5_takeOwn rfl rfl (Nat.le_of_ble_eq_true rfl) (Nat.le_of_ble_eq_true rfl) (by decide) (ty_6 hS.1.1) ?_
  refine Tr.imp (Tr.deep (by decide) (sp_X5_takeOwn_6 hS.1 ((St.kp hS (by decide) (by decide) (by decide)).trans en_6_2) 15 (by omega))) ?_
  rintro M2 _ ⟨h2, r2, rfl, lr2, ur2⟩
  have hS := St.tr hS h2 (by decide) (by decide)
  refine Tr.sc [(0, r2)] rfl ?_
  refine Tr.if_eq (pc := 5) (tgt := 17) d_X5_takeTold_5 rfl (fun c5 => ?_) (fun c5 => ?_)
  · refine Tr.iconst (pc := 17) d_X5_takeTold_17 (by decide) ?_
    exact Tr.iret (pc := 18) d_X5_takeTold_18 rfl ⟨hS, _, rfl, by omega, by omega⟩
  · refine Tr.aload_n (pc := 8) (i := 0) d_X5_takeTold_8 rfl rfl ?_
    refine Tr.iconst (pc := 9) d_X5_takeTold_9 (by decide) ?_
    refine Tr.iload_n (pc := 10) (i := 2) d_X5_takeTold_10 rfl rfl ?_
    refine Tr.tp 20 (by omega) ?_
    refine Tr.callV (pc := 11) (as := [_, _]) d_X5_takeTold_11 s_5_87 ok_X5_takeNumber rfl rfl (Nat.le_of_ble_eq_true rfl) (Nat.le_of_ble_eq_true rfl) (by decide) (ty_6 hS.1.1) ?_
    refine Tr.imp (Tr.deep (by decide) (sp_X5_takeNumber_6_w3 hS.1 ((St.kp hS (by decide) (by decide) (by decide)).trans en_6_2) 0 (by omega) 20 (by omega))) ?_
    rintro M11 _ ⟨h11, r11, rfl, lr11, ur11⟩
    have hS := St.tr hS h11 (by decide) (by decide)
    refine Tr.sc [(0, r11)] rfl ?_
    refine Tr.goto (pc := 14) (tgt := 18) d_X5_takeTold_14 rfl ?_
    exact Tr.iret (pc := 18) d_X5_takeTold_18 rfl ⟨hS, _, rfl, by omega, by omega⟩
end
/-! 30.15 -/
section
def ws_X5_isOwn_6_w1 : List (Int × Int) := []
def as_X5_isOwn_6_w1 : List Int := []
def q_X5_isOwn_6_w1 (M0 M' : Mem) (r : Option PV) : Prop := St Tru ws_X5_isOwn_6_w1 as_X5_isOwn_6_w1 M0 M' ∧ ∃ v : Int, r = some (0, v) ∧ 0 ≤ v ∧ v ≤ 1
set_option maxRecDepth 100000 in
set_option maxHeartbeats 4000000 in
theorem sp_X5_isOwn_6_w1 {l : Launch} {K : EC} {M0 : Mem} (hI : In Tru M0) (en_6_2 : rd M0 6 2 = 2) (a1 : Int) (ha1 : 16 ≤ a1 ∧ a1 ≤ 16)  : Tr l K 0 mX5_isOwn 0 [(0, (2, 6)), (1, (0, a1))] [] M0 (q_X5_isOwn_6_w1 M0) := by
  have hS : St Tru ws_X5_isOwn_6_w1 as_X5_isOwn_6_w1 M0 M0 := St.rf hI
  refine Tr.aload_n (pc := 0) (i := 0) d_X5_isOwn_0 rfl rfl ?_
  refine Tr.getf (pc := 1) d_X5_isOwn_1 f_5_18 (by decide) (by decide) (ty_6 hS.1.1) ?_
  refine Tr.tp 2 ((St.kp hS (by decide) (by decide) (by decide)).trans en_6_2) ?_
  refine Tr.getf (pc := 4) d_X5_isOwn_4 f_5_50 (by decide) (by decide) (ty_2 hS.1.1) ?_
  refine Tr.tp 3 (fx_2_0 hS.1.1) ?_
  refine Tr.aload_n (pc := 7) (i := 0) d_X5_isOwn_7 rfl rfl ?_
  refine Tr.getf (pc := 8) d_X5_isOwn_8 f_5_36 (by decide) (by decide) (ty_6 hS.1.1) ?_
  refine Tr.gen (P := fun v => 0 ≤ v ∧ v ≤ 900) (ir_6_5 hS.1.2.1) (fun r8 er8 br8 => ?_)
  refine Tr.iald (pc := 11) d_X5_isOwn_11 (ty_3 hS.1.1) (by omega) (by omega) ?_
  refine Tr.gen (P := fun v => (-2147483648) ≤ v ∧ v ≤ 2147483647) (ar_3 hS.1.2.1 _) (fun r11 er11 br11 => ?_)
  refine Tr.iconst (pc := 12) d_X5_isOwn_12 (by decide) ?_
  refine Tr.icmp_ne (pc := 13) (tgt := 36) d_X5_isOwn_13 rfl (fun c13 => ?_) (fun c13 => ?_)
  · refine Tr.iconst (pc := 36) d_X5_isOwn_36 (by decide) ?_
    exact Tr.zret (pc := 37) d_X5_isOwn_37 rfl (by omega) ⟨hS, _, rfl, by omega, by omega⟩
  · refine Tr.aload_n (pc := 16) (i := 0) d_X5_isOwn_16 rfl rfl ?_
    refine Tr.getf (pc := 17) d_X5_isOwn_17 f_5_18 (by decide) (by decide) (ty_6 hS.1.1) ?_
    refine Tr.tp 2 ((St.kp hS (by decide) (by decide) (by decide)).trans en_6_2) ?_
    refine Tr.getf (pc := 20) d_X5_isOwn_20 f_5_68 (by decide) (by decide) (ty_2 hS.1.1) ?_
    refine Tr.tp 5 (fx_2_2 hS.1.1) ?_
    refine Tr.aload_n (pc := 23) (i := 0) d_X5_isOwn_23 rfl rfl ?_
    refine Tr.getf (pc := 24) d_X5_isOwn_24 f_5_36 (by decide) (by decide) (ty_6 hS.1.1) ?_
    refine Tr.tp r8 er8 ?_
    refine Tr.iald (pc := 27) d_X5_isOwn_27 (ty_5 hS.1.1) (by omega) (by omega) ?_
    refine Tr.gen (P := fun v => (-2147483648) ≤ v ∧ v ≤ 2147483647) (ar_5 hS.1.2.1 _) (fun r27 er27 br27 => ?_)
    refine Tr.iload_n (pc := 28) (i := 1) d_X5_isOwn_28 rfl rfl ?_
    refine Tr.tp 16 (by omega) ?_
    refine Tr.icmp_ne (pc := 29) (tgt := 36) d_X5_isOwn_29 rfl (fun c29 => ?_) (fun c29 => ?_)
    · refine Tr.iconst (pc := 36) d_X5_isOwn_36 (by decide) ?_
      exact Tr.zret (pc := 37) d_X5_isOwn_37 rfl (by omega) ⟨hS, _, rfl, by omega, by omega⟩
    · refine Tr.iconst (pc := 32) d_X5_isOwn_32 (by decide) ?_
      refine Tr.goto (pc := 33) (tgt := 37) d_X5_isOwn_33 rfl ?_
      exact Tr.zret (pc := 37) d_X5_isOwn_37 rfl (by omega) ⟨hS, _, rfl, by omega, by omega⟩

def ws_X5_takeOwn_6_w1 : List (Int × Int) := [(6, 0), (6, 1), (6, 5)]
def as_X5_takeOwn_6_w1 : List Int := []
def q_X5_takeOwn_6_w1 (M0 M' : Mem) (r : Option PV) : Prop := St Tru ws_X5_takeOwn_6_w1 as_X5_takeOwn_6_w1 M0 M' ∧ ∃ v : Int, r = some (0, v) ∧ 0 ≤ v ∧ v ≤ 1
set_option maxRecDepth 100000 in
set_option maxHeartbeats 4000000 in
theorem sp_X5_takeOwn_6_w1 {l : Launch} {K : EC} {M0 : Mem} (hI : In Tru M0) (en_6_2 : rd M0 6 2 = 2) (a1 : Int) (ha1 : 16 ≤ a1 ∧ a1 ≤ 16)  : Tr l K 1 mX5_takeOwn 0 [(0, (2, 6)), (1, (0, a1))] [] M0 (q_X5_takeOwn_6_w1 M0) := by
  have hS : St Tru ws_X5_takeOwn_6_w1 as_X5_takeOwn_6_w1 M0 M0 := St.rf hI
  refine Tr.aload_n (pc := 0) (i := 0) d_X5_takeOwn_0 rfl rfl ?_
  refine Tr.iload_n (pc := 1) (i := 1) d_X5_takeOwn_1 rfl rfl ?_
  refine Tr.tp 16 (by omega) ?_
  refine Tr.callV (pc := 2) (as := [_]) d_X5_takeOwn_2 s_5_71 ok_X5_isOwn rfl rfl (Nat.le_of_ble_eq_true rfl) (Nat.le_of_ble_eq_true rfl) (by decide) (ty_6 hS.1.1) ?_
  refine Tr.imp (Tr.deep (by decide) (sp_X5_isOwn_6_w1 hS.1 ((St.kp hS (by decide) (by decide) (by decide)).trans en_6_2) 16 (by omega))) ?_
  rintro M2 _ ⟨h2, r2, rfl, lr2, ur2⟩
  have hS := St.tr hS h2 (by decide) (by decide)
  refine Tr.sc [(0, r2)] rfl ?_
  refine Tr.if_eq (pc := 5) (tgt := 15) d_X5_takeOwn_5 rfl (fun c5 => ?_) (fun c5 => ?_)
  · refine Tr.aload_n (pc := 15) (i := 0) d_X5_takeOwn_15 rfl rfl ?_
    refine Tr.iconst (pc := 16) d_X5_takeOwn_16 (by decide) ?_
    refine Tr.callV (pc := 17) (as := [_]) d_X5_takeOwn_17 s_5_56 ok_X5_refuse rfl rfl (Nat.le_of_ble_eq_true rfl) (Nat.le_of_ble_eq_true rfl) (by decide) (ty_6 hS.1.1) ?_
    refine Tr.imp (Tr.deep (by decide) (sp_X5_refuse_6_w1 hS.1 ((St.kp hS (by decide) (by decide) (by decide)).trans en_6_2) 1 (by omega))) ?_
    rintro M17 _ ⟨h17, r17, rfl, lr17, ur17⟩
    have hS := St.tr hS h17 (by decide) (by decide)
    refine Tr.sc [(0, r17)] rfl ?_
    exact Tr.zret (pc := 20) d_X5_takeOwn_20 rfl (by omega) ⟨hS, _, rfl, by omega, by omega⟩
  · refine Tr.aload_n (pc := 8) (i := 0) d_X5_takeOwn_8 rfl rfl ?_
    refine Tr.callV (pc := 9) (as := []) d_X5_takeOwn_9 s_5_74 ok_X5_goOn rfl rfl (Nat.le_of_ble_eq_true rfl) (Nat.le_of_ble_eq_true rfl) (by decide) (ty_6 hS.1.1) ?_
    refine Tr.imp (Tr.deep (by decide) (sp_X5_goOn_6 hS.1 )) ?_
    rintro M9 _ ⟨h9, r9, rfl, lr9, ur9⟩
    have hS := St.tr hS h9 (by decide) (by decide)
    refine Tr.sc [(0, r9)] rfl ?_
    refine Tr.goto (pc := 12) (tgt := 20) d_X5_takeOwn_12 rfl ?_
    exact Tr.zret (pc := 20) d_X5_takeOwn_20 rfl (by omega) ⟨hS, _, rfl, by omega, by omega⟩

def ws_X5_takeTold_6_w2 : List (Int × Int) := [(6, 0), (6, 1), (6, 5)]
def as_X5_takeTold_6_w2 : List Int := []
def q_X5_takeTold_6_w2 (M0 M' : Mem) (r : Option PV) : Prop := St Tru ws_X5_takeTold_6_w2 as_X5_takeTold_6_w2 M0 M' ∧ ∃ v : Int, r = some (0, v) ∧ (-1) ≤ v ∧ v ≤ 999
set_option maxRecDepth 100000 in
set_option maxHeartbeats 4000000 in
theorem sp_X5_takeTold_6_w2 {l : Launch} {K : EC} {M0 : Mem} (hI : In Tru M0) (en_6_2 : rd M0 6 2 = 2) (a1 : Int) (ha1 : 16 ≤ a1 ∧ a1 ≤ 16) (a2 : Int) (ha2 : 999 ≤ a2 ∧ a2 ≤ 999)  : Tr l K 2 mX5_takeTold 0 [(0, (2, 6)), (1, (0, a1)), (2, (0, a2))] [] M0 (q_X5_takeTold_6_w2 M0) := by
  have hS : St Tru ws_X5_takeTold_6_w2 as_X5_takeTold_6_w2 M0 M0 := St.rf hI
  refine Tr.aload_n (pc := 0) (i := 0) d_X5_takeTold_0 rfl rfl ?_
  refine Tr.iload_n (pc := 1) (i := 1) d_X5_takeTold_1 rfl rfl ?_
  refine Tr.tp 16 (by omega) ?_
  refine Tr.callV (pc := 2) (as := [_]) d_X5_takeTold_2 s_5_84 ok_X5_takeOwn rfl rfl (Nat.le_of_ble_eq_true rfl) (Nat.le_of_ble_eq_true rfl) (by decide) (ty_6 hS.1.1) ?_
  refine Tr.imp (Tr.deep (by decide) (sp_X5_takeOwn_6_w1 hS.1 ((St.kp hS (by decide) (by decide) (by decide)).trans en_6_2) 16 (by omega))) ?_
  rintro M2 _ ⟨h2, r2, rfl, lr2, ur2⟩
  have hS := St.tr hS h2 (by decide) (by decide)
  refine Tr.sc [(0, r2)] rfl ?_
  refine Tr.if_eq (pc := 5) (tgt := 17) d_X5_takeTold_5 rfl (fun c5 => ?_) (fun c5 => ?_)
  · refine Tr.iconst (pc := 17) d_X5_takeTold_17 (by decide) ?_
    exact Tr.iret (pc := 18) d_X5_takeTold_18 rfl ⟨hS, _, rfl, by omega, by omega⟩
  · refine Tr.aload_n (pc := 8) (i := 0) d_X5_takeTold_8 rfl rfl ?_
    refine Tr.iconst (pc := 9) d_X5_takeTold_9 (by decide) ?_
    refine Tr.iload_n (pc := 10) (i := 2) d_X5_takeTold_10 rfl rfl ?_
    refine Tr.tp 999 (by omega) ?_
    refine Tr.callV (pc := 11) (as := [_, _]) d_X5_takeTold_11 s_5_87 ok_X5_takeNumber rfl rfl (Nat.le_of_ble_eq_true rfl) (Nat.le_of_ble_eq_true rfl) (by decide) (ty_6 hS.1.1) ?_
    refine Tr.imp (Tr.deep (by decide) (sp_X5_takeNumber_6_w2 hS.1 ((St.kp hS (by decide) (by decide) (by decide)).trans en_6_2) 0 (by omega) 999 (by omega))) ?_
    rintro M11 _ ⟨h11, r11, rfl, lr11, ur11⟩
    have hS := St.tr hS h11 (by decide) (by decide)
    refine Tr.sc [(0, r11)] rfl ?_
    refine Tr.goto (pc := 14) (tgt := 18) d_X5_takeTold_14 rfl ?_
    exact Tr.iret (pc := 18) d_X5_takeTold_18 rfl ⟨hS, _, rfl, by omega, by omega⟩

def ws_X5_isOwn_6_w2 : List (Int × Int) := []
def as_X5_isOwn_6_w2 : List Int := []
def q_X5_isOwn_6_w2 (M0 M' : Mem) (r : Option PV) : Prop := St Tru ws_X5_isOwn_6_w2 as_X5_isOwn_6_w2 M0 M' ∧ ∃ v : Int, r = some (0, v) ∧ 0 ≤ v ∧ v ≤ 1
set_option maxRecDepth 100000 in
set_option maxHeartbeats 4000000 in
theorem sp_X5_isOwn_6_w2 {l : Launch} {K : EC} {M0 : Mem} (hI : In Tru M0) (en_6_2 : rd M0 6 2 = 2) (a1 : Int) (ha1 : 17 ≤ a1 ∧ a1 ≤ 17)  : Tr l K 0 mX5_isOwn 0 [(0, (2, 6)), (1, (0, a1))] [] M0 (q_X5_isOwn_6_w2 M0) := by
  have hS : St Tru ws_X5_isOwn_6_w2 as_X5_isOwn_6_w2 M0 M0 := St.rf hI
  refine Tr.aload_n (pc := 0) (i := 0) d_X5_isOwn_0 rfl rfl ?_
  refine Tr.getf (pc := 1) d_X5_isOwn_1 f_5_18 (by decide) (by decide) (ty_6 hS.1.1) ?_
  refine Tr.tp 2 ((St.kp hS (by decide) (by decide) (by decide)).trans en_6_2) ?_
  refine Tr.getf (pc := 4) d_X5_isOwn_4 f_5_50 (by decide) (by decide) (ty_2 hS.1.1) ?_
  refine Tr.tp 3 (fx_2_0 hS.1.1) ?_
  refine Tr.aload_n (pc := 7) (i := 0) d_X5_isOwn_7 rfl rfl ?_
  refine Tr.getf (pc := 8) d_X5_isOwn_8 f_5_36 (by decide) (by decide) (ty_6 hS.1.1) ?_
  refine Tr.gen (P := fun v => 0 ≤ v ∧ v ≤ 900) (ir_6_5 hS.1.2.1) (fun r8 er8 br8 => ?_)
  refine Tr.iald (pc := 11) d_X5_isOwn_11 (ty_3 hS.1.1) (by omega) (by omega) ?_
  refine Tr.gen (P := fun v => (-2147483648) ≤ v ∧ v ≤ 2147483647) (ar_3 hS.1.2.1 _) (fun r11 er11 br11 => ?_)
  refine Tr.iconst (pc := 12) d_X5_isOwn_12 (by decide) ?_
  refine Tr.icmp_ne (pc := 13) (tgt := 36) d_X5_isOwn_13 rfl (fun c13 => ?_) (fun c13 => ?_)
  · refine Tr.iconst (pc := 36) d_X5_isOwn_36 (by decide) ?_
    exact Tr.zret (pc := 37) d_X5_isOwn_37 rfl (by omega) ⟨hS, _, rfl, by omega, by omega⟩
  · refine Tr.aload_n (pc := 16) (i := 0) d_X5_isOwn_16 rfl rfl ?_
    refine Tr.getf (pc := 17) d_X5_isOwn_17 f_5_18 (by decide) (by decide) (ty_6 hS.1.1) ?_
    refine Tr.tp 2 ((St.kp hS (by decide) (by decide) (by decide)).trans en_6_2) ?_
    refine Tr.getf (pc := 20) d_X5_isOwn_20 f_5_68 (by decide) (by decide) (ty_2 hS.1.1) ?_
    refine Tr.tp 5 (fx_2_2 hS.1.1) ?_
    refine Tr.aload_n (pc := 23) (i := 0) d_X5_isOwn_23 rfl rfl ?_
    refine Tr.getf (pc := 24) d_X5_isOwn_24 f_5_36 (by decide) (by decide) (ty_6 hS.1.1) ?_
    refine Tr.tp r8 er8 ?_
    refine Tr.iald (pc := 27) d_X5_isOwn_27 (ty_5 hS.1.1) (by omega) (by omega) ?_
    refine Tr.gen (P := fun v => (-2147483648) ≤ v ∧ v ≤ 2147483647) (ar_5 hS.1.2.1 _) (fun r27 er27 br27 => ?_)
    refine Tr.iload_n (pc := 28) (i := 1) d_X5_isOwn_28 rfl rfl ?_
    refine Tr.tp 17 (by omega) ?_
    refine Tr.icmp_ne (pc := 29) (tgt := 36) d_X5_isOwn_29 rfl (fun c29 => ?_) (fun c29 => ?_)
    · refine Tr.iconst (pc := 36) d_X5_isOwn_36 (by decide) ?_
      exact Tr.zret (pc := 37) d_X5_isOwn_37 rfl (by omega) ⟨hS, _, rfl, by omega, by omega⟩
    · refine Tr.iconst (pc := 32) d_X5_isOwn_32 (by decide) ?_
      refine Tr.goto (pc := 33) (tgt := 37) d_X5_isOwn_33 rfl ?_
      exact Tr.zret (pc := 37) d_X5_isOwn_37 rfl (by omega) ⟨hS, _, rfl, by omega, by omega⟩

def ws_X5_takeOwn_6_w2 : List (Int × Int) := [(6, 0), (6, 1), (6, 5)]
def as_X5_takeOwn_6_w2 : List Int := []
def q_X5_takeOwn_6_w2 (M0 M' : Mem) (r : Option PV) : Prop := St Tru ws_X5_takeOwn_6_w2 as_X5_takeOwn_6_w2 M0 M' ∧ ∃ v : Int, r = some (0, v) ∧ 0 ≤ v ∧ v ≤ 1
set_option maxRecDepth 100000 in
set_option maxHeartbeats 4000000 in
theorem sp_X5_takeOwn_6_w2 {l : Launch} {K : EC} {M0 : Mem} (hI : In Tru M0) (en_6_2 : rd M0 6 2 = 2) (a1 : Int) (ha1 : 17 ≤ a1 ∧ a1 ≤ 17)  : Tr l K 1 mX5_takeOwn 0 [(0, (2, 6)), (1, (0, a1))] [] M0 (q_X5_takeOwn_6_w2 M0) := by
  have hS : St Tru ws_X5_takeOwn_6_w2 as_X5_takeOwn_6_w2 M0 M0 := St.rf hI
  refine Tr.aload_n (pc := 0) (i := 0) d_X5_takeOwn_0 rfl rfl ?_
  refine Tr.iload_n (pc := 1) (i := 1) d_X5_takeOwn_1 rfl rfl ?_
  refine Tr.tp 17 (by omega) ?_
  refine Tr.callV (pc := 2) (as := [_]) d_X5_takeOwn_2 s_5_71 ok_X5_isOwn rfl rfl (Nat.le_of_ble_eq_true rfl) (Nat.le_of_ble_eq_true rfl) (by decide) (ty_6 hS.1.1) ?_
  refine Tr.imp (Tr.deep (by decide) (sp_X5_isOwn_6_w2 hS.1 ((St.kp hS (by decide) (by decide) (by decide)).trans en_6_2) 17 (by omega))) ?_
  rintro M2 _ ⟨h2, r2, rfl, lr2, ur2⟩
  have hS := St.tr hS h2 (by decide) (by decide)
  refine Tr.sc [(0, r2)] rfl ?_
  refine Tr.if_eq (pc := 5) (tgt := 15) d_X5_takeOwn_5 rfl (fun c5 => ?_) (fun c5 => ?_)
  · refine Tr.aload_n (pc := 15) (i := 0) d_X5_takeOwn_15 rfl rfl ?_
    refine Tr.iconst (pc := 16) d_X5_takeOwn_16 (by decide) ?_
    refine Tr.callV (pc := 17) (as := [_]) d_X5_takeOwn_17 s_5_56 ok_X5_refuse rfl rfl (Nat.le_of_ble_eq_true rfl) (Nat.le_of_ble_eq_true rfl) (by decide) (ty_6 hS.1.1) ?_
    refine Tr.imp (Tr.deep (by decide) (sp_X5_refuse_6_w1 hS.1 ((St.kp hS (by decide) (by decide) (by decide)).trans en_6_2) 1 (by omega))) ?_
    rintro M17 _ ⟨h17, r17, rfl, lr17, ur17⟩
    have hS := St.tr hS h17 (by decide) (by decide)
    refine Tr.sc [(0, r17)] rfl ?_
    exact Tr.zret (pc := 20) d_X5_takeOwn_20 rfl (by omega) ⟨hS, _, rfl, by omega, by omega⟩
  · refine Tr.aload_n (pc := 8) (i := 0) d_X5_takeOwn_8 rfl rfl ?_
    refine Tr.callV (pc := 9) (as := []) d_X5_takeOwn_9 s_5_74 ok_X5_goOn rfl rfl (Nat.le_of_ble_eq_true rfl) (Nat.le_of_ble_eq_true rfl) (by decide) (ty_6 hS.1.1) ?_
    refine Tr.imp (Tr.deep (by decide) (sp_X5_goOn_6 hS.1 )) ?_
    rintro M9 _ ⟨h9, r9, rfl, lr9, ur9⟩
    have hS := St.tr hS h9 (by decide) (by decide)
    refine Tr.sc [(0, r9)] rfl ?_
    refine Tr.goto (pc := 12) (tgt := 20) d_X5_takeOwn_12 rfl ?_
    exact Tr.zret (pc := 20) d_X5_takeOwn_20 rfl (by omega) ⟨hS, _, rfl, by omega, by omega⟩

def ws_X5_takeTold_6_w3 : List (Int × Int) := [(6, 0), (6, 1), (6, 5)]
def as_X5_takeTold_6_w3 : List Int := []
def q_X5_takeTold_6_w3 (M0 M' : Mem) (r : Option PV) : Prop := St Tru ws_X5_takeTold_6_w3 as_X5_takeTold_6_w3 M0 M' ∧ ∃ v : Int, r = some (0, v) ∧ (-1) ≤ v ∧ v ≤ 999
set_option maxRecDepth 100000 in
set_option maxHeartbeats 4000000 in
theorem sp_X5_takeTold_6_w3 {l : Launch} {K : EC} {M0 : Mem} (hI : In Tru M0) (en_6_2 : rd M0 6 2 = 2) (a1 : Int) (ha1 : 17 ≤ a1 ∧ a1 ≤ 17) (a2 : Int) (ha2 : 999 ≤ a2 ∧ a2 ≤ 999)  : Tr l K 2 mX5_takeTold 0 [(0, (2, 6)), (1, (0, a1)), (2, (0, a2))] [] M0 (q_X5_takeTold_6_w3 M0) := by
  have hS : St Tru ws_X5_takeTold_6_w3 as_X5_takeTold_6_w3 M0 M0 := St.rf hI
  refine Tr.aload_n (pc := 0) (i := 0) d_X5_takeTold_0 rfl rfl ?_
  refine Tr.iload_n (pc := 1) (i := 1) d_X5_takeTold_1 rfl rfl ?_
  refine Tr.tp 17 (by omega) ?_
  refine Tr.callV (pc := 2) (as := [_]) d_X5_takeTold_2 s_5_84 ok_X5_takeOwn rfl rfl (Nat.le_of_ble_eq_true rfl) (Nat.le_of_ble_eq_true rfl) (by decide) (ty_6 hS.1.1) ?_
  refine Tr.imp (Tr.deep (by decide) (sp_X5_takeOwn_6_w2 hS.1 ((St.kp hS (by decide) (by decide) (by decide)).trans en_6_2) 17 (by omega))) ?_
  rintro M2 _ ⟨h2, r2, rfl, lr2, ur2⟩
  have hS := St.tr hS h2 (by decide) (by decide)
  refine Tr.sc [(0, r2)] rfl ?_
  refine Tr.if_eq (pc := 5) (tgt := 17) d_X5_takeTold_5 rfl (fun c5 => ?_) (fun c5 => ?_)
  · refine Tr.iconst (pc := 17) d_X5_takeTold_17 (by decide) ?_
    exact Tr.iret (pc := 18) d_X5_takeTold_18 rfl ⟨hS, _, rfl, by omega, by omega⟩
  · refine Tr.aload_n (pc := 8) (i := 0) d_X5_takeTold_8 rfl rfl ?_
    refine Tr.iconst (pc := 9) d_X5_takeTold_9 (by decide) ?_
    refine Tr.iload_n (pc := 10) (i := 2) d_X5_takeTold_10 rfl rfl ?_
    refine Tr.tp 999 (by omega) ?_
    refine Tr.callV (pc := 11) (as := [_, _]) d_X5_takeTold_11 s_5_87 ok_X5_takeNumber rfl rfl (Nat.le_of_ble_eq_true rfl) (Nat.le_of_ble_eq_true rfl) (by decide) (ty_6 hS.1.1) ?_
    refine Tr.imp (Tr.deep (by decide) (sp_X5_takeNumber_6_w2 hS.1 ((St.kp hS (by decide) (by decide) (by decide)).trans en_6_2) 0 (by omega) 999 (by omega))) ?_
    rintro M11 _ ⟨h11, r11, rfl, lr11, ur11⟩
    have hS := St.tr hS h11 (by decide) (by decide)
    refine Tr.sc [(0, r11)] rfl ?_
    refine Tr.goto (pc := 14) (tgt := 18) d_X5_takeTold_14 rfl ?_
    exact Tr.iret (pc := 18) d_X5_takeTold_18 rfl ⟨hS, _, rfl, by omega, by omega⟩

def ws_X5_isOwn_6_w3 : List (Int × Int) := []
def as_X5_isOwn_6_w3 : List Int := []
def q_X5_isOwn_6_w3 (M0 M' : Mem) (r : Option PV) : Prop := St Tru ws_X5_isOwn_6_w3 as_X5_isOwn_6_w3 M0 M' ∧ ∃ v : Int, r = some (0, v) ∧ 0 ≤ v ∧ v ≤ 1
set_option maxRecDepth 100000 in
set_option maxHeartbeats 4000000 in
theorem sp_X5_isOwn_6_w3 {l : Launch} {K : EC} {M0 : Mem} (hI : In Tru M0) (en_6_2 : rd M0 6 2 = 2) (a1 : Int) (ha1 : 17 ≤ a1 ∧ a1 ≤ 20)  : Tr l K 0 mX5_isOwn 0 [(0, (2, 6)), (1, (0, a1))] [] M0 (q_X5_isOwn_6_w3 M0) := by
  have hS : St Tru ws_X5_isOwn_6_w3 as_X5_isOwn_6_w3 M0 M0 := St.rf hI
  refine Tr.aload_n (pc := 0) (i := 0) d_X5_isOwn_0 rfl rfl ?_
  refine Tr.getf (pc := 1) d_X5_isOwn_1 f_5_18 (by decide) (by decide) (ty_6 hS.1.1) ?_
  refine Tr.tp 2 ((St.kp hS (by decide) (by decide) (by decide)).trans en_6_2) ?_
  refine Tr.getf (pc := 4) d_X5_isOwn_4 f_5_50 (by decide) (by decide) (ty_2 hS.1.1) ?_
  refine Tr.tp 3 (fx_2_0 hS.1.1) ?_
  refine Tr.aload_n (pc := 7) (i := 0) d_X5_isOwn_7 rfl rfl ?_
  refine Tr.getf (pc := 8) d_X5_isOwn_8 f_5_36 (by decide) (by decide) (ty_6 hS.1.1) ?_
  refine Tr.gen (P := fun v => 0 ≤ v ∧ v ≤ 900) (ir_6_5 hS.1.2.1) (fun r8 er8 br8 => ?_)
  refine Tr.iald (pc := 11) d_X5_isOwn_11 (ty_3 hS.1.1) (by omega) (by omega) ?_
  refine Tr.gen (P := fun v => (-2147483648) ≤ v ∧ v ≤ 2147483647) (ar_3 hS.1.2.1 _) (fun r11 er11 br11 => ?_)
  refine Tr.iconst (pc := 12) d_X5_isOwn_12 (by decide) ?_
  refine Tr.icmp_ne (pc := 13) (tgt := 36) d_X5_isOwn_13 rfl (fun c13 => ?_) (fun c13 => ?_)
  · refine Tr.iconst (pc := 36) d_X5_isOwn_36 (by decide) ?_
    exact Tr.zret (pc := 37) d_X5_isOwn_37 rfl (by omega) ⟨hS, _, rfl, by omega, by omega⟩
  · refine Tr.aload_n (pc := 16) (i := 0) d_X5_isOwn_16 rfl rfl ?_
    refine Tr.getf (pc := 17) d_X5_isOwn_17 f_5_18 (by decide) (by decide) (ty_6 hS.1.1) ?_
    refine Tr.tp 2 ((St.kp hS (by decide) (by decide) (by decide)).trans en_6_2) ?_
    refine Tr.getf (pc := 20) d_X5_isOwn_20 f_5_68 (by decide) (by decide) (ty_2 hS.1.1) ?_
    refine Tr.tp 5 (fx_2_2 hS.1.1) ?_
    refine Tr.aload_n (pc := 23) (i := 0) d_X5_isOwn_23 rfl rfl ?_
    refine Tr.getf (pc := 24) d_X5_isOwn_24 f_5_36 (by decide) (by decide) (ty_6 hS.1.1) ?_
    refine Tr.tp r8 er8 ?_
    refine Tr.iald (pc := 27) d_X5_isOwn_27 (ty_5 hS.1.1) (by omega) (by omega) ?_
    refine Tr.gen (P := fun v => (-2147483648) ≤ v ∧ v ≤ 2147483647) (ar_5 hS.1.2.1 _) (fun r27 er27 br27 => ?_)
    refine Tr.iload_n (pc := 28) (i := 1) d_X5_isOwn_28 rfl rfl ?_
    refine Tr.icmp_ne (pc := 29) (tgt := 36) d_X5_isOwn_29 rfl (fun c29 => ?_) (fun c29 => ?_)
    · refine Tr.iconst (pc := 36) d_X5_isOwn_36 (by decide) ?_
      exact Tr.zret (pc := 37) d_X5_isOwn_37 rfl (by omega) ⟨hS, _, rfl, by omega, by omega⟩
    · refine Tr.iconst (pc := 32) d_X5_isOwn_32 (by decide) ?_
      refine Tr.goto (pc := 33) (tgt := 37) d_X5_isOwn_33 rfl ?_
      exact Tr.zret (pc := 37) d_X5_isOwn_37 rfl (by omega) ⟨hS, _, rfl, by omega, by omega⟩

def ws_X5_takeOwn_6_w3 : List (Int × Int) := [(6, 0), (6, 1), (6, 5)]
def as_X5_takeOwn_6_w3 : List Int := []
def q_X5_takeOwn_6_w3 (M0 M' : Mem) (r : Option PV) : Prop := St Tru ws_X5_takeOwn_6_w3 as_X5_takeOwn_6_w3 M0 M' ∧ ∃ v : Int, r = some (0, v) ∧ 0 ≤ v ∧ v ≤ 1
set_option maxRecDepth 100000 in
set_option maxHeartbeats 4000000 in
theorem sp_X5_takeOwn_6_w3 {l : Launch} {K : EC} {M0 : Mem} (hI : In Tru M0) (en_6_2 : rd M0 6 2 = 2) (a1 : Int) (ha1 : 17 ≤ a1 ∧ a1 ≤ 20)  : Tr l K 1 mX5_takeOwn 0 [(0, (2, 6)), (1, (0, a1))] [] M0 (q_X5_takeOwn_6_w3 M0) := by
  have hS : St Tru ws_X5_takeOwn_6_w3 as_X5_takeOwn_6_w3 M0 M0 := St.rf hI
  refine Tr.aload_n (pc := 0) (i := 0) d_X5_takeOwn_0 rfl rfl ?_
  refine Tr.iload_n (pc := 1) (i := 1) d_X5_takeOwn_1 rfl rfl ?_
  refine Tr.callV (pc := 2) (as := [_]) d_X5_takeOwn_2 s_5_71 ok_X5_isOwn rfl rfl (Nat.le_of_ble_eq_true rfl) (Nat.le_of_ble_eq_true rfl) (by decide) (ty_6 hS.1.1) ?_
  refine Tr.imp (Tr.deep (by decide) (sp_X5_isOwn_6_w3 hS.1 ((St.kp hS (by decide) (by decide) (by decide)).trans en_6_2) a1 (by omega))) ?_
  rintro M2 _ ⟨h2, r2, rfl, lr2, ur2⟩
  have hS := St.tr hS h2 (by decide) (by decide)
  refine Tr.sc [(0, r2)] rfl ?_
  refine Tr.if_eq (pc := 5) (tgt := 15) d_X5_takeOwn_5 rfl (fun c5 => ?_) (fun c5 => ?_)
  · refine Tr.aload_n (pc := 15) (i := 0) d_X5_takeOwn_15 rfl rfl ?_
    refine Tr.iconst (pc := 16) d_X5_takeOwn_16 (by decide) ?_
    refine Tr.callV (pc := 17) (as := [_]) d_X5_takeOwn_17 s_5_56 ok_X5_refuse rfl rfl (Nat.le_of_ble_eq_true rfl) (Nat.le_of_ble_eq_true rfl) (by decide) (ty_6 hS.1.1) ?_
    refine Tr.imp (Tr.deep (by decide) (sp_X5_refuse_6_w1 hS.1 ((St.kp hS (by decide) (by decide) (by decide)).trans en_6_2) 1 (by omega))) ?_
    rintro M17 _ ⟨h17, r17, rfl, lr17, ur17⟩
    have hS := St.tr hS h17 (by decide) (by decide)
    refine Tr.sc [(0, r17)] rfl ?_
    exact Tr.zret (pc := 20) d_X5_takeOwn_20 rfl (by omega) ⟨hS, _, rfl, by omega, by omega⟩
  · refine Tr.aload_n (pc := 8) (i := 0) d_X5_takeOwn_8 rfl rfl ?_
    refine Tr.callV (pc := 9) (as := []) d_X5_takeOwn_9 s_5_74 ok_X5_goOn rfl rfl (Nat.le_of_ble_eq_true rfl) (Nat.le_of_ble_eq_true rfl) (by decide) (ty_6 hS.1.1) ?_
    refine Tr.imp (Tr.deep (by decide) (sp_X5_goOn_6 hS.1 )) ?_
    rintro M9 _ ⟨h9, r9, rfl, lr9, ur9⟩
    have hS := St.tr hS h9 (by decide) (by decide)
    refine Tr.sc [(0, r9)] rfl ?_
    refine Tr.goto (pc := 12) (tgt := 20) d_X5_takeOwn_12 rfl ?_
    exact Tr.zret (pc := 20) d_X5_takeOwn_20 rfl (by omega) ⟨hS, _, rfl, by omega, by omega⟩

def ws_X5_takeNumber_6_w4 : List (Int × Int) := [(6, 0), (6, 1), (6, 5)]
def as_X5_takeNumber_6_w4 : List Int := []
def q_X5_takeNumber_6_w4 (M0 M' : Mem) (r : Option PV) : Prop := St Tru ws_X5_takeNumber_6_w4 as_X5_takeNumber_6_w4 M0 M' ∧ ∃ v : Int, r = some (0, v) ∧ (-1) ≤ v ∧ v ≤ 50
set_option maxRecDepth 100000 in
set_option maxHeartbeats 4000000 in
theorem sp_X5_takeNumber_6_w4 {l : Launch} {K : EC} {M0 : Mem} (hI : In Tru M0) (en_6_2 : rd M0 6 2 = 2) (a1 : Int) (ha1 : 0 ≤ a1 ∧ a1 ≤ 0) (a2 : Int) (ha2 : 50 ≤ a2 ∧ a2 ≤ 50)  : Tr l K 1 mX5_takeNumber 0 [(0, (2, 6)), (1, (0, a1)), (2, (0, a2))] [] M0 (q_X5_takeNumber_6_w4 M0) := by
  have hS : St Tru ws_X5_takeNumber_6_w4 as_X5_takeNumber_6_w4 M0 M0 := St.rf hI
  refine Tr.aload_n (pc := 0) (i := 0) d_X5_takeNumber_0 rfl rfl ?_
  refine Tr.getf (pc := 1) d_X5_takeNumber_1 f_5_18 (by decide) (by decide) (ty_6 hS.1.1) ?_
  refine Tr.tp 2 ((St.kp hS (by decide) (by decide) (by decide)).trans en_6_2) ?_
  refine Tr.getf (pc := 4) d_X5_takeNumber_4 f_5_50 (by decide) (by decide) (ty_2 hS.1.1) ?_
  refine Tr.tp 3 (fx_2_0 hS.1.1) ?_
  refine Tr.aload_n (pc := 7) (i := 0) d_X5_takeNumber_7 rfl rfl ?_
  refine Tr.getf (pc := 8) d_X5_takeNumber_8 f_5_36 (by decide) (by decide) (ty_6 hS.1.1) ?_
  refine Tr.gen (P := fun v => 0 ≤ v ∧ v ≤ 900) (ir_6_5 hS.1.2.1) (fun r8 er8 br8 => ?_)
  refine Tr.iald (pc := 11) d_X5_takeNumber_11 (ty_3 hS.1.1) (by omega) (by omega) ?_
  refine Tr.gen (P := fun v => (-2147483648) ≤ v ∧ v ≤ 2147483647) (ar_3 hS.1.2.1 _) (fun r11 er11 br11 => ?_)
  refine Tr.iconst (pc := 12) d_X5_takeNumber_12 (by decide) ?_
  refine Tr.icmp_eq (pc := 13) (tgt := 24) d_X5_takeNumber_13 rfl (fun c13 => ?_) (fun c13 => ?_)
  · refine Tr.aload_n (pc := 24) (i := 0) d_X5_takeNumber_24 rfl rfl ?_
    refine Tr.getf (pc := 25) d_X5_takeNumber_25 f_5_18 (by decide) (by decide) (ty_6 hS.1.1) ?_
    refine Tr.tp 2 ((St.kp hS (by decide) (by decide) (by decide)).trans en_6_2) ?_
    refine Tr.getf (pc := 28) d_X5_takeNumber_28 f_5_68 (by decide) (by decide) (ty_2 hS.1.1) ?_
    refine Tr.tp 5 (fx_2_2 hS.1.1) ?_
    refine Tr.aload_n (pc := 31) (i := 0) d_X5_takeNumber_31 rfl rfl ?_
    refine Tr.getf (pc := 32) d_X5_takeNumber_32 f_5_36 (by decide) (by decide) (ty_6 hS.1.1) ?_
    refine Tr.tp r8 er8 ?_
    refine Tr.iald (pc := 35) d_X5_takeNumber_35 (ty_5 hS.1.1) (by omega) (by omega) ?_
    refine Tr.gen (P := fun v => (-2147483648) ≤ v ∧ v ≤ 2147483647) (ar_5 hS.1.2.1 _) (fun r35 er35 br35 => ?_)
    refine Tr.istore_n (pc := 36) (i := 3) (ls2 := [(3, (0, r35)), (0, (2, 6)), (1, (0, a1)), (2, (0, a2))]) d_X5_takeNumber_36 rfl (by decide) rfl ?_
    refine Tr.iload_n (pc := 37) (i := 3) d_X5_takeNumber_37 rfl rfl ?_
    refine Tr.iload_n (pc := 38) (i := 1) d_X5_takeNumber_38 rfl rfl ?_
    refine Tr.tp 0 (by omega) ?_
    have J47 : ∀ (M : Mem), St Tru ws_X5_takeNumber_6_w4 as_X5_takeNumber_6_w4 M0 M → rd M 3 r8 = r11 → rd M 5 r8 = r35 → rd M 6 5 = r8 → Tr l K 1 mX5_takeNumber 47 [(0, (2, 6))] [] M (q_X5_takeNumber_6_w4 M0) := by
      intro M  hS  k47_3_r810 k47_5_r810 k47_6_5
      refine Tr.aload_n (pc := 47) (i := 0) d_X5_takeNumber_47 rfl rfl ?_
      refine Tr.iconst (pc := 48) d_X5_takeNumber_48 (by decide) ?_
      refine Tr.callV (pc := 49) (as := [_]) d_X5_takeNumber_49 s_5_56 ok_X5_refuse rfl rfl (Nat.le_of_ble_eq_true rfl) (Nat.le_of_ble_eq_true rfl) (by decide) (ty_6 hS.1.1) ?_
      refine Tr.imp (Tr.deep (by decide) (sp_X5_refuse_6_w3 hS.1 ((St.kp hS (by decide) (by decide) (by decide)).trans en_6_2) 4 (by omega))) ?_
      rintro M49 _ ⟨h49, r49, rfl, lr49, ur49⟩
      have hS := St.tr hS h49 (by decide) (by decide)
      refine Tr.sc [(0, r49)] rfl ?_
      refine Tr.pop (pc := 52) d_X5_takeNumber_52 ne01 ?_
      refine Tr.iconst (pc := 53) d_X5_takeNumber_53 (by decide) ?_
      exact Tr.iret (pc := 54) d_X5_takeNumber_54 rfl ⟨hS, _, rfl, by omega, by omega⟩
    refine Tr.icmp_lt (pc := 39) (tgt := 47) d_X5_takeNumber_39 rfl (fun c39 => ?_) (fun c39 => ?_)
    · refine Tr.pick [1] (ls2 := [(0, (2, 6))]) rfl ?_
      exact J47 _ hS er11 er35 er8
    · refine Tr.iload_n (pc := 42) (i := 3) d_X5_takeNumber_42 rfl rfl ?_
      refine Tr.iload_n (pc := 43) (i := 2) d_X5_takeNumber_43 rfl rfl ?_
      refine Tr.tp 50 (by omega) ?_
      refine Tr.icmp_le (pc := 44) (tgt := 55) d_X5_takeNumber_44 rfl (fun c44 => ?_) (fun c44 => ?_)
      · refine Tr.aload_n (pc := 55) (i := 0) d_X5_takeNumber_55 rfl rfl ?_
        refine Tr.callV (pc := 56) (as := []) d_X5_takeNumber_56 s_5_74 ok_X5_goOn rfl rfl (Nat.le_of_ble_eq_true rfl) (Nat.le_of_ble_eq_true rfl) (by decide) (ty_6 hS.1.1) ?_
        refine Tr.imp (Tr.deep (by decide) (sp_X5_goOn_6 hS.1 )) ?_
        rintro M56 _ ⟨h56, r56, rfl, lr56, ur56⟩
        have hS := St.tr hS h56 (by decide) (by decide)
        refine Tr.sc [(0, r56)] rfl ?_
        refine Tr.pop (pc := 59) d_X5_takeNumber_59 ne01 ?_
        refine Tr.iload_n (pc := 60) (i := 3) d_X5_takeNumber_60 rfl rfl ?_
        exact Tr.iret (pc := 61) d_X5_takeNumber_61 rfl ⟨hS, _, rfl, by omega, by omega⟩
      · refine Tr.pick [1] (ls2 := [(0, (2, 6))]) rfl ?_
        exact J47 _ hS er11 er35 er8
  · refine Tr.aload_n (pc := 16) (i := 0) d_X5_takeNumber_16 rfl rfl ?_
    refine Tr.iconst (pc := 17) d_X5_takeNumber_17 (by decide) ?_
    refine Tr.callV (pc := 18) (as := [_]) d_X5_takeNumber_18 s_5_56 ok_X5_refuse rfl rfl (Nat.le_of_ble_eq_true rfl) (Nat.le_of_ble_eq_true rfl) (by decide) (ty_6 hS.1.1) ?_
    refine Tr.imp (Tr.deep (by decide) (sp_X5_refuse_6_w1 hS.1 ((St.kp hS (by decide) (by decide) (by decide)).trans en_6_2) 1 (by omega))) ?_
    rintro M18 _ ⟨h18, r18, rfl, lr18, ur18⟩
    have hS := St.tr hS h18 (by decide) (by decide)
    refine Tr.sc [(0, r18)] rfl ?_
    refine Tr.pop (pc := 21) d_X5_takeNumber_21 ne01 ?_
    refine Tr.iconst (pc := 22) d_X5_takeNumber_22 (by decide) ?_
    exact Tr.iret (pc := 23) d_X5_takeNumber_23 rfl ⟨hS, _, rfl, by omega, by omega⟩

def ws_X5_takeTold_6_w4 : List (Int × Int) := [(6, 0), (6, 1), (6, 5)]
def as_X5_takeTold_6_w4 : List Int := []
def q_X5_takeTold_6_w4 (M0 M' : Mem) (r : Option PV) : Prop := St Tru ws_X5_takeTold_6_w4 as_X5_takeTold_6_w4 M0 M' ∧ ∃ v : Int, r = some (0, v) ∧ (-1) ≤ v ∧ v ≤ 50
set_option maxRecDepth 100000 in
set_option maxHeartbeats 4000000 in
theorem sp_X5_takeTold_6_w4 {l : Launch} {K : EC} {M0 : Mem} (hI : In Tru M0) (en_6_2 : rd M0 6 2 = 2) (a1 : Int) (ha1 : 17 ≤ a1 ∧ a1 ≤ 20) (a2 : Int) (ha2 : 50 ≤ a2 ∧ a2 ≤ 50)  : Tr l K 2 mX5_takeTold 0 [(0, (2, 6)), (1, (0, a1)), (2, (0, a2))] [] M0 (q_X5_takeTold_6_w4 M0) := by
  have hS : St Tru ws_X5_takeTold_6_w4 as_X5_takeTold_6_w4 M0 M0 := St.rf hI
  refine Tr.aload_n (pc := 0) (i := 0) d_X5_takeTold_0 rfl rfl ?_
  refine Tr.iload_n (pc := 1) (i := 1) d_X5_takeTold_1 rfl rfl ?_
  refine Tr.callV (pc := 2) (as := [_]) d_X5_takeTold_2 s_5_84 ok_X5_takeOwn rfl rfl (Nat.le_of_ble_eq_true rfl) (Nat.le_of_ble_eq_true rfl) (by decide) (ty_6 hS.1.1) ?_
  refine Tr.imp (Tr.deep (by decide) (sp_X5_takeOwn_6_w3 hS.1 ((St.kp hS (by decide) (by decide) (by decide)).trans en_6_2) a1 (by omega))) ?_
  rintro M2 _ ⟨h2, r2, rfl, lr2, ur2⟩
  have hS := St.tr hS h2 (by decide) (by decide)
  refine Tr.sc [(0, r2)] rfl ?_
  refine Tr.if_eq (pc := 5) (tgt := 17) d_X5_takeTold_5 rfl (fun c5 => ?_) (fun c5 => ?_)
  · refine Tr.iconst (pc := 17) d_X5_takeTold_17 (by decide) ?_
    exact Tr.iret (pc := 18) d_X5_takeTold_18 rfl ⟨hS, _, rfl, by omega, by omega⟩
  · refine Tr.aload_n (pc := 8) (i := 0) d_X5_takeTold_8 rfl rfl ?_
    refine Tr.iconst (pc := 9) d_X5_takeTold_9 (by decide) ?_
    refine Tr.iload_n (pc := 10) (i := 2) d_X5_takeTold_10 rfl rfl ?_
    refine Tr.tp 50 (by omega) ?_
    refine Tr.callV (pc := 11) (as := [_, _]) d_X5_takeTold_11 s_5_87 ok_X5_takeNumber rfl rfl (Nat.le_of_ble_eq_true rfl) (Nat.le_of_ble_eq_true rfl) (by decide) (ty_6 hS.1.1) ?_
    refine Tr.imp (Tr.deep (by decide) (sp_X5_takeNumber_6_w4 hS.1 ((St.kp hS (by decide) (by decide) (by decide)).trans en_6_2) 0 (by omega) 50 (by omega))) ?_
    rintro M11 _ ⟨h11, r11, rfl, lr11, ur11⟩
    have hS := St.tr hS h11 (by decide) (by decide)
    refine Tr.sc [(0, r11)] rfl ?_
    refine Tr.goto (pc := 14) (tgt := 18) d_X5_takeTold_14 rfl ?_
    exact Tr.iret (pc := 18) d_X5_takeTold_18 rfl ⟨hS, _, rfl, by omega, by omega⟩

def ws_X5_takeNumber_6_w5 : List (Int × Int) := [(6, 0), (6, 1), (6, 5)]
def as_X5_takeNumber_6_w5 : List Int := []
def q_X5_takeNumber_6_w5 (M0 M' : Mem) (r : Option PV) : Prop := St Tru ws_X5_takeNumber_6_w5 as_X5_takeNumber_6_w5 M0 M' ∧ ∃ v : Int, r = some (0, v) ∧ (-1) ≤ v ∧ v ≤ 8
set_option maxRecDepth 100000 in
set_option maxHeartbeats 4000000 in
theorem sp_X5_takeNumber_6_w5 {l : Launch} {K : EC} {M0 : Mem} (hI : In Tru M0) (en_6_2 : rd M0 6 2 = 2) (a1 : Int) (ha1 : 1 ≤ a1 ∧ a1 ≤ 1) (a2 : Int) (ha2 : 8 ≤ a2 ∧ a2 ≤ 8)  : Tr l K 1 mX5_takeNumber 0 [(0, (2, 6)), (1, (0, a1)), (2, (0, a2))] [] M0 (q_X5_takeNumber_6_w5 M0) := by
  have hS : St Tru ws_X5_takeNumber_6_w5 as_X5_takeNumber_6_w5 M0 M0 := St.rf hI
  refine Tr.aload_n (pc := 0) (i := 0) d_X5_takeNumber_0 rfl rfl ?_
  refine Tr.getf (pc := 1) d_X5_takeNumber_1 f_5_18 (by decide) (by decide) (ty_6 hS.1.1) ?_
  refine Tr.tp 2 ((St.kp hS (by decide) (by decide) (by decide)).trans en_6_2) ?_
  refine Tr.getf (pc := 4) d_X5_takeNumber_4 f_5_50 (by decide) (by decide) (ty_2 hS.1.1) ?_
  refine Tr.tp 3 (fx_2_0 hS.1.1) ?_
  refine Tr.aload_n (pc := 7) (i := 0) d_X5_takeNumber_7 rfl rfl ?_
  refine Tr.getf (pc := 8) d_X5_takeNumber_8 f_5_36 (by decide) (by decide) (ty_6 hS.1.1) ?_
  refine Tr.gen (P := fun v => 0 ≤ v ∧ v ≤ 900) (ir_6_5 hS.1.2.1) (fun r8 er8 br8 => ?_)
  refine Tr.iald (pc := 11) d_X5_takeNumber_11 (ty_3 hS.1.1) (by omega) (by omega) ?_
  refine Tr.gen (P := fun v => (-2147483648) ≤ v ∧ v ≤ 2147483647) (ar_3 hS.1.2.1 _) (fun r11 er11 br11 => ?_)
  refine Tr.iconst (pc := 12) d_X5_takeNumber_12 (by decide) ?_
  refine Tr.icmp_eq (pc := 13) (tgt := 24) d_X5_takeNumber_13 rfl (fun c13 => ?_) (fun c13 => ?_)
  · refine Tr.aload_n (pc := 24) (i := 0) d_X5_takeNumber_24 rfl rfl ?_
    refine Tr.getf (pc := 25) d_X5_takeNumber_25 f_5_18 (by decide) (by decide) (ty_6 hS.1.1) ?_
    refine Tr.tp 2 ((St.kp hS (by decide) (by decide) (by decide)).trans en_6_2) ?_
    refine Tr.getf (pc := 28) d_X5_takeNumber_28 f_5_68 (by decide) (by decide) (ty_2 hS.1.1) ?_
    refine Tr.tp 5 (fx_2_2 hS.1.1) ?_
    refine Tr.aload_n (pc := 31) (i := 0) d_X5_takeNumber_31 rfl rfl ?_
    refine Tr.getf (pc := 32) d_X5_takeNumber_32 f_5_36 (by decide) (by decide) (ty_6 hS.1.1) ?_
    refine Tr.tp r8 er8 ?_
    refine Tr.iald (pc := 35) d_X5_takeNumber_35 (ty_5 hS.1.1) (by omega) (by omega) ?_
    refine Tr.gen (P := fun v => (-2147483648) ≤ v ∧ v ≤ 2147483647) (ar_5 hS.1.2.1 _) (fun r35 er35 br35 => ?_)
    refine Tr.istore_n (pc := 36) (i := 3) (ls2 := [(3, (0, r35)), (0, (2, 6)), (1, (0, a1)), (2, (0, a2))]) d_X5_takeNumber_36 rfl (by decide) rfl ?_
    refine Tr.iload_n (pc := 37) (i := 3) d_X5_takeNumber_37 rfl rfl ?_
    refine Tr.iload_n (pc := 38) (i := 1) d_X5_takeNumber_38 rfl rfl ?_
    refine Tr.tp 1 (by omega) ?_
    have J47 : ∀ (M : Mem), St Tru ws_X5_takeNumber_6_w5 as_X5_takeNumber_6_w5 M0 M → rd M 3 r8 = r11 → rd M 5 r8 = r35 → rd M 6 5 = r8 → Tr l K 1 mX5_takeNumber 47 [(0, (2, 6))] [] M (q_X5_takeNumber_6_w5 M0) := by
      intro M  hS  k47_3_r810 k47_5_r810 k47_6_5
      refine Tr.aload_n (pc := 47) (i := 0) d_X5_takeNumber_47 rfl rfl ?_
      refine Tr.iconst (pc := 48) d_X5_takeNumber_48 (by decide) ?_
      refine Tr.callV (pc := 49) (as := [_]) d_X5_takeNumber_49 s_5_56 ok_X5_refuse rfl rfl (Nat.le_of_ble_eq_true rfl) (Nat.le_of_ble_eq_true rfl) (by decide) (ty_6 hS.1.1) ?_
      refine Tr.imp (Tr.deep (by decide) (sp_X5_refuse_6_w3 hS.1 ((St.kp hS (by decide) (by decide) (by decide)).trans en_6_2) 4 (by omega))) ?_
      rintro M49 _ ⟨h49, r49, rfl, lr49, ur49⟩
      have hS := St.tr hS h49 (by decide) (by decide)
      refine Tr.sc [(0, r49)] rfl ?_
      refine Tr.pop (pc := 52) d_X5_takeNumber_52 ne01 ?_
      refine Tr.iconst (pc := 53) d_X5_takeNumber_53 (by decide) ?_
      exact Tr.iret (pc := 54) d_X5_takeNumber_54 rfl ⟨hS, _, rfl, by omega, by omega⟩
    refine Tr.icmp_lt (pc := 39) (tgt := 47) d_X5_takeNumber_39 rfl (fun c39 => ?_) (fun c39 => ?_)
    · refine Tr.pick [1] (ls2 := [(0, (2, 6))]) rfl ?_
      exact J47 _ hS er11 er35 er8
    · refine Tr.iload_n (pc := 42) (i := 3) d_X5_takeNumber_42 rfl rfl ?_
      refine Tr.iload_n (pc := 43) (i := 2) d_X5_takeNumber_43 rfl rfl ?_
      refine Tr.tp 8 (by omega) ?_
      refine Tr.icmp_le (pc := 44) (tgt := 55) d_X5_takeNumber_44 rfl (fun c44 => ?_) (fun c44 => ?_)
      · refine Tr.aload_n (pc := 55) (i := 0) d_X5_takeNumber_55 rfl rfl ?_
        refine Tr.callV (pc := 56) (as := []) d_X5_takeNumber_56 s_5_74 ok_X5_goOn rfl rfl (Nat.le_of_ble_eq_true rfl) (Nat.le_of_ble_eq_true rfl) (by decide) (ty_6 hS.1.1) ?_
        refine Tr.imp (Tr.deep (by decide) (sp_X5_goOn_6 hS.1 )) ?_
        rintro M56 _ ⟨h56, r56, rfl, lr56, ur56⟩
        have hS := St.tr hS h56 (by decide) (by decide)
        refine Tr.sc [(0, r56)] rfl ?_
        refine Tr.pop (pc := 59) d_X5_takeNumber_59 ne01 ?_
        refine Tr.iload_n (pc := 60) (i := 3) d_X5_takeNumber_60 rfl rfl ?_
        exact Tr.iret (pc := 61) d_X5_takeNumber_61 rfl ⟨hS, _, rfl, by omega, by omega⟩
      · refine Tr.pick [1] (ls2 := [(0, (2, 6))]) rfl ?_
        exact J47 _ hS er11 er35 er8
  · refine Tr.aload_n (pc := 16) (i := 0) d_X5_takeNumber_16 rfl rfl ?_
    refine Tr.iconst (pc := 17) d_X5_takeNumber_17 (by decide) ?_
    refine Tr.callV (pc := 18) (as := [_]) d_X5_takeNumber_18 s_5_56 ok_X5_refuse rfl rfl (Nat.le_of_ble_eq_true rfl) (Nat.le_of_ble_eq_true rfl) (by decide) (ty_6 hS.1.1) ?_
    refine Tr.imp (Tr.deep (by decide) (sp_X5_refuse_6_w1 hS.1 ((St.kp hS (by decide) (by decide) (by decide)).trans en_6_2) 1 (by omega))) ?_
    rintro M18 _ ⟨h18, r18, rfl, lr18, ur18⟩
    have hS := St.tr hS h18 (by decide) (by decide)
    refine Tr.sc [(0, r18)] rfl ?_
    refine Tr.pop (pc := 21) d_X5_takeNumber_21 ne01 ?_
    refine Tr.iconst (pc := 22) d_X5_takeNumber_22 (by decide) ?_
    exact Tr.iret (pc := 23) d_X5_takeNumber_23 rfl ⟨hS, _, rfl, by omega, by omega⟩

def ws_X5_cache_6 : List (Int × Int) := [(6, 0), (6, 1), (6, 5), (27, 1), (27, 2), (27, 3)]
def as_X5_cache_6 : List Int := []
def q_X5_cache_6 (M0 M' : Mem) (r : Option PV) : Prop := St Tru ws_X5_cache_6 as_X5_cache_6 M0 M' ∧ ∃ v : Int, r = some (0, v) ∧ 0 ≤ v ∧ v ≤ 1
set_option maxRecDepth 100000 in
set_option maxHeartbeats 4000000 in
theorem sp_X5_cache_6 {l : Launch} {K : EC} {M0 : Mem} (hI : In Tru M0) (en_6_2 : rd M0 6 2 = 2) (en_6_3 : rd M0 6 3 = 27)   : Tr l K 2 mX5_cache 0 [(0, (2, 6))] [] M0 (q_X5_cache_6 M0) := by
  have hS : St Tru ws_X5_cache_6 as_X5_cache_6 M0 M0 := St.rf hI
  refine Tr.aload_n (pc := 0) (i := 0) d_X5_cache_0 rfl rfl ?_
  refine Tr.callV (pc := 1) (as := []) d_X5_cache_1 s_5_74 ok_X5_goOn rfl rfl (Nat.le_of_ble_eq_true rfl) (Nat.le_of_ble_eq_true rfl) (by decide) (ty_6 hS.1.1) ?_
  refine Tr.imp (Tr.deep (by decide) (sp_X5_goOn_6 hS.1 )) ?_
  rintro M1 _ ⟨h1, r1, rfl, lr1, ur1⟩
  have hS := St.tr hS h1 (by decide) (by decide)
  refine Tr.sc [(0, r1)] rfl ?_
  refine Tr.pop (pc := 4) d_X5_cache_4 ne01 ?_
  refine Tr.aload_n (pc := 5) (i := 0) d_X5_cache_5 rfl rfl ?_
  refine Tr.iconst (pc := 6) d_X5_cache_6 (by decide) ?_
  refine Tr.bipush (pc := 7) d_X5_cache_7 rfl (by decide) ?_
  refine Tr.callV (pc := 9) (as := [_, _]) d_X5_cache_9 s_5_87 ok_X5_takeNumber rfl rfl (Nat.le_of_ble_eq_true rfl) (Nat.le_of_ble_eq_true rfl) (by decide) (ty_6 hS.1.1) ?_
  refine Tr.imp (Tr.deep (by decide) (sp_X5_takeNumber_6_w5 hS.1 ((St.kp hS (by decide) (by decide) (by decide)).trans en_6_2) 1 (by omega) 8 (by omega))) ?_
  rintro M9 _ ⟨h9, r9, rfl, lr9, ur9⟩
  have hS := St.tr hS h9 (by decide) (by decide)
  refine Tr.sc [(0, r9)] rfl ?_
  refine Tr.istore_n (pc := 12) (i := 1) (ls2 := [(1, (0, r9)), (0, (2, 6))]) d_X5_cache_12 rfl (by decide) rfl ?_
  refine Tr.iload_n (pc := 13) (i := 1) d_X5_cache_13 rfl rfl ?_
  have J28 : ∀ (M : Mem) (q28_0 : Int), St Tru ws_X5_cache_6 as_X5_cache_6 M0 M → ((-1) ≤ q28_0 ∧ q28_0 ≤ 8) → Tr l K 2 mX5_cache 28 [(0, (2, 6)), (1, (0, r9))] [(0, q28_0)] M (q_X5_cache_6 M0) := by
    intro M q28_0 hS bq28_0 
    refine Tr.istore_n (pc := 28) (i := 2) (ls2 := [(2, (0, q28_0)), (0, (2, 6)), (1, (0, r9))]) d_X5_cache_28 rfl (by decide) rfl ?_
    refine Tr.iload_n (pc := 29) (i := 2) d_X5_cache_29 rfl rfl ?_
    have J44 : ∀ (M : Mem) (q44_0 : Int), St Tru ws_X5_cache_6 as_X5_cache_6 M0 M → ((-1) ≤ q44_0 ∧ q44_0 ≤ 20) → Tr l K 2 mX5_cache 44 [(0, (2, 6)), (1, (0, r9)), (2, (0, q28_0))] [(0, q44_0)] M (q_X5_cache_6 M0) := by
      intro M q44_0 hS bq44_0 
      refine Tr.istore_n (pc := 44) (i := 3) (ls2 := [(3, (0, q44_0)), (0, (2, 6)), (1, (0, r9)), (2, (0, q28_0))]) d_X5_cache_44 rfl (by decide) rfl ?_
      refine Tr.aload_n (pc := 45) (i := 0) d_X5_cache_45 rfl rfl ?_
      refine Tr.getf (pc := 46) d_X5_cache_46 f_5_22 (by decide) (by decide) (ty_6 hS.1.1) ?_
      refine Tr.tp 27 ((St.kp hS (by decide) (by decide) (by decide)).trans en_6_3) ?_
      refine Tr.iload_n (pc := 49) (i := 1) d_X5_cache_49 rfl rfl ?_
      refine Tr.putfS (pc := 50) (P := St Tru ws_X5_cache_6 as_X5_cache_6 M0) d_X5_cache_50 f_5_117 (by decide) (by decide) (ty_27 hS.1.1) (st_27_1 hS (by decide) (by omega) trivial) (fun M50 hS w50 => ?_)
      refine Tr.aload_n (pc := 53) (i := 0) d_X5_cache_53 rfl rfl ?_
      refine Tr.getf (pc := 54) d_X5_cache_54 f_5_22 (by decide) (by decide) (ty_6 hS.1.1) ?_
      refine Tr.tp 27 ((St.kp hS (by decide) (by decide) (by decide)).trans en_6_3) ?_
      refine Tr.iload_n (pc := 57) (i := 2) d_X5_cache_57 rfl rfl ?_
      refine Tr.putfS (pc := 58) (P := St Tru ws_X5_cache_6 as_X5_cache_6 M0) d_X5_cache_58 f_5_120 (by decide) (by decide) (ty_27 hS.1.1) (st_27_2 hS (by decide) (by omega) trivial) (fun M58 hS w58 => ?_)
      refine Tr.aload_n (pc := 61) (i := 0) d_X5_cache_61 rfl rfl ?_
      refine Tr.getf (pc := 62) d_X5_cache_62 f_5_22 (by decide) (by decide) (ty_6 hS.1.1) ?_
      refine Tr.tp 27 ((St.kp hS (by decide) (by decide) (by decide)).trans en_6_3) ?_
      refine Tr.iload_n (pc := 65) (i := 3) d_X5_cache_65 rfl rfl ?_
      refine Tr.putfS (pc := 66) (P := St Tru ws_X5_cache_6 as_X5_cache_6 M0) d_X5_cache_66 f_5_123 (by decide) (by decide) (ty_27 hS.1.1) (st_27_3 hS (by decide) (by omega) trivial) (fun M66 hS w66 => ?_)
      refine Tr.iload_n (pc := 69) (i := 3) d_X5_cache_69 rfl rfl ?_
      refine Tr.if_lt (pc := 70) (tgt := 86) d_X5_cache_70 rfl (fun c70 => ?_) (fun c70 => ?_)
      · refine Tr.iconst (pc := 86) d_X5_cache_86 (by decide) ?_
        exact Tr.zret (pc := 87) d_X5_cache_87 rfl (by omega) ⟨hS, _, rfl, by omega, by omega⟩
      · refine Tr.aload_n (pc := 73) (i := 0) d_X5_cache_73 rfl rfl ?_
        refine Tr.bipush (pc := 74) d_X5_cache_74 rfl (by decide) ?_
        refine Tr.callV (pc := 76) (as := [_]) d_X5_cache_76 s_5_81 ok_X5_takeSign rfl rfl (Nat.le_of_ble_eq_true rfl) (Nat.le_of_ble_eq_true rfl) (by decide) (ty_6 hS.1.1) ?_
        refine Tr.imp (Tr.deep (by decide) (sp_X5_takeSign_6 hS.1 ((St.kp hS (by decide) (by decide) (by decide)).trans en_6_2) 59 (by omega))) ?_
        rintro M76 _ ⟨h76, r76, rfl, lr76, ur76⟩
        have hS := St.tr hS h76 (by decide) (by decide)
        refine Tr.sc [(0, r76)] rfl ?_
        refine Tr.if_eq (pc := 79) (tgt := 86) d_X5_cache_79 rfl (fun c79 => ?_) (fun c79 => ?_)
        · refine Tr.iconst (pc := 86) d_X5_cache_86 (by decide) ?_
          exact Tr.zret (pc := 87) d_X5_cache_87 rfl (by omega) ⟨hS, _, rfl, by omega, by omega⟩
        · refine Tr.iconst (pc := 82) d_X5_cache_82 (by decide) ?_
          refine Tr.goto (pc := 83) (tgt := 87) d_X5_cache_83 rfl ?_
          exact Tr.zret (pc := 87) d_X5_cache_87 rfl (by omega) ⟨hS, _, rfl, by omega, by omega⟩
    refine Tr.if_ge (pc := 30) (tgt := 37) d_X5_cache_30 rfl (fun c30 => ?_) (fun c30 => ?_)
    · refine Tr.aload_n (pc := 37) (i := 0) d_X5_cache_37 rfl rfl ?_
      refine Tr.iconst (pc := 38) d_X5_cache_38 (by decide) ?_
      refine Tr.bipush (pc := 39) d_X5_cache_39 rfl (by decide) ?_
      refine Tr.callV (pc := 41) (as := [_, _]) d_X5_cache_41 s_5_87 ok_X5_takeNumber rfl rfl (Nat.le_of_ble_eq_true rfl) (Nat.le_of_ble_eq_true rfl) (by decide) (ty_6 hS.1.1) ?_
      refine Tr.imp (Tr.deep (by decide) (sp_X5_takeNumber_6_w3 hS.1 ((St.kp hS (by decide) (by decide) (by decide)).trans en_6_2) 0 (by omega) 20 (by omega))) ?_
      rintro M41 _ ⟨h41, r41, rfl, lr41, ur41⟩
      have hS := St.tr hS h41 (by decide) (by decide)
      refine Tr.sc [(0, r41)] rfl ?_
      refine Tr.pick [1, 2, 0] (ls2 := [(0, (2, 6)), (1, (0, r9)), (2, (0, q28_0))]) rfl ?_
      exact J44 _ _ hS (by omega)
    · refine Tr.iconst (pc := 33) d_X5_cache_33 (by decide) ?_
      refine Tr.goto (pc := 34) (tgt := 44) d_X5_cache_34 rfl ?_
      refine Tr.pick [1, 2, 0] (ls2 := [(0, (2, 6)), (1, (0, r9)), (2, (0, q28_0))]) rfl ?_
      exact J44 _ _ hS (by omega)
  refine Tr.if_ge (pc := 14) (tgt := 21) d_X5_cache_14 rfl (fun c14 => ?_) (fun c14 => ?_)
  · refine Tr.aload_n (pc := 21) (i := 0) d_X5_cache_21 rfl rfl ?_
    refine Tr.iconst (pc := 22) d_X5_cache_22 (by decide) ?_
    refine Tr.bipush (pc := 23) d_X5_cache_23 rfl (by decide) ?_
    refine Tr.callV (pc := 25) (as := [_, _]) d_X5_cache_25 s_5_87 ok_X5_takeNumber rfl rfl (Nat.le_of_ble_eq_true rfl) (Nat.le_of_ble_eq_true rfl) (by decide) (ty_6 hS.1.1) ?_
    refine Tr.imp (Tr.deep (by decide) (sp_X5_takeNumber_6_w5 hS.1 ((St.kp hS (by decide) (by decide) (by decide)).trans en_6_2) 1 (by omega) 8 (by omega))) ?_
    rintro M25 _ ⟨h25, r25, rfl, lr25, ur25⟩
    have hS := St.tr hS h25 (by decide) (by decide)
    refine Tr.sc [(0, r25)] rfl ?_
    refine Tr.pick [1, 0] (ls2 := [(0, (2, 6)), (1, (0, r9))]) rfl ?_
    exact J28 _ _ hS (by omega)
  · refine Tr.iconst (pc := 17) d_X5_cache_17 (by decide) ?_
    refine Tr.goto (pc := 18) (tgt := 28) d_X5_cache_18 rfl ?_
    refine Tr.pick [1, 0] (ls2 := [(0, (2, 6)), (1, (0, r9))]) rfl ?_
    exact J28 _ _ hS (by omega)

def ws_X5_heart_6 : List (Int × Int) := [(6, 0), (6, 1), (6, 5), (27, 0)]
def as_X5_heart_6 : List Int := []
def q_X5_heart_6 (M0 M' : Mem) (r : Option PV) : Prop := St Tru ws_X5_heart_6 as_X5_heart_6 M0 M' ∧ ∃ v : Int, r = some (0, v) ∧ 0 ≤ v ∧ v ≤ 1
set_option maxRecDepth 100000 in
set_option maxHeartbeats 4000000 in
theorem sp_X5_heart_6 {l : Launch} {K : EC} {M0 : Mem} (hI : In Tru M0) (en_6_2 : rd M0 6 2 = 2) (en_6_3 : rd M0 6 3 = 27)   : Tr l K 2 mX5_heart 0 [(0, (2, 6))] [] M0 (q_X5_heart_6 M0) := by
  have hS : St Tru ws_X5_heart_6 as_X5_heart_6 M0 M0 := St.rf hI
  refine Tr.aload_n (pc := 0) (i := 0) d_X5_heart_0 rfl rfl ?_
  refine Tr.callV (pc := 1) (as := []) d_X5_heart_1 s_5_74 ok_X5_goOn rfl rfl (Nat.le_of_ble_eq_true rfl) (Nat.le_of_ble_eq_true rfl) (by decide) (ty_6 hS.1.1) ?_
  refine Tr.imp (Tr.deep (by decide) (sp_X5_goOn_6 hS.1 )) ?_
  rintro M1 _ ⟨h1, r1, rfl, lr1, ur1⟩
  have hS := St.tr hS h1 (by decide) (by decide)
  refine Tr.sc [(0, r1)] rfl ?_
  refine Tr.pop (pc := 4) d_X5_heart_4 ne01 ?_
  refine Tr.aload_n (pc := 5) (i := 0) d_X5_heart_5 rfl rfl ?_
  refine Tr.iconst (pc := 6) d_X5_heart_6 (by decide) ?_
  refine Tr.sipush (pc := 7) d_X5_heart_7 rfl (by decide) ?_
  refine Tr.callV (pc := 10) (as := [_, _]) d_X5_heart_10 s_5_87 ok_X5_takeNumber rfl rfl (Nat.le_of_ble_eq_true rfl) (Nat.le_of_ble_eq_true rfl) (by decide) (ty_6 hS.1.1) ?_
  refine Tr.imp (Tr.deep (by decide) (sp_X5_takeNumber_6_w2 hS.1 ((St.kp hS (by decide) (by decide) (by decide)).trans en_6_2) 0 (by omega) 999 (by omega))) ?_
  rintro M10 _ ⟨h10, r10, rfl, lr10, ur10⟩
  have hS := St.tr hS h10 (by decide) (by decide)
  refine Tr.sc [(0, r10)] rfl ?_
  refine Tr.istore_n (pc := 13) (i := 1) (ls2 := [(1, (0, r10)), (0, (2, 6))]) d_X5_heart_13 rfl (by decide) rfl ?_
  refine Tr.aload_n (pc := 14) (i := 0) d_X5_heart_14 rfl rfl ?_
  refine Tr.getf (pc := 15) d_X5_heart_15 f_5_22 (by decide) (by decide) (ty_6 hS.1.1) ?_
  refine Tr.tp 27 ((St.kp hS (by decide) (by decide) (by decide)).trans en_6_3) ?_
  refine Tr.iload_n (pc := 18) (i := 1) d_X5_heart_18 rfl rfl ?_
  refine Tr.putfS (pc := 19) (P := St Tru ws_X5_heart_6 as_X5_heart_6 M0) d_X5_heart_19 f_5_115 (by decide) (by decide) (ty_27 hS.1.1) (st_27_0 hS (by decide) (by omega) trivial) (fun M19 hS w19 => ?_)
  refine Tr.iload_n (pc := 22) (i := 1) d_X5_heart_22 rfl rfl ?_
  refine Tr.if_lt (pc := 23) (tgt := 39) d_X5_heart_23 rfl (fun c23 => ?_) (fun c23 => ?_)
  · refine Tr.iconst (pc := 39) d_X5_heart_39 (by decide) ?_
    exact Tr.zret (pc := 40) d_X5_heart_40 rfl (by omega) ⟨hS, _, rfl, by omega, by omega⟩
  · refine Tr.aload_n (pc := 26) (i := 0) d_X5_heart_26 rfl rfl ?_
    refine Tr.bipush (pc := 27) d_X5_heart_27 rfl (by decide) ?_
    refine Tr.callV (pc := 29) (as := [_]) d_X5_heart_29 s_5_81 ok_X5_takeSign rfl rfl (Nat.le_of_ble_eq_true rfl) (Nat.le_of_ble_eq_true rfl) (by decide) (ty_6 hS.1.1) ?_
    refine Tr.imp (Tr.deep (by decide) (sp_X5_takeSign_6 hS.1 ((St.kp hS (by decide) (by decide) (by decide)).trans en_6_2) 59 (by omega))) ?_
    rintro M29 _ ⟨h29, r29, rfl, lr29, ur29⟩
    have hS := St.tr hS h29 (by decide) (by decide)
    refine Tr.sc [(0, r29)] rfl ?_
    refine Tr.if_eq (pc := 32) (tgt := 39) d_X5_heart_32 rfl (fun c32 => ?_) (fun c32 => ?_)
    · refine Tr.iconst (pc := 39) d_X5_heart_39 (by decide) ?_
      exact Tr.zret (pc := 40) d_X5_heart_40 rfl (by omega) ⟨hS, _, rfl, by omega, by omega⟩
    · refine Tr.iconst (pc := 35) d_X5_heart_35 (by decide) ?_
      refine Tr.goto (pc := 36) (tgt := 40) d_X5_heart_36 rfl ?_
      exact Tr.zret (pc := 40) d_X5_heart_40 rfl (by omega) ⟨hS, _, rfl, by omega, by omega⟩

def ws_X5_isOrder_6 : List (Int × Int) := []
def as_X5_isOrder_6 : List Int := []
def q_X5_isOrder_6 (M0 M' : Mem) (r : Option PV) : Prop := St Tru ws_X5_isOrder_6 as_X5_isOrder_6 M0 M' ∧ ∃ v : Int, r = some (0, v) ∧ 0 ≤ v ∧ v ≤ 1
set_option maxRecDepth 100000 in
set_option maxHeartbeats 4000000 in
theorem sp_X5_isOrder_6 {l : Launch} {K : EC} {M0 : Mem} (hI : In Tru M0) (en_6_2 : rd M0 6 2 = 2)   : Tr l K 0 mX5_isOrder 0 [(0, (2, 6))] [] M0 (q_X5_isOrder_6 M0) := by
  have hS : St Tru ws_X5_isOrder_6 as_X5_isOrder_6 M0 M0 := St.rf hI
  refine Tr.aload_n (pc := 0) (i := 0) d_X5_isOrder_0 rfl rfl ?_
  refine Tr.getf (pc := 1) d_X5_isOrder_1 f_5_18 (by decide) (by decide) (ty_6 hS.1.1) ?_
  refine Tr.tp 2 ((St.kp hS (by decide) (by decide) (by decide)).trans en_6_2) ?_
  refine Tr.getf (pc := 4) d_X5_isOrder_4 f_5_68 (by decide) (by decide) (ty_2 hS.1.1) ?_
  refine Tr.tp 5 (fx_2_2 hS.1.1) ?_
  refine Tr.aload_n (pc := 7) (i := 0) d_X5_isOrder_7 rfl rfl ?_
  refine Tr.getf (pc := 8) d_X5_isOrder_8 f_5_36 (by decide) (by decide) (ty_6 hS.1.1) ?_
  refine Tr.gen (P := fun v => 0 ≤ v ∧ v ≤ 900) (ir_6_5 hS.1.2.1) (fun r8 er8 br8 => ?_)
  refine Tr.iald (pc := 11) d_X5_isOrder_11 (ty_5 hS.1.1) (by omega) (by omega) ?_
  refine Tr.gen (P := fun v => (-2147483648) ≤ v ∧ v ≤ 2147483647) (ar_5 hS.1.2.1 _) (fun r11 er11 br11 => ?_)
  refine Tr.istore_n (pc := 12) (i := 1) (ls2 := [(1, (0, r11)), (0, (2, 6))]) d_X5_isOrder_12 rfl (by decide) rfl ?_
  refine Tr.aload_n (pc := 13) (i := 0) d_X5_isOrder_13 rfl rfl ?_
  refine Tr.getf (pc := 14) d_X5_isOrder_14 f_5_18 (by decide) (by decide) (ty_6 hS.1.1) ?_
  refine Tr.tp 2 ((St.kp hS (by decide) (by decide) (by decide)).trans en_6_2) ?_
  refine Tr.getf (pc := 17) d_X5_isOrder_17 f_5_50 (by decide) (by decide) (ty_2 hS.1.1) ?_
  refine Tr.tp 3 (fx_2_0 hS.1.1) ?_
  refine Tr.aload_n (pc := 20) (i := 0) d_X5_isOrder_20 rfl rfl ?_
  refine Tr.getf (pc := 21) d_X5_isOrder_21 f_5_36 (by decide) (by decide) (ty_6 hS.1.1) ?_
  refine Tr.tp r8 er8 ?_
  refine Tr.iald (pc := 24) d_X5_isOrder_24 (ty_3 hS.1.1) (by omega) (by omega) ?_
  refine Tr.gen (P := fun v => (-2147483648) ≤ v ∧ v ≤ 2147483647) (ar_3 hS.1.2.1 _) (fun r24 er24 br24 => ?_)
  refine Tr.iconst (pc := 25) d_X5_isOrder_25 (by decide) ?_
  refine Tr.icmp_ne (pc := 26) (tgt := 44) d_X5_isOrder_26 rfl (fun c26 => ?_) (fun c26 => ?_)
  · refine Tr.iconst (pc := 44) d_X5_isOrder_44 (by decide) ?_
    exact Tr.zret (pc := 45) d_X5_isOrder_45 rfl (by omega) ⟨hS, _, rfl, by omega, by omega⟩
  · refine Tr.iload_n (pc := 29) (i := 1) d_X5_isOrder_29 rfl rfl ?_
    refine Tr.iconst (pc := 30) d_X5_isOrder_30 (by decide) ?_
    refine Tr.icmp_lt (pc := 31) (tgt := 44) d_X5_isOrder_31 rfl (fun c31 => ?_) (fun c31 => ?_)
    · refine Tr.iconst (pc := 44) d_X5_isOrder_44 (by decide) ?_
      exact Tr.zret (pc := 45) d_X5_isOrder_45 rfl (by omega) ⟨hS, _, rfl, by omega, by omega⟩
    · refine Tr.iload_n (pc := 34) (i := 1) d_X5_isOrder_34 rfl rfl ?_
      refine Tr.bipush (pc := 35) d_X5_isOrder_35 rfl (by decide) ?_
      refine Tr.icmp_gt (pc := 37) (tgt := 44) d_X5_isOrder_37 rfl (fun c37 => ?_) (fun c37 => ?_)
      · refine Tr.iconst (pc := 44) d_X5_isOrder_44 (by decide) ?_
        exact Tr.zret (pc := 45) d_X5_isOrder_45 rfl (by omega) ⟨hS, _, rfl, by omega, by omega⟩
      · refine Tr.iconst (pc := 40) d_X5_isOrder_40 (by decide) ?_
        refine Tr.goto (pc := 41) (tgt := 45) d_X5_isOrder_41 rfl ?_
        exact Tr.zret (pc := 45) d_X5_isOrder_45 rfl (by omega) ⟨hS, _, rfl, by omega, by omega⟩

def ws_X4_open_35 : List (Int × Int) := [(35, 0)]
def as_X4_open_35 : List Int := [36, 37, 38, 39, 40, 41, 42]
def q_X4_open_35 (M0 M' : Mem) (r : Option PV) : Prop := St Tru ws_X4_open_35 as_X4_open_35 M0 M' ∧ ∃ v : Int, r = some (0, v) ∧ 0 ≤ v ∧ v ≤ 59
set_option maxRecDepth 100000 in
set_option maxHeartbeats 4000000 in
theorem sp_X4_open_35 {l : Launch} {K : EC} {M0 : Mem} (hI : In Tru M0)  (a1 : Int) (ha1 : (-2147483648) ≤ a1 ∧ a1 ≤ 2147483647) (a2 : Int) (ha2 : (-1) ≤ a2 ∧ a2 ≤ (-1))  (hpm : rd M0 35 0 ≤ 59) : Tr l K 0 mX4_open 0 [(0, (2, 35)), (1, (0, a1)), (2, (0, a2))] [] M0 (q_X4_open_35 M0) := by
  have hS : St Tru ws_X4_open_35 as_X4_open_35 M0 M0 := St.rf hI
  refine Tr.aload_n (pc := 0) (i := 0) d_X4_open_0 rfl rfl ?_
  refine Tr.getf (pc := 1) d_X4_open_1 f_4_45 (by decide) (by decide) (ty_35 hS.1.1) ?_
  refine Tr.gen (P := fun v => 0 ≤ v ∧ v ≤ 59) (by have h8 := ir_35_0 hS.1.2.1; exact ⟨h8.1, hpm⟩) (fun r1 er1 br1 => ?_)
  refine Tr.istore_n (pc := 4) (i := 3) (ls2 := [(3, (0, r1)), (0, (2, 35)), (1, (0, a1)), (2, (0, a2))]) d_X4_open_4 rfl (by decide) rfl ?_
  refine Tr.aload_n (pc := 5) (i := 0) d_X4_open_5 rfl rfl ?_
  refine Tr.getf (pc := 6) d_X4_open_6 f_4_9 (by decide) (by decide) (ty_35 hS.1.1) ?_
  refine Tr.tp 36 (fx_35_1 hS.1.1) ?_
  refine Tr.iload_n (pc := 9) (i := 3) d_X4_open_9 rfl rfl ?_
  refine Tr.iload_n (pc := 10) (i := 1) d_X4_open_10 rfl rfl ?_
  refine Tr.iastS (pc := 11) (P := St Tru ws_X4_open_35 as_X4_open_35 M0) d_X4_open_11 (ty_36 hS.1.1) (by omega) (by omega) (sa_36 hS (by decide) (by omega) trivial) (fun M11 hS w11 => ?_)
  refine Tr.aload_n (pc := 12) (i := 0) d_X4_open_12 rfl rfl ?_
  refine Tr.getf (pc := 13) d_X4_open_13 f_4_15 (by decide) (by decide) (ty_35 hS.1.1) ?_
  refine Tr.tp 37 (fx_35_2 hS.1.1) ?_
  refine Tr.iload_n (pc := 16) (i := 3) d_X4_open_16 rfl rfl ?_
  refine Tr.iconst (pc := 17) d_X4_open_17 (by decide) ?_
  refine Tr.iastS (pc := 18) (P := St Tru ws_X4_open_35 as_X4_open_35 M0) d_X4_open_18 (ty_37 hS.1.1) (by omega) (by omega) (sa_37 hS (by decide) (by omega) trivial) (fun M18 hS w18 => ?_)
  refine Tr.aload_n (pc := 19) (i := 0) d_X4_open_19 rfl rfl ?_
  refine Tr.getf (pc := 20) d_X4_open_20 f_4_18 (by decide) (by decide) (ty_35 hS.1.1) ?_
  refine Tr.tp 38 (fx_35_3 hS.1.1) ?_
  refine Tr.iload_n (pc := 23) (i := 3) d_X4_open_23 rfl rfl ?_
  refine Tr.aload_n (pc := 24) (i := 0) d_X4_open_24 rfl rfl ?_
  refine Tr.getf (pc := 25) d_X4_open_25 f_4_49 (by decide) (by decide) (ty_35 hS.1.1) ?_
  refine Tr.gen (P := fun v => 0 ≤ v ∧ v ≤ 900) (ir_35_11 hS.1.2.1) (fun r25 er25 br25 => ?_)
  refine Tr.iastS (pc := 28) (P := St Tru ws_X4_open_35 as_X4_open_35 M0) d_X4_open_28 (ty_38 hS.1.1) (by omega) (by omega) (sa_38 hS (by decide) (by omega) trivial) (fun M28 hS w28 => ?_)
  refine Tr.aload_n (pc := 29) (i := 0) d_X4_open_29 rfl rfl ?_
  refine Tr.getf (pc := 30) d_X4_open_30 f_4_21 (by decide) (by decide) (ty_35 hS.1.1) ?_
  refine Tr.tp 39 (fx_35_4 hS.1.1) ?_
  refine Tr.iload_n (pc := 33) (i := 3) d_X4_open_33 rfl rfl ?_
  refine Tr.iconst (pc := 34) d_X4_open_34 (by decide) ?_
  refine Tr.iastS (pc := 35) (P := St Tru ws_X4_open_35 as_X4_open_35 M0) d_X4_open_35 (ty_39 hS.1.1) (by omega) (by omega) (sa_39 hS (by decide) (by omega) trivial) (fun M35 hS w35 => ?_)
  refine Tr.aload_n (pc := 36) (i := 0) d_X4_open_36 rfl rfl ?_
  refine Tr.getf (pc := 37) d_X4_open_37 f_4_24 (by decide) (by decide) (ty_35 hS.1.1) ?_
  refine Tr.tp 40 (fx_35_5 hS.1.1) ?_
  refine Tr.iload_n (pc := 40) (i := 3) d_X4_open_40 rfl rfl ?_
  refine Tr.iconst (pc := 41) d_X4_open_41 (by decide) ?_
  refine Tr.iastS (pc := 42) (P := St Tru ws_X4_open_35 as_X4_open_35 M0) d_X4_open_42 (ty_40 hS.1.1) (by omega) (by omega) (sa_40 hS (by decide) (by omega) trivial) (fun M42 hS w42 => ?_)
  refine Tr.aload_n (pc := 43) (i := 0) d_X4_open_43 rfl rfl ?_
  refine Tr.getf (pc := 44) d_X4_open_44 f_4_27 (by decide) (by decide) (ty_35 hS.1.1) ?_
  refine Tr.tp 41 (fx_35_6 hS.1.1) ?_
  refine Tr.iload_n (pc := 47) (i := 3) d_X4_open_47 rfl rfl ?_
  refine Tr.iconst (pc := 48) d_X4_open_48 (by decide) ?_
  refine Tr.iastS (pc := 49) (P := St Tru ws_X4_open_35 as_X4_open_35 M0) d_X4_open_49 (ty_41 hS.1.1) (by omega) (by omega) (sa_41 hS (by decide) (by omega) trivial) (fun M49 hS w49 => ?_)
  refine Tr.aload_n (pc := 50) (i := 0) d_X4_open_50 rfl rfl ?_
  refine Tr.getf (pc := 51) d_X4_open_51 f_4_30 (by decide) (by decide) (ty_35 hS.1.1) ?_
  refine Tr.tp 42 (fx_35_7 hS.1.1) ?_
  refine Tr.iload_n (pc := 54) (i := 3) d_X4_open_54 rfl rfl ?_
  refine Tr.iload_n (pc := 55) (i := 2) d_X4_open_55 rfl rfl ?_
  refine Tr.tp (-1) (by omega) ?_
  refine Tr.iastS (pc := 56) (P := St Tru ws_X4_open_35 as_X4_open_35 M0) d_X4_open_56 (ty_42 hS.1.1) (by omega) (by omega) (sa_42 hS (by decide) (by omega) trivial) (fun M56 hS w56 => ?_)
  refine Tr.aload_n (pc := 57) (i := 0) d_X4_open_57 rfl rfl ?_
  refine Tr.dup (pc := 58) d_X4_open_58 ne21 ?_
  refine Tr.getf (pc := 59) d_X4_open_59 f_4_45 (by decide) (by decide) (ty_35 hS.1.1) ?_
  refine Tr.tp r1 ((Wr.b w56 rfl).trans ((Wr.b w49 rfl).trans ((Wr.b w42 rfl).trans ((Wr.b w35 rfl).trans ((Wr.b w28 rfl).trans ((Wr.b w18 rfl).trans ((Wr.b w11 rfl).trans er1))))))) ?_
  refine Tr.iconst (pc := 62) d_X4_open_62 (by decide) ?_
  refine Tr.iadd (pc := 63) d_X4_open_63 ?_
  refine Tr.tp (r1 + 1) ((w32_id (by omega)).trans (by omega)) ?_
  refine Tr.putfS (pc := 64) (P := St Tru ws_X4_open_35 as_X4_open_35 M0) d_X4_open_64 f_4_45 (by decide) (by decide) (ty_35 hS.1.1) (st_35_0 hS (by decide) (by omega) trivial) (fun M64 hS w64 => ?_)
  refine Tr.iload_n (pc := 67) (i := 3) d_X4_open_67 rfl rfl ?_
  exact Tr.iret (pc := 68) d_X4_open_68 rfl ⟨hS, _, rfl, by omega, by omega⟩

def ws_X5_isOwn_6_w4 : List (Int × Int) := []
def as_X5_isOwn_6_w4 : List Int := []
def q_X5_isOwn_6_w4 (M0 M' : Mem) (r : Option PV) : Prop := St Tru ws_X5_isOwn_6_w4 as_X5_isOwn_6_w4 M0 M' ∧ ∃ v : Int, r = some (0, v) ∧ 0 ≤ v ∧ v ≤ 1
set_option maxRecDepth 100000 in
set_option maxHeartbeats 4000000 in
theorem sp_X5_isOwn_6_w4 {l : Launch} {K : EC} {M0 : Mem} (hI : In Tru M0) (en_6_2 : rd M0 6 2 = 2) (a1 : Int) (ha1 : 20 ≤ a1 ∧ a1 ≤ 50)  : Tr l K 0 mX5_isOwn 0 [(0, (2, 6)), (1, (0, a1))] [] M0 (q_X5_isOwn_6_w4 M0) := by
  have hS : St Tru ws_X5_isOwn_6_w4 as_X5_isOwn_6_w4 M0 M0 := St.rf hI
  refine Tr.aload_n (pc := 0) (i := 0) d_X5_isOwn_0 rfl rfl ?_
  refine Tr.getf (pc := 1) d_X5_isOwn_1 f_5_18 (by decide) (by decide) (ty_6 hS.1.1) ?_
  refine Tr.tp 2 ((St.kp hS (by decide) (by decide) (by decide)).trans en_6_2) ?_
  refine Tr.getf (pc := 4) d_X5_isOwn_4 f_5_50 (by decide) (by decide) (ty_2 hS.1.1) ?_
  refine Tr.tp 3 (fx_2_0 hS.1.1) ?_
  refine Tr.aload_n (pc := 7) (i := 0) d_X5_isOwn_7 rfl rfl ?_
  refine Tr.getf (pc := 8) d_X5_isOwn_8 f_5_36 (by decide) (by decide) (ty_6 hS.1.1) ?_
  refine Tr.gen (P := fun v => 0 ≤ v ∧ v ≤ 900) (ir_6_5 hS.1.2.1) (fun r8 er8 br8 => ?_)
  refine Tr.iald (pc := 11) d_X5_isOwn_11 (ty_3 hS.1.1) (by omega) (by omega) ?_
  refine Tr.gen (P := fun v => (-2147483648) ≤ v ∧ v ≤ 2147483647) (ar_3 hS.1.2.1 _) (fun r11 er11 br11 => ?_)
  refine Tr.iconst (pc := 12) d_X5_isOwn_12 (by decide) ?_
  refine Tr.icmp_ne (pc := 13) (tgt := 36) d_X5_isOwn_13 rfl (fun c13 => ?_) (fun c13 => ?_)
  · refine Tr.iconst (pc := 36) d_X5_isOwn_36 (by decide) ?_
    exact Tr.zret (pc := 37) d_X5_isOwn_37 rfl (by omega) ⟨hS, _, rfl, by omega, by omega⟩
  · refine Tr.aload_n (pc := 16) (i := 0) d_X5_isOwn_16 rfl rfl ?_
    refine Tr.getf (pc := 17) d_X5_isOwn_17 f_5_18 (by decide) (by decide) (ty_6 hS.1.1) ?_
    refine Tr.tp 2 ((St.kp hS (by decide) (by decide) (by decide)).trans en_6_2) ?_
    refine Tr.getf (pc := 20) d_X5_isOwn_20 f_5_68 (by decide) (by decide) (ty_2 hS.1.1) ?_
    refine Tr.tp 5 (fx_2_2 hS.1.1) ?_
    refine Tr.aload_n (pc := 23) (i := 0) d_X5_isOwn_23 rfl rfl ?_
    refine Tr.getf (pc := 24) d_X5_isOwn_24 f_5_36 (by decide) (by decide) (ty_6 hS.1.1) ?_
    refine Tr.tp r8 er8 ?_
    refine Tr.iald (pc := 27) d_X5_isOwn_27 (ty_5 hS.1.1) (by omega) (by omega) ?_
    refine Tr.gen (P := fun v => (-2147483648) ≤ v ∧ v ≤ 2147483647) (ar_5 hS.1.2.1 _) (fun r27 er27 br27 => ?_)
    refine Tr.iload_n (pc := 28) (i := 1) d_X5_isOwn_28 rfl rfl ?_
    refine Tr.icmp_ne (pc := 29) (tgt := 36) d_X5_isOwn_29 rfl (fun c29 => ?_) (fun c29 => ?_)
    · refine Tr.iconst (pc := 36) d_X5_isOwn_36 (by decide) ?_
      exact Tr.zret (pc := 37) d_X5_isOwn_37 rfl (by omega) ⟨hS, _, rfl, by omega, by omega⟩
    · refine Tr.iconst (pc := 32) d_X5_isOwn_32 (by decide) ?_
      refine Tr.goto (pc := 33) (tgt := 37) d_X5_isOwn_33 rfl ?_
      exact Tr.zret (pc := 37) d_X5_isOwn_37 rfl (by omega) ⟨hS, _, rfl, by omega, by omega⟩
end
