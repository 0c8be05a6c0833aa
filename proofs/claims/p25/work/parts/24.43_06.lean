/-! 43.06 -/
section
def ws_X6_use_74_w3 : List (Int × Int) := [(74, 9), (74, 14), (74, 17)]
def as_X6_use_74_w3 : List Int := [80, 81, 83]
def q_X6_use_74_w3 (a1 : Int) (a2 : Int) (a3 : Int) (M0 M' : Mem) (r : Option PV) : Prop := St Tru ws_X6_use_74_w3 as_X6_use_74_w3 M0 M' ∧ r = none
set_option maxRecDepth 100000 in
set_option maxHeartbeats 4000000 in
theorem sp_X6_use_74_w3 {l : Launch} {K : EC} {M0 : Mem} (hI : In Tru M0) (en_74_1 : rd M0 74 1 = 27) (a1 : Int) (ha1 : 0 ≤ a1 ∧ a1 ≤ 59) (a2 : Int) (ha2 : 0 ≤ a2 ∧ a2 ≤ 5) (a3 : Int) (ha3 : 0 ≤ a3 ∧ a3 ≤ 50)  : Tr l K 3 mX6_use 0 [(0, (2, 74)), (1, (0, a1)), (2, (0, a2)), (3, (0, a3))] [] M0 (q_X6_use_74_w3 a1 a2 a3 M0) := by
  have hS : St Tru ws_X6_use_74_w3 as_X6_use_74_w3 M0 M0 := St.rf hI
  refine Tr.aload_n (pc := 0) (i := 0) d_X6_use_0 rfl rfl ?_
  refine Tr.getf (pc := 1) d_X6_use_1 f_6_68 (by decide) (by decide) (ty_74 hS.1.1) ?_
  refine Tr.gen (P := fun v => (-2147483648) ≤ v ∧ v ≤ 2147483647) (ir_74_9 hS.1.2.1) (fun r1 er1 br1 => ?_)
  refine Tr.istore (pc := 4) (i := 4) (ls2 := [(4, (0, r1)), (0, (2, 74)), (1, (0, a1)), (2, (0, a2)), (3, (0, a3))]) d_X6_use_4 (by decide) rfl ?_
  refine Tr.aload_n (pc := 6) (i := 0) d_X6_use_6 rfl rfl ?_
  refine Tr.aload_n (pc := 7) (i := 0) d_X6_use_7 rfl rfl ?_
  refine Tr.iload_n (pc := 8) (i := 2) d_X6_use_8 rfl rfl ?_
  refine Tr.callV (pc := 9) (as := [_]) d_X6_use_9 s_6_199 ok_X6_wakeOf rfl rfl (Nat.le_of_ble_eq_true rfl) (Nat.le_of_ble_eq_true rfl) (by decide) (ty_74 hS.1.1) ?_
  refine Tr.imp (Tr.deep (by decide) (sp_X6_wakeOf_74_w1 hS.1 ((St.kp hS (by decide) (by decide) (by decide)).trans en_74_1) a2 (by omega))) ?_
  rintro M9 _ ⟨h9, r9, rfl, lr9, ur9⟩
  have hS := St.tr hS h9 (by decide) (by decide)
  refine Tr.sc [(0, r9), (2, 74)] rfl ?_
  refine Tr.iload_n (pc := 12) (i := 2) d_X6_use_12 rfl rfl ?_
  refine Tr.iconst (pc := 13) d_X6_use_13 (by decide) ?_
  refine Tr.callV (pc := 14) (as := [_, _, _]) d_X6_use_14 s_6_145 ok_X6_pass rfl rfl (Nat.le_of_ble_eq_true rfl) (Nat.le_of_ble_eq_true rfl) (by decide) (ty_74 hS.1.1) ?_
  refine Tr.imp (Tr.deep (by decide) (sp_X6_pass_74_w8 hS.1 ((St.kp hS (by decide) (by decide) (by decide)).trans en_74_1) r9 (by omega) a2 (by omega) 1 (by omega))) ?_
  rintro M14 _ ⟨h14, r14, rfl, lr14, ur14⟩
  have hS := St.tr hS h14 (by decide) (by decide)
  refine Tr.sc [(0, r14)] rfl ?_
  refine Tr.pop (pc := 17) d_X6_use_17 ne01 ?_
  refine Tr.aload_n (pc := 18) (i := 0) d_X6_use_18 rfl rfl ?_
  refine Tr.getf (pc := 19) d_X6_use_19 f_6_68 (by decide) (by decide) (ty_74 hS.1.1) ?_
  refine Tr.gen (P := fun v => (-2147483648) ≤ v ∧ v ≤ 2147483647) (ir_74_9 hS.1.2.1) (fun r19 er19 br19 => ?_)
  refine Tr.istore (pc := 22) (i := 5) (ls2 := [(5, (0, r19)), (4, (0, r1)), (0, (2, 74)), (1, (0, a1)), (2, (0, a2)), (3, (0, a3))]) d_X6_use_22 (by decide) rfl ?_
  refine Tr.aload_n (pc := 24) (i := 0) d_X6_use_24 rfl rfl ?_
  refine Tr.getf (pc := 25) d_X6_use_25 f_6_62 (by decide) (by decide) (ty_74 hS.1.1) ?_
  refine Tr.gen (P := fun v => (-2147483648) ≤ v ∧ v ≤ 2147483647) (ir_74_14 hS.1.2.1) (fun r25 er25 br25 => ?_)
  have J39 : ∀ (M : Mem), St Tru ws_X6_use_74_w3 as_X6_use_74_w3 M0 M → Tr l K 3 mX6_use 39 [(0, (2, 74)), (1, (0, a1)), (2, (0, a2)), (4, (0, r1)), (5, (0, r19))] [] M (q_X6_use_74_w3 a1 a2 a3 M0) := by
    intro M  hS  
    refine Tr.aload_n (pc := 39) (i := 0) d_X6_use_39 rfl rfl ?_
    refine Tr.getf (pc := 40) d_X6_use_40 f_6_62 (by decide) (by decide) (ty_74 hS.1.1) ?_
    refine Tr.gen (P := fun v => (-2147483648) ≤ v ∧ v ≤ 2147483647) (ir_74_14 hS.1.2.1) (fun r40 er40 br40 => ?_)
    have J56 : ∀ (M : Mem), St Tru ws_X6_use_74_w3 as_X6_use_74_w3 M0 M → rd M 74 14 = r40 → Tr l K 3 mX6_use 56 [(0, (2, 74)), (1, (0, a1)), (2, (0, a2)), (4, (0, r1)), (5, (0, r19))] [] M (q_X6_use_74_w3 a1 a2 a3 M0) := by
      intro M  hS  k56_74_14
      refine Tr.aload_n (pc := 56) (i := 0) d_X6_use_56 rfl rfl ?_
      refine Tr.iload_n (pc := 57) (i := 2) d_X6_use_57 rfl rfl ?_
      refine Tr.iload (pc := 58) (i := 4) d_X6_use_58 rfl ?_
      refine Tr.callV (pc := 60) (as := [_, _]) d_X6_use_60 s_6_125 ok_X6_settle rfl rfl (Nat.le_of_ble_eq_true rfl) (Nat.le_of_ble_eq_true rfl) (by decide) (ty_74 hS.1.1) ?_
      refine Tr.imp (Tr.deep (by decide) (sp_X6_settle_74 hS.1 a2 (by omega) r1 (by omega))) ?_
      rintro M60 _ ⟨h60, rfl⟩
      have hS := St.tr hS h60 (by decide) (by decide)
      refine Tr.sc [] rfl ?_
      refine Tr.aload_n (pc := 63) (i := 0) d_X6_use_63 rfl rfl ?_
      refine Tr.iload_n (pc := 64) (i := 1) d_X6_use_64 rfl rfl ?_
      refine Tr.iload_n (pc := 65) (i := 2) d_X6_use_65 rfl rfl ?_
      refine Tr.iload (pc := 66) (i := 4) d_X6_use_66 rfl ?_
      refine Tr.iload (pc := 68) (i := 5) d_X6_use_68 rfl ?_
      refine Tr.callV (pc := 70) (as := [_, _, _, _]) d_X6_use_70 s_6_202 ok_X6_bookBusy rfl rfl (Nat.le_of_ble_eq_true rfl) (Nat.le_of_ble_eq_true rfl) (by decide) (ty_74 hS.1.1) ?_
      refine Tr.imp (Tr.deep (by decide) (sp_X6_bookBusy_74_w1 hS.1 a1 (by omega) a2 (by omega) r1 (by omega) r19 (by omega))) ?_
      rintro M70 _ ⟨h70, rfl⟩
      have hS := St.tr hS h70 (by decide) (by decide)
      refine Tr.sc [] rfl ?_
      refine Tr.aload_n (pc := 73) (i := 0) d_X6_use_73 rfl rfl ?_
      refine Tr.getf (pc := 74) d_X6_use_74 f_6_38 (by decide) (by decide) (ty_74 hS.1.1) ?_
      refine Tr.tp 82 (fx_74_0 hS.1.1) ?_
      refine Tr.iload_n (pc := 77) (i := 2) d_X6_use_77 rfl rfl ?_
      refine Tr.iload_n (pc := 78) (i := 1) d_X6_use_78 rfl rfl ?_
      refine Tr.iload (pc := 79) (i := 5) d_X6_use_79 rfl ?_
      refine Tr.aload_n (pc := 81) (i := 0) d_X6_use_81 rfl rfl ?_
      refine Tr.getf (pc := 82) d_X6_use_82 f_6_68 (by decide) (by decide) (ty_74 hS.1.1) ?_
      refine Tr.gen (P := fun v => (-2147483648) ≤ v ∧ v ≤ 2147483647) (ir_74_9 hS.1.2.1) (fun r82 er82 br82 => ?_)
      refine Tr.callV (pc := 85) (as := [_, _, _, _]) d_X6_use_85 s_6_205 ok_X1_workFor rfl rfl (Nat.le_of_ble_eq_true rfl) (Nat.le_of_ble_eq_true rfl) (by decide) (ty_82 hS.1.1) ?_
      refine Tr.imp (Tr.deep (by decide) (sp_X1_workFor_82_w1 hS.1 a2 (by omega) a1 (by omega) r19 (by omega) r82 (by omega))) ?_
      rintro M85 _ ⟨h85, rfl⟩
      have hS := St.tr hS h85 (by decide) (by decide)
      refine Tr.sc [] rfl ?_
      refine Tr.aload_n (pc := 88) (i := 0) d_X6_use_88 rfl rfl ?_
      refine Tr.getf (pc := 89) d_X6_use_89 f_6_27 (by decide) (by decide) (ty_74 hS.1.1) ?_
      refine Tr.tp 80 (fx_74_7 hS.1.1) ?_
      refine Tr.iload_n (pc := 92) (i := 2) d_X6_use_92 rfl rfl ?_
      refine Tr.aload_n (pc := 93) (i := 0) d_X6_use_93 rfl rfl ?_
      refine Tr.getf (pc := 94) d_X6_use_94 f_6_62 (by decide) (by decide) (ty_74 hS.1.1) ?_
      refine Tr.tp r40 ((St.kp h85 (by decide) (by decide) (by decide)).trans ((St.kp h70 (by decide) (by decide) (by decide)).trans ((St.kp h60 (by decide) (by decide) (by decide)).trans k56_74_14))) ?_
      refine Tr.if_ne (pc := 97) (tgt := 117) d_X6_use_97 rfl (fun c97 => ?_) (fun c97 => ?_)
      · refine Tr.aload_n (pc := 117) (i := 0) d_X6_use_117 rfl rfl ?_
        refine Tr.getf (pc := 118) d_X6_use_118 f_6_68 (by decide) (by decide) (ty_74 hS.1.1) ?_
        refine Tr.tp r82 ((St.kp h85 (by decide) (by decide) (by decide)).trans er82) ?_
        refine Tr.iconst (pc := 121) d_X6_use_121 (by decide) ?_
        refine Tr.iadd (pc := 122) d_X6_use_122 ?_
        refine Tr.gen (P := fun v => (-2147483648) ≤ v ∧ v ≤ 2147483647) (w32_b _) (fun r122 er122 br122 => ?_)
        refine Tr.iastS (pc := 123) (P := St Tru ws_X6_use_74_w3 as_X6_use_74_w3 M0) d_X6_use_123 (ty_80 hS.1.1) (by omega) (by omega) (sa_80 hS (by decide) (by omega) trivial) (fun M123 hS w123 => ?_)
        exact Tr.vret (pc := 124) d_X6_use_124 rfl ⟨hS, rfl⟩
      · refine Tr.aload_n (pc := 100) (i := 0) d_X6_use_100 rfl rfl ?_
        refine Tr.getf (pc := 101) d_X6_use_101 f_6_68 (by decide) (by decide) (ty_74 hS.1.1) ?_
        refine Tr.tp r82 ((St.kp h85 (by decide) (by decide) (by decide)).trans er82) ?_
        refine Tr.aload_n (pc := 104) (i := 0) d_X6_use_104 rfl rfl ?_
        refine Tr.getf (pc := 105) d_X6_use_105 f_6_46 (by decide) (by decide) (ty_74 hS.1.1) ?_
        refine Tr.tp 27 ((St.kp hS (by decide) (by decide) (by decide)).trans en_74_1) ?_
        refine Tr.getf (pc := 108) d_X6_use_108 f_6_208 (by decide) (by decide) (ty_27 hS.1.1) ?_
        refine Tr.tp 31 (fx_27_7 hS.1.1) ?_
        refine Tr.iload_n (pc := 111) (i := 2) d_X6_use_111 rfl rfl ?_
        refine Tr.iald (pc := 112) d_X6_use_112 (ty_31 hS.1.1) (by omega) (by omega) ?_
        refine Tr.gen (P := fun v => 0 ≤ v ∧ v ≤ 50) (ar_31 hS.1.2.1 _) (fun r112 er112 br112 => ?_)
        refine Tr.iadd (pc := 113) d_X6_use_113 ?_
        refine Tr.gen (P := fun v => (-2147483648) ≤ v ∧ v ≤ 2147483647) (w32_b _) (fun r113 er113 br113 => ?_)
        refine Tr.goto (pc := 114) (tgt := 123) d_X6_use_114 rfl ?_
        refine Tr.iastS (pc := 123) (P := St Tru ws_X6_use_74_w3 as_X6_use_74_w3 M0) d_X6_use_123 (ty_80 hS.1.1) (by omega) (by omega) (sa_80 hS (by decide) (by omega) trivial) (fun M123 hS w123 => ?_)
        exact Tr.vret (pc := 124) d_X6_use_124 rfl ⟨hS, rfl⟩
    refine Tr.if_eq (pc := 43) (tgt := 56) d_X6_use_43 rfl (fun c43 => ?_) (fun c43 => ?_)
    · refine Tr.pick [0, 1, 2, 3, 4] (ls2 := [(0, (2, 74)), (1, (0, a1)), (2, (0, a2)), (4, (0, r1)), (5, (0, r19))]) rfl ?_
      exact J56 _ hS er40
    · refine Tr.aload_n (pc := 46) (i := 0) d_X6_use_46 rfl rfl ?_
      refine Tr.getf (pc := 47) d_X6_use_47 f_6_68 (by decide) (by decide) (ty_74 hS.1.1) ?_
      refine Tr.gen (P := fun v => (-2147483648) ≤ v ∧ v ≤ 2147483647) (ir_74_9 hS.1.2.1) (fun r47 er47 br47 => ?_)
      refine Tr.iload (pc := 50) (i := 4) d_X6_use_50 rfl ?_
      refine Tr.icmp_ne (pc := 52) (tgt := 56) d_X6_use_52 rfl (fun c52 => ?_) (fun c52 => ?_)
      · refine Tr.pick [0, 1, 2, 3, 4] (ls2 := [(0, (2, 74)), (1, (0, a1)), (2, (0, a2)), (4, (0, r1)), (5, (0, r19))]) rfl ?_
        exact J56 _ hS er40
      · exact Tr.vret (pc := 55) d_X6_use_55 rfl ⟨hS, rfl⟩
  refine Tr.if_ne (pc := 28) (tgt := 39) d_X6_use_28 rfl (fun c28 => ?_) (fun c28 => ?_)
  · refine Tr.pick [2, 3, 4, 1, 0] (ls2 := [(0, (2, 74)), (1, (0, a1)), (2, (0, a2)), (4, (0, r1)), (5, (0, r19))]) rfl ?_
    exact J39 _ hS 
  · refine Tr.aload_n (pc := 31) (i := 0) d_X6_use_31 rfl rfl ?_
    refine Tr.iload_n (pc := 32) (i := 3) d_X6_use_32 rfl rfl ?_
    refine Tr.iload_n (pc := 33) (i := 2) d_X6_use_33 rfl rfl ?_
    refine Tr.iconst (pc := 34) d_X6_use_34 (by decide) ?_
    refine Tr.callV (pc := 35) (as := [_, _, _]) d_X6_use_35 s_6_145 ok_X6_pass rfl rfl (Nat.le_of_ble_eq_true rfl) (Nat.le_of_ble_eq_true rfl) (by decide) (ty_74 hS.1.1) ?_
    refine Tr.imp (Tr.deep (by decide) (sp_X6_pass_74_w9 hS.1 ((St.kp hS (by decide) (by decide) (by decide)).trans en_74_1) a3 (by omega) a2 (by omega) 3 (by omega))) ?_
    rintro M35 _ ⟨h35, r35, rfl, lr35, ur35⟩
    have hS := St.tr hS h35 (by decide) (by decide)
    refine Tr.sc [(0, r35)] rfl ?_
    refine Tr.pop (pc := 38) d_X6_use_38 ne01 ?_
    refine Tr.pick [2, 3, 4, 1, 0] (ls2 := [(0, (2, 74)), (1, (0, a1)), (2, (0, a2)), (4, (0, r1)), (5, (0, r19))]) rfl ?_
    exact J39 _ hS 

def ws_X6_step_74_w3 : List (Int × Int) := [(74, 9), (74, 11), (74, 12), (74, 13), (74, 14), (74, 17)]
def as_X6_step_74_w3 : List Int := [76, 77, 78, 79, 80, 81, 83]
def q_X6_step_74_w3 (a1 : Int) (M0 M' : Mem) (r : Option PV) : Prop := St Tru ws_X6_step_74_w3 as_X6_step_74_w3 M0 M' ∧ ∃ v : Int, r = some (0, v) ∧ 0 ≤ v ∧ v ≤ 2147483647
set_option maxRecDepth 100000 in
set_option maxHeartbeats 4000000 in
theorem sp_X6_step_74_w3 {l : Launch} {K : EC} {M0 : Mem} (hI : In Tru M0) (en_74_1 : rd M0 74 1 = 27) (a1 : Int) (ha1 : 0 ≤ a1 ∧ a1 ≤ 59)  (hq0 : a1 < rd M0 35 0) (hF_Y35 : Yn35 M0) : Tr l K 4 mX6_step 0 [(0, (2, 74)), (1, (0, a1))] [] M0 (q_X6_step_74_w3 a1 M0) := by
  have hS : St Tru ws_X6_step_74_w3 as_X6_step_74_w3 M0 M0 := St.rf hI
  obtain ⟨g35_0, eg35_0⟩ : ∃ v, rd M0 35 0 = v := ⟨_, rfl⟩
  have bg35_0 : 0 ≤ g35_0 ∧ g35_0 ≤ 60 := by rw [← eg35_0]; exact ir_35_0 hI.2.1
  refine Tr.aload_n (pc := 0) (i := 0) d_X6_step_0 rfl rfl ?_
  refine Tr.iconst (pc := 1) d_X6_step_1 (by decide) ?_
  refine Tr.iconst (pc := 2) d_X6_step_2 (by decide) ?_
  refine Tr.iconst (pc := 3) d_X6_step_3 (by decide) ?_
  refine Tr.callV (pc := 4) (as := [_, _, _]) d_X6_step_4 s_6_145 ok_X6_pass rfl rfl (Nat.le_of_ble_eq_true rfl) (Nat.le_of_ble_eq_true rfl) (by decide) (ty_74 hS.1.1) ?_
  refine Tr.imp (Tr.deep (by decide) (sp_X6_pass_74_w5 hS.1 ((St.kp hS (by decide) (by decide) (by decide)).trans en_74_1) 1 (by omega) (-1) (by omega) 0 (by omega))) ?_
  rintro M4 _ ⟨h4, r4, rfl, lr4, ur4⟩
  have hS := St.tr hS h4 (by decide) (by decide)
  refine Tr.sc [(0, r4)] rfl ?_
  refine Tr.if_ne (pc := 7) (tgt := 12) d_X6_step_7 rfl (fun c7 => ?_) (fun c7 => ?_)
  · refine Tr.aload_n (pc := 12) (i := 0) d_X6_step_12 rfl rfl ?_
    refine Tr.dup (pc := 13) d_X6_step_13 ne21 ?_
    refine Tr.getf (pc := 14) d_X6_step_14 f_6_97 (by decide) (by decide) (ty_74 hS.1.1) ?_
    refine Tr.gen (P := fun v => (-2147483648) ≤ v ∧ v ≤ 2147483647) (ir_74_11 hS.1.2.1) (fun r14 er14 br14 => ?_)
    refine Tr.iconst (pc := 17) d_X6_step_17 (by decide) ?_
    refine Tr.iadd (pc := 18) d_X6_step_18 ?_
    refine Tr.gen (P := fun v => (-2147483648) ≤ v ∧ v ≤ 2147483647) (w32_b _) (fun r18 er18 br18 => ?_)
    refine Tr.putfS (pc := 19) (P := St Tru ws_X6_step_74_w3 as_X6_step_74_w3 M0) d_X6_step_19 f_6_97 (by decide) (by decide) (ty_74 hS.1.1) (st_74_11 hS (by decide) (by omega) trivial) (fun M19 hS w19 => ?_)
    refine Tr.aload_n (pc := 22) (i := 0) d_X6_step_22 rfl rfl ?_
    refine Tr.getf (pc := 23) d_X6_step_23 f_6_46 (by decide) (by decide) (ty_74 hS.1.1) ?_
    refine Tr.tp 27 ((St.kp hS (by decide) (by decide) (by decide)).trans en_74_1) ?_
    refine Tr.getf (pc := 26) d_X6_step_26 f_6_50 (by decide) (by decide) (ty_27 hS.1.1) ?_
    refine Tr.tp 35 (fx_27_11 hS.1.1) ?_
    refine Tr.astore_n (pc := 29) (i := 2) (ls2 := [(2, (2, 35)), (0, (2, 74)), (1, (0, a1))]) d_X6_step_29 rfl (by decide) rfl ?_
    refine Tr.aload_n (pc := 30) (i := 2) d_X6_step_30 rfl rfl ?_
    refine Tr.getf (pc := 31) d_X6_step_31 f_6_149 (by decide) (by decide) (ty_35 hS.1.1) ?_
    refine Tr.tp 37 (fx_35_2 hS.1.1) ?_
    refine Tr.iload_n (pc := 34) (i := 1) d_X6_step_34 rfl rfl ?_
    refine Tr.iald (pc := 35) d_X6_step_35 (ty_37 hS.1.1) (by omega) (by omega) ?_
    refine Tr.gen (P := fun v => 0 ≤ v ∧ v ≤ 5) (ar_37 hS.1.2.1 _) (fun r35 er35 br35 => ?_)
    refine Tr.istore_n (pc := 36) (i := 3) (ls2 := [(3, (0, r35)), (2, (2, 35)), (0, (2, 74)), (1, (0, a1))]) d_X6_step_36 rfl (by decide) rfl ?_
    refine Tr.aload_n (pc := 37) (i := 2) d_X6_step_37 rfl rfl ?_
    refine Tr.getf (pc := 38) d_X6_step_38 f_6_152 (by decide) (by decide) (ty_35 hS.1.1) ?_
    refine Tr.tp 36 (fx_35_1 hS.1.1) ?_
    refine Tr.iload_n (pc := 41) (i := 1) d_X6_step_41 rfl rfl ?_
    refine Tr.iald (pc := 42) d_X6_step_42 (ty_36 hS.1.1) (by omega) (by omega) ?_
    refine Tr.gen (P := fun v => (-2147483648) ≤ v ∧ v ≤ 2147483647) (ar_36 hS.1.2.1 _) (fun r42 er42 br42 => ?_)
    rcases (show (r42 < 5 ∨ 10 < r42) ∨ r42 = 5 ∨ r42 = 6 ∨ r42 = 7 ∨ r42 = 8 ∨ r42 = 9 ∨ r42 = 10 by omega) with c43 | c43 | c43 | c43 | c43 | c43 | c43
    · refine Tr.tswOut (pc := 43) (tgt := 177) d_X6_step_43 c43 rfl ?_
      refine Tr.aload_n (pc := 177) (i := 0) d_X6_step_177 rfl rfl ?_
      refine Tr.iload_n (pc := 178) (i := 1) d_X6_step_178 rfl rfl ?_
      refine Tr.callV (pc := 179) (as := [_]) d_X6_step_179 s_6_155 ok_X6_worked rfl rfl (Nat.le_of_ble_eq_true rfl) (Nat.le_of_ble_eq_true rfl) (by decide) (ty_74 hS.1.1) ?_
      refine Tr.imp (Tr.deep (by decide) (sp_X6_worked_74_w3 hS.1 ((St.kp hS (by decide) (by decide) (by decide)).trans en_74_1) a1 (by omega))) ?_
      rintro M179 _ ⟨h179, r179, rfl, lr179, ur179⟩
      have hS := St.tr hS h179 (by decide) (by decide)
      refine Tr.sc [(0, r179)] rfl ?_
      refine Tr.if_eq (pc := 182) (tgt := 194) d_X6_step_182 rfl (fun c182 => ?_) (fun c182 => ?_)
      · refine Tr.aload_n (pc := 194) (i := 2) d_X6_step_194 rfl rfl ?_
        refine Tr.getf (pc := 195) d_X6_step_195 f_6_180 (by decide) (by decide) (ty_35 hS.1.1) ?_
        refine Tr.tp 40 (fx_35_5 hS.1.1) ?_
        refine Tr.iload_n (pc := 198) (i := 1) d_X6_step_198 rfl rfl ?_
        refine Tr.iald (pc := 199) d_X6_step_199 (ty_40 hS.1.1) (by omega) (by omega) ?_
        have ky199_35_0 : rd M179 35 0 = g35_0 := ((St.kp h179 (by decide) (by decide) (by decide)).trans ((Wr.b w19 rfl).trans ((St.kp h4 (by decide) (by decide) (by decide)).trans eg35_0)))
        refine Tr.gen (P := fun v => 0 ≤ v ∧ v ≤ 2147483647) (by have h8 := (Yn35.of hF_Y35 (fun j => (St.ka hS (by decide) (by decide) (by decide))) (fun j => (St.ka hS (by decide) (by decide) (by decide))) (St.kp hS (by decide) (by decide) (by decide))) (a1) (by omega) (by omega); have h9 := (ar_40 hS.1.2.1 (a1)); omega) (fun r199 er199 br199 => ?_)
        exact Tr.iret (pc := 200) d_X6_step_200 rfl ⟨hS, _, rfl, by omega, by omega⟩
      · refine Tr.aload_n (pc := 185) (i := 2) d_X6_step_185 rfl rfl ?_
        refine Tr.getf (pc := 186) d_X6_step_186 f_6_177 (by decide) (by decide) (ty_35 hS.1.1) ?_
        refine Tr.tp 39 (fx_35_4 hS.1.1) ?_
        refine Tr.iload_n (pc := 189) (i := 1) d_X6_step_189 rfl rfl ?_
        refine Tr.iald (pc := 190) d_X6_step_190 (ty_39 hS.1.1) (by omega) (by omega) ?_
        have ky190_35_0 : rd M179 35 0 = g35_0 := ((St.kp h179 (by decide) (by decide) (by decide)).trans ((Wr.b w19 rfl).trans ((St.kp h4 (by decide) (by decide) (by decide)).trans eg35_0)))
        refine Tr.gen (P := fun v => 0 ≤ v ∧ v ≤ 2147483647) (by have h8 := (Yn35.of hF_Y35 (fun j => (St.ka hS (by decide) (by decide) (by decide))) (fun j => (St.ka hS (by decide) (by decide) (by decide))) (St.kp hS (by decide) (by decide) (by decide))) (a1) (by omega) (by omega); have h9 := (ar_39 hS.1.2.1 (a1)); omega) (fun r190 er190 br190 => ?_)
        refine Tr.goto (pc := 191) (tgt := 200) d_X6_step_191 rfl ?_
        exact Tr.iret (pc := 200) d_X6_step_200 rfl ⟨hS, _, rfl, by omega, by omega⟩
    · refine Tr.tp 5 c43 ?_
      refine Tr.tswIn (pc := 43) (off := 37) (tgt := 80) d_X6_step_43 (by decide) (by decide) rfl rfl ?_
      refine Tr.aload_n (pc := 80) (i := 0) d_X6_step_80 rfl rfl ?_
      refine Tr.getf (pc := 81) d_X6_step_81 f_6_15 (by decide) (by decide) (ty_74 hS.1.1) ?_
      refine Tr.tp 76 (fx_74_3 hS.1.1) ?_
      refine Tr.iload_n (pc := 84) (i := 3) d_X6_step_84 rfl rfl ?_
      refine Tr.aload_n (pc := 85) (i := 0) d_X6_step_85 rfl rfl ?_
      refine Tr.iload_n (pc := 86) (i := 1) d_X6_step_86 rfl rfl ?_
      refine Tr.callV (pc := 87) (as := [_]) d_X6_step_87 s_6_155 ok_X6_worked rfl rfl (Nat.le_of_ble_eq_true rfl) (Nat.le_of_ble_eq_true rfl) (by decide) (ty_74 hS.1.1) ?_
      refine Tr.imp (Tr.deep (by decide) (sp_X6_worked_74_w3 hS.1 ((St.kp hS (by decide) (by decide) (by decide)).trans en_74_1) a1 (by omega))) ?_
      rintro M87 _ ⟨h87, r87, rfl, lr87, ur87⟩
      have hS := St.tr hS h87 (by decide) (by decide)
      refine Tr.sc [(0, r87), (0, r35), (2, 76)] rfl ?_
      refine Tr.iastS (pc := 90) (P := St Tru ws_X6_step_74_w3 as_X6_step_74_w3 M0) d_X6_step_90 (ty_76 hS.1.1) (by omega) (by omega) (sa_76 hS (by decide) (by omega) trivial) (fun M90 hS w90 => ?_)
      refine Tr.goto (pc := 91) (tgt := 201) d_X6_step_91 rfl ?_
      refine Tr.aload_n (pc := 201) (i := 2) d_X6_step_201 rfl rfl ?_
      refine Tr.getf (pc := 202) d_X6_step_202 f_6_177 (by decide) (by decide) (ty_35 hS.1.1) ?_
      refine Tr.tp 39 (fx_35_4 hS.1.1) ?_
      refine Tr.iload_n (pc := 205) (i := 1) d_X6_step_205 rfl rfl ?_
      refine Tr.iald (pc := 206) d_X6_step_206 (ty_39 hS.1.1) (by omega) (by omega) ?_
      have ky206_35_0 : rd M90 35 0 = g35_0 := ((Wr.b w90 rfl).trans ((St.kp h87 (by decide) (by decide) (by decide)).trans ((Wr.b w19 rfl).trans ((St.kp h4 (by decide) (by decide) (by decide)).trans eg35_0))))
      refine Tr.gen (P := fun v => 0 ≤ v ∧ v ≤ 2147483647) (by have h8 := (Yn35.of hF_Y35 (fun j => (St.ka hS (by decide) (by decide) (by decide))) (fun j => (St.ka hS (by decide) (by decide) (by decide))) (St.kp hS (by decide) (by decide) (by decide))) (a1) (by omega) (by omega); have h9 := (ar_39 hS.1.2.1 (a1)); omega) (fun r206 er206 br206 => ?_)
      exact Tr.iret (pc := 207) d_X6_step_207 rfl ⟨hS, _, rfl, by omega, by omega⟩
    · refine Tr.tp 6 c43 ?_
      refine Tr.tswIn (pc := 43) (off := 51) (tgt := 94) d_X6_step_43 (by decide) (by decide) rfl rfl ?_
      refine Tr.aload_n (pc := 94) (i := 0) d_X6_step_94 rfl rfl ?_
      refine Tr.iload_n (pc := 95) (i := 1) d_X6_step_95 rfl rfl ?_
      refine Tr.iload_n (pc := 96) (i := 3) d_X6_step_96 rfl rfl ?_
      refine Tr.aload_n (pc := 97) (i := 0) d_X6_step_97 rfl rfl ?_
      refine Tr.iload_n (pc := 98) (i := 1) d_X6_step_98 rfl rfl ?_
      refine Tr.callV (pc := 99) (as := [_]) d_X6_step_99 s_6_155 ok_X6_worked rfl rfl (Nat.le_of_ble_eq_true rfl) (Nat.le_of_ble_eq_true rfl) (by decide) (ty_74 hS.1.1) ?_
      refine Tr.imp (Tr.deep (by decide) (sp_X6_worked_74_w3 hS.1 ((St.kp hS (by decide) (by decide) (by decide)).trans en_74_1) a1 (by omega))) ?_
      rintro M99 _ ⟨h99, r99, rfl, lr99, ur99⟩
      have hS := St.tr hS h99 (by decide) (by decide)
      refine Tr.sc [(0, r99), (0, r35), (0, a1), (2, 74)] rfl ?_
      refine Tr.iconst (pc := 102) d_X6_step_102 (by decide) ?_
      refine Tr.mmax (pc := 103) d_X6_step_103 ml_6_119 mw_mmax (Nat.le_of_ble_eq_true rfl) ?_
      refine Tr.gen (P := fun v => (v = r99 ∧ 0 ≤ r99) ∨ (v = 0 ∧ r99 ≤ 0)) (f_max_p _ _) (fun r103 er103 br103 => ?_)
      refine Tr.bipush (pc := 106) d_X6_step_106 rfl (by decide) ?_
      refine Tr.mmin (pc := 108) d_X6_step_108 ml_6_158 mw_mmin (Nat.le_of_ble_eq_true rfl) ?_
      refine Tr.gen (P := fun v => (v = r103 ∧ r103 ≤ 50) ∨ (v = 50 ∧ 50 ≤ r103)) (f_min_p _ _) (fun r108 er108 br108 => ?_)
      refine Tr.callV (pc := 111) (as := [_, _, _]) d_X6_step_111 s_6_161 ok_X6_use rfl rfl (Nat.le_of_ble_eq_true rfl) (Nat.le_of_ble_eq_true rfl) (by decide) (ty_74 hS.1.1) ?_
      refine Tr.imp (Tr.deep (by decide) (sp_X6_use_74_w3 hS.1 ((St.kp hS (by decide) (by decide) (by decide)).trans en_74_1) a1 (by omega) r35 (by omega) r108 (by omega))) ?_
      rintro M111 _ ⟨h111, rfl⟩
      have hS := St.tr hS h111 (by decide) (by decide)
      refine Tr.sc [] rfl ?_
      refine Tr.goto (pc := 114) (tgt := 201) d_X6_step_114 rfl ?_
      refine Tr.aload_n (pc := 201) (i := 2) d_X6_step_201 rfl rfl ?_
      refine Tr.getf (pc := 202) d_X6_step_202 f_6_177 (by decide) (by decide) (ty_35 hS.1.1) ?_
      refine Tr.tp 39 (fx_35_4 hS.1.1) ?_
      refine Tr.iload_n (pc := 205) (i := 1) d_X6_step_205 rfl rfl ?_
      refine Tr.iald (pc := 206) d_X6_step_206 (ty_39 hS.1.1) (by omega) (by omega) ?_
      have ky206_35_0 : rd M111 35 0 = g35_0 := ((St.kp h111 (by decide) (by decide) (by decide)).trans ((St.kp h99 (by decide) (by decide) (by decide)).trans ((Wr.b w19 rfl).trans ((St.kp h4 (by decide) (by decide) (by decide)).trans eg35_0))))
      refine Tr.gen (P := fun v => 0 ≤ v ∧ v ≤ 2147483647) (by have h8 := (Yn35.of hF_Y35 (fun j => (St.ka hS (by decide) (by decide) (by decide))) (fun j => (St.ka hS (by decide) (by decide) (by decide))) (St.kp hS (by decide) (by decide) (by decide))) (a1) (by omega) (by omega); have h9 := (ar_39 hS.1.2.1 (a1)); omega) (fun r206 er206 br206 => ?_)
      exact Tr.iret (pc := 207) d_X6_step_207 rfl ⟨hS, _, rfl, by omega, by omega⟩
    · refine Tr.tp 7 c43 ?_
      refine Tr.tswIn (pc := 43) (off := 74) (tgt := 117) d_X6_step_43 (by decide) (by decide) rfl rfl ?_
      refine Tr.aload_n (pc := 117) (i := 0) d_X6_step_117 rfl rfl ?_
      refine Tr.iload_n (pc := 118) (i := 1) d_X6_step_118 rfl rfl ?_
      refine Tr.iload_n (pc := 119) (i := 3) d_X6_step_119 rfl rfl ?_
      refine Tr.callV (pc := 120) (as := [_, _]) d_X6_step_120 s_6_165 ok_X6_hold rfl rfl (Nat.le_of_ble_eq_true rfl) (Nat.le_of_ble_eq_true rfl) (by decide) (ty_74 hS.1.1) ?_
      refine Tr.imp (Tr.deep (by decide) (sp_X6_hold_74_w3 hS.1 ((St.kp hS (by decide) (by decide) (by decide)).trans en_74_1) a1 (by omega) r35 (by omega))) ?_
      rintro M120 _ ⟨h120, rfl⟩
      have hS := St.tr hS h120 (by decide) (by decide)
      refine Tr.sc [] rfl ?_
      refine Tr.goto (pc := 123) (tgt := 201) d_X6_step_123 rfl ?_
      refine Tr.aload_n (pc := 201) (i := 2) d_X6_step_201 rfl rfl ?_
      refine Tr.getf (pc := 202) d_X6_step_202 f_6_177 (by decide) (by decide) (ty_35 hS.1.1) ?_
      refine Tr.tp 39 (fx_35_4 hS.1.1) ?_
      refine Tr.iload_n (pc := 205) (i := 1) d_X6_step_205 rfl rfl ?_
      refine Tr.iald (pc := 206) d_X6_step_206 (ty_39 hS.1.1) (by omega) (by omega) ?_
      have ky206_35_0 : rd M120 35 0 = g35_0 := ((St.kp h120 (by decide) (by decide) (by decide)).trans ((Wr.b w19 rfl).trans ((St.kp h4 (by decide) (by decide) (by decide)).trans eg35_0)))
      refine Tr.gen (P := fun v => 0 ≤ v ∧ v ≤ 2147483647) (by have h8 := (Yn35.of hF_Y35 (fun j => (St.ka hS (by decide) (by decide) (by decide))) (fun j => (St.ka hS (by decide) (by decide) (by decide))) (St.kp hS (by decide) (by decide) (by decide))) (a1) (by omega) (by omega); have h9 := (ar_39 hS.1.2.1 (a1)); omega) (fun r206 er206 br206 => ?_)
      exact Tr.iret (pc := 207) d_X6_step_207 rfl ⟨hS, _, rfl, by omega, by omega⟩
    · refine Tr.tp 8 c43 ?_
      refine Tr.tswIn (pc := 43) (off := 83) (tgt := 126) d_X6_step_43 (by decide) (by decide) rfl rfl ?_
      refine Tr.aload_n (pc := 126) (i := 0) d_X6_step_126 rfl rfl ?_
      refine Tr.iload_n (pc := 127) (i := 1) d_X6_step_127 rfl rfl ?_
      refine Tr.iload_n (pc := 128) (i := 3) d_X6_step_128 rfl rfl ?_
      refine Tr.callV (pc := 129) (as := [_, _]) d_X6_step_129 s_6_168 ok_X6_free rfl rfl (Nat.le_of_ble_eq_true rfl) (Nat.le_of_ble_eq_true rfl) (by decide) (ty_74 hS.1.1) ?_
      refine Tr.imp (Tr.deep (by decide) (sp_X6_free_74_w3 hS.1 ((St.kp hS (by decide) (by decide) (by decide)).trans en_74_1) a1 (by omega) r35 (by omega))) ?_
      rintro M129 _ ⟨h129, rfl⟩
      have hS := St.tr hS h129 (by decide) (by decide)
      refine Tr.sc [] rfl ?_
      refine Tr.goto (pc := 132) (tgt := 201) d_X6_step_132 rfl ?_
      refine Tr.aload_n (pc := 201) (i := 2) d_X6_step_201 rfl rfl ?_
      refine Tr.getf (pc := 202) d_X6_step_202 f_6_177 (by decide) (by decide) (ty_35 hS.1.1) ?_
      refine Tr.tp 39 (fx_35_4 hS.1.1) ?_
      refine Tr.iload_n (pc := 205) (i := 1) d_X6_step_205 rfl rfl ?_
      refine Tr.iald (pc := 206) d_X6_step_206 (ty_39 hS.1.1) (by omega) (by omega) ?_
      have ky206_35_0 : rd M129 35 0 = g35_0 := ((St.kp h129 (by decide) (by decide) (by decide)).trans ((Wr.b w19 rfl).trans ((St.kp h4 (by decide) (by decide) (by decide)).trans eg35_0)))
      refine Tr.gen (P := fun v => 0 ≤ v ∧ v ≤ 2147483647) (by have h8 := (Yn35.of hF_Y35 (fun j => (St.ka hS (by decide) (by decide) (by decide))) (fun j => (St.ka hS (by decide) (by decide) (by decide))) (St.kp hS (by decide) (by decide) (by decide))) (a1) (by omega) (by omega); have h9 := (ar_39 hS.1.2.1 (a1)); omega) (fun r206 er206 br206 => ?_)
      exact Tr.iret (pc := 207) d_X6_step_207 rfl ⟨hS, _, rfl, by omega, by omega⟩
    · refine Tr.tp 9 c43 ?_
      refine Tr.tswIn (pc := 43) (off := 92) (tgt := 135) d_X6_step_43 (by decide) (by decide) rfl rfl ?_
      refine Tr.aload_n (pc := 135) (i := 0) d_X6_step_135 rfl rfl ?_
      refine Tr.aload_n (pc := 136) (i := 0) d_X6_step_136 rfl rfl ?_
      refine Tr.iload_n (pc := 137) (i := 1) d_X6_step_137 rfl rfl ?_
      refine Tr.callV (pc := 138) (as := [_]) d_X6_step_138 s_6_155 ok_X6_worked rfl rfl (Nat.le_of_ble_eq_true rfl) (Nat.le_of_ble_eq_true rfl) (by decide) (ty_74 hS.1.1) ?_
      refine Tr.imp (Tr.deep (by decide) (sp_X6_worked_74_w3 hS.1 ((St.kp hS (by decide) (by decide) (by decide)).trans en_74_1) a1 (by omega))) ?_
      rintro M138 _ ⟨h138, r138, rfl, lr138, ur138⟩
      have hS := St.tr hS h138 (by decide) (by decide)
      refine Tr.sc [(0, r138), (2, 74)] rfl ?_
      refine Tr.iconst (pc := 141) d_X6_step_141 (by decide) ?_
      refine Tr.mmax (pc := 142) d_X6_step_142 ml_6_119 mw_mmax (Nat.le_of_ble_eq_true rfl) ?_
      refine Tr.gen (P := fun v => (v = r138 ∧ 0 ≤ r138) ∨ (v = 0 ∧ r138 ≤ 0)) (f_max_p _ _) (fun r142 er142 br142 => ?_)
      refine Tr.bipush (pc := 145) d_X6_step_145 rfl (by decide) ?_
      refine Tr.mmin (pc := 147) d_X6_step_147 ml_6_158 mw_mmin (Nat.le_of_ble_eq_true rfl) ?_
      refine Tr.gen (P := fun v => (v = r142 ∧ r142 ≤ 100) ∨ (v = 100 ∧ 100 ≤ r142)) (f_min_p _ _) (fun r147 er147 br147 => ?_)
      refine Tr.iconst (pc := 150) d_X6_step_150 (by decide) ?_
      refine Tr.iconst (pc := 151) d_X6_step_151 (by decide) ?_
      refine Tr.callV (pc := 152) (as := [_, _, _]) d_X6_step_152 s_6_145 ok_X6_pass rfl rfl (Nat.le_of_ble_eq_true rfl) (Nat.le_of_ble_eq_true rfl) (by decide) (ty_74 hS.1.1) ?_
      refine Tr.imp (Tr.deep (by decide) (sp_X6_pass_74_w7 hS.1 ((St.kp hS (by decide) (by decide) (by decide)).trans en_74_1) r147 (by omega) (-1) (by omega) 0 (by omega))) ?_
      rintro M152 _ ⟨h152, r152, rfl, lr152, ur152⟩
      have hS := St.tr hS h152 (by decide) (by decide)
      refine Tr.sc [(0, r152)] rfl ?_
      refine Tr.pop (pc := 155) d_X6_step_155 ne01 ?_
      refine Tr.goto (pc := 156) (tgt := 201) d_X6_step_156 rfl ?_
      refine Tr.aload_n (pc := 201) (i := 2) d_X6_step_201 rfl rfl ?_
      refine Tr.getf (pc := 202) d_X6_step_202 f_6_177 (by decide) (by decide) (ty_35 hS.1.1) ?_
      refine Tr.tp 39 (fx_35_4 hS.1.1) ?_
      refine Tr.iload_n (pc := 205) (i := 1) d_X6_step_205 rfl rfl ?_
      refine Tr.iald (pc := 206) d_X6_step_206 (ty_39 hS.1.1) (by omega) (by omega) ?_
      have ky206_35_0 : rd M152 35 0 = g35_0 := ((St.kp h152 (by decide) (by decide) (by decide)).trans ((St.kp h138 (by decide) (by decide) (by decide)).trans ((Wr.b w19 rfl).trans ((St.kp h4 (by decide) (by decide) (by decide)).trans eg35_0))))
      refine Tr.gen (P := fun v => 0 ≤ v ∧ v ≤ 2147483647) (by have h8 := (Yn35.of hF_Y35 (fun j => (St.ka hS (by decide) (by decide) (by decide))) (fun j => (St.ka hS (by decide) (by decide) (by decide))) (St.kp hS (by decide) (by decide) (by decide))) (a1) (by omega) (by omega); have h9 := (ar_39 hS.1.2.1 (a1)); omega) (fun r206 er206 br206 => ?_)
      exact Tr.iret (pc := 207) d_X6_step_207 rfl ⟨hS, _, rfl, by omega, by omega⟩
    · refine Tr.tp 10 c43 ?_
      refine Tr.tswIn (pc := 43) (off := 116) (tgt := 159) d_X6_step_43 (by decide) (by decide) rfl rfl ?_
      refine Tr.aload_n (pc := 159) (i := 0) d_X6_step_159 rfl rfl ?_
      refine Tr.aload_n (pc := 160) (i := 0) d_X6_step_160 rfl rfl ?_
      refine Tr.iload_n (pc := 161) (i := 1) d_X6_step_161 rfl rfl ?_
      refine Tr.callV (pc := 162) (as := [_]) d_X6_step_162 s_6_155 ok_X6_worked rfl rfl (Nat.le_of_ble_eq_true rfl) (Nat.le_of_ble_eq_true rfl) (by decide) (ty_74 hS.1.1) ?_
      refine Tr.imp (Tr.deep (by decide) (sp_X6_worked_74_w3 hS.1 ((St.kp hS (by decide) (by decide) (by decide)).trans en_74_1) a1 (by omega))) ?_
      rintro M162 _ ⟨h162, r162, rfl, lr162, ur162⟩
      have hS := St.tr hS h162 (by decide) (by decide)
      refine Tr.sc [(0, r162), (2, 74)] rfl ?_
      refine Tr.sipush (pc := 165) d_X6_step_165 rfl (by decide) ?_
      refine Tr.callS (pc := 168) (as := [_, _]) d_X6_step_168 s_6_171 ok_J9_floorMod_7cf53 rfl rfl (Nat.le_of_ble_eq_true rfl) (Nat.le_of_ble_eq_true rfl) ?_
      refine Tr.imp (Tr.deep (by decide) (sp_J9_floorMod_7cf53 hS.1 r162 (by omega) 1000 (by omega) (by omega))) ?_
      rintro M168 _ ⟨h168, r168, rfl, lr168, ur168, wr168⟩
      have hS := St.tr hS h168 (by decide) (by decide)
      refine Tr.sc [(0, r168), (2, 74)] rfl ?_
      refine Tr.callV (pc := 171) (as := [_]) d_X6_step_171 s_6_174 ok_X6_touch rfl rfl (Nat.le_of_ble_eq_true rfl) (Nat.le_of_ble_eq_true rfl) (by decide) (ty_74 hS.1.1) ?_
      refine Tr.imp (Tr.deep (by decide) (sp_X6_touch_74_w1 hS.1 ((St.kp hS (by decide) (by decide) (by decide)).trans en_74_1) r168 (by omega))) ?_
      rintro M171 _ ⟨h171, rfl⟩
      have hS := St.tr hS h171 (by decide) (by decide)
      refine Tr.sc [] rfl ?_
      refine Tr.goto (pc := 174) (tgt := 201) d_X6_step_174 rfl ?_
      refine Tr.aload_n (pc := 201) (i := 2) d_X6_step_201 rfl rfl ?_
      refine Tr.getf (pc := 202) d_X6_step_202 f_6_177 (by decide) (by decide) (ty_35 hS.1.1) ?_
      refine Tr.tp 39 (fx_35_4 hS.1.1) ?_
      refine Tr.iload_n (pc := 205) (i := 1) d_X6_step_205 rfl rfl ?_
      refine Tr.iald (pc := 206) d_X6_step_206 (ty_39 hS.1.1) (by omega) (by omega) ?_
      have ky206_35_0 : rd M171 35 0 = g35_0 := ((St.kp h171 (by decide) (by decide) (by decide)).trans ((St.kp h168 (by decide) (by decide) (by decide)).trans ((St.kp h162 (by decide) (by decide) (by decide)).trans ((Wr.b w19 rfl).trans ((St.kp h4 (by decide) (by decide) (by decide)).trans eg35_0)))))
      refine Tr.gen (P := fun v => 0 ≤ v ∧ v ≤ 2147483647) (by have h8 := (Yn35.of hF_Y35 (fun j => (St.ka hS (by decide) (by decide) (by decide))) (fun j => (St.ka hS (by decide) (by decide) (by decide))) (St.kp hS (by decide) (by decide) (by decide))) (a1) (by omega) (by omega); have h9 := (ar_39 hS.1.2.1 (a1)); omega) (fun r206 er206 br206 => ?_)
      exact Tr.iret (pc := 207) d_X6_step_207 rfl ⟨hS, _, rfl, by omega, by omega⟩
  · refine Tr.iload_n (pc := 10) (i := 1) d_X6_step_10 rfl rfl ?_
    exact Tr.iret (pc := 11) d_X6_step_11 rfl ⟨hS, _, rfl, by omega, by omega⟩

def ws_X6_go_74_27_47 : List (Int × Int) := [(74, 1), (74, 9), (74, 10), (74, 11), (74, 12), (74, 13), (74, 14), (74, 15), (74, 16), (74, 17), (82, 1)]
def as_X6_go_74_27_47 : List Int := [75, 76, 77, 78, 79, 80, 81, 83]
def q_X6_go_74_27_47 (M0 M' : Mem) (r : Option PV) : Prop := St Tru ws_X6_go_74_27_47 as_X6_go_74_27_47 M0 M' ∧ rd M' 74 1 = 27 ∧ rd M' 82 1 = 27 ∧ r = none
set_option maxRecDepth 100000 in
set_option maxHeartbeats 4000000 in
theorem sp_X6_go_74_27_47 {l : Launch} {K : EC} {M0 : Mem} (hI : In Tru M0)  (a3 : Int) (ha3 : (-1) ≤ a3 ∧ a3 ≤ (-1))  (hF_Y35 : Yn35 M0) : Tr l K 5 mX6_go 0 [(0, (2, 74)), (1, (2, 27)), (2, (2, 47)), (3, (0, a3))] [] M0 (q_X6_go_74_27_47 M0) := by
  have hS : St Tru ws_X6_go_74_27_47 as_X6_go_74_27_47 M0 M0 := St.rf hI
  obtain ⟨g35_0, eg35_0⟩ : ∃ v, rd M0 35 0 = v := ⟨_, rfl⟩
  have bg35_0 : 0 ≤ g35_0 ∧ g35_0 ≤ 60 := by rw [← eg35_0]; exact ir_35_0 hI.2.1
  refine Tr.aload_n (pc := 0) (i := 0) d_X6_go_0 rfl rfl ?_
  refine Tr.aload_n (pc := 1) (i := 1) d_X6_go_1 rfl rfl ?_
  refine Tr.aload_n (pc := 2) (i := 2) d_X6_go_2 rfl rfl ?_
  refine Tr.iload_n (pc := 3) (i := 3) d_X6_go_3 rfl rfl ?_
  refine Tr.tp (-1) (by omega) ?_
  refine Tr.callV (pc := 4) (as := [_, _, _]) d_X6_go_4 s_6_42 ok_X6_begin rfl rfl (Nat.le_of_ble_eq_true rfl) (Nat.le_of_ble_eq_true rfl) (by decide) (ty_74 hS.1.1) ?_
  refine Tr.imp (Tr.deep (by decide) (sp_X6_begin_74_27_47 hS.1 (-1) (by omega))) ?_
  rintro M4 _ ⟨h4, o4_74_1, o4_82_1, rfl⟩
  have hS := St.tr hS h4 (by decide) (by decide)
  refine Tr.sc [] rfl ?_
  refine Tr.iconst (pc := 7) d_X6_go_7 (by decide) ?_
  refine Tr.istore (pc := 8) (i := 4) (ls2 := [(4, (0, 0)), (0, (2, 74)), (1, (2, 27)), (2, (2, 47)), (3, (0, a3))]) d_X6_go_8 (by decide) rfl ?_
  refine Tr.iconst (pc := 10) d_X6_go_10 (by decide) ?_
  refine Tr.istore (pc := 11) (i := 5) (ls2 := [(5, (0, 0)), (4, (0, 0)), (0, (2, 74)), (1, (2, 27)), (2, (2, 47)), (3, (0, a3))]) d_X6_go_11 (by decide) rfl ?_
  have J13 : ∀ (n13 : Nat) (M : Mem) (p13_4 p13_5 : Int), St Tru ws_X6_go_74_27_47 as_X6_go_74_27_47 M0 M → (0 ≤ p13_4 ∧ p13_4 ≤ 2147483647) → (0 ≤ p13_5 ∧ p13_5 ≤ 2001) → rd M 35 0 = g35_0 → rd M 74 1 = 27 → rd M 82 1 = 27 → (2001 - p13_5).toNat < n13 → Tr l K 5 mX6_go 13 [(0, (2, 74)), (4, (0, p13_4)), (5, (0, p13_5))] [] M (q_X6_go_74_27_47 M0) := by
    intro n13
    induction n13 with
    | zero => intro M p13_4 p13_5 hS bp13_4 bp13_5 k13_35_0 k13_74_1 k13_82_1 hm13; exact absurd hm13 (Nat.not_lt_zero _)
    | succ n13 J13 =>
      intro M p13_4 p13_5 hS bp13_4 bp13_5 k13_35_0 k13_74_1 k13_82_1 hm13
      refine Tr.iload (pc := 13) (i := 5) d_X6_go_13 rfl ?_
      refine Tr.sipush (pc := 15) d_X6_go_15 rfl (by decide) ?_
      have J103 : ∀ (M : Mem), St Tru ws_X6_go_74_27_47 as_X6_go_74_27_47 M0 M → rd M 35 0 = g35_0 → rd M 74 1 = 27 → rd M 82 1 = 27 → Tr l K 5 mX6_go 103 [(0, (2, 74))] [] M (q_X6_go_74_27_47 M0) := by
        intro M  hS  k103_35_0 k103_74_1 k103_82_1
        refine Tr.aload_n (pc := 103) (i := 0) d_X6_go_103 rfl rfl ?_
        refine Tr.callV (pc := 104) (as := []) d_X6_go_104 s_6_82 ok_X6_finish rfl rfl (Nat.le_of_ble_eq_true rfl) (Nat.le_of_ble_eq_true rfl) (by decide) (ty_74 hS.1.1) ?_
        refine Tr.imp (Tr.deep (by decide) (sp_X6_finish_74_w1 hS.1 k103_74_1 k103_82_1)) ?_
        rintro M104 _ ⟨h104, rfl⟩
        have hS := St.tr hS h104 (by decide) (by decide)
        refine Tr.sc [] rfl ?_
        exact Tr.vret (pc := 107) d_X6_go_107 rfl ⟨hS, ((St.kp h104 (by decide) (by decide) (by decide)).trans k103_74_1), ((St.kp h104 (by decide) (by decide) (by decide)).trans k103_82_1), rfl⟩
      refine Tr.icmp_gt (pc := 18) (tgt := 103) d_X6_go_18 rfl (fun c18 => ?_) (fun c18 => ?_)
      · refine Tr.pick [0] (ls2 := [(0, (2, 74))]) rfl ?_
        exact J103 _ hS k13_35_0 k13_74_1 k13_82_1
      · refine Tr.iload (pc := 21) (i := 4) d_X6_go_21 rfl ?_
        refine Tr.aload_n (pc := 23) (i := 0) d_X6_go_23 rfl rfl ?_
        refine Tr.getf (pc := 24) d_X6_go_24 f_6_46 (by decide) (by decide) (ty_74 hS.1.1) ?_
        refine Tr.tp 27 k13_74_1 ?_
        refine Tr.getf (pc := 27) d_X6_go_27 f_6_50 (by decide) (by decide) (ty_27 hS.1.1) ?_
        refine Tr.tp 35 (fx_27_11 hS.1.1) ?_
        refine Tr.getf (pc := 30) d_X6_go_30 f_6_56 (by decide) (by decide) (ty_35 hS.1.1) ?_
        refine Tr.tp g35_0 k13_35_0 ?_
        refine Tr.icmp_ge (pc := 33) (tgt := 103) d_X6_go_33 rfl (fun c33 => ?_) (fun c33 => ?_)
        · refine Tr.pick [0] (ls2 := [(0, (2, 74))]) rfl ?_
          exact J103 _ hS k13_35_0 k13_74_1 k13_82_1
        · refine Tr.aload_n (pc := 36) (i := 0) d_X6_go_36 rfl rfl ?_
          refine Tr.getf (pc := 37) d_X6_go_37 f_6_62 (by decide) (by decide) (ty_74 hS.1.1) ?_
          refine Tr.gen (P := fun v => (-2147483648) ≤ v ∧ v ≤ 2147483647) (ir_74_14 hS.1.2.1) (fun r37 er37 br37 => ?_)
          refine Tr.if_ne (pc := 40) (tgt := 103) d_X6_go_40 rfl (fun c40 => ?_) (fun c40 => ?_)
          · refine Tr.pick [0] (ls2 := [(0, (2, 74))]) rfl ?_
            exact J103 _ hS k13_35_0 k13_74_1 k13_82_1
          · refine Tr.aload_n (pc := 43) (i := 0) d_X6_go_43 rfl rfl ?_
            refine Tr.getf (pc := 44) d_X6_go_44 f_6_38 (by decide) (by decide) (ty_74 hS.1.1) ?_
            refine Tr.tp 82 (fx_74_0 hS.1.1) ?_
            refine Tr.callV (pc := 47) (as := []) d_X6_go_47 s_6_65 ok_X1_makeRoom rfl rfl (Nat.le_of_ble_eq_true rfl) (Nat.le_of_ble_eq_true rfl) (by decide) (ty_82 hS.1.1) ?_
            refine Tr.imp (Tr.deep (by decide) (sp_X1_makeRoom_82 hS.1 )) ?_
            rintro M47 _ ⟨h47, rfl⟩
            have hS := St.tr hS h47 (by decide) (by decide)
            refine Tr.sc [] rfl ?_
            refine Tr.aload_n (pc := 50) (i := 0) d_X6_go_50 rfl rfl ?_
            refine Tr.getf (pc := 51) d_X6_go_51 f_6_68 (by decide) (by decide) (ty_74 hS.1.1) ?_
            refine Tr.gen (P := fun v => (-2147483648) ≤ v ∧ v ≤ 2147483647) (ir_74_9 hS.1.2.1) (fun r51 er51 br51 => ?_)
            refine Tr.istore (pc := 54) (i := 6) (ls2 := [(6, (0, r51)), (0, (2, 74)), (4, (0, p13_4)), (5, (0, p13_5))]) d_X6_go_54 (by decide) rfl ?_
            refine Tr.aload_n (pc := 56) (i := 0) d_X6_go_56 rfl rfl ?_
            refine Tr.iload (pc := 57) (i := 4) d_X6_go_57 rfl ?_
            refine Tr.callV (pc := 59) (as := [_]) d_X6_go_59 s_6_71 ok_X6_step rfl rfl (Nat.le_of_ble_eq_true rfl) (Nat.le_of_ble_eq_true rfl) (by decide) (ty_74 hS.1.1) ?_
            have kb59_35_0 : rd M47 35 0 = g35_0 := ((St.kp h47 (by decide) (by decide) (by decide)).trans k13_35_0)
            refine Tr.imp (Tr.deep (by decide) (sp_X6_step_74_w3 hS.1 ((St.kp h47 (by decide) (by decide) (by decide)).trans k13_74_1) p13_4 (by omega) (by omega) (Yn35.of hF_Y35 (fun j => (St.ka hS (by decide) (by decide) (by decide))) (fun j => (St.ka hS (by decide) (by decide) (by decide))) (St.kp hS (by decide) (by decide) (by decide))))) ?_
            rintro M59 _ ⟨h59, r59, rfl, lr59, ur59⟩
            have hS := St.tr hS h59 (by decide) (by decide)
            refine Tr.sc [(0, r59)] rfl ?_
            refine Tr.istore (pc := 62) (i := 7) (ls2 := [(7, (0, r59)), (6, (0, r51)), (0, (2, 74)), (4, (0, p13_4)), (5, (0, p13_5))]) d_X6_go_62 (by decide) rfl ?_
            refine Tr.aload_n (pc := 64) (i := 0) d_X6_go_64 rfl rfl ?_
            refine Tr.getf (pc := 65) d_X6_go_65 f_6_38 (by decide) (by decide) (ty_74 hS.1.1) ?_
            refine Tr.tp 82 (fx_74_0 hS.1.1) ?_
            refine Tr.iload (pc := 68) (i := 4) d_X6_go_68 rfl ?_
            refine Tr.aload_n (pc := 70) (i := 0) d_X6_go_70 rfl rfl ?_
            refine Tr.getf (pc := 71) d_X6_go_71 f_6_68 (by decide) (by decide) (ty_74 hS.1.1) ?_
            refine Tr.gen (P := fun v => (-2147483648) ≤ v ∧ v ≤ 2147483647) (ir_74_9 hS.1.2.1) (fun r71 er71 br71 => ?_)
            refine Tr.iload (pc := 74) (i := 6) d_X6_go_74 rfl ?_
            refine Tr.isub (pc := 76) d_X6_go_76 ?_
            refine Tr.gen (P := fun v => (-2147483648) ≤ v ∧ v ≤ 2147483647) (w32_b _) (fun r76 er76 br76 => ?_)
            refine Tr.callV (pc := 77) (as := [_, _]) d_X6_go_77 s_6_75 ok_X1_payHeart rfl rfl (Nat.le_of_ble_eq_true rfl) (Nat.le_of_ble_eq_true rfl) (by decide) (ty_82 hS.1.1) ?_
            refine Tr.imp (Tr.deep (by decide) (sp_X1_payHeart_82_w1 hS.1 p13_4 (by omega) r76 (by omega))) ?_
            rintro M77 _ ⟨h77, rfl⟩
            have hS := St.tr hS h77 (by decide) (by decide)
            refine Tr.sc [] rfl ?_
            refine Tr.aload_n (pc := 80) (i := 0) d_X6_go_80 rfl rfl ?_
            refine Tr.getf (pc := 81) d_X6_go_81 f_6_62 (by decide) (by decide) (ty_74 hS.1.1) ?_
            refine Tr.gen (P := fun v => (-2147483648) ≤ v ∧ v ≤ 2147483647) (ir_74_14 hS.1.2.1) (fun r81 er81 br81 => ?_)
            have J93 : ∀ (M : Mem), St Tru ws_X6_go_74_27_47 as_X6_go_74_27_47 M0 M → rd M 35 0 = g35_0 → rd M 74 1 = 27 → rd M 74 14 = r81 → rd M 74 9 = r71 → rd M 82 1 = 27 → Tr l K 5 mX6_go 93 [(0, (2, 74)), (5, (0, p13_5)), (7, (0, r59))] [] M (q_X6_go_74_27_47 M0) := by
              intro M  hS  k93_35_0 k93_74_1 k93_74_14 k93_74_9 k93_82_1
              refine Tr.iload (pc := 93) (i := 7) d_X6_go_93 rfl ?_
              refine Tr.istore (pc := 95) (i := 4) (ls2 := [(4, (0, r59)), (0, (2, 74)), (5, (0, p13_5)), (7, (0, r59))]) d_X6_go_95 (by decide) rfl ?_
              refine Tr.iincV (pc := 97) (n2 := (p13_5 + 1)) (ls2 := [(5, (0, (p13_5 + 1))), (4, (0, r59)), (0, (2, 74)), (7, (0, r59))]) d_X6_go_97 rfl (by decide) ((w32_id (by omega)).trans (by omega)) rfl ?_
              refine Tr.goto (pc := 100) (tgt := 13) d_X6_go_100 rfl ?_
              refine Tr.pick [2, 1, 0] (ls2 := [(0, (2, 74)), (4, (0, r59)), (5, (0, (p13_5 + 1)))]) rfl ?_
              exact J13 _ _ _ hS (by omega) (by omega) k93_35_0 k93_74_1 k93_82_1 (by omega)
            refine Tr.if_eq (pc := 84) (tgt := 93) d_X6_go_84 rfl (fun c84 => ?_) (fun c84 => ?_)
            · refine Tr.pick [2, 4, 0] (ls2 := [(0, (2, 74)), (5, (0, p13_5)), (7, (0, r59))]) rfl ?_
              exact J93 _ hS ((St.kp h77 (by decide) (by decide) (by decide)).trans ((St.kp h59 (by decide) (by decide) (by decide)).trans ((St.kp h47 (by decide) (by decide) (by decide)).trans k13_35_0))) ((St.kp h77 (by decide) (by decide) (by decide)).trans ((St.kp h59 (by decide) (by decide) (by decide)).trans ((St.kp h47 (by decide) (by decide) (by decide)).trans k13_74_1))) er81 ((St.kp h77 (by decide) (by decide) (by decide)).trans er71) ((St.kp h77 (by decide) (by decide) (by decide)).trans ((St.kp h59 (by decide) (by decide) (by decide)).trans ((St.kp h47 (by decide) (by decide) (by decide)).trans k13_82_1)))
            · refine Tr.aload_n (pc := 87) (i := 0) d_X6_go_87 rfl rfl ?_
              refine Tr.iload (pc := 88) (i := 4) d_X6_go_88 rfl ?_
              refine Tr.putfS (pc := 90) (P := St Tru ws_X6_go_74_27_47 as_X6_go_74_27_47 M0) d_X6_go_90 f_6_79 (by decide) (by decide) (ty_74 hS.1.1) (st_74_15 hS (by decide) (by omega) trivial) (fun M90 hS w90 => ?_)
              refine Tr.pick [2, 4, 0] (ls2 := [(0, (2, 74)), (5, (0, p13_5)), (7, (0, r59))]) rfl ?_
              exact J93 _ hS ((Wr.b w90 rfl).trans ((St.kp h77 (by decide) (by decide) (by decide)).trans ((St.kp h59 (by decide) (by decide) (by decide)).trans ((St.kp h47 (by decide) (by decide) (by decide)).trans k13_35_0)))) ((Wr.b w90 rfl).trans ((St.kp h77 (by decide) (by decide) (by decide)).trans ((St.kp h59 (by decide) (by decide) (by decide)).trans ((St.kp h47 (by decide) (by decide) (by decide)).trans k13_74_1)))) ((Wr.b w90 rfl).trans er81) ((Wr.b w90 rfl).trans ((St.kp h77 (by decide) (by decide) (by decide)).trans er71)) ((Wr.b w90 rfl).trans ((St.kp h77 (by decide) (by decide) (by decide)).trans ((St.kp h59 (by decide) (by decide) (by decide)).trans ((St.kp h47 (by decide) (by decide) (by decide)).trans k13_82_1))))
  refine Tr.pick [2, 1, 0] (ls2 := [(0, (2, 74)), (4, (0, 0)), (5, (0, 0))]) rfl ?_
  exact J13 _ _ _ _ hS (by omega) (by omega) ((St.kp h4 (by decide) (by decide) (by decide)).trans eg35_0) o4_74_1 o4_82_1 (Nat.lt_succ_self _)

def ws_X11_measure_0_w1 : List (Int × Int) := [(74, 1), (74, 9), (74, 10), (74, 11), (74, 12), (74, 13), (74, 14), (74, 15), (74, 16), (74, 17), (82, 1), (107, 0)]
def as_X11_measure_0_w1 : List Int := [75, 76, 77, 78, 79, 80, 81, 83, 109, 110, 111]
def q_X11_measure_0_w1 (M0 M' : Mem) (r : Option PV) : Prop := St Tru ws_X11_measure_0_w1 as_X11_measure_0_w1 M0 M' ∧ ∃ v : Int, r = some (0, v) ∧ (-1) ≤ v ∧ v ≤ 12
set_option maxRecDepth 100000 in
set_option maxHeartbeats 4000000 in
theorem sp_X11_measure_0_w1 {l : Launch} {K : EC} {M0 : Mem} (hI : In Tru M0) (en_0_4 : rd M0 0 4 = 27) (a1 : Int) (ha1 : (-2147483648) ≤ a1 ∧ a1 ≤ 2147483647)  (hF_Y35 : Yn35 M0) : Tr l K 6 mX11_measure 0 [(0, (2, 0)), (1, (0, a1))] [] M0 (q_X11_measure_0_w1 M0) := by
  have hS : St Tru ws_X11_measure_0_w1 as_X11_measure_0_w1 M0 M0 := St.rf hI
  refine Tr.iload_n (pc := 0) (i := 1) d_X11_measure_0 rfl rfl ?_
  refine Tr.if_lt (pc := 1) (tgt := 23) d_X11_measure_1 rfl (fun c1 => ?_) (fun c1 => ?_)
  · refine Tr.iconst (pc := 23) d_X11_measure_23 (by decide) ?_
    exact Tr.iret (pc := 24) d_X11_measure_24 rfl ⟨hS, _, rfl, by omega, by omega⟩
  · refine Tr.iload_n (pc := 4) (i := 1) d_X11_measure_4 rfl rfl ?_
    refine Tr.ldcw (pc := 5) d_X11_measure_5 k_11_271 (by decide) ?_
    refine Tr.icmp_gt (pc := 8) (tgt := 23) d_X11_measure_8 rfl (fun c8 => ?_) (fun c8 => ?_)
    · refine Tr.iconst (pc := 23) d_X11_measure_23 (by decide) ?_
      exact Tr.iret (pc := 24) d_X11_measure_24 rfl ⟨hS, _, rfl, by omega, by omega⟩
    · refine Tr.aload_n (pc := 11) (i := 0) d_X11_measure_11 rfl rfl ?_
      refine Tr.getf (pc := 12) d_X11_measure_12 f_11_70 (by decide) (by decide) (ty_0 hS.1.1) ?_
      refine Tr.tp 107 (fx_0_12 hS.1.1) ?_
      refine Tr.getf (pc := 15) d_X11_measure_15 f_11_133 (by decide) (by decide) (ty_107 hS.1.1) ?_
      refine Tr.gen (P := fun v => 0 ≤ v ∧ v ≤ 12) (ir_107_0 hS.1.2.1) (fun r15 er15 br15 => ?_)
      refine Tr.bipush (pc := 18) d_X11_measure_18 rfl (by decide) ?_
      refine Tr.icmp_lt (pc := 20) (tgt := 25) d_X11_measure_20 rfl (fun c20 => ?_) (fun c20 => ?_)
      · refine Tr.aload_n (pc := 25) (i := 0) d_X11_measure_25 rfl rfl ?_
        refine Tr.getf (pc := 26) d_X11_measure_26 f_11_50 (by decide) (by decide) (ty_0 hS.1.1) ?_
        refine Tr.tp 74 (fx_0_8 hS.1.1) ?_
        refine Tr.aload_n (pc := 29) (i := 0) d_X11_measure_29 rfl rfl ?_
        refine Tr.getf (pc := 30) d_X11_measure_30 f_11_30 (by decide) (by decide) (ty_0 hS.1.1) ?_
        refine Tr.tp 27 ((St.kp hS (by decide) (by decide) (by decide)).trans en_0_4) ?_
        refine Tr.aload_n (pc := 33) (i := 0) d_X11_measure_33 rfl rfl ?_
        refine Tr.getf (pc := 34) d_X11_measure_34 f_11_37 (by decide) (by decide) (ty_0 hS.1.1) ?_
        refine Tr.tp 47 (fx_0_6 hS.1.1) ?_
        refine Tr.iconst (pc := 37) d_X11_measure_37 (by decide) ?_
        refine Tr.callV (pc := 38) (as := [_, _, _]) d_X11_measure_38 s_11_144 ok_X6_go rfl rfl (Nat.le_of_ble_eq_true rfl) (Nat.le_of_ble_eq_true rfl) (by decide) (ty_74 hS.1.1) ?_
        refine Tr.imp (Tr.deep (by decide) (sp_X6_go_74_27_47 hS.1 (-1) (by omega) (Yn35.of hF_Y35 (fun j => (St.ka hS (by decide) (by decide) (by decide))) (fun j => (St.ka hS (by decide) (by decide) (by decide))) (St.kp hS (by decide) (by decide) (by decide))))) ?_
        rintro M38 _ ⟨h38, o38_74_1, o38_82_1, rfl⟩
        have hS := St.tr hS h38 (by decide) (by decide)
        refine Tr.sc [] rfl ?_
        refine Tr.aload_n (pc := 41) (i := 0) d_X11_measure_41 rfl rfl ?_
        refine Tr.getf (pc := 42) d_X11_measure_42 f_11_70 (by decide) (by decide) (ty_0 hS.1.1) ?_
        refine Tr.tp 107 (fx_0_12 hS.1.1) ?_
        refine Tr.iload_n (pc := 45) (i := 1) d_X11_measure_45 rfl rfl ?_
        refine Tr.aload_n (pc := 46) (i := 0) d_X11_measure_46 rfl rfl ?_
        refine Tr.getf (pc := 47) d_X11_measure_47 f_11_50 (by decide) (by decide) (ty_0 hS.1.1) ?_
        refine Tr.tp 74 (fx_0_8 hS.1.1) ?_
        refine Tr.callV (pc := 50) (as := [_, _]) d_X11_measure_50 s_11_272 ok_X2_add rfl rfl (Nat.le_of_ble_eq_true rfl) (Nat.le_of_ble_eq_true rfl) (by decide) (ty_107 hS.1.1) ?_
        refine Tr.imp (Tr.deep (by decide) (sp_X2_add_107_74 hS.1 a1 (by omega))) ?_
        rintro M50 _ ⟨h50, rfl⟩
        have hS := St.tr hS h50 (by decide) (by decide)
        refine Tr.sc [] rfl ?_
        refine Tr.aload_n (pc := 53) (i := 0) d_X11_measure_53 rfl rfl ?_
        refine Tr.getf (pc := 54) d_X11_measure_54 f_11_70 (by decide) (by decide) (ty_0 hS.1.1) ?_
        refine Tr.tp 107 (fx_0_12 hS.1.1) ?_
        refine Tr.getf (pc := 57) d_X11_measure_57 f_11_133 (by decide) (by decide) (ty_107 hS.1.1) ?_
        refine Tr.gen (P := fun v => 0 ≤ v ∧ v ≤ 12) (ir_107_0 hS.1.2.1) (fun r57 er57 br57 => ?_)
        exact Tr.iret (pc := 60) d_X11_measure_60 rfl ⟨hS, _, rfl, by omega, by omega⟩
      · refine Tr.iconst (pc := 23) d_X11_measure_23 (by decide) ?_
        exact Tr.iret (pc := 24) d_X11_measure_24 rfl ⟨hS, _, rfl, by omega, by omega⟩

def ws_X10_count_27 : List (Int × Int) := []
def as_X10_count_27 : List Int := []
def q_X10_count_27 (M0 M' : Mem) (r : Option PV) : Prop := St Tru ws_X10_count_27 as_X10_count_27 M0 M' ∧ ∃ v : Int, r = some (0, v) ∧ (-2147483648) ≤ v ∧ v ≤ 2147483647
set_option maxRecDepth 100000 in
set_option maxHeartbeats 4000000 in
theorem sp_X10_count_27 {l : Launch} {K : EC} {M0 : Mem} (hI : In Tru M0)    : Tr l K 0 mX10_count 0 [(0, (2, 27))] [] M0 (q_X10_count_27 M0) := by
  have hS : St Tru ws_X10_count_27 as_X10_count_27 M0 M0 := St.rf hI
  refine Tr.iconst (pc := 0) d_X10_count_0 (by decide) ?_
  refine Tr.istore_n (pc := 1) (i := 1) (ls2 := [(1, (0, 1)), (0, (2, 27))]) d_X10_count_1 rfl (by decide) rfl ?_
  refine Tr.iconst (pc := 2) d_X10_count_2 (by decide) ?_
  refine Tr.istore_n (pc := 3) (i := 2) (ls2 := [(2, (0, 0)), (1, (0, 1)), (0, (2, 27))]) d_X10_count_3 rfl (by decide) rfl ?_
  have J4 : ∀ (n4 : Nat) (M : Mem) (p4_1 p4_2 : Int), St Tru ws_X10_count_27 as_X10_count_27 M0 M → ((-2147483648) ≤ p4_1 ∧ p4_1 ≤ 2147483647) → (0 ≤ p4_2 ∧ p4_2 ≤ 3) → (3 - p4_2).toNat < n4 → Tr l K 0 mX10_count 4 [(0, (2, 27)), (1, (0, p4_1)), (2, (0, p4_2))] [] M (q_X10_count_27 M0) := by
    intro n4
    induction n4 with
    | zero => intro M p4_1 p4_2 hS bp4_1 bp4_2  hm4; exact absurd hm4 (Nat.not_lt_zero _)
    | succ n4 J4 =>
      intro M p4_1 p4_2 hS bp4_1 bp4_2  hm4
      refine Tr.iload_n (pc := 4) (i := 2) d_X10_count_4 rfl rfl ?_
      refine Tr.aload_n (pc := 5) (i := 0) d_X10_count_5 rfl rfl ?_
      refine Tr.getf (pc := 6) d_X10_count_6 f_10_25 (by decide) (by decide) (ty_27 hS.1.1) ?_
      refine Tr.tp 28 (fx_27_4 hS.1.1) ?_
      refine Tr.iconst (pc := 9) d_X10_count_9 (by decide) ?_
      refine Tr.iald (pc := 10) d_X10_count_10 (ty_28 hS.1.1) (by omega) (by omega) ?_
      refine Tr.gen (P := fun v => 0 ≤ v ∧ v ≤ 3) (ir_28_1 hS.1.2.1) (fun r10 er10 br10 => ?_)
      refine Tr.icmp_ge (pc := 11) (tgt := 38) d_X10_count_11 rfl (fun c11 => ?_) (fun c11 => ?_)
      · refine Tr.iload_n (pc := 38) (i := 1) d_X10_count_38 rfl rfl ?_
        exact Tr.iret (pc := 39) d_X10_count_39 rfl ⟨hS, _, rfl, by omega, by omega⟩
      · refine Tr.iload_n (pc := 14) (i := 1) d_X10_count_14 rfl rfl ?_
        refine Tr.aload_n (pc := 15) (i := 0) d_X10_count_15 rfl rfl ?_
        refine Tr.getf (pc := 16) d_X10_count_16 f_10_30 (by decide) (by decide) (ty_27 hS.1.1) ?_
        refine Tr.tp 33 (fx_27_9 hS.1.1) ?_
        refine Tr.iload_n (pc := 19) (i := 2) d_X10_count_19 rfl rfl ?_
        refine Tr.iald (pc := 20) d_X10_count_20 (ty_33 hS.1.1) (by omega) (by omega) ?_
        refine Tr.gen (P := fun v => (-1) ≤ v ∧ v ≤ 99) (ar_33 hS.1.2.1 _) (fun r20 er20 br20 => ?_)
        refine Tr.aload_n (pc := 21) (i := 0) d_X10_count_21 rfl rfl ?_
        refine Tr.getf (pc := 22) d_X10_count_22 f_10_33 (by decide) (by decide) (ty_27 hS.1.1) ?_
        refine Tr.tp 32 (fx_27_8 hS.1.1) ?_
        refine Tr.iload_n (pc := 25) (i := 2) d_X10_count_25 rfl rfl ?_
        refine Tr.iald (pc := 26) d_X10_count_26 (ty_32 hS.1.1) (by omega) (by omega) ?_
        refine Tr.gen (P := fun v => (-1) ≤ v ∧ v ≤ 99) (ar_32 hS.1.2.1 _) (fun r26 er26 br26 => ?_)
        refine Tr.isub (pc := 27) d_X10_count_27 ?_
        refine Tr.tp (r20 - r26) ((w32_id (by omega)).trans (by omega)) ?_
        refine Tr.iconst (pc := 28) d_X10_count_28 (by decide) ?_
        refine Tr.iadd (pc := 29) d_X10_count_29 ?_
        refine Tr.tp (r20 - r26 + 1) ((w32_id (by omega)).trans (by omega)) ?_
        refine Tr.imul (pc := 30) d_X10_count_30 ?_
        refine Tr.gen (P := fun v => (-2147483648) ≤ v ∧ v ≤ 2147483647) (w32_b _) (fun r30 er30 br30 => ?_)
        refine Tr.istore_n (pc := 31) (i := 1) (ls2 := [(1, (0, r30)), (0, (2, 27)), (2, (0, p4_2))]) d_X10_count_31 rfl (by decide) rfl ?_
        refine Tr.iincV (pc := 32) (n2 := (p4_2 + 1)) (ls2 := [(2, (0, (p4_2 + 1))), (1, (0, r30)), (0, (2, 27))]) d_X10_count_32 rfl (by decide) ((w32_id (by omega)).trans (by omega)) rfl ?_
        refine Tr.goto (pc := 35) (tgt := 4) d_X10_count_35 rfl ?_
        refine Tr.pick [2, 1, 0] (ls2 := [(0, (2, 27)), (1, (0, r30)), (2, (0, (p4_2 + 1)))]) rfl ?_
        exact J4 _ _ _ hS (by omega) (by omega) (by omega)
  refine Tr.pick [2, 1, 0] (ls2 := [(0, (2, 27)), (1, (0, 1)), (2, (0, 0))]) rfl ?_
  exact J4 _ _ _ _ hS (by omega) (by omega) (Nat.lt_succ_self _)

def ws_X10_begin_103_27 : List (Int × Int) := []
def as_X10_begin_103_27 : List Int := [104]
def q_X10_begin_103_27 (M0 M' : Mem) (r : Option PV) : Prop := St Tru ws_X10_begin_103_27 as_X10_begin_103_27 M0 M' ∧ ∃ v : Int, r = some (0, v) ∧ (-2147483648) ≤ v ∧ v ≤ 2147483647
set_option maxRecDepth 100000 in
set_option maxHeartbeats 4000000 in
theorem sp_X10_begin_103_27 {l : Launch} {K : EC} {M0 : Mem} (hI : In Tru M0)    : Tr l K 1 mX10_begin 0 [(0, (2, 103)), (1, (2, 27))] [] M0 (q_X10_begin_103_27 M0) := by
  have hS : St Tru ws_X10_begin_103_27 as_X10_begin_103_27 M0 M0 := St.rf hI
  refine Tr.aload_n (pc := 0) (i := 1) d_X10_begin_0 rfl rfl ?_
  refine Tr.getf (pc := 1) d_X10_begin_1 f_10_33 (by decide) (by decide) (ty_27 hS.1.1) ?_
  refine Tr.tp 32 (fx_27_8 hS.1.1) ?_
  refine Tr.iconst (pc := 4) d_X10_begin_4 (by decide) ?_
  refine Tr.aload_n (pc := 5) (i := 0) d_X10_begin_5 rfl rfl ?_
  refine Tr.getf (pc := 6) d_X10_begin_6 f_10_9 (by decide) (by decide) (ty_103 hS.1.1) ?_
  refine Tr.tp 104 (fx_103_4 hS.1.1) ?_
  refine Tr.iconst (pc := 9) d_X10_begin_9 (by decide) ?_
  refine Tr.iconst (pc := 10) d_X10_begin_10 (by decide) ?_
  refine Tr.acopyS (pc := 11) (x := 32) (y := 104) (P := St Tru ws_X10_begin_103_27 as_X10_begin_103_27 M0) d_X10_begin_11 ac_10_36 acw.1 acw.2.1 acw.2.2 (ty_32 hS.1.1) (ty_104 hS.1.1) (by omega) (by omega) (by omega) (by omega) (by omega) (Nat.le_of_ble_eq_true rfl) (sw_104 hS (by decide) rfl rfl rfl (fun z i hz => by rw [rd_cpy, if_neg (fun c => hz c.1)]) (fun i => by rw [rd_cpy]; split; exact And.intro (by have := ar_32 hS.1.2.1 (0 + (i - 0)); omega) (by have := ar_32 hS.1.2.1 (0 + (i - 0)); omega); exact ar_104 hS.1.2.1 i) trivial) (fun M11 hS w11 => ?_)
  refine Tr.aload_n (pc := 14) (i := 0) d_X10_begin_14 rfl rfl ?_
  refine Tr.getz (pc := 15) d_X10_begin_15 f_10_21 (by decide) (ty_103 hS.1.1) ?_
  refine Tr.gen (P := fun v => 0 ≤ v ∧ v ≤ 1) (ir_103_0 hS.1.2.1) (fun r15 er15 br15 => ?_)
  refine Tr.if_eq (pc := 18) (tgt := 25) d_X10_begin_18 rfl (fun c18 => ?_) (fun c18 => ?_)
  · refine Tr.aload_n (pc := 25) (i := 1) d_X10_begin_25 rfl rfl ?_
    refine Tr.callS (pc := 26) (as := [_]) d_X10_begin_26 s_10_42 ok_X10_count rfl rfl (Nat.le_of_ble_eq_true rfl) (Nat.le_of_ble_eq_true rfl) ?_
    refine Tr.imp (Tr.deep (by decide) (sp_X10_count_27 hS.1 )) ?_
    rintro M26 _ ⟨h26, r26, rfl, lr26, ur26⟩
    have hS := St.tr hS h26 (by decide) (by decide)
    refine Tr.sc [(0, r26)] rfl ?_
    exact Tr.iret (pc := 29) d_X10_begin_29 rfl ⟨hS, _, rfl, by omega, by omega⟩
  · refine Tr.iconst (pc := 21) d_X10_begin_21 (by decide) ?_
    refine Tr.goto (pc := 22) (tgt := 29) d_X10_begin_22 rfl ?_
    exact Tr.iret (pc := 29) d_X10_begin_29 rfl ⟨hS, _, rfl, by omega, by omega⟩

def ws_X6_begin_74_27_104 : List (Int × Int) := [(74, 1), (74, 9), (74, 11), (74, 12), (74, 13), (74, 14), (74, 15), (74, 16), (74, 17), (82, 1)]
def as_X6_begin_74_27_104 : List Int := [75, 76, 78, 79, 80, 81, 83]
def q_X6_begin_74_27_104 (a3 : Int) (M0 M' : Mem) (r : Option PV) : Prop := St Tru ws_X6_begin_74_27_104 as_X6_begin_74_27_104 M0 M' ∧ rd M' 74 1 = 27 ∧ rd M' 82 1 = 27 ∧ r = none
set_option maxRecDepth 100000 in
set_option maxHeartbeats 4000000 in
theorem sp_X6_begin_74_27_104 {l : Launch} {K : EC} {M0 : Mem} (hI : In Tru M0)  (a3 : Int) (ha3 : (-1) ≤ a3 ∧ a3 ≤ (-1))  : Tr l K 2 mX6_begin 0 [(0, (2, 74)), (1, (2, 27)), (2, (2, 104)), (3, (0, a3))] [] M0 (q_X6_begin_74_27_104 a3 M0) := by
  have hS : St Tru ws_X6_begin_74_27_104 as_X6_begin_74_27_104 M0 M0 := St.rf hI
  refine Tr.aload_n (pc := 0) (i := 0) d_X6_begin_0 rfl rfl ?_
  refine Tr.aload_n (pc := 1) (i := 1) d_X6_begin_1 rfl rfl ?_
  refine Tr.putfS (pc := 2) (P := St Tru ws_X6_begin_74_27_104 as_X6_begin_74_27_104 M0) d_X6_begin_2 f_6_46 (by decide) (by decide) (ty_74 hS.1.1) (st_74_1 hS (by decide) (by omega) trivial) (fun M2 hS w2 => ?_)
  refine Tr.aload_n (pc := 5) (i := 2) d_X6_begin_5 rfl rfl ?_
  refine Tr.iconst (pc := 6) d_X6_begin_6 (by decide) ?_
  refine Tr.aload_n (pc := 7) (i := 0) d_X6_begin_7 rfl rfl ?_
  refine Tr.getf (pc := 8) d_X6_begin_8 f_6_9 (by decide) (by decide) (ty_74 hS.1.1) ?_
  refine Tr.tp 75 (fx_74_2 hS.1.1) ?_
  refine Tr.iconst (pc := 11) d_X6_begin_11 (by decide) ?_
  refine Tr.iconst (pc := 12) d_X6_begin_12 (by decide) ?_
  refine Tr.acopyS (pc := 13) (x := 104) (y := 75) (P := St Tru ws_X6_begin_74_27_104 as_X6_begin_74_27_104 M0) d_X6_begin_13 ac_6_85 acw.1 acw.2.1 acw.2.2 (ty_104 hS.1.1) (ty_75 hS.1.1) (by omega) (by omega) (by omega) (by omega) (by omega) (Nat.le_of_ble_eq_true rfl) (sw_75 hS (by decide) rfl rfl rfl (fun z i hz => by rw [rd_cpy, if_neg (fun c => hz c.1)]) (fun i => by rw [rd_cpy]; split; exact And.intro (by have := ar_104 hS.1.2.1 (0 + (i - 0)); omega) (by have := ar_104 hS.1.2.1 (0 + (i - 0)); omega); exact ar_75 hS.1.2.1 i) trivial) (fun M13 hS w13 => ?_)
  refine Tr.aload_n (pc := 16) (i := 0) d_X6_begin_16 rfl rfl ?_
  refine Tr.getf (pc := 17) d_X6_begin_17 f_6_15 (by decide) (by decide) (ty_74 hS.1.1) ?_
  refine Tr.tp 76 (fx_74_3 hS.1.1) ?_
  refine Tr.iconst (pc := 20) d_X6_begin_20 (by decide) ?_
  refine Tr.callS (pc := 21) (as := [_, _]) d_X6_begin_21 s_6_91 ok_J7_fill_53178 rfl rfl (Nat.le_of_ble_eq_true rfl) (Nat.le_of_ble_eq_true rfl) ?_
  refine Tr.imp (sp_fill (N := 6) (ty_76 hS.1.1) (by decide)) ?_
  rintro _ _ ⟨rfl, rfl⟩
  refine Tr.nmA (P := St Tru ws_X6_begin_74_27_104 as_X6_begin_74_27_104 M0) (sf_76 (v := 0) 6 hS (by decide) (by omega) trivial) (fil_wa _ _ _ _) (fun M21 hS w21 => ?_)
  refine Tr.sc [] rfl ?_
  refine Tr.aload_n (pc := 24) (i := 0) d_X6_begin_24 rfl rfl ?_
  refine Tr.getf (pc := 25) d_X6_begin_25 f_6_21 (by decide) (by decide) (ty_74 hS.1.1) ?_
  refine Tr.tp 78 (fx_74_5 hS.1.1) ?_
  refine Tr.iconst (pc := 28) d_X6_begin_28 (by decide) ?_
  refine Tr.callS (pc := 29) (as := [_, _]) d_X6_begin_29 s_6_91 ok_J7_fill_53178 rfl rfl (Nat.le_of_ble_eq_true rfl) (Nat.le_of_ble_eq_true rfl) ?_
  refine Tr.imp (sp_fill (N := 8) (ty_78 hS.1.1) (by decide)) ?_
  rintro _ _ ⟨rfl, rfl⟩
  refine Tr.nmA (P := St Tru ws_X6_begin_74_27_104 as_X6_begin_74_27_104 M0) (sf_78 (v := (-1)) 8 hS (by decide) (by omega) trivial) (fil_wa _ _ _ _) (fun M29 hS w29 => ?_)
  refine Tr.sc [] rfl ?_
  refine Tr.aload_n (pc := 32) (i := 0) d_X6_begin_32 rfl rfl ?_
  refine Tr.getf (pc := 33) d_X6_begin_33 f_6_24 (by decide) (by decide) (ty_74 hS.1.1) ?_
  refine Tr.tp 79 (fx_74_6 hS.1.1) ?_
  refine Tr.iconst (pc := 36) d_X6_begin_36 (by decide) ?_
  refine Tr.callS (pc := 37) (as := [_, _]) d_X6_begin_37 s_6_91 ok_J7_fill_53178 rfl rfl (Nat.le_of_ble_eq_true rfl) (Nat.le_of_ble_eq_true rfl) ?_
  refine Tr.imp (sp_fill (N := 6) (ty_79 hS.1.1) (by decide)) ?_
  rintro _ _ ⟨rfl, rfl⟩
  refine Tr.nmA (P := St Tru ws_X6_begin_74_27_104 as_X6_begin_74_27_104 M0) (sf_79 (v := 0) 6 hS (by decide) (by omega) trivial) (fil_wa _ _ _ _) (fun M37 hS w37 => ?_)
  refine Tr.sc [] rfl ?_
  refine Tr.aload_n (pc := 40) (i := 0) d_X6_begin_40 rfl rfl ?_
  refine Tr.getf (pc := 41) d_X6_begin_41 f_6_27 (by decide) (by decide) (ty_74 hS.1.1) ?_
  refine Tr.tp 80 (fx_74_7 hS.1.1) ?_
  refine Tr.iconst (pc := 44) d_X6_begin_44 (by decide) ?_
  refine Tr.callS (pc := 45) (as := [_, _]) d_X6_begin_45 s_6_91 ok_J7_fill_53178 rfl rfl (Nat.le_of_ble_eq_true rfl) (Nat.le_of_ble_eq_true rfl) ?_
  refine Tr.imp (sp_fill (N := 6) (ty_80 hS.1.1) (by decide)) ?_
  rintro _ _ ⟨rfl, rfl⟩
  refine Tr.nmA (P := St Tru ws_X6_begin_74_27_104 as_X6_begin_74_27_104 M0) (sf_80 (v := 0) 6 hS (by decide) (by omega) trivial) (fil_wa _ _ _ _) (fun M45 hS w45 => ?_)
  refine Tr.sc [] rfl ?_
  refine Tr.aload_n (pc := 48) (i := 0) d_X6_begin_48 rfl rfl ?_
  refine Tr.getf (pc := 49) d_X6_begin_49 f_6_30 (by decide) (by decide) (ty_74 hS.1.1) ?_
  refine Tr.tp 81 (fx_74_8 hS.1.1) ?_
  refine Tr.iconst (pc := 52) d_X6_begin_52 (by decide) ?_
  refine Tr.callS (pc := 53) (as := [_, _]) d_X6_begin_53 s_6_91 ok_J7_fill_53178 rfl rfl (Nat.le_of_ble_eq_true rfl) (Nat.le_of_ble_eq_true rfl) ?_
  refine Tr.imp (sp_fill (N := 6) (ty_81 hS.1.1) (by decide)) ?_
  rintro _ _ ⟨rfl, rfl⟩
  refine Tr.nmA (P := St Tru ws_X6_begin_74_27_104 as_X6_begin_74_27_104 M0) (sf_81 (v := 0) 6 hS (by decide) (by omega) trivial) (fil_wa _ _ _ _) (fun M53 hS w53 => ?_)
  refine Tr.sc [] rfl ?_
  refine Tr.aload_n (pc := 56) (i := 0) d_X6_begin_56 rfl rfl ?_
  refine Tr.iconst (pc := 57) d_X6_begin_57 (by decide) ?_
  refine Tr.putfS (pc := 58) (P := St Tru ws_X6_begin_74_27_104 as_X6_begin_74_27_104 M0) d_X6_begin_58 f_6_68 (by decide) (by decide) (ty_74 hS.1.1) (st_74_9 hS (by decide) (by omega) trivial) (fun M58 hS w58 => ?_)
  refine Tr.aload_n (pc := 61) (i := 0) d_X6_begin_61 rfl rfl ?_
  refine Tr.iconst (pc := 62) d_X6_begin_62 (by decide) ?_
  refine Tr.putfS (pc := 63) (P := St Tru ws_X6_begin_74_27_104 as_X6_begin_74_27_104 M0) d_X6_begin_63 f_6_97 (by decide) (by decide) (ty_74 hS.1.1) (st_74_11 hS (by decide) (by omega) trivial) (fun M63 hS w63 => ?_)
  refine Tr.aload_n (pc := 66) (i := 0) d_X6_begin_66 rfl rfl ?_
  refine Tr.iconst (pc := 67) d_X6_begin_67 (by decide) ?_
  refine Tr.putfS (pc := 68) (P := St Tru ws_X6_begin_74_27_104 as_X6_begin_74_27_104 M0) d_X6_begin_68 f_6_100 (by decide) (by decide) (ty_74 hS.1.1) (st_74_12 hS (by decide) (by omega) trivial) (fun M68 hS w68 => ?_)
  refine Tr.aload_n (pc := 71) (i := 0) d_X6_begin_71 rfl rfl ?_
  refine Tr.iconst (pc := 72) d_X6_begin_72 (by decide) ?_
  refine Tr.putfS (pc := 73) (P := St Tru ws_X6_begin_74_27_104 as_X6_begin_74_27_104 M0) d_X6_begin_73 f_6_103 (by decide) (by decide) (ty_74 hS.1.1) (st_74_13 hS (by decide) (by omega) trivial) (fun M73 hS w73 => ?_)
  refine Tr.aload_n (pc := 76) (i := 0) d_X6_begin_76 rfl rfl ?_
  refine Tr.iconst (pc := 77) d_X6_begin_77 (by decide) ?_
  refine Tr.putfS (pc := 78) (P := St Tru ws_X6_begin_74_27_104 as_X6_begin_74_27_104 M0) d_X6_begin_78 f_6_62 (by decide) (by decide) (ty_74 hS.1.1) (st_74_14 hS (by decide) (by omega) trivial) (fun M78 hS w78 => ?_)
  refine Tr.aload_n (pc := 81) (i := 0) d_X6_begin_81 rfl rfl ?_
  refine Tr.iconst (pc := 82) d_X6_begin_82 (by decide) ?_
  refine Tr.putfS (pc := 83) (P := St Tru ws_X6_begin_74_27_104 as_X6_begin_74_27_104 M0) d_X6_begin_83 f_6_79 (by decide) (by decide) (ty_74 hS.1.1) (st_74_15 hS (by decide) (by omega) trivial) (fun M83 hS w83 => ?_)
  refine Tr.aload_n (pc := 86) (i := 0) d_X6_begin_86 rfl rfl ?_
  refine Tr.iload_n (pc := 87) (i := 3) d_X6_begin_87 rfl rfl ?_
  refine Tr.tp (-1) (by omega) ?_
  refine Tr.if_lt (pc := 88) (tgt := 95) d_X6_begin_88 rfl (fun _ => ?_) (fun hc => absurd (by omega) hc)
  refine Tr.iconst (pc := 95) d_X6_begin_95 (by decide) ?_
  refine Tr.putzS (pc := 96) (P := St Tru ws_X6_begin_74_27_104 as_X6_begin_74_27_104 M0) d_X6_begin_96 f_6_106 (by decide) (ty_74 hS.1.1) (by omega) (st_74_16 hS (by decide) (by omega) trivial) (fun M96 hS w96 => ?_)
  refine Tr.aload_n (pc := 99) (i := 0) d_X6_begin_99 rfl rfl ?_
  refine Tr.iload_n (pc := 100) (i := 3) d_X6_begin_100 rfl rfl ?_
  refine Tr.tp (-1) (by omega) ?_
  refine Tr.putfS (pc := 101) (P := St Tru ws_X6_begin_74_27_104 as_X6_begin_74_27_104 M0) d_X6_begin_101 f_6_110 (by decide) (by decide) (ty_74 hS.1.1) (st_74_17 hS (by decide) (by omega) trivial) (fun M101 hS w101 => ?_)
  refine Tr.aload_n (pc := 104) (i := 0) d_X6_begin_104 rfl rfl ?_
  refine Tr.getf (pc := 105) d_X6_begin_105 f_6_38 (by decide) (by decide) (ty_74 hS.1.1) ?_
  refine Tr.tp 82 (fx_74_0 hS.1.1) ?_
  refine Tr.aload_n (pc := 108) (i := 1) d_X6_begin_108 rfl rfl ?_
  refine Tr.callV (pc := 109) (as := [_]) d_X6_begin_109 s_6_113 ok_X1_begin rfl rfl (Nat.le_of_ble_eq_true rfl) (Nat.le_of_ble_eq_true rfl) (by decide) (ty_82 hS.1.1) ?_
  refine Tr.imp (Tr.deep (by decide) (sp_X1_begin_82_27 hS.1 )) ?_
  rintro M109 _ ⟨h109, o109_82_1, rfl⟩
  have hS := St.tr hS h109 (by decide) (by decide)
  refine Tr.sc [] rfl ?_
  exact Tr.vret (pc := 112) d_X6_begin_112 rfl ⟨hS, ((St.kp h109 (by decide) (by decide) (by decide)).trans ((Wr.b w101 rfl).trans ((Wr.b w96 rfl).trans ((Wr.b w83 rfl).trans ((Wr.b w78 rfl).trans ((Wr.b w73 rfl).trans ((Wr.b w68 rfl).trans ((Wr.b w63 rfl).trans ((Wr.b w58 rfl).trans ((Wa.b w53 rfl).trans ((Wa.b w45 rfl).trans ((Wa.b w37 rfl).trans ((Wa.b w29 rfl).trans ((Wa.b w21 rfl).trans ((Wa.b w13 rfl).trans w2.1))))))))))))))), o109_82_1, rfl⟩
end
/-! 43.07 -/
section
def ws_X6_go_74_27_104 : List (Int × Int) := [(74, 1), (74, 9), (74, 10), (74, 11), (74, 12), (74, 13), (74, 14), (74, 15), (74, 16), (74, 17), (82, 1)]
def as_X6_go_74_27_104 : List Int := [75, 76, 77, 78, 79, 80, 81, 83]
def q_X6_go_74_27_104 (M0 M' : Mem) (r : Option PV) : Prop := St Tru ws_X6_go_74_27_104 as_X6_go_74_27_104 M0 M' ∧ rd M' 74 1 = 27 ∧ rd M' 82 1 = 27 ∧ r = none
set_option maxRecDepth 100000 in
set_option maxHeartbeats 4000000 in
theorem sp_X6_go_74_27_104 {l : Launch} {K : EC} {M0 : Mem} (hI : In Tru M0)  (a3 : Int) (ha3 : (-1) ≤ a3 ∧ a3 ≤ (-1))  (hF_Y35 : Yn35 M0) : Tr l K 5 mX6_go 0 [(0, (2, 74)), (1, (2, 27)), (2, (2, 104)), (3, (0, a3))] [] M0 (q_X6_go_74_27_104 M0) := by
  have hS : St Tru ws_X6_go_74_27_104 as_X6_go_74_27_104 M0 M0 := St.rf hI
  obtain ⟨g35_0, eg35_0⟩ : ∃ v, rd M0 35 0 = v := ⟨_, rfl⟩
  have bg35_0 : 0 ≤ g35_0 ∧ g35_0 ≤ 60 := by rw [← eg35_0]; exact ir_35_0 hI.2.1
  refine Tr.aload_n (pc := 0) (i := 0) d_X6_go_0 rfl rfl ?_
  refine Tr.aload_n (pc := 1) (i := 1) d_X6_go_1 rfl rfl ?_
  refine Tr.aload_n (pc := 2) (i := 2) d_X6_go_2 rfl rfl ?_
  refine Tr.iload_n (pc := 3) (i := 3) d_X6_go_3 rfl rfl ?_
  refine Tr.tp (-1) (by omega) ?_
  refine Tr.callV (pc := 4) (as := [_, _, _]) d_X6_go_4 s_6_42 ok_X6_begin rfl rfl (Nat.le_of_ble_eq_true rfl) (Nat.le_of_ble_eq_true rfl) (by decide) (ty_74 hS.1.1) ?_
  refine Tr.imp (Tr.deep (by decide) (sp_X6_begin_74_27_104 hS.1 (-1) (by omega))) ?_
  rintro M4 _ ⟨h4, o4_74_1, o4_82_1, rfl⟩
  have hS := St.tr hS h4 (by decide) (by decide)
  refine Tr.sc [] rfl ?_
  refine Tr.iconst (pc := 7) d_X6_go_7 (by decide) ?_
  refine Tr.istore (pc := 8) (i := 4) (ls2 := [(4, (0, 0)), (0, (2, 74)), (1, (2, 27)), (2, (2, 104)), (3, (0, a3))]) d_X6_go_8 (by decide) rfl ?_
  refine Tr.iconst (pc := 10) d_X6_go_10 (by decide) ?_
  refine Tr.istore (pc := 11) (i := 5) (ls2 := [(5, (0, 0)), (4, (0, 0)), (0, (2, 74)), (1, (2, 27)), (2, (2, 104)), (3, (0, a3))]) d_X6_go_11 (by decide) rfl ?_
  have J13 : ∀ (n13 : Nat) (M : Mem) (p13_4 p13_5 : Int), St Tru ws_X6_go_74_27_104 as_X6_go_74_27_104 M0 M → (0 ≤ p13_4 ∧ p13_4 ≤ 2147483647) → (0 ≤ p13_5 ∧ p13_5 ≤ 2001) → rd M 35 0 = g35_0 → rd M 74 1 = 27 → rd M 82 1 = 27 → (2001 - p13_5).toNat < n13 → Tr l K 5 mX6_go 13 [(0, (2, 74)), (4, (0, p13_4)), (5, (0, p13_5))] [] M (q_X6_go_74_27_104 M0) := by
    intro n13
    induction n13 with
    | zero => intro M p13_4 p13_5 hS bp13_4 bp13_5 k13_35_0 k13_74_1 k13_82_1 hm13; exact absurd hm13 (Nat.not_lt_zero _)
    | succ n13 J13 =>
      intro M p13_4 p13_5 hS bp13_4 bp13_5 k13_35_0 k13_74_1 k13_82_1 hm13
      refine Tr.iload (pc := 13) (i := 5) d_X6_go_13 rfl ?_
      refine Tr.sipush (pc := 15) d_X6_go_15 rfl (by decide) ?_
      have J103 : ∀ (M : Mem), St Tru ws_X6_go_74_27_104 as_X6_go_74_27_104 M0 M → rd M 35 0 = g35_0 → rd M 74 1 = 27 → rd M 82 1 = 27 → Tr l K 5 mX6_go 103 [(0, (2, 74))] [] M (q_X6_go_74_27_104 M0) := by
        intro M  hS  k103_35_0 k103_74_1 k103_82_1
        refine Tr.aload_n (pc := 103) (i := 0) d_X6_go_103 rfl rfl ?_
        refine Tr.callV (pc := 104) (as := []) d_X6_go_104 s_6_82 ok_X6_finish rfl rfl (Nat.le_of_ble_eq_true rfl) (Nat.le_of_ble_eq_true rfl) (by decide) (ty_74 hS.1.1) ?_
        refine Tr.imp (Tr.deep (by decide) (sp_X6_finish_74_w1 hS.1 k103_74_1 k103_82_1)) ?_
        rintro M104 _ ⟨h104, rfl⟩
        have hS := St.tr hS h104 (by decide) (by decide)
        refine Tr.sc [] rfl ?_
        exact Tr.vret (pc := 107) d_X6_go_107 rfl ⟨hS, ((St.kp h104 (by decide) (by decide) (by decide)).trans k103_74_1), ((St.kp h104 (by decide) (by decide) (by decide)).trans k103_82_1), rfl⟩
      refine Tr.icmp_gt (pc := 18) (tgt := 103) d_X6_go_18 rfl (fun c18 => ?_) (fun c18 => ?_)
      · refine Tr.pick [0] (ls2 := [(0, (2, 74))]) rfl ?_
        exact J103 _ hS k13_35_0 k13_74_1 k13_82_1
      · refine Tr.iload (pc := 21) (i := 4) d_X6_go_21 rfl ?_
        refine Tr.aload_n (pc := 23) (i := 0) d_X6_go_23 rfl rfl ?_
        refine Tr.getf (pc := 24) d_X6_go_24 f_6_46 (by decide) (by decide) (ty_74 hS.1.1) ?_
        refine Tr.tp 27 k13_74_1 ?_
        refine Tr.getf (pc := 27) d_X6_go_27 f_6_50 (by decide) (by decide) (ty_27 hS.1.1) ?_
        refine Tr.tp 35 (fx_27_11 hS.1.1) ?_
        refine Tr.getf (pc := 30) d_X6_go_30 f_6_56 (by decide) (by decide) (ty_35 hS.1.1) ?_
        refine Tr.tp g35_0 k13_35_0 ?_
        refine Tr.icmp_ge (pc := 33) (tgt := 103) d_X6_go_33 rfl (fun c33 => ?_) (fun c33 => ?_)
        · refine Tr.pick [0] (ls2 := [(0, (2, 74))]) rfl ?_
          exact J103 _ hS k13_35_0 k13_74_1 k13_82_1
        · refine Tr.aload_n (pc := 36) (i := 0) d_X6_go_36 rfl rfl ?_
          refine Tr.getf (pc := 37) d_X6_go_37 f_6_62 (by decide) (by decide) (ty_74 hS.1.1) ?_
          refine Tr.gen (P := fun v => (-2147483648) ≤ v ∧ v ≤ 2147483647) (ir_74_14 hS.1.2.1) (fun r37 er37 br37 => ?_)
          refine Tr.if_ne (pc := 40) (tgt := 103) d_X6_go_40 rfl (fun c40 => ?_) (fun c40 => ?_)
          · refine Tr.pick [0] (ls2 := [(0, (2, 74))]) rfl ?_
            exact J103 _ hS k13_35_0 k13_74_1 k13_82_1
          · refine Tr.aload_n (pc := 43) (i := 0) d_X6_go_43 rfl rfl ?_
            refine Tr.getf (pc := 44) d_X6_go_44 f_6_38 (by decide) (by decide) (ty_74 hS.1.1) ?_
            refine Tr.tp 82 (fx_74_0 hS.1.1) ?_
            refine Tr.callV (pc := 47) (as := []) d_X6_go_47 s_6_65 ok_X1_makeRoom rfl rfl (Nat.le_of_ble_eq_true rfl) (Nat.le_of_ble_eq_true rfl) (by decide) (ty_82 hS.1.1) ?_
            refine Tr.imp (Tr.deep (by decide) (sp_X1_makeRoom_82 hS.1 )) ?_
            rintro M47 _ ⟨h47, rfl⟩
            have hS := St.tr hS h47 (by decide) (by decide)
            refine Tr.sc [] rfl ?_
            refine Tr.aload_n (pc := 50) (i := 0) d_X6_go_50 rfl rfl ?_
            refine Tr.getf (pc := 51) d_X6_go_51 f_6_68 (by decide) (by decide) (ty_74 hS.1.1) ?_
            refine Tr.gen (P := fun v => (-2147483648) ≤ v ∧ v ≤ 2147483647) (ir_74_9 hS.1.2.1) (fun r51 er51 br51 => ?_)
            refine Tr.istore (pc := 54) (i := 6) (ls2 := [(6, (0, r51)), (0, (2, 74)), (4, (0, p13_4)), (5, (0, p13_5))]) d_X6_go_54 (by decide) rfl ?_
            refine Tr.aload_n (pc := 56) (i := 0) d_X6_go_56 rfl rfl ?_
            refine Tr.iload (pc := 57) (i := 4) d_X6_go_57 rfl ?_
            refine Tr.callV (pc := 59) (as := [_]) d_X6_go_59 s_6_71 ok_X6_step rfl rfl (Nat.le_of_ble_eq_true rfl) (Nat.le_of_ble_eq_true rfl) (by decide) (ty_74 hS.1.1) ?_
            have kb59_35_0 : rd M47 35 0 = g35_0 := ((St.kp h47 (by decide) (by decide) (by decide)).trans k13_35_0)
            refine Tr.imp (Tr.deep (by decide) (sp_X6_step_74_w3 hS.1 ((St.kp h47 (by decide) (by decide) (by decide)).trans k13_74_1) p13_4 (by omega) (by omega) (Yn35.of hF_Y35 (fun j => (St.ka hS (by decide) (by decide) (by decide))) (fun j => (St.ka hS (by decide) (by decide) (by decide))) (St.kp hS (by decide) (by decide) (by decide))))) ?_
            rintro M59 _ ⟨h59, r59, rfl, lr59, ur59⟩
            have hS := St.tr hS h59 (by decide) (by decide)
            refine Tr.sc [(0, r59)] rfl ?_
            refine Tr.istore (pc := 62) (i := 7) (ls2 := [(7, (0, r59)), (6, (0, r51)), (0, (2, 74)), (4, (0, p13_4)), (5, (0, p13_5))]) d_X6_go_62 (by decide) rfl ?_
            refine Tr.aload_n (pc := 64) (i := 0) d_X6_go_64 rfl rfl ?_
            refine Tr.getf (pc := 65) d_X6_go_65 f_6_38 (by decide) (by decide) (ty_74 hS.1.1) ?_
            refine Tr.tp 82 (fx_74_0 hS.1.1) ?_
            refine Tr.iload (pc := 68) (i := 4) d_X6_go_68 rfl ?_
            refine Tr.aload_n (pc := 70) (i := 0) d_X6_go_70 rfl rfl ?_
            refine Tr.getf (pc := 71) d_X6_go_71 f_6_68 (by decide) (by decide) (ty_74 hS.1.1) ?_
            refine Tr.gen (P := fun v => (-2147483648) ≤ v ∧ v ≤ 2147483647) (ir_74_9 hS.1.2.1) (fun r71 er71 br71 => ?_)
            refine Tr.iload (pc := 74) (i := 6) d_X6_go_74 rfl ?_
            refine Tr.isub (pc := 76) d_X6_go_76 ?_
            refine Tr.gen (P := fun v => (-2147483648) ≤ v ∧ v ≤ 2147483647) (w32_b _) (fun r76 er76 br76 => ?_)
            refine Tr.callV (pc := 77) (as := [_, _]) d_X6_go_77 s_6_75 ok_X1_payHeart rfl rfl (Nat.le_of_ble_eq_true rfl) (Nat.le_of_ble_eq_true rfl) (by decide) (ty_82 hS.1.1) ?_
            refine Tr.imp (Tr.deep (by decide) (sp_X1_payHeart_82_w1 hS.1 p13_4 (by omega) r76 (by omega))) ?_
            rintro M77 _ ⟨h77, rfl⟩
            have hS := St.tr hS h77 (by decide) (by decide)
            refine Tr.sc [] rfl ?_
            refine Tr.aload_n (pc := 80) (i := 0) d_X6_go_80 rfl rfl ?_
            refine Tr.getf (pc := 81) d_X6_go_81 f_6_62 (by decide) (by decide) (ty_74 hS.1.1) ?_
            refine Tr.gen (P := fun v => (-2147483648) ≤ v ∧ v ≤ 2147483647) (ir_74_14 hS.1.2.1) (fun r81 er81 br81 => ?_)
            have J93 : ∀ (M : Mem), St Tru ws_X6_go_74_27_104 as_X6_go_74_27_104 M0 M → rd M 35 0 = g35_0 → rd M 74 1 = 27 → rd M 74 14 = r81 → rd M 74 9 = r71 → rd M 82 1 = 27 → Tr l K 5 mX6_go 93 [(0, (2, 74)), (5, (0, p13_5)), (7, (0, r59))] [] M (q_X6_go_74_27_104 M0) := by
              intro M  hS  k93_35_0 k93_74_1 k93_74_14 k93_74_9 k93_82_1
              refine Tr.iload (pc := 93) (i := 7) d_X6_go_93 rfl ?_
              refine Tr.istore (pc := 95) (i := 4) (ls2 := [(4, (0, r59)), (0, (2, 74)), (5, (0, p13_5)), (7, (0, r59))]) d_X6_go_95 (by decide) rfl ?_
              refine Tr.iincV (pc := 97) (n2 := (p13_5 + 1)) (ls2 := [(5, (0, (p13_5 + 1))), (4, (0, r59)), (0, (2, 74)), (7, (0, r59))]) d_X6_go_97 rfl (by decide) ((w32_id (by omega)).trans (by omega)) rfl ?_
              refine Tr.goto (pc := 100) (tgt := 13) d_X6_go_100 rfl ?_
              refine Tr.pick [2, 1, 0] (ls2 := [(0, (2, 74)), (4, (0, r59)), (5, (0, (p13_5 + 1)))]) rfl ?_
              exact J13 _ _ _ hS (by omega) (by omega) k93_35_0 k93_74_1 k93_82_1 (by omega)
            refine Tr.if_eq (pc := 84) (tgt := 93) d_X6_go_84 rfl (fun c84 => ?_) (fun c84 => ?_)
            · refine Tr.pick [2, 4, 0] (ls2 := [(0, (2, 74)), (5, (0, p13_5)), (7, (0, r59))]) rfl ?_
              exact J93 _ hS ((St.kp h77 (by decide) (by decide) (by decide)).trans ((St.kp h59 (by decide) (by decide) (by decide)).trans ((St.kp h47 (by decide) (by decide) (by decide)).trans k13_35_0))) ((St.kp h77 (by decide) (by decide) (by decide)).trans ((St.kp h59 (by decide) (by decide) (by decide)).trans ((St.kp h47 (by decide) (by decide) (by decide)).trans k13_74_1))) er81 ((St.kp h77 (by decide) (by decide) (by decide)).trans er71) ((St.kp h77 (by decide) (by decide) (by decide)).trans ((St.kp h59 (by decide) (by decide) (by decide)).trans ((St.kp h47 (by decide) (by decide) (by decide)).trans k13_82_1)))
            · refine Tr.aload_n (pc := 87) (i := 0) d_X6_go_87 rfl rfl ?_
              refine Tr.iload (pc := 88) (i := 4) d_X6_go_88 rfl ?_
              refine Tr.putfS (pc := 90) (P := St Tru ws_X6_go_74_27_104 as_X6_go_74_27_104 M0) d_X6_go_90 f_6_79 (by decide) (by decide) (ty_74 hS.1.1) (st_74_15 hS (by decide) (by omega) trivial) (fun M90 hS w90 => ?_)
              refine Tr.pick [2, 4, 0] (ls2 := [(0, (2, 74)), (5, (0, p13_5)), (7, (0, r59))]) rfl ?_
              exact J93 _ hS ((Wr.b w90 rfl).trans ((St.kp h77 (by decide) (by decide) (by decide)).trans ((St.kp h59 (by decide) (by decide) (by decide)).trans ((St.kp h47 (by decide) (by decide) (by decide)).trans k13_35_0)))) ((Wr.b w90 rfl).trans ((St.kp h77 (by decide) (by decide) (by decide)).trans ((St.kp h59 (by decide) (by decide) (by decide)).trans ((St.kp h47 (by decide) (by decide) (by decide)).trans k13_74_1)))) ((Wr.b w90 rfl).trans er81) ((Wr.b w90 rfl).trans ((St.kp h77 (by decide) (by decide) (by decide)).trans er71)) ((Wr.b w90 rfl).trans ((St.kp h77 (by decide) (by decide) (by decide)).trans ((St.kp h59 (by decide) (by decide) (by decide)).trans ((St.kp h47 (by decide) (by decide) (by decide)).trans k13_82_1))))
  refine Tr.pick [2, 1, 0] (ls2 := [(0, (2, 74)), (4, (0, 0)), (5, (0, 0))]) rfl ?_
  exact J13 _ _ _ _ hS (by omega) (by omega) ((St.kp h4 (by decide) (by decide) (by decide)).trans eg35_0) o4_74_1 o4_82_1 (Nat.lt_succ_self _)

def ws_X10_turnOn_103_27 : List (Int × Int) := []
def as_X10_turnOn_103_27 : List Int := [104]
def q_X10_turnOn_103_27 (M0 M' : Mem) (r : Option PV) : Prop := St Tru ws_X10_turnOn_103_27 as_X10_turnOn_103_27 M0 M' ∧ r = none
set_option maxRecDepth 100000 in
set_option maxHeartbeats 4000000 in
theorem sp_X10_turnOn_103_27 {l : Launch} {K : EC} {M0 : Mem} (hI : In Tru M0)    : Tr l K 0 mX10_turnOn 0 [(0, (2, 103)), (1, (2, 27))] [] M0 (q_X10_turnOn_103_27 M0) := by
  have hS : St Tru ws_X10_turnOn_103_27 as_X10_turnOn_103_27 M0 M0 := St.rf hI
  refine Tr.aload_n (pc := 0) (i := 1) d_X10_turnOn_0 rfl rfl ?_
  refine Tr.getf (pc := 1) d_X10_turnOn_1 f_10_25 (by decide) (by decide) (ty_27 hS.1.1) ?_
  refine Tr.tp 28 (fx_27_4 hS.1.1) ?_
  refine Tr.iconst (pc := 4) d_X10_turnOn_4 (by decide) ?_
  refine Tr.iald (pc := 5) d_X10_turnOn_5 (ty_28 hS.1.1) (by omega) (by omega) ?_
  refine Tr.gen (P := fun v => 0 ≤ v ∧ v ≤ 3) (ir_28_1 hS.1.2.1) (fun r5 er5 br5 => ?_)
  refine Tr.iconst (pc := 6) d_X10_turnOn_6 (by decide) ?_
  refine Tr.isub (pc := 7) d_X10_turnOn_7 ?_
  refine Tr.tp (r5 - 1) ((w32_id (by omega)).trans (by omega)) ?_
  refine Tr.istore_n (pc := 8) (i := 2) (ls2 := [(2, (0, (r5 - 1))), (0, (2, 103)), (1, (2, 27))]) d_X10_turnOn_8 rfl (by decide) rfl ?_
  have J9 : ∀ (n9 : Nat) (M : Mem) (p9_2 : Int), St Tru ws_X10_turnOn_103_27 as_X10_turnOn_103_27 M0 M → ((-1) ≤ p9_2 ∧ p9_2 ≤ 2) → rd M 28 1 = r5 → (p9_2 - (-1)).toNat < n9 → Tr l K 0 mX10_turnOn 9 [(0, (2, 103)), (1, (2, 27)), (2, (0, p9_2))] [] M (q_X10_turnOn_103_27 M0) := by
    intro n9
    induction n9 with
    | zero => intro M p9_2 hS bp9_2 k9_28_1 hm9; exact absurd hm9 (Nat.not_lt_zero _)
    | succ n9 J9 =>
      intro M p9_2 hS bp9_2 k9_28_1 hm9
      refine Tr.iload_n (pc := 9) (i := 2) d_X10_turnOn_9 rfl rfl ?_
      refine Tr.if_lt (pc := 10) (tgt := 57) d_X10_turnOn_10 rfl (fun c10 => ?_) (fun c10 => ?_)
      · exact Tr.vret (pc := 57) d_X10_turnOn_57 rfl ⟨hS, rfl⟩
      · refine Tr.aload_n (pc := 13) (i := 0) d_X10_turnOn_13 rfl rfl ?_
        refine Tr.getf (pc := 14) d_X10_turnOn_14 f_10_9 (by decide) (by decide) (ty_103 hS.1.1) ?_
        refine Tr.tp 104 (fx_103_4 hS.1.1) ?_
        refine Tr.iload_n (pc := 17) (i := 2) d_X10_turnOn_17 rfl rfl ?_
        refine Tr.iald (pc := 18) d_X10_turnOn_18 (ty_104 hS.1.1) (by omega) (by omega) ?_
        refine Tr.gen (P := fun v => (-2147483648) ≤ v ∧ v ≤ 2147483647) (ar_104 hS.1.2.1 _) (fun r18 er18 br18 => ?_)
        refine Tr.aload_n (pc := 19) (i := 1) d_X10_turnOn_19 rfl rfl ?_
        refine Tr.getf (pc := 20) d_X10_turnOn_20 f_10_30 (by decide) (by decide) (ty_27 hS.1.1) ?_
        refine Tr.tp 33 (fx_27_9 hS.1.1) ?_
        refine Tr.iload_n (pc := 23) (i := 2) d_X10_turnOn_23 rfl rfl ?_
        refine Tr.iald (pc := 24) d_X10_turnOn_24 (ty_33 hS.1.1) (by omega) (by omega) ?_
        refine Tr.gen (P := fun v => (-1) ≤ v ∧ v ≤ 99) (ar_33 hS.1.2.1 _) (fun r24 er24 br24 => ?_)
        refine Tr.icmp_ge (pc := 25) (tgt := 39) d_X10_turnOn_25 rfl (fun c25 => ?_) (fun c25 => ?_)
        · refine Tr.aload_n (pc := 39) (i := 0) d_X10_turnOn_39 rfl rfl ?_
          refine Tr.getf (pc := 40) d_X10_turnOn_40 f_10_9 (by decide) (by decide) (ty_103 hS.1.1) ?_
          refine Tr.tp 104 (fx_103_4 hS.1.1) ?_
          refine Tr.iload_n (pc := 43) (i := 2) d_X10_turnOn_43 rfl rfl ?_
          refine Tr.aload_n (pc := 44) (i := 1) d_X10_turnOn_44 rfl rfl ?_
          refine Tr.getf (pc := 45) d_X10_turnOn_45 f_10_33 (by decide) (by decide) (ty_27 hS.1.1) ?_
          refine Tr.tp 32 (fx_27_8 hS.1.1) ?_
          refine Tr.iload_n (pc := 48) (i := 2) d_X10_turnOn_48 rfl rfl ?_
          refine Tr.iald (pc := 49) d_X10_turnOn_49 (ty_32 hS.1.1) (by omega) (by omega) ?_
          refine Tr.gen (P := fun v => (-1) ≤ v ∧ v ≤ 99) (ar_32 hS.1.2.1 _) (fun r49 er49 br49 => ?_)
          refine Tr.iastS (pc := 50) (P := St Tru ws_X10_turnOn_103_27 as_X10_turnOn_103_27 M0) d_X10_turnOn_50 (ty_104 hS.1.1) (by omega) (by omega) (sa_104 hS (by decide) (by omega) trivial) (fun M50 hS w50 => ?_)
          refine Tr.iincV (pc := 51) (n2 := (p9_2 - 1)) (ls2 := [(2, (0, (p9_2 - 1))), (0, (2, 103)), (1, (2, 27))]) d_X10_turnOn_51 rfl (by decide) ((w32_id (by omega)).trans (by omega)) rfl ?_
          refine Tr.goto (pc := 54) (tgt := 9) d_X10_turnOn_54 rfl ?_
          refine Tr.pick [1, 2, 0] (ls2 := [(0, (2, 103)), (1, (2, 27)), (2, (0, (p9_2 - 1)))]) rfl ?_
          exact J9 _ _ hS (by omega) ((Wr.b w50 rfl).trans k9_28_1) (by omega)
        · refine Tr.aload_n (pc := 28) (i := 0) d_X10_turnOn_28 rfl rfl ?_
          refine Tr.getf (pc := 29) d_X10_turnOn_29 f_10_9 (by decide) (by decide) (ty_103 hS.1.1) ?_
          refine Tr.tp 104 (fx_103_4 hS.1.1) ?_
          refine Tr.iload_n (pc := 32) (i := 2) d_X10_turnOn_32 rfl rfl ?_
          refine Tr.dup2 (pc := 33) d_X10_turnOn_33 ne01 ne21 ?_
          refine Tr.iald (pc := 34) d_X10_turnOn_34 (ty_104 hS.1.1) (by omega) (by omega) ?_
          refine Tr.tp r18 er18 ?_
          refine Tr.iconst (pc := 35) d_X10_turnOn_35 (by decide) ?_
          refine Tr.iadd (pc := 36) d_X10_turnOn_36 ?_
          refine Tr.tp (r18 + 1) ((w32_id (by omega)).trans (by omega)) ?_
          refine Tr.iastS (pc := 37) (P := St Tru ws_X10_turnOn_103_27 as_X10_turnOn_103_27 M0) d_X10_turnOn_37 (ty_104 hS.1.1) (by omega) (by omega) (sa_104 hS (by decide) (by omega) trivial) (fun M37 hS w37 => ?_)
          exact Tr.vret (pc := 38) d_X10_turnOn_38 rfl ⟨hS, rfl⟩
  refine Tr.pick [1, 2, 0] (ls2 := [(0, (2, 103)), (1, (2, 27)), (2, (0, (r5 - 1)))]) rfl ?_
  exact J9 _ _ _ hS (by omega) er5 (Nat.lt_succ_self _)

def ws_X11_over_0_w1 : List (Int × Int) := [(74, 1), (74, 9), (74, 10), (74, 11), (74, 12), (74, 13), (74, 14), (74, 15), (74, 16), (74, 17), (82, 1), (103, 0), (103, 1), (103, 2), (103, 3)]
def as_X11_over_0_w1 : List Int := [75, 76, 77, 78, 79, 80, 81, 83, 104, 105, 106]
def q_X11_over_0_w1 (M0 M' : Mem) (r : Option PV) : Prop := St Tru ws_X11_over_0_w1 as_X11_over_0_w1 M0 M' ∧ ∃ v : Int, r = some (0, v) ∧ (-2147483648) ≤ v ∧ v ≤ 2147483647
set_option maxRecDepth 100000 in
set_option maxHeartbeats 4000000 in
theorem sp_X11_over_0_w1 {l : Launch} {K : EC} {M0 : Mem} (hI : In Tru M0) (en_0_4 : rd M0 0 4 = 27) (a1 : Int) (ha1 : 0 ≤ a1 ∧ a1 ≤ 1)  (hF_Y35 : Yn35 M0) : Tr l K 6 mX11_over 0 [(0, (2, 0)), (1, (0, a1))] [] M0 (q_X11_over_0_w1 M0) := by
  have hS : St Tru ws_X11_over_0_w1 as_X11_over_0_w1 M0 M0 := St.rf hI
  refine Tr.aload_n (pc := 0) (i := 0) d_X11_over_0 rfl rfl ?_
  refine Tr.getf (pc := 1) d_X11_over_1 f_11_63 (by decide) (by decide) (ty_0 hS.1.1) ?_
  refine Tr.tp 103 (fx_0_11 hS.1.1) ?_
  refine Tr.aload_n (pc := 4) (i := 0) d_X11_over_4 rfl rfl ?_
  refine Tr.getf (pc := 5) d_X11_over_5 f_11_30 (by decide) (by decide) (ty_0 hS.1.1) ?_
  refine Tr.tp 27 ((St.kp hS (by decide) (by decide) (by decide)).trans en_0_4) ?_
  refine Tr.callV (pc := 8) (as := [_]) d_X11_over_8 s_11_249 ok_X10_begin rfl rfl (Nat.le_of_ble_eq_true rfl) (Nat.le_of_ble_eq_true rfl) (by decide) (ty_103 hS.1.1) ?_
  refine Tr.imp (Tr.deep (by decide) (sp_X10_begin_103_27 hS.1 )) ?_
  rintro M8 _ ⟨h8, r8, rfl, lr8, ur8⟩
  have hS := St.tr hS h8 (by decide) (by decide)
  refine Tr.sc [(0, r8)] rfl ?_
  refine Tr.istore_n (pc := 11) (i := 2) (ls2 := [(2, (0, r8)), (0, (2, 0)), (1, (0, a1))]) d_X11_over_11 rfl (by decide) rfl ?_
  refine Tr.iload_n (pc := 12) (i := 2) d_X11_over_12 rfl rfl ?_
  refine Tr.sipush (pc := 13) d_X11_over_13 rfl (by decide) ?_
  refine Tr.icmp_le (pc := 16) (tgt := 21) d_X11_over_16 rfl (fun c16 => ?_) (fun c16 => ?_)
  · refine Tr.iconst (pc := 21) d_X11_over_21 (by decide) ?_
    refine Tr.istore_n (pc := 22) (i := 3) (ls2 := [(3, (0, 0)), (2, (0, r8)), (0, (2, 0)), (1, (0, a1))]) d_X11_over_22 rfl (by decide) rfl ?_
    have J23 : ∀ (n23 : Nat) (M : Mem) (p23_3 : Int), St Tru ws_X11_over_0_w1 as_X11_over_0_w1 M0 M → (0 ≤ p23_3 ∧ p23_3 ≤ 256) → (256 - p23_3).toNat < n23 → Tr l K 6 mX11_over 23 [(0, (2, 0)), (1, (0, a1)), (2, (0, r8)), (3, (0, p23_3))] [] M (q_X11_over_0_w1 M0) := by
      intro n23
      induction n23 with
      | zero => intro M p23_3 hS bp23_3  hm23; exact absurd hm23 (Nat.not_lt_zero _)
      | succ n23 J23 =>
        intro M p23_3 hS bp23_3  hm23
        refine Tr.iload_n (pc := 23) (i := 3) d_X11_over_23 rfl rfl ?_
        refine Tr.iload_n (pc := 24) (i := 2) d_X11_over_24 rfl rfl ?_
        refine Tr.icmp_ge (pc := 25) (tgt := 87) d_X11_over_25 rfl (fun c25 => ?_) (fun c25 => ?_)
        · refine Tr.aload_n (pc := 87) (i := 0) d_X11_over_87 rfl rfl ?_
          refine Tr.getf (pc := 88) d_X11_over_88 f_11_63 (by decide) (by decide) (ty_0 hS.1.1) ?_
          refine Tr.tp 103 (fx_0_11 hS.1.1) ?_
          refine Tr.iload_n (pc := 91) (i := 1) d_X11_over_91 rfl rfl ?_
          refine Tr.callV (pc := 92) (as := [_]) d_X11_over_92 s_11_264 ok_X10_choose rfl rfl (Nat.le_of_ble_eq_true rfl) (Nat.le_of_ble_eq_true rfl) (by decide) (ty_103 hS.1.1) ?_
          refine Tr.imp (Tr.deep (by decide) (sp_X10_choose_103 hS.1 a1 (by omega))) ?_
          rintro M92 _ ⟨h92, r92, rfl, lr92, ur92⟩
          have hS := St.tr hS h92 (by decide) (by decide)
          refine Tr.sc [(0, r92)] rfl ?_
          exact Tr.iret (pc := 95) d_X11_over_95 rfl ⟨hS, _, rfl, by omega, by omega⟩
        · refine Tr.aload_n (pc := 28) (i := 0) d_X11_over_28 rfl rfl ?_
          refine Tr.getf (pc := 29) d_X11_over_29 f_11_50 (by decide) (by decide) (ty_0 hS.1.1) ?_
          refine Tr.tp 74 (fx_0_8 hS.1.1) ?_
          refine Tr.aload_n (pc := 32) (i := 0) d_X11_over_32 rfl rfl ?_
          refine Tr.getf (pc := 33) d_X11_over_33 f_11_30 (by decide) (by decide) (ty_0 hS.1.1) ?_
          refine Tr.tp 27 ((St.kp hS (by decide) (by decide) (by decide)).trans en_0_4) ?_
          refine Tr.aload_n (pc := 36) (i := 0) d_X11_over_36 rfl rfl ?_
          refine Tr.getf (pc := 37) d_X11_over_37 f_11_63 (by decide) (by decide) (ty_0 hS.1.1) ?_
          refine Tr.tp 103 (fx_0_11 hS.1.1) ?_
          refine Tr.getf (pc := 40) d_X11_over_40 f_11_253 (by decide) (by decide) (ty_103 hS.1.1) ?_
          refine Tr.tp 104 (fx_103_4 hS.1.1) ?_
          refine Tr.iconst (pc := 43) d_X11_over_43 (by decide) ?_
          refine Tr.callV (pc := 44) (as := [_, _, _]) d_X11_over_44 s_11_144 ok_X6_go rfl rfl (Nat.le_of_ble_eq_true rfl) (Nat.le_of_ble_eq_true rfl) (by decide) (ty_74 hS.1.1) ?_
          refine Tr.imp (Tr.deep (by decide) (sp_X6_go_74_27_104 hS.1 (-1) (by omega) (Yn35.of hF_Y35 (fun j => (St.ka hS (by decide) (by decide) (by decide))) (fun j => (St.ka hS (by decide) (by decide) (by decide))) (St.kp hS (by decide) (by decide) (by decide))))) ?_
          rintro M44 _ ⟨h44, o44_74_1, o44_82_1, rfl⟩
          have hS := St.tr hS h44 (by decide) (by decide)
          refine Tr.sc [] rfl ?_
          refine Tr.aload_n (pc := 47) (i := 0) d_X11_over_47 rfl rfl ?_
          refine Tr.getf (pc := 48) d_X11_over_48 f_11_63 (by decide) (by decide) (ty_0 hS.1.1) ?_
          refine Tr.tp 103 (fx_0_11 hS.1.1) ?_
          refine Tr.aload_n (pc := 51) (i := 0) d_X11_over_51 rfl rfl ?_
          refine Tr.getf (pc := 52) d_X11_over_52 f_11_50 (by decide) (by decide) (ty_0 hS.1.1) ?_
          refine Tr.tp 74 (fx_0_8 hS.1.1) ?_
          refine Tr.getf (pc := 55) d_X11_over_55 f_11_155 (by decide) (by decide) (ty_74 hS.1.1) ?_
          refine Tr.gen (P := fun v => (-2147483648) ≤ v ∧ v ≤ 2147483647) (ir_74_10 hS.1.2.1) (fun r55 er55 br55 => ?_)
          refine Tr.iload_n (pc := 58) (i := 3) d_X11_over_58 rfl rfl ?_
          have J67 : ∀ (M : Mem) (q67_2 : Int), St Tru ws_X11_over_0_w1 as_X11_over_0_w1 M0 M → (0 ≤ q67_2 ∧ q67_2 ≤ 1) → rd M 74 1 = 27 → rd M 74 10 = r55 → rd M 82 1 = 27 → Tr l K 6 mX11_over 67 [(0, (2, 0)), (1, (0, a1)), (2, (0, r8)), (3, (0, p23_3))] [(0, q67_2), (0, r55), (2, 103)] M (q_X11_over_0_w1 M0) := by
            intro M q67_2 hS bq67_2 k67_74_1 k67_74_10 k67_82_1
            refine Tr.callV (pc := 67) (as := [_, _]) d_X11_over_67 s_11_256 ok_X10_compare rfl rfl (Nat.le_of_ble_eq_true rfl) (Nat.le_of_ble_eq_true rfl) (by decide) (ty_103 hS.1.1) ?_
            refine Tr.imp (Tr.deep (by decide) (sp_X10_compare_103_w1 hS.1 r55 (by omega) q67_2 (by omega))) ?_
            rintro M67 _ ⟨h67, rfl⟩
            have hS := St.tr hS h67 (by decide) (by decide)
            refine Tr.sc [] rfl ?_
            refine Tr.aload_n (pc := 70) (i := 0) d_X11_over_70 rfl rfl ?_
            refine Tr.getf (pc := 71) d_X11_over_71 f_11_63 (by decide) (by decide) (ty_0 hS.1.1) ?_
            refine Tr.tp 103 (fx_0_11 hS.1.1) ?_
            refine Tr.aload_n (pc := 74) (i := 0) d_X11_over_74 rfl rfl ?_
            refine Tr.getf (pc := 75) d_X11_over_75 f_11_30 (by decide) (by decide) (ty_0 hS.1.1) ?_
            refine Tr.tp 27 ((St.kp hS (by decide) (by decide) (by decide)).trans en_0_4) ?_
            refine Tr.callV (pc := 78) (as := [_]) d_X11_over_78 s_11_260 ok_X10_turnOn rfl rfl (Nat.le_of_ble_eq_true rfl) (Nat.le_of_ble_eq_true rfl) (by decide) (ty_103 hS.1.1) ?_
            refine Tr.imp (Tr.deep (by decide) (sp_X10_turnOn_103_27 hS.1 )) ?_
            rintro M78 _ ⟨h78, rfl⟩
            have hS := St.tr hS h78 (by decide) (by decide)
            refine Tr.sc [] rfl ?_
            refine Tr.iincV (pc := 81) (n2 := (p23_3 + 1)) (ls2 := [(3, (0, (p23_3 + 1))), (0, (2, 0)), (1, (0, a1)), (2, (0, r8))]) d_X11_over_81 rfl (by decide) ((w32_id (by omega)).trans (by omega)) rfl ?_
            refine Tr.goto (pc := 84) (tgt := 23) d_X11_over_84 rfl ?_
            refine Tr.pick [1, 2, 3, 0] (ls2 := [(0, (2, 0)), (1, (0, a1)), (2, (0, r8)), (3, (0, (p23_3 + 1)))]) rfl ?_
            exact J23 _ _ hS (by omega) (by omega)
          refine Tr.if_ne (pc := 59) (tgt := 66) d_X11_over_59 rfl (fun c59 => ?_) (fun c59 => ?_)
          · refine Tr.iconst (pc := 66) d_X11_over_66 (by decide) ?_
            refine Tr.pick [0, 1, 2, 3] (ls2 := [(0, (2, 0)), (1, (0, a1)), (2, (0, r8)), (3, (0, p23_3))]) rfl ?_
            exact J67 _ _ hS (by omega) o44_74_1 er55 o44_82_1
          · refine Tr.iconst (pc := 62) d_X11_over_62 (by decide) ?_
            refine Tr.goto (pc := 63) (tgt := 67) d_X11_over_63 rfl ?_
            refine Tr.pick [0, 1, 2, 3] (ls2 := [(0, (2, 0)), (1, (0, a1)), (2, (0, r8)), (3, (0, p23_3))]) rfl ?_
            exact J67 _ _ hS (by omega) o44_74_1 er55 o44_82_1
    refine Tr.pick [2, 3, 1, 0] (ls2 := [(0, (2, 0)), (1, (0, a1)), (2, (0, r8)), (3, (0, 0))]) rfl ?_
    exact J23 _ _ _ hS (by omega) (Nat.lt_succ_self _)
  · refine Tr.iconst (pc := 19) d_X11_over_19 (by decide) ?_
    exact Tr.iret (pc := 20) d_X11_over_20 rfl ⟨hS, _, rfl, by omega, by omega⟩

def ws_X1_begin_56_27 : List (Int × Int) := [(56, 1), (63, 0), (63, 7)]
def as_X1_begin_56_27 : List Int := [57, 58, 59, 60, 61, 62, 69]
def q_X1_begin_56_27 (M0 M' : Mem) (r : Option PV) : Prop := St Tru ws_X1_begin_56_27 as_X1_begin_56_27 M0 M' ∧ rd M' 56 1 = 27 ∧ r = none ∧ (rd M' 63 7 = 0) ∧ Rn M'
set_option maxRecDepth 100000 in
set_option maxHeartbeats 4000000 in
theorem sp_X1_begin_56_27 {l : Launch} {K : EC} {M0 : Mem} (hI : In Tru M0)    : Tr l K 2 mX1_begin 0 [(0, (2, 56)), (1, (2, 27))] [] M0 (q_X1_begin_56_27 M0) := by
  have hS : St Tru ws_X1_begin_56_27 as_X1_begin_56_27 M0 M0 := St.rf hI
  refine Tr.aload_n (pc := 0) (i := 0) d_X1_begin_0 rfl rfl ?_
  refine Tr.aload_n (pc := 1) (i := 1) d_X1_begin_1 rfl rfl ?_
  refine Tr.putfS (pc := 2) (P := St Tru ws_X1_begin_56_27 as_X1_begin_56_27 M0) d_X1_begin_2 f_1_41 (by decide) (by decide) (ty_56 hS.1.1) (st_56_1 hS (by decide) (by omega) trivial) (fun M2 hS w2 => ?_)
  refine Tr.aload_n (pc := 5) (i := 0) d_X1_begin_5 rfl rfl ?_
  refine Tr.getf (pc := 6) d_X1_begin_6 f_1_9 (by decide) (by decide) (ty_56 hS.1.1) ?_
  refine Tr.tp 57 (fx_56_2 hS.1.1) ?_
  refine Tr.iconst (pc := 9) d_X1_begin_9 (by decide) ?_
  refine Tr.callS (pc := 10) (as := [_, _]) d_X1_begin_10 s_1_45 ok_J7_fill_53178 rfl rfl (Nat.le_of_ble_eq_true rfl) (Nat.le_of_ble_eq_true rfl) ?_
  refine Tr.imp (sp_fill (N := 24) (ty_57 hS.1.1) (by decide)) ?_
  rintro _ _ ⟨rfl, rfl⟩
  refine Tr.nmA (P := St Tru ws_X1_begin_56_27 as_X1_begin_56_27 M0) (sf_57 (v := 0) 24 hS (by decide) (by omega) trivial) (fil_wa _ _ _ _) (fun M10 hS w10 => ?_)
  refine Tr.sc [] rfl ?_
  refine Tr.aload_n (pc := 13) (i := 0) d_X1_begin_13 rfl rfl ?_
  refine Tr.getz (pc := 14) d_X1_begin_14 f_1_37 (by decide) (ty_56 hS.1.1) ?_
  refine Tr.tp 1 (fx_56_0 hS.1.1) ?_
  refine Tr.if_eq (pc := 17) (tgt := 67) d_X1_begin_17 rfl (fun hc => absurd hc (by omega)) (fun _ => ?_)
  refine Tr.aload_n (pc := 20) (i := 0) d_X1_begin_20 rfl rfl ?_
  refine Tr.getf (pc := 21) d_X1_begin_21 f_1_15 (by decide) (by decide) (ty_56 hS.1.1) ?_
  refine Tr.tp 58 (fx_56_3 hS.1.1) ?_
  refine Tr.iconst (pc := 24) d_X1_begin_24 (by decide) ?_
  refine Tr.callS (pc := 25) (as := [_, _]) d_X1_begin_25 s_1_45 ok_J7_fill_53178 rfl rfl (Nat.le_of_ble_eq_true rfl) (Nat.le_of_ble_eq_true rfl) ?_
  refine Tr.imp (sp_fill (N := 6) (ty_58 hS.1.1) (by decide)) ?_
  rintro _ _ ⟨rfl, rfl⟩
  refine Tr.nmA (P := St Tru ws_X1_begin_56_27 as_X1_begin_56_27 M0) (sf_58 (v := (-1)) 6 hS (by decide) (by omega) trivial) (fil_wa _ _ _ _) (fun M25 hS w25 => ?_)
  refine Tr.sc [] rfl ?_
  refine Tr.aload_n (pc := 28) (i := 0) d_X1_begin_28 rfl rfl ?_
  refine Tr.getf (pc := 29) d_X1_begin_29 f_1_18 (by decide) (by decide) (ty_56 hS.1.1) ?_
  refine Tr.tp 59 (fx_56_4 hS.1.1) ?_
  refine Tr.iconst (pc := 32) d_X1_begin_32 (by decide) ?_
  refine Tr.callS (pc := 33) (as := [_, _]) d_X1_begin_33 s_1_45 ok_J7_fill_53178 rfl rfl (Nat.le_of_ble_eq_true rfl) (Nat.le_of_ble_eq_true rfl) ?_
  refine Tr.imp (sp_fill (N := 6) (ty_59 hS.1.1) (by decide)) ?_
  rintro _ _ ⟨rfl, rfl⟩
  refine Tr.nmA (P := St Tru ws_X1_begin_56_27 as_X1_begin_56_27 M0) (sf_59 (v := (-1)) 6 hS (by decide) (by omega) trivial) (fil_wa _ _ _ _) (fun M33 hS w33 => ?_)
  refine Tr.sc [] rfl ?_
  refine Tr.aload_n (pc := 36) (i := 0) d_X1_begin_36 rfl rfl ?_
  refine Tr.getf (pc := 37) d_X1_begin_37 f_1_21 (by decide) (by decide) (ty_56 hS.1.1) ?_
  refine Tr.tp 60 (fx_56_5 hS.1.1) ?_
  refine Tr.iconst (pc := 40) d_X1_begin_40 (by decide) ?_
  refine Tr.callS (pc := 41) (as := [_, _]) d_X1_begin_41 s_1_45 ok_J7_fill_53178 rfl rfl (Nat.le_of_ble_eq_true rfl) (Nat.le_of_ble_eq_true rfl) ?_
  refine Tr.imp (sp_fill (N := 60) (ty_60 hS.1.1) (by decide)) ?_
  rintro _ _ ⟨rfl, rfl⟩
  refine Tr.nmA (P := St Tru ws_X1_begin_56_27 as_X1_begin_56_27 M0) (sf_60 (v := 0) 60 hS (by decide) (by omega) trivial) (fil_wa _ _ _ _) (fun M41 hS w41 => ?_)
  refine Tr.sc [] rfl ?_
  refine Tr.aload_n (pc := 44) (i := 0) d_X1_begin_44 rfl rfl ?_
  refine Tr.getf (pc := 45) d_X1_begin_45 f_1_24 (by decide) (by decide) (ty_56 hS.1.1) ?_
  refine Tr.tp 61 (fx_56_6 hS.1.1) ?_
  refine Tr.iconst (pc := 48) d_X1_begin_48 (by decide) ?_
  refine Tr.callS (pc := 49) (as := [_, _]) d_X1_begin_49 s_1_45 ok_J7_fill_53178 rfl rfl (Nat.le_of_ble_eq_true rfl) (Nat.le_of_ble_eq_true rfl) ?_
  refine Tr.imp (sp_fill (N := 60) (ty_61 hS.1.1) (by decide)) ?_
  rintro _ _ ⟨rfl, rfl⟩
  refine Tr.nmA (P := St Tru ws_X1_begin_56_27 as_X1_begin_56_27 M0) (sf_61 (v := 0) 60 hS (by decide) (by omega) trivial) (fil_wa _ _ _ _) (fun M49 hS w49 => ?_)
  refine Tr.sc [] rfl ?_
  refine Tr.aload_n (pc := 52) (i := 0) d_X1_begin_52 rfl rfl ?_
  refine Tr.getf (pc := 53) d_X1_begin_53 f_1_27 (by decide) (by decide) (ty_56 hS.1.1) ?_
  refine Tr.tp 62 (fx_56_7 hS.1.1) ?_
  refine Tr.iconst (pc := 56) d_X1_begin_56 (by decide) ?_
  refine Tr.callS (pc := 57) (as := [_, _]) d_X1_begin_57 s_1_45 ok_J7_fill_53178 rfl rfl (Nat.le_of_ble_eq_true rfl) (Nat.le_of_ble_eq_true rfl) ?_
  refine Tr.imp (sp_fill (N := 60) (ty_62 hS.1.1) (by decide)) ?_
  rintro _ _ ⟨rfl, rfl⟩
  refine Tr.nmA (P := St Tru ws_X1_begin_56_27 as_X1_begin_56_27 M0) (sf_62 (v := 0) 60 hS (by decide) (by omega) trivial) (fil_wa _ _ _ _) (fun M57 hS w57 => ?_)
  refine Tr.sc [] rfl ?_
  refine Tr.aload_n (pc := 60) (i := 0) d_X1_begin_60 rfl rfl ?_
  refine Tr.getf (pc := 61) d_X1_begin_61 f_1_33 (by decide) (by decide) (ty_56 hS.1.1) ?_
  refine Tr.tp 63 (fx_56_8 hS.1.1) ?_
  refine Tr.callV (pc := 64) (as := []) d_X1_begin_64 s_1_51 ok_X8_clear rfl rfl (Nat.le_of_ble_eq_true rfl) (Nat.le_of_ble_eq_true rfl) (by decide) (ty_63 hS.1.1) ?_
  refine Tr.imp (Tr.deep (by decide) (sp_X8_clear_63 hS.1 )) ?_
  rintro M64 _ ⟨h64, rfl, z64_0, f64_Rn⟩
  have hS := St.tr hS h64 (by decide) (by decide)
  obtain ⟨s64_63_7, es64_63_7⟩ : ∃ v, rd M64 63 7 = v := ⟨_, rfl⟩
  have bs64_63_7 : (-2147483648) ≤ s64_63_7 ∧ s64_63_7 ≤ 2147483647 := by rw [← es64_63_7]; exact ir_63_7 hS.1.2.1
  have hS := St.rn hS f64_Rn
  refine Tr.sc [] rfl ?_
  have kr_63_7 : rd M64 63 7 = s64_63_7 := es64_63_7
  have hS := hS.wk
  exact Tr.vret (pc := 67) d_X1_begin_67 rfl ⟨hS, ((St.kp h64 (by decide) (by decide) (by decide)).trans ((Wa.b w57 rfl).trans ((Wa.b w49 rfl).trans ((Wa.b w41 rfl).trans ((Wa.b w33 rfl).trans ((Wa.b w25 rfl).trans ((Wa.b w10 rfl).trans w2.1))))))), rfl, by omega, f64_Rn⟩

def ws_X6_begin_48_27_47 : List (Int × Int) := [(48, 1), (48, 9), (48, 11), (48, 12), (48, 13), (48, 14), (48, 15), (48, 16), (48, 17), (56, 1), (63, 0), (63, 7)]
def as_X6_begin_48_27_47 : List Int := [49, 50, 52, 53, 54, 55, 57, 58, 59, 60, 61, 62, 69]
def q_X6_begin_48_27_47 (a3 : Int) (M0 M' : Mem) (r : Option PV) : Prop := St Tru ws_X6_begin_48_27_47 as_X6_begin_48_27_47 M0 M' ∧ rd M' 48 1 = 27 ∧ rd M' 56 1 = 27 ∧ r = none ∧ (rd M' 63 7 = 0) ∧ Rn M'
set_option maxRecDepth 100000 in
set_option maxHeartbeats 4000000 in
theorem sp_X6_begin_48_27_47 {l : Launch} {K : EC} {M0 : Mem} (hI : In Tru M0)  (a3 : Int) (ha3 : (-1) ≤ a3 ∧ a3 ≤ 2147483647)  : Tr l K 3 mX6_begin 0 [(0, (2, 48)), (1, (2, 27)), (2, (2, 47)), (3, (0, a3))] [] M0 (q_X6_begin_48_27_47 a3 M0) := by
  have hS : St Tru ws_X6_begin_48_27_47 as_X6_begin_48_27_47 M0 M0 := St.rf hI
  refine Tr.aload_n (pc := 0) (i := 0) d_X6_begin_0 rfl rfl ?_
  refine Tr.aload_n (pc := 1) (i := 1) d_X6_begin_1 rfl rfl ?_
  refine Tr.putfS (pc := 2) (P := St Tru ws_X6_begin_48_27_47 as_X6_begin_48_27_47 M0) d_X6_begin_2 f_6_46 (by decide) (by decide) (ty_48 hS.1.1) (st_48_1 hS (by decide) (by omega) trivial) (fun M2 hS w2 => ?_)
  refine Tr.aload_n (pc := 5) (i := 2) d_X6_begin_5 rfl rfl ?_
  refine Tr.iconst (pc := 6) d_X6_begin_6 (by decide) ?_
  refine Tr.aload_n (pc := 7) (i := 0) d_X6_begin_7 rfl rfl ?_
  refine Tr.getf (pc := 8) d_X6_begin_8 f_6_9 (by decide) (by decide) (ty_48 hS.1.1) ?_
  refine Tr.tp 49 (fx_48_2 hS.1.1) ?_
  refine Tr.iconst (pc := 11) d_X6_begin_11 (by decide) ?_
  refine Tr.iconst (pc := 12) d_X6_begin_12 (by decide) ?_
  refine Tr.acopyS (pc := 13) (x := 47) (y := 49) (P := St Tru ws_X6_begin_48_27_47 as_X6_begin_48_27_47 M0) d_X6_begin_13 ac_6_85 acw.1 acw.2.1 acw.2.2 (ty_47 hS.1.1) (ty_49 hS.1.1) (by omega) (by omega) (by omega) (by omega) (by omega) (Nat.le_of_ble_eq_true rfl) (sw_49 hS (by decide) rfl rfl rfl (fun z i hz => by rw [rd_cpy, if_neg (fun c => hz c.1)]) (fun i => by rw [rd_cpy]; split; exact And.intro (by have := ar_47 hS.1.2.1 (0 + (i - 0)); omega) (by have := ar_47 hS.1.2.1 (0 + (i - 0)); omega); exact ar_49 hS.1.2.1 i) trivial) (fun M13 hS w13 => ?_)
  refine Tr.aload_n (pc := 16) (i := 0) d_X6_begin_16 rfl rfl ?_
  refine Tr.getf (pc := 17) d_X6_begin_17 f_6_15 (by decide) (by decide) (ty_48 hS.1.1) ?_
  refine Tr.tp 50 (fx_48_3 hS.1.1) ?_
  refine Tr.iconst (pc := 20) d_X6_begin_20 (by decide) ?_
  refine Tr.callS (pc := 21) (as := [_, _]) d_X6_begin_21 s_6_91 ok_J7_fill_53178 rfl rfl (Nat.le_of_ble_eq_true rfl) (Nat.le_of_ble_eq_true rfl) ?_
  refine Tr.imp (sp_fill (N := 6) (ty_50 hS.1.1) (by decide)) ?_
  rintro _ _ ⟨rfl, rfl⟩
  refine Tr.nmA (P := St Tru ws_X6_begin_48_27_47 as_X6_begin_48_27_47 M0) (sf_50 (v := 0) 6 hS (by decide) (by omega) trivial) (fil_wa _ _ _ _) (fun M21 hS w21 => ?_)
  refine Tr.sc [] rfl ?_
  refine Tr.aload_n (pc := 24) (i := 0) d_X6_begin_24 rfl rfl ?_
  refine Tr.getf (pc := 25) d_X6_begin_25 f_6_21 (by decide) (by decide) (ty_48 hS.1.1) ?_
  refine Tr.tp 52 (fx_48_5 hS.1.1) ?_
  refine Tr.iconst (pc := 28) d_X6_begin_28 (by decide) ?_
  refine Tr.callS (pc := 29) (as := [_, _]) d_X6_begin_29 s_6_91 ok_J7_fill_53178 rfl rfl (Nat.le_of_ble_eq_true rfl) (Nat.le_of_ble_eq_true rfl) ?_
  refine Tr.imp (sp_fill (N := 8) (ty_52 hS.1.1) (by decide)) ?_
  rintro _ _ ⟨rfl, rfl⟩
  refine Tr.nmA (P := St Tru ws_X6_begin_48_27_47 as_X6_begin_48_27_47 M0) (sf_52 (v := (-1)) 8 hS (by decide) (by omega) trivial) (fil_wa _ _ _ _) (fun M29 hS w29 => ?_)
  refine Tr.sc [] rfl ?_
  refine Tr.aload_n (pc := 32) (i := 0) d_X6_begin_32 rfl rfl ?_
  refine Tr.getf (pc := 33) d_X6_begin_33 f_6_24 (by decide) (by decide) (ty_48 hS.1.1) ?_
  refine Tr.tp 53 (fx_48_6 hS.1.1) ?_
  refine Tr.iconst (pc := 36) d_X6_begin_36 (by decide) ?_
  refine Tr.callS (pc := 37) (as := [_, _]) d_X6_begin_37 s_6_91 ok_J7_fill_53178 rfl rfl (Nat.le_of_ble_eq_true rfl) (Nat.le_of_ble_eq_true rfl) ?_
  refine Tr.imp (sp_fill (N := 6) (ty_53 hS.1.1) (by decide)) ?_
  rintro _ _ ⟨rfl, rfl⟩
  refine Tr.nmA (P := St Tru ws_X6_begin_48_27_47 as_X6_begin_48_27_47 M0) (sf_53 (v := 0) 6 hS (by decide) (by omega) trivial) (fil_wa _ _ _ _) (fun M37 hS w37 => ?_)
  refine Tr.sc [] rfl ?_
  refine Tr.aload_n (pc := 40) (i := 0) d_X6_begin_40 rfl rfl ?_
  refine Tr.getf (pc := 41) d_X6_begin_41 f_6_27 (by decide) (by decide) (ty_48 hS.1.1) ?_
  refine Tr.tp 54 (fx_48_7 hS.1.1) ?_
  refine Tr.iconst (pc := 44) d_X6_begin_44 (by decide) ?_
  refine Tr.callS (pc := 45) (as := [_, _]) d_X6_begin_45 s_6_91 ok_J7_fill_53178 rfl rfl (Nat.le_of_ble_eq_true rfl) (Nat.le_of_ble_eq_true rfl) ?_
  refine Tr.imp (sp_fill (N := 6) (ty_54 hS.1.1) (by decide)) ?_
  rintro _ _ ⟨rfl, rfl⟩
  refine Tr.nmA (P := St Tru ws_X6_begin_48_27_47 as_X6_begin_48_27_47 M0) (sf_54 (v := 0) 6 hS (by decide) (by omega) trivial) (fil_wa _ _ _ _) (fun M45 hS w45 => ?_)
  refine Tr.sc [] rfl ?_
  refine Tr.aload_n (pc := 48) (i := 0) d_X6_begin_48 rfl rfl ?_
  refine Tr.getf (pc := 49) d_X6_begin_49 f_6_30 (by decide) (by decide) (ty_48 hS.1.1) ?_
  refine Tr.tp 55 (fx_48_8 hS.1.1) ?_
  refine Tr.iconst (pc := 52) d_X6_begin_52 (by decide) ?_
  refine Tr.callS (pc := 53) (as := [_, _]) d_X6_begin_53 s_6_91 ok_J7_fill_53178 rfl rfl (Nat.le_of_ble_eq_true rfl) (Nat.le_of_ble_eq_true rfl) ?_
  refine Tr.imp (sp_fill (N := 6) (ty_55 hS.1.1) (by decide)) ?_
  rintro _ _ ⟨rfl, rfl⟩
  refine Tr.nmA (P := St Tru ws_X6_begin_48_27_47 as_X6_begin_48_27_47 M0) (sf_55 (v := 0) 6 hS (by decide) (by omega) trivial) (fil_wa _ _ _ _) (fun M53 hS w53 => ?_)
  refine Tr.sc [] rfl ?_
  refine Tr.aload_n (pc := 56) (i := 0) d_X6_begin_56 rfl rfl ?_
  refine Tr.iconst (pc := 57) d_X6_begin_57 (by decide) ?_
  refine Tr.putfS (pc := 58) (P := St Tru ws_X6_begin_48_27_47 as_X6_begin_48_27_47 M0) d_X6_begin_58 f_6_68 (by decide) (by decide) (ty_48 hS.1.1) (st_48_9 hS (by decide) (by omega) trivial) (fun M58 hS w58 => ?_)
  refine Tr.aload_n (pc := 61) (i := 0) d_X6_begin_61 rfl rfl ?_
  refine Tr.iconst (pc := 62) d_X6_begin_62 (by decide) ?_
  refine Tr.putfS (pc := 63) (P := St Tru ws_X6_begin_48_27_47 as_X6_begin_48_27_47 M0) d_X6_begin_63 f_6_97 (by decide) (by decide) (ty_48 hS.1.1) (st_48_11 hS (by decide) (by omega) trivial) (fun M63 hS w63 => ?_)
  refine Tr.aload_n (pc := 66) (i := 0) d_X6_begin_66 rfl rfl ?_
  refine Tr.iconst (pc := 67) d_X6_begin_67 (by decide) ?_
  refine Tr.putfS (pc := 68) (P := St Tru ws_X6_begin_48_27_47 as_X6_begin_48_27_47 M0) d_X6_begin_68 f_6_100 (by decide) (by decide) (ty_48 hS.1.1) (st_48_12 hS (by decide) (by omega) trivial) (fun M68 hS w68 => ?_)
  refine Tr.aload_n (pc := 71) (i := 0) d_X6_begin_71 rfl rfl ?_
  refine Tr.iconst (pc := 72) d_X6_begin_72 (by decide) ?_
  refine Tr.putfS (pc := 73) (P := St Tru ws_X6_begin_48_27_47 as_X6_begin_48_27_47 M0) d_X6_begin_73 f_6_103 (by decide) (by decide) (ty_48 hS.1.1) (st_48_13 hS (by decide) (by omega) trivial) (fun M73 hS w73 => ?_)
  refine Tr.aload_n (pc := 76) (i := 0) d_X6_begin_76 rfl rfl ?_
  refine Tr.iconst (pc := 77) d_X6_begin_77 (by decide) ?_
  refine Tr.putfS (pc := 78) (P := St Tru ws_X6_begin_48_27_47 as_X6_begin_48_27_47 M0) d_X6_begin_78 f_6_62 (by decide) (by decide) (ty_48 hS.1.1) (st_48_14 hS (by decide) (by omega) trivial) (fun M78 hS w78 => ?_)
  refine Tr.aload_n (pc := 81) (i := 0) d_X6_begin_81 rfl rfl ?_
  refine Tr.iconst (pc := 82) d_X6_begin_82 (by decide) ?_
  refine Tr.putfS (pc := 83) (P := St Tru ws_X6_begin_48_27_47 as_X6_begin_48_27_47 M0) d_X6_begin_83 f_6_79 (by decide) (by decide) (ty_48 hS.1.1) (st_48_15 hS (by decide) (by omega) trivial) (fun M83 hS w83 => ?_)
  refine Tr.aload_n (pc := 86) (i := 0) d_X6_begin_86 rfl rfl ?_
  refine Tr.iload_n (pc := 87) (i := 3) d_X6_begin_87 rfl rfl ?_
  have J96 : ∀ (M : Mem) (q96_1 : Int), St Tru ws_X6_begin_48_27_47 as_X6_begin_48_27_47 M0 M → (0 ≤ q96_1 ∧ q96_1 ≤ 1) → rd M 48 1 = 27 → rd M 48 11 = 0 → rd M 48 12 = 0 → rd M 48 13 = 0 → rd M 48 14 = 0 → rd M 48 15 = (-1) → rd M 48 9 = 0 → Tr l K 3 mX6_begin 96 [(0, (2, 48)), (1, (2, 27)), (3, (0, a3))] [(0, q96_1), (2, 48)] M (q_X6_begin_48_27_47 a3 M0) := by
    intro M q96_1 hS bq96_1 k96_48_1 k96_48_11 k96_48_12 k96_48_13 k96_48_14 k96_48_15 k96_48_9
    refine Tr.putzS (pc := 96) (P := St Tru ws_X6_begin_48_27_47 as_X6_begin_48_27_47 M0) d_X6_begin_96 f_6_106 (by decide) (ty_48 hS.1.1) (by omega) (st_48_16 hS (by decide) (by omega) trivial) (fun M96 hS w96 => ?_)
    refine Tr.aload_n (pc := 99) (i := 0) d_X6_begin_99 rfl rfl ?_
    refine Tr.iload_n (pc := 100) (i := 3) d_X6_begin_100 rfl rfl ?_
    refine Tr.putfS (pc := 101) (P := St Tru ws_X6_begin_48_27_47 as_X6_begin_48_27_47 M0) d_X6_begin_101 f_6_110 (by decide) (by decide) (ty_48 hS.1.1) (st_48_17 hS (by decide) (by omega) trivial) (fun M101 hS w101 => ?_)
    refine Tr.aload_n (pc := 104) (i := 0) d_X6_begin_104 rfl rfl ?_
    refine Tr.getf (pc := 105) d_X6_begin_105 f_6_38 (by decide) (by decide) (ty_48 hS.1.1) ?_
    refine Tr.tp 56 (fx_48_0 hS.1.1) ?_
    refine Tr.aload_n (pc := 108) (i := 1) d_X6_begin_108 rfl rfl ?_
    refine Tr.callV (pc := 109) (as := [_]) d_X6_begin_109 s_6_113 ok_X1_begin rfl rfl (Nat.le_of_ble_eq_true rfl) (Nat.le_of_ble_eq_true rfl) (by decide) (ty_56 hS.1.1) ?_
    refine Tr.imp (Tr.deep (by decide) (sp_X1_begin_56_27 hS.1 )) ?_
    rintro M109 _ ⟨h109, o109_56_1, rfl, z109_0, f109_Rn⟩
    have hS := St.tr hS h109 (by decide) (by decide)
    obtain ⟨s109_63_7, es109_63_7⟩ : ∃ v, rd M109 63 7 = v := ⟨_, rfl⟩
    have bs109_63_7 : (-2147483648) ≤ s109_63_7 ∧ s109_63_7 ≤ 2147483647 := by rw [← es109_63_7]; exact ir_63_7 hS.1.2.1
    have hS := St.rn hS f109_Rn
    refine Tr.sc [] rfl ?_
    have kr_63_7 : rd M109 63 7 = s109_63_7 := es109_63_7
    have hS := hS.wk
    exact Tr.vret (pc := 112) d_X6_begin_112 rfl ⟨hS, ((St.kp h109 (by decide) (by decide) (by decide)).trans ((Wr.b w101 rfl).trans ((Wr.b w96 rfl).trans k96_48_1))), o109_56_1, rfl, by omega, f109_Rn⟩
  refine Tr.if_lt (pc := 88) (tgt := 95) d_X6_begin_88 rfl (fun c88 => ?_) (fun c88 => ?_)
  · refine Tr.iconst (pc := 95) d_X6_begin_95 (by decide) ?_
    refine Tr.pick [0, 1, 3] (ls2 := [(0, (2, 48)), (1, (2, 27)), (3, (0, a3))]) rfl ?_
    exact J96 _ _ hS (by omega) ((Wr.b w83 rfl).trans ((Wr.b w78 rfl).trans ((Wr.b w73 rfl).trans ((Wr.b w68 rfl).trans ((Wr.b w63 rfl).trans ((Wr.b w58 rfl).trans ((Wa.b w53 rfl).trans ((Wa.b w45 rfl).trans ((Wa.b w37 rfl).trans ((Wa.b w29 rfl).trans ((Wa.b w21 rfl).trans ((Wa.b w13 rfl).trans w2.1)))))))))))) ((Wr.b w83 rfl).trans ((Wr.b w78 rfl).trans ((Wr.b w73 rfl).trans ((Wr.b w68 rfl).trans w63.1)))) ((Wr.b w83 rfl).trans ((Wr.b w78 rfl).trans ((Wr.b w73 rfl).trans w68.1))) ((Wr.b w83 rfl).trans ((Wr.b w78 rfl).trans w73.1)) ((Wr.b w83 rfl).trans w78.1) w83.1 ((Wr.b w83 rfl).trans ((Wr.b w78 rfl).trans ((Wr.b w73 rfl).trans ((Wr.b w68 rfl).trans ((Wr.b w63 rfl).trans w58.1)))))
  · refine Tr.iconst (pc := 91) d_X6_begin_91 (by decide) ?_
    refine Tr.goto (pc := 92) (tgt := 96) d_X6_begin_92 rfl ?_
    refine Tr.pick [0, 1, 3] (ls2 := [(0, (2, 48)), (1, (2, 27)), (3, (0, a3))]) rfl ?_
    exact J96 _ _ hS (by omega) ((Wr.b w83 rfl).trans ((Wr.b w78 rfl).trans ((Wr.b w73 rfl).trans ((Wr.b w68 rfl).trans ((Wr.b w63 rfl).trans ((Wr.b w58 rfl).trans ((Wa.b w53 rfl).trans ((Wa.b w45 rfl).trans ((Wa.b w37 rfl).trans ((Wa.b w29 rfl).trans ((Wa.b w21 rfl).trans ((Wa.b w13 rfl).trans w2.1)))))))))))) ((Wr.b w83 rfl).trans ((Wr.b w78 rfl).trans ((Wr.b w73 rfl).trans ((Wr.b w68 rfl).trans w63.1)))) ((Wr.b w83 rfl).trans ((Wr.b w78 rfl).trans ((Wr.b w73 rfl).trans w68.1))) ((Wr.b w83 rfl).trans ((Wr.b w78 rfl).trans w73.1)) ((Wr.b w83 rfl).trans w78.1) w83.1 ((Wr.b w83 rfl).trans ((Wr.b w78 rfl).trans ((Wr.b w73 rfl).trans ((Wr.b w68 rfl).trans ((Wr.b w63 rfl).trans w58.1)))))

def ws_X6_sipsAt_48_w3 : List (Int × Int) := []
def as_X6_sipsAt_48_w3 : List Int := []
def q_X6_sipsAt_48_w3 (M0 M' : Mem) (r : Option PV) : Prop := St Tru ws_X6_sipsAt_48_w3 as_X6_sipsAt_48_w3 M0 M' ∧ ∃ v : Int, r = some (0, v) ∧ (-2147483648) ≤ v ∧ v ≤ 2147483647
set_option maxRecDepth 100000 in
set_option maxHeartbeats 4000000 in
theorem sp_X6_sipsAt_48_w3 {l : Launch} {K : EC} {M0 : Mem} (hI : In Tru M0) (en_48_1 : rd M0 48 1 = 27) (a1 : Int) (ha1 : (-2147483648) ≤ a1 ∧ a1 ≤ 2147483647) (a2 : Int) (ha2 : (-1) ≤ a2 ∧ a2 ≤ (-1)) (a3 : Int) (ha3 : 0 ≤ a3 ∧ a3 ≤ 0)  : Tr l K 0 mX6_sipsAt 0 [(0, (2, 48)), (1, (0, a1)), (2, (0, a2)), (3, (0, a3))] [] M0 (q_X6_sipsAt_48_w3 M0) := by
  have hS : St Tru ws_X6_sipsAt_48_w3 as_X6_sipsAt_48_w3 M0 M0 := St.rf hI
  refine Tr.aload_n (pc := 0) (i := 0) d_X6_sipsAt_0 rfl rfl ?_
  refine Tr.getf (pc := 1) d_X6_sipsAt_1 f_6_46 (by decide) (by decide) (ty_48 hS.1.1) ?_
  refine Tr.tp 27 ((St.kp hS (by decide) (by decide) (by decide)).trans en_48_1) ?_
  refine Tr.getf (pc := 4) d_X6_sipsAt_4 f_6_135 (by decide) (by decide) (ty_27 hS.1.1) ?_
  refine Tr.gen (P := fun v => (-1) ≤ v ∧ v ≤ 999) (ir_27_0 hS.1.2.1) (fun r4 er4 br4 => ?_)
  refine Tr.istore (pc := 7) (i := 4) (ls2 := [(4, (0, r4)), (0, (2, 48)), (1, (0, a1)), (2, (0, a2)), (3, (0, a3))]) d_X6_sipsAt_7 (by decide) rfl ?_
  refine Tr.iconst (pc := 9) d_X6_sipsAt_9 (by decide) ?_
  refine Tr.istore (pc := 10) (i := 5) (ls2 := [(5, (0, 0)), (4, (0, r4)), (0, (2, 48)), (1, (0, a1)), (2, (0, a2)), (3, (0, a3))]) d_X6_sipsAt_10 (by decide) rfl ?_
  have J12 : ∀ (n12 : Nat) (M : Mem) (p12_4 p12_5 : Int), St Tru ws_X6_sipsAt_48_w3 as_X6_sipsAt_48_w3 M0 M → ((-2147483648) ≤ p12_4 ∧ p12_4 ≤ 2147483647) → (0 ≤ p12_5 ∧ p12_5 ≤ 6) → rd M 27 0 = r4 → (6 - p12_5).toNat < n12 → Tr l K 0 mX6_sipsAt 12 [(0, (2, 48)), (1, (0, a1)), (2, (0, a2)), (3, (0, a3)), (4, (0, p12_4)), (5, (0, p12_5))] [] M (q_X6_sipsAt_48_w3 M0) := by
    intro n12
    induction n12 with
    | zero => intro M p12_4 p12_5 hS bp12_4 bp12_5 k12_27_0 hm12; exact absurd hm12 (Nat.not_lt_zero _)
    | succ n12 J12 =>
      intro M p12_4 p12_5 hS bp12_4 bp12_5 k12_27_0 hm12
      refine Tr.iload (pc := 12) (i := 5) d_X6_sipsAt_12 rfl ?_
      refine Tr.aload_n (pc := 14) (i := 0) d_X6_sipsAt_14 rfl rfl ?_
      refine Tr.getf (pc := 15) d_X6_sipsAt_15 f_6_46 (by decide) (by decide) (ty_48 hS.1.1) ?_
      refine Tr.tp 27 ((St.kp hS (by decide) (by decide) (by decide)).trans en_48_1) ?_
      refine Tr.getf (pc := 18) d_X6_sipsAt_18 f_6_116 (by decide) (by decide) (ty_27 hS.1.1) ?_
      refine Tr.tp 28 (fx_27_4 hS.1.1) ?_
      refine Tr.iconst (pc := 21) d_X6_sipsAt_21 (by decide) ?_
      refine Tr.iald (pc := 22) d_X6_sipsAt_22 (ty_28 hS.1.1) (by omega) (by omega) ?_
      refine Tr.gen (P := fun v => 0 ≤ v ∧ v ≤ 6) (ir_28_0 hS.1.2.1) (fun r22 er22 br22 => ?_)
      refine Tr.icmp_ge (pc := 23) (tgt := 91) d_X6_sipsAt_23 rfl (fun c23 => ?_) (fun c23 => ?_)
      · refine Tr.iload (pc := 91) (i := 4) d_X6_sipsAt_91 rfl ?_
        exact Tr.iret (pc := 93) d_X6_sipsAt_93 rfl ⟨hS, _, rfl, by omega, by omega⟩
      · refine Tr.aload_n (pc := 26) (i := 0) d_X6_sipsAt_26 rfl rfl ?_
        refine Tr.getf (pc := 27) d_X6_sipsAt_27 f_6_24 (by decide) (by decide) (ty_48 hS.1.1) ?_
        refine Tr.tp 53 (fx_48_6 hS.1.1) ?_
        refine Tr.iload (pc := 30) (i := 5) d_X6_sipsAt_30 rfl ?_
        refine Tr.iald (pc := 32) d_X6_sipsAt_32 (ty_53 hS.1.1) (by omega) (by omega) ?_
        refine Tr.gen (P := fun v => 0 ≤ v ∧ v ≤ 1) (ar_53 hS.1.2.1 _) (fun r32 er32 br32 => ?_)
        refine Tr.iconst (pc := 33) d_X6_sipsAt_33 (by decide) ?_
        have J53 : ∀ (M : Mem) (q53_0 : Int), St Tru ws_X6_sipsAt_48_w3 as_X6_sipsAt_48_w3 M0 M → (0 ≤ q53_0 ∧ q53_0 ≤ 2) → rd M 27 0 = r4 → rd M 28 0 = r22 → rd M 53 p12_5 = r32 → Tr l K 0 mX6_sipsAt 53 [(0, (2, 48)), (1, (0, a1)), (2, (0, a2)), (3, (0, a3)), (4, (0, p12_4)), (5, (0, p12_5))] [(0, q53_0)] M (q_X6_sipsAt_48_w3 M0) := by
          intro M q53_0 hS bq53_0 k53_27_0 k53_28_0 k53_53_p12_510
          refine Tr.istore (pc := 53) (i := 6) (ls2 := [(6, (0, q53_0)), (0, (2, 48)), (1, (0, a1)), (2, (0, a2)), (3, (0, a3)), (4, (0, p12_4)), (5, (0, p12_5))]) d_X6_sipsAt_53 (by decide) rfl ?_
          refine Tr.iload (pc := 55) (i := 4) d_X6_sipsAt_55 rfl ?_
          refine Tr.aload_n (pc := 57) (i := 0) d_X6_sipsAt_57 rfl rfl ?_
          refine Tr.getf (pc := 58) d_X6_sipsAt_58 f_6_46 (by decide) (by decide) (ty_48 hS.1.1) ?_
          refine Tr.tp 27 ((St.kp hS (by decide) (by decide) (by decide)).trans en_48_1) ?_
          refine Tr.getf (pc := 61) d_X6_sipsAt_61 f_6_189 (by decide) (by decide) (ty_27 hS.1.1) ?_
          refine Tr.tp 29 (fx_27_5 hS.1.1) ?_
          refine Tr.iload (pc := 64) (i := 5) d_X6_sipsAt_64 rfl ?_
          refine Tr.iconst (pc := 66) d_X6_sipsAt_66 (by decide) ?_
          refine Tr.imul (pc := 67) d_X6_sipsAt_67 ?_
          refine Tr.tp (4 * p12_5) ((w32_id (by omega)).trans (by omega)) ?_
          refine Tr.iload (pc := 68) (i := 5) d_X6_sipsAt_68 rfl ?_
          refine Tr.iload_n (pc := 70) (i := 2) d_X6_sipsAt_70 rfl rfl ?_
          refine Tr.tp (-1) (by omega) ?_
          refine Tr.icmp_ne (pc := 71) (tgt := 78) d_X6_sipsAt_71 rfl (fun _ => ?_) (fun hc => absurd hc (by omega))
          refine Tr.iload (pc := 78) (i := 6) d_X6_sipsAt_78 rfl ?_
          refine Tr.iadd (pc := 80) d_X6_sipsAt_80 ?_
          refine Tr.tp (4 * p12_5 + q53_0) ((w32_id (by omega)).trans (by omega)) ?_
          refine Tr.iald (pc := 81) d_X6_sipsAt_81 (ty_29 hS.1.1) (by omega) (by omega) ?_
          refine Tr.gen (P := fun v => (-1) ≤ v ∧ v ≤ 999) (ar_29 hS.1.2.1 _) (fun r81 er81 br81 => ?_)
          refine Tr.iadd (pc := 82) d_X6_sipsAt_82 ?_
          refine Tr.gen (P := fun v => (-2147483648) ≤ v ∧ v ≤ 2147483647) (w32_b _) (fun r82 er82 br82 => ?_)
          refine Tr.istore (pc := 83) (i := 4) (ls2 := [(4, (0, r82)), (6, (0, q53_0)), (0, (2, 48)), (1, (0, a1)), (2, (0, a2)), (3, (0, a3)), (5, (0, p12_5))]) d_X6_sipsAt_83 (by decide) rfl ?_
          refine Tr.iincV (pc := 85) (n2 := (p12_5 + 1)) (ls2 := [(5, (0, (p12_5 + 1))), (4, (0, r82)), (6, (0, q53_0)), (0, (2, 48)), (1, (0, a1)), (2, (0, a2)), (3, (0, a3))]) d_X6_sipsAt_85 rfl (by decide) ((w32_id (by omega)).trans (by omega)) rfl ?_
          refine Tr.goto (pc := 88) (tgt := 12) d_X6_sipsAt_88 rfl ?_
          refine Tr.pick [3, 4, 5, 6, 1, 0] (ls2 := [(0, (2, 48)), (1, (0, a1)), (2, (0, a2)), (3, (0, a3)), (4, (0, r82)), (5, (0, (p12_5 + 1)))]) rfl ?_
          exact J12 _ _ _ hS (by omega) (by omega) k53_27_0 (by omega)
        have J48 : ∀ (M : Mem), St Tru ws_X6_sipsAt_48_w3 as_X6_sipsAt_48_w3 M0 M → rd M 27 0 = r4 → rd M 28 0 = r22 → rd M 53 p12_5 = r32 → Tr l K 0 mX6_sipsAt 48 [(0, (2, 48)), (1, (0, a1)), (2, (0, a2)), (3, (0, a3)), (4, (0, p12_4)), (5, (0, p12_5))] [] M (q_X6_sipsAt_48_w3 M0) := by
          intro M  hS  k48_27_0 k48_28_0 k48_53_p12_510
          refine Tr.iconst (pc := 48) d_X6_sipsAt_48 (by decide) ?_
          refine Tr.goto (pc := 49) (tgt := 53) d_X6_sipsAt_49 rfl ?_
          refine Tr.pick [0, 1, 2, 3, 4, 5] (ls2 := [(0, (2, 48)), (1, (0, a1)), (2, (0, a2)), (3, (0, a3)), (4, (0, p12_4)), (5, (0, p12_5))]) rfl ?_
          exact J53 _ _ hS (by omega) k48_27_0 k48_28_0 k48_53_p12_510
        refine Tr.icmp_eq (pc := 34) (tgt := 48) d_X6_sipsAt_34 rfl (fun c34 => ?_) (fun c34 => ?_)
        · refine Tr.pick [0, 1, 2, 3, 4, 5] (ls2 := [(0, (2, 48)), (1, (0, a1)), (2, (0, a2)), (3, (0, a3)), (4, (0, p12_4)), (5, (0, p12_5))]) rfl ?_
          exact J48 _ hS k12_27_0 er22 er32
        · refine Tr.iload_n (pc := 37) (i := 1) d_X6_sipsAt_37 rfl rfl ?_
          refine Tr.aload_n (pc := 38) (i := 0) d_X6_sipsAt_38 rfl rfl ?_
          refine Tr.getf (pc := 39) d_X6_sipsAt_39 f_6_27 (by decide) (by decide) (ty_48 hS.1.1) ?_
          refine Tr.tp 54 (fx_48_7 hS.1.1) ?_
          refine Tr.iload (pc := 42) (i := 5) d_X6_sipsAt_42 rfl ?_
          refine Tr.iald (pc := 44) d_X6_sipsAt_44 (ty_54 hS.1.1) (by omega) (by omega) ?_
          refine Tr.gen (P := fun v => (-2147483648) ≤ v ∧ v ≤ 2147483647) (ar_54 hS.1.2.1 _) (fun r44 er44 br44 => ?_)
          refine Tr.icmp_ge (pc := 45) (tgt := 52) d_X6_sipsAt_45 rfl (fun c45 => ?_) (fun c45 => ?_)
          · refine Tr.iconst (pc := 52) d_X6_sipsAt_52 (by decide) ?_
            refine Tr.pick [0, 1, 2, 3, 4, 5] (ls2 := [(0, (2, 48)), (1, (0, a1)), (2, (0, a2)), (3, (0, a3)), (4, (0, p12_4)), (5, (0, p12_5))]) rfl ?_
            exact J53 _ _ hS (by omega) k12_27_0 er22 er32
          · refine Tr.pick [0, 1, 2, 3, 4, 5] (ls2 := [(0, (2, 48)), (1, (0, a1)), (2, (0, a2)), (3, (0, a3)), (4, (0, p12_4)), (5, (0, p12_5))]) rfl ?_
            exact J48 _ hS k12_27_0 er22 er32
  refine Tr.pick [2, 3, 4, 5, 1, 0] (ls2 := [(0, (2, 48)), (1, (0, a1)), (2, (0, a2)), (3, (0, a3)), (4, (0, r4)), (5, (0, 0))]) rfl ?_
  exact J12 _ _ _ _ hS (by omega) (by omega) er4 (Nat.lt_succ_self _)

def ws_X6_afforded_48_w5 : List (Int × Int) := [(48, 17)]
def as_X6_afforded_48_w5 : List Int := []
def q_X6_afforded_48_w5 (M0 M' : Mem) (r : Option PV) : Prop := St Tru ws_X6_afforded_48_w5 as_X6_afforded_48_w5 M0 M' ∧ ∃ v : Int, r = some (0, v) ∧ (-2147483648) ≤ v ∧ v ≤ 1
set_option maxRecDepth 100000 in
set_option maxHeartbeats 4000000 in
theorem sp_X6_afforded_48_w5 {l : Launch} {K : EC} {M0 : Mem} (hI : In Tru M0) (en_48_1 : rd M0 48 1 = 27) (a1 : Int) (ha1 : (-2147483648) ≤ a1 ∧ a1 ≤ 1) (a2 : Int) (ha2 : (-1) ≤ a2 ∧ a2 ≤ (-1)) (a3 : Int) (ha3 : 0 ≤ a3 ∧ a3 ≤ 0)  : Tr l K 1 mX6_afforded 0 [(0, (2, 48)), (1, (0, a1)), (2, (0, a2)), (3, (0, a3))] [] M0 (q_X6_afforded_48_w5 M0) := by
  have hS : St Tru ws_X6_afforded_48_w5 as_X6_afforded_48_w5 M0 M0 := St.rf hI
  refine Tr.iconst (pc := 0) d_X6_afforded_0 (by decide) ?_
  refine Tr.istore (pc := 1) (i := 4) (ls2 := [(4, (0, 0)), (0, (2, 48)), (1, (0, a1)), (2, (0, a2)), (3, (0, a3))]) d_X6_afforded_1 (by decide) rfl ?_
  have J3 : ∀ (n3 : Nat) (M : Mem) (p3_4 : Int), St Tru ws_X6_afforded_48_w5 as_X6_afforded_48_w5 M0 M → (0 ≤ p3_4 ∧ p3_4 ≤ 1) → (1 - p3_4).toNat < n3 → Tr l K 1 mX6_afforded 3 [(0, (2, 48)), (1, (0, a1)), (2, (0, a2)), (3, (0, a3)), (4, (0, p3_4))] [] M (q_X6_afforded_48_w5 M0) := by
    intro n3
    induction n3 with
    | zero => intro M p3_4 hS bp3_4  hm3; exact absurd hm3 (Nat.not_lt_zero _)
    | succ n3 J3 =>
      intro M p3_4 hS bp3_4  hm3
      refine Tr.iload (pc := 3) (i := 4) d_X6_afforded_3 rfl ?_
      refine Tr.iload_n (pc := 5) (i := 1) d_X6_afforded_5 rfl rfl ?_
      refine Tr.icmp_ge (pc := 6) (tgt := 53) d_X6_afforded_6 rfl (fun c6 => ?_) (fun c6 => ?_)
      · refine Tr.iload_n (pc := 53) (i := 1) d_X6_afforded_53 rfl rfl ?_
        exact Tr.iret (pc := 54) d_X6_afforded_54 rfl ⟨hS, _, rfl, by omega, by omega⟩
      · refine Tr.aload_n (pc := 9) (i := 0) d_X6_afforded_9 rfl rfl ?_
        refine Tr.aload_n (pc := 10) (i := 0) d_X6_afforded_10 rfl rfl ?_
        refine Tr.getf (pc := 11) d_X6_afforded_11 f_6_68 (by decide) (by decide) (ty_48 hS.1.1) ?_
        refine Tr.gen (P := fun v => (-2147483648) ≤ v ∧ v ≤ 2147483647) (ir_48_9 hS.1.2.1) (fun r11 er11 br11 => ?_)
        refine Tr.iload (pc := 14) (i := 4) d_X6_afforded_14 rfl ?_
        refine Tr.iadd (pc := 16) d_X6_afforded_16 ?_
        refine Tr.tp (p3_4 + r11) ((w32_id (by omega)).trans (by omega)) ?_
        refine Tr.iload_n (pc := 17) (i := 2) d_X6_afforded_17 rfl rfl ?_
        refine Tr.tp (-1) (by omega) ?_
        refine Tr.iload_n (pc := 18) (i := 3) d_X6_afforded_18 rfl rfl ?_
        refine Tr.tp 0 (by omega) ?_
        refine Tr.callV (pc := 19) (as := [_, _, _]) d_X6_afforded_19 s_6_186 ok_X6_sipsAt rfl rfl (Nat.le_of_ble_eq_true rfl) (Nat.le_of_ble_eq_true rfl) (by decide) (ty_48 hS.1.1) ?_
        refine Tr.imp (Tr.deep (by decide) (sp_X6_sipsAt_48_w3 hS.1 ((St.kp hS (by decide) (by decide) (by decide)).trans en_48_1) (p3_4 + r11) (by omega) (-1) (by omega) 0 (by omega))) ?_
        rintro M19 _ ⟨h19, r19, rfl, lr19, ur19⟩
        have hS := St.tr hS h19 (by decide) (by decide)
        refine Tr.sc [(0, r19)] rfl ?_
        refine Tr.istore (pc := 22) (i := 5) (ls2 := [(5, (0, r19)), (0, (2, 48)), (1, (0, a1)), (2, (0, a2)), (3, (0, a3)), (4, (0, p3_4))]) d_X6_afforded_22 (by decide) rfl ?_
        refine Tr.iload (pc := 24) (i := 5) d_X6_afforded_24 rfl ?_
        refine Tr.aload_n (pc := 26) (i := 0) d_X6_afforded_26 rfl rfl ?_
        refine Tr.getf (pc := 27) d_X6_afforded_27 f_6_110 (by decide) (by decide) (ty_48 hS.1.1) ?_
        refine Tr.gen (P := fun v => (-2147483648) ≤ v ∧ v ≤ 2147483647) (ir_48_17 hS.1.2.1) (fun r27 er27 br27 => ?_)
        refine Tr.icmp_le (pc := 30) (tgt := 36) d_X6_afforded_30 rfl (fun c30 => ?_) (fun c30 => ?_)
        · refine Tr.aload_n (pc := 36) (i := 0) d_X6_afforded_36 rfl rfl ?_
          refine Tr.dup (pc := 37) d_X6_afforded_37 ne21 ?_
          refine Tr.getf (pc := 38) d_X6_afforded_38 f_6_110 (by decide) (by decide) (ty_48 hS.1.1) ?_
          refine Tr.tp r27 er27 ?_
          refine Tr.iload (pc := 41) (i := 5) d_X6_afforded_41 rfl ?_
          refine Tr.isub (pc := 43) d_X6_afforded_43 ?_
          refine Tr.gen (P := fun v => (-2147483648) ≤ v ∧ v ≤ 2147483647) (w32_b _) (fun r43 er43 br43 => ?_)
          refine Tr.putfS (pc := 44) (P := St Tru ws_X6_afforded_48_w5 as_X6_afforded_48_w5 M0) d_X6_afforded_44 f_6_110 (by decide) (by decide) (ty_48 hS.1.1) (st_48_17 hS (by decide) (by omega) trivial) (fun M44 hS w44 => ?_)
          refine Tr.iincV (pc := 47) (n2 := (p3_4 + 1)) (ls2 := [(4, (0, (p3_4 + 1))), (5, (0, r19)), (0, (2, 48)), (1, (0, a1)), (2, (0, a2)), (3, (0, a3))]) d_X6_afforded_47 rfl (by decide) ((w32_id (by omega)).trans (by omega)) rfl ?_
          refine Tr.goto (pc := 50) (tgt := 3) d_X6_afforded_50 rfl ?_
          refine Tr.pick [2, 3, 4, 5, 0] (ls2 := [(0, (2, 48)), (1, (0, a1)), (2, (0, a2)), (3, (0, a3)), (4, (0, (p3_4 + 1)))]) rfl ?_
          exact J3 _ _ hS (by omega) (by omega)
        · refine Tr.iload (pc := 33) (i := 4) d_X6_afforded_33 rfl ?_
          exact Tr.iret (pc := 35) d_X6_afforded_35 rfl ⟨hS, _, rfl, by omega, by omega⟩
  refine Tr.pick [1, 2, 3, 4, 0] (ls2 := [(0, (2, 48)), (1, (0, a1)), (2, (0, a2)), (3, (0, a3)), (4, (0, 0))]) rfl ?_
  exact J3 _ _ _ hS (by omega) (Nat.lt_succ_self _)

def ws_X6_pass_48_w5 : List (Int × Int) := [(48, 9), (48, 14), (48, 17)]
def as_X6_pass_48_w5 : List Int := []
def q_X6_pass_48_w5 (M0 M' : Mem) (r : Option PV) : Prop := St Tru ws_X6_pass_48_w5 as_X6_pass_48_w5 M0 M' ∧ ∃ v : Int, r = some (0, v) ∧ (-2147483648) ≤ v ∧ v ≤ 1
set_option maxRecDepth 100000 in
set_option maxHeartbeats 4000000 in
theorem sp_X6_pass_48_w5 {l : Launch} {K : EC} {M0 : Mem} (hI : In Tru M0) (en_48_1 : rd M0 48 1 = 27) (a1 : Int) (ha1 : 1 ≤ a1 ∧ a1 ≤ 1) (a2 : Int) (ha2 : (-1) ≤ a2 ∧ a2 ≤ (-1)) (a3 : Int) (ha3 : 0 ≤ a3 ∧ a3 ≤ 0)  : Tr l K 2 mX6_pass 0 [(0, (2, 48)), (1, (0, a1)), (2, (0, a2)), (3, (0, a3))] [] M0 (q_X6_pass_48_w5 M0) := by
  have hS : St Tru ws_X6_pass_48_w5 as_X6_pass_48_w5 M0 M0 := St.rf hI
  refine Tr.iload_n (pc := 0) (i := 1) d_X6_pass_0 rfl rfl ?_
  refine Tr.tp 1 (by omega) ?_
  refine Tr.sipush (pc := 1) d_X6_pass_1 rfl (by decide) ?_
  refine Tr.aload_n (pc := 4) (i := 0) d_X6_pass_4 rfl rfl ?_
  refine Tr.getf (pc := 5) d_X6_pass_5 f_6_68 (by decide) (by decide) (ty_48 hS.1.1) ?_
  refine Tr.gen (P := fun v => (-2147483648) ≤ v ∧ v ≤ 2147483647) (ir_48_9 hS.1.2.1) (fun r5 er5 br5 => ?_)
  refine Tr.isub (pc := 8) d_X6_pass_8 ?_
  refine Tr.gen (P := fun v => (-2147483648) ≤ v ∧ v ≤ 2147483647) (w32_b _) (fun r8 er8 br8 => ?_)
  refine Tr.mmin (pc := 9) d_X6_pass_9 ml_6_158 mw_mmin (Nat.le_of_ble_eq_true rfl) ?_
  refine Tr.gen (P := fun v => (v = 1 ∧ 1 ≤ r8) ∨ (v = r8 ∧ r8 ≤ 1)) (f_min_p _ _) (fun r9 er9 br9 => ?_)
  refine Tr.istore (pc := 12) (i := 4) (ls2 := [(4, (0, r9)), (0, (2, 48)), (1, (0, a1)), (2, (0, a2)), (3, (0, a3))]) d_X6_pass_12 (by decide) rfl ?_
  refine Tr.aload_n (pc := 14) (i := 0) d_X6_pass_14 rfl rfl ?_
  refine Tr.getz (pc := 15) d_X6_pass_15 f_6_106 (by decide) (ty_48 hS.1.1) ?_
  refine Tr.gen (P := fun v => 0 ≤ v ∧ v ≤ 1) (ir_48_16 hS.1.2.1) (fun r15 er15 br15 => ?_)
  have J34 : ∀ (M : Mem) (q34_0 : Int), St Tru ws_X6_pass_48_w5 as_X6_pass_48_w5 M0 M → ((-2147483648) ≤ q34_0 ∧ q34_0 ≤ 1) → rd M 48 16 = r15 → rd M 48 9 = r5 → Tr l K 2 mX6_pass 34 [(0, (2, 48)), (1, (0, a1)), (4, (0, r9))] [(0, q34_0)] M (q_X6_pass_48_w5 M0) := by
    intro M q34_0 hS bq34_0 k34_48_16 k34_48_9
    refine Tr.istore (pc := 34) (i := 5) (ls2 := [(5, (0, q34_0)), (0, (2, 48)), (1, (0, a1)), (4, (0, r9))]) d_X6_pass_34 (by decide) rfl ?_
    refine Tr.aload_n (pc := 36) (i := 0) d_X6_pass_36 rfl rfl ?_
    refine Tr.dup (pc := 37) d_X6_pass_37 ne21 ?_
    refine Tr.getf (pc := 38) d_X6_pass_38 f_6_68 (by decide) (by decide) (ty_48 hS.1.1) ?_
    refine Tr.tp r5 k34_48_9 ?_
    refine Tr.iload (pc := 41) (i := 5) d_X6_pass_41 rfl ?_
    refine Tr.iadd (pc := 43) d_X6_pass_43 ?_
    refine Tr.gen (P := fun v => (-2147483648) ≤ v ∧ v ≤ 2147483647) (w32_b _) (fun r43 er43 br43 => ?_)
    refine Tr.putfS (pc := 44) (P := St Tru ws_X6_pass_48_w5 as_X6_pass_48_w5 M0) d_X6_pass_44 f_6_68 (by decide) (by decide) (ty_48 hS.1.1) (st_48_9 hS (by decide) (by omega) trivial) (fun M44 hS w44 => ?_)
    refine Tr.iload (pc := 47) (i := 5) d_X6_pass_47 rfl ?_
    refine Tr.iload_n (pc := 49) (i := 1) d_X6_pass_49 rfl rfl ?_
    refine Tr.tp 1 (by omega) ?_
    refine Tr.icmp_ge (pc := 50) (tgt := 69) d_X6_pass_50 rfl (fun c50 => ?_) (fun c50 => ?_)
    · refine Tr.iload (pc := 69) (i := 5) d_X6_pass_69 rfl ?_
      refine Tr.tp 1 (by omega) ?_
      exact Tr.iret (pc := 71) d_X6_pass_71 rfl ⟨hS, _, rfl, by omega, by omega⟩
    · refine Tr.aload_n (pc := 53) (i := 0) d_X6_pass_53 rfl rfl ?_
      refine Tr.iload (pc := 54) (i := 5) d_X6_pass_54 rfl ?_
      refine Tr.iload (pc := 56) (i := 4) d_X6_pass_56 rfl ?_
      refine Tr.icmp_ne (pc := 58) (tgt := 65) d_X6_pass_58 rfl (fun c58 => ?_) (fun c58 => ?_)
      · refine Tr.iconst (pc := 65) d_X6_pass_65 (by decide) ?_
        refine Tr.putfS (pc := 66) (P := St Tru ws_X6_pass_48_w5 as_X6_pass_48_w5 M0) d_X6_pass_66 f_6_62 (by decide) (by decide) (ty_48 hS.1.1) (st_48_14 hS (by decide) (by omega) trivial) (fun M66 hS w66 => ?_)
        refine Tr.iload (pc := 69) (i := 5) d_X6_pass_69 rfl ?_
        exact Tr.iret (pc := 71) d_X6_pass_71 rfl ⟨hS, _, rfl, by omega, by omega⟩
      · refine Tr.iconst (pc := 61) d_X6_pass_61 (by decide) ?_
        refine Tr.goto (pc := 62) (tgt := 66) d_X6_pass_62 rfl ?_
        refine Tr.putfS (pc := 66) (P := St Tru ws_X6_pass_48_w5 as_X6_pass_48_w5 M0) d_X6_pass_66 f_6_62 (by decide) (by decide) (ty_48 hS.1.1) (st_48_14 hS (by decide) (by omega) trivial) (fun M66 hS w66 => ?_)
        refine Tr.iload (pc := 69) (i := 5) d_X6_pass_69 rfl ?_
        exact Tr.iret (pc := 71) d_X6_pass_71 rfl ⟨hS, _, rfl, by omega, by omega⟩
  refine Tr.if_eq (pc := 18) (tgt := 32) d_X6_pass_18 rfl (fun c18 => ?_) (fun c18 => ?_)
  · refine Tr.iload (pc := 32) (i := 4) d_X6_pass_32 rfl ?_
    refine Tr.pick [1, 2, 0] (ls2 := [(0, (2, 48)), (1, (0, a1)), (4, (0, r9))]) rfl ?_
    exact J34 _ _ hS (by omega) er15 er5
  · refine Tr.aload_n (pc := 21) (i := 0) d_X6_pass_21 rfl rfl ?_
    refine Tr.iload (pc := 22) (i := 4) d_X6_pass_22 rfl ?_
    refine Tr.iload_n (pc := 24) (i := 2) d_X6_pass_24 rfl rfl ?_
    refine Tr.tp (-1) (by omega) ?_
    refine Tr.iload_n (pc := 25) (i := 3) d_X6_pass_25 rfl rfl ?_
    refine Tr.tp 0 (by omega) ?_
    refine Tr.callV (pc := 26) (as := [_, _, _]) d_X6_pass_26 s_6_183 ok_X6_afforded rfl rfl (Nat.le_of_ble_eq_true rfl) (Nat.le_of_ble_eq_true rfl) (by decide) (ty_48 hS.1.1) ?_
    refine Tr.imp (Tr.deep (by decide) (sp_X6_afforded_48_w5 hS.1 ((St.kp hS (by decide) (by decide) (by decide)).trans en_48_1) r9 (by omega) (-1) (by omega) 0 (by omega))) ?_
    rintro M26 _ ⟨h26, r26, rfl, lr26, ur26⟩
    have hS := St.tr hS h26 (by decide) (by decide)
    refine Tr.sc [(0, r26)] rfl ?_
    refine Tr.goto (pc := 29) (tgt := 34) d_X6_pass_29 rfl ?_
    refine Tr.pick [1, 2, 0] (ls2 := [(0, (2, 48)), (1, (0, a1)), (4, (0, r9))]) rfl ?_
    exact J34 _ _ hS (by omega) ((St.kp h26 (by decide) (by decide) (by decide)).trans er15) ((St.kp h26 (by decide) (by decide) (by decide)).trans er5)

def ws_X6_afforded_48_w6 : List (Int × Int) := [(48, 17)]
def as_X6_afforded_48_w6 : List Int := []
def q_X6_afforded_48_w6 (M0 M' : Mem) (r : Option PV) : Prop := St Tru ws_X6_afforded_48_w6 as_X6_afforded_48_w6 M0 M' ∧ ∃ v : Int, r = some (0, v) ∧ (-2147483648) ≤ v ∧ v ≤ 20
set_option maxRecDepth 100000 in
set_option maxHeartbeats 4000000 in
theorem sp_X6_afforded_48_w6 {l : Launch} {K : EC} {M0 : Mem} (hI : In Tru M0) (en_48_1 : rd M0 48 1 = 27) (a1 : Int) (ha1 : (-2147483648) ≤ a1 ∧ a1 ≤ 20) (a2 : Int) (ha2 : (-1) ≤ a2 ∧ a2 ≤ (-1)) (a3 : Int) (ha3 : 0 ≤ a3 ∧ a3 ≤ 0)  : Tr l K 1 mX6_afforded 0 [(0, (2, 48)), (1, (0, a1)), (2, (0, a2)), (3, (0, a3))] [] M0 (q_X6_afforded_48_w6 M0) := by
  have hS : St Tru ws_X6_afforded_48_w6 as_X6_afforded_48_w6 M0 M0 := St.rf hI
  refine Tr.iconst (pc := 0) d_X6_afforded_0 (by decide) ?_
  refine Tr.istore (pc := 1) (i := 4) (ls2 := [(4, (0, 0)), (0, (2, 48)), (1, (0, a1)), (2, (0, a2)), (3, (0, a3))]) d_X6_afforded_1 (by decide) rfl ?_
  have J3 : ∀ (n3 : Nat) (M : Mem) (p3_4 : Int), St Tru ws_X6_afforded_48_w6 as_X6_afforded_48_w6 M0 M → (0 ≤ p3_4 ∧ p3_4 ≤ 20) → (20 - p3_4).toNat < n3 → Tr l K 1 mX6_afforded 3 [(0, (2, 48)), (1, (0, a1)), (2, (0, a2)), (3, (0, a3)), (4, (0, p3_4))] [] M (q_X6_afforded_48_w6 M0) := by
    intro n3
    induction n3 with
    | zero => intro M p3_4 hS bp3_4  hm3; exact absurd hm3 (Nat.not_lt_zero _)
    | succ n3 J3 =>
      intro M p3_4 hS bp3_4  hm3
      refine Tr.iload (pc := 3) (i := 4) d_X6_afforded_3 rfl ?_
      refine Tr.iload_n (pc := 5) (i := 1) d_X6_afforded_5 rfl rfl ?_
      refine Tr.icmp_ge (pc := 6) (tgt := 53) d_X6_afforded_6 rfl (fun c6 => ?_) (fun c6 => ?_)
      · refine Tr.iload_n (pc := 53) (i := 1) d_X6_afforded_53 rfl rfl ?_
        exact Tr.iret (pc := 54) d_X6_afforded_54 rfl ⟨hS, _, rfl, by omega, by omega⟩
      · refine Tr.aload_n (pc := 9) (i := 0) d_X6_afforded_9 rfl rfl ?_
        refine Tr.aload_n (pc := 10) (i := 0) d_X6_afforded_10 rfl rfl ?_
        refine Tr.getf (pc := 11) d_X6_afforded_11 f_6_68 (by decide) (by decide) (ty_48 hS.1.1) ?_
        refine Tr.gen (P := fun v => (-2147483648) ≤ v ∧ v ≤ 2147483647) (ir_48_9 hS.1.2.1) (fun r11 er11 br11 => ?_)
        refine Tr.iload (pc := 14) (i := 4) d_X6_afforded_14 rfl ?_
        refine Tr.iadd (pc := 16) d_X6_afforded_16 ?_
        refine Tr.gen (P := fun v => (-2147483648) ≤ v ∧ v ≤ 2147483647) (w32_b _) (fun r16 er16 br16 => ?_)
        refine Tr.iload_n (pc := 17) (i := 2) d_X6_afforded_17 rfl rfl ?_
        refine Tr.tp (-1) (by omega) ?_
        refine Tr.iload_n (pc := 18) (i := 3) d_X6_afforded_18 rfl rfl ?_
        refine Tr.tp 0 (by omega) ?_
        refine Tr.callV (pc := 19) (as := [_, _, _]) d_X6_afforded_19 s_6_186 ok_X6_sipsAt rfl rfl (Nat.le_of_ble_eq_true rfl) (Nat.le_of_ble_eq_true rfl) (by decide) (ty_48 hS.1.1) ?_
        refine Tr.imp (Tr.deep (by decide) (sp_X6_sipsAt_48_w3 hS.1 ((St.kp hS (by decide) (by decide) (by decide)).trans en_48_1) r16 (by omega) (-1) (by omega) 0 (by omega))) ?_
        rintro M19 _ ⟨h19, r19, rfl, lr19, ur19⟩
        have hS := St.tr hS h19 (by decide) (by decide)
        refine Tr.sc [(0, r19)] rfl ?_
        refine Tr.istore (pc := 22) (i := 5) (ls2 := [(5, (0, r19)), (0, (2, 48)), (1, (0, a1)), (2, (0, a2)), (3, (0, a3)), (4, (0, p3_4))]) d_X6_afforded_22 (by decide) rfl ?_
        refine Tr.iload (pc := 24) (i := 5) d_X6_afforded_24 rfl ?_
        refine Tr.aload_n (pc := 26) (i := 0) d_X6_afforded_26 rfl rfl ?_
        refine Tr.getf (pc := 27) d_X6_afforded_27 f_6_110 (by decide) (by decide) (ty_48 hS.1.1) ?_
        refine Tr.gen (P := fun v => (-2147483648) ≤ v ∧ v ≤ 2147483647) (ir_48_17 hS.1.2.1) (fun r27 er27 br27 => ?_)
        refine Tr.icmp_le (pc := 30) (tgt := 36) d_X6_afforded_30 rfl (fun c30 => ?_) (fun c30 => ?_)
        · refine Tr.aload_n (pc := 36) (i := 0) d_X6_afforded_36 rfl rfl ?_
          refine Tr.dup (pc := 37) d_X6_afforded_37 ne21 ?_
          refine Tr.getf (pc := 38) d_X6_afforded_38 f_6_110 (by decide) (by decide) (ty_48 hS.1.1) ?_
          refine Tr.tp r27 er27 ?_
          refine Tr.iload (pc := 41) (i := 5) d_X6_afforded_41 rfl ?_
          refine Tr.isub (pc := 43) d_X6_afforded_43 ?_
          refine Tr.gen (P := fun v => (-2147483648) ≤ v ∧ v ≤ 2147483647) (w32_b _) (fun r43 er43 br43 => ?_)
          refine Tr.putfS (pc := 44) (P := St Tru ws_X6_afforded_48_w6 as_X6_afforded_48_w6 M0) d_X6_afforded_44 f_6_110 (by decide) (by decide) (ty_48 hS.1.1) (st_48_17 hS (by decide) (by omega) trivial) (fun M44 hS w44 => ?_)
          refine Tr.iincV (pc := 47) (n2 := (p3_4 + 1)) (ls2 := [(4, (0, (p3_4 + 1))), (5, (0, r19)), (0, (2, 48)), (1, (0, a1)), (2, (0, a2)), (3, (0, a3))]) d_X6_afforded_47 rfl (by decide) ((w32_id (by omega)).trans (by omega)) rfl ?_
          refine Tr.goto (pc := 50) (tgt := 3) d_X6_afforded_50 rfl ?_
          refine Tr.pick [2, 3, 4, 5, 0] (ls2 := [(0, (2, 48)), (1, (0, a1)), (2, (0, a2)), (3, (0, a3)), (4, (0, (p3_4 + 1)))]) rfl ?_
          exact J3 _ _ hS (by omega) (by omega)
        · refine Tr.iload (pc := 33) (i := 4) d_X6_afforded_33 rfl ?_
          exact Tr.iret (pc := 35) d_X6_afforded_35 rfl ⟨hS, _, rfl, by omega, by omega⟩
  refine Tr.pick [1, 2, 3, 4, 0] (ls2 := [(0, (2, 48)), (1, (0, a1)), (2, (0, a2)), (3, (0, a3)), (4, (0, 0))]) rfl ?_
  exact J3 _ _ _ hS (by omega) (Nat.lt_succ_self _)
end
/-! 43.08 -/
section
def ws_X6_pass_48_w6 : List (Int × Int) := [(48, 9), (48, 14), (48, 17)]
def as_X6_pass_48_w6 : List Int := []
def q_X6_pass_48_w6 (M0 M' : Mem) (r : Option PV) : Prop := St Tru ws_X6_pass_48_w6 as_X6_pass_48_w6 M0 M' ∧ ∃ v : Int, r = some (0, v) ∧ (-2147483648) ≤ v ∧ v ≤ 20
set_option maxRecDepth 100000 in
set_option maxHeartbeats 4000000 in
theorem sp_X6_pass_48_w6 {l : Launch} {K : EC} {M0 : Mem} (hI : In Tru M0) (en_48_1 : rd M0 48 1 = 27) (a1 : Int) (ha1 : (-1) ≤ a1 ∧ a1 ≤ 20) (a2 : Int) (ha2 : (-1) ≤ a2 ∧ a2 ≤ (-1)) (a3 : Int) (ha3 : 0 ≤ a3 ∧ a3 ≤ 0)  : Tr l K 2 mX6_pass 0 [(0, (2, 48)), (1, (0, a1)), (2, (0, a2)), (3, (0, a3))] [] M0 (q_X6_pass_48_w6 M0) := by
  have hS : St Tru ws_X6_pass_48_w6 as_X6_pass_48_w6 M0 M0 := St.rf hI
  refine Tr.iload_n (pc := 0) (i := 1) d_X6_pass_0 rfl rfl ?_
  refine Tr.sipush (pc := 1) d_X6_pass_1 rfl (by decide) ?_
  refine Tr.aload_n (pc := 4) (i := 0) d_X6_pass_4 rfl rfl ?_
  refine Tr.getf (pc := 5) d_X6_pass_5 f_6_68 (by decide) (by decide) (ty_48 hS.1.1) ?_
  refine Tr.gen (P := fun v => (-2147483648) ≤ v ∧ v ≤ 2147483647) (ir_48_9 hS.1.2.1) (fun r5 er5 br5 => ?_)
  refine Tr.isub (pc := 8) d_X6_pass_8 ?_
  refine Tr.gen (P := fun v => (-2147483648) ≤ v ∧ v ≤ 2147483647) (w32_b _) (fun r8 er8 br8 => ?_)
  refine Tr.mmin (pc := 9) d_X6_pass_9 ml_6_158 mw_mmin (Nat.le_of_ble_eq_true rfl) ?_
  refine Tr.gen (P := fun v => (v = a1 ∧ a1 ≤ r8) ∨ (v = r8 ∧ r8 ≤ a1)) (f_min_p _ _) (fun r9 er9 br9 => ?_)
  refine Tr.istore (pc := 12) (i := 4) (ls2 := [(4, (0, r9)), (0, (2, 48)), (1, (0, a1)), (2, (0, a2)), (3, (0, a3))]) d_X6_pass_12 (by decide) rfl ?_
  refine Tr.aload_n (pc := 14) (i := 0) d_X6_pass_14 rfl rfl ?_
  refine Tr.getz (pc := 15) d_X6_pass_15 f_6_106 (by decide) (ty_48 hS.1.1) ?_
  refine Tr.gen (P := fun v => 0 ≤ v ∧ v ≤ 1) (ir_48_16 hS.1.2.1) (fun r15 er15 br15 => ?_)
  have J34 : ∀ (M : Mem) (q34_0 : Int), St Tru ws_X6_pass_48_w6 as_X6_pass_48_w6 M0 M → ((-2147483648) ≤ q34_0 ∧ q34_0 ≤ 20) → rd M 48 16 = r15 → rd M 48 9 = r5 → Tr l K 2 mX6_pass 34 [(0, (2, 48)), (1, (0, a1)), (4, (0, r9))] [(0, q34_0)] M (q_X6_pass_48_w6 M0) := by
    intro M q34_0 hS bq34_0 k34_48_16 k34_48_9
    refine Tr.istore (pc := 34) (i := 5) (ls2 := [(5, (0, q34_0)), (0, (2, 48)), (1, (0, a1)), (4, (0, r9))]) d_X6_pass_34 (by decide) rfl ?_
    refine Tr.aload_n (pc := 36) (i := 0) d_X6_pass_36 rfl rfl ?_
    refine Tr.dup (pc := 37) d_X6_pass_37 ne21 ?_
    refine Tr.getf (pc := 38) d_X6_pass_38 f_6_68 (by decide) (by decide) (ty_48 hS.1.1) ?_
    refine Tr.tp r5 k34_48_9 ?_
    refine Tr.iload (pc := 41) (i := 5) d_X6_pass_41 rfl ?_
    refine Tr.iadd (pc := 43) d_X6_pass_43 ?_
    refine Tr.gen (P := fun v => (-2147483648) ≤ v ∧ v ≤ 2147483647) (w32_b _) (fun r43 er43 br43 => ?_)
    refine Tr.putfS (pc := 44) (P := St Tru ws_X6_pass_48_w6 as_X6_pass_48_w6 M0) d_X6_pass_44 f_6_68 (by decide) (by decide) (ty_48 hS.1.1) (st_48_9 hS (by decide) (by omega) trivial) (fun M44 hS w44 => ?_)
    refine Tr.iload (pc := 47) (i := 5) d_X6_pass_47 rfl ?_
    refine Tr.iload_n (pc := 49) (i := 1) d_X6_pass_49 rfl rfl ?_
    refine Tr.icmp_ge (pc := 50) (tgt := 69) d_X6_pass_50 rfl (fun c50 => ?_) (fun c50 => ?_)
    · refine Tr.iload (pc := 69) (i := 5) d_X6_pass_69 rfl ?_
      exact Tr.iret (pc := 71) d_X6_pass_71 rfl ⟨hS, _, rfl, by omega, by omega⟩
    · refine Tr.aload_n (pc := 53) (i := 0) d_X6_pass_53 rfl rfl ?_
      refine Tr.iload (pc := 54) (i := 5) d_X6_pass_54 rfl ?_
      refine Tr.iload (pc := 56) (i := 4) d_X6_pass_56 rfl ?_
      refine Tr.icmp_ne (pc := 58) (tgt := 65) d_X6_pass_58 rfl (fun c58 => ?_) (fun c58 => ?_)
      · refine Tr.iconst (pc := 65) d_X6_pass_65 (by decide) ?_
        refine Tr.putfS (pc := 66) (P := St Tru ws_X6_pass_48_w6 as_X6_pass_48_w6 M0) d_X6_pass_66 f_6_62 (by decide) (by decide) (ty_48 hS.1.1) (st_48_14 hS (by decide) (by omega) trivial) (fun M66 hS w66 => ?_)
        refine Tr.iload (pc := 69) (i := 5) d_X6_pass_69 rfl ?_
        exact Tr.iret (pc := 71) d_X6_pass_71 rfl ⟨hS, _, rfl, by omega, by omega⟩
      · refine Tr.iconst (pc := 61) d_X6_pass_61 (by decide) ?_
        refine Tr.goto (pc := 62) (tgt := 66) d_X6_pass_62 rfl ?_
        refine Tr.putfS (pc := 66) (P := St Tru ws_X6_pass_48_w6 as_X6_pass_48_w6 M0) d_X6_pass_66 f_6_62 (by decide) (by decide) (ty_48 hS.1.1) (st_48_14 hS (by decide) (by omega) trivial) (fun M66 hS w66 => ?_)
        refine Tr.iload (pc := 69) (i := 5) d_X6_pass_69 rfl ?_
        exact Tr.iret (pc := 71) d_X6_pass_71 rfl ⟨hS, _, rfl, by omega, by omega⟩
  refine Tr.if_eq (pc := 18) (tgt := 32) d_X6_pass_18 rfl (fun c18 => ?_) (fun c18 => ?_)
  · refine Tr.iload (pc := 32) (i := 4) d_X6_pass_32 rfl ?_
    refine Tr.pick [1, 2, 0] (ls2 := [(0, (2, 48)), (1, (0, a1)), (4, (0, r9))]) rfl ?_
    exact J34 _ _ hS (by omega) er15 er5
  · refine Tr.aload_n (pc := 21) (i := 0) d_X6_pass_21 rfl rfl ?_
    refine Tr.iload (pc := 22) (i := 4) d_X6_pass_22 rfl ?_
    refine Tr.iload_n (pc := 24) (i := 2) d_X6_pass_24 rfl rfl ?_
    refine Tr.tp (-1) (by omega) ?_
    refine Tr.iload_n (pc := 25) (i := 3) d_X6_pass_25 rfl rfl ?_
    refine Tr.tp 0 (by omega) ?_
    refine Tr.callV (pc := 26) (as := [_, _, _]) d_X6_pass_26 s_6_183 ok_X6_afforded rfl rfl (Nat.le_of_ble_eq_true rfl) (Nat.le_of_ble_eq_true rfl) (by decide) (ty_48 hS.1.1) ?_
    refine Tr.imp (Tr.deep (by decide) (sp_X6_afforded_48_w6 hS.1 ((St.kp hS (by decide) (by decide) (by decide)).trans en_48_1) r9 (by omega) (-1) (by omega) 0 (by omega))) ?_
    rintro M26 _ ⟨h26, r26, rfl, lr26, ur26⟩
    have hS := St.tr hS h26 (by decide) (by decide)
    refine Tr.sc [(0, r26)] rfl ?_
    refine Tr.goto (pc := 29) (tgt := 34) d_X6_pass_29 rfl ?_
    refine Tr.pick [1, 2, 0] (ls2 := [(0, (2, 48)), (1, (0, a1)), (4, (0, r9))]) rfl ?_
    exact J34 _ _ hS (by omega) ((St.kp h26 (by decide) (by decide) (by decide)).trans er15) ((St.kp h26 (by decide) (by decide) (by decide)).trans er5)

def ws_X6_touch_48_w1 : List (Int × Int) := [(48, 9), (48, 12), (48, 13), (48, 14), (48, 17)]
def as_X6_touch_48_w1 : List Int := [52]
def q_X6_touch_48_w1 (M0 M' : Mem) (r : Option PV) : Prop := St Tru ws_X6_touch_48_w1 as_X6_touch_48_w1 M0 M' ∧ r = none
set_option maxRecDepth 100000 in
set_option maxHeartbeats 4000000 in
theorem sp_X6_touch_48_w1 {l : Launch} {K : EC} {M0 : Mem} (hI : In Tru M0) (en_48_1 : rd M0 48 1 = 27) (a1 : Int) (ha1 : 0 ≤ a1 ∧ a1 ≤ 999)  : Tr l K 3 mX6_touch 0 [(0, (2, 48)), (1, (0, a1))] [] M0 (q_X6_touch_48_w1 M0) := by
  have hS : St Tru ws_X6_touch_48_w1 as_X6_touch_48_w1 M0 M0 := St.rf hI
  refine Tr.aload_n (pc := 0) (i := 0) d_X6_touch_0 rfl rfl ?_
  refine Tr.dup (pc := 1) d_X6_touch_1 ne21 ?_
  refine Tr.getf (pc := 2) d_X6_touch_2 f_6_103 (by decide) (by decide) (ty_48 hS.1.1) ?_
  refine Tr.gen (P := fun v => (-2147483648) ≤ v ∧ v ≤ 2147483647) (ir_48_13 hS.1.2.1) (fun r2 er2 br2 => ?_)
  refine Tr.iconst (pc := 5) d_X6_touch_5 (by decide) ?_
  refine Tr.iadd (pc := 6) d_X6_touch_6 ?_
  refine Tr.gen (P := fun v => (-2147483648) ≤ v ∧ v ≤ 2147483647) (w32_b _) (fun r6 er6 br6 => ?_)
  refine Tr.putfS (pc := 7) (P := St Tru ws_X6_touch_48_w1 as_X6_touch_48_w1 M0) d_X6_touch_7 f_6_103 (by decide) (by decide) (ty_48 hS.1.1) (st_48_13 hS (by decide) (by omega) trivial) (fun M7 hS w7 => ?_)
  refine Tr.aload_n (pc := 10) (i := 0) d_X6_touch_10 rfl rfl ?_
  refine Tr.getf (pc := 11) d_X6_touch_11 f_6_46 (by decide) (by decide) (ty_48 hS.1.1) ?_
  refine Tr.tp 27 ((St.kp hS (by decide) (by decide) (by decide)).trans en_48_1) ?_
  refine Tr.getf (pc := 14) d_X6_touch_14 f_6_217 (by decide) (by decide) (ty_27 hS.1.1) ?_
  refine Tr.gen (P := fun v => (-1) ≤ v ∧ v ≤ 8) (ir_27_2 hS.1.2.1) (fun r14 er14 br14 => ?_)
  refine Tr.if_le (pc := 17) (tgt := 42) d_X6_touch_17 rfl (fun c17 => ?_) (fun c17 => ?_)
  · exact Tr.vret (pc := 42) d_X6_touch_42 rfl ⟨hS, rfl⟩
  · refine Tr.aload_n (pc := 20) (i := 0) d_X6_touch_20 rfl rfl ?_
    refine Tr.getf (pc := 21) d_X6_touch_21 f_6_46 (by decide) (by decide) (ty_48 hS.1.1) ?_
    refine Tr.tp 27 ((St.kp hS (by decide) (by decide) (by decide)).trans en_48_1) ?_
    refine Tr.getf (pc := 24) d_X6_touch_24 f_6_220 (by decide) (by decide) (ty_27 hS.1.1) ?_
    refine Tr.gen (P := fun v => (-1) ≤ v ∧ v ≤ 8) (ir_27_1 hS.1.2.1) (fun r24 er24 br24 => ?_)
    refine Tr.if_le (pc := 27) (tgt := 42) d_X6_touch_27 rfl (fun c27 => ?_) (fun c27 => ?_)
    · exact Tr.vret (pc := 42) d_X6_touch_42 rfl ⟨hS, rfl⟩
    · refine Tr.aload_n (pc := 30) (i := 0) d_X6_touch_30 rfl rfl ?_
      refine Tr.getf (pc := 31) d_X6_touch_31 f_6_46 (by decide) (by decide) (ty_48 hS.1.1) ?_
      refine Tr.tp 27 ((St.kp hS (by decide) (by decide) (by decide)).trans en_48_1) ?_
      refine Tr.getf (pc := 34) d_X6_touch_34 f_6_220 (by decide) (by decide) (ty_27 hS.1.1) ?_
      refine Tr.tp r24 er24 ?_
      refine Tr.bipush (pc := 37) d_X6_touch_37 rfl (by decide) ?_
      refine Tr.icmp_le (pc := 39) (tgt := 43) d_X6_touch_39 rfl (fun _ => ?_) (fun hc => absurd (by omega) hc)
      refine Tr.iload_n (pc := 43) (i := 1) d_X6_touch_43 rfl rfl ?_
      refine Tr.aload_n (pc := 44) (i := 0) d_X6_touch_44 rfl rfl ?_
      refine Tr.getf (pc := 45) d_X6_touch_45 f_6_46 (by decide) (by decide) (ty_48 hS.1.1) ?_
      refine Tr.tp 27 ((St.kp hS (by decide) (by decide) (by decide)).trans en_48_1) ?_
      refine Tr.getf (pc := 48) d_X6_touch_48 f_6_217 (by decide) (by decide) (ty_27 hS.1.1) ?_
      refine Tr.tp r14 er14 ?_
      refine Tr.idiv (pc := 51) d_X6_touch_51 (by omega) ?_
      refine Tr.gen (P := fun v => 0 ≤ v ∧ v ≤ 999) (div32_p (A := 999) (by omega) (by omega) (by omega) (by omega)) (fun r51 er51 br51 => ?_)
      refine Tr.istore_n (pc := 52) (i := 2) (ls2 := [(2, (0, r51)), (0, (2, 48)), (1, (0, a1))]) d_X6_touch_52 rfl (by decide) rfl ?_
      refine Tr.iload_n (pc := 53) (i := 2) d_X6_touch_53 rfl rfl ?_
      refine Tr.aload_n (pc := 54) (i := 0) d_X6_touch_54 rfl rfl ?_
      refine Tr.getf (pc := 55) d_X6_touch_55 f_6_46 (by decide) (by decide) (ty_48 hS.1.1) ?_
      refine Tr.tp 27 ((St.kp hS (by decide) (by decide) (by decide)).trans en_48_1) ?_
      refine Tr.getf (pc := 58) d_X6_touch_58 f_6_220 (by decide) (by decide) (ty_27 hS.1.1) ?_
      refine Tr.tp r24 er24 ?_
      refine Tr.irem (pc := 61) d_X6_touch_61 (by omega) ?_
      refine Tr.gen (P := fun v => 0 ≤ v ∧ v ≤ 7) (rem_p (A := 7) (by omega) (by omega) (by omega)) (fun r61 er61 br61 => ?_)
      refine Tr.istore_n (pc := 62) (i := 3) (ls2 := [(3, (0, r61)), (2, (0, r51)), (0, (2, 48)), (1, (0, a1))]) d_X6_touch_62 rfl (by decide) rfl ?_
      refine Tr.aload_n (pc := 63) (i := 0) d_X6_touch_63 rfl rfl ?_
      refine Tr.getf (pc := 64) d_X6_touch_64 f_6_21 (by decide) (by decide) (ty_48 hS.1.1) ?_
      refine Tr.tp 52 (fx_48_5 hS.1.1) ?_
      refine Tr.iload_n (pc := 67) (i := 3) d_X6_touch_67 rfl rfl ?_
      refine Tr.iald (pc := 68) d_X6_touch_68 (ty_52 hS.1.1) (by omega) (by omega) ?_
      refine Tr.gen (P := fun v => (-2147483648) ≤ v ∧ v ≤ 2147483647) (ar_52 hS.1.2.1 _) (fun r68 er68 br68 => ?_)
      refine Tr.iload_n (pc := 69) (i := 2) d_X6_touch_69 rfl rfl ?_
      refine Tr.icmp_eq (pc := 70) (tgt := 104) d_X6_touch_70 rfl (fun c70 => ?_) (fun c70 => ?_)
      · exact Tr.vret (pc := 104) d_X6_touch_104 rfl ⟨hS, rfl⟩
      · refine Tr.aload_n (pc := 73) (i := 0) d_X6_touch_73 rfl rfl ?_
        refine Tr.dup (pc := 74) d_X6_touch_74 ne21 ?_
        refine Tr.getf (pc := 75) d_X6_touch_75 f_6_100 (by decide) (by decide) (ty_48 hS.1.1) ?_
        refine Tr.gen (P := fun v => (-2147483648) ≤ v ∧ v ≤ 2147483647) (ir_48_12 hS.1.2.1) (fun r75 er75 br75 => ?_)
        refine Tr.iconst (pc := 78) d_X6_touch_78 (by decide) ?_
        refine Tr.iadd (pc := 79) d_X6_touch_79 ?_
        refine Tr.gen (P := fun v => (-2147483648) ≤ v ∧ v ≤ 2147483647) (w32_b _) (fun r79 er79 br79 => ?_)
        refine Tr.putfS (pc := 80) (P := St Tru ws_X6_touch_48_w1 as_X6_touch_48_w1 M0) d_X6_touch_80 f_6_100 (by decide) (by decide) (ty_48 hS.1.1) (st_48_12 hS (by decide) (by omega) trivial) (fun M80 hS w80 => ?_)
        refine Tr.aload_n (pc := 83) (i := 0) d_X6_touch_83 rfl rfl ?_
        refine Tr.getf (pc := 84) d_X6_touch_84 f_6_21 (by decide) (by decide) (ty_48 hS.1.1) ?_
        refine Tr.tp 52 (fx_48_5 hS.1.1) ?_
        refine Tr.iload_n (pc := 87) (i := 3) d_X6_touch_87 rfl rfl ?_
        refine Tr.iload_n (pc := 88) (i := 2) d_X6_touch_88 rfl rfl ?_
        refine Tr.iastS (pc := 89) (P := St Tru ws_X6_touch_48_w1 as_X6_touch_48_w1 M0) d_X6_touch_89 (ty_52 hS.1.1) (by omega) (by omega) (sa_52 hS (by decide) (by omega) trivial) (fun M89 hS w89 => ?_)
        refine Tr.aload_n (pc := 90) (i := 0) d_X6_touch_90 rfl rfl ?_
        refine Tr.aload_n (pc := 91) (i := 0) d_X6_touch_91 rfl rfl ?_
        refine Tr.getf (pc := 92) d_X6_touch_92 f_6_46 (by decide) (by decide) (ty_48 hS.1.1) ?_
        refine Tr.tp 27 ((St.kp hS (by decide) (by decide) (by decide)).trans en_48_1) ?_
        refine Tr.getf (pc := 95) d_X6_touch_95 f_6_223 (by decide) (by decide) (ty_27 hS.1.1) ?_
        refine Tr.gen (P := fun v => (-1) ≤ v ∧ v ≤ 20) (ir_27_3 hS.1.2.1) (fun r95 er95 br95 => ?_)
        refine Tr.iconst (pc := 98) d_X6_touch_98 (by decide) ?_
        refine Tr.iconst (pc := 99) d_X6_touch_99 (by decide) ?_
        refine Tr.callV (pc := 100) (as := [_, _, _]) d_X6_touch_100 s_6_145 ok_X6_pass rfl rfl (Nat.le_of_ble_eq_true rfl) (Nat.le_of_ble_eq_true rfl) (by decide) (ty_48 hS.1.1) ?_
        refine Tr.imp (Tr.deep (by decide) (sp_X6_pass_48_w6 hS.1 ((St.kp hS (by decide) (by decide) (by decide)).trans en_48_1) r95 (by omega) (-1) (by omega) 0 (by omega))) ?_
        rintro M100 _ ⟨h100, r100, rfl, lr100, ur100⟩
        have hS := St.tr hS h100 (by decide) (by decide)
        refine Tr.sc [(0, r100)] rfl ?_
        refine Tr.pop (pc := 103) d_X6_touch_103 ne01 ?_
        exact Tr.vret (pc := 104) d_X6_touch_104 rfl ⟨hS, rfl⟩

def ws_X6_afforded_48_w7 : List (Int × Int) := [(48, 17)]
def as_X6_afforded_48_w7 : List Int := []
def q_X6_afforded_48_w7 (M0 M' : Mem) (r : Option PV) : Prop := St Tru ws_X6_afforded_48_w7 as_X6_afforded_48_w7 M0 M' ∧ ∃ v : Int, r = some (0, v) ∧ (-2147483648) ≤ v ∧ v ≤ 100
set_option maxRecDepth 100000 in
set_option maxHeartbeats 4000000 in
theorem sp_X6_afforded_48_w7 {l : Launch} {K : EC} {M0 : Mem} (hI : In Tru M0) (en_48_1 : rd M0 48 1 = 27) (a1 : Int) (ha1 : (-2147483648) ≤ a1 ∧ a1 ≤ 100) (a2 : Int) (ha2 : (-1) ≤ a2 ∧ a2 ≤ (-1)) (a3 : Int) (ha3 : 0 ≤ a3 ∧ a3 ≤ 0)  : Tr l K 1 mX6_afforded 0 [(0, (2, 48)), (1, (0, a1)), (2, (0, a2)), (3, (0, a3))] [] M0 (q_X6_afforded_48_w7 M0) := by
  have hS : St Tru ws_X6_afforded_48_w7 as_X6_afforded_48_w7 M0 M0 := St.rf hI
  refine Tr.iconst (pc := 0) d_X6_afforded_0 (by decide) ?_
  refine Tr.istore (pc := 1) (i := 4) (ls2 := [(4, (0, 0)), (0, (2, 48)), (1, (0, a1)), (2, (0, a2)), (3, (0, a3))]) d_X6_afforded_1 (by decide) rfl ?_
  have J3 : ∀ (n3 : Nat) (M : Mem) (p3_4 : Int), St Tru ws_X6_afforded_48_w7 as_X6_afforded_48_w7 M0 M → (0 ≤ p3_4 ∧ p3_4 ≤ 100) → (100 - p3_4).toNat < n3 → Tr l K 1 mX6_afforded 3 [(0, (2, 48)), (1, (0, a1)), (2, (0, a2)), (3, (0, a3)), (4, (0, p3_4))] [] M (q_X6_afforded_48_w7 M0) := by
    intro n3
    induction n3 with
    | zero => intro M p3_4 hS bp3_4  hm3; exact absurd hm3 (Nat.not_lt_zero _)
    | succ n3 J3 =>
      intro M p3_4 hS bp3_4  hm3
      refine Tr.iload (pc := 3) (i := 4) d_X6_afforded_3 rfl ?_
      refine Tr.iload_n (pc := 5) (i := 1) d_X6_afforded_5 rfl rfl ?_
      refine Tr.icmp_ge (pc := 6) (tgt := 53) d_X6_afforded_6 rfl (fun c6 => ?_) (fun c6 => ?_)
      · refine Tr.iload_n (pc := 53) (i := 1) d_X6_afforded_53 rfl rfl ?_
        exact Tr.iret (pc := 54) d_X6_afforded_54 rfl ⟨hS, _, rfl, by omega, by omega⟩
      · refine Tr.aload_n (pc := 9) (i := 0) d_X6_afforded_9 rfl rfl ?_
        refine Tr.aload_n (pc := 10) (i := 0) d_X6_afforded_10 rfl rfl ?_
        refine Tr.getf (pc := 11) d_X6_afforded_11 f_6_68 (by decide) (by decide) (ty_48 hS.1.1) ?_
        refine Tr.gen (P := fun v => (-2147483648) ≤ v ∧ v ≤ 2147483647) (ir_48_9 hS.1.2.1) (fun r11 er11 br11 => ?_)
        refine Tr.iload (pc := 14) (i := 4) d_X6_afforded_14 rfl ?_
        refine Tr.iadd (pc := 16) d_X6_afforded_16 ?_
        refine Tr.gen (P := fun v => (-2147483648) ≤ v ∧ v ≤ 2147483647) (w32_b _) (fun r16 er16 br16 => ?_)
        refine Tr.iload_n (pc := 17) (i := 2) d_X6_afforded_17 rfl rfl ?_
        refine Tr.tp (-1) (by omega) ?_
        refine Tr.iload_n (pc := 18) (i := 3) d_X6_afforded_18 rfl rfl ?_
        refine Tr.tp 0 (by omega) ?_
        refine Tr.callV (pc := 19) (as := [_, _, _]) d_X6_afforded_19 s_6_186 ok_X6_sipsAt rfl rfl (Nat.le_of_ble_eq_true rfl) (Nat.le_of_ble_eq_true rfl) (by decide) (ty_48 hS.1.1) ?_
        refine Tr.imp (Tr.deep (by decide) (sp_X6_sipsAt_48_w3 hS.1 ((St.kp hS (by decide) (by decide) (by decide)).trans en_48_1) r16 (by omega) (-1) (by omega) 0 (by omega))) ?_
        rintro M19 _ ⟨h19, r19, rfl, lr19, ur19⟩
        have hS := St.tr hS h19 (by decide) (by decide)
        refine Tr.sc [(0, r19)] rfl ?_
        refine Tr.istore (pc := 22) (i := 5) (ls2 := [(5, (0, r19)), (0, (2, 48)), (1, (0, a1)), (2, (0, a2)), (3, (0, a3)), (4, (0, p3_4))]) d_X6_afforded_22 (by decide) rfl ?_
        refine Tr.iload (pc := 24) (i := 5) d_X6_afforded_24 rfl ?_
        refine Tr.aload_n (pc := 26) (i := 0) d_X6_afforded_26 rfl rfl ?_
        refine Tr.getf (pc := 27) d_X6_afforded_27 f_6_110 (by decide) (by decide) (ty_48 hS.1.1) ?_
        refine Tr.gen (P := fun v => (-2147483648) ≤ v ∧ v ≤ 2147483647) (ir_48_17 hS.1.2.1) (fun r27 er27 br27 => ?_)
        refine Tr.icmp_le (pc := 30) (tgt := 36) d_X6_afforded_30 rfl (fun c30 => ?_) (fun c30 => ?_)
        · refine Tr.aload_n (pc := 36) (i := 0) d_X6_afforded_36 rfl rfl ?_
          refine Tr.dup (pc := 37) d_X6_afforded_37 ne21 ?_
          refine Tr.getf (pc := 38) d_X6_afforded_38 f_6_110 (by decide) (by decide) (ty_48 hS.1.1) ?_
          refine Tr.tp r27 er27 ?_
          refine Tr.iload (pc := 41) (i := 5) d_X6_afforded_41 rfl ?_
          refine Tr.isub (pc := 43) d_X6_afforded_43 ?_
          refine Tr.gen (P := fun v => (-2147483648) ≤ v ∧ v ≤ 2147483647) (w32_b _) (fun r43 er43 br43 => ?_)
          refine Tr.putfS (pc := 44) (P := St Tru ws_X6_afforded_48_w7 as_X6_afforded_48_w7 M0) d_X6_afforded_44 f_6_110 (by decide) (by decide) (ty_48 hS.1.1) (st_48_17 hS (by decide) (by omega) trivial) (fun M44 hS w44 => ?_)
          refine Tr.iincV (pc := 47) (n2 := (p3_4 + 1)) (ls2 := [(4, (0, (p3_4 + 1))), (5, (0, r19)), (0, (2, 48)), (1, (0, a1)), (2, (0, a2)), (3, (0, a3))]) d_X6_afforded_47 rfl (by decide) ((w32_id (by omega)).trans (by omega)) rfl ?_
          refine Tr.goto (pc := 50) (tgt := 3) d_X6_afforded_50 rfl ?_
          refine Tr.pick [2, 3, 4, 5, 0] (ls2 := [(0, (2, 48)), (1, (0, a1)), (2, (0, a2)), (3, (0, a3)), (4, (0, (p3_4 + 1)))]) rfl ?_
          exact J3 _ _ hS (by omega) (by omega)
        · refine Tr.iload (pc := 33) (i := 4) d_X6_afforded_33 rfl ?_
          exact Tr.iret (pc := 35) d_X6_afforded_35 rfl ⟨hS, _, rfl, by omega, by omega⟩
  refine Tr.pick [1, 2, 3, 4, 0] (ls2 := [(0, (2, 48)), (1, (0, a1)), (2, (0, a2)), (3, (0, a3)), (4, (0, 0))]) rfl ?_
  exact J3 _ _ _ hS (by omega) (Nat.lt_succ_self _)

def ws_X6_pass_48_w7 : List (Int × Int) := [(48, 9), (48, 14), (48, 17)]
def as_X6_pass_48_w7 : List Int := []
def q_X6_pass_48_w7 (M0 M' : Mem) (r : Option PV) : Prop := St Tru ws_X6_pass_48_w7 as_X6_pass_48_w7 M0 M' ∧ ∃ v : Int, r = some (0, v) ∧ (-2147483648) ≤ v ∧ v ≤ 100
set_option maxRecDepth 100000 in
set_option maxHeartbeats 4000000 in
theorem sp_X6_pass_48_w7 {l : Launch} {K : EC} {M0 : Mem} (hI : In Tru M0) (en_48_1 : rd M0 48 1 = 27) (a1 : Int) (ha1 : 0 ≤ a1 ∧ a1 ≤ 100) (a2 : Int) (ha2 : (-1) ≤ a2 ∧ a2 ≤ (-1)) (a3 : Int) (ha3 : 0 ≤ a3 ∧ a3 ≤ 0)  : Tr l K 2 mX6_pass 0 [(0, (2, 48)), (1, (0, a1)), (2, (0, a2)), (3, (0, a3))] [] M0 (q_X6_pass_48_w7 M0) := by
  have hS : St Tru ws_X6_pass_48_w7 as_X6_pass_48_w7 M0 M0 := St.rf hI
  refine Tr.iload_n (pc := 0) (i := 1) d_X6_pass_0 rfl rfl ?_
  refine Tr.sipush (pc := 1) d_X6_pass_1 rfl (by decide) ?_
  refine Tr.aload_n (pc := 4) (i := 0) d_X6_pass_4 rfl rfl ?_
  refine Tr.getf (pc := 5) d_X6_pass_5 f_6_68 (by decide) (by decide) (ty_48 hS.1.1) ?_
  refine Tr.gen (P := fun v => (-2147483648) ≤ v ∧ v ≤ 2147483647) (ir_48_9 hS.1.2.1) (fun r5 er5 br5 => ?_)
  refine Tr.isub (pc := 8) d_X6_pass_8 ?_
  refine Tr.gen (P := fun v => (-2147483648) ≤ v ∧ v ≤ 2147483647) (w32_b _) (fun r8 er8 br8 => ?_)
  refine Tr.mmin (pc := 9) d_X6_pass_9 ml_6_158 mw_mmin (Nat.le_of_ble_eq_true rfl) ?_
  refine Tr.gen (P := fun v => (v = a1 ∧ a1 ≤ r8) ∨ (v = r8 ∧ r8 ≤ a1)) (f_min_p _ _) (fun r9 er9 br9 => ?_)
  refine Tr.istore (pc := 12) (i := 4) (ls2 := [(4, (0, r9)), (0, (2, 48)), (1, (0, a1)), (2, (0, a2)), (3, (0, a3))]) d_X6_pass_12 (by decide) rfl ?_
  refine Tr.aload_n (pc := 14) (i := 0) d_X6_pass_14 rfl rfl ?_
  refine Tr.getz (pc := 15) d_X6_pass_15 f_6_106 (by decide) (ty_48 hS.1.1) ?_
  refine Tr.gen (P := fun v => 0 ≤ v ∧ v ≤ 1) (ir_48_16 hS.1.2.1) (fun r15 er15 br15 => ?_)
  have J34 : ∀ (M : Mem) (q34_0 : Int), St Tru ws_X6_pass_48_w7 as_X6_pass_48_w7 M0 M → ((-2147483648) ≤ q34_0 ∧ q34_0 ≤ 100) → rd M 48 16 = r15 → rd M 48 9 = r5 → Tr l K 2 mX6_pass 34 [(0, (2, 48)), (1, (0, a1)), (4, (0, r9))] [(0, q34_0)] M (q_X6_pass_48_w7 M0) := by
    intro M q34_0 hS bq34_0 k34_48_16 k34_48_9
    refine Tr.istore (pc := 34) (i := 5) (ls2 := [(5, (0, q34_0)), (0, (2, 48)), (1, (0, a1)), (4, (0, r9))]) d_X6_pass_34 (by decide) rfl ?_
    refine Tr.aload_n (pc := 36) (i := 0) d_X6_pass_36 rfl rfl ?_
    refine Tr.dup (pc := 37) d_X6_pass_37 ne21 ?_
    refine Tr.getf (pc := 38) d_X6_pass_38 f_6_68 (by decide) (by decide) (ty_48 hS.1.1) ?_
    refine Tr.tp r5 k34_48_9 ?_
    refine Tr.iload (pc := 41) (i := 5) d_X6_pass_41 rfl ?_
    refine Tr.iadd (pc := 43) d_X6_pass_43 ?_
    refine Tr.gen (P := fun v => (-2147483648) ≤ v ∧ v ≤ 2147483647) (w32_b _) (fun r43 er43 br43 => ?_)
    refine Tr.putfS (pc := 44) (P := St Tru ws_X6_pass_48_w7 as_X6_pass_48_w7 M0) d_X6_pass_44 f_6_68 (by decide) (by decide) (ty_48 hS.1.1) (st_48_9 hS (by decide) (by omega) trivial) (fun M44 hS w44 => ?_)
    refine Tr.iload (pc := 47) (i := 5) d_X6_pass_47 rfl ?_
    refine Tr.iload_n (pc := 49) (i := 1) d_X6_pass_49 rfl rfl ?_
    refine Tr.icmp_ge (pc := 50) (tgt := 69) d_X6_pass_50 rfl (fun c50 => ?_) (fun c50 => ?_)
    · refine Tr.iload (pc := 69) (i := 5) d_X6_pass_69 rfl ?_
      exact Tr.iret (pc := 71) d_X6_pass_71 rfl ⟨hS, _, rfl, by omega, by omega⟩
    · refine Tr.aload_n (pc := 53) (i := 0) d_X6_pass_53 rfl rfl ?_
      refine Tr.iload (pc := 54) (i := 5) d_X6_pass_54 rfl ?_
      refine Tr.iload (pc := 56) (i := 4) d_X6_pass_56 rfl ?_
      refine Tr.icmp_ne (pc := 58) (tgt := 65) d_X6_pass_58 rfl (fun c58 => ?_) (fun c58 => ?_)
      · refine Tr.iconst (pc := 65) d_X6_pass_65 (by decide) ?_
        refine Tr.putfS (pc := 66) (P := St Tru ws_X6_pass_48_w7 as_X6_pass_48_w7 M0) d_X6_pass_66 f_6_62 (by decide) (by decide) (ty_48 hS.1.1) (st_48_14 hS (by decide) (by omega) trivial) (fun M66 hS w66 => ?_)
        refine Tr.iload (pc := 69) (i := 5) d_X6_pass_69 rfl ?_
        exact Tr.iret (pc := 71) d_X6_pass_71 rfl ⟨hS, _, rfl, by omega, by omega⟩
      · refine Tr.iconst (pc := 61) d_X6_pass_61 (by decide) ?_
        refine Tr.goto (pc := 62) (tgt := 66) d_X6_pass_62 rfl ?_
        refine Tr.putfS (pc := 66) (P := St Tru ws_X6_pass_48_w7 as_X6_pass_48_w7 M0) d_X6_pass_66 f_6_62 (by decide) (by decide) (ty_48 hS.1.1) (st_48_14 hS (by decide) (by omega) trivial) (fun M66 hS w66 => ?_)
        refine Tr.iload (pc := 69) (i := 5) d_X6_pass_69 rfl ?_
        exact Tr.iret (pc := 71) d_X6_pass_71 rfl ⟨hS, _, rfl, by omega, by omega⟩
  refine Tr.if_eq (pc := 18) (tgt := 32) d_X6_pass_18 rfl (fun c18 => ?_) (fun c18 => ?_)
  · refine Tr.iload (pc := 32) (i := 4) d_X6_pass_32 rfl ?_
    refine Tr.pick [1, 2, 0] (ls2 := [(0, (2, 48)), (1, (0, a1)), (4, (0, r9))]) rfl ?_
    exact J34 _ _ hS (by omega) er15 er5
  · refine Tr.aload_n (pc := 21) (i := 0) d_X6_pass_21 rfl rfl ?_
    refine Tr.iload (pc := 22) (i := 4) d_X6_pass_22 rfl ?_
    refine Tr.iload_n (pc := 24) (i := 2) d_X6_pass_24 rfl rfl ?_
    refine Tr.tp (-1) (by omega) ?_
    refine Tr.iload_n (pc := 25) (i := 3) d_X6_pass_25 rfl rfl ?_
    refine Tr.tp 0 (by omega) ?_
    refine Tr.callV (pc := 26) (as := [_, _, _]) d_X6_pass_26 s_6_183 ok_X6_afforded rfl rfl (Nat.le_of_ble_eq_true rfl) (Nat.le_of_ble_eq_true rfl) (by decide) (ty_48 hS.1.1) ?_
    refine Tr.imp (Tr.deep (by decide) (sp_X6_afforded_48_w7 hS.1 ((St.kp hS (by decide) (by decide) (by decide)).trans en_48_1) r9 (by omega) (-1) (by omega) 0 (by omega))) ?_
    rintro M26 _ ⟨h26, r26, rfl, lr26, ur26⟩
    have hS := St.tr hS h26 (by decide) (by decide)
    refine Tr.sc [(0, r26)] rfl ?_
    refine Tr.goto (pc := 29) (tgt := 34) d_X6_pass_29 rfl ?_
    refine Tr.pick [1, 2, 0] (ls2 := [(0, (2, 48)), (1, (0, a1)), (4, (0, r9))]) rfl ?_
    exact J34 _ _ hS (by omega) ((St.kp h26 (by decide) (by decide) (by decide)).trans er15) ((St.kp h26 (by decide) (by decide) (by decide)).trans er5)

def ws_X1_note_56_w4 : List (Int × Int) := [(63, 0)]
def as_X1_note_56_w4 : List Int := [57, 60, 61, 69, 191]
def q_X1_note_56_w4 (M0 M' : Mem) (r : Option PV) : Prop := St Rn ws_X1_note_56_w4 as_X1_note_56_w4 M0 M' ∧ r = none
set_option maxRecDepth 100000 in
set_option maxHeartbeats 4000000 in
theorem sp_X1_note_56_w4 {l : Launch} {K : EC} {M0 : Mem} (hI : In Rn M0) (en_56_1 : rd M0 56 1 = 27) (a1 : Int) (ha1 : 0 ≤ a1 ∧ a1 ≤ 5) (a2 : Int) (ha2 : 2 ≤ a2 ∧ a2 ≤ 2) (a3 : Int) (ha3 : (-2147483648) ≤ a3 ∧ a3 ≤ 2147483647) (a4 : Int) (ha4 : (-2147483648) ≤ a4 ∧ a4 ≤ 2147483647)  : Tr l K 1 mX1_note 0 [(0, (2, 56)), (1, (0, a1)), (2, (0, a2)), (3, (0, a3)), (4, (0, a4))] [] M0 (q_X1_note_56_w4 M0) := by
  have hS : St Rn ws_X1_note_56_w4 as_X1_note_56_w4 M0 M0 := St.rf hI
  refine Tr.iload_n (pc := 0) (i := 3) d_X1_note_0 rfl rfl ?_
  refine Tr.iload (pc := 1) (i := 4) d_X1_note_1 rfl ?_
  refine Tr.icmp_lt (pc := 3) (tgt := 7) d_X1_note_3 rfl (fun c3 => ?_) (fun c3 => ?_)
  · refine Tr.aload_n (pc := 7) (i := 0) d_X1_note_7 rfl rfl ?_
    refine Tr.getf (pc := 8) d_X1_note_8 f_1_9 (by decide) (by decide) (ty_56 hS.1.1) ?_
    refine Tr.tp 57 (fx_56_2 hS.1.1) ?_
    refine Tr.iload_n (pc := 11) (i := 1) d_X1_note_11 rfl rfl ?_
    refine Tr.iconst (pc := 12) d_X1_note_12 (by decide) ?_
    refine Tr.imul (pc := 13) d_X1_note_13 ?_
    refine Tr.tp (4 * a1) ((w32_id (by omega)).trans (by omega)) ?_
    refine Tr.iload_n (pc := 14) (i := 2) d_X1_note_14 rfl rfl ?_
    refine Tr.tp 2 (by omega) ?_
    refine Tr.iadd (pc := 15) d_X1_note_15 ?_
    refine Tr.tp (4 * a1 + 2) ((w32_id (by omega)).trans (by omega)) ?_
    refine Tr.dup2 (pc := 16) d_X1_note_16 ne01 ne21 ?_
    refine Tr.iald (pc := 17) d_X1_note_17 (ty_57 hS.1.1) (by omega) (by omega) ?_
    refine Tr.gen (P := fun v => (-2147483648) ≤ v ∧ v ≤ 2147483647) (ar_57 hS.1.2.1 _) (fun r17 er17 br17 => ?_)
    refine Tr.iload (pc := 18) (i := 4) d_X1_note_18 rfl ?_
    refine Tr.iload_n (pc := 20) (i := 3) d_X1_note_20 rfl rfl ?_
    refine Tr.isub (pc := 21) d_X1_note_21 ?_
    refine Tr.gen (P := fun v => (-2147483648) ≤ v ∧ v ≤ 2147483647) (w32_b _) (fun r21 er21 br21 => ?_)
    refine Tr.iadd (pc := 22) d_X1_note_22 ?_
    refine Tr.gen (P := fun v => (-2147483648) ≤ v ∧ v ≤ 2147483647) (w32_b _) (fun r22 er22 br22 => ?_)
    refine Tr.iastS (pc := 23) (P := St Rn ws_X1_note_56_w4 as_X1_note_56_w4 M0) d_X1_note_23 (ty_57 hS.1.1) (by omega) (by omega) (sa_57 hS (by decide) (by omega) (Rn.of hS.1.2.2.2.2 (fun _ => rd_wb _ rfl) (rd_wb _ rfl))) (fun M23 hS w23 => ?_)
    refine Tr.aload_n (pc := 24) (i := 0) d_X1_note_24 rfl rfl ?_
    refine Tr.getz (pc := 25) d_X1_note_25 f_1_37 (by decide) (ty_56 hS.1.1) ?_
    refine Tr.tp 1 (fx_56_0 hS.1.1) ?_
    refine Tr.if_ne (pc := 28) (tgt := 32) d_X1_note_28 rfl (fun _ => ?_) (fun hc => absurd hc (by omega))
    refine Tr.aload_n (pc := 32) (i := 0) d_X1_note_32 rfl rfl ?_
    refine Tr.getf (pc := 33) d_X1_note_33 f_1_15 (by decide) (by decide) (ty_56 hS.1.1) ?_
    refine Tr.tp 58 (fx_56_3 hS.1.1) ?_
    refine Tr.iload_n (pc := 36) (i := 1) d_X1_note_36 rfl rfl ?_
    refine Tr.iald (pc := 37) d_X1_note_37 (ty_58 hS.1.1) (by omega) (by omega) ?_
    refine Tr.gen (P := fun v => (-1) ≤ v ∧ v ≤ 59) (ar_58 hS.1.2.1 _) (fun r37 er37 br37 => ?_)
    refine Tr.istore (pc := 38) (i := 5) (ls2 := [(5, (0, r37)), (0, (2, 56)), (1, (0, a1)), (2, (0, a2)), (3, (0, a3)), (4, (0, a4))]) d_X1_note_38 (by decide) rfl ?_
    refine Tr.iload_n (pc := 40) (i := 2) d_X1_note_40 rfl rfl ?_
    refine Tr.tp 2 (by omega) ?_
    refine Tr.if_ne (pc := 41) (tgt := 52) d_X1_note_41 rfl (fun _ => ?_) (fun hc => absurd hc (by omega))
    refine Tr.iload (pc := 52) (i := 5) d_X1_note_52 rfl ?_
    refine Tr.if_lt (pc := 54) (tgt := 142) d_X1_note_54 rfl (fun c54 => ?_) (fun c54 => ?_)
    · exact Tr.vret (pc := 142) d_X1_note_142 rfl ⟨hS, rfl⟩
    · refine Tr.iload (pc := 57) (i := 4) d_X1_note_57 rfl ?_
      refine Tr.iload_n (pc := 59) (i := 3) d_X1_note_59 rfl rfl ?_
      refine Tr.isub (pc := 60) d_X1_note_60 ?_
      refine Tr.gen (P := fun v => (-2147483648) ≤ v ∧ v ≤ 2147483647) (w32_b _) (fun r60 er60 br60 => ?_)
      refine Tr.aload_n (pc := 61) (i := 0) d_X1_note_61 rfl rfl ?_
      refine Tr.getf (pc := 62) d_X1_note_62 f_1_41 (by decide) (by decide) (ty_56 hS.1.1) ?_
      refine Tr.tp 27 ((St.kp hS (by decide) (by decide) (by decide)).trans en_56_1) ?_
      refine Tr.getf (pc := 65) d_X1_note_65 f_1_71 (by decide) (by decide) (ty_27 hS.1.1) ?_
      refine Tr.tp 29 (fx_27_5 hS.1.1) ?_
      refine Tr.iload_n (pc := 68) (i := 1) d_X1_note_68 rfl rfl ?_
      refine Tr.iconst (pc := 69) d_X1_note_69 (by decide) ?_
      refine Tr.imul (pc := 70) d_X1_note_70 ?_
      refine Tr.tp (4 * a1) ((w32_id (by omega)).trans (by omega)) ?_
      refine Tr.iload_n (pc := 71) (i := 2) d_X1_note_71 rfl rfl ?_
      refine Tr.tp 2 (by omega) ?_
      refine Tr.iadd (pc := 72) d_X1_note_72 ?_
      refine Tr.tp (4 * a1 + 2) ((w32_id (by omega)).trans (by omega)) ?_
      refine Tr.iald (pc := 73) d_X1_note_73 (ty_29 hS.1.1) (by omega) (by omega) ?_
      refine Tr.gen (P := fun v => (-1) ≤ v ∧ v ≤ 999) (ar_29 hS.1.2.1 _) (fun r73 er73 br73 => ?_)
      refine Tr.imul (pc := 74) d_X1_note_74 ?_
      refine Tr.gen (P := fun v => (-2147483648) ≤ v ∧ v ≤ 2147483647) (w32_b _) (fun r74 er74 br74 => ?_)
      refine Tr.istore (pc := 75) (i := 6) (ls2 := [(6, (0, r74)), (5, (0, r37)), (0, (2, 56)), (1, (0, a1)), (2, (0, a2)), (3, (0, a3)), (4, (0, a4))]) d_X1_note_75 (by decide) rfl ?_
      refine Tr.aload_n (pc := 77) (i := 0) d_X1_note_77 rfl rfl ?_
      refine Tr.getf (pc := 78) d_X1_note_78 f_1_24 (by decide) (by decide) (ty_56 hS.1.1) ?_
      refine Tr.tp 61 (fx_56_6 hS.1.1) ?_
      refine Tr.iload (pc := 81) (i := 5) d_X1_note_81 rfl ?_
      refine Tr.dup2 (pc := 83) d_X1_note_83 ne01 ne21 ?_
      refine Tr.iald (pc := 84) d_X1_note_84 (ty_61 hS.1.1) (by omega) (by omega) ?_
      refine Tr.gen (P := fun v => (-2147483648) ≤ v ∧ v ≤ 2147483647) (ar_61 hS.1.2.1 _) (fun r84 er84 br84 => ?_)
      refine Tr.iload_n (pc := 85) (i := 2) d_X1_note_85 rfl rfl ?_
      refine Tr.tp 2 (by omega) ?_
      refine Tr.iconst (pc := 86) d_X1_note_86 (by decide) ?_
      refine Tr.icmp_ne (pc := 87) (tgt := 95) d_X1_note_87 rfl (fun hc => absurd (by omega) hc) (fun _ => ?_)
      refine Tr.iload (pc := 90) (i := 6) d_X1_note_90 rfl ?_
      refine Tr.goto (pc := 92) (tgt := 96) d_X1_note_92 rfl ?_
      refine Tr.iadd (pc := 96) d_X1_note_96 ?_
      refine Tr.gen (P := fun v => (-2147483648) ≤ v ∧ v ≤ 2147483647) (w32_b _) (fun r96 er96 br96 => ?_)
      refine Tr.iastS (pc := 97) (P := St Rn ws_X1_note_56_w4 as_X1_note_56_w4 M0) d_X1_note_97 (ty_61 hS.1.1) (by omega) (by omega) (sa_61 hS (by decide) (by omega) (Rn.of hS.1.2.2.2.2 (fun _ => rd_wb _ rfl) (rd_wb _ rfl))) (fun M97 hS w97 => ?_)
      refine Tr.aload_n (pc := 98) (i := 0) d_X1_note_98 rfl rfl ?_
      refine Tr.getf (pc := 99) d_X1_note_99 f_1_21 (by decide) (by decide) (ty_56 hS.1.1) ?_
      refine Tr.tp 60 (fx_56_5 hS.1.1) ?_
      refine Tr.iload (pc := 102) (i := 5) d_X1_note_102 rfl ?_
      refine Tr.dup2 (pc := 104) d_X1_note_104 ne01 ne21 ?_
      refine Tr.iald (pc := 105) d_X1_note_105 (ty_60 hS.1.1) (by omega) (by omega) ?_
      refine Tr.gen (P := fun v => (-2147483648) ≤ v ∧ v ≤ 2147483647) (ar_60 hS.1.2.1 _) (fun r105 er105 br105 => ?_)
      refine Tr.iload_n (pc := 106) (i := 2) d_X1_note_106 rfl rfl ?_
      refine Tr.tp 2 (by omega) ?_
      refine Tr.iconst (pc := 107) d_X1_note_107 (by decide) ?_
      refine Tr.icmp_ne (pc := 108) (tgt := 115) d_X1_note_108 rfl (fun hc => absurd (by omega) hc) (fun _ => ?_)
      refine Tr.iconst (pc := 111) d_X1_note_111 (by decide) ?_
      refine Tr.goto (pc := 112) (tgt := 117) d_X1_note_112 rfl ?_
      refine Tr.iadd (pc := 117) d_X1_note_117 ?_
      refine Tr.tp r105 ((w32_id (by omega)).trans (by omega)) ?_
      refine Tr.iastS (pc := 118) (P := St Rn ws_X1_note_56_w4 as_X1_note_56_w4 M0) d_X1_note_118 (ty_60 hS.1.1) (by omega) (by omega) (sa_60 hS (by decide) (by omega) (Rn.of hS.1.2.2.2.2 (fun _ => rd_wb _ rfl) (rd_wb _ rfl))) (fun M118 hS w118 => ?_)
      refine Tr.aload_n (pc := 119) (i := 0) d_X1_note_119 rfl rfl ?_
      refine Tr.getf (pc := 120) d_X1_note_120 f_1_33 (by decide) (by decide) (ty_56 hS.1.1) ?_
      refine Tr.tp 63 (fx_56_8 hS.1.1) ?_
      refine Tr.iload_n (pc := 123) (i := 1) d_X1_note_123 rfl rfl ?_
      refine Tr.iload (pc := 124) (i := 5) d_X1_note_124 rfl ?_
      refine Tr.iload_n (pc := 126) (i := 3) d_X1_note_126 rfl rfl ?_
      refine Tr.iload (pc := 127) (i := 4) d_X1_note_127 rfl ?_
      refine Tr.iload_n (pc := 129) (i := 2) d_X1_note_129 rfl rfl ?_
      refine Tr.tp 2 (by omega) ?_
      refine Tr.iconst (pc := 130) d_X1_note_130 (by decide) ?_
      refine Tr.icmp_ne (pc := 131) (tgt := 138) d_X1_note_131 rfl (fun hc => absurd (by omega) hc) (fun _ => ?_)
      refine Tr.iconst (pc := 134) d_X1_note_134 (by decide) ?_
      refine Tr.goto (pc := 135) (tgt := 139) d_X1_note_135 rfl ?_
      refine Tr.callV (pc := 139) (as := [_, _, _, _, _]) d_X1_note_139 s_1_74 ok_X8_stayUp rfl rfl (Nat.le_of_ble_eq_true rfl) (Nat.le_of_ble_eq_true rfl) (by decide) (ty_63 hS.1.1) ?_
      refine Tr.imp (Tr.deep (by decide) (sp_X8_stayUp_63 hS.1 a1 (by omega) r37 (by omega) a3 (by omega) a4 (by omega) 1 (by omega))) ?_
      rintro M139 _ ⟨h139, rfl⟩
      have hS := St.tr hS h139 (by decide) (by decide)
      refine Tr.sc [] rfl ?_
      exact Tr.vret (pc := 142) d_X1_note_142 rfl ⟨hS, rfl⟩
  · exact Tr.vret (pc := 6) d_X1_note_6 rfl ⟨hS, rfl⟩

def ws_X1_fallAsleep_56_w1 : List (Int × Int) := []
def as_X1_fallAsleep_56_w1 : List Int := [62, 69]
def q_X1_fallAsleep_56_w1 (M0 M' : Mem) (r : Option PV) : Prop := St Rn ws_X1_fallAsleep_56_w1 as_X1_fallAsleep_56_w1 M0 M' ∧ r = none
set_option maxRecDepth 100000 in
set_option maxHeartbeats 4000000 in
theorem sp_X1_fallAsleep_56_w1 {l : Launch} {K : EC} {M0 : Mem} (hI : In Rn M0) (en_56_1 : rd M0 56 1 = 27) (a1 : Int) (ha1 : 0 ≤ a1 ∧ a1 ≤ 5)  : Tr l K 0 mX1_fallAsleep 0 [(0, (2, 56)), (1, (0, a1))] [] M0 (q_X1_fallAsleep_56_w1 M0) := by
  have hS : St Rn ws_X1_fallAsleep_56_w1 as_X1_fallAsleep_56_w1 M0 M0 := St.rf hI
  refine Tr.aload_n (pc := 0) (i := 0) d_X1_fallAsleep_0 rfl rfl ?_
  refine Tr.getz (pc := 1) d_X1_fallAsleep_1 f_1_37 (by decide) (ty_56 hS.1.1) ?_
  refine Tr.tp 1 (fx_56_0 hS.1.1) ?_
  refine Tr.if_eq (pc := 4) (tgt := 75) d_X1_fallAsleep_4 rfl (fun hc => absurd hc (by omega)) (fun _ => ?_)
  refine Tr.aload_n (pc := 7) (i := 0) d_X1_fallAsleep_7 rfl rfl ?_
  refine Tr.getf (pc := 8) d_X1_fallAsleep_8 f_1_33 (by decide) (by decide) (ty_56 hS.1.1) ?_
  refine Tr.tp 63 (fx_56_8 hS.1.1) ?_
  refine Tr.getf (pc := 11) d_X1_fallAsleep_11 f_1_78 (by decide) (by decide) (ty_63 hS.1.1) ?_
  refine Tr.tp 69 (fx_63_6 hS.1.1) ?_
  refine Tr.iload_n (pc := 14) (i := 1) d_X1_fallAsleep_14 rfl rfl ?_
  refine Tr.iald (pc := 15) d_X1_fallAsleep_15 (ty_69 hS.1.1) (by omega) (by omega) ?_
  refine Tr.gen (P := fun v => (-2147483648) ≤ v ∧ v ≤ 2147483647) (ar_69 hS.1.2.1 _) (fun r15 er15 br15 => ?_)
  refine Tr.if_lt (pc := 16) (tgt := 75) d_X1_fallAsleep_16 rfl (fun c16 => ?_) (fun c16 => ?_)
  · exact Tr.vret (pc := 75) d_X1_fallAsleep_75 rfl ⟨hS, rfl⟩
  · refine Tr.aload_n (pc := 19) (i := 0) d_X1_fallAsleep_19 rfl rfl ?_
    refine Tr.getf (pc := 20) d_X1_fallAsleep_20 f_1_15 (by decide) (by decide) (ty_56 hS.1.1) ?_
    refine Tr.tp 58 (fx_56_3 hS.1.1) ?_
    refine Tr.iload_n (pc := 23) (i := 1) d_X1_fallAsleep_23 rfl rfl ?_
    refine Tr.iald (pc := 24) d_X1_fallAsleep_24 (ty_58 hS.1.1) (by omega) (by omega) ?_
    refine Tr.gen (P := fun v => (-1) ≤ v ∧ v ≤ 59) (ar_58 hS.1.2.1 _) (fun r24 er24 br24 => ?_)
    refine Tr.if_lt (pc := 25) (tgt := 75) d_X1_fallAsleep_25 rfl (fun c25 => ?_) (fun c25 => ?_)
    · exact Tr.vret (pc := 75) d_X1_fallAsleep_75 rfl ⟨hS, rfl⟩
    · refine Tr.aload_n (pc := 28) (i := 0) d_X1_fallAsleep_28 rfl rfl ?_
      refine Tr.getf (pc := 29) d_X1_fallAsleep_29 f_1_27 (by decide) (by decide) (ty_56 hS.1.1) ?_
      refine Tr.tp 62 (fx_56_7 hS.1.1) ?_
      refine Tr.aload_n (pc := 32) (i := 0) d_X1_fallAsleep_32 rfl rfl ?_
      refine Tr.getf (pc := 33) d_X1_fallAsleep_33 f_1_15 (by decide) (by decide) (ty_56 hS.1.1) ?_
      refine Tr.tp 58 (fx_56_3 hS.1.1) ?_
      refine Tr.iload_n (pc := 36) (i := 1) d_X1_fallAsleep_36 rfl rfl ?_
      refine Tr.iald (pc := 37) d_X1_fallAsleep_37 (ty_58 hS.1.1) (by omega) (by omega) ?_
      refine Tr.tp r24 er24 ?_
      refine Tr.dup2 (pc := 38) d_X1_fallAsleep_38 ne01 ne21 ?_
      refine Tr.iald (pc := 39) d_X1_fallAsleep_39 (ty_62 hS.1.1) (by omega) (by omega) ?_
      refine Tr.gen (P := fun v => (-2147483648) ≤ v ∧ v ≤ 2147483647) (ar_62 hS.1.2.1 _) (fun r39 er39 br39 => ?_)
      refine Tr.aload_n (pc := 40) (i := 0) d_X1_fallAsleep_40 rfl rfl ?_
      refine Tr.getf (pc := 41) d_X1_fallAsleep_41 f_1_41 (by decide) (by decide) (ty_56 hS.1.1) ?_
      refine Tr.tp 27 ((St.kp hS (by decide) (by decide) (by decide)).trans en_56_1) ?_
      refine Tr.getf (pc := 44) d_X1_fallAsleep_44 f_1_81 (by decide) (by decide) (ty_27 hS.1.1) ?_
      refine Tr.tp 31 (fx_27_7 hS.1.1) ?_
      refine Tr.iload_n (pc := 47) (i := 1) d_X1_fallAsleep_47 rfl rfl ?_
      refine Tr.iald (pc := 48) d_X1_fallAsleep_48 (ty_31 hS.1.1) (by omega) (by omega) ?_
      refine Tr.gen (P := fun v => 0 ≤ v ∧ v ≤ 50) (ar_31 hS.1.2.1 _) (fun r48 er48 br48 => ?_)
      refine Tr.aload_n (pc := 49) (i := 0) d_X1_fallAsleep_49 rfl rfl ?_
      refine Tr.getf (pc := 50) d_X1_fallAsleep_50 f_1_41 (by decide) (by decide) (ty_56 hS.1.1) ?_
      refine Tr.tp 27 ((St.kp hS (by decide) (by decide) (by decide)).trans en_56_1) ?_
      refine Tr.getf (pc := 53) d_X1_fallAsleep_53 f_1_71 (by decide) (by decide) (ty_27 hS.1.1) ?_
      refine Tr.tp 29 (fx_27_5 hS.1.1) ?_
      refine Tr.iload_n (pc := 56) (i := 1) d_X1_fallAsleep_56 rfl rfl ?_
      refine Tr.iconst (pc := 57) d_X1_fallAsleep_57 (by decide) ?_
      refine Tr.imul (pc := 58) d_X1_fallAsleep_58 ?_
      refine Tr.tp (4 * a1) ((w32_id (by omega)).trans (by omega)) ?_
      refine Tr.iconst (pc := 59) d_X1_fallAsleep_59 (by decide) ?_
      refine Tr.iadd (pc := 60) d_X1_fallAsleep_60 ?_
      refine Tr.tp (4 * a1 + 2) ((w32_id (by omega)).trans (by omega)) ?_
      refine Tr.iald (pc := 61) d_X1_fallAsleep_61 (ty_29 hS.1.1) (by omega) (by omega) ?_
      refine Tr.gen (P := fun v => (-1) ≤ v ∧ v ≤ 999) (ar_29 hS.1.2.1 _) (fun r61 er61 br61 => ?_)
      refine Tr.imul (pc := 62) d_X1_fallAsleep_62 ?_
      refine Tr.gen (P := fun v => (-2147483648) ≤ v ∧ v ≤ 2147483647) (w32_b _) (fun r62 er62 br62 => ?_)
      refine Tr.iadd (pc := 63) d_X1_fallAsleep_63 ?_
      refine Tr.gen (P := fun v => (-2147483648) ≤ v ∧ v ≤ 2147483647) (w32_b _) (fun r63 er63 br63 => ?_)
      refine Tr.iastS (pc := 64) (P := St Rn ws_X1_fallAsleep_56_w1 as_X1_fallAsleep_56_w1 M0) d_X1_fallAsleep_64 (ty_62 hS.1.1) (by omega) (by omega) (sa_62 hS (by decide) (by omega) (Rn.of hS.1.2.2.2.2 (fun _ => rd_wb _ rfl) (rd_wb _ rfl))) (fun M64 hS w64 => ?_)
      refine Tr.aload_n (pc := 65) (i := 0) d_X1_fallAsleep_65 rfl rfl ?_
      refine Tr.getf (pc := 66) d_X1_fallAsleep_66 f_1_33 (by decide) (by decide) (ty_56 hS.1.1) ?_
      refine Tr.tp 63 (fx_56_8 hS.1.1) ?_
      refine Tr.getf (pc := 69) d_X1_fallAsleep_69 f_1_78 (by decide) (by decide) (ty_63 hS.1.1) ?_
      refine Tr.tp 69 (fx_63_6 hS.1.1) ?_
      refine Tr.iload_n (pc := 72) (i := 1) d_X1_fallAsleep_72 rfl rfl ?_
      refine Tr.iconst (pc := 73) d_X1_fallAsleep_73 (by decide) ?_
      refine Tr.iastS (pc := 74) (P := St Rn ws_X1_fallAsleep_56_w1 as_X1_fallAsleep_56_w1 M0) d_X1_fallAsleep_74 (ty_69 hS.1.1) (by omega) (by omega) (sa_69 hS (by decide) (by omega) (Rn.run hS.1.2.2.2.2 (by have h8 := tl_n hS rfl; omega))) (fun M74 hS w74 => ?_)
      exact Tr.vret (pc := 75) d_X1_fallAsleep_75 rfl ⟨hS, rfl⟩

def ws_X1_note_56_w5 : List (Int × Int) := []
def as_X1_note_56_w5 : List Int := [57, 62, 69]
def q_X1_note_56_w5 (M0 M' : Mem) (r : Option PV) : Prop := St Rn ws_X1_note_56_w5 as_X1_note_56_w5 M0 M' ∧ r = none
set_option maxRecDepth 100000 in
set_option maxHeartbeats 4000000 in
theorem sp_X1_note_56_w5 {l : Launch} {K : EC} {M0 : Mem} (hI : In Rn M0) (en_56_1 : rd M0 56 1 = 27) (a1 : Int) (ha1 : 0 ≤ a1 ∧ a1 ≤ 5) (a2 : Int) (ha2 : 0 ≤ a2 ∧ a2 ≤ 0) (a3 : Int) (ha3 : (-2147483648) ≤ a3 ∧ a3 ≤ 2147483647) (a4 : Int) (ha4 : (-2147483648) ≤ a4 ∧ a4 ≤ 2147483647)  : Tr l K 1 mX1_note 0 [(0, (2, 56)), (1, (0, a1)), (2, (0, a2)), (3, (0, a3)), (4, (0, a4))] [] M0 (q_X1_note_56_w5 M0) := by
  have hS : St Rn ws_X1_note_56_w5 as_X1_note_56_w5 M0 M0 := St.rf hI
  refine Tr.iload_n (pc := 0) (i := 3) d_X1_note_0 rfl rfl ?_
  refine Tr.iload (pc := 1) (i := 4) d_X1_note_1 rfl ?_
  refine Tr.icmp_lt (pc := 3) (tgt := 7) d_X1_note_3 rfl (fun c3 => ?_) (fun c3 => ?_)
  · refine Tr.aload_n (pc := 7) (i := 0) d_X1_note_7 rfl rfl ?_
    refine Tr.getf (pc := 8) d_X1_note_8 f_1_9 (by decide) (by decide) (ty_56 hS.1.1) ?_
    refine Tr.tp 57 (fx_56_2 hS.1.1) ?_
    refine Tr.iload_n (pc := 11) (i := 1) d_X1_note_11 rfl rfl ?_
    refine Tr.iconst (pc := 12) d_X1_note_12 (by decide) ?_
    refine Tr.imul (pc := 13) d_X1_note_13 ?_
    refine Tr.tp (4 * a1) ((w32_id (by omega)).trans (by omega)) ?_
    refine Tr.iload_n (pc := 14) (i := 2) d_X1_note_14 rfl rfl ?_
    refine Tr.tp 0 (by omega) ?_
    refine Tr.iadd (pc := 15) d_X1_note_15 ?_
    refine Tr.tp (4 * a1) ((w32_id (by omega)).trans (by omega)) ?_
    refine Tr.dup2 (pc := 16) d_X1_note_16 ne01 ne21 ?_
    refine Tr.iald (pc := 17) d_X1_note_17 (ty_57 hS.1.1) (by omega) (by omega) ?_
    refine Tr.gen (P := fun v => (-2147483648) ≤ v ∧ v ≤ 2147483647) (ar_57 hS.1.2.1 _) (fun r17 er17 br17 => ?_)
    refine Tr.iload (pc := 18) (i := 4) d_X1_note_18 rfl ?_
    refine Tr.iload_n (pc := 20) (i := 3) d_X1_note_20 rfl rfl ?_
    refine Tr.isub (pc := 21) d_X1_note_21 ?_
    refine Tr.gen (P := fun v => (-2147483648) ≤ v ∧ v ≤ 2147483647) (w32_b _) (fun r21 er21 br21 => ?_)
    refine Tr.iadd (pc := 22) d_X1_note_22 ?_
    refine Tr.gen (P := fun v => (-2147483648) ≤ v ∧ v ≤ 2147483647) (w32_b _) (fun r22 er22 br22 => ?_)
    refine Tr.iastS (pc := 23) (P := St Rn ws_X1_note_56_w5 as_X1_note_56_w5 M0) d_X1_note_23 (ty_57 hS.1.1) (by omega) (by omega) (sa_57 hS (by decide) (by omega) (Rn.of hS.1.2.2.2.2 (fun _ => rd_wb _ rfl) (rd_wb _ rfl))) (fun M23 hS w23 => ?_)
    refine Tr.aload_n (pc := 24) (i := 0) d_X1_note_24 rfl rfl ?_
    refine Tr.getz (pc := 25) d_X1_note_25 f_1_37 (by decide) (ty_56 hS.1.1) ?_
    refine Tr.tp 1 (fx_56_0 hS.1.1) ?_
    refine Tr.if_ne (pc := 28) (tgt := 32) d_X1_note_28 rfl (fun _ => ?_) (fun hc => absurd hc (by omega))
    refine Tr.aload_n (pc := 32) (i := 0) d_X1_note_32 rfl rfl ?_
    refine Tr.getf (pc := 33) d_X1_note_33 f_1_15 (by decide) (by decide) (ty_56 hS.1.1) ?_
    refine Tr.tp 58 (fx_56_3 hS.1.1) ?_
    refine Tr.iload_n (pc := 36) (i := 1) d_X1_note_36 rfl rfl ?_
    refine Tr.iald (pc := 37) d_X1_note_37 (ty_58 hS.1.1) (by omega) (by omega) ?_
    refine Tr.gen (P := fun v => (-1) ≤ v ∧ v ≤ 59) (ar_58 hS.1.2.1 _) (fun r37 er37 br37 => ?_)
    refine Tr.istore (pc := 38) (i := 5) (ls2 := [(5, (0, r37)), (0, (2, 56)), (1, (0, a1)), (2, (0, a2)), (3, (0, a3)), (4, (0, a4))]) d_X1_note_38 (by decide) rfl ?_
    refine Tr.iload_n (pc := 40) (i := 2) d_X1_note_40 rfl rfl ?_
    refine Tr.tp 0 (by omega) ?_
    refine Tr.if_ne (pc := 41) (tgt := 52) d_X1_note_41 rfl (fun hc => absurd (by omega) hc) (fun _ => ?_)
    refine Tr.aload_n (pc := 44) (i := 0) d_X1_note_44 rfl rfl ?_
    refine Tr.iload_n (pc := 45) (i := 1) d_X1_note_45 rfl rfl ?_
    refine Tr.callV (pc := 46) (as := [_]) d_X1_note_46 s_1_67 ok_X1_fallAsleep rfl rfl (Nat.le_of_ble_eq_true rfl) (Nat.le_of_ble_eq_true rfl) (by decide) (ty_56 hS.1.1) ?_
    refine Tr.imp (Tr.deep (by decide) (sp_X1_fallAsleep_56_w1 hS.1 ((St.kp hS (by decide) (by decide) (by decide)).trans en_56_1) a1 (by omega))) ?_
    rintro M46 _ ⟨h46, rfl⟩
    have hS := St.tr hS h46 (by decide) (by decide)
    refine Tr.sc [] rfl ?_
    refine Tr.goto (pc := 49) (tgt := 142) d_X1_note_49 rfl ?_
    exact Tr.vret (pc := 142) d_X1_note_142 rfl ⟨hS, rfl⟩
  · exact Tr.vret (pc := 6) d_X1_note_6 rfl ⟨hS, rfl⟩

def ws_X6_settle_48_w1 : List (Int × Int) := [(63, 0)]
def as_X6_settle_48_w1 : List Int := [55, 57, 60, 61, 62, 69, 191]
def q_X6_settle_48_w1 (M0 M' : Mem) (r : Option PV) : Prop := St Rn ws_X6_settle_48_w1 as_X6_settle_48_w1 M0 M' ∧ r = none
set_option maxRecDepth 100000 in
set_option maxHeartbeats 4000000 in
theorem sp_X6_settle_48_w1 {l : Launch} {K : EC} {M0 : Mem} (hI : In Rn M0) (en_56_1 : rd M0 56 1 = 27) (a1 : Int) (ha1 : 0 ≤ a1 ∧ a1 ≤ 5) (a2 : Int) (ha2 : (-2147483648) ≤ a2 ∧ a2 ≤ 2147483647)  : Tr l K 2 mX6_settle 0 [(0, (2, 48)), (1, (0, a1)), (2, (0, a2))] [] M0 (q_X6_settle_48_w1 M0) := by
  have hS : St Rn ws_X6_settle_48_w1 as_X6_settle_48_w1 M0 M0 := St.rf hI
  refine Tr.aload_n (pc := 0) (i := 0) d_X6_settle_0 rfl rfl ?_
  refine Tr.getf (pc := 1) d_X6_settle_1 f_6_30 (by decide) (by decide) (ty_48 hS.1.1) ?_
  refine Tr.tp 55 (fx_48_8 hS.1.1) ?_
  refine Tr.iload_n (pc := 4) (i := 1) d_X6_settle_4 rfl rfl ?_
  refine Tr.iald (pc := 5) d_X6_settle_5 (ty_55 hS.1.1) (by omega) (by omega) ?_
  refine Tr.gen (P := fun v => (-2147483648) ≤ v ∧ v ≤ 2147483647) (ar_55 hS.1.2.1 _) (fun r5 er5 br5 => ?_)
  refine Tr.istore_n (pc := 6) (i := 3) (ls2 := [(3, (0, r5)), (0, (2, 48)), (1, (0, a1)), (2, (0, a2))]) d_X6_settle_6 rfl (by decide) rfl ?_
  refine Tr.aload_n (pc := 7) (i := 0) d_X6_settle_7 rfl rfl ?_
  refine Tr.getf (pc := 8) d_X6_settle_8 f_6_24 (by decide) (by decide) (ty_48 hS.1.1) ?_
  refine Tr.tp 53 (fx_48_6 hS.1.1) ?_
  refine Tr.iload_n (pc := 11) (i := 1) d_X6_settle_11 rfl rfl ?_
  refine Tr.iald (pc := 12) d_X6_settle_12 (ty_53 hS.1.1) (by omega) (by omega) ?_
  refine Tr.gen (P := fun v => 0 ≤ v ∧ v ≤ 1) (ar_53 hS.1.2.1 _) (fun r12 er12 br12 => ?_)
  refine Tr.iconst (pc := 13) d_X6_settle_13 (by decide) ?_
  have J35 : ∀ (M : Mem) (q35_0 : Int), St Rn ws_X6_settle_48_w1 as_X6_settle_48_w1 M0 M → ((-2147483648) ≤ q35_0 ∧ q35_0 ≤ 2147483647) → rd M 53 a1 = r12 → rd M 55 a1 = r5 → Tr l K 2 mX6_settle 35 [(0, (2, 48)), (1, (0, a1)), (2, (0, a2)), (3, (0, r5))] [(0, q35_0)] M (q_X6_settle_48_w1 M0) := by
    intro M q35_0 hS bq35_0 k35_53_a110 k35_55_a110
    refine Tr.istore (pc := 35) (i := 4) (ls2 := [(4, (0, q35_0)), (0, (2, 48)), (1, (0, a1)), (2, (0, a2)), (3, (0, r5))]) d_X6_settle_35 (by decide) rfl ?_
    refine Tr.aload_n (pc := 37) (i := 0) d_X6_settle_37 rfl rfl ?_
    refine Tr.getf (pc := 38) d_X6_settle_38 f_6_38 (by decide) (by decide) (ty_48 hS.1.1) ?_
    refine Tr.tp 56 (fx_48_0 hS.1.1) ?_
    refine Tr.iload_n (pc := 41) (i := 1) d_X6_settle_41 rfl rfl ?_
    refine Tr.iconst (pc := 42) d_X6_settle_42 (by decide) ?_
    refine Tr.iload_n (pc := 43) (i := 3) d_X6_settle_43 rfl rfl ?_
    refine Tr.iload (pc := 44) (i := 4) d_X6_settle_44 rfl ?_
    refine Tr.callV (pc := 46) (as := [_, _, _, _]) d_X6_settle_46 s_6_192 ok_X1_note rfl rfl (Nat.le_of_ble_eq_true rfl) (Nat.le_of_ble_eq_true rfl) (by decide) (ty_56 hS.1.1) ?_
    refine Tr.imp (Tr.deep (by decide) (sp_X1_note_56_w4 hS.1 ((St.kp hS (by decide) (by decide) (by decide)).trans en_56_1) a1 (by omega) 2 (by omega) r5 (by omega) q35_0 (by omega))) ?_
    rintro M46 _ ⟨h46, rfl⟩
    have hS := St.tr hS h46 (by decide) (by decide)
    refine Tr.sc [] rfl ?_
    refine Tr.aload_n (pc := 49) (i := 0) d_X6_settle_49 rfl rfl ?_
    refine Tr.getf (pc := 50) d_X6_settle_50 f_6_38 (by decide) (by decide) (ty_48 hS.1.1) ?_
    refine Tr.tp 56 (fx_48_0 hS.1.1) ?_
    refine Tr.iload_n (pc := 53) (i := 1) d_X6_settle_53 rfl rfl ?_
    refine Tr.iconst (pc := 54) d_X6_settle_54 (by decide) ?_
    refine Tr.iload (pc := 55) (i := 4) d_X6_settle_55 rfl ?_
    refine Tr.iload_n (pc := 57) (i := 2) d_X6_settle_57 rfl rfl ?_
    refine Tr.callV (pc := 58) (as := [_, _, _, _]) d_X6_settle_58 s_6_192 ok_X1_note rfl rfl (Nat.le_of_ble_eq_true rfl) (Nat.le_of_ble_eq_true rfl) (by decide) (ty_56 hS.1.1) ?_
    refine Tr.imp (Tr.deep (by decide) (sp_X1_note_56_w5 hS.1 ((St.kp hS (by decide) (by decide) (by decide)).trans en_56_1) a1 (by omega) 0 (by omega) q35_0 (by omega) a2 (by omega))) ?_
    rintro M58 _ ⟨h58, rfl⟩
    have hS := St.tr hS h58 (by decide) (by decide)
    refine Tr.sc [] rfl ?_
    refine Tr.aload_n (pc := 61) (i := 0) d_X6_settle_61 rfl rfl ?_
    refine Tr.getf (pc := 62) d_X6_settle_62 f_6_30 (by decide) (by decide) (ty_48 hS.1.1) ?_
    refine Tr.tp 55 (fx_48_8 hS.1.1) ?_
    refine Tr.iload_n (pc := 65) (i := 1) d_X6_settle_65 rfl rfl ?_
    refine Tr.iload_n (pc := 66) (i := 2) d_X6_settle_66 rfl rfl ?_
    refine Tr.iastS (pc := 67) (P := St Rn ws_X6_settle_48_w1 as_X6_settle_48_w1 M0) d_X6_settle_67 (ty_55 hS.1.1) (by omega) (by omega) (sa_55 hS (by decide) (by omega) (Rn.of hS.1.2.2.2.2 (fun _ => rd_wb _ rfl) (rd_wb _ rfl))) (fun M67 hS w67 => ?_)
    exact Tr.vret (pc := 68) d_X6_settle_68 rfl ⟨hS, rfl⟩
  refine Tr.icmp_ne (pc := 14) (tgt := 21) d_X6_settle_14 rfl (fun c14 => ?_) (fun c14 => ?_)
  · refine Tr.aload_n (pc := 21) (i := 0) d_X6_settle_21 rfl rfl ?_
    refine Tr.getf (pc := 22) d_X6_settle_22 f_6_27 (by decide) (by decide) (ty_48 hS.1.1) ?_
    refine Tr.tp 54 (fx_48_7 hS.1.1) ?_
    refine Tr.iload_n (pc := 25) (i := 1) d_X6_settle_25 rfl rfl ?_
    refine Tr.iald (pc := 26) d_X6_settle_26 (ty_54 hS.1.1) (by omega) (by omega) ?_
    refine Tr.gen (P := fun v => (-2147483648) ≤ v ∧ v ≤ 2147483647) (ar_54 hS.1.2.1 _) (fun r26 er26 br26 => ?_)
    refine Tr.iload_n (pc := 27) (i := 3) d_X6_settle_27 rfl rfl ?_
    refine Tr.mmax (pc := 28) d_X6_settle_28 ml_6_119 mw_mmax (Nat.le_of_ble_eq_true rfl) ?_
    refine Tr.gen (P := fun v => (v = r26 ∧ r5 ≤ r26) ∨ (v = r5 ∧ r26 ≤ r5)) (f_max_p _ _) (fun r28 er28 br28 => ?_)
    refine Tr.iload_n (pc := 31) (i := 2) d_X6_settle_31 rfl rfl ?_
    refine Tr.mmin (pc := 32) d_X6_settle_32 ml_6_158 mw_mmin (Nat.le_of_ble_eq_true rfl) ?_
    refine Tr.gen (P := fun v => (v = r28 ∧ r28 ≤ a2) ∨ (v = a2 ∧ a2 ≤ r28)) (f_min_p _ _) (fun r32 er32 br32 => ?_)
    refine Tr.pick [1, 2, 3, 0] (ls2 := [(0, (2, 48)), (1, (0, a1)), (2, (0, a2)), (3, (0, r5))]) rfl ?_
    exact J35 _ _ hS (by omega) er12 er5
  · refine Tr.iload_n (pc := 17) (i := 2) d_X6_settle_17 rfl rfl ?_
    refine Tr.goto (pc := 18) (tgt := 35) d_X6_settle_18 rfl ?_
    refine Tr.pick [1, 2, 3, 0] (ls2 := [(0, (2, 48)), (1, (0, a1)), (2, (0, a2)), (3, (0, r5))]) rfl ?_
    exact J35 _ _ hS (by omega) er12 er5

def ws_X6_wakeOf_48_w1 : List (Int × Int) := []
def as_X6_wakeOf_48_w1 : List Int := []
def q_X6_wakeOf_48_w1 (M0 M' : Mem) (r : Option PV) : Prop := St Tru ws_X6_wakeOf_48_w1 as_X6_wakeOf_48_w1 M0 M' ∧ ∃ v : Int, r = some (0, v) ∧ (-1) ≤ v ∧ v ≤ 20
set_option maxRecDepth 100000 in
set_option maxHeartbeats 4000000 in
theorem sp_X6_wakeOf_48_w1 {l : Launch} {K : EC} {M0 : Mem} (hI : In Tru M0) (en_48_1 : rd M0 48 1 = 27) (a1 : Int) (ha1 : 0 ≤ a1 ∧ a1 ≤ 5)  : Tr l K 0 mX6_wakeOf 0 [(0, (2, 48)), (1, (0, a1))] [] M0 (q_X6_wakeOf_48_w1 M0) := by
  have hS : St Tru ws_X6_wakeOf_48_w1 as_X6_wakeOf_48_w1 M0 M0 := St.rf hI
  refine Tr.aload_n (pc := 0) (i := 0) d_X6_wakeOf_0 rfl rfl ?_
  refine Tr.getf (pc := 1) d_X6_wakeOf_1 f_6_24 (by decide) (by decide) (ty_48 hS.1.1) ?_
  refine Tr.tp 53 (fx_48_6 hS.1.1) ?_
  refine Tr.iload_n (pc := 4) (i := 1) d_X6_wakeOf_4 rfl rfl ?_
  refine Tr.iald (pc := 5) d_X6_wakeOf_5 (ty_53 hS.1.1) (by omega) (by omega) ?_
  refine Tr.gen (P := fun v => 0 ≤ v ∧ v ≤ 1) (ar_53 hS.1.2.1 _) (fun r5 er5 br5 => ?_)
  refine Tr.if_ne (pc := 6) (tgt := 34) d_X6_wakeOf_6 rfl (fun c6 => ?_) (fun c6 => ?_)
  · refine Tr.iconst (pc := 34) d_X6_wakeOf_34 (by decide) ?_
    exact Tr.iret (pc := 35) d_X6_wakeOf_35 rfl ⟨hS, _, rfl, by omega, by omega⟩
  · refine Tr.aload_n (pc := 9) (i := 0) d_X6_wakeOf_9 rfl rfl ?_
    refine Tr.getf (pc := 10) d_X6_wakeOf_10 f_6_27 (by decide) (by decide) (ty_48 hS.1.1) ?_
    refine Tr.tp 54 (fx_48_7 hS.1.1) ?_
    refine Tr.iload_n (pc := 13) (i := 1) d_X6_wakeOf_13 rfl rfl ?_
    refine Tr.iald (pc := 14) d_X6_wakeOf_14 (ty_54 hS.1.1) (by omega) (by omega) ?_
    refine Tr.gen (P := fun v => (-2147483648) ≤ v ∧ v ≤ 2147483647) (ar_54 hS.1.2.1 _) (fun r14 er14 br14 => ?_)
    refine Tr.aload_n (pc := 15) (i := 0) d_X6_wakeOf_15 rfl rfl ?_
    refine Tr.getf (pc := 16) d_X6_wakeOf_16 f_6_68 (by decide) (by decide) (ty_48 hS.1.1) ?_
    refine Tr.gen (P := fun v => (-2147483648) ≤ v ∧ v ≤ 2147483647) (ir_48_9 hS.1.2.1) (fun r16 er16 br16 => ?_)
    refine Tr.icmp_gt (pc := 19) (tgt := 34) d_X6_wakeOf_19 rfl (fun c19 => ?_) (fun c19 => ?_)
    · refine Tr.iconst (pc := 34) d_X6_wakeOf_34 (by decide) ?_
      exact Tr.iret (pc := 35) d_X6_wakeOf_35 rfl ⟨hS, _, rfl, by omega, by omega⟩
    · refine Tr.aload_n (pc := 22) (i := 0) d_X6_wakeOf_22 rfl rfl ?_
      refine Tr.getf (pc := 23) d_X6_wakeOf_23 f_6_46 (by decide) (by decide) (ty_48 hS.1.1) ?_
      refine Tr.tp 27 ((St.kp hS (by decide) (by decide) (by decide)).trans en_48_1) ?_
      refine Tr.getf (pc := 26) d_X6_wakeOf_26 f_6_196 (by decide) (by decide) (ty_27 hS.1.1) ?_
      refine Tr.tp 30 (fx_27_6 hS.1.1) ?_
      refine Tr.iload_n (pc := 29) (i := 1) d_X6_wakeOf_29 rfl rfl ?_
      refine Tr.iald (pc := 30) d_X6_wakeOf_30 (ty_30 hS.1.1) (by omega) (by omega) ?_
      refine Tr.gen (P := fun v => (-1) ≤ v ∧ v ≤ 20) (ar_30 hS.1.2.1 _) (fun r30 er30 br30 => ?_)
      refine Tr.goto (pc := 31) (tgt := 35) d_X6_wakeOf_31 rfl ?_
      exact Tr.iret (pc := 35) d_X6_wakeOf_35 rfl ⟨hS, _, rfl, by omega, by omega⟩

def ws_X6_sipsAt_48_w4 : List (Int × Int) := []
def as_X6_sipsAt_48_w4 : List Int := []
def q_X6_sipsAt_48_w4 (M0 M' : Mem) (r : Option PV) : Prop := St Tru ws_X6_sipsAt_48_w4 as_X6_sipsAt_48_w4 M0 M' ∧ ∃ v : Int, r = some (0, v) ∧ (-2147483648) ≤ v ∧ v ≤ 2147483647
set_option maxRecDepth 100000 in
set_option maxHeartbeats 4000000 in
theorem sp_X6_sipsAt_48_w4 {l : Launch} {K : EC} {M0 : Mem} (hI : In Tru M0) (en_48_1 : rd M0 48 1 = 27) (a1 : Int) (ha1 : (-2147483648) ≤ a1 ∧ a1 ≤ 2147483647) (a2 : Int) (ha2 : 0 ≤ a2 ∧ a2 ≤ 5) (a3 : Int) (ha3 : 1 ≤ a3 ∧ a3 ≤ 1)  : Tr l K 0 mX6_sipsAt 0 [(0, (2, 48)), (1, (0, a1)), (2, (0, a2)), (3, (0, a3))] [] M0 (q_X6_sipsAt_48_w4 M0) := by
  have hS : St Tru ws_X6_sipsAt_48_w4 as_X6_sipsAt_48_w4 M0 M0 := St.rf hI
  refine Tr.aload_n (pc := 0) (i := 0) d_X6_sipsAt_0 rfl rfl ?_
  refine Tr.getf (pc := 1) d_X6_sipsAt_1 f_6_46 (by decide) (by decide) (ty_48 hS.1.1) ?_
  refine Tr.tp 27 ((St.kp hS (by decide) (by decide) (by decide)).trans en_48_1) ?_
  refine Tr.getf (pc := 4) d_X6_sipsAt_4 f_6_135 (by decide) (by decide) (ty_27 hS.1.1) ?_
  refine Tr.gen (P := fun v => (-1) ≤ v ∧ v ≤ 999) (ir_27_0 hS.1.2.1) (fun r4 er4 br4 => ?_)
  refine Tr.istore (pc := 7) (i := 4) (ls2 := [(4, (0, r4)), (0, (2, 48)), (1, (0, a1)), (2, (0, a2)), (3, (0, a3))]) d_X6_sipsAt_7 (by decide) rfl ?_
  refine Tr.iconst (pc := 9) d_X6_sipsAt_9 (by decide) ?_
  refine Tr.istore (pc := 10) (i := 5) (ls2 := [(5, (0, 0)), (4, (0, r4)), (0, (2, 48)), (1, (0, a1)), (2, (0, a2)), (3, (0, a3))]) d_X6_sipsAt_10 (by decide) rfl ?_
  have J12 : ∀ (n12 : Nat) (M : Mem) (p12_4 p12_5 : Int), St Tru ws_X6_sipsAt_48_w4 as_X6_sipsAt_48_w4 M0 M → ((-2147483648) ≤ p12_4 ∧ p12_4 ≤ 2147483647) → (0 ≤ p12_5 ∧ p12_5 ≤ 6) → rd M 27 0 = r4 → (6 - p12_5).toNat < n12 → Tr l K 0 mX6_sipsAt 12 [(0, (2, 48)), (1, (0, a1)), (2, (0, a2)), (3, (0, a3)), (4, (0, p12_4)), (5, (0, p12_5))] [] M (q_X6_sipsAt_48_w4 M0) := by
    intro n12
    induction n12 with
    | zero => intro M p12_4 p12_5 hS bp12_4 bp12_5 k12_27_0 hm12; exact absurd hm12 (Nat.not_lt_zero _)
    | succ n12 J12 =>
      intro M p12_4 p12_5 hS bp12_4 bp12_5 k12_27_0 hm12
      refine Tr.iload (pc := 12) (i := 5) d_X6_sipsAt_12 rfl ?_
      refine Tr.aload_n (pc := 14) (i := 0) d_X6_sipsAt_14 rfl rfl ?_
      refine Tr.getf (pc := 15) d_X6_sipsAt_15 f_6_46 (by decide) (by decide) (ty_48 hS.1.1) ?_
      refine Tr.tp 27 ((St.kp hS (by decide) (by decide) (by decide)).trans en_48_1) ?_
      refine Tr.getf (pc := 18) d_X6_sipsAt_18 f_6_116 (by decide) (by decide) (ty_27 hS.1.1) ?_
      refine Tr.tp 28 (fx_27_4 hS.1.1) ?_
      refine Tr.iconst (pc := 21) d_X6_sipsAt_21 (by decide) ?_
      refine Tr.iald (pc := 22) d_X6_sipsAt_22 (ty_28 hS.1.1) (by omega) (by omega) ?_
      refine Tr.gen (P := fun v => 0 ≤ v ∧ v ≤ 6) (ir_28_0 hS.1.2.1) (fun r22 er22 br22 => ?_)
      refine Tr.icmp_ge (pc := 23) (tgt := 91) d_X6_sipsAt_23 rfl (fun c23 => ?_) (fun c23 => ?_)
      · refine Tr.iload (pc := 91) (i := 4) d_X6_sipsAt_91 rfl ?_
        exact Tr.iret (pc := 93) d_X6_sipsAt_93 rfl ⟨hS, _, rfl, by omega, by omega⟩
      · refine Tr.aload_n (pc := 26) (i := 0) d_X6_sipsAt_26 rfl rfl ?_
        refine Tr.getf (pc := 27) d_X6_sipsAt_27 f_6_24 (by decide) (by decide) (ty_48 hS.1.1) ?_
        refine Tr.tp 53 (fx_48_6 hS.1.1) ?_
        refine Tr.iload (pc := 30) (i := 5) d_X6_sipsAt_30 rfl ?_
        refine Tr.iald (pc := 32) d_X6_sipsAt_32 (ty_53 hS.1.1) (by omega) (by omega) ?_
        refine Tr.gen (P := fun v => 0 ≤ v ∧ v ≤ 1) (ar_53 hS.1.2.1 _) (fun r32 er32 br32 => ?_)
        refine Tr.iconst (pc := 33) d_X6_sipsAt_33 (by decide) ?_
        have J53 : ∀ (M : Mem) (q53_0 : Int), St Tru ws_X6_sipsAt_48_w4 as_X6_sipsAt_48_w4 M0 M → (0 ≤ q53_0 ∧ q53_0 ≤ 2) → rd M 27 0 = r4 → rd M 28 0 = r22 → rd M 53 p12_5 = r32 → Tr l K 0 mX6_sipsAt 53 [(0, (2, 48)), (1, (0, a1)), (2, (0, a2)), (3, (0, a3)), (4, (0, p12_4)), (5, (0, p12_5))] [(0, q53_0)] M (q_X6_sipsAt_48_w4 M0) := by
          intro M q53_0 hS bq53_0 k53_27_0 k53_28_0 k53_53_p12_510
          refine Tr.istore (pc := 53) (i := 6) (ls2 := [(6, (0, q53_0)), (0, (2, 48)), (1, (0, a1)), (2, (0, a2)), (3, (0, a3)), (4, (0, p12_4)), (5, (0, p12_5))]) d_X6_sipsAt_53 (by decide) rfl ?_
          refine Tr.iload (pc := 55) (i := 4) d_X6_sipsAt_55 rfl ?_
          refine Tr.aload_n (pc := 57) (i := 0) d_X6_sipsAt_57 rfl rfl ?_
          refine Tr.getf (pc := 58) d_X6_sipsAt_58 f_6_46 (by decide) (by decide) (ty_48 hS.1.1) ?_
          refine Tr.tp 27 ((St.kp hS (by decide) (by decide) (by decide)).trans en_48_1) ?_
          refine Tr.getf (pc := 61) d_X6_sipsAt_61 f_6_189 (by decide) (by decide) (ty_27 hS.1.1) ?_
          refine Tr.tp 29 (fx_27_5 hS.1.1) ?_
          refine Tr.iload (pc := 64) (i := 5) d_X6_sipsAt_64 rfl ?_
          refine Tr.iconst (pc := 66) d_X6_sipsAt_66 (by decide) ?_
          refine Tr.imul (pc := 67) d_X6_sipsAt_67 ?_
          refine Tr.tp (4 * p12_5) ((w32_id (by omega)).trans (by omega)) ?_
          refine Tr.iload (pc := 68) (i := 5) d_X6_sipsAt_68 rfl ?_
          refine Tr.iload_n (pc := 70) (i := 2) d_X6_sipsAt_70 rfl rfl ?_
          have J80 : ∀ (M : Mem) (q80_3 : Int), St Tru ws_X6_sipsAt_48_w4 as_X6_sipsAt_48_w4 M0 M → (0 ≤ q80_3 ∧ q80_3 ≤ 2) → rd M 27 0 = r4 → rd M 28 0 = r22 → rd M 53 p12_5 = r32 → Tr l K 0 mX6_sipsAt 80 [(0, (2, 48)), (1, (0, a1)), (2, (0, a2)), (3, (0, a3)), (5, (0, p12_5))] [(0, q80_3), (0, (4 * p12_5)), (2, 29), (0, p12_4)] M (q_X6_sipsAt_48_w4 M0) := by
            intro M q80_3 hS bq80_3 k80_27_0 k80_28_0 k80_53_p12_510
            refine Tr.iadd (pc := 80) d_X6_sipsAt_80 ?_
            refine Tr.tp (4 * p12_5 + q80_3) ((w32_id (by omega)).trans (by omega)) ?_
            refine Tr.iald (pc := 81) d_X6_sipsAt_81 (ty_29 hS.1.1) (by omega) (by omega) ?_
            refine Tr.gen (P := fun v => (-1) ≤ v ∧ v ≤ 999) (ar_29 hS.1.2.1 _) (fun r81 er81 br81 => ?_)
            refine Tr.iadd (pc := 82) d_X6_sipsAt_82 ?_
            refine Tr.gen (P := fun v => (-2147483648) ≤ v ∧ v ≤ 2147483647) (w32_b _) (fun r82 er82 br82 => ?_)
            refine Tr.istore (pc := 83) (i := 4) (ls2 := [(4, (0, r82)), (0, (2, 48)), (1, (0, a1)), (2, (0, a2)), (3, (0, a3)), (5, (0, p12_5))]) d_X6_sipsAt_83 (by decide) rfl ?_
            refine Tr.iincV (pc := 85) (n2 := (p12_5 + 1)) (ls2 := [(5, (0, (p12_5 + 1))), (4, (0, r82)), (0, (2, 48)), (1, (0, a1)), (2, (0, a2)), (3, (0, a3))]) d_X6_sipsAt_85 rfl (by decide) ((w32_id (by omega)).trans (by omega)) rfl ?_
            refine Tr.goto (pc := 88) (tgt := 12) d_X6_sipsAt_88 rfl ?_
            refine Tr.pick [2, 3, 4, 5, 1, 0] (ls2 := [(0, (2, 48)), (1, (0, a1)), (2, (0, a2)), (3, (0, a3)), (4, (0, r82)), (5, (0, (p12_5 + 1)))]) rfl ?_
            exact J12 _ _ _ hS (by omega) (by omega) k80_27_0 (by omega)
          refine Tr.icmp_ne (pc := 71) (tgt := 78) d_X6_sipsAt_71 rfl (fun c71 => ?_) (fun c71 => ?_)
          · refine Tr.iload (pc := 78) (i := 6) d_X6_sipsAt_78 rfl ?_
            refine Tr.pick [1, 2, 3, 4, 6] (ls2 := [(0, (2, 48)), (1, (0, a1)), (2, (0, a2)), (3, (0, a3)), (5, (0, p12_5))]) rfl ?_
            exact J80 _ _ hS (by omega) k53_27_0 k53_28_0 k53_53_p12_510
          · refine Tr.iload_n (pc := 74) (i := 3) d_X6_sipsAt_74 rfl rfl ?_
            refine Tr.tp 1 (by omega) ?_
            refine Tr.goto (pc := 75) (tgt := 80) d_X6_sipsAt_75 rfl ?_
            refine Tr.pick [1, 2, 3, 4, 6] (ls2 := [(0, (2, 48)), (1, (0, a1)), (2, (0, a2)), (3, (0, a3)), (5, (0, p12_5))]) rfl ?_
            exact J80 _ _ hS (by omega) k53_27_0 k53_28_0 k53_53_p12_510
        have J48 : ∀ (M : Mem), St Tru ws_X6_sipsAt_48_w4 as_X6_sipsAt_48_w4 M0 M → rd M 27 0 = r4 → rd M 28 0 = r22 → rd M 53 p12_5 = r32 → Tr l K 0 mX6_sipsAt 48 [(0, (2, 48)), (1, (0, a1)), (2, (0, a2)), (3, (0, a3)), (4, (0, p12_4)), (5, (0, p12_5))] [] M (q_X6_sipsAt_48_w4 M0) := by
          intro M  hS  k48_27_0 k48_28_0 k48_53_p12_510
          refine Tr.iconst (pc := 48) d_X6_sipsAt_48 (by decide) ?_
          refine Tr.goto (pc := 49) (tgt := 53) d_X6_sipsAt_49 rfl ?_
          refine Tr.pick [0, 1, 2, 3, 4, 5] (ls2 := [(0, (2, 48)), (1, (0, a1)), (2, (0, a2)), (3, (0, a3)), (4, (0, p12_4)), (5, (0, p12_5))]) rfl ?_
          exact J53 _ _ hS (by omega) k48_27_0 k48_28_0 k48_53_p12_510
        refine Tr.icmp_eq (pc := 34) (tgt := 48) d_X6_sipsAt_34 rfl (fun c34 => ?_) (fun c34 => ?_)
        · refine Tr.pick [0, 1, 2, 3, 4, 5] (ls2 := [(0, (2, 48)), (1, (0, a1)), (2, (0, a2)), (3, (0, a3)), (4, (0, p12_4)), (5, (0, p12_5))]) rfl ?_
          exact J48 _ hS k12_27_0 er22 er32
        · refine Tr.iload_n (pc := 37) (i := 1) d_X6_sipsAt_37 rfl rfl ?_
          refine Tr.aload_n (pc := 38) (i := 0) d_X6_sipsAt_38 rfl rfl ?_
          refine Tr.getf (pc := 39) d_X6_sipsAt_39 f_6_27 (by decide) (by decide) (ty_48 hS.1.1) ?_
          refine Tr.tp 54 (fx_48_7 hS.1.1) ?_
          refine Tr.iload (pc := 42) (i := 5) d_X6_sipsAt_42 rfl ?_
          refine Tr.iald (pc := 44) d_X6_sipsAt_44 (ty_54 hS.1.1) (by omega) (by omega) ?_
          refine Tr.gen (P := fun v => (-2147483648) ≤ v ∧ v ≤ 2147483647) (ar_54 hS.1.2.1 _) (fun r44 er44 br44 => ?_)
          refine Tr.icmp_ge (pc := 45) (tgt := 52) d_X6_sipsAt_45 rfl (fun c45 => ?_) (fun c45 => ?_)
          · refine Tr.iconst (pc := 52) d_X6_sipsAt_52 (by decide) ?_
            refine Tr.pick [0, 1, 2, 3, 4, 5] (ls2 := [(0, (2, 48)), (1, (0, a1)), (2, (0, a2)), (3, (0, a3)), (4, (0, p12_4)), (5, (0, p12_5))]) rfl ?_
            exact J53 _ _ hS (by omega) k12_27_0 er22 er32
          · refine Tr.pick [0, 1, 2, 3, 4, 5] (ls2 := [(0, (2, 48)), (1, (0, a1)), (2, (0, a2)), (3, (0, a3)), (4, (0, p12_4)), (5, (0, p12_5))]) rfl ?_
            exact J48 _ hS k12_27_0 er22 er32
  refine Tr.pick [2, 3, 4, 5, 1, 0] (ls2 := [(0, (2, 48)), (1, (0, a1)), (2, (0, a2)), (3, (0, a3)), (4, (0, r4)), (5, (0, 0))]) rfl ?_
  exact J12 _ _ _ _ hS (by omega) (by omega) er4 (Nat.lt_succ_self _)
end
/-! 43.09 -/
section
def ws_X6_afforded_48_w8 : List (Int × Int) := [(48, 17)]
def as_X6_afforded_48_w8 : List Int := []
def q_X6_afforded_48_w8 (M0 M' : Mem) (r : Option PV) : Prop := St Tru ws_X6_afforded_48_w8 as_X6_afforded_48_w8 M0 M' ∧ ∃ v : Int, r = some (0, v) ∧ (-2147483648) ≤ v ∧ v ≤ 20
set_option maxRecDepth 100000 in
set_option maxHeartbeats 4000000 in
theorem sp_X6_afforded_48_w8 {l : Launch} {K : EC} {M0 : Mem} (hI : In Tru M0) (en_48_1 : rd M0 48 1 = 27) (a1 : Int) (ha1 : (-2147483648) ≤ a1 ∧ a1 ≤ 20) (a2 : Int) (ha2 : 0 ≤ a2 ∧ a2 ≤ 5) (a3 : Int) (ha3 : 1 ≤ a3 ∧ a3 ≤ 1)  : Tr l K 1 mX6_afforded 0 [(0, (2, 48)), (1, (0, a1)), (2, (0, a2)), (3, (0, a3))] [] M0 (q_X6_afforded_48_w8 M0) := by
  have hS : St Tru ws_X6_afforded_48_w8 as_X6_afforded_48_w8 M0 M0 := St.rf hI
  refine Tr.iconst (pc := 0) d_X6_afforded_0 (by decide) ?_
  refine Tr.istore (pc := 1) (i := 4) (ls2 := [(4, (0, 0)), (0, (2, 48)), (1, (0, a1)), (2, (0, a2)), (3, (0, a3))]) d_X6_afforded_1 (by decide) rfl ?_
  have J3 : ∀ (n3 : Nat) (M : Mem) (p3_4 : Int), St Tru ws_X6_afforded_48_w8 as_X6_afforded_48_w8 M0 M → (0 ≤ p3_4 ∧ p3_4 ≤ 20) → (20 - p3_4).toNat < n3 → Tr l K 1 mX6_afforded 3 [(0, (2, 48)), (1, (0, a1)), (2, (0, a2)), (3, (0, a3)), (4, (0, p3_4))] [] M (q_X6_afforded_48_w8 M0) := by
    intro n3
    induction n3 with
    | zero => intro M p3_4 hS bp3_4  hm3; exact absurd hm3 (Nat.not_lt_zero _)
    | succ n3 J3 =>
      intro M p3_4 hS bp3_4  hm3
      refine Tr.iload (pc := 3) (i := 4) d_X6_afforded_3 rfl ?_
      refine Tr.iload_n (pc := 5) (i := 1) d_X6_afforded_5 rfl rfl ?_
      refine Tr.icmp_ge (pc := 6) (tgt := 53) d_X6_afforded_6 rfl (fun c6 => ?_) (fun c6 => ?_)
      · refine Tr.iload_n (pc := 53) (i := 1) d_X6_afforded_53 rfl rfl ?_
        exact Tr.iret (pc := 54) d_X6_afforded_54 rfl ⟨hS, _, rfl, by omega, by omega⟩
      · refine Tr.aload_n (pc := 9) (i := 0) d_X6_afforded_9 rfl rfl ?_
        refine Tr.aload_n (pc := 10) (i := 0) d_X6_afforded_10 rfl rfl ?_
        refine Tr.getf (pc := 11) d_X6_afforded_11 f_6_68 (by decide) (by decide) (ty_48 hS.1.1) ?_
        refine Tr.gen (P := fun v => (-2147483648) ≤ v ∧ v ≤ 2147483647) (ir_48_9 hS.1.2.1) (fun r11 er11 br11 => ?_)
        refine Tr.iload (pc := 14) (i := 4) d_X6_afforded_14 rfl ?_
        refine Tr.iadd (pc := 16) d_X6_afforded_16 ?_
        refine Tr.gen (P := fun v => (-2147483648) ≤ v ∧ v ≤ 2147483647) (w32_b _) (fun r16 er16 br16 => ?_)
        refine Tr.iload_n (pc := 17) (i := 2) d_X6_afforded_17 rfl rfl ?_
        refine Tr.iload_n (pc := 18) (i := 3) d_X6_afforded_18 rfl rfl ?_
        refine Tr.tp 1 (by omega) ?_
        refine Tr.callV (pc := 19) (as := [_, _, _]) d_X6_afforded_19 s_6_186 ok_X6_sipsAt rfl rfl (Nat.le_of_ble_eq_true rfl) (Nat.le_of_ble_eq_true rfl) (by decide) (ty_48 hS.1.1) ?_
        refine Tr.imp (Tr.deep (by decide) (sp_X6_sipsAt_48_w4 hS.1 ((St.kp hS (by decide) (by decide) (by decide)).trans en_48_1) r16 (by omega) a2 (by omega) 1 (by omega))) ?_
        rintro M19 _ ⟨h19, r19, rfl, lr19, ur19⟩
        have hS := St.tr hS h19 (by decide) (by decide)
        refine Tr.sc [(0, r19)] rfl ?_
        refine Tr.istore (pc := 22) (i := 5) (ls2 := [(5, (0, r19)), (0, (2, 48)), (1, (0, a1)), (2, (0, a2)), (3, (0, a3)), (4, (0, p3_4))]) d_X6_afforded_22 (by decide) rfl ?_
        refine Tr.iload (pc := 24) (i := 5) d_X6_afforded_24 rfl ?_
        refine Tr.aload_n (pc := 26) (i := 0) d_X6_afforded_26 rfl rfl ?_
        refine Tr.getf (pc := 27) d_X6_afforded_27 f_6_110 (by decide) (by decide) (ty_48 hS.1.1) ?_
        refine Tr.gen (P := fun v => (-2147483648) ≤ v ∧ v ≤ 2147483647) (ir_48_17 hS.1.2.1) (fun r27 er27 br27 => ?_)
        refine Tr.icmp_le (pc := 30) (tgt := 36) d_X6_afforded_30 rfl (fun c30 => ?_) (fun c30 => ?_)
        · refine Tr.aload_n (pc := 36) (i := 0) d_X6_afforded_36 rfl rfl ?_
          refine Tr.dup (pc := 37) d_X6_afforded_37 ne21 ?_
          refine Tr.getf (pc := 38) d_X6_afforded_38 f_6_110 (by decide) (by decide) (ty_48 hS.1.1) ?_
          refine Tr.tp r27 er27 ?_
          refine Tr.iload (pc := 41) (i := 5) d_X6_afforded_41 rfl ?_
          refine Tr.isub (pc := 43) d_X6_afforded_43 ?_
          refine Tr.gen (P := fun v => (-2147483648) ≤ v ∧ v ≤ 2147483647) (w32_b _) (fun r43 er43 br43 => ?_)
          refine Tr.putfS (pc := 44) (P := St Tru ws_X6_afforded_48_w8 as_X6_afforded_48_w8 M0) d_X6_afforded_44 f_6_110 (by decide) (by decide) (ty_48 hS.1.1) (st_48_17 hS (by decide) (by omega) trivial) (fun M44 hS w44 => ?_)
          refine Tr.iincV (pc := 47) (n2 := (p3_4 + 1)) (ls2 := [(4, (0, (p3_4 + 1))), (5, (0, r19)), (0, (2, 48)), (1, (0, a1)), (2, (0, a2)), (3, (0, a3))]) d_X6_afforded_47 rfl (by decide) ((w32_id (by omega)).trans (by omega)) rfl ?_
          refine Tr.goto (pc := 50) (tgt := 3) d_X6_afforded_50 rfl ?_
          refine Tr.pick [2, 3, 4, 5, 0] (ls2 := [(0, (2, 48)), (1, (0, a1)), (2, (0, a2)), (3, (0, a3)), (4, (0, (p3_4 + 1)))]) rfl ?_
          exact J3 _ _ hS (by omega) (by omega)
        · refine Tr.iload (pc := 33) (i := 4) d_X6_afforded_33 rfl ?_
          exact Tr.iret (pc := 35) d_X6_afforded_35 rfl ⟨hS, _, rfl, by omega, by omega⟩
  refine Tr.pick [1, 2, 3, 4, 0] (ls2 := [(0, (2, 48)), (1, (0, a1)), (2, (0, a2)), (3, (0, a3)), (4, (0, 0))]) rfl ?_
  exact J3 _ _ _ hS (by omega) (Nat.lt_succ_self _)

def ws_X6_pass_48_w8 : List (Int × Int) := [(48, 9), (48, 14), (48, 17)]
def as_X6_pass_48_w8 : List Int := []
def q_X6_pass_48_w8 (M0 M' : Mem) (r : Option PV) : Prop := St Tru ws_X6_pass_48_w8 as_X6_pass_48_w8 M0 M' ∧ ∃ v : Int, r = some (0, v) ∧ (-2147483648) ≤ v ∧ v ≤ 20
set_option maxRecDepth 100000 in
set_option maxHeartbeats 4000000 in
theorem sp_X6_pass_48_w8 {l : Launch} {K : EC} {M0 : Mem} (hI : In Tru M0) (en_48_1 : rd M0 48 1 = 27) (a1 : Int) (ha1 : (-1) ≤ a1 ∧ a1 ≤ 20) (a2 : Int) (ha2 : 0 ≤ a2 ∧ a2 ≤ 5) (a3 : Int) (ha3 : 1 ≤ a3 ∧ a3 ≤ 1)  : Tr l K 2 mX6_pass 0 [(0, (2, 48)), (1, (0, a1)), (2, (0, a2)), (3, (0, a3))] [] M0 (q_X6_pass_48_w8 M0) := by
  have hS : St Tru ws_X6_pass_48_w8 as_X6_pass_48_w8 M0 M0 := St.rf hI
  refine Tr.iload_n (pc := 0) (i := 1) d_X6_pass_0 rfl rfl ?_
  refine Tr.sipush (pc := 1) d_X6_pass_1 rfl (by decide) ?_
  refine Tr.aload_n (pc := 4) (i := 0) d_X6_pass_4 rfl rfl ?_
  refine Tr.getf (pc := 5) d_X6_pass_5 f_6_68 (by decide) (by decide) (ty_48 hS.1.1) ?_
  refine Tr.gen (P := fun v => (-2147483648) ≤ v ∧ v ≤ 2147483647) (ir_48_9 hS.1.2.1) (fun r5 er5 br5 => ?_)
  refine Tr.isub (pc := 8) d_X6_pass_8 ?_
  refine Tr.gen (P := fun v => (-2147483648) ≤ v ∧ v ≤ 2147483647) (w32_b _) (fun r8 er8 br8 => ?_)
  refine Tr.mmin (pc := 9) d_X6_pass_9 ml_6_158 mw_mmin (Nat.le_of_ble_eq_true rfl) ?_
  refine Tr.gen (P := fun v => (v = a1 ∧ a1 ≤ r8) ∨ (v = r8 ∧ r8 ≤ a1)) (f_min_p _ _) (fun r9 er9 br9 => ?_)
  refine Tr.istore (pc := 12) (i := 4) (ls2 := [(4, (0, r9)), (0, (2, 48)), (1, (0, a1)), (2, (0, a2)), (3, (0, a3))]) d_X6_pass_12 (by decide) rfl ?_
  refine Tr.aload_n (pc := 14) (i := 0) d_X6_pass_14 rfl rfl ?_
  refine Tr.getz (pc := 15) d_X6_pass_15 f_6_106 (by decide) (ty_48 hS.1.1) ?_
  refine Tr.gen (P := fun v => 0 ≤ v ∧ v ≤ 1) (ir_48_16 hS.1.2.1) (fun r15 er15 br15 => ?_)
  have J34 : ∀ (M : Mem) (q34_0 : Int), St Tru ws_X6_pass_48_w8 as_X6_pass_48_w8 M0 M → ((-2147483648) ≤ q34_0 ∧ q34_0 ≤ 20) → rd M 48 16 = r15 → rd M 48 9 = r5 → Tr l K 2 mX6_pass 34 [(0, (2, 48)), (1, (0, a1)), (4, (0, r9))] [(0, q34_0)] M (q_X6_pass_48_w8 M0) := by
    intro M q34_0 hS bq34_0 k34_48_16 k34_48_9
    refine Tr.istore (pc := 34) (i := 5) (ls2 := [(5, (0, q34_0)), (0, (2, 48)), (1, (0, a1)), (4, (0, r9))]) d_X6_pass_34 (by decide) rfl ?_
    refine Tr.aload_n (pc := 36) (i := 0) d_X6_pass_36 rfl rfl ?_
    refine Tr.dup (pc := 37) d_X6_pass_37 ne21 ?_
    refine Tr.getf (pc := 38) d_X6_pass_38 f_6_68 (by decide) (by decide) (ty_48 hS.1.1) ?_
    refine Tr.tp r5 k34_48_9 ?_
    refine Tr.iload (pc := 41) (i := 5) d_X6_pass_41 rfl ?_
    refine Tr.iadd (pc := 43) d_X6_pass_43 ?_
    refine Tr.gen (P := fun v => (-2147483648) ≤ v ∧ v ≤ 2147483647) (w32_b _) (fun r43 er43 br43 => ?_)
    refine Tr.putfS (pc := 44) (P := St Tru ws_X6_pass_48_w8 as_X6_pass_48_w8 M0) d_X6_pass_44 f_6_68 (by decide) (by decide) (ty_48 hS.1.1) (st_48_9 hS (by decide) (by omega) trivial) (fun M44 hS w44 => ?_)
    refine Tr.iload (pc := 47) (i := 5) d_X6_pass_47 rfl ?_
    refine Tr.iload_n (pc := 49) (i := 1) d_X6_pass_49 rfl rfl ?_
    refine Tr.icmp_ge (pc := 50) (tgt := 69) d_X6_pass_50 rfl (fun c50 => ?_) (fun c50 => ?_)
    · refine Tr.iload (pc := 69) (i := 5) d_X6_pass_69 rfl ?_
      exact Tr.iret (pc := 71) d_X6_pass_71 rfl ⟨hS, _, rfl, by omega, by omega⟩
    · refine Tr.aload_n (pc := 53) (i := 0) d_X6_pass_53 rfl rfl ?_
      refine Tr.iload (pc := 54) (i := 5) d_X6_pass_54 rfl ?_
      refine Tr.iload (pc := 56) (i := 4) d_X6_pass_56 rfl ?_
      refine Tr.icmp_ne (pc := 58) (tgt := 65) d_X6_pass_58 rfl (fun c58 => ?_) (fun c58 => ?_)
      · refine Tr.iconst (pc := 65) d_X6_pass_65 (by decide) ?_
        refine Tr.putfS (pc := 66) (P := St Tru ws_X6_pass_48_w8 as_X6_pass_48_w8 M0) d_X6_pass_66 f_6_62 (by decide) (by decide) (ty_48 hS.1.1) (st_48_14 hS (by decide) (by omega) trivial) (fun M66 hS w66 => ?_)
        refine Tr.iload (pc := 69) (i := 5) d_X6_pass_69 rfl ?_
        exact Tr.iret (pc := 71) d_X6_pass_71 rfl ⟨hS, _, rfl, by omega, by omega⟩
      · refine Tr.iconst (pc := 61) d_X6_pass_61 (by decide) ?_
        refine Tr.goto (pc := 62) (tgt := 66) d_X6_pass_62 rfl ?_
        refine Tr.putfS (pc := 66) (P := St Tru ws_X6_pass_48_w8 as_X6_pass_48_w8 M0) d_X6_pass_66 f_6_62 (by decide) (by decide) (ty_48 hS.1.1) (st_48_14 hS (by decide) (by omega) trivial) (fun M66 hS w66 => ?_)
        refine Tr.iload (pc := 69) (i := 5) d_X6_pass_69 rfl ?_
        exact Tr.iret (pc := 71) d_X6_pass_71 rfl ⟨hS, _, rfl, by omega, by omega⟩
  refine Tr.if_eq (pc := 18) (tgt := 32) d_X6_pass_18 rfl (fun c18 => ?_) (fun c18 => ?_)
  · refine Tr.iload (pc := 32) (i := 4) d_X6_pass_32 rfl ?_
    refine Tr.pick [1, 2, 0] (ls2 := [(0, (2, 48)), (1, (0, a1)), (4, (0, r9))]) rfl ?_
    exact J34 _ _ hS (by omega) er15 er5
  · refine Tr.aload_n (pc := 21) (i := 0) d_X6_pass_21 rfl rfl ?_
    refine Tr.iload (pc := 22) (i := 4) d_X6_pass_22 rfl ?_
    refine Tr.iload_n (pc := 24) (i := 2) d_X6_pass_24 rfl rfl ?_
    refine Tr.iload_n (pc := 25) (i := 3) d_X6_pass_25 rfl rfl ?_
    refine Tr.tp 1 (by omega) ?_
    refine Tr.callV (pc := 26) (as := [_, _, _]) d_X6_pass_26 s_6_183 ok_X6_afforded rfl rfl (Nat.le_of_ble_eq_true rfl) (Nat.le_of_ble_eq_true rfl) (by decide) (ty_48 hS.1.1) ?_
    refine Tr.imp (Tr.deep (by decide) (sp_X6_afforded_48_w8 hS.1 ((St.kp hS (by decide) (by decide) (by decide)).trans en_48_1) r9 (by omega) a2 (by omega) 1 (by omega))) ?_
    rintro M26 _ ⟨h26, r26, rfl, lr26, ur26⟩
    have hS := St.tr hS h26 (by decide) (by decide)
    refine Tr.sc [(0, r26)] rfl ?_
    refine Tr.goto (pc := 29) (tgt := 34) d_X6_pass_29 rfl ?_
    refine Tr.pick [1, 2, 0] (ls2 := [(0, (2, 48)), (1, (0, a1)), (4, (0, r9))]) rfl ?_
    exact J34 _ _ hS (by omega) ((St.kp h26 (by decide) (by decide) (by decide)).trans er15) ((St.kp h26 (by decide) (by decide) (by decide)).trans er5)

def ws_X1_note_56_w6 : List (Int × Int) := [(63, 0)]
def as_X1_note_56_w6 : List Int := [57, 60, 61, 69, 191]
def q_X1_note_56_w6 (M0 M' : Mem) (r : Option PV) : Prop := St Rn ws_X1_note_56_w6 as_X1_note_56_w6 M0 M' ∧ r = none
set_option maxRecDepth 100000 in
set_option maxHeartbeats 4000000 in
theorem sp_X1_note_56_w6 {l : Launch} {K : EC} {M0 : Mem} (hI : In Rn M0) (en_56_1 : rd M0 56 1 = 27) (a1 : Int) (ha1 : 0 ≤ a1 ∧ a1 ≤ 5) (a2 : Int) (ha2 : 1 ≤ a2 ∧ a2 ≤ 1) (a3 : Int) (ha3 : (-2147483648) ≤ a3 ∧ a3 ≤ 2147483647) (a4 : Int) (ha4 : (-2147483648) ≤ a4 ∧ a4 ≤ 2147483647)  : Tr l K 1 mX1_note 0 [(0, (2, 56)), (1, (0, a1)), (2, (0, a2)), (3, (0, a3)), (4, (0, a4))] [] M0 (q_X1_note_56_w6 M0) := by
  have hS : St Rn ws_X1_note_56_w6 as_X1_note_56_w6 M0 M0 := St.rf hI
  refine Tr.iload_n (pc := 0) (i := 3) d_X1_note_0 rfl rfl ?_
  refine Tr.iload (pc := 1) (i := 4) d_X1_note_1 rfl ?_
  refine Tr.icmp_lt (pc := 3) (tgt := 7) d_X1_note_3 rfl (fun c3 => ?_) (fun c3 => ?_)
  · refine Tr.aload_n (pc := 7) (i := 0) d_X1_note_7 rfl rfl ?_
    refine Tr.getf (pc := 8) d_X1_note_8 f_1_9 (by decide) (by decide) (ty_56 hS.1.1) ?_
    refine Tr.tp 57 (fx_56_2 hS.1.1) ?_
    refine Tr.iload_n (pc := 11) (i := 1) d_X1_note_11 rfl rfl ?_
    refine Tr.iconst (pc := 12) d_X1_note_12 (by decide) ?_
    refine Tr.imul (pc := 13) d_X1_note_13 ?_
    refine Tr.tp (4 * a1) ((w32_id (by omega)).trans (by omega)) ?_
    refine Tr.iload_n (pc := 14) (i := 2) d_X1_note_14 rfl rfl ?_
    refine Tr.tp 1 (by omega) ?_
    refine Tr.iadd (pc := 15) d_X1_note_15 ?_
    refine Tr.tp (4 * a1 + 1) ((w32_id (by omega)).trans (by omega)) ?_
    refine Tr.dup2 (pc := 16) d_X1_note_16 ne01 ne21 ?_
    refine Tr.iald (pc := 17) d_X1_note_17 (ty_57 hS.1.1) (by omega) (by omega) ?_
    refine Tr.gen (P := fun v => (-2147483648) ≤ v ∧ v ≤ 2147483647) (ar_57 hS.1.2.1 _) (fun r17 er17 br17 => ?_)
    refine Tr.iload (pc := 18) (i := 4) d_X1_note_18 rfl ?_
    refine Tr.iload_n (pc := 20) (i := 3) d_X1_note_20 rfl rfl ?_
    refine Tr.isub (pc := 21) d_X1_note_21 ?_
    refine Tr.gen (P := fun v => (-2147483648) ≤ v ∧ v ≤ 2147483647) (w32_b _) (fun r21 er21 br21 => ?_)
    refine Tr.iadd (pc := 22) d_X1_note_22 ?_
    refine Tr.gen (P := fun v => (-2147483648) ≤ v ∧ v ≤ 2147483647) (w32_b _) (fun r22 er22 br22 => ?_)
    refine Tr.iastS (pc := 23) (P := St Rn ws_X1_note_56_w6 as_X1_note_56_w6 M0) d_X1_note_23 (ty_57 hS.1.1) (by omega) (by omega) (sa_57 hS (by decide) (by omega) (Rn.of hS.1.2.2.2.2 (fun _ => rd_wb _ rfl) (rd_wb _ rfl))) (fun M23 hS w23 => ?_)
    refine Tr.aload_n (pc := 24) (i := 0) d_X1_note_24 rfl rfl ?_
    refine Tr.getz (pc := 25) d_X1_note_25 f_1_37 (by decide) (ty_56 hS.1.1) ?_
    refine Tr.tp 1 (fx_56_0 hS.1.1) ?_
    refine Tr.if_ne (pc := 28) (tgt := 32) d_X1_note_28 rfl (fun _ => ?_) (fun hc => absurd hc (by omega))
    refine Tr.aload_n (pc := 32) (i := 0) d_X1_note_32 rfl rfl ?_
    refine Tr.getf (pc := 33) d_X1_note_33 f_1_15 (by decide) (by decide) (ty_56 hS.1.1) ?_
    refine Tr.tp 58 (fx_56_3 hS.1.1) ?_
    refine Tr.iload_n (pc := 36) (i := 1) d_X1_note_36 rfl rfl ?_
    refine Tr.iald (pc := 37) d_X1_note_37 (ty_58 hS.1.1) (by omega) (by omega) ?_
    refine Tr.gen (P := fun v => (-1) ≤ v ∧ v ≤ 59) (ar_58 hS.1.2.1 _) (fun r37 er37 br37 => ?_)
    refine Tr.istore (pc := 38) (i := 5) (ls2 := [(5, (0, r37)), (0, (2, 56)), (1, (0, a1)), (2, (0, a2)), (3, (0, a3)), (4, (0, a4))]) d_X1_note_38 (by decide) rfl ?_
    refine Tr.iload_n (pc := 40) (i := 2) d_X1_note_40 rfl rfl ?_
    refine Tr.tp 1 (by omega) ?_
    refine Tr.if_ne (pc := 41) (tgt := 52) d_X1_note_41 rfl (fun _ => ?_) (fun hc => absurd hc (by omega))
    refine Tr.iload (pc := 52) (i := 5) d_X1_note_52 rfl ?_
    refine Tr.if_lt (pc := 54) (tgt := 142) d_X1_note_54 rfl (fun c54 => ?_) (fun c54 => ?_)
    · exact Tr.vret (pc := 142) d_X1_note_142 rfl ⟨hS, rfl⟩
    · refine Tr.iload (pc := 57) (i := 4) d_X1_note_57 rfl ?_
      refine Tr.iload_n (pc := 59) (i := 3) d_X1_note_59 rfl rfl ?_
      refine Tr.isub (pc := 60) d_X1_note_60 ?_
      refine Tr.gen (P := fun v => (-2147483648) ≤ v ∧ v ≤ 2147483647) (w32_b _) (fun r60 er60 br60 => ?_)
      refine Tr.aload_n (pc := 61) (i := 0) d_X1_note_61 rfl rfl ?_
      refine Tr.getf (pc := 62) d_X1_note_62 f_1_41 (by decide) (by decide) (ty_56 hS.1.1) ?_
      refine Tr.tp 27 ((St.kp hS (by decide) (by decide) (by decide)).trans en_56_1) ?_
      refine Tr.getf (pc := 65) d_X1_note_65 f_1_71 (by decide) (by decide) (ty_27 hS.1.1) ?_
      refine Tr.tp 29 (fx_27_5 hS.1.1) ?_
      refine Tr.iload_n (pc := 68) (i := 1) d_X1_note_68 rfl rfl ?_
      refine Tr.iconst (pc := 69) d_X1_note_69 (by decide) ?_
      refine Tr.imul (pc := 70) d_X1_note_70 ?_
      refine Tr.tp (4 * a1) ((w32_id (by omega)).trans (by omega)) ?_
      refine Tr.iload_n (pc := 71) (i := 2) d_X1_note_71 rfl rfl ?_
      refine Tr.tp 1 (by omega) ?_
      refine Tr.iadd (pc := 72) d_X1_note_72 ?_
      refine Tr.tp (4 * a1 + 1) ((w32_id (by omega)).trans (by omega)) ?_
      refine Tr.iald (pc := 73) d_X1_note_73 (ty_29 hS.1.1) (by omega) (by omega) ?_
      refine Tr.gen (P := fun v => (-1) ≤ v ∧ v ≤ 999) (ar_29 hS.1.2.1 _) (fun r73 er73 br73 => ?_)
      refine Tr.imul (pc := 74) d_X1_note_74 ?_
      refine Tr.gen (P := fun v => (-2147483648) ≤ v ∧ v ≤ 2147483647) (w32_b _) (fun r74 er74 br74 => ?_)
      refine Tr.istore (pc := 75) (i := 6) (ls2 := [(6, (0, r74)), (5, (0, r37)), (0, (2, 56)), (1, (0, a1)), (2, (0, a2)), (3, (0, a3)), (4, (0, a4))]) d_X1_note_75 (by decide) rfl ?_
      refine Tr.aload_n (pc := 77) (i := 0) d_X1_note_77 rfl rfl ?_
      refine Tr.getf (pc := 78) d_X1_note_78 f_1_24 (by decide) (by decide) (ty_56 hS.1.1) ?_
      refine Tr.tp 61 (fx_56_6 hS.1.1) ?_
      refine Tr.iload (pc := 81) (i := 5) d_X1_note_81 rfl ?_
      refine Tr.dup2 (pc := 83) d_X1_note_83 ne01 ne21 ?_
      refine Tr.iald (pc := 84) d_X1_note_84 (ty_61 hS.1.1) (by omega) (by omega) ?_
      refine Tr.gen (P := fun v => (-2147483648) ≤ v ∧ v ≤ 2147483647) (ar_61 hS.1.2.1 _) (fun r84 er84 br84 => ?_)
      refine Tr.iload_n (pc := 85) (i := 2) d_X1_note_85 rfl rfl ?_
      refine Tr.tp 1 (by omega) ?_
      refine Tr.iconst (pc := 86) d_X1_note_86 (by decide) ?_
      refine Tr.icmp_ne (pc := 87) (tgt := 95) d_X1_note_87 rfl (fun _ => ?_) (fun hc => absurd hc (by omega))
      refine Tr.iconst (pc := 95) d_X1_note_95 (by decide) ?_
      refine Tr.iadd (pc := 96) d_X1_note_96 ?_
      refine Tr.tp r84 ((w32_id (by omega)).trans (by omega)) ?_
      refine Tr.iastS (pc := 97) (P := St Rn ws_X1_note_56_w6 as_X1_note_56_w6 M0) d_X1_note_97 (ty_61 hS.1.1) (by omega) (by omega) (sa_61 hS (by decide) (by omega) (Rn.of hS.1.2.2.2.2 (fun _ => rd_wb _ rfl) (rd_wb _ rfl))) (fun M97 hS w97 => ?_)
      refine Tr.aload_n (pc := 98) (i := 0) d_X1_note_98 rfl rfl ?_
      refine Tr.getf (pc := 99) d_X1_note_99 f_1_21 (by decide) (by decide) (ty_56 hS.1.1) ?_
      refine Tr.tp 60 (fx_56_5 hS.1.1) ?_
      refine Tr.iload (pc := 102) (i := 5) d_X1_note_102 rfl ?_
      refine Tr.dup2 (pc := 104) d_X1_note_104 ne01 ne21 ?_
      refine Tr.iald (pc := 105) d_X1_note_105 (ty_60 hS.1.1) (by omega) (by omega) ?_
      refine Tr.gen (P := fun v => (-2147483648) ≤ v ∧ v ≤ 2147483647) (ar_60 hS.1.2.1 _) (fun r105 er105 br105 => ?_)
      refine Tr.iload_n (pc := 106) (i := 2) d_X1_note_106 rfl rfl ?_
      refine Tr.tp 1 (by omega) ?_
      refine Tr.iconst (pc := 107) d_X1_note_107 (by decide) ?_
      refine Tr.icmp_ne (pc := 108) (tgt := 115) d_X1_note_108 rfl (fun _ => ?_) (fun hc => absurd hc (by omega))
      refine Tr.iload (pc := 115) (i := 6) d_X1_note_115 rfl ?_
      refine Tr.iadd (pc := 117) d_X1_note_117 ?_
      refine Tr.gen (P := fun v => (-2147483648) ≤ v ∧ v ≤ 2147483647) (w32_b _) (fun r117 er117 br117 => ?_)
      refine Tr.iastS (pc := 118) (P := St Rn ws_X1_note_56_w6 as_X1_note_56_w6 M0) d_X1_note_118 (ty_60 hS.1.1) (by omega) (by omega) (sa_60 hS (by decide) (by omega) (Rn.of hS.1.2.2.2.2 (fun _ => rd_wb _ rfl) (rd_wb _ rfl))) (fun M118 hS w118 => ?_)
      refine Tr.aload_n (pc := 119) (i := 0) d_X1_note_119 rfl rfl ?_
      refine Tr.getf (pc := 120) d_X1_note_120 f_1_33 (by decide) (by decide) (ty_56 hS.1.1) ?_
      refine Tr.tp 63 (fx_56_8 hS.1.1) ?_
      refine Tr.iload_n (pc := 123) (i := 1) d_X1_note_123 rfl rfl ?_
      refine Tr.iload (pc := 124) (i := 5) d_X1_note_124 rfl ?_
      refine Tr.iload_n (pc := 126) (i := 3) d_X1_note_126 rfl rfl ?_
      refine Tr.iload (pc := 127) (i := 4) d_X1_note_127 rfl ?_
      refine Tr.iload_n (pc := 129) (i := 2) d_X1_note_129 rfl rfl ?_
      refine Tr.tp 1 (by omega) ?_
      refine Tr.iconst (pc := 130) d_X1_note_130 (by decide) ?_
      refine Tr.icmp_ne (pc := 131) (tgt := 138) d_X1_note_131 rfl (fun _ => ?_) (fun hc => absurd hc (by omega))
      refine Tr.iconst (pc := 138) d_X1_note_138 (by decide) ?_
      refine Tr.callV (pc := 139) (as := [_, _, _, _, _]) d_X1_note_139 s_1_74 ok_X8_stayUp rfl rfl (Nat.le_of_ble_eq_true rfl) (Nat.le_of_ble_eq_true rfl) (by decide) (ty_63 hS.1.1) ?_
      refine Tr.imp (Tr.deep (by decide) (sp_X8_stayUp_63_w1 hS.1 a1 (by omega) r37 (by omega) a3 (by omega) a4 (by omega) 0 (by omega))) ?_
      rintro M139 _ ⟨h139, rfl⟩
      have hS := St.tr hS h139 (by decide) (by decide)
      refine Tr.sc [] rfl ?_
      exact Tr.vret (pc := 142) d_X1_note_142 rfl ⟨hS, rfl⟩
  · exact Tr.vret (pc := 6) d_X1_note_6 rfl ⟨hS, rfl⟩

def ws_X1_note_56_w7 : List (Int × Int) := [(63, 0)]
def as_X1_note_56_w7 : List Int := [57, 60, 61, 69, 191]
def q_X1_note_56_w7 (M0 M' : Mem) (r : Option PV) : Prop := St Rn ws_X1_note_56_w7 as_X1_note_56_w7 M0 M' ∧ r = none
set_option maxRecDepth 100000 in
set_option maxHeartbeats 4000000 in
theorem sp_X1_note_56_w7 {l : Launch} {K : EC} {M0 : Mem} (hI : In Rn M0) (en_56_1 : rd M0 56 1 = 27) (a1 : Int) (ha1 : 0 ≤ a1 ∧ a1 ≤ 5) (a2 : Int) (ha2 : 3 ≤ a2 ∧ a2 ≤ 3) (a3 : Int) (ha3 : (-2147483648) ≤ a3 ∧ a3 ≤ 2147483647) (a4 : Int) (ha4 : (-2147483648) ≤ a4 ∧ a4 ≤ 2147483647)  : Tr l K 1 mX1_note 0 [(0, (2, 56)), (1, (0, a1)), (2, (0, a2)), (3, (0, a3)), (4, (0, a4))] [] M0 (q_X1_note_56_w7 M0) := by
  have hS : St Rn ws_X1_note_56_w7 as_X1_note_56_w7 M0 M0 := St.rf hI
  refine Tr.iload_n (pc := 0) (i := 3) d_X1_note_0 rfl rfl ?_
  refine Tr.iload (pc := 1) (i := 4) d_X1_note_1 rfl ?_
  refine Tr.icmp_lt (pc := 3) (tgt := 7) d_X1_note_3 rfl (fun c3 => ?_) (fun c3 => ?_)
  · refine Tr.aload_n (pc := 7) (i := 0) d_X1_note_7 rfl rfl ?_
    refine Tr.getf (pc := 8) d_X1_note_8 f_1_9 (by decide) (by decide) (ty_56 hS.1.1) ?_
    refine Tr.tp 57 (fx_56_2 hS.1.1) ?_
    refine Tr.iload_n (pc := 11) (i := 1) d_X1_note_11 rfl rfl ?_
    refine Tr.iconst (pc := 12) d_X1_note_12 (by decide) ?_
    refine Tr.imul (pc := 13) d_X1_note_13 ?_
    refine Tr.tp (4 * a1) ((w32_id (by omega)).trans (by omega)) ?_
    refine Tr.iload_n (pc := 14) (i := 2) d_X1_note_14 rfl rfl ?_
    refine Tr.tp 3 (by omega) ?_
    refine Tr.iadd (pc := 15) d_X1_note_15 ?_
    refine Tr.tp (4 * a1 + 3) ((w32_id (by omega)).trans (by omega)) ?_
    refine Tr.dup2 (pc := 16) d_X1_note_16 ne01 ne21 ?_
    refine Tr.iald (pc := 17) d_X1_note_17 (ty_57 hS.1.1) (by omega) (by omega) ?_
    refine Tr.gen (P := fun v => (-2147483648) ≤ v ∧ v ≤ 2147483647) (ar_57 hS.1.2.1 _) (fun r17 er17 br17 => ?_)
    refine Tr.iload (pc := 18) (i := 4) d_X1_note_18 rfl ?_
    refine Tr.iload_n (pc := 20) (i := 3) d_X1_note_20 rfl rfl ?_
    refine Tr.isub (pc := 21) d_X1_note_21 ?_
    refine Tr.gen (P := fun v => (-2147483648) ≤ v ∧ v ≤ 2147483647) (w32_b _) (fun r21 er21 br21 => ?_)
    refine Tr.iadd (pc := 22) d_X1_note_22 ?_
    refine Tr.gen (P := fun v => (-2147483648) ≤ v ∧ v ≤ 2147483647) (w32_b _) (fun r22 er22 br22 => ?_)
    refine Tr.iastS (pc := 23) (P := St Rn ws_X1_note_56_w7 as_X1_note_56_w7 M0) d_X1_note_23 (ty_57 hS.1.1) (by omega) (by omega) (sa_57 hS (by decide) (by omega) (Rn.of hS.1.2.2.2.2 (fun _ => rd_wb _ rfl) (rd_wb _ rfl))) (fun M23 hS w23 => ?_)
    refine Tr.aload_n (pc := 24) (i := 0) d_X1_note_24 rfl rfl ?_
    refine Tr.getz (pc := 25) d_X1_note_25 f_1_37 (by decide) (ty_56 hS.1.1) ?_
    refine Tr.tp 1 (fx_56_0 hS.1.1) ?_
    refine Tr.if_ne (pc := 28) (tgt := 32) d_X1_note_28 rfl (fun _ => ?_) (fun hc => absurd hc (by omega))
    refine Tr.aload_n (pc := 32) (i := 0) d_X1_note_32 rfl rfl ?_
    refine Tr.getf (pc := 33) d_X1_note_33 f_1_15 (by decide) (by decide) (ty_56 hS.1.1) ?_
    refine Tr.tp 58 (fx_56_3 hS.1.1) ?_
    refine Tr.iload_n (pc := 36) (i := 1) d_X1_note_36 rfl rfl ?_
    refine Tr.iald (pc := 37) d_X1_note_37 (ty_58 hS.1.1) (by omega) (by omega) ?_
    refine Tr.gen (P := fun v => (-1) ≤ v ∧ v ≤ 59) (ar_58 hS.1.2.1 _) (fun r37 er37 br37 => ?_)
    refine Tr.istore (pc := 38) (i := 5) (ls2 := [(5, (0, r37)), (0, (2, 56)), (1, (0, a1)), (2, (0, a2)), (3, (0, a3)), (4, (0, a4))]) d_X1_note_38 (by decide) rfl ?_
    refine Tr.iload_n (pc := 40) (i := 2) d_X1_note_40 rfl rfl ?_
    refine Tr.tp 3 (by omega) ?_
    refine Tr.if_ne (pc := 41) (tgt := 52) d_X1_note_41 rfl (fun _ => ?_) (fun hc => absurd hc (by omega))
    refine Tr.iload (pc := 52) (i := 5) d_X1_note_52 rfl ?_
    refine Tr.if_lt (pc := 54) (tgt := 142) d_X1_note_54 rfl (fun c54 => ?_) (fun c54 => ?_)
    · exact Tr.vret (pc := 142) d_X1_note_142 rfl ⟨hS, rfl⟩
    · refine Tr.iload (pc := 57) (i := 4) d_X1_note_57 rfl ?_
      refine Tr.iload_n (pc := 59) (i := 3) d_X1_note_59 rfl rfl ?_
      refine Tr.isub (pc := 60) d_X1_note_60 ?_
      refine Tr.gen (P := fun v => (-2147483648) ≤ v ∧ v ≤ 2147483647) (w32_b _) (fun r60 er60 br60 => ?_)
      refine Tr.aload_n (pc := 61) (i := 0) d_X1_note_61 rfl rfl ?_
      refine Tr.getf (pc := 62) d_X1_note_62 f_1_41 (by decide) (by decide) (ty_56 hS.1.1) ?_
      refine Tr.tp 27 ((St.kp hS (by decide) (by decide) (by decide)).trans en_56_1) ?_
      refine Tr.getf (pc := 65) d_X1_note_65 f_1_71 (by decide) (by decide) (ty_27 hS.1.1) ?_
      refine Tr.tp 29 (fx_27_5 hS.1.1) ?_
      refine Tr.iload_n (pc := 68) (i := 1) d_X1_note_68 rfl rfl ?_
      refine Tr.iconst (pc := 69) d_X1_note_69 (by decide) ?_
      refine Tr.imul (pc := 70) d_X1_note_70 ?_
      refine Tr.tp (4 * a1) ((w32_id (by omega)).trans (by omega)) ?_
      refine Tr.iload_n (pc := 71) (i := 2) d_X1_note_71 rfl rfl ?_
      refine Tr.tp 3 (by omega) ?_
      refine Tr.iadd (pc := 72) d_X1_note_72 ?_
      refine Tr.tp (4 * a1 + 3) ((w32_id (by omega)).trans (by omega)) ?_
      refine Tr.iald (pc := 73) d_X1_note_73 (ty_29 hS.1.1) (by omega) (by omega) ?_
      refine Tr.gen (P := fun v => (-1) ≤ v ∧ v ≤ 999) (ar_29 hS.1.2.1 _) (fun r73 er73 br73 => ?_)
      refine Tr.imul (pc := 74) d_X1_note_74 ?_
      refine Tr.gen (P := fun v => (-2147483648) ≤ v ∧ v ≤ 2147483647) (w32_b _) (fun r74 er74 br74 => ?_)
      refine Tr.istore (pc := 75) (i := 6) (ls2 := [(6, (0, r74)), (5, (0, r37)), (0, (2, 56)), (1, (0, a1)), (2, (0, a2)), (3, (0, a3)), (4, (0, a4))]) d_X1_note_75 (by decide) rfl ?_
      refine Tr.aload_n (pc := 77) (i := 0) d_X1_note_77 rfl rfl ?_
      refine Tr.getf (pc := 78) d_X1_note_78 f_1_24 (by decide) (by decide) (ty_56 hS.1.1) ?_
      refine Tr.tp 61 (fx_56_6 hS.1.1) ?_
      refine Tr.iload (pc := 81) (i := 5) d_X1_note_81 rfl ?_
      refine Tr.dup2 (pc := 83) d_X1_note_83 ne01 ne21 ?_
      refine Tr.iald (pc := 84) d_X1_note_84 (ty_61 hS.1.1) (by omega) (by omega) ?_
      refine Tr.gen (P := fun v => (-2147483648) ≤ v ∧ v ≤ 2147483647) (ar_61 hS.1.2.1 _) (fun r84 er84 br84 => ?_)
      refine Tr.iload_n (pc := 85) (i := 2) d_X1_note_85 rfl rfl ?_
      refine Tr.tp 3 (by omega) ?_
      refine Tr.iconst (pc := 86) d_X1_note_86 (by decide) ?_
      refine Tr.icmp_ne (pc := 87) (tgt := 95) d_X1_note_87 rfl (fun _ => ?_) (fun hc => absurd hc (by omega))
      refine Tr.iconst (pc := 95) d_X1_note_95 (by decide) ?_
      refine Tr.iadd (pc := 96) d_X1_note_96 ?_
      refine Tr.tp r84 ((w32_id (by omega)).trans (by omega)) ?_
      refine Tr.iastS (pc := 97) (P := St Rn ws_X1_note_56_w7 as_X1_note_56_w7 M0) d_X1_note_97 (ty_61 hS.1.1) (by omega) (by omega) (sa_61 hS (by decide) (by omega) (Rn.of hS.1.2.2.2.2 (fun _ => rd_wb _ rfl) (rd_wb _ rfl))) (fun M97 hS w97 => ?_)
      refine Tr.aload_n (pc := 98) (i := 0) d_X1_note_98 rfl rfl ?_
      refine Tr.getf (pc := 99) d_X1_note_99 f_1_21 (by decide) (by decide) (ty_56 hS.1.1) ?_
      refine Tr.tp 60 (fx_56_5 hS.1.1) ?_
      refine Tr.iload (pc := 102) (i := 5) d_X1_note_102 rfl ?_
      refine Tr.dup2 (pc := 104) d_X1_note_104 ne01 ne21 ?_
      refine Tr.iald (pc := 105) d_X1_note_105 (ty_60 hS.1.1) (by omega) (by omega) ?_
      refine Tr.gen (P := fun v => (-2147483648) ≤ v ∧ v ≤ 2147483647) (ar_60 hS.1.2.1 _) (fun r105 er105 br105 => ?_)
      refine Tr.iload_n (pc := 106) (i := 2) d_X1_note_106 rfl rfl ?_
      refine Tr.tp 3 (by omega) ?_
      refine Tr.iconst (pc := 107) d_X1_note_107 (by decide) ?_
      refine Tr.icmp_ne (pc := 108) (tgt := 115) d_X1_note_108 rfl (fun _ => ?_) (fun hc => absurd hc (by omega))
      refine Tr.iload (pc := 115) (i := 6) d_X1_note_115 rfl ?_
      refine Tr.iadd (pc := 117) d_X1_note_117 ?_
      refine Tr.gen (P := fun v => (-2147483648) ≤ v ∧ v ≤ 2147483647) (w32_b _) (fun r117 er117 br117 => ?_)
      refine Tr.iastS (pc := 118) (P := St Rn ws_X1_note_56_w7 as_X1_note_56_w7 M0) d_X1_note_118 (ty_60 hS.1.1) (by omega) (by omega) (sa_60 hS (by decide) (by omega) (Rn.of hS.1.2.2.2.2 (fun _ => rd_wb _ rfl) (rd_wb _ rfl))) (fun M118 hS w118 => ?_)
      refine Tr.aload_n (pc := 119) (i := 0) d_X1_note_119 rfl rfl ?_
      refine Tr.getf (pc := 120) d_X1_note_120 f_1_33 (by decide) (by decide) (ty_56 hS.1.1) ?_
      refine Tr.tp 63 (fx_56_8 hS.1.1) ?_
      refine Tr.iload_n (pc := 123) (i := 1) d_X1_note_123 rfl rfl ?_
      refine Tr.iload (pc := 124) (i := 5) d_X1_note_124 rfl ?_
      refine Tr.iload_n (pc := 126) (i := 3) d_X1_note_126 rfl rfl ?_
      refine Tr.iload (pc := 127) (i := 4) d_X1_note_127 rfl ?_
      refine Tr.iload_n (pc := 129) (i := 2) d_X1_note_129 rfl rfl ?_
      refine Tr.tp 3 (by omega) ?_
      refine Tr.iconst (pc := 130) d_X1_note_130 (by decide) ?_
      refine Tr.icmp_ne (pc := 131) (tgt := 138) d_X1_note_131 rfl (fun _ => ?_) (fun hc => absurd hc (by omega))
      refine Tr.iconst (pc := 138) d_X1_note_138 (by decide) ?_
      refine Tr.callV (pc := 139) (as := [_, _, _, _, _]) d_X1_note_139 s_1_74 ok_X8_stayUp rfl rfl (Nat.le_of_ble_eq_true rfl) (Nat.le_of_ble_eq_true rfl) (by decide) (ty_63 hS.1.1) ?_
      refine Tr.imp (Tr.deep (by decide) (sp_X8_stayUp_63_w1 hS.1 a1 (by omega) r37 (by omega) a3 (by omega) a4 (by omega) 0 (by omega))) ?_
      rintro M139 _ ⟨h139, rfl⟩
      have hS := St.tr hS h139 (by decide) (by decide)
      refine Tr.sc [] rfl ?_
      exact Tr.vret (pc := 142) d_X1_note_142 rfl ⟨hS, rfl⟩
  · exact Tr.vret (pc := 6) d_X1_note_6 rfl ⟨hS, rfl⟩

def ws_X6_sipsAt_48_w5 : List (Int × Int) := []
def as_X6_sipsAt_48_w5 : List Int := []
def q_X6_sipsAt_48_w5 (M0 M' : Mem) (r : Option PV) : Prop := St Tru ws_X6_sipsAt_48_w5 as_X6_sipsAt_48_w5 M0 M' ∧ ∃ v : Int, r = some (0, v) ∧ (-2147483648) ≤ v ∧ v ≤ 2147483647
set_option maxRecDepth 100000 in
set_option maxHeartbeats 4000000 in
theorem sp_X6_sipsAt_48_w5 {l : Launch} {K : EC} {M0 : Mem} (hI : In Tru M0) (en_48_1 : rd M0 48 1 = 27) (a1 : Int) (ha1 : (-2147483648) ≤ a1 ∧ a1 ≤ 2147483647) (a2 : Int) (ha2 : 0 ≤ a2 ∧ a2 ≤ 5) (a3 : Int) (ha3 : 3 ≤ a3 ∧ a3 ≤ 3)  : Tr l K 0 mX6_sipsAt 0 [(0, (2, 48)), (1, (0, a1)), (2, (0, a2)), (3, (0, a3))] [] M0 (q_X6_sipsAt_48_w5 M0) := by
  have hS : St Tru ws_X6_sipsAt_48_w5 as_X6_sipsAt_48_w5 M0 M0 := St.rf hI
  refine Tr.aload_n (pc := 0) (i := 0) d_X6_sipsAt_0 rfl rfl ?_
  refine Tr.getf (pc := 1) d_X6_sipsAt_1 f_6_46 (by decide) (by decide) (ty_48 hS.1.1) ?_
  refine Tr.tp 27 ((St.kp hS (by decide) (by decide) (by decide)).trans en_48_1) ?_
  refine Tr.getf (pc := 4) d_X6_sipsAt_4 f_6_135 (by decide) (by decide) (ty_27 hS.1.1) ?_
  refine Tr.gen (P := fun v => (-1) ≤ v ∧ v ≤ 999) (ir_27_0 hS.1.2.1) (fun r4 er4 br4 => ?_)
  refine Tr.istore (pc := 7) (i := 4) (ls2 := [(4, (0, r4)), (0, (2, 48)), (1, (0, a1)), (2, (0, a2)), (3, (0, a3))]) d_X6_sipsAt_7 (by decide) rfl ?_
  refine Tr.iconst (pc := 9) d_X6_sipsAt_9 (by decide) ?_
  refine Tr.istore (pc := 10) (i := 5) (ls2 := [(5, (0, 0)), (4, (0, r4)), (0, (2, 48)), (1, (0, a1)), (2, (0, a2)), (3, (0, a3))]) d_X6_sipsAt_10 (by decide) rfl ?_
  have J12 : ∀ (n12 : Nat) (M : Mem) (p12_4 p12_5 : Int), St Tru ws_X6_sipsAt_48_w5 as_X6_sipsAt_48_w5 M0 M → ((-2147483648) ≤ p12_4 ∧ p12_4 ≤ 2147483647) → (0 ≤ p12_5 ∧ p12_5 ≤ 6) → rd M 27 0 = r4 → (6 - p12_5).toNat < n12 → Tr l K 0 mX6_sipsAt 12 [(0, (2, 48)), (1, (0, a1)), (2, (0, a2)), (3, (0, a3)), (4, (0, p12_4)), (5, (0, p12_5))] [] M (q_X6_sipsAt_48_w5 M0) := by
    intro n12
    induction n12 with
    | zero => intro M p12_4 p12_5 hS bp12_4 bp12_5 k12_27_0 hm12; exact absurd hm12 (Nat.not_lt_zero _)
    | succ n12 J12 =>
      intro M p12_4 p12_5 hS bp12_4 bp12_5 k12_27_0 hm12
      refine Tr.iload (pc := 12) (i := 5) d_X6_sipsAt_12 rfl ?_
      refine Tr.aload_n (pc := 14) (i := 0) d_X6_sipsAt_14 rfl rfl ?_
      refine Tr.getf (pc := 15) d_X6_sipsAt_15 f_6_46 (by decide) (by decide) (ty_48 hS.1.1) ?_
      refine Tr.tp 27 ((St.kp hS (by decide) (by decide) (by decide)).trans en_48_1) ?_
      refine Tr.getf (pc := 18) d_X6_sipsAt_18 f_6_116 (by decide) (by decide) (ty_27 hS.1.1) ?_
      refine Tr.tp 28 (fx_27_4 hS.1.1) ?_
      refine Tr.iconst (pc := 21) d_X6_sipsAt_21 (by decide) ?_
      refine Tr.iald (pc := 22) d_X6_sipsAt_22 (ty_28 hS.1.1) (by omega) (by omega) ?_
      refine Tr.gen (P := fun v => 0 ≤ v ∧ v ≤ 6) (ir_28_0 hS.1.2.1) (fun r22 er22 br22 => ?_)
      refine Tr.icmp_ge (pc := 23) (tgt := 91) d_X6_sipsAt_23 rfl (fun c23 => ?_) (fun c23 => ?_)
      · refine Tr.iload (pc := 91) (i := 4) d_X6_sipsAt_91 rfl ?_
        exact Tr.iret (pc := 93) d_X6_sipsAt_93 rfl ⟨hS, _, rfl, by omega, by omega⟩
      · refine Tr.aload_n (pc := 26) (i := 0) d_X6_sipsAt_26 rfl rfl ?_
        refine Tr.getf (pc := 27) d_X6_sipsAt_27 f_6_24 (by decide) (by decide) (ty_48 hS.1.1) ?_
        refine Tr.tp 53 (fx_48_6 hS.1.1) ?_
        refine Tr.iload (pc := 30) (i := 5) d_X6_sipsAt_30 rfl ?_
        refine Tr.iald (pc := 32) d_X6_sipsAt_32 (ty_53 hS.1.1) (by omega) (by omega) ?_
        refine Tr.gen (P := fun v => 0 ≤ v ∧ v ≤ 1) (ar_53 hS.1.2.1 _) (fun r32 er32 br32 => ?_)
        refine Tr.iconst (pc := 33) d_X6_sipsAt_33 (by decide) ?_
        have J53 : ∀ (M : Mem) (q53_0 : Int), St Tru ws_X6_sipsAt_48_w5 as_X6_sipsAt_48_w5 M0 M → (0 ≤ q53_0 ∧ q53_0 ≤ 2) → rd M 27 0 = r4 → rd M 28 0 = r22 → rd M 53 p12_5 = r32 → Tr l K 0 mX6_sipsAt 53 [(0, (2, 48)), (1, (0, a1)), (2, (0, a2)), (3, (0, a3)), (4, (0, p12_4)), (5, (0, p12_5))] [(0, q53_0)] M (q_X6_sipsAt_48_w5 M0) := by
          intro M q53_0 hS bq53_0 k53_27_0 k53_28_0 k53_53_p12_510
          refine Tr.istore (pc := 53) (i := 6) (ls2 := [(6, (0, q53_0)), (0, (2, 48)), (1, (0, a1)), (2, (0, a2)), (3, (0, a3)), (4, (0, p12_4)), (5, (0, p12_5))]) d_X6_sipsAt_53 (by decide) rfl ?_
          refine Tr.iload (pc := 55) (i := 4) d_X6_sipsAt_55 rfl ?_
          refine Tr.aload_n (pc := 57) (i := 0) d_X6_sipsAt_57 rfl rfl ?_
          refine Tr.getf (pc := 58) d_X6_sipsAt_58 f_6_46 (by decide) (by decide) (ty_48 hS.1.1) ?_
          refine Tr.tp 27 ((St.kp hS (by decide) (by decide) (by decide)).trans en_48_1) ?_
          refine Tr.getf (pc := 61) d_X6_sipsAt_61 f_6_189 (by decide) (by decide) (ty_27 hS.1.1) ?_
          refine Tr.tp 29 (fx_27_5 hS.1.1) ?_
          refine Tr.iload (pc := 64) (i := 5) d_X6_sipsAt_64 rfl ?_
          refine Tr.iconst (pc := 66) d_X6_sipsAt_66 (by decide) ?_
          refine Tr.imul (pc := 67) d_X6_sipsAt_67 ?_
          refine Tr.tp (4 * p12_5) ((w32_id (by omega)).trans (by omega)) ?_
          refine Tr.iload (pc := 68) (i := 5) d_X6_sipsAt_68 rfl ?_
          refine Tr.iload_n (pc := 70) (i := 2) d_X6_sipsAt_70 rfl rfl ?_
          have J80 : ∀ (M : Mem) (q80_3 : Int), St Tru ws_X6_sipsAt_48_w5 as_X6_sipsAt_48_w5 M0 M → (0 ≤ q80_3 ∧ q80_3 ≤ 3) → rd M 27 0 = r4 → rd M 28 0 = r22 → rd M 53 p12_5 = r32 → Tr l K 0 mX6_sipsAt 80 [(0, (2, 48)), (1, (0, a1)), (2, (0, a2)), (3, (0, a3)), (5, (0, p12_5))] [(0, q80_3), (0, (4 * p12_5)), (2, 29), (0, p12_4)] M (q_X6_sipsAt_48_w5 M0) := by
            intro M q80_3 hS bq80_3 k80_27_0 k80_28_0 k80_53_p12_510
            refine Tr.iadd (pc := 80) d_X6_sipsAt_80 ?_
            refine Tr.tp (4 * p12_5 + q80_3) ((w32_id (by omega)).trans (by omega)) ?_
            refine Tr.iald (pc := 81) d_X6_sipsAt_81 (ty_29 hS.1.1) (by omega) (by omega) ?_
            refine Tr.gen (P := fun v => (-1) ≤ v ∧ v ≤ 999) (ar_29 hS.1.2.1 _) (fun r81 er81 br81 => ?_)
            refine Tr.iadd (pc := 82) d_X6_sipsAt_82 ?_
            refine Tr.gen (P := fun v => (-2147483648) ≤ v ∧ v ≤ 2147483647) (w32_b _) (fun r82 er82 br82 => ?_)
            refine Tr.istore (pc := 83) (i := 4) (ls2 := [(4, (0, r82)), (0, (2, 48)), (1, (0, a1)), (2, (0, a2)), (3, (0, a3)), (5, (0, p12_5))]) d_X6_sipsAt_83 (by decide) rfl ?_
            refine Tr.iincV (pc := 85) (n2 := (p12_5 + 1)) (ls2 := [(5, (0, (p12_5 + 1))), (4, (0, r82)), (0, (2, 48)), (1, (0, a1)), (2, (0, a2)), (3, (0, a3))]) d_X6_sipsAt_85 rfl (by decide) ((w32_id (by omega)).trans (by omega)) rfl ?_
            refine Tr.goto (pc := 88) (tgt := 12) d_X6_sipsAt_88 rfl ?_
            refine Tr.pick [2, 3, 4, 5, 1, 0] (ls2 := [(0, (2, 48)), (1, (0, a1)), (2, (0, a2)), (3, (0, a3)), (4, (0, r82)), (5, (0, (p12_5 + 1)))]) rfl ?_
            exact J12 _ _ _ hS (by omega) (by omega) k80_27_0 (by omega)
          refine Tr.icmp_ne (pc := 71) (tgt := 78) d_X6_sipsAt_71 rfl (fun c71 => ?_) (fun c71 => ?_)
          · refine Tr.iload (pc := 78) (i := 6) d_X6_sipsAt_78 rfl ?_
            refine Tr.pick [1, 2, 3, 4, 6] (ls2 := [(0, (2, 48)), (1, (0, a1)), (2, (0, a2)), (3, (0, a3)), (5, (0, p12_5))]) rfl ?_
            exact J80 _ _ hS (by omega) k53_27_0 k53_28_0 k53_53_p12_510
          · refine Tr.iload_n (pc := 74) (i := 3) d_X6_sipsAt_74 rfl rfl ?_
            refine Tr.tp 3 (by omega) ?_
            refine Tr.goto (pc := 75) (tgt := 80) d_X6_sipsAt_75 rfl ?_
            refine Tr.pick [1, 2, 3, 4, 6] (ls2 := [(0, (2, 48)), (1, (0, a1)), (2, (0, a2)), (3, (0, a3)), (5, (0, p12_5))]) rfl ?_
            exact J80 _ _ hS (by omega) k53_27_0 k53_28_0 k53_53_p12_510
        have J48 : ∀ (M : Mem), St Tru ws_X6_sipsAt_48_w5 as_X6_sipsAt_48_w5 M0 M → rd M 27 0 = r4 → rd M 28 0 = r22 → rd M 53 p12_5 = r32 → Tr l K 0 mX6_sipsAt 48 [(0, (2, 48)), (1, (0, a1)), (2, (0, a2)), (3, (0, a3)), (4, (0, p12_4)), (5, (0, p12_5))] [] M (q_X6_sipsAt_48_w5 M0) := by
          intro M  hS  k48_27_0 k48_28_0 k48_53_p12_510
          refine Tr.iconst (pc := 48) d_X6_sipsAt_48 (by decide) ?_
          refine Tr.goto (pc := 49) (tgt := 53) d_X6_sipsAt_49 rfl ?_
          refine Tr.pick [0, 1, 2, 3, 4, 5] (ls2 := [(0, (2, 48)), (1, (0, a1)), (2, (0, a2)), (3, (0, a3)), (4, (0, p12_4)), (5, (0, p12_5))]) rfl ?_
          exact J53 _ _ hS (by omega) k48_27_0 k48_28_0 k48_53_p12_510
        refine Tr.icmp_eq (pc := 34) (tgt := 48) d_X6_sipsAt_34 rfl (fun c34 => ?_) (fun c34 => ?_)
        · refine Tr.pick [0, 1, 2, 3, 4, 5] (ls2 := [(0, (2, 48)), (1, (0, a1)), (2, (0, a2)), (3, (0, a3)), (4, (0, p12_4)), (5, (0, p12_5))]) rfl ?_
          exact J48 _ hS k12_27_0 er22 er32
        · refine Tr.iload_n (pc := 37) (i := 1) d_X6_sipsAt_37 rfl rfl ?_
          refine Tr.aload_n (pc := 38) (i := 0) d_X6_sipsAt_38 rfl rfl ?_
          refine Tr.getf (pc := 39) d_X6_sipsAt_39 f_6_27 (by decide) (by decide) (ty_48 hS.1.1) ?_
          refine Tr.tp 54 (fx_48_7 hS.1.1) ?_
          refine Tr.iload (pc := 42) (i := 5) d_X6_sipsAt_42 rfl ?_
          refine Tr.iald (pc := 44) d_X6_sipsAt_44 (ty_54 hS.1.1) (by omega) (by omega) ?_
          refine Tr.gen (P := fun v => (-2147483648) ≤ v ∧ v ≤ 2147483647) (ar_54 hS.1.2.1 _) (fun r44 er44 br44 => ?_)
          refine Tr.icmp_ge (pc := 45) (tgt := 52) d_X6_sipsAt_45 rfl (fun c45 => ?_) (fun c45 => ?_)
          · refine Tr.iconst (pc := 52) d_X6_sipsAt_52 (by decide) ?_
            refine Tr.pick [0, 1, 2, 3, 4, 5] (ls2 := [(0, (2, 48)), (1, (0, a1)), (2, (0, a2)), (3, (0, a3)), (4, (0, p12_4)), (5, (0, p12_5))]) rfl ?_
            exact J53 _ _ hS (by omega) k12_27_0 er22 er32
          · refine Tr.pick [0, 1, 2, 3, 4, 5] (ls2 := [(0, (2, 48)), (1, (0, a1)), (2, (0, a2)), (3, (0, a3)), (4, (0, p12_4)), (5, (0, p12_5))]) rfl ?_
            exact J48 _ hS k12_27_0 er22 er32
  refine Tr.pick [2, 3, 4, 5, 1, 0] (ls2 := [(0, (2, 48)), (1, (0, a1)), (2, (0, a2)), (3, (0, a3)), (4, (0, r4)), (5, (0, 0))]) rfl ?_
  exact J12 _ _ _ _ hS (by omega) (by omega) er4 (Nat.lt_succ_self _)

def ws_X6_afforded_48_w9 : List (Int × Int) := [(48, 17)]
def as_X6_afforded_48_w9 : List Int := []
def q_X6_afforded_48_w9 (M0 M' : Mem) (r : Option PV) : Prop := St Tru ws_X6_afforded_48_w9 as_X6_afforded_48_w9 M0 M' ∧ ∃ v : Int, r = some (0, v) ∧ (-2147483648) ≤ v ∧ v ≤ 50
set_option maxRecDepth 100000 in
set_option maxHeartbeats 4000000 in
theorem sp_X6_afforded_48_w9 {l : Launch} {K : EC} {M0 : Mem} (hI : In Tru M0) (en_48_1 : rd M0 48 1 = 27) (a1 : Int) (ha1 : (-2147483648) ≤ a1 ∧ a1 ≤ 50) (a2 : Int) (ha2 : 0 ≤ a2 ∧ a2 ≤ 5) (a3 : Int) (ha3 : 3 ≤ a3 ∧ a3 ≤ 3)  : Tr l K 1 mX6_afforded 0 [(0, (2, 48)), (1, (0, a1)), (2, (0, a2)), (3, (0, a3))] [] M0 (q_X6_afforded_48_w9 M0) := by
  have hS : St Tru ws_X6_afforded_48_w9 as_X6_afforded_48_w9 M0 M0 := St.rf hI
  refine Tr.iconst (pc := 0) d_X6_afforded_0 (by decide) ?_
  refine Tr.istore (pc := 1) (i := 4) (ls2 := [(4, (0, 0)), (0, (2, 48)), (1, (0, a1)), (2, (0, a2)), (3, (0, a3))]) d_X6_afforded_1 (by decide) rfl ?_
  have J3 : ∀ (n3 : Nat) (M : Mem) (p3_4 : Int), St Tru ws_X6_afforded_48_w9 as_X6_afforded_48_w9 M0 M → (0 ≤ p3_4 ∧ p3_4 ≤ 50) → (50 - p3_4).toNat < n3 → Tr l K 1 mX6_afforded 3 [(0, (2, 48)), (1, (0, a1)), (2, (0, a2)), (3, (0, a3)), (4, (0, p3_4))] [] M (q_X6_afforded_48_w9 M0) := by
    intro n3
    induction n3 with
    | zero => intro M p3_4 hS bp3_4  hm3; exact absurd hm3 (Nat.not_lt_zero _)
    | succ n3 J3 =>
      intro M p3_4 hS bp3_4  hm3
      refine Tr.iload (pc := 3) (i := 4) d_X6_afforded_3 rfl ?_
      refine Tr.iload_n (pc := 5) (i := 1) d_X6_afforded_5 rfl rfl ?_
      refine Tr.icmp_ge (pc := 6) (tgt := 53) d_X6_afforded_6 rfl (fun c6 => ?_) (fun c6 => ?_)
      · refine Tr.iload_n (pc := 53) (i := 1) d_X6_afforded_53 rfl rfl ?_
        exact Tr.iret (pc := 54) d_X6_afforded_54 rfl ⟨hS, _, rfl, by omega, by omega⟩
      · refine Tr.aload_n (pc := 9) (i := 0) d_X6_afforded_9 rfl rfl ?_
        refine Tr.aload_n (pc := 10) (i := 0) d_X6_afforded_10 rfl rfl ?_
        refine Tr.getf (pc := 11) d_X6_afforded_11 f_6_68 (by decide) (by decide) (ty_48 hS.1.1) ?_
        refine Tr.gen (P := fun v => (-2147483648) ≤ v ∧ v ≤ 2147483647) (ir_48_9 hS.1.2.1) (fun r11 er11 br11 => ?_)
        refine Tr.iload (pc := 14) (i := 4) d_X6_afforded_14 rfl ?_
        refine Tr.iadd (pc := 16) d_X6_afforded_16 ?_
        refine Tr.gen (P := fun v => (-2147483648) ≤ v ∧ v ≤ 2147483647) (w32_b _) (fun r16 er16 br16 => ?_)
        refine Tr.iload_n (pc := 17) (i := 2) d_X6_afforded_17 rfl rfl ?_
        refine Tr.iload_n (pc := 18) (i := 3) d_X6_afforded_18 rfl rfl ?_
        refine Tr.tp 3 (by omega) ?_
        refine Tr.callV (pc := 19) (as := [_, _, _]) d_X6_afforded_19 s_6_186 ok_X6_sipsAt rfl rfl (Nat.le_of_ble_eq_true rfl) (Nat.le_of_ble_eq_true rfl) (by decide) (ty_48 hS.1.1) ?_
        refine Tr.imp (Tr.deep (by decide) (sp_X6_sipsAt_48_w5 hS.1 ((St.kp hS (by decide) (by decide) (by decide)).trans en_48_1) r16 (by omega) a2 (by omega) 3 (by omega))) ?_
        rintro M19 _ ⟨h19, r19, rfl, lr19, ur19⟩
        have hS := St.tr hS h19 (by decide) (by decide)
        refine Tr.sc [(0, r19)] rfl ?_
        refine Tr.istore (pc := 22) (i := 5) (ls2 := [(5, (0, r19)), (0, (2, 48)), (1, (0, a1)), (2, (0, a2)), (3, (0, a3)), (4, (0, p3_4))]) d_X6_afforded_22 (by decide) rfl ?_
        refine Tr.iload (pc := 24) (i := 5) d_X6_afforded_24 rfl ?_
        refine Tr.aload_n (pc := 26) (i := 0) d_X6_afforded_26 rfl rfl ?_
        refine Tr.getf (pc := 27) d_X6_afforded_27 f_6_110 (by decide) (by decide) (ty_48 hS.1.1) ?_
        refine Tr.gen (P := fun v => (-2147483648) ≤ v ∧ v ≤ 2147483647) (ir_48_17 hS.1.2.1) (fun r27 er27 br27 => ?_)
        refine Tr.icmp_le (pc := 30) (tgt := 36) d_X6_afforded_30 rfl (fun c30 => ?_) (fun c30 => ?_)
        · refine Tr.aload_n (pc := 36) (i := 0) d_X6_afforded_36 rfl rfl ?_
          refine Tr.dup (pc := 37) d_X6_afforded_37 ne21 ?_
          refine Tr.getf (pc := 38) d_X6_afforded_38 f_6_110 (by decide) (by decide) (ty_48 hS.1.1) ?_
          refine Tr.tp r27 er27 ?_
          refine Tr.iload (pc := 41) (i := 5) d_X6_afforded_41 rfl ?_
          refine Tr.isub (pc := 43) d_X6_afforded_43 ?_
          refine Tr.gen (P := fun v => (-2147483648) ≤ v ∧ v ≤ 2147483647) (w32_b _) (fun r43 er43 br43 => ?_)
          refine Tr.putfS (pc := 44) (P := St Tru ws_X6_afforded_48_w9 as_X6_afforded_48_w9 M0) d_X6_afforded_44 f_6_110 (by decide) (by decide) (ty_48 hS.1.1) (st_48_17 hS (by decide) (by omega) trivial) (fun M44 hS w44 => ?_)
          refine Tr.iincV (pc := 47) (n2 := (p3_4 + 1)) (ls2 := [(4, (0, (p3_4 + 1))), (5, (0, r19)), (0, (2, 48)), (1, (0, a1)), (2, (0, a2)), (3, (0, a3))]) d_X6_afforded_47 rfl (by decide) ((w32_id (by omega)).trans (by omega)) rfl ?_
          refine Tr.goto (pc := 50) (tgt := 3) d_X6_afforded_50 rfl ?_
          refine Tr.pick [2, 3, 4, 5, 0] (ls2 := [(0, (2, 48)), (1, (0, a1)), (2, (0, a2)), (3, (0, a3)), (4, (0, (p3_4 + 1)))]) rfl ?_
          exact J3 _ _ hS (by omega) (by omega)
        · refine Tr.iload (pc := 33) (i := 4) d_X6_afforded_33 rfl ?_
          exact Tr.iret (pc := 35) d_X6_afforded_35 rfl ⟨hS, _, rfl, by omega, by omega⟩
  refine Tr.pick [1, 2, 3, 4, 0] (ls2 := [(0, (2, 48)), (1, (0, a1)), (2, (0, a2)), (3, (0, a3)), (4, (0, 0))]) rfl ?_
  exact J3 _ _ _ hS (by omega) (Nat.lt_succ_self _)

def ws_X6_pass_48_w9 : List (Int × Int) := [(48, 9), (48, 14), (48, 17)]
def as_X6_pass_48_w9 : List Int := []
def q_X6_pass_48_w9 (M0 M' : Mem) (r : Option PV) : Prop := St Tru ws_X6_pass_48_w9 as_X6_pass_48_w9 M0 M' ∧ ∃ v : Int, r = some (0, v) ∧ (-2147483648) ≤ v ∧ v ≤ 50
set_option maxRecDepth 100000 in
set_option maxHeartbeats 4000000 in
theorem sp_X6_pass_48_w9 {l : Launch} {K : EC} {M0 : Mem} (hI : In Tru M0) (en_48_1 : rd M0 48 1 = 27) (a1 : Int) (ha1 : 0 ≤ a1 ∧ a1 ≤ 50) (a2 : Int) (ha2 : 0 ≤ a2 ∧ a2 ≤ 5) (a3 : Int) (ha3 : 3 ≤ a3 ∧ a3 ≤ 3)  : Tr l K 2 mX6_pass 0 [(0, (2, 48)), (1, (0, a1)), (2, (0, a2)), (3, (0, a3))] [] M0 (q_X6_pass_48_w9 M0) := by
  have hS : St Tru ws_X6_pass_48_w9 as_X6_pass_48_w9 M0 M0 := St.rf hI
  refine Tr.iload_n (pc := 0) (i := 1) d_X6_pass_0 rfl rfl ?_
  refine Tr.sipush (pc := 1) d_X6_pass_1 rfl (by decide) ?_
  refine Tr.aload_n (pc := 4) (i := 0) d_X6_pass_4 rfl rfl ?_
  refine Tr.getf (pc := 5) d_X6_pass_5 f_6_68 (by decide) (by decide) (ty_48 hS.1.1) ?_
  refine Tr.gen (P := fun v => (-2147483648) ≤ v ∧ v ≤ 2147483647) (ir_48_9 hS.1.2.1) (fun r5 er5 br5 => ?_)
  refine Tr.isub (pc := 8) d_X6_pass_8 ?_
  refine Tr.gen (P := fun v => (-2147483648) ≤ v ∧ v ≤ 2147483647) (w32_b _) (fun r8 er8 br8 => ?_)
  refine Tr.mmin (pc := 9) d_X6_pass_9 ml_6_158 mw_mmin (Nat.le_of_ble_eq_true rfl) ?_
  refine Tr.gen (P := fun v => (v = a1 ∧ a1 ≤ r8) ∨ (v = r8 ∧ r8 ≤ a1)) (f_min_p _ _) (fun r9 er9 br9 => ?_)
  refine Tr.istore (pc := 12) (i := 4) (ls2 := [(4, (0, r9)), (0, (2, 48)), (1, (0, a1)), (2, (0, a2)), (3, (0, a3))]) d_X6_pass_12 (by decide) rfl ?_
  refine Tr.aload_n (pc := 14) (i := 0) d_X6_pass_14 rfl rfl ?_
  refine Tr.getz (pc := 15) d_X6_pass_15 f_6_106 (by decide) (ty_48 hS.1.1) ?_
  refine Tr.gen (P := fun v => 0 ≤ v ∧ v ≤ 1) (ir_48_16 hS.1.2.1) (fun r15 er15 br15 => ?_)
  have J34 : ∀ (M : Mem) (q34_0 : Int), St Tru ws_X6_pass_48_w9 as_X6_pass_48_w9 M0 M → ((-2147483648) ≤ q34_0 ∧ q34_0 ≤ 50) → rd M 48 16 = r15 → rd M 48 9 = r5 → Tr l K 2 mX6_pass 34 [(0, (2, 48)), (1, (0, a1)), (4, (0, r9))] [(0, q34_0)] M (q_X6_pass_48_w9 M0) := by
    intro M q34_0 hS bq34_0 k34_48_16 k34_48_9
    refine Tr.istore (pc := 34) (i := 5) (ls2 := [(5, (0, q34_0)), (0, (2, 48)), (1, (0, a1)), (4, (0, r9))]) d_X6_pass_34 (by decide) rfl ?_
    refine Tr.aload_n (pc := 36) (i := 0) d_X6_pass_36 rfl rfl ?_
    refine Tr.dup (pc := 37) d_X6_pass_37 ne21 ?_
    refine Tr.getf (pc := 38) d_X6_pass_38 f_6_68 (by decide) (by decide) (ty_48 hS.1.1) ?_
    refine Tr.tp r5 k34_48_9 ?_
    refine Tr.iload (pc := 41) (i := 5) d_X6_pass_41 rfl ?_
    refine Tr.iadd (pc := 43) d_X6_pass_43 ?_
    refine Tr.gen (P := fun v => (-2147483648) ≤ v ∧ v ≤ 2147483647) (w32_b _) (fun r43 er43 br43 => ?_)
    refine Tr.putfS (pc := 44) (P := St Tru ws_X6_pass_48_w9 as_X6_pass_48_w9 M0) d_X6_pass_44 f_6_68 (by decide) (by decide) (ty_48 hS.1.1) (st_48_9 hS (by decide) (by omega) trivial) (fun M44 hS w44 => ?_)
    refine Tr.iload (pc := 47) (i := 5) d_X6_pass_47 rfl ?_
    refine Tr.iload_n (pc := 49) (i := 1) d_X6_pass_49 rfl rfl ?_
    refine Tr.icmp_ge (pc := 50) (tgt := 69) d_X6_pass_50 rfl (fun c50 => ?_) (fun c50 => ?_)
    · refine Tr.iload (pc := 69) (i := 5) d_X6_pass_69 rfl ?_
      exact Tr.iret (pc := 71) d_X6_pass_71 rfl ⟨hS, _, rfl, by omega, by omega⟩
    · refine Tr.aload_n (pc := 53) (i := 0) d_X6_pass_53 rfl rfl ?_
      refine Tr.iload (pc := 54) (i := 5) d_X6_pass_54 rfl ?_
      refine Tr.iload (pc := 56) (i := 4) d_X6_pass_56 rfl ?_
      refine Tr.icmp_ne (pc := 58) (tgt := 65) d_X6_pass_58 rfl (fun c58 => ?_) (fun c58 => ?_)
      · refine Tr.iconst (pc := 65) d_X6_pass_65 (by decide) ?_
        refine Tr.putfS (pc := 66) (P := St Tru ws_X6_pass_48_w9 as_X6_pass_48_w9 M0) d_X6_pass_66 f_6_62 (by decide) (by decide) (ty_48 hS.1.1) (st_48_14 hS (by decide) (by omega) trivial) (fun M66 hS w66 => ?_)
        refine Tr.iload (pc := 69) (i := 5) d_X6_pass_69 rfl ?_
        exact Tr.iret (pc := 71) d_X6_pass_71 rfl ⟨hS, _, rfl, by omega, by omega⟩
      · refine Tr.iconst (pc := 61) d_X6_pass_61 (by decide) ?_
        refine Tr.goto (pc := 62) (tgt := 66) d_X6_pass_62 rfl ?_
        refine Tr.putfS (pc := 66) (P := St Tru ws_X6_pass_48_w9 as_X6_pass_48_w9 M0) d_X6_pass_66 f_6_62 (by decide) (by decide) (ty_48 hS.1.1) (st_48_14 hS (by decide) (by omega) trivial) (fun M66 hS w66 => ?_)
        refine Tr.iload (pc := 69) (i := 5) d_X6_pass_69 rfl ?_
        exact Tr.iret (pc := 71) d_X6_pass_71 rfl ⟨hS, _, rfl, by omega, by omega⟩
  refine Tr.if_eq (pc := 18) (tgt := 32) d_X6_pass_18 rfl (fun c18 => ?_) (fun c18 => ?_)
  · refine Tr.iload (pc := 32) (i := 4) d_X6_pass_32 rfl ?_
    refine Tr.pick [1, 2, 0] (ls2 := [(0, (2, 48)), (1, (0, a1)), (4, (0, r9))]) rfl ?_
    exact J34 _ _ hS (by omega) er15 er5
  · refine Tr.aload_n (pc := 21) (i := 0) d_X6_pass_21 rfl rfl ?_
    refine Tr.iload (pc := 22) (i := 4) d_X6_pass_22 rfl ?_
    refine Tr.iload_n (pc := 24) (i := 2) d_X6_pass_24 rfl rfl ?_
    refine Tr.iload_n (pc := 25) (i := 3) d_X6_pass_25 rfl rfl ?_
    refine Tr.tp 3 (by omega) ?_
    refine Tr.callV (pc := 26) (as := [_, _, _]) d_X6_pass_26 s_6_183 ok_X6_afforded rfl rfl (Nat.le_of_ble_eq_true rfl) (Nat.le_of_ble_eq_true rfl) (by decide) (ty_48 hS.1.1) ?_
    refine Tr.imp (Tr.deep (by decide) (sp_X6_afforded_48_w9 hS.1 ((St.kp hS (by decide) (by decide) (by decide)).trans en_48_1) r9 (by omega) a2 (by omega) 3 (by omega))) ?_
    rintro M26 _ ⟨h26, r26, rfl, lr26, ur26⟩
    have hS := St.tr hS h26 (by decide) (by decide)
    refine Tr.sc [(0, r26)] rfl ?_
    refine Tr.goto (pc := 29) (tgt := 34) d_X6_pass_29 rfl ?_
    refine Tr.pick [1, 2, 0] (ls2 := [(0, (2, 48)), (1, (0, a1)), (4, (0, r9))]) rfl ?_
    exact J34 _ _ hS (by omega) ((St.kp h26 (by decide) (by decide) (by decide)).trans er15) ((St.kp h26 (by decide) (by decide) (by decide)).trans er5)

def ws_X1_sippedByParts_56_w1 : List (Int × Int) := []
def as_X1_sippedByParts_56_w1 : List Int := []
def q_X1_sippedByParts_56_w1 (M0 M' : Mem) (r : Option PV) : Prop := St Tru ws_X1_sippedByParts_56_w1 as_X1_sippedByParts_56_w1 M0 M' ∧ ∃ v : Int, r = some (0, v) ∧ (-2147483648) ≤ v ∧ v ≤ 2147483647
set_option maxRecDepth 100000 in
set_option maxHeartbeats 4000000 in
theorem sp_X1_sippedByParts_56_w1 {l : Launch} {K : EC} {M0 : Mem} (hI : In Tru M0) (en_56_1 : rd M0 56 1 = 27)   : Tr l K 0 mX1_sippedByParts 0 [(0, (2, 56))] [] M0 (q_X1_sippedByParts_56_w1 M0) := by
  have hS : St Tru ws_X1_sippedByParts_56_w1 as_X1_sippedByParts_56_w1 M0 M0 := St.rf hI
  refine Tr.iconst (pc := 0) d_X1_sippedByParts_0 (by decide) ?_
  refine Tr.istore_n (pc := 1) (i := 1) (ls2 := [(1, (0, 0)), (0, (2, 56))]) d_X1_sippedByParts_1 rfl (by decide) rfl ?_
  refine Tr.iconst (pc := 2) d_X1_sippedByParts_2 (by decide) ?_
  refine Tr.istore_n (pc := 3) (i := 2) (ls2 := [(2, (0, 0)), (1, (0, 0)), (0, (2, 56))]) d_X1_sippedByParts_3 rfl (by decide) rfl ?_
  have J4 : ∀ (n4 : Nat) (M : Mem) (p4_1 p4_2 : Int), St Tru ws_X1_sippedByParts_56_w1 as_X1_sippedByParts_56_w1 M0 M → ((-2147483648) ≤ p4_1 ∧ p4_1 ≤ 2147483647) → (0 ≤ p4_2 ∧ p4_2 ≤ 24) → (24 - p4_2).toNat < n4 → Tr l K 0 mX1_sippedByParts 4 [(0, (2, 56)), (1, (0, p4_1)), (2, (0, p4_2))] [] M (q_X1_sippedByParts_56_w1 M0) := by
    intro n4
    induction n4 with
    | zero => intro M p4_1 p4_2 hS bp4_1 bp4_2  hm4; exact absurd hm4 (Nat.not_lt_zero _)
    | succ n4 J4 =>
      intro M p4_1 p4_2 hS bp4_1 bp4_2  hm4
      refine Tr.iload_n (pc := 4) (i := 2) d_X1_sippedByParts_4 rfl rfl ?_
      refine Tr.aload_n (pc := 5) (i := 0) d_X1_sippedByParts_5 rfl rfl ?_
      refine Tr.getf (pc := 6) d_X1_sippedByParts_6 f_1_41 (by decide) (by decide) (ty_56 hS.1.1) ?_
      refine Tr.tp 27 ((St.kp hS (by decide) (by decide) (by decide)).trans en_56_1) ?_
      refine Tr.getf (pc := 9) d_X1_sippedByParts_9 f_1_91 (by decide) (by decide) (ty_27 hS.1.1) ?_
      refine Tr.tp 28 (fx_27_4 hS.1.1) ?_
      refine Tr.iconst (pc := 12) d_X1_sippedByParts_12 (by decide) ?_
      refine Tr.iald (pc := 13) d_X1_sippedByParts_13 (ty_28 hS.1.1) (by omega) (by omega) ?_
      refine Tr.gen (P := fun v => 0 ≤ v ∧ v ≤ 6) (ir_28_0 hS.1.2.1) (fun r13 er13 br13 => ?_)
      refine Tr.iconst (pc := 14) d_X1_sippedByParts_14 (by decide) ?_
      refine Tr.imul (pc := 15) d_X1_sippedByParts_15 ?_
      refine Tr.tp (4 * r13) ((w32_id (by omega)).trans (by omega)) ?_
      refine Tr.icmp_ge (pc := 16) (tgt := 44) d_X1_sippedByParts_16 rfl (fun c16 => ?_) (fun c16 => ?_)
      · refine Tr.iload_n (pc := 44) (i := 1) d_X1_sippedByParts_44 rfl rfl ?_
        exact Tr.iret (pc := 45) d_X1_sippedByParts_45 rfl ⟨hS, _, rfl, by omega, by omega⟩
      · refine Tr.iload_n (pc := 19) (i := 1) d_X1_sippedByParts_19 rfl rfl ?_
        refine Tr.aload_n (pc := 20) (i := 0) d_X1_sippedByParts_20 rfl rfl ?_
        refine Tr.getf (pc := 21) d_X1_sippedByParts_21 f_1_9 (by decide) (by decide) (ty_56 hS.1.1) ?_
        refine Tr.tp 57 (fx_56_2 hS.1.1) ?_
        refine Tr.iload_n (pc := 24) (i := 2) d_X1_sippedByParts_24 rfl rfl ?_
        refine Tr.iald (pc := 25) d_X1_sippedByParts_25 (ty_57 hS.1.1) (by omega) (by omega) ?_
        refine Tr.gen (P := fun v => (-2147483648) ≤ v ∧ v ≤ 2147483647) (ar_57 hS.1.2.1 _) (fun r25 er25 br25 => ?_)
        refine Tr.aload_n (pc := 26) (i := 0) d_X1_sippedByParts_26 rfl rfl ?_
        refine Tr.getf (pc := 27) d_X1_sippedByParts_27 f_1_41 (by decide) (by decide) (ty_56 hS.1.1) ?_
        refine Tr.tp 27 ((St.kp hS (by decide) (by decide) (by decide)).trans en_56_1) ?_
        refine Tr.getf (pc := 30) d_X1_sippedByParts_30 f_1_71 (by decide) (by decide) (ty_27 hS.1.1) ?_
        refine Tr.tp 29 (fx_27_5 hS.1.1) ?_
        refine Tr.iload_n (pc := 33) (i := 2) d_X1_sippedByParts_33 rfl rfl ?_
        refine Tr.iald (pc := 34) d_X1_sippedByParts_34 (ty_29 hS.1.1) (by omega) (by omega) ?_
        refine Tr.gen (P := fun v => (-1) ≤ v ∧ v ≤ 999) (ar_29 hS.1.2.1 _) (fun r34 er34 br34 => ?_)
        refine Tr.imul (pc := 35) d_X1_sippedByParts_35 ?_
        refine Tr.gen (P := fun v => (-2147483648) ≤ v ∧ v ≤ 2147483647) (w32_b _) (fun r35 er35 br35 => ?_)
        refine Tr.iadd (pc := 36) d_X1_sippedByParts_36 ?_
        refine Tr.gen (P := fun v => (-2147483648) ≤ v ∧ v ≤ 2147483647) (w32_b _) (fun r36 er36 br36 => ?_)
        refine Tr.istore_n (pc := 37) (i := 1) (ls2 := [(1, (0, r36)), (0, (2, 56)), (2, (0, p4_2))]) d_X1_sippedByParts_37 rfl (by decide) rfl ?_
        refine Tr.iincV (pc := 38) (n2 := (p4_2 + 1)) (ls2 := [(2, (0, (p4_2 + 1))), (1, (0, r36)), (0, (2, 56))]) d_X1_sippedByParts_38 rfl (by decide) ((w32_id (by omega)).trans (by omega)) rfl ?_
        refine Tr.goto (pc := 41) (tgt := 4) d_X1_sippedByParts_41 rfl ?_
        refine Tr.pick [2, 1, 0] (ls2 := [(0, (2, 56)), (1, (0, r36)), (2, (0, (p4_2 + 1)))]) rfl ?_
        exact J4 _ _ _ hS (by omega) (by omega) (by omega)
  refine Tr.pick [2, 1, 0] (ls2 := [(0, (2, 56)), (1, (0, 0)), (2, (0, 0))]) rfl ?_
  exact J4 _ _ _ _ hS (by omega) (by omega) (Nat.lt_succ_self _)

def ws_X6_finish_48_w1 : List (Int × Int) := [(48, 9), (48, 10), (63, 0)]
def as_X6_finish_48_w1 : List Int := [55, 57, 60, 61, 62, 69, 191]
def q_X6_finish_48_w1 (M0 M' : Mem) (r : Option PV) : Prop := St Rn ws_X6_finish_48_w1 as_X6_finish_48_w1 M0 M' ∧ r = none
set_option maxRecDepth 100000 in
set_option maxHeartbeats 4000000 in
theorem sp_X6_finish_48_w1 {l : Launch} {K : EC} {M0 : Mem} (hI : In Rn M0) (en_48_1 : rd M0 48 1 = 27) (en_56_1 : rd M0 56 1 = 27)   : Tr l K 3 mX6_finish 0 [(0, (2, 48))] [] M0 (q_X6_finish_48_w1 M0) := by
  have hS : St Rn ws_X6_finish_48_w1 as_X6_finish_48_w1 M0 M0 := St.rf hI
  refine Tr.aload_n (pc := 0) (i := 0) d_X6_finish_0 rfl rfl ?_
  refine Tr.getf (pc := 1) d_X6_finish_1 f_6_68 (by decide) (by decide) (ty_48 hS.1.1) ?_
  refine Tr.gen (P := fun v => (-2147483648) ≤ v ∧ v ≤ 2147483647) (ir_48_9 hS.1.2.1) (fun r1 er1 br1 => ?_)
  refine Tr.istore_n (pc := 4) (i := 1) (ls2 := [(1, (0, r1)), (0, (2, 48))]) d_X6_finish_4 rfl (by decide) rfl ?_
  refine Tr.aload_n (pc := 5) (i := 0) d_X6_finish_5 rfl rfl ?_
  refine Tr.getf (pc := 6) d_X6_finish_6 f_6_46 (by decide) (by decide) (ty_48 hS.1.1) ?_
  refine Tr.tp 27 ((St.kp hS (by decide) (by decide) (by decide)).trans en_48_1) ?_
  refine Tr.getf (pc := 9) d_X6_finish_9 f_6_116 (by decide) (by decide) (ty_27 hS.1.1) ?_
  refine Tr.tp 28 (fx_27_4 hS.1.1) ?_
  refine Tr.iconst (pc := 12) d_X6_finish_12 (by decide) ?_
  refine Tr.iald (pc := 13) d_X6_finish_13 (ty_28 hS.1.1) (by omega) (by omega) ?_
  refine Tr.gen (P := fun v => 0 ≤ v ∧ v ≤ 6) (ir_28_0 hS.1.2.1) (fun r13 er13 br13 => ?_)
  refine Tr.istore_n (pc := 14) (i := 2) (ls2 := [(2, (0, r13)), (1, (0, r1)), (0, (2, 48))]) d_X6_finish_14 rfl (by decide) rfl ?_
  refine Tr.iconst (pc := 15) d_X6_finish_15 (by decide) ?_
  refine Tr.istore_n (pc := 16) (i := 3) (ls2 := [(3, (0, 0)), (2, (0, r13)), (1, (0, r1)), (0, (2, 48))]) d_X6_finish_16 rfl (by decide) rfl ?_
  have J17 : ∀ (n17 : Nat) (M : Mem) (p17_3 : Int), St Rn ws_X6_finish_48_w1 as_X6_finish_48_w1 M0 M → (0 ≤ p17_3 ∧ p17_3 ≤ 6) → rd M 28 0 = r13 → (6 - p17_3).toNat < n17 → Tr l K 3 mX6_finish 17 [(0, (2, 48)), (1, (0, r1)), (2, (0, r13)), (3, (0, p17_3))] [] M (q_X6_finish_48_w1 M0) := by
    intro n17
    induction n17 with
    | zero => intro M p17_3 hS bp17_3 k17_28_0 hm17; exact absurd hm17 (Nat.not_lt_zero _)
    | succ n17 J17 =>
      intro M p17_3 hS bp17_3 k17_28_0 hm17
      refine Tr.iload_n (pc := 17) (i := 3) d_X6_finish_17 rfl rfl ?_
      refine Tr.iload_n (pc := 18) (i := 2) d_X6_finish_18 rfl rfl ?_
      have J61 : ∀ (M : Mem), St Rn ws_X6_finish_48_w1 as_X6_finish_48_w1 M0 M → rd M 28 0 = r13 → Tr l K 3 mX6_finish 61 [(0, (2, 48)), (1, (0, r1)), (2, (0, r13))] [] M (q_X6_finish_48_w1 M0) := by
        intro M  hS  k61_28_0
        refine Tr.iconst (pc := 61) d_X6_finish_61 (by decide) ?_
        refine Tr.istore_n (pc := 62) (i := 3) (ls2 := [(3, (0, 0)), (0, (2, 48)), (1, (0, r1)), (2, (0, r13))]) d_X6_finish_62 rfl (by decide) rfl ?_
        have J63 : ∀ (n63 : Nat) (M : Mem) (p63_3 : Int), St Rn ws_X6_finish_48_w1 as_X6_finish_48_w1 M0 M → (0 ≤ p63_3 ∧ p63_3 ≤ 6) → rd M 28 0 = r13 → (6 - p63_3).toNat < n63 → Tr l K 3 mX6_finish 63 [(0, (2, 48)), (1, (0, r1)), (2, (0, r13)), (3, (0, p63_3))] [] M (q_X6_finish_48_w1 M0) := by
          intro n63
          induction n63 with
          | zero => intro M p63_3 hS bp63_3 k63_28_0 hm63; exact absurd hm63 (Nat.not_lt_zero _)
          | succ n63 J63 =>
            intro M p63_3 hS bp63_3 k63_28_0 hm63
            refine Tr.iload_n (pc := 63) (i := 3) d_X6_finish_63 rfl rfl ?_
            refine Tr.iload_n (pc := 64) (i := 2) d_X6_finish_64 rfl rfl ?_
            refine Tr.icmp_ge (pc := 65) (tgt := 129) d_X6_finish_65 rfl (fun c65 => ?_) (fun c65 => ?_)
            · refine Tr.aload_n (pc := 129) (i := 0) d_X6_finish_129 rfl rfl ?_
              refine Tr.iload_n (pc := 130) (i := 1) d_X6_finish_130 rfl rfl ?_
              refine Tr.aload_n (pc := 131) (i := 0) d_X6_finish_131 rfl rfl ?_
              refine Tr.getf (pc := 132) d_X6_finish_132 f_6_46 (by decide) (by decide) (ty_48 hS.1.1) ?_
              refine Tr.tp 27 ((St.kp hS (by decide) (by decide) (by decide)).trans en_48_1) ?_
              refine Tr.getf (pc := 135) d_X6_finish_135 f_6_135 (by decide) (by decide) (ty_27 hS.1.1) ?_
              refine Tr.gen (P := fun v => (-1) ≤ v ∧ v ≤ 999) (ir_27_0 hS.1.2.1) (fun r135 er135 br135 => ?_)
              refine Tr.imul (pc := 138) d_X6_finish_138 ?_
              refine Tr.gen (P := fun v => (-2147483648) ≤ v ∧ v ≤ 2147483647) (w32_b _) (fun r138 er138 br138 => ?_)
              refine Tr.aload_n (pc := 139) (i := 0) d_X6_finish_139 rfl rfl ?_
              refine Tr.getf (pc := 140) d_X6_finish_140 f_6_38 (by decide) (by decide) (ty_48 hS.1.1) ?_
              refine Tr.tp 56 (fx_48_0 hS.1.1) ?_
              refine Tr.callV (pc := 143) (as := []) d_X6_finish_143 s_6_138 ok_X1_sippedByParts rfl rfl (Nat.le_of_ble_eq_true rfl) (Nat.le_of_ble_eq_true rfl) (by decide) (ty_56 hS.1.1) ?_
              refine Tr.imp (Tr.deep (by decide) (sp_X1_sippedByParts_56_w1 hS.1.wk ((St.kp hS (by decide) (by decide) (by decide)).trans en_56_1))) ?_
              rintro M143 _ ⟨h143, r143, rfl, lr143, ur143⟩
              have h143 := St.rn h143 (Rn.of hS.1.2.2.2.2 (fun _ => (St.ka h143 (by decide) (by decide) (by decide))) (St.kp h143 (by decide) (by decide) (by decide)))
              have hS := St.tr hS h143 (by decide) (by decide)
              refine Tr.sc [(0, r143), (0, r138), (2, 48)] rfl ?_
              refine Tr.iadd (pc := 146) d_X6_finish_146 ?_
              refine Tr.gen (P := fun v => (-2147483648) ≤ v ∧ v ≤ 2147483647) (w32_b _) (fun r146 er146 br146 => ?_)
              refine Tr.putfS (pc := 147) (P := St Rn ws_X6_finish_48_w1 as_X6_finish_48_w1 M0) d_X6_finish_147 f_6_142 (by decide) (by decide) (ty_48 hS.1.1) (st_48_10 hS (by decide) (by omega) (Rn.of hS.1.2.2.2.2 (fun _ => rd_wb _ rfl) (rd_wb _ rfl))) (fun M147 hS w147 => ?_)
              exact Tr.vret (pc := 150) d_X6_finish_150 rfl ⟨hS, rfl⟩
            · refine Tr.aload_n (pc := 68) (i := 0) d_X6_finish_68 rfl rfl ?_
              refine Tr.iload_n (pc := 69) (i := 3) d_X6_finish_69 rfl rfl ?_
              refine Tr.aload_n (pc := 70) (i := 0) d_X6_finish_70 rfl rfl ?_
              refine Tr.getf (pc := 71) d_X6_finish_71 f_6_68 (by decide) (by decide) (ty_48 hS.1.1) ?_
              refine Tr.gen (P := fun v => (-2147483648) ≤ v ∧ v ≤ 2147483647) (ir_48_9 hS.1.2.1) (fun r71 er71 br71 => ?_)
              refine Tr.callV (pc := 74) (as := [_, _]) d_X6_finish_74 s_6_125 ok_X6_settle rfl rfl (Nat.le_of_ble_eq_true rfl) (Nat.le_of_ble_eq_true rfl) (by decide) (ty_48 hS.1.1) ?_
              refine Tr.imp (Tr.deep (by decide) (sp_X6_settle_48_w1 hS.1 ((St.kp hS (by decide) (by decide) (by decide)).trans en_56_1) p63_3 (by omega) r71 (by omega))) ?_
              rintro M74 _ ⟨h74, rfl⟩
              have hS := St.tr hS h74 (by decide) (by decide)
              refine Tr.sc [] rfl ?_
              refine Tr.aload_n (pc := 77) (i := 0) d_X6_finish_77 rfl rfl ?_
              refine Tr.getf (pc := 78) d_X6_finish_78 f_6_24 (by decide) (by decide) (ty_48 hS.1.1) ?_
              refine Tr.tp 53 (fx_48_6 hS.1.1) ?_
              refine Tr.iload_n (pc := 81) (i := 3) d_X6_finish_81 rfl rfl ?_
              refine Tr.iald (pc := 82) d_X6_finish_82 (ty_53 hS.1.1) (by omega) (by omega) ?_
              refine Tr.gen (P := fun v => 0 ≤ v ∧ v ≤ 1) (ar_53 hS.1.2.1 _) (fun r82 er82 br82 => ?_)
              refine Tr.iconst (pc := 83) d_X6_finish_83 (by decide) ?_
              have J123 : ∀ (M : Mem), St Rn ws_X6_finish_48_w1 as_X6_finish_48_w1 M0 M → rd M 28 0 = r13 → rd M 48 9 = r71 → rd M 53 p63_3 = r82 → Tr l K 3 mX6_finish 123 [(0, (2, 48)), (1, (0, r1)), (2, (0, r13)), (3, (0, p63_3))] [] M (q_X6_finish_48_w1 M0) := by
                intro M  hS  k123_28_0 k123_48_9 k123_53_p63_310
                refine Tr.iincV (pc := 123) (n2 := (p63_3 + 1)) (ls2 := [(3, (0, (p63_3 + 1))), (0, (2, 48)), (1, (0, r1)), (2, (0, r13))]) d_X6_finish_123 rfl (by decide) ((w32_id (by omega)).trans (by omega)) rfl ?_
                refine Tr.goto (pc := 126) (tgt := 63) d_X6_finish_126 rfl ?_
                refine Tr.pick [1, 2, 3, 0] (ls2 := [(0, (2, 48)), (1, (0, r1)), (2, (0, r13)), (3, (0, (p63_3 + 1)))]) rfl ?_
                exact J63 _ _ hS (by omega) k123_28_0 (by omega)
              refine Tr.icmp_ne (pc := 84) (tgt := 102) d_X6_finish_84 rfl (fun c84 => ?_) (fun c84 => ?_)
              · refine Tr.aload_n (pc := 102) (i := 0) d_X6_finish_102 rfl rfl ?_
                refine Tr.getf (pc := 103) d_X6_finish_103 f_6_27 (by decide) (by decide) (ty_48 hS.1.1) ?_
                refine Tr.tp 54 (fx_48_7 hS.1.1) ?_
                refine Tr.iload_n (pc := 106) (i := 3) d_X6_finish_106 rfl rfl ?_
                refine Tr.iald (pc := 107) d_X6_finish_107 (ty_54 hS.1.1) (by omega) (by omega) ?_
                refine Tr.gen (P := fun v => (-2147483648) ≤ v ∧ v ≤ 2147483647) (ar_54 hS.1.2.1 _) (fun r107 er107 br107 => ?_)
                refine Tr.aload_n (pc := 108) (i := 0) d_X6_finish_108 rfl rfl ?_
                refine Tr.getf (pc := 109) d_X6_finish_109 f_6_68 (by decide) (by decide) (ty_48 hS.1.1) ?_
                refine Tr.tp r71 ((St.kp h74 (by decide) (by decide) (by decide)).trans er71) ?_
                refine Tr.icmp_gt (pc := 112) (tgt := 123) d_X6_finish_112 rfl (fun c112 => ?_) (fun c112 => ?_)
                · refine Tr.pick [0, 1, 2, 3] (ls2 := [(0, (2, 48)), (1, (0, r1)), (2, (0, r13)), (3, (0, p63_3))]) rfl ?_
                  exact J123 _ hS ((St.kp h74 (by decide) (by decide) (by decide)).trans k63_28_0) ((St.kp h74 (by decide) (by decide) (by decide)).trans er71) er82
                · refine Tr.aload_n (pc := 115) (i := 0) d_X6_finish_115 rfl rfl ?_
                  refine Tr.getf (pc := 116) d_X6_finish_116 f_6_38 (by decide) (by decide) (ty_48 hS.1.1) ?_
                  refine Tr.tp 56 (fx_48_0 hS.1.1) ?_
                  refine Tr.iload_n (pc := 119) (i := 3) d_X6_finish_119 rfl rfl ?_
                  refine Tr.callV (pc := 120) (as := [_]) d_X6_finish_120 s_6_131 ok_X1_fallAsleep rfl rfl (Nat.le_of_ble_eq_true rfl) (Nat.le_of_ble_eq_true rfl) (by decide) (ty_56 hS.1.1) ?_
                  refine Tr.imp (Tr.deep (by decide) (sp_X1_fallAsleep_56_w1 hS.1 ((St.kp hS (by decide) (by decide) (by decide)).trans en_56_1) p63_3 (by omega))) ?_
                  rintro M120 _ ⟨h120, rfl⟩
                  have hS := St.tr hS h120 (by decide) (by decide)
                  refine Tr.sc [] rfl ?_
                  refine Tr.pick [0, 1, 2, 3] (ls2 := [(0, (2, 48)), (1, (0, r1)), (2, (0, r13)), (3, (0, p63_3))]) rfl ?_
                  exact J123 _ hS ((St.kp h120 (by decide) (by decide) (by decide)).trans ((St.kp h74 (by decide) (by decide) (by decide)).trans k63_28_0)) ((St.kp h120 (by decide) (by decide) (by decide)).trans ((St.kp h74 (by decide) (by decide) (by decide)).trans er71)) ((St.ka h120 (by decide) (by decide) (by decide)).trans er82)
              · refine Tr.aload_n (pc := 87) (i := 0) d_X6_finish_87 rfl rfl ?_
                refine Tr.getf (pc := 88) d_X6_finish_88 f_6_38 (by decide) (by decide) (ty_48 hS.1.1) ?_
                refine Tr.tp 56 (fx_48_0 hS.1.1) ?_
                refine Tr.iload_n (pc := 91) (i := 3) d_X6_finish_91 rfl rfl ?_
                refine Tr.aload_n (pc := 92) (i := 0) d_X6_finish_92 rfl rfl ?_
                refine Tr.getf (pc := 93) d_X6_finish_93 f_6_68 (by decide) (by decide) (ty_48 hS.1.1) ?_
                refine Tr.tp r71 ((St.kp h74 (by decide) (by decide) (by decide)).trans er71) ?_
                refine Tr.callV (pc := 96) (as := [_, _]) d_X6_finish_96 s_6_128 ok_X1_letGo rfl rfl (Nat.le_of_ble_eq_true rfl) (Nat.le_of_ble_eq_true rfl) (by decide) (ty_56 hS.1.1) ?_
                refine Tr.imp (Tr.deep (by decide) (sp_X1_letGo_56 hS.1.wk p63_3 (by omega) r71 (by omega))) ?_
                rintro M96 _ ⟨h96, rfl⟩
                have h96 := St.rn h96 (Rn.of hS.1.2.2.2.2 (fun _ => (St.ka h96 (by decide) (by decide) (by decide))) (St.kp h96 (by decide) (by decide) (by decide)))
                have hS := St.tr hS h96 (by decide) (by decide)
                refine Tr.sc [] rfl ?_
                refine Tr.goto (pc := 99) (tgt := 123) d_X6_finish_99 rfl ?_
                refine Tr.pick [0, 1, 2, 3] (ls2 := [(0, (2, 48)), (1, (0, r1)), (2, (0, r13)), (3, (0, p63_3))]) rfl ?_
                exact J123 _ hS ((St.kp h96 (by decide) (by decide) (by decide)).trans ((St.kp h74 (by decide) (by decide) (by decide)).trans k63_28_0)) ((St.kp h96 (by decide) (by decide) (by decide)).trans ((St.kp h74 (by decide) (by decide) (by decide)).trans er71)) ((St.ka h96 (by decide) (by decide) (by decide)).trans er82)
        refine Tr.pick [1, 2, 3, 0] (ls2 := [(0, (2, 48)), (1, (0, r1)), (2, (0, r13)), (3, (0, 0))]) rfl ?_
        exact J63 _ _ _ hS (by omega) k61_28_0 (Nat.lt_succ_self _)
      refine Tr.icmp_ge (pc := 19) (tgt := 61) d_X6_finish_19 rfl (fun c19 => ?_) (fun c19 => ?_)
      · refine Tr.pick [0, 1, 2] (ls2 := [(0, (2, 48)), (1, (0, r1)), (2, (0, r13))]) rfl ?_
        exact J61 _ hS k17_28_0
      · refine Tr.aload_n (pc := 22) (i := 0) d_X6_finish_22 rfl rfl ?_
        refine Tr.getf (pc := 23) d_X6_finish_23 f_6_62 (by decide) (by decide) (ty_48 hS.1.1) ?_
        refine Tr.gen (P := fun v => (-2147483648) ≤ v ∧ v ≤ 2147483647) (ir_48_14 hS.1.2.1) (fun r23 er23 br23 => ?_)
        refine Tr.if_ne (pc := 26) (tgt := 61) d_X6_finish_26 rfl (fun c26 => ?_) (fun c26 => ?_)
        · refine Tr.pick [0, 1, 2] (ls2 := [(0, (2, 48)), (1, (0, r1)), (2, (0, r13))]) rfl ?_
          exact J61 _ hS k17_28_0
        · refine Tr.aload_n (pc := 29) (i := 0) d_X6_finish_29 rfl rfl ?_
          refine Tr.getf (pc := 30) d_X6_finish_30 f_6_24 (by decide) (by decide) (ty_48 hS.1.1) ?_
          refine Tr.tp 53 (fx_48_6 hS.1.1) ?_
          refine Tr.iload_n (pc := 33) (i := 3) d_X6_finish_33 rfl rfl ?_
          refine Tr.iald (pc := 34) d_X6_finish_34 (ty_53 hS.1.1) (by omega) (by omega) ?_
          refine Tr.gen (P := fun v => 0 ≤ v ∧ v ≤ 1) (ar_53 hS.1.2.1 _) (fun r34 er34 br34 => ?_)
          have J55 : ∀ (M : Mem), St Rn ws_X6_finish_48_w1 as_X6_finish_48_w1 M0 M → rd M 28 0 = r13 → rd M 48 14 = r23 → rd M 53 p17_3 = r34 → Tr l K 3 mX6_finish 55 [(0, (2, 48)), (1, (0, r1)), (2, (0, r13)), (3, (0, p17_3))] [] M (q_X6_finish_48_w1 M0) := by
            intro M  hS  k55_28_0 k55_48_14 k55_53_p17_310
            refine Tr.iincV (pc := 55) (n2 := (p17_3 + 1)) (ls2 := [(3, (0, (p17_3 + 1))), (0, (2, 48)), (1, (0, r1)), (2, (0, r13))]) d_X6_finish_55 rfl (by decide) ((w32_id (by omega)).trans (by omega)) rfl ?_
            refine Tr.goto (pc := 58) (tgt := 17) d_X6_finish_58 rfl ?_
            refine Tr.pick [1, 2, 3, 0] (ls2 := [(0, (2, 48)), (1, (0, r1)), (2, (0, r13)), (3, (0, (p17_3 + 1)))]) rfl ?_
            exact J17 _ _ hS (by omega) k55_28_0 (by omega)
          refine Tr.if_ne (pc := 35) (tgt := 55) d_X6_finish_35 rfl (fun c35 => ?_) (fun c35 => ?_)
          · refine Tr.pick [0, 1, 2, 3] (ls2 := [(0, (2, 48)), (1, (0, r1)), (2, (0, r13)), (3, (0, p17_3))]) rfl ?_
            exact J55 _ hS k17_28_0 er23 er34
          · refine Tr.aload_n (pc := 38) (i := 0) d_X6_finish_38 rfl rfl ?_
            refine Tr.aload_n (pc := 39) (i := 0) d_X6_finish_39 rfl rfl ?_
            refine Tr.getf (pc := 40) d_X6_finish_40 f_6_68 (by decide) (by decide) (ty_48 hS.1.1) ?_
            refine Tr.gen (P := fun v => (-2147483648) ≤ v ∧ v ≤ 2147483647) (ir_48_9 hS.1.2.1) (fun r40 er40 br40 => ?_)
            refine Tr.aload_n (pc := 43) (i := 0) d_X6_finish_43 rfl rfl ?_
            refine Tr.getf (pc := 44) d_X6_finish_44 f_6_27 (by decide) (by decide) (ty_48 hS.1.1) ?_
            refine Tr.tp 54 (fx_48_7 hS.1.1) ?_
            refine Tr.iload_n (pc := 47) (i := 3) d_X6_finish_47 rfl rfl ?_
            refine Tr.iald (pc := 48) d_X6_finish_48 (ty_54 hS.1.1) (by omega) (by omega) ?_
            refine Tr.gen (P := fun v => (-2147483648) ≤ v ∧ v ≤ 2147483647) (ar_54 hS.1.2.1 _) (fun r48 er48 br48 => ?_)
            refine Tr.mmax (pc := 49) d_X6_finish_49 ml_6_119 mw_mmax (Nat.le_of_ble_eq_true rfl) ?_
            refine Tr.gen (P := fun v => (v = r40 ∧ r48 ≤ r40) ∨ (v = r48 ∧ r40 ≤ r48)) (f_max_p _ _) (fun r49 er49 br49 => ?_)
            refine Tr.putfS (pc := 52) (P := St Rn ws_X6_finish_48_w1 as_X6_finish_48_w1 M0) d_X6_finish_52 f_6_68 (by decide) (by decide) (ty_48 hS.1.1) (st_48_9 hS (by decide) (by omega) (Rn.of hS.1.2.2.2.2 (fun _ => rd_wb _ rfl) (rd_wb _ rfl))) (fun M52 hS w52 => ?_)
            refine Tr.pick [0, 1, 2, 3] (ls2 := [(0, (2, 48)), (1, (0, r1)), (2, (0, r13)), (3, (0, p17_3))]) rfl ?_
            exact J55 _ hS ((Wr.b w52 rfl).trans k17_28_0) ((Wr.b w52 rfl).trans er23) ((Wr.b w52 rfl).trans er34)
  refine Tr.pick [3, 2, 1, 0] (ls2 := [(0, (2, 48)), (1, (0, r1)), (2, (0, r13)), (3, (0, 0))]) rfl ?_
  exact J17 _ _ _ hS (by omega) er13 (Nat.lt_succ_self _)
end
