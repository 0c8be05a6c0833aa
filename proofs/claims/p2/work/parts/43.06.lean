def ws_X6_use_74_w3 : List (Int × Int) := [(74, 9), (74, 14), (74, 17)]
def as_X6_use_74_w3 : List Int := [80, 81, 83]
def q_X6_use_74_w3 (a1 : Int) (a2 : Int) (a3 : Int) (M0 M' : Mem) (r : Option PV) : Prop := St Tru ws_X6_use_74_w3 as_X6_use_74_w3 M0 M' ∧ r = none
set_option maxRecDepth 100000 in
set_option maxHeartbeats 4000000 in
theorem sp_X6_use_74_w3 {l : Launch} {K : EC} {M0 : Mem} (hI : In Tru M0) (en_74_1 : rd M0 74 1 = 27) (a1 : Int) (ha1 : 0 ≤ a1 ∧ a1 ≤ 59) (a2 : Int) (ha2 : 0 ≤ a2 ∧ a2 ≤ 5) (a3 : Int) (ha3 : 0 ≤ a3 ∧ a3 ≤ 50)  : Tr l K 3 mX6_use 0 [(0, (2, 74)), (1, (0, a1)), (2, (0, a2)), (3, (0, a3))] [] M0 (q_X6_use_74_w3 a1 a2 a3 M0) := by
  have hS : St Tru ws_X6_use_74_w3 as_X6_use_74_w3 M0 M0 := St.rf hI
  refine Tr.aload_n (pc := 0) (i := 0) d_X6_use_0 rfl rfl ?_
  refine Tr.getf (pc := 1) d_X6_use_1 f_6_68 (by decide) (by decide) (ty_74 hS.1.1) ?_
  refine Tr.gen (P := fun v => (-2147483648) ≤ v ∧ v ≤ 2147483647) (ir_74_9 hS.1.2.1) (fun r1 er1 br1 => ?_)
  refine Tr.istore (pc := 4) (i := 4) (ls2 := [(4, (0, r1)), (0, (2, 74)), (1, (0, a1)), (2, (0, a2)), (3, (0, a3))]) d_X6_use_4 (by decide) rfl ?_
  refine Tr.aload_n (pc := 6) (i := 0) d_X6_use_6 rfl rfl ?_
  refine Tr.aload_n (pc := 7) (i := 0) d_X6_use_7 rfl rfl ?_
  refine Tr.iload_n (pc := 8) (i := 2) d_X6_use_8 rfl rfl ?_
  refine Tr.callV (pc := 9) (as := [_]) d_X6_use_9 s_6_199 ok_X6_wakeOf rfl rfl (Nat.le_of_ble_eq_true rfl) (Nat.le_of_ble_eq_true rfl) (by decide) (ty_74 hS.1.1) ?_
  refine Tr.imp (Tr.deep (by decide) (sp_X6_wakeOf_74_w1 hS.1 ((St.kp hS (by decide) (by decide) (by decide)).trans en_74_1) a2 (by omega))) ?_
  rintro M9 _ ⟨h9, r9, rfl, lr9, ur9⟩
  have hS := St.tr hS h9 (by decide) (by decide)
  refine Tr.sc [(0, r9), (2, 74)] rfl ?_
  refine Tr.iload_n (pc := 12) (i := 2) d_X6_use_12 rfl rfl ?_
  refine Tr.iconst (pc := 13) d_X6_use_13 (by decide) ?_
  refine Tr.callV (pc := 14) (as := [_, _, _]) d_X6_use_14 s_6_145 ok_X6_pass rfl rfl (Nat.le_of_ble_eq_true rfl) (Nat.le_of_ble_eq_true rfl) (by decide) (ty_74 hS.1.1) ?_
  refine Tr.imp (Tr.deep (by decide) (sp_X6_pass_74_w8 hS.1 ((St.kp hS (by decide) (by decide) (by decide)).trans en_74_1) r9 (by omega) a2 (by omega) 1 (by omega))) ?_
  rintro M14 _ ⟨h14, r14, rfl, lr14, ur14⟩
  have hS := St.tr hS h14 (by decide) (by decide)
  refine Tr.sc [(0, r14)] rfl ?_
  refine Tr.pop (pc := 17) d_X6_use_17 ne01 ?_
  refine Tr.aload_n (pc := 18) (i := 0) d_X6_use_18 rfl rfl ?_
  refine Tr.getf (pc := 19) d_X6_use_19 f_6_68 (by decide) (by decide) (ty_74 hS.1.1) ?_
  refine Tr.gen (P := fun v => (-2147483648) ≤ v ∧ v ≤ 2147483647) (ir_74_9 hS.1.2.1) (fun r19 er19 br19 => ?_)
  refine Tr.istore (pc := 22) (i := 5) (ls2 := [(5, (0, r19)), (4, (0, r1)), (0, (2, 74)), (1, (0, a1)), (2, (0, a2)), (3, (0, a3))]) d_X6_use_22 (by decide) rfl ?_
  refine Tr.aload_n (pc := 24) (i := 0) d_X6_use_24 rfl rfl ?_
  refine Tr.getf (pc := 25) d_X6_use_25 f_6_62 (by decide) (by decide) (ty_74 hS.1.1) ?_
  refine Tr.gen (P := fun v => (-2147483648) ≤ v ∧ v ≤ 2147483647) (ir_74_14 hS.1.2.1) (fun r25 er25 br25 => ?_)
  have J39 : ∀ (M : Mem), St Tru ws_X6_use_74_w3 as_X6_use_74_w3 M0 M → Tr l K 3 mX6_use 39 [(0, (2, 74)), (1, (0, a1)), (2, (0, a2)), (4, (0, r1)), (5, (0, r19))] [] M (q_X6_use_74_w3 a1 a2 a3 M0) := by
    intro M  hS  
    refine Tr.aload_n (pc := 39) (i := 0) d_X6_use_39 rfl rfl ?_
    refine Tr.getf (pc := 40) d_X6_use_40 f_6_62 (by decide) (by decide) (ty_74 hS.1.1) ?_
    refine Tr.gen (P := fun v => (-2147483648) ≤ v ∧ v ≤ 2147483647) (ir_74_14 hS.1.2.1) (fun r40 er40 br40 => ?_)
    have J56 : ∀ (M : Mem), St Tru ws_X6_use_74_w3 as_X6_use_74_w3 M0 M → rd M 74 14 = r40 → Tr l K 3 mX6_use 56 [(0, (2, 74)), (1, (0, a1)), (2, (0, a2)), (4, (0, r1)), (5, (0, r19))] [] M (q_X6_use_74_w3 a1 a2 a3 M0) := by
      intro M  hS  k56_74_14
      refine Tr.aload_n (pc := 56) (i := 0) d_X6_use_56 rfl rfl ?_
      refine Tr.iload_n (pc := 57) (i := 2) d_X6_use_57 rfl rfl ?_
      refine Tr.iload (pc := 58) (i := 4) d_X6_use_58 rfl ?_
      refine Tr.callV (pc := 60) (as := [_, _]) d_X6_use_60 s_6_125 ok_X6_settle rfl rfl (Nat.le_of_ble_eq_true rfl) (Nat.le_of_ble_eq_true rfl) (by decide) (ty_74 hS.1.1) ?_
      refine Tr.imp (Tr.deep (by decide) (sp_X6_settle_74 hS.1 a2 (by omega) r1 (by omega))) ?_
      rintro M60 _ ⟨h60, rfl⟩
      have hS := St.tr hS h60 (by decide) (by decide)
      refine Tr.sc [] rfl ?_
      refine Tr.aload_n (pc := 63) (i := 0) d_X6_use_63 rfl rfl ?_
      refine Tr.iload_n (pc := 64) (i := 1) d_X6_use_64 rfl rfl ?_
      refine Tr.iload_n (pc := 65) (i := 2) d_X6_use_65 rfl rfl ?_
      refine Tr.iload (pc := 66) (i := 4) d_X6_use_66 rfl ?_
      refine Tr.iload (pc := 68) (i := 5) d_X6_use_68 rfl ?_
      refine Tr.callV (pc := 70) (as := [_, _, _, _]) d_X6_use_70 s_6_202 ok_X6_bookBusy rfl rfl (Nat.le_of_ble_eq_true rfl) (Nat.le_of_ble_eq_true rfl) (by decide) (ty_74 hS.1.1) ?_
      refine Tr.imp (Tr.deep (by decide) (sp_X6_bookBusy_74_w1 hS.1 a1 (by omega) a2 (by omega) r1 (by omega) r19 (by omega))) ?_
      rintro M70 _ ⟨h70, rfl⟩
      have hS := St.tr hS h70 (by decide) (by decide)
      refine Tr.sc [] rfl ?_
      refine Tr.aload_n (pc := 73) (i := 0) d_X6_use_73 rfl rfl ?_
      refine Tr.getf (pc := 74) d_X6_use_74 f_6_38 (by decide) (by decide) (ty_74 hS.1.1) ?_
      refine Tr.tp 82 (fx_74_0 hS.1.1) ?_
      refine Tr.iload_n (pc := 77) (i := 2) d_X6_use_77 rfl rfl ?_
      refine Tr.iload_n (pc := 78) (i := 1) d_X6_use_78 rfl rfl ?_
      refine Tr.iload (pc := 79) (i := 5) d_X6_use_79 rfl ?_
      refine Tr.aload_n (pc := 81) (i := 0) d_X6_use_81 rfl rfl ?_
      refine Tr.getf (pc := 82) d_X6_use_82 f_6_68 (by decide) (by decide) (ty_74 hS.1.1) ?_
      refine Tr.gen (P := fun v => (-2147483648) ≤ v ∧ v ≤ 2147483647) (ir_74_9 hS.1.2.1) (fun r82 er82 br82 => ?_)
      refine Tr.callV (pc := 85) (as := [_, _, _, _]) d_X6_use_85 s_6_205 ok_X1_workFor rfl rfl (Nat.le_of_ble_eq_true rfl) (Nat.le_of_ble_eq_true rfl) (by decide) (ty_82 hS.1.1) ?_
      refine Tr.imp (Tr.deep (by decide) (sp_X1_workFor_82_w1 hS.1 a2 (by omega) a1 (by omega) r19 (by omega) r82 (by omega))) ?_
      rintro M85 _ ⟨h85, rfl⟩
      have hS := St.tr hS h85 (by decide) (by decide)
      refine Tr.sc [] rfl ?_
      refine Tr.aload_n (pc := 88) (i := 0) d_X6_use_88 rfl rfl ?_
      refine Tr.getf (pc := 89) d_X6_use_89 f_6_27 (by decide) (by decide) (ty_74 hS.1.1) ?_
      refine Tr.tp 80 (fx_74_7 hS.1.1) ?_
      refine Tr.iload_n (pc := 92) (i := 2) d_X6_use_92 rfl rfl ?_
      refine Tr.aload_n (pc := 93) (i := 0) d_X6_use_93 rfl rfl ?_
      refine Tr.getf (pc := 94) d_X6_use_94 f_6_62 (by decide) (by decide) (ty_74 hS.1.1) ?_
      refine Tr.tp r40 ((St.kp h85 (by decide) (by decide) (by decide)).trans ((St.kp h70 (by decide) (by decide) (by decide)).trans ((St.kp h60 (by decide) (by decide) (by decide)).trans k56_74_14))) ?_
      refine Tr.if_ne (pc := 97) (tgt := 117) d_X6_use_97 rfl (fun c97 => ?_) (fun c97 => ?_)
      · refine Tr.aload_n (pc := 117) (i := 0) d_X6_use_117 rfl rfl ?_
        refine Tr.getf (pc := 118) d_X6_use_118 f_6_68 (by decide) (by decide) (ty_74 hS.1.1) ?_
        refine Tr.tp r82 ((St.kp h85 (by decide) (by decide) (by decide)).trans er82) ?_
        refine Tr.iconst (pc := 121) d_X6_use_121 (by decide) ?_
        refine Tr.iadd (pc := 122) d_X6_use_122 ?_
        refine Tr.gen (P := fun v => (-2147483648) ≤ v ∧ v ≤ 2147483647) (w32_b _) (fun r122 er122 br122 => ?_)
        refine Tr.iastS (pc := 123) (P := St Tru ws_X6_use_74_w3 as_X6_use_74_w3 M0) d_X6_use_123 (ty_80 hS.1.1) (by omega) (by omega) (sa_80 hS (by decide) (by omega) trivial) (fun M123 hS w123 => ?_)
        exact Tr.vret (pc := 124) d_X6_use_124 rfl ⟨hS, rfl⟩
      · refine Tr.aload_n (pc := 100) (i := 0) d_X6_use_100 rfl rfl ?_
        refine Tr.getf (pc := 101) d_X6_use_101 f_6_68 (by decide) (by decide) (ty_74 hS.1.1) ?_
        refine Tr.tp r82 ((St.kp h85 (by decide) (by decide) (by decide)).trans er82) ?_
        refine Tr.aload_n (pc := 104) (i := 0) d_X6_use_104 rfl rfl ?_
        refine Tr.getf (pc := 105) d_X6_use_105 f_6_46 (by decide) (by decide) (ty_74 hS.1.1) ?_
        refine Tr.tp 27 ((St.kp hS (by decide) (by decide) (by decide)).trans en_74_1) ?_
        refine Tr.getf (pc := 108) d_X6_use_108 f_6_208 (by decide) (by decide) (ty_27 hS.1.1) ?_
        refine Tr.tp 31 (fx_27_7 hS.1.1) ?_
        refine Tr.iload_n (pc := 111) (i := 2) d_X6_use_111 rfl rfl ?_
        refine Tr.iald (pc := 112) d_X6_use_112 (ty_31 hS.1.1) (by omega) (by omega) ?_
        refine Tr.gen (P := fun v => 0 ≤ v ∧ v ≤ 50) (ar_31 hS.1.2.1 _) (fun r112 er112 br112 => ?_)
        refine Tr.iadd (pc := 113) d_X6_use_113 ?_
        refine Tr.gen (P := fun v => (-2147483648) ≤ v ∧ v ≤ 2147483647) (w32_b _) (fun r113 er113 br113 => ?_)
        refine Tr.goto (pc := 114) (tgt := 123) d_X6_use_114 rfl ?_
        refine Tr.iastS (pc := 123) (P := St Tru ws_X6_use_74_w3 as_X6_use_74_w3 M0) d_X6_use_123 (ty_80 hS.1.1) (by omega) (by omega) (sa_80 hS (by decide) (by omega) trivial) (fun M123 hS w123 => ?_)
        exact Tr.vret (pc := 124) d_X6_use_124 rfl ⟨hS, rfl⟩
    refine Tr.if_eq (pc := 43) (tgt := 56) d_X6_use_43 rfl (fun c43 => ?_) (fun c43 => ?_)
    · refine Tr.pick [0, 1, 2, 3, 4] (ls2 := [(0, (2, 74)), (1, (0, a1)), (2, (0, a2)), (4, (0, r1)), (5, (0, r19))]) rfl ?_
      exact J56 _ hS er40
    · refine Tr.aload_n (pc := 46) (i := 0) d_X6_use_46 rfl rfl ?_
      refine Tr.getf (pc := 47) d_X6_use_47 f_6_68 (by decide) (by decide) (ty_74 hS.1.1) ?_
      refine Tr.gen (P := fun v => (-2147483648) ≤ v ∧ v ≤ 2147483647) (ir_74_9 hS.1.2.1) (fun r47 er47 br47 => ?_)
      refine Tr.iload (pc := 50) (i := 4) d_X6_use_50 rfl ?_
      refine Tr.icmp_ne (pc := 52) (tgt := 56) d_X6_use_52 rfl (fun c52 => ?_) (fun c52 => ?_)
      · refine Tr.pick [0, 1, 2, 3, 4] (ls2 := [(0, (2, 74)), (1, (0, a1)), (2, (0, a2)), (4, (0, r1)), (5, (0, r19))]) rfl ?_
        exact J56 _ hS er40
      · exact Tr.vret (pc := 55) d_X6_use_55 rfl ⟨hS, rfl⟩
  refine Tr.if_ne (pc := 28) (tgt := 39) d_X6_use_28 rfl (fun c28 => ?_) (fun c28 => ?_)
  · refine Tr.pick [2, 3, 4, 1, 0] (ls2 := [(0, (2, 74)), (1, (0, a1)), (2, (0, a2)), (4, (0, r1)), (5, (0, r19))]) rfl ?_
    exact J39 _ hS 
  · refine Tr.aload_n (pc := 31) (i := 0) d_X6_use_31 rfl rfl ?_
    refine Tr.iload_n (pc := 32) (i := 3) d_X6_use_32 rfl rfl ?_
    refine Tr.iload_n (pc := 33) (i := 2) d_X6_use_33 rfl rfl ?_
    refine Tr.iconst (pc := 34) d_X6_use_34 (by decide) ?_
    refine Tr.callV (pc := 35) (as := [_, _, _]) d_X6_use_35 s_6_145 ok_X6_pass rfl rfl (Nat.le_of_ble_eq_true rfl) (Nat.le_of_ble_eq_true rfl) (by decide) (ty_74 hS.1.1) ?_
    refine Tr.imp (Tr.deep (by decide) (sp_X6_pass_74_w9 hS.1 ((St.kp hS (by decide) (by decide) (by decide)).trans en_74_1) a3 (by omega) a2 (by omega) 3 (by omega))) ?_
    rintro M35 _ ⟨h35, r35, rfl, lr35, ur35⟩
    have hS := St.tr hS h35 (by decide) (by decide)
    refine Tr.sc [(0, r35)] rfl ?_
    refine Tr.pop (pc := 38) d_X6_use_38 ne01 ?_
    refine Tr.pick [2, 3, 4, 1, 0] (ls2 := [(0, (2, 74)), (1, (0, a1)), (2, (0, a2)), (4, (0, r1)), (5, (0, r19))]) rfl ?_
    exact J39 _ hS 

def ws_X6_step_74_w3 : List (Int × Int) := [(74, 9), (74, 11), (74, 12), (74, 13), (74, 14), (74, 17)]
def as_X6_step_74_w3 : List Int := [76, 77, 78, 79, 80, 81, 83]
def q_X6_step_74_w3 (a1 : Int) (M0 M' : Mem) (r : Option PV) : Prop := St Tru ws_X6_step_74_w3 as_X6_step_74_w3 M0 M' ∧ ∃ v : Int, r = some (0, v) ∧ 0 ≤ v ∧ v ≤ 2147483647
set_option maxRecDepth 100000 in
set_option maxHeartbeats 4000000 in
theorem sp_X6_step_74_w3 {l : Launch} {K : EC} {M0 : Mem} (hI : In Tru M0) (en_74_1 : rd M0 74 1 = 27) (a1 : Int) (ha1 : 0 ≤ a1 ∧ a1 ≤ 59)  (hq0 : a1 < rd M0 35 0) (hF_Y35 : Yn35 M0) : Tr l K 4 mX6_step 0 [(0, (2, 74)), (1, (0, a1))] [] M0 (q_X6_step_74_w3 a1 M0) := by
  have hS : St Tru ws_X6_step_74_w3 as_X6_step_74_w3 M0 M0 := St.rf hI
  obtain ⟨g35_0, eg35_0⟩ : ∃ v, rd M0 35 0 = v := ⟨_, rfl⟩
  have bg35_0 : 0 ≤ g35_0 ∧ g35_0 ≤ 60 := by rw [← eg35_0]; exact ir_35_0 hI.2.1
  refine Tr.aload_n (pc := 0) (i := 0) d_X6_step_0 rfl rfl ?_
  refine Tr.iconst (pc := 1) d_X6_step_1 (by decide) ?_
  refine Tr.iconst (pc := 2) d_X6_step_2 (by decide) ?_
  refine Tr.iconst (pc := 3) d_X6_step_3 (by decide) ?_
  refine Tr.callV (pc := 4) (as := [_, _, _]) d_X6_step_4 s_6_145 ok_X6_pass rfl rfl (Nat.le_of_ble_eq_true rfl) (Nat.le_of_ble_eq_true rfl) (by decide) (ty_74 hS.1.1) ?_
  refine Tr.imp (Tr.deep (by decide) (sp_X6_pass_74_w5 hS.1 ((St.kp hS (by decide) (by decide) (by decide)).trans en_74_1) 1 (by omega) (-1) (by omega) 0 (by omega))) ?_
  rintro M4 _ ⟨h4, r4, rfl, lr4, ur4⟩
  have hS := St.tr hS h4 (by decide) (by decide)
  refine Tr.sc [(0, r4)] rfl ?_
  refine Tr.if_ne (pc := 7) (tgt := 12) d_X6_step_7 rfl (fun c7 => ?_) (fun c7 => ?_)
  · refine Tr.aload_n (pc := 12) (i := 0) d_X6_step_12 rfl rfl ?_
    refine Tr.dup (pc := 13) d_X6_step_13 ne21 ?_
    refine Tr.getf (pc := 14) d_X6_step_14 f_6_97 (by decide) (by decide) (ty_74 hS.1.1) ?_
    refine Tr.gen (P := fun v => (-2147483648) ≤ v ∧ v ≤ 2147483647) (ir_74_11 hS.1.2.1) (fun r14 er14 br14 => ?_)
    refine Tr.iconst (pc := 17) d_X6_step_17 (by decide) ?_
    refine Tr.iadd (pc := 18) d_X6_step_18 ?_
    refine Tr.gen (P := fun v => (-2147483648) ≤ v ∧ v ≤ 2147483647) (w32_b _) (fun r18 er18 br18 => ?_)
    refine Tr.putfS (pc := 19) (P := St Tru ws_X6_step_74_w3 as_X6_step_74_w3 M0) d_X6_step_19 f_6_97 (by decide) (by decide) (ty_74 hS.1.1) (st_74_11 hS (by decide) (by omega) trivial) (fun M19 hS w19 => ?_)
    refine Tr.aload_n (pc := 22) (i := 0) d_X6_step_22 rfl rfl ?_
    refine Tr.getf (pc := 23) d_X6_step_23 f_6_46 (by decide) (by decide) (ty_74 hS.1.1) ?_
    refine Tr.tp 27 ((St.kp hS (by decide) (by decide) (by decide)).trans en_74_1) ?_
    refine Tr.getf (pc := 26) d_X6_step_26 f_6_50 (by decide) (by decide) (ty_27 hS.1.1) ?_
    refine Tr.tp 35 (fx_27_11 hS.1.1) ?_
    refine Tr.astore_n (pc := 29) (i := 2) (ls2 := [(2, (2, 35)), (0, (2, 74)), (1, (0, a1))]) d_X6_step_29 rfl (by decide) rfl ?_
    refine Tr.aload_n (pc := 30) (i := 2) d_X6_step_30 rfl rfl ?_
    refine Tr.getf (pc := 31) d_X6_step_31 f_6_149 (by decide) (by decide) (ty_35 hS.1.1) ?_
    refine Tr.tp 37 (fx_35_2 hS.1.1) ?_
    refine Tr.iload_n (pc := 34) (i := 1) d_X6_step_34 rfl rfl ?_
    refine Tr.iald (pc := 35) d_X6_step_35 (ty_37 hS.1.1) (by omega) (by omega) ?_
    refine Tr.gen (P := fun v => 0 ≤ v ∧ v ≤ 5) (ar_37 hS.1.2.1 _) (fun r35 er35 br35 => ?_)
    refine Tr.istore_n (pc := 36) (i := 3) (ls2 := [(3, (0, r35)), (2, (2, 35)), (0, (2, 74)), (1, (0, a1))]) d_X6_step_36 rfl (by decide) rfl ?_
    refine Tr.aload_n (pc := 37) (i := 2) d_X6_step_37 rfl rfl ?_
    refine Tr.getf (pc := 38) d_X6_step_38 f_6_152 (by decide) (by decide) (ty_35 hS.1.1) ?_
    refine Tr.tp 36 (fx_35_1 hS.1.1) ?_
    refine Tr.iload_n (pc := 41) (i := 1) d_X6_step_41 rfl rfl ?_
    refine Tr.iald (pc := 42) d_X6_step_42 (ty_36 hS.1.1) (by omega) (by omega) ?_
    refine Tr.gen (P := fun v => (-2147483648) ≤ v ∧ v ≤ 2147483647) (ar_36 hS.1.2.1 _) (fun r42 er42 br42 => ?_)
    rcases (show (r42 < 5 ∨ 10 < r42) ∨ r42 = 5 ∨ r42 = 6 ∨ r42 = 7 ∨ r42 = 8 ∨ r42 = 9 ∨ r42 = 10 by omega) with c43 | c43 | c43 | c43 | c43 | c43 | c43
    · refine Tr.tswOut (pc := 43) (tgt := 177) d_X6_step_43 c43 rfl ?_
      refine Tr.aload_n (pc := 177) (i := 0) d_X6_step_177 rfl rfl ?_
      refine Tr.iload_n (pc := 178) (i := 1) d_X6_step_178 rfl rfl ?_
      refine Tr.callV (pc := 179) (as := [_]) d_X6_step_179 s_6_155 ok_X6_worked rfl rfl (Nat.le_of_ble_eq_true rfl) (Nat.le_of_ble_eq_true rfl) (by decide) (ty_74 hS.1.1) ?_
      refine Tr.imp (Tr.deep (by decide) (sp_X6_worked_74_w3 hS.1 ((St.kp hS (by decide) (by decide) (by decide)).trans en_74_1) a1 (by omega))) ?_
      rintro M179 _ ⟨h179, r179, rfl, lr179, ur179⟩
      have hS := St.tr hS h179 (by decide) (by decide)
      refine Tr.sc [(0, r179)] rfl ?_
      refine Tr.if_eq (pc := 182) (tgt := 194) d_X6_step_182 rfl (fun c182 => ?_) (fun c182 => ?_)
      · refine Tr.aload_n (pc := 194) (i := 2) d_X6_step_194 rfl rfl ?_
        refine Tr.getf (pc := 195) d_X6_step_195 f_6_180 (by decide) (by decide) (ty_35 hS.1.1) ?_
        refine Tr.tp 40 (fx_35_5 hS.1.1) ?_
        refine Tr.iload_n (pc := 198) (i := 1) d_X6_step_198 rfl rfl ?_
        refine Tr.iald (pc := 199) d_X6_step_199 (ty_40 hS.1.1) (by omega) (by omega) ?_
        have ky199_35_0 : rd M179 35 0 = g35_0 := ((St.kp h179 (by decide) (by decide) (by decide)).trans ((Wr.b w19 rfl).trans ((St.kp h4 (by decide) (by decide) (by decide)).trans eg35_0)))
        refine Tr.gen (P := fun v => 0 ≤ v ∧ v ≤ 2147483647) (by have h8 := (Yn35.of hF_Y35 (fun j => (St.ka hS (by decide) (by decide) (by decide))) (fun j => (St.ka hS (by decide) (by decide) (by decide))) (St.kp hS (by decide) (by decide) (by decide))) (a1) (by omega) (by omega); have h9 := (ar_40 hS.1.2.1 (a1)); omega) (fun r199 er199 br199 => ?_)
        exact Tr.iret (pc := 200) d_X6_step_200 rfl ⟨hS, _, rfl, by omega, by omega⟩
      · refine Tr.aload_n (pc := 185) (i := 2) d_X6_step_185 rfl rfl ?_
        refine Tr.getf (pc := 186) d_X6_step_186 f_6_177 (by decide) (by decide) (ty_35 hS.1.1) ?_
        refine Tr.tp 39 (fx_35_4 hS.1.1) ?_
        refine Tr.iload_n (pc := 189) (i := 1) d_X6_step_189 rfl rfl ?_
        refine Tr.iald (pc := 190) d_X6_step_190 (ty_39 hS.1.1) (by omega) (by omega) ?_
        have ky190_35_0 : rd M179 35 0 = g35_0 := ((St.kp h179 (by decide) (by decide) (by decide)).trans ((Wr.b w19 rfl).trans ((St.kp h4 (by decide) (by decide) (by decide)).trans eg35_0)))
        refine Tr.gen (P := fun v => 0 ≤ v ∧ v ≤ 2147483647) (by have h8 := (Yn35.of hF_Y35 (fun j => (St.ka hS (by decide) (by decide) (by decide))) (fun j => (St.ka hS (by decide) (by decide) (by decide))) (St.kp hS (by decide) (by decide) (by decide))) (a1) (by omega) (by omega); have h9 := (ar_39 hS.1.2.1 (a1)); omega) (fun r190 er190 br190 => ?_)
        refine Tr.goto (pc := 191) (tgt := 200) d_X6_step_191 rfl ?_
        exact Tr.iret (pc := 200) d_X6_step_200 rfl ⟨hS, _, rfl, by omega, by omega⟩
    · refine Tr.tp 5 c43 ?_
      refine Tr.tswIn (pc := 43) (off := 37) (tgt := 80) d_X6_step_43 (by decide) (by decide) rfl rfl ?_
      refine Tr.aload_n (pc := 80) (i := 0) d_X6_step_80 rfl rfl ?_
      refine Tr.getf (pc := 81) d_X6_step_81 f_6_15 (by decide) (by decide) (ty_74 hS.1.1) ?_
      refine Tr.tp 76 (fx_74_3 hS.1.1) ?_
      refine Tr.iload_n (pc := 84) (i := 3) d_X6_step_84 rfl rfl ?_
      refine Tr.aload_n (pc := 85) (i := 0) d_X6_step_85 rfl rfl ?_
      refine Tr.iload_n (pc := 86) (i := 1) d_X6_step_86 rfl rfl ?_
      refine Tr.callV (pc := 87) (as := [_]) d_X6_step_87 s_6_155 ok_X6_worked rfl rfl (Nat.le_of_ble_eq_true rfl) (Nat.le_of_ble_eq_true rfl) (by decide) (ty_74 hS.1.1) ?_
      refine Tr.imp (Tr.deep (by decide) (sp_X6_worked_74_w3 hS.1 ((St.kp hS (by decide) (by decide) (by decide)).trans en_74_1) a1 (by omega))) ?_
      rintro M87 _ ⟨h87, r87, rfl, lr87, ur87⟩
      have hS := St.tr hS h87 (by decide) (by decide)
      refine Tr.sc [(0, r87), (0, r35), (2, 76)] rfl ?_
      refine Tr.iastS (pc := 90) (P := St Tru ws_X6_step_74_w3 as_X6_step_74_w3 M0) d_X6_step_90 (ty_76 hS.1.1) (by omega) (by omega) (sa_76 hS (by decide) (by omega) trivial) (fun M90 hS w90 => ?_)
      refine Tr.goto (pc := 91) (tgt := 201) d_X6_step_91 rfl ?_
      refine Tr.aload_n (pc := 201) (i := 2) d_X6_step_201 rfl rfl ?_
      refine Tr.getf (pc := 202) d_X6_step_202 f_6_177 (by decide) (by decide) (ty_35 hS.1.1) ?_
      refine Tr.tp 39 (fx_35_4 hS.1.1) ?_
      refine Tr.iload_n (pc := 205) (i := 1) d_X6_step_205 rfl rfl ?_
      refine Tr.iald (pc := 206) d_X6_step_206 (ty_39 hS.1.1) (by omega) (by omega) ?_
      have ky206_35_0 : rd M90 35 0 = g35_0 := ((Wr.b w90 rfl).trans ((St.kp h87 (by decide) (by decide) (by decide)).trans ((Wr.b w19 rfl).trans ((St.kp h4 (by decide) (by decide) (by decide)).trans eg35_0))))
      refine Tr.gen (P := fun v => 0 ≤ v ∧ v ≤ 2147483647) (by have h8 := (Yn35.of hF_Y35 (fun j => (St.ka hS (by decide) (by decide) (by decide))) (fun j => (St.ka hS (by decide) (by decide) (by decide))) (St.kp hS (by decide) (by decide) (by decide))) (a1) (by omega) (by omega); have h9 := (ar_39 hS.1.2.1 (a1)); omega) (fun r206 er206 br206 => ?_)
      exact Tr.iret (pc := 207) d_X6_step_207 rfl ⟨hS, _, rfl, by omega, by omega⟩
    · refine Tr.tp 6 c43 ?_
      refine Tr.tswIn (pc := 43) (off := 51) (tgt := 94) d_X6_step_43 (by decide) (by decide) rfl rfl ?_
      refine Tr.aload_n (pc := 94) (i := 0) d_X6_step_94 rfl rfl ?_
      refine Tr.iload_n (pc := 95) (i := 1) d_X6_step_95 rfl rfl ?_
      refine Tr.iload_n (pc := 96) (i := 3) d_X6_step_96 rfl rfl ?_
      refine Tr.aload_n (pc := 97) (i := 0) d_X6_step_97 rfl rfl ?_
      refine Tr.iload_n (pc := 98) (i := 1) d_X6_step_98 rfl rfl ?_
      refine Tr.callV (pc := 99) (as := [_]) d_X6_step_99 s_6_155 ok_X6_worked rfl rfl (Nat.le_of_ble_eq_true rfl) (Nat.le_of_ble_eq_true rfl) (by decide) (ty_74 hS.1.1) ?_
      refine Tr.imp (Tr.deep (by decide) (sp_X6_worked_74_w3 hS.1 ((St.kp hS (by decide) (by decide) (by decide)).trans en_74_1) a1 (by omega))) ?_
      rintro M99 _ ⟨h99, r99, rfl, lr99, ur99⟩
      have hS := St.tr hS h99 (by decide) (by decide)
      refine Tr.sc [(0, r99), (0, r35), (0, a1), (2, 74)] rfl ?_
      refine Tr.iconst (pc := 102) d_X6_step_102 (by decide) ?_
      refine Tr.mmax (pc := 103) d_X6_step_103 ml_6_119 mw_mmax (Nat.le_of_ble_eq_true rfl) ?_
      refine Tr.gen (P := fun v => (v = r99 ∧ 0 ≤ r99) ∨ (v = 0 ∧ r99 ≤ 0)) (f_max_p _ _) (fun r103 er103 br103 => ?_)
      refine Tr.bipush (pc := 106) d_X6_step_106 rfl (by decide) ?_
      refine Tr.mmin (pc := 108) d_X6_step_108 ml_6_158 mw_mmin (Nat.le_of_ble_eq_true rfl) ?_
      refine Tr.gen (P := fun v => (v = r103 ∧ r103 ≤ 50) ∨ (v = 50 ∧ 50 ≤ r103)) (f_min_p _ _) (fun r108 er108 br108 => ?_)
      refine Tr.callV (pc := 111) (as := [_, _, _]) d_X6_step_111 s_6_161 ok_X6_use rfl rfl (Nat.le_of_ble_eq_true rfl) (Nat.le_of_ble_eq_true rfl) (by decide) (ty_74 hS.1.1) ?_
      refine Tr.imp (Tr.deep (by decide) (sp_X6_use_74_w3 hS.1 ((St.kp hS (by decide) (by decide) (by decide)).trans en_74_1) a1 (by omega) r35 (by omega) r108 (by omega))) ?_
      rintro M111 _ ⟨h111, rfl⟩
      have hS := St.tr hS h111 (by decide) (by decide)
      refine Tr.sc [] rfl ?_
      refine Tr.goto (pc := 114) (tgt := 201) d_X6_step_114 rfl ?_
      refine Tr.aload_n (pc := 201) (i := 2) d_X6_step_201 rfl rfl ?_
      refine Tr.getf (pc := 202) d_X6_step_202 f_6_177 (by decide) (by decide) (ty_35 hS.1.1) ?_
      refine Tr.tp 39 (fx_35_4 hS.1.1) ?_
      refine Tr.iload_n (pc := 205) (i := 1) d_X6_step_205 rfl rfl ?_
      refine Tr.iald (pc := 206) d_X6_step_206 (ty_39 hS.1.1) (by omega) (by omega) ?_
      have ky206_35_0 : rd M111 35 0 = g35_0 := ((St.kp h111 (by decide) (by decide) (by decide)).trans ((St.kp h99 (by decide) (by decide) (by decide)).trans ((Wr.b w19 rfl).trans ((St.kp h4 (by decide) (by decide) (by decide)).trans eg35_0))))
      refine Tr.gen (P := fun v => 0 ≤ v ∧ v ≤ 2147483647) (by have h8 := (Yn35.of hF_Y35 (fun j => (St.ka hS (by decide) (by decide) (by decide))) (fun j => (St.ka hS (by decide) (by decide) (by decide))) (St.kp hS (by decide) (by decide) (by decide))) (a1) (by omega) (by omega); have h9 := (ar_39 hS.1.2.1 (a1)); omega) (fun r206 er206 br206 => ?_)
      exact Tr.iret (pc := 207) d_X6_step_207 rfl ⟨hS, _, rfl, by omega, by omega⟩
    · refine Tr.tp 7 c43 ?_
      refine Tr.tswIn (pc := 43) (off := 74) (tgt := 117) d_X6_step_43 (by decide) (by decide) rfl rfl ?_
      refine Tr.aload_n (pc := 117) (i := 0) d_X6_step_117 rfl rfl ?_
      refine Tr.iload_n (pc := 118) (i := 1) d_X6_step_118 rfl rfl ?_
      refine Tr.iload_n (pc := 119) (i := 3) d_X6_step_119 rfl rfl ?_
      refine Tr.callV (pc := 120) (as := [_, _]) d_X6_step_120 s_6_165 ok_X6_hold rfl rfl (Nat.le_of_ble_eq_true rfl) (Nat.le_of_ble_eq_true rfl) (by decide) (ty_74 hS.1.1) ?_
      refine Tr.imp (Tr.deep (by decide) (sp_X6_hold_74_w3 hS.1 ((St.kp hS (by decide) (by decide) (by decide)).trans en_74_1) a1 (by omega) r35 (by omega))) ?_
      rintro M120 _ ⟨h120, rfl⟩
      have hS := St.tr hS h120 (by decide) (by decide)
      refine Tr.sc [] rfl ?_
      refine Tr.goto (pc := 123) (tgt := 201) d_X6_step_123 rfl ?_
      refine Tr.aload_n (pc := 201) (i := 2) d_X6_step_201 rfl rfl ?_
      refine Tr.getf (pc := 202) d_X6_step_202 f_6_177 (by decide) (by decide) (ty_35 hS.1.1) ?_
      refine Tr.tp 39 (fx_35_4 hS.1.1) ?_
      refine Tr.iload_n (pc := 205) (i := 1) d_X6_step_205 rfl rfl ?_
      refine Tr.iald (pc := 206) d_X6_step_206 (ty_39 hS.1.1) (by omega) (by omega) ?_
      have ky206_35_0 : rd M120 35 0 = g35_0 := ((St.kp h120 (by decide) (by decide) (by decide)).trans ((Wr.b w19 rfl).trans ((St.kp h4 (by decide) (by decide) (by decide)).trans eg35_0)))
      refine Tr.gen (P := fun v => 0 ≤ v ∧ v ≤ 2147483647) (by have h8 := (Yn35.of hF_Y35 (fun j => (St.ka hS (by decide) (by decide) (by decide))) (fun j => (St.ka hS (by decide) (by decide) (by decide))) (St.kp hS (by decide) (by decide) (by decide))) (a1) (by omega) (by omega); have h9 := (ar_39 hS.1.2.1 (a1)); omega) (fun r206 er206 br206 => ?_)
      exact Tr.iret (pc := 207) d_X6_step_207 rfl ⟨hS, _, rfl, by omega, by omega⟩
    · refine Tr.tp 8 c43 ?_
      refine Tr.tswIn (pc := 43) (off := 83) (tgt := 126) d_X6_step_43 (by decide) (by decide) rfl rfl ?_
      refine Tr.aload_n (pc := 126) (i := 0) d_X6_step_126 rfl rfl ?_
      refine Tr.iload_n (pc := 127) (i := 1) d_X6_step_127 rfl rfl ?_
      refine Tr.iload_n (pc := 128) (i := 3) d_X6_step_128 rfl rfl ?_
      refine Tr.callV (pc := 129) (as := [_, _]) d_X6_step_129 s_6_168 ok_X6_free rfl rfl (Nat.le_of_ble_eq_true rfl) (Nat.le_of_ble_eq_true rfl) (by decide) (ty_74 hS.1.1) ?_
      refine Tr.imp (Tr.deep (by decide) (sp_X6_free_74_w3 hS.1 ((St.kp hS (by decide) (by decide) (by decide)).trans en_74_1) a1 (by omega) r35 (by omega))) ?_
      rintro M129 _ ⟨h129, rfl⟩
      have hS := St.tr hS h129 (by decide) (by decide)
      refine Tr.sc [] rfl ?_
      refine Tr.goto (pc := 132) (tgt := 201) d_X6_step_132 rfl ?_
      refine Tr.aload_n (pc := 201) (i := 2) d_X6_step_201 rfl rfl ?_
      refine Tr.getf (pc := 202) d_X6_step_202 f_6_177 (by decide) (by decide) (ty_35 hS.1.1) ?_
      refine Tr.tp 39 (fx_35_4 hS.1.1) ?_
      refine Tr.iload_n (pc := 205) (i := 1) d_X6_step_205 rfl rfl ?_
      refine Tr.iald (pc := 206) d_X6_step_206 (ty_39 hS.1.1) (by omega) (by omega) ?_
      have ky206_35_0 : rd M129 35 0 = g35_0 := ((St.kp h129 (by decide) (by decide) (by decide)).trans ((Wr.b w19 rfl).trans ((St.kp h4 (by decide) (by decide) (by decide)).trans eg35_0)))
      refine Tr.gen (P := fun v => 0 ≤ v ∧ v ≤ 2147483647) (by have h8 := (Yn35.of hF_Y35 (fun j => (St.ka hS (by decide) (by decide) (by decide))) (fun j => (St.ka hS (by decide) (by decide) (by decide))) (St.kp hS (by decide) (by decide) (by decide))) (a1) (by omega) (by omega); have h9 := (ar_39 hS.1.2.1 (a1)); omega) (fun r206 er206 br206 => ?_)
      exact Tr.iret (pc := 207) d_X6_step_207 rfl ⟨hS, _, rfl, by omega, by omega⟩
    · refine Tr.tp 9 c43 ?_
      refine Tr.tswIn (pc := 43) (off := 92) (tgt := 135) d_X6_step_43 (by decide) (by decide) rfl rfl ?_
      refine Tr.aload_n (pc := 135) (i := 0) d_X6_step_135 rfl rfl ?_
      refine Tr.aload_n (pc := 136) (i := 0) d_X6_step_136 rfl rfl ?_
      refine Tr.iload_n (pc := 137) (i := 1) d_X6_step_137 rfl rfl ?_
      refine Tr.callV (pc := 138) (as := [_]) d_X6_step_138 s_6_155 ok_X6_worked rfl rfl (Nat.le_of_ble_eq_true rfl) (Nat.le_of_ble_eq_true rfl) (by decide) (ty_74 hS.1.1) ?_
      refine Tr.imp (Tr.deep (by decide) (sp_X6_worked_74_w3 hS.1 ((St.kp hS (by decide) (by decide) (by decide)).trans en_74_1) a1 (by omega))) ?_
      rintro M138 _ ⟨h138, r138, rfl, lr138, ur138⟩
      have hS := St.tr hS h138 (by decide) (by decide)
      refine Tr.sc [(0, r138), (2, 74)] rfl ?_
      refine Tr.iconst (pc := 141) d_X6_step_141 (by decide) ?_
      refine Tr.mmax (pc := 142) d_X6_step_142 ml_6_119 mw_mmax (Nat.le_of_ble_eq_true rfl) ?_
      refine Tr.gen (P := fun v => (v = r138 ∧ 0 ≤ r138) ∨ (v = 0 ∧ r138 ≤ 0)) (f_max_p _ _) (fun r142 er142 br142 => ?_)
      refine Tr.bipush (pc := 145) d_X6_step_145 rfl (by decide) ?_
      refine Tr.mmin (pc := 147) d_X6_step_147 ml_6_158 mw_mmin (Nat.le_of_ble_eq_true rfl) ?_
      refine Tr.gen (P := fun v => (v = r142 ∧ r142 ≤ 100) ∨ (v = 100 ∧ 100 ≤ r142)) (f_min_p _ _) (fun r147 er147 br147 => ?_)
      refine Tr.iconst (pc := 150) d_X6_step_150 (by decide) ?_
      refine Tr.iconst (pc := 151) d_X6_step_151 (by decide) ?_
      refine Tr.callV (pc := 152) (as := [_, _, _]) d_X6_step_152 s_6_145 ok_X6_pass rfl rfl (Nat.le_of_ble_eq_true rfl) (Nat.le_of_ble_eq_true rfl) (by decide) (ty_74 hS.1.1) ?_
      refine Tr.imp (Tr.deep (by decide) (sp_X6_pass_74_w7 hS.1 ((St.kp hS (by decide) (by decide) (by decide)).trans en_74_1) r147 (by omega) (-1) (by omega) 0 (by omega))) ?_
      rintro M152 _ ⟨h152, r152, rfl, lr152, ur152⟩
      have hS := St.tr hS h152 (by decide) (by decide)
      refine Tr.sc [(0, r152)] rfl ?_
      refine Tr.pop (pc := 155) d_X6_step_155 ne01 ?_
      refine Tr.goto (pc := 156) (tgt := 201) d_X6_step_156 rfl ?_
      refine Tr.aload_n (pc := 201) (i := 2) d_X6_step_201 rfl rfl ?_
      refine Tr.getf (pc := 202) d_X6_step_202 f_6_177 (by decide) (by decide) (ty_35 hS.1.1) ?_
      refine Tr.tp 39 (fx_35_4 hS.1.1) ?_
      refine Tr.iload_n (pc := 205) (i := 1) d_X6_step_205 rfl rfl ?_
      refine Tr.iald (pc := 206) d_X6_step_206 (ty_39 hS.1.1) (by omega) (by omega) ?_
      have ky206_35_0 : rd M152 35 0 = g35_0 := ((St.kp h152 (by decide) (by decide) (by decide)).trans ((St.kp h138 (by decide) (by decide) (by decide)).trans ((Wr.b w19 rfl).trans ((St.kp h4 (by decide) (by decide) (by decide)).trans eg35_0))))
      refine Tr.gen (P := fun v => 0 ≤ v ∧ v ≤ 2147483647) (by have h8 := (Yn35.of hF_Y35 (fun j => (St.ka hS (by decide) (by decide) (by decide))) (fun j => (St.ka hS (by decide) (by decide) (by decide))) (St.kp hS (by decide) (by decide) (by decide))) (a1) (by omega) (by omega); have h9 := (ar_39 hS.1.2.1 (a1)); omega) (fun r206 er206 br206 => ?_)
      exact Tr.iret (pc := 207) d_X6_step_207 rfl ⟨hS, _, rfl, by omega, by omega⟩
    · refine Tr.tp 10 c43 ?_
      refine Tr.tswIn (pc := 43) (off := 116) (tgt := 159) d_X6_step_43 (by decide) (by decide) rfl rfl ?_
      refine Tr.aload_n (pc := 159) (i := 0) d_X6_step_159 rfl rfl ?_
      refine Tr.aload_n (pc := 160) (i := 0) d_X6_step_160 rfl rfl ?_
      refine Tr.iload_n (pc := 161) (i := 1) d_X6_step_161 rfl rfl ?_
      refine Tr.callV (pc := 162) (as := [_]) d_X6_step_162 s_6_155 ok_X6_worked rfl rfl (Nat.le_of_ble_eq_true rfl) (Nat.le_of_ble_eq_true rfl) (by decide) (ty_74 hS.1.1) ?_
      refine Tr.imp (Tr.deep (by decide) (sp_X6_worked_74_w3 hS.1 ((St.kp hS (by decide) (by decide) (by decide)).trans en_74_1) a1 (by omega))) ?_
      rintro M162 _ ⟨h162, r162, rfl, lr162, ur162⟩
      have hS := St.tr hS h162 (by decide) (by decide)
      refine Tr.sc [(0, r162), (2, 74)] rfl ?_
      refine Tr.sipush (pc := 165) d_X6_step_165 rfl (by decide) ?_
      refine Tr.callS (pc := 168) (as := [_, _]) d_X6_step_168 s_6_171 ok_J9_floorMod_7cf53 rfl rfl (Nat.le_of_ble_eq_true rfl) (Nat.le_of_ble_eq_true rfl) ?_
      refine Tr.imp (Tr.deep (by decide) (sp_J9_floorMod_7cf53 hS.1 r162 (by omega) 1000 (by omega) (by omega))) ?_
      rintro M168 _ ⟨h168, r168, rfl, lr168, ur168, wr168⟩
      have hS := St.tr hS h168 (by decide) (by decide)
      refine Tr.sc [(0, r168), (2, 74)] rfl ?_
      refine Tr.callV (pc := 171) (as := [_]) d_X6_step_171 s_6_174 ok_X6_touch rfl rfl (Nat.le_of_ble_eq_true rfl) (Nat.le_of_ble_eq_true rfl) (by decide) (ty_74 hS.1.1) ?_
      refine Tr.imp (Tr.deep (by decide) (sp_X6_touch_74_w1 hS.1 ((St.kp hS (by decide) (by decide) (by decide)).trans en_74_1) r168 (by omega))) ?_
      rintro M171 _ ⟨h171, rfl⟩
      have hS := St.tr hS h171 (by decide) (by decide)
      refine Tr.sc [] rfl ?_
      refine Tr.goto (pc := 174) (tgt := 201) d_X6_step_174 rfl ?_
      refine Tr.aload_n (pc := 201) (i := 2) d_X6_step_201 rfl rfl ?_
      refine Tr.getf (pc := 202) d_X6_step_202 f_6_177 (by decide) (by decide) (ty_35 hS.1.1) ?_
      refine Tr.tp 39 (fx_35_4 hS.1.1) ?_
      refine Tr.iload_n (pc := 205) (i := 1) d_X6_step_205 rfl rfl ?_
      refine Tr.iald (pc := 206) d_X6_step_206 (ty_39 hS.1.1) (by omega) (by omega) ?_
      have ky206_35_0 : rd M171 35 0 = g35_0 := ((St.kp h171 (by decide) (by decide) (by decide)).trans ((St.kp h168 (by decide) (by decide) (by decide)).trans ((St.kp h162 (by decide) (by decide) (by decide)).trans ((Wr.b w19 rfl).trans ((St.kp h4 (by decide) (by decide) (by decide)).trans eg35_0)))))
      refine Tr.gen (P := fun v => 0 ≤ v ∧ v ≤ 2147483647) (by have h8 := (Yn35.of hF_Y35 (fun j => (St.ka hS (by decide) (by decide) (by decide))) (fun j => (St.ka hS (by decide) (by decide) (by decide))) (St.kp hS (by decide) (by decide) (by decide))) (a1) (by omega) (by omega); have h9 := (ar_39 hS.1.2.1 (a1)); omega) (fun r206 er206 br206 => ?_)
      exact Tr.iret (pc := 207) d_X6_step_207 rfl ⟨hS, _, rfl, by omega, by omega⟩
  · refine Tr.iload_n (pc := 10) (i := 1) d_X6_step_10 rfl rfl ?_
    exact Tr.iret (pc := 11) d_X6_step_11 rfl ⟨hS, _, rfl, by omega, by omega⟩

def ws_X6_go_74_27_47 : List (Int × Int) := [(74, 1), (74, 9), (74, 10), (74, 11), (74, 12), (74, 13), (74, 14), (74, 15), (74, 16), (74, 17), (82, 1)]
def as_X6_go_74_27_47 : List Int := [75, 76, 77, 78, 79, 80, 81, 83]
def q_X6_go_74_27_47 (M0 M' : Mem) (r : Option PV) : Prop := St Tru ws_X6_go_74_27_47 as_X6_go_74_27_47 M0 M' ∧ rd M' 74 1 = 27 ∧ rd M' 82 1 = 27 ∧ r = none
set_option maxRecDepth 100000 in
set_option maxHeartbeats 4000000 in
theorem sp_X6_go_74_27_47 {l : Launch} {K : EC} {M0 : Mem} (hI : In Tru M0)  (a3 : Int) (ha3 : (-1) ≤ a3 ∧ a3 ≤ (-1))  (hF_Y35 : Yn35 M0) : Tr l K 5 mX6_go 0 [(0, (2, 74)), (1, (2, 27)), (2, (2, 47)), (3, (0, a3))] [] M0 (q_X6_go_74_27_47 M0) := by
  have hS : St Tru ws_X6_go_74_27_47 as_X6_go_74_27_47 M0 M0 := St.rf hI
  obtain ⟨g35_0, eg35_0⟩ : ∃ v, rd M0 35 0 = v := ⟨_, rfl⟩
  have bg35_0 : 0 ≤ g35_0 ∧ g35_0 ≤ 60 := by rw [← eg35_0]; exact ir_35_0 hI.2.1
  refine Tr.aload_n (pc := 0) (i := 0) d_X6_go_0 rfl rfl ?_
  refine Tr.aload_n (pc := 1) (i := 1) d_X6_go_1 rfl rfl ?_
  refine Tr.aload_n (pc := 2) (i := 2) d_X6_go_2 rfl rfl ?_
  refine Tr.iload_n (pc := 3) (i := 3) d_X6_go_3 rfl rfl ?_
  refine Tr.tp (-1) (by omega) ?_
  refine Tr.callV (pc := 4) (as := [_, _, _]) d_X6_go_4 s_6_42 ok_X6_begin rfl rfl (Nat.le_of_ble_eq_true rfl) (Nat.le_of_ble_eq_true rfl) (by decide) (ty_74 hS.1.1) ?_
  refine Tr.imp (Tr.deep (by decide) (sp_X6_begin_74_27_47 hS.1 (-1) (by omega))) ?_
  rintro M4 _ ⟨h4, o4_74_1, o4_82_1, rfl⟩
  have hS := St.tr hS h4 (by decide) (by decide)
  refine Tr.sc [] rfl ?_
  refine Tr.iconst (pc := 7) d_X6_go_7 (by decide) ?_
  refine Tr.istore (pc := 8) (i := 4) (ls2 := [(4, (0, 0)), (0, (2, 74)), (1, (2, 27)), (2, (2, 47)), (3, (0, a3))]) d_X6_go_8 (by decide) rfl ?_
  refine Tr.iconst (pc := 10) d_X6_go_10 (by decide) ?_
  refine Tr.istore (pc := 11) (i := 5) (ls2 := [(5, (0, 0)), (4, (0, 0)), (0, (2, 74)), (1, (2, 27)), (2, (2, 47)), (3, (0, a3))]) d_X6_go_11 (by decide) rfl ?_
  have J13 : ∀ (n13 : Nat) (M : Mem) (p13_4 p13_5 : Int), St Tru ws_X6_go_74_27_47 as_X6_go_74_27_47 M0 M → (0 ≤ p13_4 ∧ p13_4 ≤ 2147483647) → (0 ≤ p13_5 ∧ p13_5 ≤ 2001) → rd M 35 0 = g35_0 → rd M 74 1 = 27 → rd M 82 1 = 27 → (2001 - p13_5).toNat < n13 → Tr l K 5 mX6_go 13 [(0, (2, 74)), (4, (0, p13_4)), (5, (0, p13_5))] [] M (q_X6_go_74_27_47 M0) := by
    intro n13
    induction n13 with
    | zero => intro M p13_4 p13_5 hS bp13_4 bp13_5 k13_35_0 k13_74_1 k13_82_1 hm13; exact absurd hm13 (Nat.not_lt_zero _)
    | succ n13 J13 =>
      intro M p13_4 p13_5 hS bp13_4 bp13_5 k13_35_0 k13_74_1 k13_82_1 hm13
      refine Tr.iload (pc := 13) (i := 5) d_X6_go_13 rfl ?_
      refine Tr.sipush (pc := 15) d_X6_go_15 rfl (by decide) ?_
      have J103 : ∀ (M : Mem), St Tru ws_X6_go_74_27_47 as_X6_go_74_27_47 M0 M → rd M 35 0 = g35_0 → rd M 74 1 = 27 → rd M 82 1 = 27 → Tr l K 5 mX6_go 103 [(0, (2, 74))] [] M (q_X6_go_74_27_47 M0) := by
        intro M  hS  k103_35_0 k103_74_1 k103_82_1
        refine Tr.aload_n (pc := 103) (i := 0) d_X6_go_103 rfl rfl ?_
        refine Tr.callV (pc := 104) (as := []) d_X6_go_104 s_6_82 ok_X6_finish rfl rfl (Nat.le_of_ble_eq_true rfl) (Nat.le_of_ble_eq_true rfl) (by decide) (ty_74 hS.1.1) ?_
        refine Tr.imp (Tr.deep (by decide) (sp_X6_finish_74_w1 hS.1 k103_74_1 k103_82_1)) ?_
        rintro M104 _ ⟨h104, rfl⟩
        have hS := St.tr hS h104 (by decide) (by decide)
        refine Tr.sc [] rfl ?_
        exact Tr.vret (pc := 107) d_X6_go_107 rfl ⟨hS, ((St.kp h104 (by decide) (by decide) (by decide)).trans k103_74_1), ((St.kp h104 (by decide) (by decide) (by decide)).trans k103_82_1), rfl⟩
      refine Tr.icmp_gt (pc := 18) (tgt := 103) d_X6_go_18 rfl (fun c18 => ?_) (fun c18 => ?_)
      · refine Tr.pick [0] (ls2 := [(0, (2, 74))]) rfl ?_
        exact J103 _ hS k13_35_0 k13_74_1 k13_82_1
      · refine Tr.iload (pc := 21) (i := 4) d_X6_go_21 rfl ?_
        refine Tr.aload_n (pc := 23) (i := 0) d_X6_go_23 rfl rfl ?_
        refine Tr.getf (pc := 24) d_X6_go_24 f_6_46 (by decide) (by decide) (ty_74 hS.1.1) ?_
        refine Tr.tp 27 k13_74_1 ?_
        refine Tr.getf (pc := 27) d_X6_go_27 f_6_50 (by decide) (by decide) (ty_27 hS.1.1) ?_
        refine Tr.tp 35 (fx_27_11 hS.1.1) ?_
        refine Tr.getf (pc := 30) d_X6_go_30 f_6_56 (by decide) (by decide) (ty_35 hS.1.1) ?_
        refine Tr.tp g35_0 k13_35_0 ?_
        refine Tr.icmp_ge (pc := 33) (tgt := 103) d_X6_go_33 rfl (fun c33 => ?_) (fun c33 => ?_)
        · refine Tr.pick [0] (ls2 := [(0, (2, 74))]) rfl ?_
          exact J103 _ hS k13_35_0 k13_74_1 k13_82_1
        · refine Tr.aload_n (pc := 36) (i := 0) d_X6_go_36 rfl rfl ?_
          refine Tr.getf (pc := 37) d_X6_go_37 f_6_62 (by decide) (by decide) (ty_74 hS.1.1) ?_
          refine Tr.gen (P := fun v => (-2147483648) ≤ v ∧ v ≤ 2147483647) (ir_74_14 hS.1.2.1) (fun r37 er37 br37 => ?_)
          refine Tr.if_ne (pc := 40) (tgt := 103) d_X6_go_40 rfl (fun c40 => ?_) (fun c40 => ?_)
          · refine Tr.pick [0] (ls2 := [(0, (2, 74))]) rfl ?_
            exact J103 _ hS k13_35_0 k13_74_1 k13_82_1
          · refine Tr.aload_n (pc := 43) (i := 0) d_X6_go_43 rfl rfl ?_
            refine Tr.getf (pc := 44) d_X6_go_44 f_6_38 (by decide) (by decide) (ty_74 hS.1.1) ?_
            refine Tr.tp 82 (fx_74_0 hS.1.1) ?_
            refine Tr.callV (pc := 47) (as := []) d_X6_go_47 s_6_65 ok_X1_makeRoom rfl rfl (Nat.le_of_ble_eq_true rfl) (Nat.le_of_ble_eq_true rfl) (by decide) (ty_82 hS.1.1) ?_
            refine Tr.imp (Tr.deep (by decide) (sp_X1_makeRoom_82 hS.1 )) ?_
            rintro M47 _ ⟨h47, rfl⟩
            have hS := St.tr hS h47 (by decide) (by decide)
            refine Tr.sc [] rfl ?_
            refine Tr.aload_n (pc := 50) (i := 0) d_X6_go_50 rfl rfl ?_
            refine Tr.getf (pc := 51) d_X6_go_51 f_6_68 (by decide) (by decide) (ty_74 hS.1.1) ?_
            refine Tr.gen (P := fun v => (-2147483648) ≤ v ∧ v ≤ 2147483647) (ir_74_9 hS.1.2.1) (fun r51 er51 br51 => ?_)
            refine Tr.istore (pc := 54) (i := 6) (ls2 := [(6, (0, r51)), (0, (2, 74)), (4, (0, p13_4)), (5, (0, p13_5))]) d_X6_go_54 (by decide) rfl ?_
            refine Tr.aload_n (pc := 56) (i := 0) d_X6_go_56 rfl rfl ?_
            refine Tr.iload (pc := 57) (i := 4) d_X6_go_57 rfl ?_
            refine Tr.callV (pc := 59) (as := [_]) d_X6_go_59 s_6_71 ok_X6_step rfl rfl (Nat.le_of_ble_eq_true rfl) (Nat.le_of_ble_eq_true rfl) (by decide) (ty_74 hS.1.1) ?_
            have kb59_35_0 : rd M47 35 0 = g35_0 := ((St.kp h47 (by decide) (by decide) (by decide)).trans k13_35_0)
            refine Tr.imp (Tr.deep (by decide) (sp_X6_step_74_w3 hS.1 ((St.kp h47 (by decide) (by decide) (by decide)).trans k13_74_1) p13_4 (by omega) (by omega) (Yn35.of hF_Y35 (fun j => (St.ka hS (by decide) (by decide) (by decide))) (fun j => (St.ka hS (by decide) (by decide) (by decide))) (St.kp hS (by decide) (by decide) (by decide))))) ?_
            rintro M59 _ ⟨h59, r59, rfl, lr59, ur59⟩
            have hS := St.tr hS h59 (by decide) (by decide)
            refine Tr.sc [(0, r59)] rfl ?_
            refine Tr.istore (pc := 62) (i := 7) (ls2 := [(7, (0, r59)), (6, (0, r51)), (0, (2, 74)), (4, (0, p13_4)), (5, (0, p13_5))]) d_X6_go_62 (by decide) rfl ?_
            refine Tr.aload_n (pc := 64) (i := 0) d_X6_go_64 rfl rfl ?_
            refine Tr.getf (pc := 65) d_X6_go_65 f_6_38 (by decide) (by decide) (ty_74 hS.1.1) ?_
            refine Tr.tp 82 (fx_74_0 hS.1.1) ?_
            refine Tr.iload (pc := 68) (i := 4) d_X6_go_68 rfl ?_
            refine Tr.aload_n (pc := 70) (i := 0) d_X6_go_70 rfl rfl ?_
            refine Tr.getf (pc := 71) d_X6_go_71 f_6_68 (by decide) (by decide) (ty_74 hS.1.1) ?_
            refine Tr.gen (P := fun v => (-2147483648) ≤ v ∧ v ≤ 2147483647) (ir_74_9 hS.1.2.1) (fun r71 er71 br71 => ?_)
            refine Tr.iload (pc := 74) (i := 6) d_X6_go_74 rfl ?_
            refine Tr.isub (pc := 76) d_X6_go_76 ?_
            refine Tr.gen (P := fun v => (-2147483648) ≤ v ∧ v ≤ 2147483647) (w32_b _) (fun r76 er76 br76 => ?_)
            refine Tr.callV (pc := 77) (as := [_, _]) d_X6_go_77 s_6_75 ok_X1_payHeart rfl rfl (Nat.le_of_ble_eq_true rfl) (Nat.le_of_ble_eq_true rfl) (by decide) (ty_82 hS.1.1) ?_
            refine Tr.imp (Tr.deep (by decide) (sp_X1_payHeart_82_w1 hS.1 p13_4 (by omega) r76 (by omega))) ?_
            rintro M77 _ ⟨h77, rfl⟩
            have hS := St.tr hS h77 (by decide) (by decide)
            refine Tr.sc [] rfl ?_
            refine Tr.aload_n (pc := 80) (i := 0) d_X6_go_80 rfl rfl ?_
            refine Tr.getf (pc := 81) d_X6_go_81 f_6_62 (by decide) (by decide) (ty_74 hS.1.1) ?_
            refine Tr.gen (P := fun v => (-2147483648) ≤ v ∧ v ≤ 2147483647) (ir_74_14 hS.1.2.1) (fun r81 er81 br81 => ?_)
            have J93 : ∀ (M : Mem), St Tru ws_X6_go_74_27_47 as_X6_go_74_27_47 M0 M → rd M 35 0 = g35_0 → rd M 74 1 = 27 → rd M 74 14 = r81 → rd M 74 9 = r71 → rd M 82 1 = 27 → Tr l K 5 mX6_go 93 [(0, (2, 74)), (5, (0, p13_5)), (7, (0, r59))] [] M (q_X6_go_74_27_47 M0) := by
              intro M  hS  k93_35_0 k93_74_1 k93_74_14 k93_74_9 k93_82_1
              refine Tr.iload (pc := 93) (i := 7) d_X6_go_93 rfl ?_
              refine Tr.istore (pc := 95) (i := 4) (ls2 := [(4, (0, r59)), (0, (2, 74)), (5, (0, p13_5)), (7, (0, r59))]) d_X6_go_95 (by decide) rfl ?_
              refine Tr.iincV (pc := 97) (n2 := (p13_5 + 1)) (ls2 := [(5, (0, (p13_5 + 1))), (4, (0, r59)), (0, (2, 74)), (7, (0, r59))]) d_X6_go_97 rfl (by decide) ((w32_id (by omega)).trans (by omega)) rfl ?_
              refine Tr.goto (pc := 100) (tgt := 13) d_X6_go_100 rfl ?_
              refine Tr.pick [2, 1, 0] (ls2 := [(0, (2, 74)), (4, (0, r59)), (5, (0, (p13_5 + 1)))]) rfl ?_
              exact J13 _ _ _ hS (by omega) (by omega) k93_35_0 k93_74_1 k93_82_1 (by omega)
            refine Tr.if_eq (pc := 84) (tgt := 93) d_X6_go_84 rfl (fun c84 => ?_) (fun c84 => ?_)
            · refine Tr.pick [2, 4, 0] (ls2 := [(0, (2, 74)), (5, (0, p13_5)), (7, (0, r59))]) rfl ?_
              exact J93 _ hS ((St.kp h77 (by decide) (by decide) (by decide)).trans ((St.kp h59 (by decide) (by decide) (by decide)).trans ((St.kp h47 (by decide) (by decide) (by decide)).trans k13_35_0))) ((St.kp h77 (by decide) (by decide) (by decide)).trans ((St.kp h59 (by decide) (by decide) (by decide)).trans ((St.kp h47 (by decide) (by decide) (by decide)).trans k13_74_1))) er81 ((St.kp h77 (by decide) (by decide) (by decide)).trans er71) ((St.kp h77 (by decide) (by decide) (by decide)).trans ((St.kp h59 (by decide) (by decide) (by decide)).trans ((St.kp h47 (by decide) (by decide) (by decide)).trans k13_82_1)))
            · refine Tr.aload_n (pc := 87) (i := 0) d_X6_go_87 rfl rfl ?_
              refine Tr.iload (pc := 88) (i := 4) d_X6_go_88 rfl ?_
              refine Tr.putfS (pc := 90) (P := St Tru ws_X6_go_74_27_47 as_X6_go_74_27_47 M0) d_X6_go_90 f_6_79 (by decide) (by decide) (ty_74 hS.1.1) (st_74_15 hS (by decide) (by omega) trivial) (fun M90 hS w90 => ?_)
              refine Tr.pick [2, 4, 0] (ls2 := [(0, (2, 74)), (5, (0, p13_5)), (7, (0, r59))]) rfl ?_
              exact J93 _ hS ((Wr.b w90 rfl).trans ((St.kp h77 (by decide) (by decide) (by decide)).trans ((St.kp h59 (by decide) (by decide) (by decide)).trans ((St.kp h47 (by decide) (by decide) (by decide)).trans k13_35_0)))) ((Wr.b w90 rfl).trans ((St.kp h77 (by decide) (by decide) (by decide)).trans ((St.kp h59 (by decide) (by decide) (by decide)).trans ((St.kp h47 (by decide) (by decide) (by decide)).trans k13_74_1)))) ((Wr.b w90 rfl).trans er81) ((Wr.b w90 rfl).trans ((St.kp h77 (by decide) (by decide) (by decide)).trans er71)) ((Wr.b w90 rfl).trans ((St.kp h77 (by decide) (by decide) (by decide)).trans ((St.kp h59 (by decide) (by decide) (by decide)).trans ((St.kp h47 (by decide) (by decide) (by decide)).trans k13_82_1))))
  refine Tr.pick [2, 1, 0] (ls2 := [(0, (2, 74)), (4, (0, 0)), (5, (0, 0))]) rfl ?_
  exact J13 _ _ _ _ hS (by omega) (by omega) ((St.kp h4 (by decide) (by decide) (by decide)).trans eg35_0) o4_74_1 o4_82_1 (Nat.lt_succ_self _)

def ws_X11_measure_0_w1 : List (Int × Int) := [(74, 1), (74, 9), (74, 10), (74, 11), (74, 12), (74, 13), (74, 14), (74, 15), (74, 16), (74, 17), (82, 1), (107, 0)]
def as_X11_measure_0_w1 : List Int := [75, 76, 77, 78, 79, 80, 81, 83, 109, 110, 111]
def q_X11_measure_0_w1 (M0 M' : Mem) (r : Option PV) : Prop := St Tru ws_X11_measure_0_w1 as_X11_measure_0_w1 M0 M' ∧ ∃ v : Int, r = some (0, v) ∧ (-1) ≤ v ∧ v ≤ 12
set_option maxRecDepth 100000 in
set_option maxHeartbeats 4000000 in
theorem sp_X11_measure_0_w1 {l : Launch} {K : EC} {M0 : Mem} (hI : In Tru M0) (en_0_4 : rd M0 0 4 = 27) (a1 : Int) (ha1 : (-2147483648) ≤ a1 ∧ a1 ≤ 2147483647)  (hF_Y35 : Yn35 M0) : Tr l K 6 mX11_measure 0 [(0, (2, 0)), (1, (0, a1))] [] M0 (q_X11_measure_0_w1 M0) := by
  have hS : St Tru ws_X11_measure_0_w1 as_X11_measure_0_w1 M0 M0 := St.rf hI
  refine Tr.iload_n (pc := 0) (i := 1) d_X11_measure_0 rfl rfl ?_
  refine Tr.if_lt (pc := 1) (tgt := 23) d_X11_measure_1 rfl (fun c1 => ?_) (fun c1 => ?_)
  · refine Tr.iconst (pc := 23) d_X11_measure_23 (by decide) ?_
    exact Tr.iret (pc := 24) d_X11_measure_24 rfl ⟨hS, _, rfl, by omega, by omega⟩
  · refine Tr.iload_n (pc := 4) (i := 1) d_X11_measure_4 rfl rfl ?_
    refine Tr.ldcw (pc := 5) d_X11_measure_5 k_11_271 (by decide) ?_
    refine Tr.icmp_gt (pc := 8) (tgt := 23) d_X11_measure_8 rfl (fun c8 => ?_) (fun c8 => ?_)
    · refine Tr.iconst (pc := 23) d_X11_measure_23 (by decide) ?_
      exact Tr.iret (pc := 24) d_X11_measure_24 rfl ⟨hS, _, rfl, by omega, by omega⟩
    · refine Tr.aload_n (pc := 11) (i := 0) d_X11_measure_11 rfl rfl ?_
      refine Tr.getf (pc := 12) d_X11_measure_12 f_11_70 (by decide) (by decide) (ty_0 hS.1.1) ?_
      refine Tr.tp 107 (fx_0_12 hS.1.1) ?_
      refine Tr.getf (pc := 15) d_X11_measure_15 f_11_133 (by decide) (by decide) (ty_107 hS.1.1) ?_
      refine Tr.gen (P := fun v => 0 ≤ v ∧ v ≤ 12) (ir_107_0 hS.1.2.1) (fun r15 er15 br15 => ?_)
      refine Tr.bipush (pc := 18) d_X11_measure_18 rfl (by decide) ?_
      refine Tr.icmp_lt (pc := 20) (tgt := 25) d_X11_measure_20 rfl (fun c20 => ?_) (fun c20 => ?_)
      · refine Tr.aload_n (pc := 25) (i := 0) d_X11_measure_25 rfl rfl ?_
        refine Tr.getf (pc := 26) d_X11_measure_26 f_11_50 (by decide) (by decide) (ty_0 hS.1.1) ?_
        refine Tr.tp 74 (fx_0_8 hS.1.1) ?_
        refine Tr.aload_n (pc := 29) (i := 0) d_X11_measure_29 rfl rfl ?_
        refine Tr.getf (pc := 30) d_X11_measure_30 f_11_30 (by decide) (by decide) (ty_0 hS.1.1) ?_
        refine Tr.tp 27 ((St.kp hS (by decide) (by decide) (by decide)).trans en_0_4) ?_
        refine Tr.aload_n (pc := 33) (i := 0) d_X11_measure_33 rfl rfl ?_
        refine Tr.getf (pc := 34) d_X11_measure_34 f_11_37 (by decide) (by decide) (ty_0 hS.1.1) ?_
        refine Tr.tp 47 (fx_0_6 hS.1.1) ?_
        refine Tr.iconst (pc := 37) d_X11_measure_37 (by decide) ?_
        refine Tr.callV (pc := 38) (as := [_, _, _]) d_X11_measure_38 s_11_144 ok_X6_go rfl rfl (Nat.le_of_ble_eq_true rfl) (Nat.le_of_ble_eq_true rfl) (by decide) (ty_74 hS.1.1) ?_
        refine Tr.imp (Tr.deep (by decide) (sp_X6_go_74_27_47 hS.1 (-1) (by omega) (Yn35.of hF_Y35 (fun j => (St.ka hS (by decide) (by decide) (by decide))) (fun j => (St.ka hS (by decide) (by decide) (by decide))) (St.kp hS (by decide) (by decide) (by decide))))) ?_
        rintro M38 _ ⟨h38, o38_74_1, o38_82_1, rfl⟩
        have hS := St.tr hS h38 (by decide) (by decide)
        refine Tr.sc [] rfl ?_
        refine Tr.aload_n (pc := 41) (i := 0) d_X11_measure_41 rfl rfl ?_
        refine Tr.getf (pc := 42) d_X11_measure_42 f_11_70 (by decide) (by decide) (ty_0 hS.1.1) ?_
        refine Tr.tp 107 (fx_0_12 hS.1.1) ?_
        refine Tr.iload_n (pc := 45) (i := 1) d_X11_measure_45 rfl rfl ?_
        refine Tr.aload_n (pc := 46) (i := 0) d_X11_measure_46 rfl rfl ?_
        refine Tr.getf (pc := 47) d_X11_measure_47 f_11_50 (by decide) (by decide) (ty_0 hS.1.1) ?_
        refine Tr.tp 74 (fx_0_8 hS.1.1) ?_
        refine Tr.callV (pc := 50) (as := [_, _]) d_X11_measure_50 s_11_272 ok_X2_add rfl rfl (Nat.le_of_ble_eq_true rfl) (Nat.le_of_ble_eq_true rfl) (by decide) (ty_107 hS.1.1) ?_
        refine Tr.imp (Tr.deep (by decide) (sp_X2_add_107_74 hS.1 a1 (by omega))) ?_
        rintro M50 _ ⟨h50, rfl⟩
        have hS := St.tr hS h50 (by decide) (by decide)
        refine Tr.sc [] rfl ?_
        refine Tr.aload_n (pc := 53) (i := 0) d_X11_measure_53 rfl rfl ?_
        refine Tr.getf (pc := 54) d_X11_measure_54 f_11_70 (by decide) (by decide) (ty_0 hS.1.1) ?_
        refine Tr.tp 107 (fx_0_12 hS.1.1) ?_
        refine Tr.getf (pc := 57) d_X11_measure_57 f_11_133 (by decide) (by decide) (ty_107 hS.1.1) ?_
        refine Tr.gen (P := fun v => 0 ≤ v ∧ v ≤ 12) (ir_107_0 hS.1.2.1) (fun r57 er57 br57 => ?_)
        exact Tr.iret (pc := 60) d_X11_measure_60 rfl ⟨hS, _, rfl, by omega, by omega⟩
      · refine Tr.iconst (pc := 23) d_X11_measure_23 (by decide) ?_
        exact Tr.iret (pc := 24) d_X11_measure_24 rfl ⟨hS, _, rfl, by omega, by omega⟩

def ws_X10_count_27 : List (Int × Int) := []
def as_X10_count_27 : List Int := []
def q_X10_count_27 (M0 M' : Mem) (r : Option PV) : Prop := St Tru ws_X10_count_27 as_X10_count_27 M0 M' ∧ ∃ v : Int, r = some (0, v) ∧ (-2147483648) ≤ v ∧ v ≤ 2147483647
set_option maxRecDepth 100000 in
set_option maxHeartbeats 4000000 in
theorem sp_X10_count_27 {l : Launch} {K : EC} {M0 : Mem} (hI : In Tru M0)    : Tr l K 0 mX10_count 0 [(0, (2, 27))] [] M0 (q_X10_count_27 M0) := by
  have hS : St Tru ws_X10_count_27 as_X10_count_27 M0 M0 := St.rf hI
  refine Tr.iconst (pc := 0) d_X10_count_0 (by decide) ?_
  refine Tr.istore_n (pc := 1) (i := 1) (ls2 := [(1, (0, 1)), (0, (2, 27))]) d_X10_count_1 rfl (by decide) rfl ?_
  refine Tr.iconst (pc := 2) d_X10_count_2 (by decide) ?_
  refine Tr.istore_n (pc := 3) (i := 2) (ls2 := [(2, (0, 0)), (1, (0, 1)), (0, (2, 27))]) d_X10_count_3 rfl (by decide) rfl ?_
  have J4 : ∀ (n4 : Nat) (M : Mem) (p4_1 p4_2 : Int), St Tru ws_X10_count_27 as_X10_count_27 M0 M → ((-2147483648) ≤ p4_1 ∧ p4_1 ≤ 2147483647) → (0 ≤ p4_2 ∧ p4_2 ≤ 3) → (3 - p4_2).toNat < n4 → Tr l K 0 mX10_count 4 [(0, (2, 27)), (1, (0, p4_1)), (2, (0, p4_2))] [] M (q_X10_count_27 M0) := by
    intro n4
    induction n4 with
    | zero => intro M p4_1 p4_2 hS bp4_1 bp4_2  hm4; exact absurd hm4 (Nat.not_lt_zero _)
    | succ n4 J4 =>
      intro M p4_1 p4_2 hS bp4_1 bp4_2  hm4
      refine Tr.iload_n (pc := 4) (i := 2) d_X10_count_4 rfl rfl ?_
      refine Tr.aload_n (pc := 5) (i := 0) d_X10_count_5 rfl rfl ?_
      refine Tr.getf (pc := 6) d_X10_count_6 f_10_25 (by decide) (by decide) (ty_27 hS.1.1) ?_
      refine Tr.tp 28 (fx_27_4 hS.1.1) ?_
      refine Tr.iconst (pc := 9) d_X10_count_9 (by decide) ?_
      refine Tr.iald (pc := 10) d_X10_count_10 (ty_28 hS.1.1) (by omega) (by omega) ?_
      refine Tr.gen (P := fun v => 0 ≤ v ∧ v ≤ 3) (ir_28_1 hS.1.2.1) (fun r10 er10 br10 => ?_)
      refine Tr.icmp_ge (pc := 11) (tgt := 38) d_X10_count_11 rfl (fun c11 => ?_) (fun c11 => ?_)
      · refine Tr.iload_n (pc := 38) (i := 1) d_X10_count_38 rfl rfl ?_
        exact Tr.iret (pc := 39) d_X10_count_39 rfl ⟨hS, _, rfl, by omega, by omega⟩
      · refine Tr.iload_n (pc := 14) (i := 1) d_X10_count_14 rfl rfl ?_
        refine Tr.aload_n (pc := 15) (i := 0) d_X10_count_15 rfl rfl ?_
        refine Tr.getf (pc := 16) d_X10_count_16 f_10_30 (by decide) (by decide) (ty_27 hS.1.1) ?_
        refine Tr.tp 33 (fx_27_9 hS.1.1) ?_
        refine Tr.iload_n (pc := 19) (i := 2) d_X10_count_19 rfl rfl ?_
        refine Tr.iald (pc := 20) d_X10_count_20 (ty_33 hS.1.1) (by omega) (by omega) ?_
        refine Tr.gen (P := fun v => (-1) ≤ v ∧ v ≤ 99) (ar_33 hS.1.2.1 _) (fun r20 er20 br20 => ?_)
        refine Tr.aload_n (pc := 21) (i := 0) d_X10_count_21 rfl rfl ?_
        refine Tr.getf (pc := 22) d_X10_count_22 f_10_33 (by decide) (by decide) (ty_27 hS.1.1) ?_
        refine Tr.tp 32 (fx_27_8 hS.1.1) ?_
        refine Tr.iload_n (pc := 25) (i := 2) d_X10_count_25 rfl rfl ?_
        refine Tr.iald (pc := 26) d_X10_count_26 (ty_32 hS.1.1) (by omega) (by omega) ?_
        refine Tr.gen (P := fun v => (-1) ≤ v ∧ v ≤ 99) (ar_32 hS.1.2.1 _) (fun r26 er26 br26 => ?_)
        refine Tr.isub (pc := 27) d_X10_count_27 ?_
        refine Tr.tp (r20 - r26) ((w32_id (by omega)).trans (by omega)) ?_
        refine Tr.iconst (pc := 28) d_X10_count_28 (by decide) ?_
        refine Tr.iadd (pc := 29) d_X10_count_29 ?_
        refine Tr.tp (r20 - r26 + 1) ((w32_id (by omega)).trans (by omega)) ?_
        refine Tr.imul (pc := 30) d_X10_count_30 ?_
        refine Tr.gen (P := fun v => (-2147483648) ≤ v ∧ v ≤ 2147483647) (w32_b _) (fun r30 er30 br30 => ?_)
        refine Tr.istore_n (pc := 31) (i := 1) (ls2 := [(1, (0, r30)), (0, (2, 27)), (2, (0, p4_2))]) d_X10_count_31 rfl (by decide) rfl ?_
        refine Tr.iincV (pc := 32) (n2 := (p4_2 + 1)) (ls2 := [(2, (0, (p4_2 + 1))), (1, (0, r30)), (0, (2, 27))]) d_X10_count_32 rfl (by decide) ((w32_id (by omega)).trans (by omega)) rfl ?_
        refine Tr.goto (pc := 35) (tgt := 4) d_X10_count_35 rfl ?_
        refine Tr.pick [2, 1, 0] (ls2 := [(0, (2, 27)), (1, (0, r30)), (2, (0, (p4_2 + 1)))]) rfl ?_
        exact J4 _ _ _ hS (by omega) (by omega) (by omega)
  refine Tr.pick [2, 1, 0] (ls2 := [(0, (2, 27)), (1, (0, 1)), (2, (0, 0))]) rfl ?_
  exact J4 _ _ _ _ hS (by omega) (by omega) (Nat.lt_succ_self _)

def ws_X10_begin_103_27 : List (Int × Int) := []
def as_X10_begin_103_27 : List Int := [104]
def q_X10_begin_103_27 (M0 M' : Mem) (r : Option PV) : Prop := St Tru ws_X10_begin_103_27 as_X10_begin_103_27 M0 M' ∧ ∃ v : Int, r = some (0, v) ∧ (-2147483648) ≤ v ∧ v ≤ 2147483647
set_option maxRecDepth 100000 in
set_option maxHeartbeats 4000000 in
theorem sp_X10_begin_103_27 {l : Launch} {K : EC} {M0 : Mem} (hI : In Tru M0)    : Tr l K 1 mX10_begin 0 [(0, (2, 103)), (1, (2, 27))] [] M0 (q_X10_begin_103_27 M0) := by
  have hS : St Tru ws_X10_begin_103_27 as_X10_begin_103_27 M0 M0 := St.rf hI
  refine Tr.aload_n (pc := 0) (i := 1) d_X10_begin_0 rfl rfl ?_
  refine Tr.getf (pc := 1) d_X10_begin_1 f_10_33 (by decide) (by decide) (ty_27 hS.1.1) ?_
  refine Tr.tp 32 (fx_27_8 hS.1.1) ?_
  refine Tr.iconst (pc := 4) d_X10_begin_4 (by decide) ?_
  refine Tr.aload_n (pc := 5) (i := 0) d_X10_begin_5 rfl rfl ?_
  refine Tr.getf (pc := 6) d_X10_begin_6 f_10_9 (by decide) (by decide) (ty_103 hS.1.1) ?_
  refine Tr.tp 104 (fx_103_4 hS.1.1) ?_
  refine Tr.iconst (pc := 9) d_X10_begin_9 (by decide) ?_
  refine Tr.iconst (pc := 10) d_X10_begin_10 (by decide) ?_
  refine Tr.acopyS (pc := 11) (x := 32) (y := 104) (P := St Tru ws_X10_begin_103_27 as_X10_begin_103_27 M0) d_X10_begin_11 ac_10_36 acw.1 acw.2.1 acw.2.2 (ty_32 hS.1.1) (ty_104 hS.1.1) (by omega) (by omega) (by omega) (by omega) (by omega) (Nat.le_of_ble_eq_true rfl) (sw_104 hS (by decide) rfl rfl rfl (fun z i hz => by rw [rd_cpy, if_neg (fun c => hz c.1)]) (fun i => by rw [rd_cpy]; split; exact And.intro (by have := ar_32 hS.1.2.1 (0 + (i - 0)); omega) (by have := ar_32 hS.1.2.1 (0 + (i - 0)); omega); exact ar_104 hS.1.2.1 i) trivial) (fun M11 hS w11 => ?_)
  refine Tr.aload_n (pc := 14) (i := 0) d_X10_begin_14 rfl rfl ?_
  refine Tr.getz (pc := 15) d_X10_begin_15 f_10_21 (by decide) (ty_103 hS.1.1) ?_
  refine Tr.gen (P := fun v => 0 ≤ v ∧ v ≤ 1) (ir_103_0 hS.1.2.1) (fun r15 er15 br15 => ?_)
  refine Tr.if_eq (pc := 18) (tgt := 25) d_X10_begin_18 rfl (fun c18 => ?_) (fun c18 => ?_)
  · refine Tr.aload_n (pc := 25) (i := 1) d_X10_begin_25 rfl rfl ?_
    refine Tr.callS (pc := 26) (as := [_]) d_X10_begin_26 s_10_42 ok_X10_count rfl rfl (Nat.le_of_ble_eq_true rfl) (Nat.le_of_ble_eq_true rfl) ?_
    refine Tr.imp (Tr.deep (by decide) (sp_X10_count_27 hS.1 )) ?_
    rintro M26 _ ⟨h26, r26, rfl, lr26, ur26⟩
    have hS := St.tr hS h26 (by decide) (by decide)
    refine Tr.sc [(0, r26)] rfl ?_
    exact Tr.iret (pc := 29) d_X10_begin_29 rfl ⟨hS, _, rfl, by omega, by omega⟩
  · refine Tr.iconst (pc := 21) d_X10_begin_21 (by decide) ?_
    refine Tr.goto (pc := 22) (tgt := 29) d_X10_begin_22 rfl ?_
    exact Tr.iret (pc := 29) d_X10_begin_29 rfl ⟨hS, _, rfl, by omega, by omega⟩

def ws_X6_begin_74_27_104 : List (Int × Int) := [(74, 1), (74, 9), (74, 11), (74, 12), (74, 13), (74, 14), (74, 15), (74, 16), (74, 17), (82, 1)]
def as_X6_begin_74_27_104 : List Int := [75, 76, 78, 79, 80, 81, 83]
def q_X6_begin_74_27_104 (a3 : Int) (M0 M' : Mem) (r : Option PV) : Prop := St Tru ws_X6_begin_74_27_104 as_X6_begin_74_27_104 M0 M' ∧ rd M' 74 1 = 27 ∧ rd M' 82 1 = 27 ∧ r = none
set_option maxRecDepth 100000 in
set_option maxHeartbeats 4000000 in
theorem sp_X6_begin_74_27_104 {l : Launch} {K : EC} {M0 : Mem} (hI : In Tru M0)  (a3 : Int) (ha3 : (-1) ≤ a3 ∧ a3 ≤ (-1))  : Tr l K 2 mX6_begin 0 [(0, (2, 74)), (1, (2, 27)), (2, (2, 104)), (3, (0, a3))] [] M0 (q_X6_begin_74_27_104 a3 M0) := by
  have hS : St Tru ws_X6_begin_74_27_104 as_X6_begin_74_27_104 M0 M0 := St.rf hI
  refine Tr.aload_n (pc := 0) (i := 0) d_X6_begin_0 rfl rfl ?_
  refine Tr.aload_n (pc := 1) (i := 1) d_X6_begin_1 rfl rfl ?_
  refine Tr.putfS (pc := 2) (P := St Tru ws_X6_begin_74_27_104 as_X6_begin_74_27_104 M0) d_X6_begin_2 f_6_46 (by decide) (by decide) (ty_74 hS.1.1) (st_74_1 hS (by decide) (by omega) trivial) (fun M2 hS w2 => ?_)
  refine Tr.aload_n (pc := 5) (i := 2) d_X6_begin_5 rfl rfl ?_
  refine Tr.iconst (pc := 6) d_X6_begin_6 (by decide) ?_
  refine Tr.aload_n (pc := 7) (i := 0) d_X6_begin_7 rfl rfl ?_
  refine Tr.getf (pc := 8) d_X6_begin_8 f_6_9 (by decide) (by decide) (ty_74 hS.1.1) ?_
  refine Tr.tp 75 (fx_74_2 hS.1.1) ?_
  refine Tr.iconst (pc := 11) d_X6_begin_11 (by decide) ?_
  refine Tr.iconst (pc := 12) d_X6_begin_12 (by decide) ?_
  refine Tr.acopyS (pc := 13) (x := 104) (y := 75) (P := St Tru ws_X6_begin_74_27_104 as_X6_begin_74_27_104 M0) d_X6_begin_13 ac_6_85 acw.1 acw.2.1 acw.2.2 (ty_104 hS.1.1) (ty_75 hS.1.1) (by omega) (by omega) (by omega) (by omega) (by omega) (Nat.le_of_ble_eq_true rfl) (sw_75 hS (by decide) rfl rfl rfl (fun z i hz => by rw [rd_cpy, if_neg (fun c => hz c.1)]) (fun i => by rw [rd_cpy]; split; exact And.intro (by have := ar_104 hS.1.2.1 (0 + (i - 0)); omega) (by have := ar_104 hS.1.2.1 (0 + (i - 0)); omega); exact ar_75 hS.1.2.1 i) trivial) (fun M13 hS w13 => ?_)
  refine Tr.aload_n (pc := 16) (i := 0) d_X6_begin_16 rfl rfl ?_
  refine Tr.getf (pc := 17) d_X6_begin_17 f_6_15 (by decide) (by decide) (ty_74 hS.1.1) ?_
  refine Tr.tp 76 (fx_74_3 hS.1.1) ?_
  refine Tr.iconst (pc := 20) d_X6_begin_20 (by decide) ?_
  refine Tr.callS (pc := 21) (as := [_, _]) d_X6_begin_21 s_6_91 ok_J7_fill_53178 rfl rfl (Nat.le_of_ble_eq_true rfl) (Nat.le_of_ble_eq_true rfl) ?_
  refine Tr.imp (sp_fill (N := 6) (ty_76 hS.1.1) (by decide)) ?_
  rintro _ _ ⟨rfl, rfl⟩
  refine Tr.nmA (P := St Tru ws_X6_begin_74_27_104 as_X6_begin_74_27_104 M0) (sf_76 (v := 0) 6 hS (by decide) (by omega) trivial) (fil_wa _ _ _ _) (fun M21 hS w21 => ?_)
  refine Tr.sc [] rfl ?_
  refine Tr.aload_n (pc := 24) (i := 0) d_X6_begin_24 rfl rfl ?_
  refine Tr.getf (pc := 25) d_X6_begin_25 f_6_21 (by decide) (by decide) (ty_74 hS.1.1) ?_
  refine Tr.tp 78 (fx_74_5 hS.1.1) ?_
  refine Tr.iconst (pc := 28) d_X6_begin_28 (by decide) ?_
  refine Tr.callS (pc := 29) (as := [_, _]) d_X6_begin_29 s_6_91 ok_J7_fill_53178 rfl rfl (Nat.le_of_ble_eq_true rfl) (Nat.le_of_ble_eq_true rfl) ?_
  refine Tr.imp (sp_fill (N := 8) (ty_78 hS.1.1) (by decide)) ?_
  rintro _ _ ⟨rfl, rfl⟩
  refine Tr.nmA (P := St Tru ws_X6_begin_74_27_104 as_X6_begin_74_27_104 M0) (sf_78 (v := (-1)) 8 hS (by decide) (by omega) trivial) (fil_wa _ _ _ _) (fun M29 hS w29 => ?_)
  refine Tr.sc [] rfl ?_
  refine Tr.aload_n (pc := 32) (i := 0) d_X6_begin_32 rfl rfl ?_
  refine Tr.getf (pc := 33) d_X6_begin_33 f_6_24 (by decide) (by decide) (ty_74 hS.1.1) ?_
  refine Tr.tp 79 (fx_74_6 hS.1.1) ?_
  refine Tr.iconst (pc := 36) d_X6_begin_36 (by decide) ?_
  refine Tr.callS (pc := 37) (as := [_, _]) d_X6_begin_37 s_6_91 ok_J7_fill_53178 rfl rfl (Nat.le_of_ble_eq_true rfl) (Nat.le_of_ble_eq_true rfl) ?_
  refine Tr.imp (sp_fill (N := 6) (ty_79 hS.1.1) (by decide)) ?_
  rintro _ _ ⟨rfl, rfl⟩
  refine Tr.nmA (P := St Tru ws_X6_begin_74_27_104 as_X6_begin_74_27_104 M0) (sf_79 (v := 0) 6 hS (by decide) (by omega) trivial) (fil_wa _ _ _ _) (fun M37 hS w37 => ?_)
  refine Tr.sc [] rfl ?_
  refine Tr.aload_n (pc := 40) (i := 0) d_X6_begin_40 rfl rfl ?_
  refine Tr.getf (pc := 41) d_X6_begin_41 f_6_27 (by decide) (by decide) (ty_74 hS.1.1) ?_
  refine Tr.tp 80 (fx_74_7 hS.1.1) ?_
  refine Tr.iconst (pc := 44) d_X6_begin_44 (by decide) ?_
  refine Tr.callS (pc := 45) (as := [_, _]) d_X6_begin_45 s_6_91 ok_J7_fill_53178 rfl rfl (Nat.le_of_ble_eq_true rfl) (Nat.le_of_ble_eq_true rfl) ?_
  refine Tr.imp (sp_fill (N := 6) (ty_80 hS.1.1) (by decide)) ?_
  rintro _ _ ⟨rfl, rfl⟩
  refine Tr.nmA (P := St Tru ws_X6_begin_74_27_104 as_X6_begin_74_27_104 M0) (sf_80 (v := 0) 6 hS (by decide) (by omega) trivial) (fil_wa _ _ _ _) (fun M45 hS w45 => ?_)
  refine Tr.sc [] rfl ?_
  refine Tr.aload_n (pc := 48) (i := 0) d_X6_begin_48 rfl rfl ?_
  refine Tr.getf (pc := 49) d_X6_begin_49 f_6_30 (by decide) (by decide) (ty_74 hS.1.1) ?_
  refine Tr.tp 81 (fx_74_8 hS.1.1) ?_
  refine Tr.iconst (pc := 52) d_X6_begin_52 (by decide) ?_
  refine Tr.callS (pc := 53) (as := [_, _]) d_X6_begin_53 s_6_91 ok_J7_fill_53178 rfl rfl (Nat.le_of_ble_eq_true rfl) (Nat.le_of_ble_eq_true rfl) ?_
  refine Tr.imp (sp_fill (N := 6) (ty_81 hS.1.1) (by decide)) ?_
  rintro _ _ ⟨rfl, rfl⟩
  refine Tr.nmA (P := St Tru ws_X6_begin_74_27_104 as_X6_begin_74_27_104 M0) (sf_81 (v := 0) 6 hS (by decide) (by omega) trivial) (fil_wa _ _ _ _) (fun M53 hS w53 => ?_)
  refine Tr.sc [] rfl ?_
  refine Tr.aload_n (pc := 56) (i := 0) d_X6_begin_56 rfl rfl ?_
  refine Tr.iconst (pc := 57) d_X6_begin_57 (by decide) ?_
  refine Tr.putfS (pc := 58) (P := St Tru ws_X6_begin_74_27_104 as_X6_begin_74_27_104 M0) d_X6_begin_58 f_6_68 (by decide) (by decide) (ty_74 hS.1.1) (st_74_9 hS (by decide) (by omega) trivial) (fun M58 hS w58 => ?_)
  refine Tr.aload_n (pc := 61) (i := 0) d_X6_begin_61 rfl rfl ?_
  refine Tr.iconst (pc := 62) d_X6_begin_62 (by decide) ?_
  refine Tr.putfS (pc := 63) (P := St Tru ws_X6_begin_74_27_104 as_X6_begin_74_27_104 M0) d_X6_begin_63 f_6_97 (by decide) (by decide) (ty_74 hS.1.1) (st_74_11 hS (by decide) (by omega) trivial) (fun M63 hS w63 => ?_)
  refine Tr.aload_n (pc := 66) (i := 0) d_X6_begin_66 rfl rfl ?_
  refine Tr.iconst (pc := 67) d_X6_begin_67 (by decide) ?_
  refine Tr.putfS (pc := 68) (P := St Tru ws_X6_begin_74_27_104 as_X6_begin_74_27_104 M0) d_X6_begin_68 f_6_100 (by decide) (by decide) (ty_74 hS.1.1) (st_74_12 hS (by decide) (by omega) trivial) (fun M68 hS w68 => ?_)
  refine Tr.aload_n (pc := 71) (i := 0) d_X6_begin_71 rfl rfl ?_
  refine Tr.iconst (pc := 72) d_X6_begin_72 (by decide) ?_
  refine Tr.putfS (pc := 73) (P := St Tru ws_X6_begin_74_27_104 as_X6_begin_74_27_104 M0) d_X6_begin_73 f_6_103 (by decide) (by decide) (ty_74 hS.1.1) (st_74_13 hS (by decide) (by omega) trivial) (fun M73 hS w73 => ?_)
  refine Tr.aload_n (pc := 76) (i := 0) d_X6_begin_76 rfl rfl ?_
  refine Tr.iconst (pc := 77) d_X6_begin_77 (by decide) ?_
  refine Tr.putfS (pc := 78) (P := St Tru ws_X6_begin_74_27_104 as_X6_begin_74_27_104 M0) d_X6_begin_78 f_6_62 (by decide) (by decide) (ty_74 hS.1.1) (st_74_14 hS (by decide) (by omega) trivial) (fun M78 hS w78 => ?_)
  refine Tr.aload_n (pc := 81) (i := 0) d_X6_begin_81 rfl rfl ?_
  refine Tr.iconst (pc := 82) d_X6_begin_82 (by decide) ?_
  refine Tr.putfS (pc := 83) (P := St Tru ws_X6_begin_74_27_104 as_X6_begin_74_27_104 M0) d_X6_begin_83 f_6_79 (by decide) (by decide) (ty_74 hS.1.1) (st_74_15 hS (by decide) (by omega) trivial) (fun M83 hS w83 => ?_)
  refine Tr.aload_n (pc := 86) (i := 0) d_X6_begin_86 rfl rfl ?_
  refine Tr.iload_n (pc := 87) (i := 3) d_X6_begin_87 rfl rfl ?_
  refine Tr.tp (-1) (by omega) ?_
  refine Tr.if_lt (pc := 88) (tgt := 95) d_X6_begin_88 rfl (fun _ => ?_) (fun hc => absurd (by omega) hc)
  refine Tr.iconst (pc := 95) d_X6_begin_95 (by decide) ?_
  refine Tr.putzS (pc := 96) (P := St Tru ws_X6_begin_74_27_104 as_X6_begin_74_27_104 M0) d_X6_begin_96 f_6_106 (by decide) (ty_74 hS.1.1) (by omega) (st_74_16 hS (by decide) (by omega) trivial) (fun M96 hS w96 => ?_)
  refine Tr.aload_n (pc := 99) (i := 0) d_X6_begin_99 rfl rfl ?_
  refine Tr.iload_n (pc := 100) (i := 3) d_X6_begin_100 rfl rfl ?_
  refine Tr.tp (-1) (by omega) ?_
  refine Tr.putfS (pc := 101) (P := St Tru ws_X6_begin_74_27_104 as_X6_begin_74_27_104 M0) d_X6_begin_101 f_6_110 (by decide) (by decide) (ty_74 hS.1.1) (st_74_17 hS (by decide) (by omega) trivial) (fun M101 hS w101 => ?_)
  refine Tr.aload_n (pc := 104) (i := 0) d_X6_begin_104 rfl rfl ?_
  refine Tr.getf (pc := 105) d_X6_begin_105 f_6_38 (by decide) (by decide) (ty_74 hS.1.1) ?_
  refine Tr.tp 82 (fx_74_0 hS.1.1) ?_
  refine Tr.aload_n (pc := 108) (i := 1) d_X6_begin_108 rfl rfl ?_
  refine Tr.callV (pc := 109) (as := [_]) d_X6_begin_109 s_6_113 ok_X1_begin rfl rfl (Nat.le_of_ble_eq_true rfl) (Nat.le_of_ble_eq_true rfl) (by decide) (ty_82 hS.1.1) ?_
  refine Tr.imp (Tr.deep (by decide) (sp_X1_begin_82_27 hS.1 )) ?_
  rintro M109 _ ⟨h109, o109_82_1, rfl⟩
  have hS := St.tr hS h109 (by decide) (by decide)
  refine Tr.sc [] rfl ?_
  exact Tr.vret (pc := 112) d_X6_begin_112 rfl ⟨hS, ((St.kp h109 (by decide) (by decide) (by decide)).trans ((Wr.b w101 rfl).trans ((Wr.b w96 rfl).trans ((Wr.b w83 rfl).trans ((Wr.b w78 rfl).trans ((Wr.b w73 rfl).trans ((Wr.b w68 rfl).trans ((Wr.b w63 rfl).trans ((Wr.b w58 rfl).trans ((Wa.b w53 rfl).trans ((Wa.b w45 rfl).trans ((Wa.b w37 rfl).trans ((Wa.b w29 rfl).trans ((Wa.b w21 rfl).trans ((Wa.b w13 rfl).trans w2.1))))))))))))))), o109_82_1, rfl⟩
