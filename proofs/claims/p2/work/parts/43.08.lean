def ws_X6_pass_48_w6 : List (Int × Int) := [(48, 9), (48, 14), (48, 17)]
def as_X6_pass_48_w6 : List Int := []
def q_X6_pass_48_w6 (M0 M' : Mem) (r : Option PV) : Prop := St Tru ws_X6_pass_48_w6 as_X6_pass_48_w6 M0 M' ∧ ∃ v : Int, r = some (0, v) ∧ (-2147483648) ≤ v ∧ v ≤ 20
set_option maxRecDepth 100000 in
set_option maxHeartbeats 4000000 in
theorem sp_X6_pass_48_w6 {l : Launch} {K : EC} {M0 : Mem} (hI : In Tru M0) (en_48_1 : rd M0 48 1 = 27) (a1 : Int) (ha1 : (-1) ≤ a1 ∧ a1 ≤ 20) (a2 : Int) (ha2 : (-1) ≤ a2 ∧ a2 ≤ (-1)) (a3 : Int) (ha3 : 0 ≤ a3 ∧ a3 ≤ 0)  : Tr l K 2 mX6_pass 0 [(0, (2, 48)), (1, (0, a1)), (2, (0, a2)), (3, (0, a3))] [] M0 (q_X6_pass_48_w6 M0) := by
  have hS : St Tru ws_X6_pass_48_w6 as_X6_pass_48_w6 M0 M0 := St.rf hI
  refine Tr.iload_n (pc := 0) (i := 1) d_X6_pass_0 rfl rfl ?_
  refine Tr.sipush (pc := 1) d_X6_pass_1 rfl (by decide) ?_
  refine Tr.aload_n (pc := 4) (i := 0) d_X6_pass_4 rfl rfl ?_
  refine Tr.getf (pc := 5) d_X6_pass_5 f_6_68 (by decide) (by decide) (ty_48 hS.1.1) ?_
  refine Tr.gen (P := fun v => (-2147483648) ≤ v ∧ v ≤ 2147483647) (ir_48_9 hS.1.2.1) (fun r5 er5 br5 => ?_)
  refine Tr.isub (pc := 8) d_X6_pass_8 ?_
  refine Tr.gen (P := fun v => (-2147483648) ≤ v ∧ v ≤ 2147483647) (w32_b _) (fun r8 er8 br8 => ?_)
  refine Tr.mmin (pc := 9) d_X6_pass_9 ml_6_158 mw_mmin (Nat.le_of_ble_eq_true rfl) ?_
  refine Tr.gen (P := fun v => (v = a1 ∧ a1 ≤ r8) ∨ (v = r8 ∧ r8 ≤ a1)) (f_min_p _ _) (fun r9 er9 br9 => ?_)
  refine Tr.istore (pc := 12) (i := 4) (ls2 := [(4, (0, r9)), (0, (2, 48)), (1, (0, a1)), (2, (0, a2)), (3, (0, a3))]) d_X6_pass_12 (by decide) rfl ?_
  refine Tr.aload_n (pc := 14) (i := 0) d_X6_pass_14 rfl rfl ?_
  refine Tr.getz (pc := 15) d_X6_pass_15 f_6_106 (by decide) (ty_48 hS.1.1) ?_
  refine Tr.gen (P := fun v => 0 ≤ v ∧ v ≤ 1) (ir_48_16 hS.1.2.1) (fun r15 er15 br15 => ?_)
  have J34 : ∀ (M : Mem) (q34_0 : Int), St Tru ws_X6_pass_48_w6 as_X6_pass_48_w6 M0 M → ((-2147483648) ≤ q34_0 ∧ q34_0 ≤ 20) → rd M 48 16 = r15 → rd M 48 9 = r5 → Tr l K 2 mX6_pass 34 [(0, (2, 48)), (1, (0, a1)), (4, (0, r9))] [(0, q34_0)] M (q_X6_pass_48_w6 M0) := by
    intro M q34_0 hS bq34_0 k34_48_16 k34_48_9
    refine Tr.istore (pc := 34) (i := 5) (ls2 := [(5, (0, q34_0)), (0, (2, 48)), (1, (0, a1)), (4, (0, r9))]) d_X6_pass_34 (by decide) rfl ?_
    refine Tr.aload_n (pc := 36) (i := 0) d_X6_pass_36 rfl rfl ?_
    refine Tr.dup (pc := 37) d_X6_pass_37 ne21 ?_
    refine Tr.getf (pc := 38) d_X6_pass_38 f_6_68 (by decide) (by decide) (ty_48 hS.1.1) ?_
    refine Tr.tp r5 k34_48_9 ?_
    refine Tr.iload (pc := 41) (i := 5) d_X6_pass_41 rfl ?_
    refine Tr.iadd (pc := 43) d_X6_pass_43 ?_
    refine Tr.gen (P := fun v => (-2147483648) ≤ v ∧ v ≤ 2147483647) (w32_b _) (fun r43 er43 br43 => ?_)
    refine Tr.putfS (pc := 44) (P := St Tru ws_X6_pass_48_w6 as_X6_pass_48_w6 M0) d_X6_pass_44 f_6_68 (by decide) (by decide) (ty_48 hS.1.1) (st_48_9 hS (by decide) (by omega) trivial) (fun M44 hS w44 => ?_)
    refine Tr.iload (pc := 47) (i := 5) d_X6_pass_47 rfl ?_
    refine Tr.iload_n (pc := 49) (i := 1) d_X6_pass_49 rfl rfl ?_
    refine Tr.icmp_ge (pc := 50) (tgt := 69) d_X6_pass_50 rfl (fun c50 => ?_) (fun c50 => ?_)
    · refine Tr.iload (pc := 69) (i := 5) d_X6_pass_69 rfl ?_
      exact Tr.iret (pc := 71) d_X6_pass_71 rfl ⟨hS, _, rfl, by omega, by omega⟩
    · refine Tr.aload_n (pc := 53) (i := 0) d_X6_pass_53 rfl rfl ?_
      refine Tr.iload (pc := 54) (i := 5) d_X6_pass_54 rfl ?_
      refine Tr.iload (pc := 56) (i := 4) d_X6_pass_56 rfl ?_
      refine Tr.icmp_ne (pc := 58) (tgt := 65) d_X6_pass_58 rfl (fun c58 => ?_) (fun c58 => ?_)
      · refine Tr.iconst (pc := 65) d_X6_pass_65 (by decide) ?_
        refine Tr.putfS (pc := 66) (P := St Tru ws_X6_pass_48_w6 as_X6_pass_48_w6 M0) d_X6_pass_66 f_6_62 (by decide) (by decide) (ty_48 hS.1.1) (st_48_14 hS (by decide) (by omega) trivial) (fun M66 hS w66 => ?_)
        refine Tr.iload (pc := 69) (i := 5) d_X6_pass_69 rfl ?_
        exact Tr.iret (pc := 71) d_X6_pass_71 rfl ⟨hS, _, rfl, by omega, by omega⟩
      · refine Tr.iconst (pc := 61) d_X6_pass_61 (by decide) ?_
        refine Tr.goto (pc := 62) (tgt := 66) d_X6_pass_62 rfl ?_
        refine Tr.putfS (pc := 66) (P := St Tru ws_X6_pass_48_w6 as_X6_pass_48_w6 M0) d_X6_pass_66 f_6_62 (by decide) (by decide) (ty_48 hS.1.1) (st_48_14 hS (by decide) (by omega) trivial) (fun M66 hS w66 => ?_)
        refine Tr.iload (pc := 69) (i := 5) d_X6_pass_69 rfl ?_
        exact Tr.iret (pc := 71) d_X6_pass_71 rfl ⟨hS, _, rfl, by omega, by omega⟩
  refine Tr.if_eq (pc := 18) (tgt := 32) d_X6_pass_18 rfl (fun c18 => ?_) (fun c18 => ?_)
  · refine Tr.iload (pc := 32) (i := 4) d_X6_pass_32 rfl ?_
    refine Tr.pick [1, 2, 0] (ls2 := [(0, (2, 48)), (1, (0, a1)), (4, (0, r9))]) rfl ?_
    exact J34 _ _ hS (by omega) er15 er5
  · refine Tr.aload_n (pc := 21) (i := 0) d_X6_pass_21 rfl rfl ?_
    refine Tr.iload (pc := 22) (i := 4) d_X6_pass_22 rfl ?_
    refine Tr.iload_n (pc := 24) (i := 2) d_X6_pass_24 rfl rfl ?_
    refine Tr.tp (-1) (by omega) ?_
    refine Tr.iload_n (pc := 25) (i := 3) d_X6_pass_25 rfl rfl ?_
    refine Tr.tp 0 (by omega) ?_
    refine Tr.callV (pc := 26) (as := [_, _, _]) d_X6_pass_26 s_6_183 ok_X6_afforded rfl rfl (Nat.le_of_ble_eq_true rfl) (Nat.le_of_ble_eq_true rfl) (by decide) (ty_48 hS.1.1) ?_
    refine Tr.imp (Tr.deep (by decide) (sp_X6_afforded_48_w6 hS.1 ((St.kp hS (by decide) (by decide) (by decide)).trans en_48_1) r9 (by omega) (-1) (by omega) 0 (by omega))) ?_
    rintro M26 _ ⟨h26, r26, rfl, lr26, ur26⟩
    have hS := St.tr hS h26 (by decide) (by decide)
    refine Tr.sc [(0, r26)] rfl ?_
    refine Tr.goto (pc := 29) (tgt := 34) d_X6_pass_29 rfl ?_
    refine Tr.pick [1, 2, 0] (ls2 := [(0, (2, 48)), (1, (0, a1)), (4, (0, r9))]) rfl ?_
    exact J34 _ _ hS (by omega) ((St.kp h26 (by decide) (by decide) (by decide)).trans er15) ((St.kp h26 (by decide) (by decide) (by decide)).trans er5)

def ws_X6_touch_48_w1 : List (Int × Int) := [(48, 9), (48, 12), (48, 13), (48, 14), (48, 17)]
def as_X6_touch_48_w1 : List Int := [52]
def q_X6_touch_48_w1 (M0 M' : Mem) (r : Option PV) : Prop := St Tru ws_X6_touch_48_w1 as_X6_touch_48_w1 M0 M' ∧ r = none
set_option maxRecDepth 100000 in
set_option maxHeartbeats 4000000 in
theorem sp_X6_touch_48_w1 {l : Launch} {K : EC} {M0 : Mem} (hI : In Tru M0) (en_48_1 : rd M0 48 1 = 27) (a1 : Int) (ha1 : 0 ≤ a1 ∧ a1 ≤ 999)  : Tr l K 3 mX6_touch 0 [(0, (2, 48)), (1, (0, a1))] [] M0 (q_X6_touch_48_w1 M0) := by
  have hS : St Tru ws_X6_touch_48_w1 as_X6_touch_48_w1 M0 M0 := St.rf hI
  refine Tr.aload_n (pc := 0) (i := 0) d_X6_touch_0 rfl rfl ?_
  refine Tr.dup (pc := 1) d_X6_touch_1 ne21 ?_
  refine Tr.getf (pc := 2) d_X6_touch_2 f_6_103 (by decide) (by decide) (ty_48 hS.1.1) ?_
  refine Tr.gen (P := fun v => (-2147483648) ≤ v ∧ v ≤ 2147483647) (ir_48_13 hS.1.2.1) (fun r2 er2 br2 => ?_)
  refine Tr.iconst (pc := 5) d_X6_touch_5 (by decide) ?_
  refine Tr.iadd (pc := 6) d_X6_touch_6 ?_
  refine Tr.gen (P := fun v => (-2147483648) ≤ v ∧ v ≤ 2147483647) (w32_b _) (fun r6 er6 br6 => ?_)
  refine Tr.putfS (pc := 7) (P := St Tru ws_X6_touch_48_w1 as_X6_touch_48_w1 M0) d_X6_touch_7 f_6_103 (by decide) (by decide) (ty_48 hS.1.1) (st_48_13 hS (by decide) (by omega) trivial) (fun M7 hS w7 => ?_)
  refine Tr.aload_n (pc := 10) (i := 0) d_X6_touch_10 rfl rfl ?_
  refine Tr.getf (pc := 11) d_X6_touch_11 f_6_46 (by decide) (by decide) (ty_48 hS.1.1) ?_
  refine Tr.tp 27 ((St.kp hS (by decide) (by decide) (by decide)).trans en_48_1) ?_
  refine Tr.getf (pc := 14) d_X6_touch_14 f_6_217 (by decide) (by decide) (ty_27 hS.1.1) ?_
  refine Tr.gen (P := fun v => (-1) ≤ v ∧ v ≤ 8) (ir_27_2 hS.1.2.1) (fun r14 er14 br14 => ?_)
  refine Tr.if_le (pc := 17) (tgt := 42) d_X6_touch_17 rfl (fun c17 => ?_) (fun c17 => ?_)
  · exact Tr.vret (pc := 42) d_X6_touch_42 rfl ⟨hS, rfl⟩
  · refine Tr.aload_n (pc := 20) (i := 0) d_X6_touch_20 rfl rfl ?_
    refine Tr.getf (pc := 21) d_X6_touch_21 f_6_46 (by decide) (by decide) (ty_48 hS.1.1) ?_
    refine Tr.tp 27 ((St.kp hS (by decide) (by decide) (by decide)).trans en_48_1) ?_
    refine Tr.getf (pc := 24) d_X6_touch_24 f_6_220 (by decide) (by decide) (ty_27 hS.1.1) ?_
    refine Tr.gen (P := fun v => (-1) ≤ v ∧ v ≤ 8) (ir_27_1 hS.1.2.1) (fun r24 er24 br24 => ?_)
    refine Tr.if_le (pc := 27) (tgt := 42) d_X6_touch_27 rfl (fun c27 => ?_) (fun c27 => ?_)
    · exact Tr.vret (pc := 42) d_X6_touch_42 rfl ⟨hS, rfl⟩
    · refine Tr.aload_n (pc := 30) (i := 0) d_X6_touch_30 rfl rfl ?_
      refine Tr.getf (pc := 31) d_X6_touch_31 f_6_46 (by decide) (by decide) (ty_48 hS.1.1) ?_
      refine Tr.tp 27 ((St.kp hS (by decide) (by decide) (by decide)).trans en_48_1) ?_
      refine Tr.getf (pc := 34) d_X6_touch_34 f_6_220 (by decide) (by decide) (ty_27 hS.1.1) ?_
      refine Tr.tp r24 er24 ?_
      refine Tr.bipush (pc := 37) d_X6_touch_37 rfl (by decide) ?_
      refine Tr.icmp_le (pc := 39) (tgt := 43) d_X6_touch_39 rfl (fun _ => ?_) (fun hc => absurd (by omega) hc)
      refine Tr.iload_n (pc := 43) (i := 1) d_X6_touch_43 rfl rfl ?_
      refine Tr.aload_n (pc := 44) (i := 0) d_X6_touch_44 rfl rfl ?_
      refine Tr.getf (pc := 45) d_X6_touch_45 f_6_46 (by decide) (by decide) (ty_48 hS.1.1) ?_
      refine Tr.tp 27 ((St.kp hS (by decide) (by decide) (by decide)).trans en_48_1) ?_
      refine Tr.getf (pc := 48) d_X6_touch_48 f_6_217 (by decide) (by decide) (ty_27 hS.1.1) ?_
      refine Tr.tp r14 er14 ?_
      refine Tr.idiv (pc := 51) d_X6_touch_51 (by omega) ?_
      refine Tr.gen (P := fun v => 0 ≤ v ∧ v ≤ 999) (div32_p (A := 999) (by omega) (by omega) (by omega) (by omega)) (fun r51 er51 br51 => ?_)
      refine Tr.istore_n (pc := 52) (i := 2) (ls2 := [(2, (0, r51)), (0, (2, 48)), (1, (0, a1))]) d_X6_touch_52 rfl (by decide) rfl ?_
      refine Tr.iload_n (pc := 53) (i := 2) d_X6_touch_53 rfl rfl ?_
      refine Tr.aload_n (pc := 54) (i := 0) d_X6_touch_54 rfl rfl ?_
      refine Tr.getf (pc := 55) d_X6_touch_55 f_6_46 (by decide) (by decide) (ty_48 hS.1.1) ?_
      refine Tr.tp 27 ((St.kp hS (by decide) (by decide) (by decide)).trans en_48_1) ?_
      refine Tr.getf (pc := 58) d_X6_touch_58 f_6_220 (by decide) (by decide) (ty_27 hS.1.1) ?_
      refine Tr.tp r24 er24 ?_
      refine Tr.irem (pc := 61) d_X6_touch_61 (by omega) ?_
      refine Tr.gen (P := fun v => 0 ≤ v ∧ v ≤ 7) (rem_p (A := 7) (by omega) (by omega) (by omega)) (fun r61 er61 br61 => ?_)
      refine Tr.istore_n (pc := 62) (i := 3) (ls2 := [(3, (0, r61)), (2, (0, r51)), (0, (2, 48)), (1, (0, a1))]) d_X6_touch_62 rfl (by decide) rfl ?_
      refine Tr.aload_n (pc := 63) (i := 0) d_X6_touch_63 rfl rfl ?_
      refine Tr.getf (pc := 64) d_X6_touch_64 f_6_21 (by decide) (by decide) (ty_48 hS.1.1) ?_
      refine Tr.tp 52 (fx_48_5 hS.1.1) ?_
      refine Tr.iload_n (pc := 67) (i := 3) d_X6_touch_67 rfl rfl ?_
      refine Tr.iald (pc := 68) d_X6_touch_68 (ty_52 hS.1.1) (by omega) (by omega) ?_
      refine Tr.gen (P := fun v => (-2147483648) ≤ v ∧ v ≤ 2147483647) (ar_52 hS.1.2.1 _) (fun r68 er68 br68 => ?_)
      refine Tr.iload_n (pc := 69) (i := 2) d_X6_touch_69 rfl rfl ?_
      refine Tr.icmp_eq (pc := 70) (tgt := 104) d_X6_touch_70 rfl (fun c70 => ?_) (fun c70 => ?_)
      · exact Tr.vret (pc := 104) d_X6_touch_104 rfl ⟨hS, rfl⟩
      · refine Tr.aload_n (pc := 73) (i := 0) d_X6_touch_73 rfl rfl ?_
        refine Tr.dup (pc := 74) d_X6_touch_74 ne21 ?_
        refine Tr.getf (pc := 75) d_X6_touch_75 f_6_100 (by decide) (by decide) (ty_48 hS.1.1) ?_
        refine Tr.gen (P := fun v => (-2147483648) ≤ v ∧ v ≤ 2147483647) (ir_48_12 hS.1.2.1) (fun r75 er75 br75 => ?_)
        refine Tr.iconst (pc := 78) d_X6_touch_78 (by decide) ?_
        refine Tr.iadd (pc := 79) d_X6_touch_79 ?_
        refine Tr.gen (P := fun v => (-2147483648) ≤ v ∧ v ≤ 2147483647) (w32_b _) (fun r79 er79 br79 => ?_)
        refine Tr.putfS (pc := 80) (P := St Tru ws_X6_touch_48_w1 as_X6_touch_48_w1 M0) d_X6_touch_80 f_6_100 (by decide) (by decide) (ty_48 hS.1.1) (st_48_12 hS (by decide) (by omega) trivial) (fun M80 hS w80 => ?_)
        refine Tr.aload_n (pc := 83) (i := 0) d_X6_touch_83 rfl rfl ?_
        refine Tr.getf (pc := 84) d_X6_touch_84 f_6_21 (by decide) (by decide) (ty_48 hS.1.1) ?_
        refine Tr.tp 52 (fx_48_5 hS.1.1) ?_
        refine Tr.iload_n (pc := 87) (i := 3) d_X6_touch_87 rfl rfl ?_
        refine Tr.iload_n (pc := 88) (i := 2) d_X6_touch_88 rfl rfl ?_
        refine Tr.iastS (pc := 89) (P := St Tru ws_X6_touch_48_w1 as_X6_touch_48_w1 M0) d_X6_touch_89 (ty_52 hS.1.1) (by omega) (by omega) (sa_52 hS (by decide) (by omega) trivial) (fun M89 hS w89 => ?_)
        refine Tr.aload_n (pc := 90) (i := 0) d_X6_touch_90 rfl rfl ?_
        refine Tr.aload_n (pc := 91) (i := 0) d_X6_touch_91 rfl rfl ?_
        refine Tr.getf (pc := 92) d_X6_touch_92 f_6_46 (by decide) (by decide) (ty_48 hS.1.1) ?_
        refine Tr.tp 27 ((St.kp hS (by decide) (by decide) (by decide)).trans en_48_1) ?_
        refine Tr.getf (pc := 95) d_X6_touch_95 f_6_223 (by decide) (by decide) (ty_27 hS.1.1) ?_
        refine Tr.gen (P := fun v => (-1) ≤ v ∧ v ≤ 20) (ir_27_3 hS.1.2.1) (fun r95 er95 br95 => ?_)
        refine Tr.iconst (pc := 98) d_X6_touch_98 (by decide) ?_
        refine Tr.iconst (pc := 99) d_X6_touch_99 (by decide) ?_
        refine Tr.callV (pc := 100) (as := [_, _, _]) d_X6_touch_100 s_6_145 ok_X6_pass rfl rfl (Nat.le_of_ble_eq_true rfl) (Nat.le_of_ble_eq_true rfl) (by decide) (ty_48 hS.1.1) ?_
        refine Tr.imp (Tr.deep (by decide) (sp_X6_pass_48_w6 hS.1 ((St.kp hS (by decide) (by decide) (by decide)).trans en_48_1) r95 (by omega) (-1) (by omega) 0 (by omega))) ?_
        rintro M100 _ ⟨h100, r100, rfl, lr100, ur100⟩
        have hS := St.tr hS h100 (by decide) (by decide)
        refine Tr.sc [(0, r100)] rfl ?_
        refine Tr.pop (pc := 103) d_X6_touch_103 ne01 ?_
        exact Tr.vret (pc := 104) d_X6_touch_104 rfl ⟨hS, rfl⟩

def ws_X6_afforded_48_w7 : List (Int × Int) := [(48, 17)]
def as_X6_afforded_48_w7 : List Int := []
def q_X6_afforded_48_w7 (M0 M' : Mem) (r : Option PV) : Prop := St Tru ws_X6_afforded_48_w7 as_X6_afforded_48_w7 M0 M' ∧ ∃ v : Int, r = some (0, v) ∧ (-2147483648) ≤ v ∧ v ≤ 100
set_option maxRecDepth 100000 in
set_option maxHeartbeats 4000000 in
theorem sp_X6_afforded_48_w7 {l : Launch} {K : EC} {M0 : Mem} (hI : In Tru M0) (en_48_1 : rd M0 48 1 = 27) (a1 : Int) (ha1 : (-2147483648) ≤ a1 ∧ a1 ≤ 100) (a2 : Int) (ha2 : (-1) ≤ a2 ∧ a2 ≤ (-1)) (a3 : Int) (ha3 : 0 ≤ a3 ∧ a3 ≤ 0)  : Tr l K 1 mX6_afforded 0 [(0, (2, 48)), (1, (0, a1)), (2, (0, a2)), (3, (0, a3))] [] M0 (q_X6_afforded_48_w7 M0) := by
  have hS : St Tru ws_X6_afforded_48_w7 as_X6_afforded_48_w7 M0 M0 := St.rf hI
  refine Tr.iconst (pc := 0) d_X6_afforded_0 (by decide) ?_
  refine Tr.istore (pc := 1) (i := 4) (ls2 := [(4, (0, 0)), (0, (2, 48)), (1, (0, a1)), (2, (0, a2)), (3, (0, a3))]) d_X6_afforded_1 (by decide) rfl ?_
  have J3 : ∀ (n3 : Nat) (M : Mem) (p3_4 : Int), St Tru ws_X6_afforded_48_w7 as_X6_afforded_48_w7 M0 M → (0 ≤ p3_4 ∧ p3_4 ≤ 100) → (100 - p3_4).toNat < n3 → Tr l K 1 mX6_afforded 3 [(0, (2, 48)), (1, (0, a1)), (2, (0, a2)), (3, (0, a3)), (4, (0, p3_4))] [] M (q_X6_afforded_48_w7 M0) := by
    intro n3
    induction n3 with
    | zero => intro M p3_4 hS bp3_4  hm3; exact absurd hm3 (Nat.not_lt_zero _)
    | succ n3 J3 =>
      intro M p3_4 hS bp3_4  hm3
      refine Tr.iload (pc := 3) (i := 4) d_X6_afforded_3 rfl ?_
      refine Tr.iload_n (pc := 5) (i := 1) d_X6_afforded_5 rfl rfl ?_
      refine Tr.icmp_ge (pc := 6) (tgt := 53) d_X6_afforded_6 rfl (fun c6 => ?_) (fun c6 => ?_)
      · refine Tr.iload_n (pc := 53) (i := 1) d_X6_afforded_53 rfl rfl ?_
        exact Tr.iret (pc := 54) d_X6_afforded_54 rfl ⟨hS, _, rfl, by omega, by omega⟩
      · refine Tr.aload_n (pc := 9) (i := 0) d_X6_afforded_9 rfl rfl ?_
        refine Tr.aload_n (pc := 10) (i := 0) d_X6_afforded_10 rfl rfl ?_
        refine Tr.getf (pc := 11) d_X6_afforded_11 f_6_68 (by decide) (by decide) (ty_48 hS.1.1) ?_
        refine Tr.gen (P := fun v => (-2147483648) ≤ v ∧ v ≤ 2147483647) (ir_48_9 hS.1.2.1) (fun r11 er11 br11 => ?_)
        refine Tr.iload (pc := 14) (i := 4) d_X6_afforded_14 rfl ?_
        refine Tr.iadd (pc := 16) d_X6_afforded_16 ?_
        refine Tr.gen (P := fun v => (-2147483648) ≤ v ∧ v ≤ 2147483647) (w32_b _) (fun r16 er16 br16 => ?_)
        refine Tr.iload_n (pc := 17) (i := 2) d_X6_afforded_17 rfl rfl ?_
        refine Tr.tp (-1) (by omega) ?_
        refine Tr.iload_n (pc := 18) (i := 3) d_X6_afforded_18 rfl rfl ?_
        refine Tr.tp 0 (by omega) ?_
        refine Tr.callV (pc := 19) (as := [_, _, _]) d_X6_afforded_19 s_6_186 ok_X6_sipsAt rfl rfl (Nat.le_of_ble_eq_true rfl) (Nat.le_of_ble_eq_true rfl) (by decide) (ty_48 hS.1.1) ?_
        refine Tr.imp (Tr.deep (by decide) (sp_X6_sipsAt_48_w3 hS.1 ((St.kp hS (by decide) (by decide) (by decide)).trans en_48_1) r16 (by omega) (-1) (by omega) 0 (by omega))) ?_
        rintro M19 _ ⟨h19, r19, rfl, lr19, ur19⟩
        have hS := St.tr hS h19 (by decide) (by decide)
        refine Tr.sc [(0, r19)] rfl ?_
        refine Tr.istore (pc := 22) (i := 5) (ls2 := [(5, (0, r19)), (0, (2, 48)), (1, (0, a1)), (2, (0, a2)), (3, (0, a3)), (4, (0, p3_4))]) d_X6_afforded_22 (by decide) rfl ?_
        refine Tr.iload (pc := 24) (i := 5) d_X6_afforded_24 rfl ?_
        refine Tr.aload_n (pc := 26) (i := 0) d_X6_afforded_26 rfl rfl ?_
        refine Tr.getf (pc := 27) d_X6_afforded_27 f_6_110 (by decide) (by decide) (ty_48 hS.1.1) ?_
        refine Tr.gen (P := fun v => (-2147483648) ≤ v ∧ v ≤ 2147483647) (ir_48_17 hS.1.2.1) (fun r27 er27 br27 => ?_)
        refine Tr.icmp_le (pc := 30) (tgt := 36) d_X6_afforded_30 rfl (fun c30 => ?_) (fun c30 => ?_)
        · refine Tr.aload_n (pc := 36) (i := 0) d_X6_afforded_36 rfl rfl ?_
          refine Tr.dup (pc := 37) d_X6_afforded_37 ne21 ?_
          refine Tr.getf (pc := 38) d_X6_afforded_38 f_6_110 (by decide) (by decide) (ty_48 hS.1.1) ?_
          refine Tr.tp r27 er27 ?_
          refine Tr.iload (pc := 41) (i := 5) d_X6_afforded_41 rfl ?_
          refine Tr.isub (pc := 43) d_X6_afforded_43 ?_
          refine Tr.gen (P := fun v => (-2147483648) ≤ v ∧ v ≤ 2147483647) (w32_b _) (fun r43 er43 br43 => ?_)
          refine Tr.putfS (pc := 44) (P := St Tru ws_X6_afforded_48_w7 as_X6_afforded_48_w7 M0) d_X6_afforded_44 f_6_110 (by decide) (by decide) (ty_48 hS.1.1) (st_48_17 hS (by decide) (by omega) trivial) (fun M44 hS w44 => ?_)
          refine Tr.iincV (pc := 47) (n2 := (p3_4 + 1)) (ls2 := [(4, (0, (p3_4 + 1))), (5, (0, r19)), (0, (2, 48)), (1, (0, a1)), (2, (0, a2)), (3, (0, a3))]) d_X6_afforded_47 rfl (by decide) ((w32_id (by omega)).trans (by omega)) rfl ?_
          refine Tr.goto (pc := 50) (tgt := 3) d_X6_afforded_50 rfl ?_
          refine Tr.pick [2, 3, 4, 5, 0] (ls2 := [(0, (2, 48)), (1, (0, a1)), (2, (0, a2)), (3, (0, a3)), (4, (0, (p3_4 + 1)))]) rfl ?_
          exact J3 _ _ hS (by omega) (by omega)
        · refine Tr.iload (pc := 33) (i := 4) d_X6_afforded_33 rfl ?_
          exact Tr.iret (pc := 35) d_X6_afforded_35 rfl ⟨hS, _, rfl, by omega, by omega⟩
  refine Tr.pick [1, 2, 3, 4, 0] (ls2 := [(0, (2, 48)), (1, (0, a1)), (2, (0, a2)), (3, (0, a3)), (4, (0, 0))]) rfl ?_
  exact J3 _ _ _ hS (by omega) (Nat.lt_succ_self _)

def ws_X6_pass_48_w7 : List (Int × Int) := [(48, 9), (48, 14), (48, 17)]
def as_X6_pass_48_w7 : List Int := []
def q_X6_pass_48_w7 (M0 M' : Mem) (r : Option PV) : Prop := St Tru ws_X6_pass_48_w7 as_X6_pass_48_w7 M0 M' ∧ ∃ v : Int, r = some (0, v) ∧ (-2147483648) ≤ v ∧ v ≤ 100
set_option maxRecDepth 100000 in
set_option maxHeartbeats 4000000 in
theorem sp_X6_pass_48_w7 {l : Launch} {K : EC} {M0 : Mem} (hI : In Tru M0) (en_48_1 : rd M0 48 1 = 27) (a1 : Int) (ha1 : 0 ≤ a1 ∧ a1 ≤ 100) (a2 : Int) (ha2 : (-1) ≤ a2 ∧ a2 ≤ (-1)) (a3 : Int) (ha3 : 0 ≤ a3 ∧ a3 ≤ 0)  : Tr l K 2 mX6_pass 0 [(0, (2, 48)), (1, (0, a1)), (2, (0, a2)), (3, (0, a3))] [] M0 (q_X6_pass_48_w7 M0) := by
  have hS : St Tru ws_X6_pass_48_w7 as_X6_pass_48_w7 M0 M0 := St.rf hI
  refine Tr.iload_n (pc := 0) (i := 1) d_X6_pass_0 rfl rfl ?_
  refine Tr.sipush (pc := 1) d_X6_pass_1 rfl (by decide) ?_
  refine Tr.aload_n (pc := 4) (i := 0) d_X6_pass_4 rfl rfl ?_
  refine Tr.getf (pc := 5) d_X6_pass_5 f_6_68 (by decide) (by decide) (ty_48 hS.1.1) ?_
  refine Tr.gen (P := fun v => (-2147483648) ≤ v ∧ v ≤ 2147483647) (ir_48_9 hS.1.2.1) (fun r5 er5 br5 => ?_)
  refine Tr.isub (pc := 8) d_X6_pass_8 ?_
  refine Tr.gen (P := fun v => (-2147483648) ≤ v ∧ v ≤ 2147483647) (w32_b _) (fun r8 er8 br8 => ?_)
  refine Tr.mmin (pc := 9) d_X6_pass_9 ml_6_158 mw_mmin (Nat.le_of_ble_eq_true rfl) ?_
  refine Tr.gen (P := fun v => (v = a1 ∧ a1 ≤ r8) ∨ (v = r8 ∧ r8 ≤ a1)) (f_min_p _ _) (fun r9 er9 br9 => ?_)
  refine Tr.istore (pc := 12) (i := 4) (ls2 := [(4, (0, r9)), (0, (2, 48)), (1, (0, a1)), (2, (0, a2)), (3, (0, a3))]) d_X6_pass_12 (by decide) rfl ?_
  refine Tr.aload_n (pc := 14) (i := 0) d_X6_pass_14 rfl rfl ?_
  refine Tr.getz (pc := 15) d_X6_pass_15 f_6_106 (by decide) (ty_48 hS.1.1) ?_
  refine Tr.gen (P := fun v => 0 ≤ v ∧ v ≤ 1) (ir_48_16 hS.1.2.1) (fun r15 er15 br15 => ?_)
  have J34 : ∀ (M : Mem) (q34_0 : Int), St Tru ws_X6_pass_48_w7 as_X6_pass_48_w7 M0 M → ((-2147483648) ≤ q34_0 ∧ q34_0 ≤ 100) → rd M 48 16 = r15 → rd M 48 9 = r5 → Tr l K 2 mX6_pass 34 [(0, (2, 48)), (1, (0, a1)), (4, (0, r9))] [(0, q34_0)] M (q_X6_pass_48_w7 M0) := by
    intro M q34_0 hS bq34_0 k34_48_16 k34_48_9
    refine Tr.istore (pc := 34) (i := 5) (ls2 := [(5, (0, q34_0)), (0, (2, 48)), (1, (0, a1)), (4, (0, r9))]) d_X6_pass_34 (by decide) rfl ?_
    refine Tr.aload_n (pc := 36) (i := 0) d_X6_pass_36 rfl rfl ?_
    refine Tr.dup (pc := 37) d_X6_pass_37 ne21 ?_
    refine Tr.getf (pc := 38) d_X6_pass_38 f_6_68 (by decide) (by decide) (ty_48 hS.1.1) ?_
    refine Tr.tp r5 k34_48_9 ?_
    refine Tr.iload (pc := 41) (i := 5) d_X6_pass_41 rfl ?_
    refine Tr.iadd (pc := 43) d_X6_pass_43 ?_
    refine Tr.gen (P := fun v => (-2147483648) ≤ v ∧ v ≤ 2147483647) (w32_b _) (fun r43 er43 br43 => ?_)
    refine Tr.putfS (pc := 44) (P := St Tru ws_X6_pass_48_w7 as_X6_pass_48_w7 M0) d_X6_pass_44 f_6_68 (by decide) (by decide) (ty_48 hS.1.1) (st_48_9 hS (by decide) (by omega) trivial) (fun M44 hS w44 => ?_)
    refine Tr.iload (pc := 47) (i := 5) d_X6_pass_47 rfl ?_
    refine Tr.iload_n (pc := 49) (i := 1) d_X6_pass_49 rfl rfl ?_
    refine Tr.icmp_ge (pc := 50) (tgt := 69) d_X6_pass_50 rfl (fun c50 => ?_) (fun c50 => ?_)
    · refine Tr.iload (pc := 69) (i := 5) d_X6_pass_69 rfl ?_
      exact Tr.iret (pc := 71) d_X6_pass_71 rfl ⟨hS, _, rfl, by omega, by omega⟩
    · refine Tr.aload_n (pc := 53) (i := 0) d_X6_pass_53 rfl rfl ?_
      refine Tr.iload (pc := 54) (i := 5) d_X6_pass_54 rfl ?_
      refine Tr.iload (pc := 56) (i := 4) d_X6_pass_56 rfl ?_
      refine Tr.icmp_ne (pc := 58) (tgt := 65) d_X6_pass_58 rfl (fun c58 => ?_) (fun c58 => ?_)
      · refine Tr.iconst (pc := 65) d_X6_pass_65 (by decide) ?_
        refine Tr.putfS (pc := 66) (P := St Tru ws_X6_pass_48_w7 as_X6_pass_48_w7 M0) d_X6_pass_66 f_6_62 (by decide) (by decide) (ty_48 hS.1.1) (st_48_14 hS (by decide) (by omega) trivial) (fun M66 hS w66 => ?_)
        refine Tr.iload (pc := 69) (i := 5) d_X6_pass_69 rfl ?_
        exact Tr.iret (pc := 71) d_X6_pass_71 rfl ⟨hS, _, rfl, by omega, by omega⟩
      · refine Tr.iconst (pc := 61) d_X6_pass_61 (by decide) ?_
        refine Tr.goto (pc := 62) (tgt := 66) d_X6_pass_62 rfl ?_
        refine Tr.putfS (pc := 66) (P := St Tru ws_X6_pass_48_w7 as_X6_pass_48_w7 M0) d_X6_pass_66 f_6_62 (by decide) (by decide) (ty_48 hS.1.1) (st_48_14 hS (by decide) (by omega) trivial) (fun M66 hS w66 => ?_)
        refine Tr.iload (pc := 69) (i := 5) d_X6_pass_69 rfl ?_
        exact Tr.iret (pc := 71) d_X6_pass_71 rfl ⟨hS, _, rfl, by omega, by omega⟩
  refine Tr.if_eq (pc := 18) (tgt := 32) d_X6_pass_18 rfl (fun c18 => ?_) (fun c18 => ?_)
  · refine Tr.iload (pc := 32) (i := 4) d_X6_pass_32 rfl ?_
    refine Tr.pick [1, 2, 0] (ls2 := [(0, (2, 48)), (1, (0, a1)), (4, (0, r9))]) rfl ?_
    exact J34 _ _ hS (by omega) er15 er5
  · refine Tr.aload_n (pc := 21) (i := 0) d_X6_pass_21 rfl rfl ?_
    refine Tr.iload (pc := 22) (i := 4) d_X6_pass_22 rfl ?_
    refine Tr.iload_n (pc := 24) (i := 2) d_X6_pass_24 rfl rfl ?_
    refine Tr.tp (-1) (by omega) ?_
    refine Tr.iload_n (pc := 25) (i := 3) d_X6_pass_25 rfl rfl ?_
    refine Tr.tp 0 (by omega) ?_
    refine Tr.callV (pc := 26) (as := [_, _, _]) d_X6_pass_26 s_6_183 ok_X6_afforded rfl rfl (Nat.le_of_ble_eq_true rfl) (Nat.le_of_ble_eq_true rfl) (by decide) (ty_48 hS.1.1) ?_
    refine Tr.imp (Tr.deep (by decide) (sp_X6_afforded_48_w7 hS.1 ((St.kp hS (by decide) (by decide) (by decide)).trans en_48_1) r9 (by omega) (-1) (by omega) 0 (by omega))) ?_
    rintro M26 _ ⟨h26, r26, rfl, lr26, ur26⟩
    have hS := St.tr hS h26 (by decide) (by decide)
    refine Tr.sc [(0, r26)] rfl ?_
    refine Tr.goto (pc := 29) (tgt := 34) d_X6_pass_29 rfl ?_
    refine Tr.pick [1, 2, 0] (ls2 := [(0, (2, 48)), (1, (0, a1)), (4, (0, r9))]) rfl ?_
    exact J34 _ _ hS (by omega) ((St.kp h26 (by decide) (by decide) (by decide)).trans er15) ((St.kp h26 (by decide) (by decide) (by decide)).trans er5)

def ws_X1_note_56_w4 : List (Int × Int) := [(63, 0)]
def as_X1_note_56_w4 : List Int := [57, 60, 61, 69, 191]
def q_X1_note_56_w4 (M0 M' : Mem) (r : Option PV) : Prop := St Rn ws_X1_note_56_w4 as_X1_note_56_w4 M0 M' ∧ r = none
set_option maxRecDepth 100000 in
set_option maxHeartbeats 4000000 in
theorem sp_X1_note_56_w4 {l : Launch} {K : EC} {M0 : Mem} (hI : In Rn M0) (en_56_1 : rd M0 56 1 = 27) (a1 : Int) (ha1 : 0 ≤ a1 ∧ a1 ≤ 5) (a2 : Int) (ha2 : 2 ≤ a2 ∧ a2 ≤ 2) (a3 : Int) (ha3 : (-2147483648) ≤ a3 ∧ a3 ≤ 2147483647) (a4 : Int) (ha4 : (-2147483648) ≤ a4 ∧ a4 ≤ 2147483647)  : Tr l K 1 mX1_note 0 [(0, (2, 56)), (1, (0, a1)), (2, (0, a2)), (3, (0, a3)), (4, (0, a4))] [] M0 (q_X1_note_56_w4 M0) := by
  have hS : St Rn ws_X1_note_56_w4 as_X1_note_56_w4 M0 M0 := St.rf hI
  refine Tr.iload_n (pc := 0) (i := 3) d_X1_note_0 rfl rfl ?_
  refine Tr.iload (pc := 1) (i := 4) d_X1_note_1 rfl ?_
  refine Tr.icmp_lt (pc := 3) (tgt := 7) d_X1_note_3 rfl (fun c3 => ?_) (fun c3 => ?_)
  · refine Tr.aload_n (pc := 7) (i := 0) d_X1_note_7 rfl rfl ?_
    refine Tr.getf (pc := 8) d_X1_note_8 f_1_9 (by decide) (by decide) (ty_56 hS.1.1) ?_
    refine Tr.tp 57 (fx_56_2 hS.1.1) ?_
    refine Tr.iload_n (pc := 11) (i := 1) d_X1_note_11 rfl rfl ?_
    refine Tr.iconst (pc := 12) d_X1_note_12 (by decide) ?_
    refine Tr.imul (pc := 13) d_X1_note_13 ?_
    refine Tr.tp (4 * a1) ((w32_id (by omega)).trans (by omega)) ?_
    refine Tr.iload_n (pc := 14) (i := 2) d_X1_note_14 rfl rfl ?_
    refine Tr.tp 2 (by omega) ?_
    refine Tr.iadd (pc := 15) d_X1_note_15 ?_
    refine Tr.tp (4 * a1 + 2) ((w32_id (by omega)).trans (by omega)) ?_
    refine Tr.dup2 (pc := 16) d_X1_note_16 ne01 ne21 ?_
    refine Tr.iald (pc := 17) d_X1_note_17 (ty_57 hS.1.1) (by omega) (by omega) ?_
    refine Tr.gen (P := fun v => (-2147483648) ≤ v ∧ v ≤ 2147483647) (ar_57 hS.1.2.1 _) (fun r17 er17 br17 => ?_)
    refine Tr.iload (pc := 18) (i := 4) d_X1_note_18 rfl ?_
    refine Tr.iload_n (pc := 20) (i := 3) d_X1_note_20 rfl rfl ?_
    refine Tr.isub (pc := 21) d_X1_note_21 ?_
    refine Tr.gen (P := fun v => (-2147483648) ≤ v ∧ v ≤ 2147483647) (w32_b _) (fun r21 er21 br21 => ?_)
    refine Tr.iadd (pc := 22) d_X1_note_22 ?_
    refine Tr.gen (P := fun v => (-2147483648) ≤ v ∧ v ≤ 2147483647) (w32_b _) (fun r22 er22 br22 => ?_)
    refine Tr.iastS (pc := 23) (P := St Rn ws_X1_note_56_w4 as_X1_note_56_w4 M0) d_X1_note_23 (ty_57 hS.1.1) (by omega) (by omega) (sa_57 hS (by decide) (by omega) (Rn.of hS.1.2.2.2.2 (fun _ => rd_wb _ rfl) (rd_wb _ rfl))) (fun M23 hS w23 => ?_)
    refine Tr.aload_n (pc := 24) (i := 0) d_X1_note_24 rfl rfl ?_
    refine Tr.getz (pc := 25) d_X1_note_25 f_1_37 (by decide) (ty_56 hS.1.1) ?_
    refine Tr.tp 1 (fx_56_0 hS.1.1) ?_
    refine Tr.if_ne (pc := 28) (tgt := 32) d_X1_note_28 rfl (fun _ => ?_) (fun hc => absurd hc (by omega))
    refine Tr.aload_n (pc := 32) (i := 0) d_X1_note_32 rfl rfl ?_
    refine Tr.getf (pc := 33) d_X1_note_33 f_1_15 (by decide) (by decide) (ty_56 hS.1.1) ?_
    refine Tr.tp 58 (fx_56_3 hS.1.1) ?_
    refine Tr.iload_n (pc := 36) (i := 1) d_X1_note_36 rfl rfl ?_
    refine Tr.iald (pc := 37) d_X1_note_37 (ty_58 hS.1.1) (by omega) (by omega) ?_
    refine Tr.gen (P := fun v => (-1) ≤ v ∧ v ≤ 59) (ar_58 hS.1.2.1 _) (fun r37 er37 br37 => ?_)
    refine Tr.istore (pc := 38) (i := 5) (ls2 := [(5, (0, r37)), (0, (2, 56)), (1, (0, a1)), (2, (0, a2)), (3, (0, a3)), (4, (0, a4))]) d_X1_note_38 (by decide) rfl ?_
    refine Tr.iload_n (pc := 40) (i := 2) d_X1_note_40 rfl rfl ?_
    refine Tr.tp 2 (by omega) ?_
    refine Tr.if_ne (pc := 41) (tgt := 52) d_X1_note_41 rfl (fun _ => ?_) (fun hc => absurd hc (by omega))
    refine Tr.iload (pc := 52) (i := 5) d_X1_note_52 rfl ?_
    refine Tr.if_lt (pc := 54) (tgt := 142) d_X1_note_54 rfl (fun c54 => ?_) (fun c54 => ?_)
    · exact Tr.vret (pc := 142) d_X1_note_142 rfl ⟨hS, rfl⟩
    · refine Tr.iload (pc := 57) (i := 4) d_X1_note_57 rfl ?_
      refine Tr.iload_n (pc := 59) (i := 3) d_X1_note_59 rfl rfl ?_
      refine Tr.isub (pc := 60) d_X1_note_60 ?_
      refine Tr.gen (P := fun v => (-2147483648) ≤ v ∧ v ≤ 2147483647) (w32_b _) (fun r60 er60 br60 => ?_)
      refine Tr.aload_n (pc := 61) (i := 0) d_X1_note_61 rfl rfl ?_
      refine Tr.getf (pc := 62) d_X1_note_62 f_1_41 (by decide) (by decide) (ty_56 hS.1.1) ?_
      refine Tr.tp 27 ((St.kp hS (by decide) (by decide) (by decide)).trans en_56_1) ?_
      refine Tr.getf (pc := 65) d_X1_note_65 f_1_71 (by decide) (by decide) (ty_27 hS.1.1) ?_
      refine Tr.tp 29 (fx_27_5 hS.1.1) ?_
      refine Tr.iload_n (pc := 68) (i := 1) d_X1_note_68 rfl rfl ?_
      refine Tr.iconst (pc := 69) d_X1_note_69 (by decide) ?_
      refine Tr.imul (pc := 70) d_X1_note_70 ?_
      refine Tr.tp (4 * a1) ((w32_id (by omega)).trans (by omega)) ?_
      refine Tr.iload_n (pc := 71) (i := 2) d_X1_note_71 rfl rfl ?_
      refine Tr.tp 2 (by omega) ?_
      refine Tr.iadd (pc := 72) d_X1_note_72 ?_
      refine Tr.tp (4 * a1 + 2) ((w32_id (by omega)).trans (by omega)) ?_
      refine Tr.iald (pc := 73) d_X1_note_73 (ty_29 hS.1.1) (by omega) (by omega) ?_
      refine Tr.gen (P := fun v => (-1) ≤ v ∧ v ≤ 999) (ar_29 hS.1.2.1 _) (fun r73 er73 br73 => ?_)
      refine Tr.imul (pc := 74) d_X1_note_74 ?_
      refine Tr.gen (P := fun v => (-2147483648) ≤ v ∧ v ≤ 2147483647) (w32_b _) (fun r74 er74 br74 => ?_)
      refine Tr.istore (pc := 75) (i := 6) (ls2 := [(6, (0, r74)), (5, (0, r37)), (0, (2, 56)), (1, (0, a1)), (2, (0, a2)), (3, (0, a3)), (4, (0, a4))]) d_X1_note_75 (by decide) rfl ?_
      refine Tr.aload_n (pc := 77) (i := 0) d_X1_note_77 rfl rfl ?_
      refine Tr.getf (pc := 78) d_X1_note_78 f_1_24 (by decide) (by decide) (ty_56 hS.1.1) ?_
      refine Tr.tp 61 (fx_56_6 hS.1.1) ?_
      refine Tr.iload (pc := 81) (i := 5) d_X1_note_81 rfl ?_
      refine Tr.dup2 (pc := 83) d_X1_note_83 ne01 ne21 ?_
      refine Tr.iald (pc := 84) d_X1_note_84 (ty_61 hS.1.1) (by omega) (by omega) ?_
      refine Tr.gen (P := fun v => (-2147483648) ≤ v ∧ v ≤ 2147483647) (ar_61 hS.1.2.1 _) (fun r84 er84 br84 => ?_)
      refine Tr.iload_n (pc := 85) (i := 2) d_X1_note_85 rfl rfl ?_
      refine Tr.tp 2 (by omega) ?_
      refine Tr.iconst (pc := 86) d_X1_note_86 (by decide) ?_
      refine Tr.icmp_ne (pc := 87) (tgt := 95) d_X1_note_87 rfl (fun hc => absurd (by omega) hc) (fun _ => ?_)
      refine Tr.iload (pc := 90) (i := 6) d_X1_note_90 rfl ?_
      refine Tr.goto (pc := 92) (tgt := 96) d_X1_note_92 rfl ?_
      refine Tr.iadd (pc := 96) d_X1_note_96 ?_
      refine Tr.gen (P := fun v => (-2147483648) ≤ v ∧ v ≤ 2147483647) (w32_b _) (fun r96 er96 br96 => ?_)
      refine Tr.iastS (pc := 97) (P := St Rn ws_X1_note_56_w4 as_X1_note_56_w4 M0) d_X1_note_97 (ty_61 hS.1.1) (by omega) (by omega) (sa_61 hS (by decide) (by omega) (Rn.of hS.1.2.2.2.2 (fun _ => rd_wb _ rfl) (rd_wb _ rfl))) (fun M97 hS w97 => ?_)
      refine Tr.aload_n (pc := 98) (i := 0) d_X1_note_98 rfl rfl ?_
      refine Tr.getf (pc := 99) d_X1_note_99 f_1_21 (by decide) (by decide) (ty_56 hS.1.1) ?_
      refine Tr.tp 60 (fx_56_5 hS.1.1) ?_
      refine Tr.iload (pc := 102) (i := 5) d_X1_note_102 rfl ?_
      refine Tr.dup2 (pc := 104) d_X1_note_104 ne01 ne21 ?_
      refine Tr.iald (pc := 105) d_X1_note_105 (ty_60 hS.1.1) (by omega) (by omega) ?_
      refine Tr.gen (P := fun v => (-2147483648) ≤ v ∧ v ≤ 2147483647) (ar_60 hS.1.2.1 _) (fun r105 er105 br105 => ?_)
      refine Tr.iload_n (pc := 106) (i := 2) d_X1_note_106 rfl rfl ?_
      refine Tr.tp 2 (by omega) ?_
      refine Tr.iconst (pc := 107) d_X1_note_107 (by decide) ?_
      refine Tr.icmp_ne (pc := 108) (tgt := 115) d_X1_note_108 rfl (fun hc => absurd (by omega) hc) (fun _ => ?_)
      refine Tr.iconst (pc := 111) d_X1_note_111 (by decide) ?_
      refine Tr.goto (pc := 112) (tgt := 117) d_X1_note_112 rfl ?_
      refine Tr.iadd (pc := 117) d_X1_note_117 ?_
      refine Tr.tp r105 ((w32_id (by omega)).trans (by omega)) ?_
      refine Tr.iastS (pc := 118) (P := St Rn ws_X1_note_56_w4 as_X1_note_56_w4 M0) d_X1_note_118 (ty_60 hS.1.1) (by omega) (by omega) (sa_60 hS (by decide) (by omega) (Rn.of hS.1.2.2.2.2 (fun _ => rd_wb _ rfl) (rd_wb _ rfl))) (fun M118 hS w118 => ?_)
      refine Tr.aload_n (pc := 119) (i := 0) d_X1_note_119 rfl rfl ?_
      refine Tr.getf (pc := 120) d_X1_note_120 f_1_33 (by decide) (by decide) (ty_56 hS.1.1) ?_
      refine Tr.tp 63 (fx_56_8 hS.1.1) ?_
      refine Tr.iload_n (pc := 123) (i := 1) d_X1_note_123 rfl rfl ?_
      refine Tr.iload (pc := 124) (i := 5) d_X1_note_124 rfl ?_
      refine Tr.iload_n (pc := 126) (i := 3) d_X1_note_126 rfl rfl ?_
      refine Tr.iload (pc := 127) (i := 4) d_X1_note_127 rfl ?_
      refine Tr.iload_n (pc := 129) (i := 2) d_X1_note_129 rfl rfl ?_
      refine Tr.tp 2 (by omega) ?_
      refine Tr.iconst (pc := 130) d_X1_note_130 (by decide) ?_
      refine Tr.icmp_ne (pc := 131) (tgt := 138) d_X1_note_131 rfl (fun hc => absurd (by omega) hc) (fun _ => ?_)
      refine Tr.iconst (pc := 134) d_X1_note_134 (by decide) ?_
      refine Tr.goto (pc := 135) (tgt := 139) d_X1_note_135 rfl ?_
      refine Tr.callV (pc := 139) (as := [_, _, _, _, _]) d_X1_note_139 s_1_74 ok_X8_stayUp rfl rfl (Nat.le_of_ble_eq_true rfl) (Nat.le_of_ble_eq_true rfl) (by decide) (ty_63 hS.1.1) ?_
      refine Tr.imp (Tr.deep (by decide) (sp_X8_stayUp_63 hS.1 a1 (by omega) r37 (by omega) a3 (by omega) a4 (by omega) 1 (by omega))) ?_
      rintro M139 _ ⟨h139, rfl⟩
      have hS := St.tr hS h139 (by decide) (by decide)
      refine Tr.sc [] rfl ?_
      exact Tr.vret (pc := 142) d_X1_note_142 rfl ⟨hS, rfl⟩
  · exact Tr.vret (pc := 6) d_X1_note_6 rfl ⟨hS, rfl⟩

def ws_X1_fallAsleep_56_w1 : List (Int × Int) := []
def as_X1_fallAsleep_56_w1 : List Int := [62, 69]
def q_X1_fallAsleep_56_w1 (M0 M' : Mem) (r : Option PV) : Prop := St Rn ws_X1_fallAsleep_56_w1 as_X1_fallAsleep_56_w1 M0 M' ∧ r = none
set_option maxRecDepth 100000 in
set_option maxHeartbeats 4000000 in
theorem sp_X1_fallAsleep_56_w1 {l : Launch} {K : EC} {M0 : Mem} (hI : In Rn M0) (en_56_1 : rd M0 56 1 = 27) (a1 : Int) (ha1 : 0 ≤ a1 ∧ a1 ≤ 5)  : Tr l K 0 mX1_fallAsleep 0 [(0, (2, 56)), (1, (0, a1))] [] M0 (q_X1_fallAsleep_56_w1 M0) := by
  have hS : St Rn ws_X1_fallAsleep_56_w1 as_X1_fallAsleep_56_w1 M0 M0 := St.rf hI
  refine Tr.aload_n (pc := 0) (i := 0) d_X1_fallAsleep_0 rfl rfl ?_
  refine Tr.getz (pc := 1) d_X1_fallAsleep_1 f_1_37 (by decide) (ty_56 hS.1.1) ?_
  refine Tr.tp 1 (fx_56_0 hS.1.1) ?_
  refine Tr.if_eq (pc := 4) (tgt := 75) d_X1_fallAsleep_4 rfl (fun hc => absurd hc (by omega)) (fun _ => ?_)
  refine Tr.aload_n (pc := 7) (i := 0) d_X1_fallAsleep_7 rfl rfl ?_
  refine Tr.getf (pc := 8) d_X1_fallAsleep_8 f_1_33 (by decide) (by decide) (ty_56 hS.1.1) ?_
  refine Tr.tp 63 (fx_56_8 hS.1.1) ?_
  refine Tr.getf (pc := 11) d_X1_fallAsleep_11 f_1_78 (by decide) (by decide) (ty_63 hS.1.1) ?_
  refine Tr.tp 69 (fx_63_6 hS.1.1) ?_
  refine Tr.iload_n (pc := 14) (i := 1) d_X1_fallAsleep_14 rfl rfl ?_
  refine Tr.iald (pc := 15) d_X1_fallAsleep_15 (ty_69 hS.1.1) (by omega) (by omega) ?_
  refine Tr.gen (P := fun v => (-2147483648) ≤ v ∧ v ≤ 2147483647) (ar_69 hS.1.2.1 _) (fun r15 er15 br15 => ?_)
  refine Tr.if_lt (pc := 16) (tgt := 75) d_X1_fallAsleep_16 rfl (fun c16 => ?_) (fun c16 => ?_)
  · exact Tr.vret (pc := 75) d_X1_fallAsleep_75 rfl ⟨hS, rfl⟩
  · refine Tr.aload_n (pc := 19) (i := 0) d_X1_fallAsleep_19 rfl rfl ?_
    refine Tr.getf (pc := 20) d_X1_fallAsleep_20 f_1_15 (by decide) (by decide) (ty_56 hS.1.1) ?_
    refine Tr.tp 58 (fx_56_3 hS.1.1) ?_
    refine Tr.iload_n (pc := 23) (i := 1) d_X1_fallAsleep_23 rfl rfl ?_
    refine Tr.iald (pc := 24) d_X1_fallAsleep_24 (ty_58 hS.1.1) (by omega) (by omega) ?_
    refine Tr.gen (P := fun v => (-1) ≤ v ∧ v ≤ 59) (ar_58 hS.1.2.1 _) (fun r24 er24 br24 => ?_)
    refine Tr.if_lt (pc := 25) (tgt := 75) d_X1_fallAsleep_25 rfl (fun c25 => ?_) (fun c25 => ?_)
    · exact Tr.vret (pc := 75) d_X1_fallAsleep_75 rfl ⟨hS, rfl⟩
    · refine Tr.aload_n (pc := 28) (i := 0) d_X1_fallAsleep_28 rfl rfl ?_
      refine Tr.getf (pc := 29) d_X1_fallAsleep_29 f_1_27 (by decide) (by decide) (ty_56 hS.1.1) ?_
      refine Tr.tp 62 (fx_56_7 hS.1.1) ?_
      refine Tr.aload_n (pc := 32) (i := 0) d_X1_fallAsleep_32 rfl rfl ?_
      refine Tr.getf (pc := 33) d_X1_fallAsleep_33 f_1_15 (by decide) (by decide) (ty_56 hS.1.1) ?_
      refine Tr.tp 58 (fx_56_3 hS.1.1) ?_
      refine Tr.iload_n (pc := 36) (i := 1) d_X1_fallAsleep_36 rfl rfl ?_
      refine Tr.iald (pc := 37) d_X1_fallAsleep_37 (ty_58 hS.1.1) (by omega) (by omega) ?_
      refine Tr.tp r24 er24 ?_
      refine Tr.dup2 (pc := 38) d_X1_fallAsleep_38 ne01 ne21 ?_
      refine Tr.iald (pc := 39) d_X1_fallAsleep_39 (ty_62 hS.1.1) (by omega) (by omega) ?_
      refine Tr.gen (P := fun v => (-2147483648) ≤ v ∧ v ≤ 2147483647) (ar_62 hS.1.2.1 _) (fun r39 er39 br39 => ?_)
      refine Tr.aload_n (pc := 40) (i := 0) d_X1_fallAsleep_40 rfl rfl ?_
      refine Tr.getf (pc := 41) d_X1_fallAsleep_41 f_1_41 (by decide) (by decide) (ty_56 hS.1.1) ?_
      refine Tr.tp 27 ((St.kp hS (by decide) (by decide) (by decide)).trans en_56_1) ?_
      refine Tr.getf (pc := 44) d_X1_fallAsleep_44 f_1_81 (by decide) (by decide) (ty_27 hS.1.1) ?_
      refine Tr.tp 31 (fx_27_7 hS.1.1) ?_
      refine Tr.iload_n (pc := 47) (i := 1) d_X1_fallAsleep_47 rfl rfl ?_
      refine Tr.iald (pc := 48) d_X1_fallAsleep_48 (ty_31 hS.1.1) (by omega) (by omega) ?_
      refine Tr.gen (P := fun v => 0 ≤ v ∧ v ≤ 50) (ar_31 hS.1.2.1 _) (fun r48 er48 br48 => ?_)
      refine Tr.aload_n (pc := 49) (i := 0) d_X1_fallAsleep_49 rfl rfl ?_
      refine Tr.getf (pc := 50) d_X1_fallAsleep_50 f_1_41 (by decide) (by decide) (ty_56 hS.1.1) ?_
      refine Tr.tp 27 ((St.kp hS (by decide) (by decide) (by decide)).trans en_56_1) ?_
      refine Tr.getf (pc := 53) d_X1_fallAsleep_53 f_1_71 (by decide) (by decide) (ty_27 hS.1.1) ?_
      refine Tr.tp 29 (fx_27_5 hS.1.1) ?_
      refine Tr.iload_n (pc := 56) (i := 1) d_X1_fallAsleep_56 rfl rfl ?_
      refine Tr.iconst (pc := 57) d_X1_fallAsleep_57 (by decide) ?_
      refine Tr.imul (pc := 58) d_X1_fallAsleep_58 ?_
      refine Tr.tp (4 * a1) ((w32_id (by omega)).trans (by omega)) ?_
      refine Tr.iconst (pc := 59) d_X1_fallAsleep_59 (by decide) ?_
      refine Tr.iadd (pc := 60) d_X1_fallAsleep_60 ?_
      refine Tr.tp (4 * a1 + 2) ((w32_id (by omega)).trans (by omega)) ?_
      refine Tr.iald (pc := 61) d_X1_fallAsleep_61 (ty_29 hS.1.1) (by omega) (by omega) ?_
      refine Tr.gen (P := fun v => (-1) ≤ v ∧ v ≤ 999) (ar_29 hS.1.2.1 _) (fun r61 er61 br61 => ?_)
      refine Tr.imul (pc := 62) d_X1_fallAsleep_62 ?_
      refine Tr.gen (P := fun v => (-2147483648) ≤ v ∧ v ≤ 2147483647) (w32_b _) (fun r62 er62 br62 => ?_)
      refine Tr.iadd (pc := 63) d_X1_fallAsleep_63 ?_
      refine Tr.gen (P := fun v => (-2147483648) ≤ v ∧ v ≤ 2147483647) (w32_b _) (fun r63 er63 br63 => ?_)
      refine Tr.iastS (pc := 64) (P := St Rn ws_X1_fallAsleep_56_w1 as_X1_fallAsleep_56_w1 M0) d_X1_fallAsleep_64 (ty_62 hS.1.1) (by omega) (by omega) (sa_62 hS (by decide) (by omega) (Rn.of hS.1.2.2.2.2 (fun _ => rd_wb _ rfl) (rd_wb _ rfl))) (fun M64 hS w64 => ?_)
      refine Tr.aload_n (pc := 65) (i := 0) d_X1_fallAsleep_65 rfl rfl ?_
      refine Tr.getf (pc := 66) d_X1_fallAsleep_66 f_1_33 (by decide) (by decide) (ty_56 hS.1.1) ?_
      refine Tr.tp 63 (fx_56_8 hS.1.1) ?_
      refine Tr.getf (pc := 69) d_X1_fallAsleep_69 f_1_78 (by decide) (by decide) (ty_63 hS.1.1) ?_
      refine Tr.tp 69 (fx_63_6 hS.1.1) ?_
      refine Tr.iload_n (pc := 72) (i := 1) d_X1_fallAsleep_72 rfl rfl ?_
      refine Tr.iconst (pc := 73) d_X1_fallAsleep_73 (by decide) ?_
      refine Tr.iastS (pc := 74) (P := St Rn ws_X1_fallAsleep_56_w1 as_X1_fallAsleep_56_w1 M0) d_X1_fallAsleep_74 (ty_69 hS.1.1) (by omega) (by omega) (sa_69 hS (by decide) (by omega) (Rn.run hS.1.2.2.2.2 (by have h8 := tl_n hS rfl; omega))) (fun M74 hS w74 => ?_)
      exact Tr.vret (pc := 75) d_X1_fallAsleep_75 rfl ⟨hS, rfl⟩

def ws_X1_note_56_w5 : List (Int × Int) := []
def as_X1_note_56_w5 : List Int := [57, 62, 69]
def q_X1_note_56_w5 (M0 M' : Mem) (r : Option PV) : Prop := St Rn ws_X1_note_56_w5 as_X1_note_56_w5 M0 M' ∧ r = none
set_option maxRecDepth 100000 in
set_option maxHeartbeats 4000000 in
theorem sp_X1_note_56_w5 {l : Launch} {K : EC} {M0 : Mem} (hI : In Rn M0) (en_56_1 : rd M0 56 1 = 27) (a1 : Int) (ha1 : 0 ≤ a1 ∧ a1 ≤ 5) (a2 : Int) (ha2 : 0 ≤ a2 ∧ a2 ≤ 0) (a3 : Int) (ha3 : (-2147483648) ≤ a3 ∧ a3 ≤ 2147483647) (a4 : Int) (ha4 : (-2147483648) ≤ a4 ∧ a4 ≤ 2147483647)  : Tr l K 1 mX1_note 0 [(0, (2, 56)), (1, (0, a1)), (2, (0, a2)), (3, (0, a3)), (4, (0, a4))] [] M0 (q_X1_note_56_w5 M0) := by
  have hS : St Rn ws_X1_note_56_w5 as_X1_note_56_w5 M0 M0 := St.rf hI
  refine Tr.iload_n (pc := 0) (i := 3) d_X1_note_0 rfl rfl ?_
  refine Tr.iload (pc := 1) (i := 4) d_X1_note_1 rfl ?_
  refine Tr.icmp_lt (pc := 3) (tgt := 7) d_X1_note_3 rfl (fun c3 => ?_) (fun c3 => ?_)
  · refine Tr.aload_n (pc := 7) (i := 0) d_X1_note_7 rfl rfl ?_
    refine Tr.getf (pc := 8) d_X1_note_8 f_1_9 (by decide) (by decide) (ty_56 hS.1.1) ?_
    refine Tr.tp 57 (fx_56_2 hS.1.1) ?_
    refine Tr.iload_n (pc := 11) (i := 1) d_X1_note_11 rfl rfl ?_
    refine Tr.iconst (pc := 12) d_X1_note_12 (by decide) ?_
    refine Tr.imul (pc := 13) d_X1_note_13 ?_
    refine Tr.tp (4 * a1) ((w32_id (by omega)).trans (by omega)) ?_
    refine Tr.iload_n (pc := 14) (i := 2) d_X1_note_14 rfl rfl ?_
    refine Tr.tp 0 (by omega) ?_
    refine Tr.iadd (pc := 15) d_X1_note_15 ?_
    refine Tr.tp (4 * a1) ((w32_id (by omega)).trans (by omega)) ?_
    refine Tr.dup2 (pc := 16) d_X1_note_16 ne01 ne21 ?_
    refine Tr.iald (pc := 17) d_X1_note_17 (ty_57 hS.1.1) (by omega) (by omega) ?_
    refine Tr.gen (P := fun v => (-2147483648) ≤ v ∧ v ≤ 2147483647) (ar_57 hS.1.2.1 _) (fun r17 er17 br17 => ?_)
    refine Tr.iload (pc := 18) (i := 4) d_X1_note_18 rfl ?_
    refine Tr.iload_n (pc := 20) (i := 3) d_X1_note_20 rfl rfl ?_
    refine Tr.isub (pc := 21) d_X1_note_21 ?_
    refine Tr.gen (P := fun v => (-2147483648) ≤ v ∧ v ≤ 2147483647) (w32_b _) (fun r21 er21 br21 => ?_)
    refine Tr.iadd (pc := 22) d_X1_note_22 ?_
    refine Tr.gen (P := fun v => (-2147483648) ≤ v ∧ v ≤ 2147483647) (w32_b _) (fun r22 er22 br22 => ?_)
    refine Tr.iastS (pc := 23) (P := St Rn ws_X1_note_56_w5 as_X1_note_56_w5 M0) d_X1_note_23 (ty_57 hS.1.1) (by omega) (by omega) (sa_57 hS (by decide) (by omega) (Rn.of hS.1.2.2.2.2 (fun _ => rd_wb _ rfl) (rd_wb _ rfl))) (fun M23 hS w23 => ?_)
    refine Tr.aload_n (pc := 24) (i := 0) d_X1_note_24 rfl rfl ?_
    refine Tr.getz (pc := 25) d_X1_note_25 f_1_37 (by decide) (ty_56 hS.1.1) ?_
    refine Tr.tp 1 (fx_56_0 hS.1.1) ?_
    refine Tr.if_ne (pc := 28) (tgt := 32) d_X1_note_28 rfl (fun _ => ?_) (fun hc => absurd hc (by omega))
    refine Tr.aload_n (pc := 32) (i := 0) d_X1_note_32 rfl rfl ?_
    refine Tr.getf (pc := 33) d_X1_note_33 f_1_15 (by decide) (by decide) (ty_56 hS.1.1) ?_
    refine Tr.tp 58 (fx_56_3 hS.1.1) ?_
    refine Tr.iload_n (pc := 36) (i := 1) d_X1_note_36 rfl rfl ?_
    refine Tr.iald (pc := 37) d_X1_note_37 (ty_58 hS.1.1) (by omega) (by omega) ?_
    refine Tr.gen (P := fun v => (-1) ≤ v ∧ v ≤ 59) (ar_58 hS.1.2.1 _) (fun r37 er37 br37 => ?_)
    refine Tr.istore (pc := 38) (i := 5) (ls2 := [(5, (0, r37)), (0, (2, 56)), (1, (0, a1)), (2, (0, a2)), (3, (0, a3)), (4, (0, a4))]) d_X1_note_38 (by decide) rfl ?_
    refine Tr.iload_n (pc := 40) (i := 2) d_X1_note_40 rfl rfl ?_
    refine Tr.tp 0 (by omega) ?_
    refine Tr.if_ne (pc := 41) (tgt := 52) d_X1_note_41 rfl (fun hc => absurd (by omega) hc) (fun _ => ?_)
    refine Tr.aload_n (pc := 44) (i := 0) d_X1_note_44 rfl rfl ?_
    refine Tr.iload_n (pc := 45) (i := 1) d_X1_note_45 rfl rfl ?_
    refine Tr.callV (pc := 46) (as := [_]) d_X1_note_46 s_1_67 ok_X1_fallAsleep rfl rfl (Nat.le_of_ble_eq_true rfl) (Nat.le_of_ble_eq_true rfl) (by decide) (ty_56 hS.1.1) ?_
    refine Tr.imp (Tr.deep (by decide) (sp_X1_fallAsleep_56_w1 hS.1 ((St.kp hS (by decide) (by decide) (by decide)).trans en_56_1) a1 (by omega))) ?_
    rintro M46 _ ⟨h46, rfl⟩
    have hS := St.tr hS h46 (by decide) (by decide)
    refine Tr.sc [] rfl ?_
    refine Tr.goto (pc := 49) (tgt := 142) d_X1_note_49 rfl ?_
    exact Tr.vret (pc := 142) d_X1_note_142 rfl ⟨hS, rfl⟩
  · exact Tr.vret (pc := 6) d_X1_note_6 rfl ⟨hS, rfl⟩

def ws_X6_settle_48_w1 : List (Int × Int) := [(63, 0)]
def as_X6_settle_48_w1 : List Int := [55, 57, 60, 61, 62, 69, 191]
def q_X6_settle_48_w1 (M0 M' : Mem) (r : Option PV) : Prop := St Rn ws_X6_settle_48_w1 as_X6_settle_48_w1 M0 M' ∧ r = none
set_option maxRecDepth 100000 in
set_option maxHeartbeats 4000000 in
theorem sp_X6_settle_48_w1 {l : Launch} {K : EC} {M0 : Mem} (hI : In Rn M0) (en_56_1 : rd M0 56 1 = 27) (a1 : Int) (ha1 : 0 ≤ a1 ∧ a1 ≤ 5) (a2 : Int) (ha2 : (-2147483648) ≤ a2 ∧ a2 ≤ 2147483647)  : Tr l K 2 mX6_settle 0 [(0, (2, 48)), (1, (0, a1)), (2, (0, a2))] [] M0 (q_X6_settle_48_w1 M0) := by
  have hS : St Rn ws_X6_settle_48_w1 as_X6_settle_48_w1 M0 M0 := St.rf hI
  refine Tr.aload_n (pc := 0) (i := 0) d_X6_settle_0 rfl rfl ?_
  refine Tr.getf (pc := 1) d_X6_settle_1 f_6_30 (by decide) (by decide) (ty_48 hS.1.1) ?_
  refine Tr.tp 55 (fx_48_8 hS.1.1) ?_
  refine Tr.iload_n (pc := 4) (i := 1) d_X6_settle_4 rfl rfl ?_
  refine Tr.iald (pc := 5) d_X6_settle_5 (ty_55 hS.1.1) (by omega) (by omega) ?_
  refine Tr.gen (P := fun v => (-2147483648) ≤ v ∧ v ≤ 2147483647) (ar_55 hS.1.2.1 _) (fun r5 er5 br5 => ?_)
  refine Tr.istore_n (pc := 6) (i := 3) (ls2 := [(3, (0, r5)), (0, (2, 48)), (1, (0, a1)), (2, (0, a2))]) d_X6_settle_6 rfl (by decide) rfl ?_
  refine Tr.aload_n (pc := 7) (i := 0) d_X6_settle_7 rfl rfl ?_
  refine Tr.getf (pc := 8) d_X6_settle_8 f_6_24 (by decide) (by decide) (ty_48 hS.1.1) ?_
  refine Tr.tp 53 (fx_48_6 hS.1.1) ?_
  refine Tr.iload_n (pc := 11) (i := 1) d_X6_settle_11 rfl rfl ?_
  refine Tr.iald (pc := 12) d_X6_settle_12 (ty_53 hS.1.1) (by omega) (by omega) ?_
  refine Tr.gen (P := fun v => 0 ≤ v ∧ v ≤ 1) (ar_53 hS.1.2.1 _) (fun r12 er12 br12 => ?_)
  refine Tr.iconst (pc := 13) d_X6_settle_13 (by decide) ?_
  have J35 : ∀ (M : Mem) (q35_0 : Int), St Rn ws_X6_settle_48_w1 as_X6_settle_48_w1 M0 M → ((-2147483648) ≤ q35_0 ∧ q35_0 ≤ 2147483647) → rd M 53 a1 = r12 → rd M 55 a1 = r5 → Tr l K 2 mX6_settle 35 [(0, (2, 48)), (1, (0, a1)), (2, (0, a2)), (3, (0, r5))] [(0, q35_0)] M (q_X6_settle_48_w1 M0) := by
    intro M q35_0 hS bq35_0 k35_53_a110 k35_55_a110
    refine Tr.istore (pc := 35) (i := 4) (ls2 := [(4, (0, q35_0)), (0, (2, 48)), (1, (0, a1)), (2, (0, a2)), (3, (0, r5))]) d_X6_settle_35 (by decide) rfl ?_
    refine Tr.aload_n (pc := 37) (i := 0) d_X6_settle_37 rfl rfl ?_
    refine Tr.getf (pc := 38) d_X6_settle_38 f_6_38 (by decide) (by decide) (ty_48 hS.1.1) ?_
    refine Tr.tp 56 (fx_48_0 hS.1.1) ?_
    refine Tr.iload_n (pc := 41) (i := 1) d_X6_settle_41 rfl rfl ?_
    refine Tr.iconst (pc := 42) d_X6_settle_42 (by decide) ?_
    refine Tr.iload_n (pc := 43) (i := 3) d_X6_settle_43 rfl rfl ?_
    refine Tr.iload (pc := 44) (i := 4) d_X6_settle_44 rfl ?_
    refine Tr.callV (pc := 46) (as := [_, _, _, _]) d_X6_settle_46 s_6_192 ok_X1_note rfl rfl (Nat.le_of_ble_eq_true rfl) (Nat.le_of_ble_eq_true rfl) (by decide) (ty_56 hS.1.1) ?_
    refine Tr.imp (Tr.deep (by decide) (sp_X1_note_56_w4 hS.1 ((St.kp hS (by decide) (by decide) (by decide)).trans en_56_1) a1 (by omega) 2 (by omega) r5 (by omega) q35_0 (by omega))) ?_
    rintro M46 _ ⟨h46, rfl⟩
    have hS := St.tr hS h46 (by decide) (by decide)
    refine Tr.sc [] rfl ?_
    refine Tr.aload_n (pc := 49) (i := 0) d_X6_settle_49 rfl rfl ?_
    refine Tr.getf (pc := 50) d_X6_settle_50 f_6_38 (by decide) (by decide) (ty_48 hS.1.1) ?_
    refine Tr.tp 56 (fx_48_0 hS.1.1) ?_
    refine Tr.iload_n (pc := 53) (i := 1) d_X6_settle_53 rfl rfl ?_
    refine Tr.iconst (pc := 54) d_X6_settle_54 (by decide) ?_
    refine Tr.iload (pc := 55) (i := 4) d_X6_settle_55 rfl ?_
    refine Tr.iload_n (pc := 57) (i := 2) d_X6_settle_57 rfl rfl ?_
    refine Tr.callV (pc := 58) (as := [_, _, _, _]) d_X6_settle_58 s_6_192 ok_X1_note rfl rfl (Nat.le_of_ble_eq_true rfl) (Nat.le_of_ble_eq_true rfl) (by decide) (ty_56 hS.1.1) ?_
    refine Tr.imp (Tr.deep (by decide) (sp_X1_note_56_w5 hS.1 ((St.kp hS (by decide) (by decide) (by decide)).trans en_56_1) a1 (by omega) 0 (by omega) q35_0 (by omega) a2 (by omega))) ?_
    rintro M58 _ ⟨h58, rfl⟩
    have hS := St.tr hS h58 (by decide) (by decide)
    refine Tr.sc [] rfl ?_
    refine Tr.aload_n (pc := 61) (i := 0) d_X6_settle_61 rfl rfl ?_
    refine Tr.getf (pc := 62) d_X6_settle_62 f_6_30 (by decide) (by decide) (ty_48 hS.1.1) ?_
    refine Tr.tp 55 (fx_48_8 hS.1.1) ?_
    refine Tr.iload_n (pc := 65) (i := 1) d_X6_settle_65 rfl rfl ?_
    refine Tr.iload_n (pc := 66) (i := 2) d_X6_settle_66 rfl rfl ?_
    refine Tr.iastS (pc := 67) (P := St Rn ws_X6_settle_48_w1 as_X6_settle_48_w1 M0) d_X6_settle_67 (ty_55 hS.1.1) (by omega) (by omega) (sa_55 hS (by decide) (by omega) (Rn.of hS.1.2.2.2.2 (fun _ => rd_wb _ rfl) (rd_wb _ rfl))) (fun M67 hS w67 => ?_)
    exact Tr.vret (pc := 68) d_X6_settle_68 rfl ⟨hS, rfl⟩
  refine Tr.icmp_ne (pc := 14) (tgt := 21) d_X6_settle_14 rfl (fun c14 => ?_) (fun c14 => ?_)
  · refine Tr.aload_n (pc := 21) (i := 0) d_X6_settle_21 rfl rfl ?_
    refine Tr.getf (pc := 22) d_X6_settle_22 f_6_27 (by decide) (by decide) (ty_48 hS.1.1) ?_
    refine Tr.tp 54 (fx_48_7 hS.1.1) ?_
    refine Tr.iload_n (pc := 25) (i := 1) d_X6_settle_25 rfl rfl ?_
    refine Tr.iald (pc := 26) d_X6_settle_26 (ty_54 hS.1.1) (by omega) (by omega) ?_
    refine Tr.gen (P := fun v => (-2147483648) ≤ v ∧ v ≤ 2147483647) (ar_54 hS.1.2.1 _) (fun r26 er26 br26 => ?_)
    refine Tr.iload_n (pc := 27) (i := 3) d_X6_settle_27 rfl rfl ?_
    refine Tr.mmax (pc := 28) d_X6_settle_28 ml_6_119 mw_mmax (Nat.le_of_ble_eq_true rfl) ?_
    refine Tr.gen (P := fun v => (v = r26 ∧ r5 ≤ r26) ∨ (v = r5 ∧ r26 ≤ r5)) (f_max_p _ _) (fun r28 er28 br28 => ?_)
    refine Tr.iload_n (pc := 31) (i := 2) d_X6_settle_31 rfl rfl ?_
    refine Tr.mmin (pc := 32) d_X6_settle_32 ml_6_158 mw_mmin (Nat.le_of_ble_eq_true rfl) ?_
    refine Tr.gen (P := fun v => (v = r28 ∧ r28 ≤ a2) ∨ (v = a2 ∧ a2 ≤ r28)) (f_min_p _ _) (fun r32 er32 br32 => ?_)
    refine Tr.pick [1, 2, 3, 0] (ls2 := [(0, (2, 48)), (1, (0, a1)), (2, (0, a2)), (3, (0, r5))]) rfl ?_
    exact J35 _ _ hS (by omega) er12 er5
  · refine Tr.iload_n (pc := 17) (i := 2) d_X6_settle_17 rfl rfl ?_
    refine Tr.goto (pc := 18) (tgt := 35) d_X6_settle_18 rfl ?_
    refine Tr.pick [1, 2, 3, 0] (ls2 := [(0, (2, 48)), (1, (0, a1)), (2, (0, a2)), (3, (0, r5))]) rfl ?_
    exact J35 _ _ hS (by omega) er12 er5

def ws_X6_wakeOf_48_w1 : List (Int × Int) := []
def as_X6_wakeOf_48_w1 : List Int := []
def q_X6_wakeOf_48_w1 (M0 M' : Mem) (r : Option PV) : Prop := St Tru ws_X6_wakeOf_48_w1 as_X6_wakeOf_48_w1 M0 M' ∧ ∃ v : Int, r = some (0, v) ∧ (-1) ≤ v ∧ v ≤ 20
set_option maxRecDepth 100000 in
set_option maxHeartbeats 4000000 in
theorem sp_X6_wakeOf_48_w1 {l : Launch} {K : EC} {M0 : Mem} (hI : In Tru M0) (en_48_1 : rd M0 48 1 = 27) (a1 : Int) (ha1 : 0 ≤ a1 ∧ a1 ≤ 5)  : Tr l K 0 mX6_wakeOf 0 [(0, (2, 48)), (1, (0, a1))] [] M0 (q_X6_wakeOf_48_w1 M0) := by
  have hS : St Tru ws_X6_wakeOf_48_w1 as_X6_wakeOf_48_w1 M0 M0 := St.rf hI
  refine Tr.aload_n (pc := 0) (i := 0) d_X6_wakeOf_0 rfl rfl ?_
  refine Tr.getf (pc := 1) d_X6_wakeOf_1 f_6_24 (by decide) (by decide) (ty_48 hS.1.1) ?_
  refine Tr.tp 53 (fx_48_6 hS.1.1) ?_
  refine Tr.iload_n (pc := 4) (i := 1) d_X6_wakeOf_4 rfl rfl ?_
  refine Tr.iald (pc := 5) d_X6_wakeOf_5 (ty_53 hS.1.1) (by omega) (by omega) ?_
  refine Tr.gen (P := fun v => 0 ≤ v ∧ v ≤ 1) (ar_53 hS.1.2.1 _) (fun r5 er5 br5 => ?_)
  refine Tr.if_ne (pc := 6) (tgt := 34) d_X6_wakeOf_6 rfl (fun c6 => ?_) (fun c6 => ?_)
  · refine Tr.iconst (pc := 34) d_X6_wakeOf_34 (by decide) ?_
    exact Tr.iret (pc := 35) d_X6_wakeOf_35 rfl ⟨hS, _, rfl, by omega, by omega⟩
  · refine Tr.aload_n (pc := 9) (i := 0) d_X6_wakeOf_9 rfl rfl ?_
    refine Tr.getf (pc := 10) d_X6_wakeOf_10 f_6_27 (by decide) (by decide) (ty_48 hS.1.1) ?_
    refine Tr.tp 54 (fx_48_7 hS.1.1) ?_
    refine Tr.iload_n (pc := 13) (i := 1) d_X6_wakeOf_13 rfl rfl ?_
    refine Tr.iald (pc := 14) d_X6_wakeOf_14 (ty_54 hS.1.1) (by omega) (by omega) ?_
    refine Tr.gen (P := fun v => (-2147483648) ≤ v ∧ v ≤ 2147483647) (ar_54 hS.1.2.1 _) (fun r14 er14 br14 => ?_)
    refine Tr.aload_n (pc := 15) (i := 0) d_X6_wakeOf_15 rfl rfl ?_
    refine Tr.getf (pc := 16) d_X6_wakeOf_16 f_6_68 (by decide) (by decide) (ty_48 hS.1.1) ?_
    refine Tr.gen (P := fun v => (-2147483648) ≤ v ∧ v ≤ 2147483647) (ir_48_9 hS.1.2.1) (fun r16 er16 br16 => ?_)
    refine Tr.icmp_gt (pc := 19) (tgt := 34) d_X6_wakeOf_19 rfl (fun c19 => ?_) (fun c19 => ?_)
    · refine Tr.iconst (pc := 34) d_X6_wakeOf_34 (by decide) ?_
      exact Tr.iret (pc := 35) d_X6_wakeOf_35 rfl ⟨hS, _, rfl, by omega, by omega⟩
    · refine Tr.aload_n (pc := 22) (i := 0) d_X6_wakeOf_22 rfl rfl ?_
      refine Tr.getf (pc := 23) d_X6_wakeOf_23 f_6_46 (by decide) (by decide) (ty_48 hS.1.1) ?_
      refine Tr.tp 27 ((St.kp hS (by decide) (by decide) (by decide)).trans en_48_1) ?_
      refine Tr.getf (pc := 26) d_X6_wakeOf_26 f_6_196 (by decide) (by decide) (ty_27 hS.1.1) ?_
      refine Tr.tp 30 (fx_27_6 hS.1.1) ?_
      refine Tr.iload_n (pc := 29) (i := 1) d_X6_wakeOf_29 rfl rfl ?_
      refine Tr.iald (pc := 30) d_X6_wakeOf_30 (ty_30 hS.1.1) (by omega) (by omega) ?_
      refine Tr.gen (P := fun v => (-1) ≤ v ∧ v ≤ 20) (ar_30 hS.1.2.1 _) (fun r30 er30 br30 => ?_)
      refine Tr.goto (pc := 31) (tgt := 35) d_X6_wakeOf_31 rfl ?_
      exact Tr.iret (pc := 35) d_X6_wakeOf_35 rfl ⟨hS, _, rfl, by omega, by omega⟩

def ws_X6_sipsAt_48_w4 : List (Int × Int) := []
def as_X6_sipsAt_48_w4 : List Int := []
def q_X6_sipsAt_48_w4 (M0 M' : Mem) (r : Option PV) : Prop := St Tru ws_X6_sipsAt_48_w4 as_X6_sipsAt_48_w4 M0 M' ∧ ∃ v : Int, r = some (0, v) ∧ (-2147483648) ≤ v ∧ v ≤ 2147483647
set_option maxRecDepth 100000 in
set_option maxHeartbeats 4000000 in
theorem sp_X6_sipsAt_48_w4 {l : Launch} {K : EC} {M0 : Mem} (hI : In Tru M0) (en_48_1 : rd M0 48 1 = 27) (a1 : Int) (ha1 : (-2147483648) ≤ a1 ∧ a1 ≤ 2147483647) (a2 : Int) (ha2 : 0 ≤ a2 ∧ a2 ≤ 5) (a3 : Int) (ha3 : 1 ≤ a3 ∧ a3 ≤ 1)  : Tr l K 0 mX6_sipsAt 0 [(0, (2, 48)), (1, (0, a1)), (2, (0, a2)), (3, (0, a3))] [] M0 (q_X6_sipsAt_48_w4 M0) := by
  have hS : St Tru ws_X6_sipsAt_48_w4 as_X6_sipsAt_48_w4 M0 M0 := St.rf hI
  refine Tr.aload_n (pc := 0) (i := 0) d_X6_sipsAt_0 rfl rfl ?_
  refine Tr.getf (pc := 1) d_X6_sipsAt_1 f_6_46 (by decide) (by decide) (ty_48 hS.1.1) ?_
  refine Tr.tp 27 ((St.kp hS (by decide) (by decide) (by decide)).trans en_48_1) ?_
  refine Tr.getf (pc := 4) d_X6_sipsAt_4 f_6_135 (by decide) (by decide) (ty_27 hS.1.1) ?_
  refine Tr.gen (P := fun v => (-1) ≤ v ∧ v ≤ 999) (ir_27_0 hS.1.2.1) (fun r4 er4 br4 => ?_)
  refine Tr.istore (pc := 7) (i := 4) (ls2 := [(4, (0, r4)), (0, (2, 48)), (1, (0, a1)), (2, (0, a2)), (3, (0, a3))]) d_X6_sipsAt_7 (by decide) rfl ?_
  refine Tr.iconst (pc := 9) d_X6_sipsAt_9 (by decide) ?_
  refine Tr.istore (pc := 10) (i := 5) (ls2 := [(5, (0, 0)), (4, (0, r4)), (0, (2, 48)), (1, (0, a1)), (2, (0, a2)), (3, (0, a3))]) d_X6_sipsAt_10 (by decide) rfl ?_
  have J12 : ∀ (n12 : Nat) (M : Mem) (p12_4 p12_5 : Int), St Tru ws_X6_sipsAt_48_w4 as_X6_sipsAt_48_w4 M0 M → ((-2147483648) ≤ p12_4 ∧ p12_4 ≤ 2147483647) → (0 ≤ p12_5 ∧ p12_5 ≤ 6) → rd M 27 0 = r4 → (6 - p12_5).toNat < n12 → Tr l K 0 mX6_sipsAt 12 [(0, (2, 48)), (1, (0, a1)), (2, (0, a2)), (3, (0, a3)), (4, (0, p12_4)), (5, (0, p12_5))] [] M (q_X6_sipsAt_48_w4 M0) := by
    intro n12
    induction n12 with
    | zero => intro M p12_4 p12_5 hS bp12_4 bp12_5 k12_27_0 hm12; exact absurd hm12 (Nat.not_lt_zero _)
    | succ n12 J12 =>
      intro M p12_4 p12_5 hS bp12_4 bp12_5 k12_27_0 hm12
      refine Tr.iload (pc := 12) (i := 5) d_X6_sipsAt_12 rfl ?_
      refine Tr.aload_n (pc := 14) (i := 0) d_X6_sipsAt_14 rfl rfl ?_
      refine Tr.getf (pc := 15) d_X6_sipsAt_15 f_6_46 (by decide) (by decide) (ty_48 hS.1.1) ?_
      refine Tr.tp 27 ((St.kp hS (by decide) (by decide) (by decide)).trans en_48_1) ?_
      refine Tr.getf (pc := 18) d_X6_sipsAt_18 f_6_116 (by decide) (by decide) (ty_27 hS.1.1) ?_
      refine Tr.tp 28 (fx_27_4 hS.1.1) ?_
      refine Tr.iconst (pc := 21) d_X6_sipsAt_21 (by decide) ?_
      refine Tr.iald (pc := 22) d_X6_sipsAt_22 (ty_28 hS.1.1) (by omega) (by omega) ?_
      refine Tr.gen (P := fun v => 0 ≤ v ∧ v ≤ 6) (ir_28_0 hS.1.2.1) (fun r22 er22 br22 => ?_)
      refine Tr.icmp_ge (pc := 23) (tgt := 91) d_X6_sipsAt_23 rfl (fun c23 => ?_) (fun c23 => ?_)
      · refine Tr.iload (pc := 91) (i := 4) d_X6_sipsAt_91 rfl ?_
        exact Tr.iret (pc := 93) d_X6_sipsAt_93 rfl ⟨hS, _, rfl, by omega, by omega⟩
      · refine Tr.aload_n (pc := 26) (i := 0) d_X6_sipsAt_26 rfl rfl ?_
        refine Tr.getf (pc := 27) d_X6_sipsAt_27 f_6_24 (by decide) (by decide) (ty_48 hS.1.1) ?_
        refine Tr.tp 53 (fx_48_6 hS.1.1) ?_
        refine Tr.iload (pc := 30) (i := 5) d_X6_sipsAt_30 rfl ?_
        refine Tr.iald (pc := 32) d_X6_sipsAt_32 (ty_53 hS.1.1) (by omega) (by omega) ?_
        refine Tr.gen (P := fun v => 0 ≤ v ∧ v ≤ 1) (ar_53 hS.1.2.1 _) (fun r32 er32 br32 => ?_)
        refine Tr.iconst (pc := 33) d_X6_sipsAt_33 (by decide) ?_
        have J53 : ∀ (M : Mem) (q53_0 : Int), St Tru ws_X6_sipsAt_48_w4 as_X6_sipsAt_48_w4 M0 M → (0 ≤ q53_0 ∧ q53_0 ≤ 2) → rd M 27 0 = r4 → rd M 28 0 = r22 → rd M 53 p12_5 = r32 → Tr l K 0 mX6_sipsAt 53 [(0, (2, 48)), (1, (0, a1)), (2, (0, a2)), (3, (0, a3)), (4, (0, p12_4)), (5, (0, p12_5))] [(0, q53_0)] M (q_X6_sipsAt_48_w4 M0) := by
          intro M q53_0 hS bq53_0 k53_27_0 k53_28_0 k53_53_p12_510
          refine Tr.istore (pc := 53) (i := 6) (ls2 := [(6, (0, q53_0)), (0, (2, 48)), (1, (0, a1)), (2, (0, a2)), (3, (0, a3)), (4, (0, p12_4)), (5, (0, p12_5))]) d_X6_sipsAt_53 (by decide) rfl ?_
          refine Tr.iload (pc := 55) (i := 4) d_X6_sipsAt_55 rfl ?_
          refine Tr.aload_n (pc := 57) (i := 0) d_X6_sipsAt_57 rfl rfl ?_
          refine Tr.getf (pc := 58) d_X6_sipsAt_58 f_6_46 (by decide) (by decide) (ty_48 hS.1.1) ?_
          refine Tr.tp 27 ((St.kp hS (by decide) (by decide) (by decide)).trans en_48_1) ?_
          refine Tr.getf (pc := 61) d_X6_sipsAt_61 f_6_189 (by decide) (by decide) (ty_27 hS.1.1) ?_
          refine Tr.tp 29 (fx_27_5 hS.1.1) ?_
          refine Tr.iload (pc := 64) (i := 5) d_X6_sipsAt_64 rfl ?_
          refine Tr.iconst (pc := 66) d_X6_sipsAt_66 (by decide) ?_
          refine Tr.imul (pc := 67) d_X6_sipsAt_67 ?_
          refine Tr.tp (4 * p12_5) ((w32_id (by omega)).trans (by omega)) ?_
          refine Tr.iload (pc := 68) (i := 5) d_X6_sipsAt_68 rfl ?_
          refine Tr.iload_n (pc := 70) (i := 2) d_X6_sipsAt_70 rfl rfl ?_
          have J80 : ∀ (M : Mem) (q80_3 : Int), St Tru ws_X6_sipsAt_48_w4 as_X6_sipsAt_48_w4 M0 M → (0 ≤ q80_3 ∧ q80_3 ≤ 2) → rd M 27 0 = r4 → rd M 28 0 = r22 → rd M 53 p12_5 = r32 → Tr l K 0 mX6_sipsAt 80 [(0, (2, 48)), (1, (0, a1)), (2, (0, a2)), (3, (0, a3)), (5, (0, p12_5))] [(0, q80_3), (0, (4 * p12_5)), (2, 29), (0, p12_4)] M (q_X6_sipsAt_48_w4 M0) := by
            intro M q80_3 hS bq80_3 k80_27_0 k80_28_0 k80_53_p12_510
            refine Tr.iadd (pc := 80) d_X6_sipsAt_80 ?_
            refine Tr.tp (4 * p12_5 + q80_3) ((w32_id (by omega)).trans (by omega)) ?_
            refine Tr.iald (pc := 81) d_X6_sipsAt_81 (ty_29 hS.1.1) (by omega) (by omega) ?_
            refine Tr.gen (P := fun v => (-1) ≤ v ∧ v ≤ 999) (ar_29 hS.1.2.1 _) (fun r81 er81 br81 => ?_)
            refine Tr.iadd (pc := 82) d_X6_sipsAt_82 ?_
            refine Tr.gen (P := fun v => (-2147483648) ≤ v ∧ v ≤ 2147483647) (w32_b _) (fun r82 er82 br82 => ?_)
            refine Tr.istore (pc := 83) (i := 4) (ls2 := [(4, (0, r82)), (0, (2, 48)), (1, (0, a1)), (2, (0, a2)), (3, (0, a3)), (5, (0, p12_5))]) d_X6_sipsAt_83 (by decide) rfl ?_
            refine Tr.iincV (pc := 85) (n2 := (p12_5 + 1)) (ls2 := [(5, (0, (p12_5 + 1))), (4, (0, r82)), (0, (2, 48)), (1, (0, a1)), (2, (0, a2)), (3, (0, a3))]) d_X6_sipsAt_85 rfl (by decide) ((w32_id (by omega)).trans (by omega)) rfl ?_
            refine Tr.goto (pc := 88) (tgt := 12) d_X6_sipsAt_88 rfl ?_
            refine Tr.pick [2, 3, 4, 5, 1, 0] (ls2 := [(0, (2, 48)), (1, (0, a1)), (2, (0, a2)), (3, (0, a3)), (4, (0, r82)), (5, (0, (p12_5 + 1)))]) rfl ?_
            exact J12 _ _ _ hS (by omega) (by omega) k80_27_0 (by omega)
          refine Tr.icmp_ne (pc := 71) (tgt := 78) d_X6_sipsAt_71 rfl (fun c71 => ?_) (fun c71 => ?_)
          · refine Tr.iload (pc := 78) (i := 6) d_X6_sipsAt_78 rfl ?_
            refine Tr.pick [1, 2, 3, 4, 6] (ls2 := [(0, (2, 48)), (1, (0, a1)), (2, (0, a2)), (3, (0, a3)), (5, (0, p12_5))]) rfl ?_
            exact J80 _ _ hS (by omega) k53_27_0 k53_28_0 k53_53_p12_510
          · refine Tr.iload_n (pc := 74) (i := 3) d_X6_sipsAt_74 rfl rfl ?_
            refine Tr.tp 1 (by omega) ?_
            refine Tr.goto (pc := 75) (tgt := 80) d_X6_sipsAt_75 rfl ?_
            refine Tr.pick [1, 2, 3, 4, 6] (ls2 := [(0, (2, 48)), (1, (0, a1)), (2, (0, a2)), (3, (0, a3)), (5, (0, p12_5))]) rfl ?_
            exact J80 _ _ hS (by omega) k53_27_0 k53_28_0 k53_53_p12_510
        have J48 : ∀ (M : Mem), St Tru ws_X6_sipsAt_48_w4 as_X6_sipsAt_48_w4 M0 M → rd M 27 0 = r4 → rd M 28 0 = r22 → rd M 53 p12_5 = r32 → Tr l K 0 mX6_sipsAt 48 [(0, (2, 48)), (1, (0, a1)), (2, (0, a2)), (3, (0, a3)), (4, (0, p12_4)), (5, (0, p12_5))] [] M (q_X6_sipsAt_48_w4 M0) := by
          intro M  hS  k48_27_0 k48_28_0 k48_53_p12_510
          refine Tr.iconst (pc := 48) d_X6_sipsAt_48 (by decide) ?_
          refine Tr.goto (pc := 49) (tgt := 53) d_X6_sipsAt_49 rfl ?_
          refine Tr.pick [0, 1, 2, 3, 4, 5] (ls2 := [(0, (2, 48)), (1, (0, a1)), (2, (0, a2)), (3, (0, a3)), (4, (0, p12_4)), (5, (0, p12_5))]) rfl ?_
          exact J53 _ _ hS (by omega) k48_27_0 k48_28_0 k48_53_p12_510
        refine Tr.icmp_eq (pc := 34) (tgt := 48) d_X6_sipsAt_34 rfl (fun c34 => ?_) (fun c34 => ?_)
        · refine Tr.pick [0, 1, 2, 3, 4, 5] (ls2 := [(0, (2, 48)), (1, (0, a1)), (2, (0, a2)), (3, (0, a3)), (4, (0, p12_4)), (5, (0, p12_5))]) rfl ?_
          exact J48 _ hS k12_27_0 er22 er32
        · refine Tr.iload_n (pc := 37) (i := 1) d_X6_sipsAt_37 rfl rfl ?_
          refine Tr.aload_n (pc := 38) (i := 0) d_X6_sipsAt_38 rfl rfl ?_
          refine Tr.getf (pc := 39) d_X6_sipsAt_39 f_6_27 (by decide) (by decide) (ty_48 hS.1.1) ?_
          refine Tr.tp 54 (fx_48_7 hS.1.1) ?_
          refine Tr.iload (pc := 42) (i := 5) d_X6_sipsAt_42 rfl ?_
          refine Tr.iald (pc := 44) d_X6_sipsAt_44 (ty_54 hS.1.1) (by omega) (by omega) ?_
          refine Tr.gen (P := fun v => (-2147483648) ≤ v ∧ v ≤ 2147483647) (ar_54 hS.1.2.1 _) (fun r44 er44 br44 => ?_)
          refine Tr.icmp_ge (pc := 45) (tgt := 52) d_X6_sipsAt_45 rfl (fun c45 => ?_) (fun c45 => ?_)
          · refine Tr.iconst (pc := 52) d_X6_sipsAt_52 (by decide) ?_
            refine Tr.pick [0, 1, 2, 3, 4, 5] (ls2 := [(0, (2, 48)), (1, (0, a1)), (2, (0, a2)), (3, (0, a3)), (4, (0, p12_4)), (5, (0, p12_5))]) rfl ?_
            exact J53 _ _ hS (by omega) k12_27_0 er22 er32
          · refine Tr.pick [0, 1, 2, 3, 4, 5] (ls2 := [(0, (2, 48)), (1, (0, a1)), (2, (0, a2)), (3, (0, a3)), (4, (0, p12_4)), (5, (0, p12_5))]) rfl ?_
            exact J48 _ hS k12_27_0 er22 er32
  refine Tr.pick [2, 3, 4, 5, 1, 0] (ls2 := [(0, (2, 48)), (1, (0, a1)), (2, (0, a2)), (3, (0, a3)), (4, (0, r4)), (5, (0, 0))]) rfl ?_
  exact J12 _ _ _ _ hS (by omega) (by omega) er4 (Nat.lt_succ_self _)
