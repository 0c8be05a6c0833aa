/-! calls on a fresh pair -/
set_option maxRecDepth 100000 in
set_option maxHeartbeats 4000000 in
theorem op_measure {l : Launch} {K : EC} {f : Int → Int} (he : e_ext K 0 6 f) (hr : ∀ j, -2147483648 ≤ f j ∧ f j ≤ 2147483647) : Tr l K 20 mL_law 771 [(3, (0, 0)), (2, (2, 120)), (1, (2, 0)), (0, (2, -2))] [] C_461 (fun M' r => r = some (0, 1) ∧ M'.1 ≤ 600000 ∧ M'.2.1 ≤ room_1.slots) := by
  obtain ⟨a1, g1⟩ : ∃ a, f 1 = a := ⟨_, rfl⟩
  have r1 := hr 1
  rw [g1] at r1
  obtain ⟨a2, g2⟩ : ∃ a, f 2 = a := ⟨_, rfl⟩
  have r2 := hr 2
  rw [g2] at r2
  obtain ⟨a3, g3⟩ : ∃ a, f 3 = a := ⟨_, rfl⟩
  have r3 := hr 3
  rw [g3] at r3
  obtain ⟨a4, g4⟩ : ∃ a, f 4 = a := ⟨_, rfl⟩
  have r4 := hr 4
  rw [g4] at r4
  obtain ⟨a5, g5⟩ : ∃ a, f 5 = a := ⟨_, rfl⟩
  have r5 := hr 5
  rw [g5] at r5
  have hF := Fx_0
  refine Tr.aload_n (pc := 771) (i := 1) d_L_law_771 rfl rfl ?_
  refine Tr.aload_n (pc := 772) (i := 0) d_L_law_772 rfl rfl ?_
  refine Tr.iload_n (pc := 773) (i := 3) d_L_law_773 rfl rfl ?_
  refine Tr.iconst (pc := 774) d_L_law_774 (by decide) ?_
  refine Tr.iadd (pc := 775) d_L_law_775 ?_
  refine Tr.tp 1 rfl ?_
  refine Tr.xld (pc := 776) (i := 0) d_L_law_776 rfl he (by decide) (by decide) ?_
  refine Tr.tp a1 g1 ?_
  refine Tr.callV (pc := 777) (as := [_]) d_L_law_777 s_13_99 ok_X11_measure rfl rfl (Nat.le_of_ble_eq_true rfl) (Nat.le_of_ble_eq_true rfl) (by decide) (ty_0 hF) ?_
  refine Tr.lc [(0, (2, 0)), (1, (0, _))] rfl ?_
  refine Tr.iload_n (pc := 0) (i := 1) d_X11_measure_0 rfl rfl ?_
  refine Tr.if_lt (pc := 1) (tgt := 23) d_X11_measure_1 rfl (fun h1 => ?_) (fun h1 => ?_)
  · refine Tr.iconst (pc := 23) d_X11_measure_23 (by decide) ?_
    refine Tr.iret (pc := 24) d_X11_measure_24 rfl ?_
    refine Tr.sc [_] rfl ?_
    refine Tr.aload_n (pc := 780) (i := 2) d_L_law_780 rfl rfl ?_
    refine Tr.aload_n (pc := 781) (i := 0) d_L_law_781 rfl rfl ?_
    refine Tr.iload_n (pc := 782) (i := 3) d_L_law_782 rfl rfl ?_
    refine Tr.iconst (pc := 783) d_L_law_783 (by decide) ?_
    refine Tr.iadd (pc := 784) d_L_law_784 ?_
    refine Tr.tp 1 rfl ?_
    refine Tr.xld (pc := 785) (i := 0) d_L_law_785 rfl he (by decide) (by decide) ?_
    refine Tr.tp a1 g1 ?_
    refine Tr.callV (pc := 786) (as := [_]) d_L_law_786 s_13_102 ok_X12_measure rfl rfl (Nat.le_of_ble_eq_true rfl) (Nat.le_of_ble_eq_true rfl) (by decide) (ty_120 hF) ?_
    refine Tr.lc [(0, (2, 120)), (1, (0, _))] rfl ?_
    refine Tr.iload_n (pc := 0) (i := 1) d_X12_measure_0 rfl rfl ?_
    refine Tr.iconst (pc := 1) d_X12_measure_1 (by decide) ?_
    refine Tr.ldcw (pc := 2) d_X12_measure_2 k_12_688 (by decide) ?_
    refine Tr.callS (pc := 5) (as := [_, _, _]) d_X12_measure_5 s_12_467 ok_X12_is rfl rfl (Nat.le_of_ble_eq_true rfl) (Nat.le_of_ble_eq_true rfl) ?_
    refine Tr.lc [(0, (0, _)), (1, (0, 0)), (2, (0, 10000000))] rfl ?_
    refine Tr.iload_n (pc := 0) (i := 0) d_X12_is_0 rfl rfl ?_
    refine Tr.iload_n (pc := 1) (i := 1) d_X12_is_1 rfl rfl ?_
    refine Tr.icmp_lt (pc := 2) (tgt := 14) d_X12_is_2 rfl (fun _ => ?_) (fun hc => absurd (by omega) hc)
    refine Tr.iconst (pc := 14) d_X12_is_14 (by decide) ?_
    refine Tr.zret (pc := 15) d_X12_is_15 rfl (by decide) ?_
    refine Tr.sc [_] rfl ?_
    refine Tr.if_eq (pc := 8) (tgt := 20) d_X12_measure_8 rfl (fun _ => ?_) (fun hc => absurd (by decide) hc)
    refine Tr.iconst (pc := 20) d_X12_measure_20 (by decide) ?_
    refine Tr.iret (pc := 21) d_X12_measure_21 rfl ?_
    refine Tr.sc [_, _] rfl ?_
    refine Tr.icmp_eq (pc := 789) (tgt := 998) d_L_law_789 rfl (fun _ => ?_) (fun hc => absurd (by decide) hc)
    refine Tr.iinc (pc := 998) (ls2 := [(3, (0, 6)), (2, (2, 120)), (1, (2, 0)), (0, (2, (-2)))]) d_L_law_998 rfl (by decide) rfl ?_
    refine Tr.goto (pc := 1001) (tgt := 18) d_L_law_1001 rfl ?_
    refine Tr.iload_n (pc := 18) (i := 3) d_L_law_18 rfl rfl ?_
    refine Tr.aload_n (pc := 19) (i := 0) d_L_law_19 rfl rfl ?_
    refine Tr.xlen (pc := 20) (i := 0) d_L_law_20 rfl he (by decide) ?_
    refine Tr.tp 6 rfl ?_
    refine Tr.bipush (pc := 21) d_L_law_21 rfl (by decide) ?_
    refine Tr.isub (pc := 23) d_L_law_23 ?_
    refine Tr.tp 0 rfl ?_
    refine Tr.icmp_gt (pc := 24) (tgt := 1004) d_L_law_24 rfl (fun _ => ?_) (fun hc => absurd (by decide) hc)
    refine Tr.iconst (pc := 1004) d_L_law_1004 (by decide) ?_
    exact Tr.zret (pc := 1005) d_L_law_1005 rfl (by decide) ⟨rfl, Fx_room hF⟩
  · refine Tr.iload_n (pc := 4) (i := 1) d_X11_measure_4 rfl rfl ?_
    refine Tr.ldcw (pc := 5) d_X11_measure_5 k_11_271 (by decide) ?_
    refine Tr.icmp_gt (pc := 8) (tgt := 23) d_X11_measure_8 rfl (fun h2 => ?_) (fun h2 => ?_)
    · refine Tr.iconst (pc := 23) d_X11_measure_23 (by decide) ?_
      refine Tr.iret (pc := 24) d_X11_measure_24 rfl ?_
      refine Tr.sc [_] rfl ?_
      refine Tr.aload_n (pc := 780) (i := 2) d_L_law_780 rfl rfl ?_
      refine Tr.aload_n (pc := 781) (i := 0) d_L_law_781 rfl rfl ?_
      refine Tr.iload_n (pc := 782) (i := 3) d_L_law_782 rfl rfl ?_
      refine Tr.iconst (pc := 783) d_L_law_783 (by decide) ?_
      refine Tr.iadd (pc := 784) d_L_law_784 ?_
      refine Tr.tp 1 rfl ?_
      refine Tr.xld (pc := 785) (i := 0) d_L_law_785 rfl he (by decide) (by decide) ?_
      refine Tr.tp a1 g1 ?_
      refine Tr.callV (pc := 786) (as := [_]) d_L_law_786 s_13_102 ok_X12_measure rfl rfl (Nat.le_of_ble_eq_true rfl) (Nat.le_of_ble_eq_true rfl) (by decide) (ty_120 hF) ?_
      refine Tr.lc [(0, (2, 120)), (1, (0, _))] rfl ?_
      refine Tr.iload_n (pc := 0) (i := 1) d_X12_measure_0 rfl rfl ?_
      refine Tr.iconst (pc := 1) d_X12_measure_1 (by decide) ?_
      refine Tr.ldcw (pc := 2) d_X12_measure_2 k_12_688 (by decide) ?_
      refine Tr.callS (pc := 5) (as := [_, _, _]) d_X12_measure_5 s_12_467 ok_X12_is rfl rfl (Nat.le_of_ble_eq_true rfl) (Nat.le_of_ble_eq_true rfl) ?_
      refine Tr.lc [(0, (0, _)), (1, (0, 0)), (2, (0, 10000000))] rfl ?_
      refine Tr.iload_n (pc := 0) (i := 0) d_X12_is_0 rfl rfl ?_
      refine Tr.iload_n (pc := 1) (i := 1) d_X12_is_1 rfl rfl ?_
      refine Tr.icmp_lt (pc := 2) (tgt := 14) d_X12_is_2 rfl (fun hc => absurd hc (by omega)) (fun _ => ?_)
      refine Tr.iload_n (pc := 5) (i := 0) d_X12_is_5 rfl rfl ?_
      refine Tr.iload_n (pc := 6) (i := 2) d_X12_is_6 rfl rfl ?_
      refine Tr.icmp_gt (pc := 7) (tgt := 14) d_X12_is_7 rfl (fun _ => ?_) (fun hc => absurd (by omega) hc)
      refine Tr.iconst (pc := 14) d_X12_is_14 (by decide) ?_
      refine Tr.zret (pc := 15) d_X12_is_15 rfl (by decide) ?_
      refine Tr.sc [_] rfl ?_
      refine Tr.if_eq (pc := 8) (tgt := 20) d_X12_measure_8 rfl (fun _ => ?_) (fun hc => absurd (by decide) hc)
      refine Tr.iconst (pc := 20) d_X12_measure_20 (by decide) ?_
      refine Tr.iret (pc := 21) d_X12_measure_21 rfl ?_
      refine Tr.sc [_, _] rfl ?_
      refine Tr.icmp_eq (pc := 789) (tgt := 998) d_L_law_789 rfl (fun _ => ?_) (fun hc => absurd (by decide) hc)
      refine Tr.iinc (pc := 998) (ls2 := [(3, (0, 6)), (2, (2, 120)), (1, (2, 0)), (0, (2, (-2)))]) d_L_law_998 rfl (by decide) rfl ?_
      refine Tr.goto (pc := 1001) (tgt := 18) d_L_law_1001 rfl ?_
      refine Tr.iload_n (pc := 18) (i := 3) d_L_law_18 rfl rfl ?_
      refine Tr.aload_n (pc := 19) (i := 0) d_L_law_19 rfl rfl ?_
      refine Tr.xlen (pc := 20) (i := 0) d_L_law_20 rfl he (by decide) ?_
      refine Tr.tp 6 rfl ?_
      refine Tr.bipush (pc := 21) d_L_law_21 rfl (by decide) ?_
      refine Tr.isub (pc := 23) d_L_law_23 ?_
      refine Tr.tp 0 rfl ?_
      refine Tr.icmp_gt (pc := 24) (tgt := 1004) d_L_law_24 rfl (fun _ => ?_) (fun hc => absurd (by decide) hc)
      refine Tr.iconst (pc := 1004) d_L_law_1004 (by decide) ?_
      exact Tr.zret (pc := 1005) d_L_law_1005 rfl (by decide) ⟨rfl, Fx_room hF⟩
    · refine Tr.aload_n (pc := 11) (i := 0) d_X11_measure_11 rfl rfl ?_
      refine Tr.getf (pc := 12) d_X11_measure_12 f_11_70 (by decide) (by decide) (ty_0 hF) ?_
      refine Tr.tp 107 (fx_0_12 hF) ?_
      refine Tr.getf (pc := 15) d_X11_measure_15 f_11_133 (by decide) (by decide) (ty_107 hF) ?_
      refine Tr.tp 0 (b_107_0) ?_
      refine Tr.bipush (pc := 18) d_X11_measure_18 rfl (by decide) ?_
      refine Tr.icmp_lt (pc := 20) (tgt := 25) d_X11_measure_20 rfl (fun _ => ?_) (fun hc => absurd (by decide) hc)
      refine Tr.aload_n (pc := 25) (i := 0) d_X11_measure_25 rfl rfl ?_
      refine Tr.getf (pc := 26) d_X11_measure_26 f_11_50 (by decide) (by decide) (ty_0 hF) ?_
      refine Tr.tp 74 (fx_0_8 hF) ?_
      refine Tr.aload_n (pc := 29) (i := 0) d_X11_measure_29 rfl rfl ?_
      refine Tr.getf (pc := 30) d_X11_measure_30 f_11_30 (by decide) (by decide) (ty_0 hF) ?_
      refine Tr.tp 7 (b_0_4) ?_
      refine Tr.aload_n (pc := 33) (i := 0) d_X11_measure_33 rfl rfl ?_
      refine Tr.getf (pc := 34) d_X11_measure_34 f_11_37 (by decide) (by decide) (ty_0 hF) ?_
      refine Tr.tp 47 (fx_0_6 hF) ?_
      refine Tr.iconst (pc := 37) d_X11_measure_37 (by decide) ?_
      refine Tr.callV (pc := 38) (as := [_, _, _]) d_X11_measure_38 s_11_144 ok_X6_go rfl rfl (Nat.le_of_ble_eq_true rfl) (Nat.le_of_ble_eq_true rfl) (by decide) (ty_74 hF) ?_
      refine Tr.lc [(0, (2, 74)), (1, (2, 7)), (2, (2, 47)), (3, (0, (-1)))] rfl ?_
      refine Tr.aload_n (pc := 0) (i := 0) d_X6_go_0 rfl rfl ?_
      refine Tr.aload_n (pc := 1) (i := 1) d_X6_go_1 rfl rfl ?_
      refine Tr.aload_n (pc := 2) (i := 2) d_X6_go_2 rfl rfl ?_
      refine Tr.iload_n (pc := 3) (i := 3) d_X6_go_3 rfl rfl ?_
      refine Tr.callV (pc := 4) (as := [_, _, _]) d_X6_go_4 s_6_42 ok_X6_begin rfl rfl (Nat.le_of_ble_eq_true rfl) (Nat.le_of_ble_eq_true rfl) (by decide) (ty_74 hF) ?_
      refine Tr.lc [(0, (2, 74)), (1, (2, 7)), (2, (2, 47)), (3, (0, (-1)))] rfl ?_
      refine Tr.aload_n (pc := 0) (i := 0) d_X6_begin_0 rfl rfl ?_
      refine Tr.aload_n (pc := 1) (i := 1) d_X6_begin_1 rfl rfl ?_
      refine Tr.putfX (pc := 2) d_X6_begin_2 f_6_46 (by decide) (by decide) (ty_74 hF) hF (by decide +kernel) (fun hF => ?_)
      refine Tr.aload_n (pc := 5) (i := 2) d_X6_begin_5 rfl rfl ?_
      refine Tr.iconst (pc := 6) d_X6_begin_6 (by decide) ?_
      refine Tr.aload_n (pc := 7) (i := 0) d_X6_begin_7 rfl rfl ?_
      refine Tr.getf (pc := 8) d_X6_begin_8 f_6_9 (by decide) (by decide) (ty_74 hF) ?_
      refine Tr.tp 75 (fx_74_2 hF) ?_
      refine Tr.iconst (pc := 11) d_X6_begin_11 (by decide) ?_
      refine Tr.iconst (pc := 12) d_X6_begin_12 (by decide) ?_
      refine Tr.acopyX (pc := 13) (x := 47) (y := 75) d_X6_begin_13 ac_6_85 acw.1 acw.2.1 acw.2.2 (ty_47 hF) (ty_75 hF) (by decide) (by decide) (by decide) (by decide) (by decide) (Nat.le_of_ble_eq_true rfl) hF (by decide +kernel) (fun hF => ?_)
      refine Tr.aload_n (pc := 16) (i := 0) d_X6_begin_16 rfl rfl ?_
      refine Tr.getf (pc := 17) d_X6_begin_17 f_6_15 (by decide) (by decide) (ty_74 hF) ?_
      refine Tr.tp 76 (fx_74_3 hF) ?_
      refine Tr.iconst (pc := 20) d_X6_begin_20 (by decide) ?_
      refine Tr.callS (pc := 21) (as := [_, _]) d_X6_begin_21 s_6_91 ok_J7_fill_53178 rfl rfl (Nat.le_of_ble_eq_true rfl) (Nat.le_of_ble_eq_true rfl) ?_
      refine Tr.imp (sp_fillX (N := 6) (ty_76 hF) (by decide) hF (by decide +kernel)) ?_
      rintro _ _ ⟨rfl, rfl, hF⟩
      refine Tr.sc [] rfl ?_
      refine Tr.aload_n (pc := 24) (i := 0) d_X6_begin_24 rfl rfl ?_
      refine Tr.getf (pc := 25) d_X6_begin_25 f_6_21 (by decide) (by decide) (ty_74 hF) ?_
      refine Tr.tp 78 (fx_74_5 hF) ?_
      refine Tr.iconst (pc := 28) d_X6_begin_28 (by decide) ?_
      refine Tr.callS (pc := 29) (as := [_, _]) d_X6_begin_29 s_6_91 ok_J7_fill_53178 rfl rfl (Nat.le_of_ble_eq_true rfl) (Nat.le_of_ble_eq_true rfl) ?_
      refine Tr.imp (sp_fillX (N := 8) (ty_78 hF) (by decide) hF (by decide +kernel)) ?_
      rintro _ _ ⟨rfl, rfl, hF⟩
      refine Tr.sc [] rfl ?_
      refine Tr.aload_n (pc := 32) (i := 0) d_X6_begin_32 rfl rfl ?_
      refine Tr.getf (pc := 33) d_X6_begin_33 f_6_24 (by decide) (by decide) (ty_74 hF) ?_
      refine Tr.tp 79 (fx_74_6 hF) ?_
      refine Tr.iconst (pc := 36) d_X6_begin_36 (by decide) ?_
      refine Tr.callS (pc := 37) (as := [_, _]) d_X6_begin_37 s_6_91 ok_J7_fill_53178 rfl rfl (Nat.le_of_ble_eq_true rfl) (Nat.le_of_ble_eq_true rfl) ?_
      refine Tr.imp (sp_fillX (N := 6) (ty_79 hF) (by decide) hF (by decide +kernel)) ?_
      rintro _ _ ⟨rfl, rfl, hF⟩
      refine Tr.sc [] rfl ?_
      refine Tr.aload_n (pc := 40) (i := 0) d_X6_begin_40 rfl rfl ?_
      refine Tr.getf (pc := 41) d_X6_begin_41 f_6_27 (by decide) (by decide) (ty_74 hF) ?_
      refine Tr.tp 80 (fx_74_7 hF) ?_
      refine Tr.iconst (pc := 44) d_X6_begin_44 (by decide) ?_
      refine Tr.callS (pc := 45) (as := [_, _]) d_X6_begin_45 s_6_91 ok_J7_fill_53178 rfl rfl (Nat.le_of_ble_eq_true rfl) (Nat.le_of_ble_eq_true rfl) ?_
      refine Tr.imp (sp_fillX (N := 6) (ty_80 hF) (by decide) hF (by decide +kernel)) ?_
      rintro _ _ ⟨rfl, rfl, hF⟩
      refine Tr.sc [] rfl ?_
      refine Tr.aload_n (pc := 48) (i := 0) d_X6_begin_48 rfl rfl ?_
      refine Tr.getf (pc := 49) d_X6_begin_49 f_6_30 (by decide) (by decide) (ty_74 hF) ?_
      refine Tr.tp 81 (fx_74_8 hF) ?_
      refine Tr.iconst (pc := 52) d_X6_begin_52 (by decide) ?_
      refine Tr.callS (pc := 53) (as := [_, _]) d_X6_begin_53 s_6_91 ok_J7_fill_53178 rfl rfl (Nat.le_of_ble_eq_true rfl) (Nat.le_of_ble_eq_true rfl) ?_
      refine Tr.imp (sp_fillX (N := 6) (ty_81 hF) (by decide) hF (by decide +kernel)) ?_
      rintro _ _ ⟨rfl, rfl, hF⟩
      refine Tr.sc [] rfl ?_
      refine Tr.aload_n (pc := 56) (i := 0) d_X6_begin_56 rfl rfl ?_
      refine Tr.iconst (pc := 57) d_X6_begin_57 (by decide) ?_
      refine Tr.putfX (pc := 58) d_X6_begin_58 f_6_68 (by decide) (by decide) (ty_74 hF) hF (by decide +kernel) (fun hF => ?_)
      refine Tr.aload_n (pc := 61) (i := 0) d_X6_begin_61 rfl rfl ?_
      refine Tr.iconst (pc := 62) d_X6_begin_62 (by decide) ?_
      refine Tr.putfX (pc := 63) d_X6_begin_63 f_6_97 (by decide) (by decide) (ty_74 hF) hF (by decide +kernel) (fun hF => ?_)
      refine Tr.aload_n (pc := 66) (i := 0) d_X6_begin_66 rfl rfl ?_
      refine Tr.iconst (pc := 67) d_X6_begin_67 (by decide) ?_
      refine Tr.putfX (pc := 68) d_X6_begin_68 f_6_100 (by decide) (by decide) (ty_74 hF) hF (by decide +kernel) (fun hF => ?_)
      refine Tr.aload_n (pc := 71) (i := 0) d_X6_begin_71 rfl rfl ?_
      refine Tr.iconst (pc := 72) d_X6_begin_72 (by decide) ?_
      refine Tr.putfX (pc := 73) d_X6_begin_73 f_6_103 (by decide) (by decide) (ty_74 hF) hF (by decide +kernel) (fun hF => ?_)
      refine Tr.aload_n (pc := 76) (i := 0) d_X6_begin_76 rfl rfl ?_
      refine Tr.iconst (pc := 77) d_X6_begin_77 (by decide) ?_
      refine Tr.putfX (pc := 78) d_X6_begin_78 f_6_62 (by decide) (by decide) (ty_74 hF) hF (by decide +kernel) (fun hF => ?_)
      refine Tr.aload_n (pc := 81) (i := 0) d_X6_begin_81 rfl rfl ?_
      refine Tr.iconst (pc := 82) d_X6_begin_82 (by decide) ?_
      refine Tr.putfX (pc := 83) d_X6_begin_83 f_6_79 (by decide) (by decide) (ty_74 hF) hF (by decide +kernel) (fun hF => ?_)
      refine Tr.aload_n (pc := 86) (i := 0) d_X6_begin_86 rfl rfl ?_
      refine Tr.iload_n (pc := 87) (i := 3) d_X6_begin_87 rfl rfl ?_
      refine Tr.if_lt (pc := 88) (tgt := 95) d_X6_begin_88 rfl (fun _ => ?_) (fun hc => absurd (by decide) hc)
      refine Tr.iconst (pc := 95) d_X6_begin_95 (by decide) ?_
      refine Tr.putzX (pc := 96) d_X6_begin_96 f_6_106 (by decide) (ty_74 hF) (by decide) hF (by decide +kernel) (fun hF => ?_)
      refine Tr.aload_n (pc := 99) (i := 0) d_X6_begin_99 rfl rfl ?_
      refine Tr.iload_n (pc := 100) (i := 3) d_X6_begin_100 rfl rfl ?_
      refine Tr.putfX (pc := 101) d_X6_begin_101 f_6_110 (by decide) (by decide) (ty_74 hF) hF (by decide +kernel) (fun hF => ?_)
      refine Tr.aload_n (pc := 104) (i := 0) d_X6_begin_104 rfl rfl ?_
      refine Tr.getf (pc := 105) d_X6_begin_105 f_6_38 (by decide) (by decide) (ty_74 hF) ?_
      refine Tr.tp 82 (fx_74_0 hF) ?_
      refine Tr.aload_n (pc := 108) (i := 1) d_X6_begin_108 rfl rfl ?_
      refine Tr.callV (pc := 109) (as := [_]) d_X6_begin_109 s_6_113 ok_X1_begin rfl rfl (Nat.le_of_ble_eq_true rfl) (Nat.le_of_ble_eq_true rfl) (by decide) (ty_82 hF) ?_
      refine Tr.lc [(0, (2, 82)), (1, (2, 7))] rfl ?_
      refine Tr.aload_n (pc := 0) (i := 0) d_X1_begin_0 rfl rfl ?_
      refine Tr.aload_n (pc := 1) (i := 1) d_X1_begin_1 rfl rfl ?_
      refine Tr.putfX (pc := 2) d_X1_begin_2 f_1_41 (by decide) (by decide) (ty_82 hF) hF (by decide +kernel) (fun hF => ?_)
      refine Tr.aload_n (pc := 5) (i := 0) d_X1_begin_5 rfl rfl ?_
      refine Tr.getf (pc := 6) d_X1_begin_6 f_1_9 (by decide) (by decide) (ty_82 hF) ?_
      refine Tr.tp 83 (fx_82_2 hF) ?_
      refine Tr.iconst (pc := 9) d_X1_begin_9 (by decide) ?_
      refine Tr.callS (pc := 10) (as := [_, _]) d_X1_begin_10 s_1_45 ok_J7_fill_53178 rfl rfl (Nat.le_of_ble_eq_true rfl) (Nat.le_of_ble_eq_true rfl) ?_
      refine Tr.imp (sp_fillX (N := 24) (ty_83 hF) (by decide) hF (by decide +kernel)) ?_
      rintro _ _ ⟨rfl, rfl, hF⟩
      refine Tr.sc [] rfl ?_
      refine Tr.aload_n (pc := 13) (i := 0) d_X1_begin_13 rfl rfl ?_
      refine Tr.getz (pc := 14) d_X1_begin_14 f_1_37 (by decide) (ty_82 hF) ?_
      refine Tr.tp 0 ((rd_fb _ rfl).trans ((rd_wb _ rfl).trans ((rd_wb _ rfl).trans ((rd_wb _ rfl).trans ((rd_wb _ rfl).trans ((rd_wb _ rfl).trans ((rd_wb _ rfl).trans ((rd_wb _ rfl).trans ((rd_wb _ rfl).trans ((rd_wb _ rfl).trans ((rd_fb _ rfl).trans ((rd_fb _ rfl).trans ((rd_fb _ rfl).trans ((rd_fb _ rfl).trans ((rd_fb _ rfl).trans ((rd_cb _ rfl).trans ((rd_wb _ rfl).trans (b_82_0)))))))))))))))))) ?_
      refine Tr.if_eq (pc := 17) (tgt := 67) d_X1_begin_17 rfl (fun _ => ?_) (fun hc => absurd (by decide) hc)
      refine Tr.vret (pc := 67) d_X1_begin_67 rfl ?_
      refine Tr.sc [] rfl ?_
      refine Tr.vret (pc := 112) d_X6_begin_112 rfl ?_
      refine Tr.sc [] rfl ?_
      refine Tr.iconst (pc := 7) d_X6_go_7 (by decide) ?_
      refine Tr.istore (pc := 8) (i := 4) (ls2 := [(4, (0, 0)), (0, (2, 74)), (1, (2, 7)), (2, (2, 47)), (3, (0, (-1)))]) d_X6_go_8 (by decide) rfl ?_
      refine Tr.iconst (pc := 10) d_X6_go_10 (by decide) ?_
      refine Tr.istore (pc := 11) (i := 5) (ls2 := [(5, (0, 0)), (4, (0, 0)), (0, (2, 74)), (1, (2, 7)), (2, (2, 47)), (3, (0, (-1)))]) d_X6_go_11 (by decide) rfl ?_
      refine Tr.iload (pc := 13) (i := 5) d_X6_go_13 rfl ?_
      refine Tr.sipush (pc := 15) d_X6_go_15 rfl (by decide) ?_
      refine Tr.icmp_gt (pc := 18) (tgt := 103) d_X6_go_18 rfl (fun hc => absurd hc (by decide)) (fun _ => ?_)
      refine Tr.iload (pc := 21) (i := 4) d_X6_go_21 rfl ?_
      refine Tr.aload_n (pc := 23) (i := 0) d_X6_go_23 rfl rfl ?_
      refine Tr.getf (pc := 24) d_X6_go_24 f_6_46 (by decide) (by decide) (ty_74 hF) ?_
      refine Tr.tp 7 ((rd_fb _ rfl).trans ((rd_wb _ rfl).trans ((rd_wb _ rfl).trans ((rd_wb _ rfl).trans ((rd_wb _ rfl).trans ((rd_wb _ rfl).trans ((rd_wb _ rfl).trans ((rd_wb _ rfl).trans ((rd_wb _ rfl).trans ((rd_wb _ rfl).trans ((rd_fb _ rfl).trans ((rd_fb _ rfl).trans ((rd_fb _ rfl).trans ((rd_fb _ rfl).trans ((rd_fb _ rfl).trans ((rd_cb _ rfl).trans (rd_ws _ _ _ _))))))))))))))))) ?_
      refine Tr.getf (pc := 27) d_X6_go_27 f_6_50 (by decide) (by decide) (ty_7 hF) ?_
      refine Tr.tp 15 (fx_7_11 hF) ?_
      refine Tr.getf (pc := 30) d_X6_go_30 f_6_56 (by decide) (by decide) (ty_15 hF) ?_
      refine Tr.tp 0 ((rd_fb _ rfl).trans ((rd_wb _ rfl).trans ((rd_wb _ rfl).trans ((rd_wb _ rfl).trans ((rd_wb _ rfl).trans ((rd_wb _ rfl).trans ((rd_wb _ rfl).trans ((rd_wb _ rfl).trans ((rd_wb _ rfl).trans ((rd_wb _ rfl).trans ((rd_fb _ rfl).trans ((rd_fb _ rfl).trans ((rd_fb _ rfl).trans ((rd_fb _ rfl).trans ((rd_fb _ rfl).trans ((rd_cb _ rfl).trans ((rd_wb _ rfl).trans (b_15_0)))))))))))))))))) ?_
      refine Tr.icmp_ge (pc := 33) (tgt := 103) d_X6_go_33 rfl (fun _ => ?_) (fun hc => absurd (by decide) hc)
      refine Tr.aload_n (pc := 103) (i := 0) d_X6_go_103 rfl rfl ?_
      refine Tr.callV (pc := 104) (as := []) d_X6_go_104 s_6_82 ok_X6_finish rfl rfl (Nat.le_of_ble_eq_true rfl) (Nat.le_of_ble_eq_true rfl) (by decide) (ty_74 hF) ?_
      refine Tr.lc [(0, (2, 74))] rfl ?_
      refine Tr.aload_n (pc := 0) (i := 0) d_X6_finish_0 rfl rfl ?_
      refine Tr.getf (pc := 1) d_X6_finish_1 f_6_68 (by decide) (by decide) (ty_74 hF) ?_
      refine Tr.tp 0 ((rd_fb _ rfl).trans ((rd_wb _ rfl).trans ((rd_wb _ rfl).trans ((rd_wb _ rfl).trans ((rd_wb _ rfl).trans ((rd_wb _ rfl).trans ((rd_wb _ rfl).trans ((rd_wb _ rfl).trans ((rd_wb _ rfl).trans (rd_ws _ _ _ _)))))))))) ?_
      refine Tr.istore_n (pc := 4) (i := 1) (ls2 := [(1, (0, 0)), (0, (2, 74))]) d_X6_finish_4 rfl (by decide) rfl ?_
      refine Tr.aload_n (pc := 5) (i := 0) d_X6_finish_5 rfl rfl ?_
      refine Tr.getf (pc := 6) d_X6_finish_6 f_6_46 (by decide) (by decide) (ty_74 hF) ?_
      refine Tr.tp 7 ((rd_fb _ rfl).trans ((rd_wb _ rfl).trans ((rd_wb _ rfl).trans ((rd_wb _ rfl).trans ((rd_wb _ rfl).trans ((rd_wb _ rfl).trans ((rd_wb _ rfl).trans ((rd_wb _ rfl).trans ((rd_wb _ rfl).trans ((rd_wb _ rfl).trans ((rd_fb _ rfl).trans ((rd_fb _ rfl).trans ((rd_fb _ rfl).trans ((rd_fb _ rfl).trans ((rd_fb _ rfl).trans ((rd_cb _ rfl).trans (rd_ws _ _ _ _))))))))))))))))) ?_
      refine Tr.getf (pc := 9) d_X6_finish_9 f_6_116 (by decide) (by decide) (ty_7 hF) ?_
      refine Tr.tp 8 (fx_7_4 hF) ?_
      refine Tr.iconst (pc := 12) d_X6_finish_12 (by decide) ?_
      refine Tr.iald (pc := 13) d_X6_finish_13 (ty_8 hF) (by decide) (by decide) ?_
      refine Tr.tp 0 ((rd_fb _ rfl).trans ((rd_wb _ rfl).trans ((rd_wb _ rfl).trans ((rd_wb _ rfl).trans ((rd_wb _ rfl).trans ((rd_wb _ rfl).trans ((rd_wb _ rfl).trans ((rd_wb _ rfl).trans ((rd_wb _ rfl).trans ((rd_wb _ rfl).trans ((rd_fb _ rfl).trans ((rd_fb _ rfl).trans ((rd_fb _ rfl).trans ((rd_fb _ rfl).trans ((rd_fb _ rfl).trans ((rd_cb _ rfl).trans ((rd_wb _ rfl).trans (b_8_0)))))))))))))))))) ?_
      refine Tr.istore_n (pc := 14) (i := 2) (ls2 := [(2, (0, 0)), (1, (0, 0)), (0, (2, 74))]) d_X6_finish_14 rfl (by decide) rfl ?_
      refine Tr.iconst (pc := 15) d_X6_finish_15 (by decide) ?_
      refine Tr.istore_n (pc := 16) (i := 3) (ls2 := [(3, (0, 0)), (2, (0, 0)), (1, (0, 0)), (0, (2, 74))]) d_X6_finish_16 rfl (by decide) rfl ?_
      refine Tr.iload_n (pc := 17) (i := 3) d_X6_finish_17 rfl rfl ?_
      refine Tr.iload_n (pc := 18) (i := 2) d_X6_finish_18 rfl rfl ?_
      refine Tr.icmp_ge (pc := 19) (tgt := 61) d_X6_finish_19 rfl (fun _ => ?_) (fun hc => absurd (by decide) hc)
      refine Tr.iconst (pc := 61) d_X6_finish_61 (by decide) ?_
      refine Tr.istore_n (pc := 62) (i := 3) (ls2 := [(3, (0, 0)), (2, (0, 0)), (1, (0, 0)), (0, (2, 74))]) d_X6_finish_62 rfl (by decide) rfl ?_
      refine Tr.iload_n (pc := 63) (i := 3) d_X6_finish_63 rfl rfl ?_
      refine Tr.iload_n (pc := 64) (i := 2) d_X6_finish_64 rfl rfl ?_
      refine Tr.icmp_ge (pc := 65) (tgt := 129) d_X6_finish_65 rfl (fun _ => ?_) (fun hc => absurd (by decide) hc)
      refine Tr.aload_n (pc := 129) (i := 0) d_X6_finish_129 rfl rfl ?_
      refine Tr.iload_n (pc := 130) (i := 1) d_X6_finish_130 rfl rfl ?_
      refine Tr.aload_n (pc := 131) (i := 0) d_X6_finish_131 rfl rfl ?_
      refine Tr.getf (pc := 132) d_X6_finish_132 f_6_46 (by decide) (by decide) (ty_74 hF) ?_
      refine Tr.tp 7 ((rd_fb _ rfl).trans ((rd_wb _ rfl).trans ((rd_wb _ rfl).trans ((rd_wb _ rfl).trans ((rd_wb _ rfl).trans ((rd_wb _ rfl).trans ((rd_wb _ rfl).trans ((rd_wb _ rfl).trans ((rd_wb _ rfl).trans ((rd_wb _ rfl).trans ((rd_fb _ rfl).trans ((rd_fb _ rfl).trans ((rd_fb _ rfl).trans ((rd_fb _ rfl).trans ((rd_fb _ rfl).trans ((rd_cb _ rfl).trans (rd_ws _ _ _ _))))))))))))))))) ?_
      refine Tr.getf (pc := 135) d_X6_finish_135 f_6_135 (by decide) (by decide) (ty_7 hF) ?_
      refine Tr.tp 1 ((rd_fb _ rfl).trans ((rd_wb _ rfl).trans ((rd_wb _ rfl).trans ((rd_wb _ rfl).trans ((rd_wb _ rfl).trans ((rd_wb _ rfl).trans ((rd_wb _ rfl).trans ((rd_wb _ rfl).trans ((rd_wb _ rfl).trans ((rd_wb _ rfl).trans ((rd_fb _ rfl).trans ((rd_fb _ rfl).trans ((rd_fb _ rfl).trans ((rd_fb _ rfl).trans ((rd_fb _ rfl).trans ((rd_cb _ rfl).trans ((rd_wb _ rfl).trans (b_7_0)))))))))))))))))) ?_
      refine Tr.imul (pc := 138) d_X6_finish_138 ?_
      refine Tr.tp 0 rfl ?_
      refine Tr.aload_n (pc := 139) (i := 0) d_X6_finish_139 rfl rfl ?_
      refine Tr.getf (pc := 140) d_X6_finish_140 f_6_38 (by decide) (by decide) (ty_74 hF) ?_
      refine Tr.tp 82 (fx_74_0 hF) ?_
      refine Tr.callV (pc := 143) (as := []) d_X6_finish_143 s_6_138 ok_X1_sippedByParts rfl rfl (Nat.le_of_ble_eq_true rfl) (Nat.le_of_ble_eq_true rfl) (by decide) (ty_82 hF) ?_
      refine Tr.lc [(0, (2, 82))] rfl ?_
      refine Tr.iconst (pc := 0) d_X1_sippedByParts_0 (by decide) ?_
      refine Tr.istore_n (pc := 1) (i := 1) (ls2 := [(1, (0, 0)), (0, (2, 82))]) d_X1_sippedByParts_1 rfl (by decide) rfl ?_
      refine Tr.iconst (pc := 2) d_X1_sippedByParts_2 (by decide) ?_
      refine Tr.istore_n (pc := 3) (i := 2) (ls2 := [(2, (0, 0)), (1, (0, 0)), (0, (2, 82))]) d_X1_sippedByParts_3 rfl (by decide) rfl ?_
      refine Tr.iload_n (pc := 4) (i := 2) d_X1_sippedByParts_4 rfl rfl ?_
      refine Tr.aload_n (pc := 5) (i := 0) d_X1_sippedByParts_5 rfl rfl ?_
      refine Tr.getf (pc := 6) d_X1_sippedByParts_6 f_1_41 (by decide) (by decide) (ty_82 hF) ?_
      refine Tr.tp 7 ((rd_fb _ rfl).trans (rd_ws _ _ _ _)) ?_
      refine Tr.getf (pc := 9) d_X1_sippedByParts_9 f_1_91 (by decide) (by decide) (ty_7 hF) ?_
      refine Tr.tp 8 (fx_7_4 hF) ?_
      refine Tr.iconst (pc := 12) d_X1_sippedByParts_12 (by decide) ?_
      refine Tr.iald (pc := 13) d_X1_sippedByParts_13 (ty_8 hF) (by decide) (by decide) ?_
      refine Tr.tp 0 ((rd_fb _ rfl).trans ((rd_wb _ rfl).trans ((rd_wb _ rfl).trans ((rd_wb _ rfl).trans ((rd_wb _ rfl).trans ((rd_wb _ rfl).trans ((rd_wb _ rfl).trans ((rd_wb _ rfl).trans ((rd_wb _ rfl).trans ((rd_wb _ rfl).trans ((rd_fb _ rfl).trans ((rd_fb _ rfl).trans ((rd_fb _ rfl).trans ((rd_fb _ rfl).trans ((rd_fb _ rfl).trans ((rd_cb _ rfl).trans ((rd_wb _ rfl).trans (b_8_0)))))))))))))))))) ?_
      refine Tr.iconst (pc := 14) d_X1_sippedByParts_14 (by decide) ?_
      refine Tr.imul (pc := 15) d_X1_sippedByParts_15 ?_
      refine Tr.tp 0 rfl ?_
      refine Tr.icmp_ge (pc := 16) (tgt := 44) d_X1_sippedByParts_16 rfl (fun _ => ?_) (fun hc => absurd (by decide) hc)
      refine Tr.iload_n (pc := 44) (i := 1) d_X1_sippedByParts_44 rfl rfl ?_
      refine Tr.iret (pc := 45) d_X1_sippedByParts_45 rfl ?_
      refine Tr.sc [_, _, _] rfl ?_
      refine Tr.iadd (pc := 146) d_X6_finish_146 ?_
      refine Tr.tp 0 rfl ?_
      refine Tr.putfX (pc := 147) d_X6_finish_147 f_6_142 (by decide) (by decide) (ty_74 hF) hF (by decide +kernel) (fun hF => ?_)
      refine Tr.vret (pc := 150) d_X6_finish_150 rfl ?_
      refine Tr.sc [] rfl ?_
      refine Tr.vret (pc := 107) d_X6_go_107 rfl ?_
      refine Tr.sc [] rfl ?_
      refine Tr.aload_n (pc := 41) (i := 0) d_X11_measure_41 rfl rfl ?_
      refine Tr.getf (pc := 42) d_X11_measure_42 f_11_70 (by decide) (by decide) (ty_0 hF) ?_
      refine Tr.tp 107 (fx_0_12 hF) ?_
      refine Tr.iload_n (pc := 45) (i := 1) d_X11_measure_45 rfl rfl ?_
      refine Tr.aload_n (pc := 46) (i := 0) d_X11_measure_46 rfl rfl ?_
      refine Tr.getf (pc := 47) d_X11_measure_47 f_11_50 (by decide) (by decide) (ty_0 hF) ?_
      refine Tr.tp 74 (fx_0_8 hF) ?_
      refine Tr.callV (pc := 50) (as := [_, _]) d_X11_measure_50 s_11_272 ok_X2_add rfl rfl (Nat.le_of_ble_eq_true rfl) (Nat.le_of_ble_eq_true rfl) (by decide) (ty_107 hF) ?_
      refine Tr.lc [(0, (2, 107)), (1, (0, _)), (2, (2, 74))] rfl ?_
      refine Tr.aload_n (pc := 0) (i := 0) d_X2_add_0 rfl rfl ?_
      refine Tr.getf (pc := 1) d_X2_add_1 f_2_27 (by decide) (by decide) (ty_107 hF) ?_
      refine Tr.tp 0 ((rd_wb _ rfl).trans ((rd_fb _ rfl).trans ((rd_wb _ rfl).trans ((rd_wb _ rfl).trans ((rd_wb _ rfl).trans ((rd_wb _ rfl).trans ((rd_wb _ rfl).trans ((rd_wb _ rfl).trans ((rd_wb _ rfl).trans ((rd_wb _ rfl).trans ((rd_wb _ rfl).trans ((rd_fb _ rfl).trans ((rd_fb _ rfl).trans ((rd_fb _ rfl).trans ((rd_fb _ rfl).trans ((rd_fb _ rfl).trans ((rd_cb _ rfl).trans ((rd_wb _ rfl).trans (b_107_0))))))))))))))))))) ?_
      refine Tr.bipush (pc := 4) d_X2_add_4 rfl (by decide) ?_
      refine Tr.icmp_lt (pc := 6) (tgt := 10) d_X2_add_6 rfl (fun _ => ?_) (fun hc => absurd (by decide) hc)
      refine Tr.aload_n (pc := 10) (i := 0) d_X2_add_10 rfl rfl ?_
      refine Tr.getf (pc := 11) d_X2_add_11 f_2_15 (by decide) (by decide) (ty_107 hF) ?_
      refine Tr.tp 109 (fx_107_3 hF) ?_
      refine Tr.aload_n (pc := 14) (i := 0) d_X2_add_14 rfl rfl ?_
      refine Tr.getf (pc := 15) d_X2_add_15 f_2_27 (by decide) (by decide) (ty_107 hF) ?_
      refine Tr.tp 0 ((rd_wb _ rfl).trans ((rd_fb _ rfl).trans ((rd_wb _ rfl).trans ((rd_wb _ rfl).trans ((rd_wb _ rfl).trans ((rd_wb _ rfl).trans ((rd_wb _ rfl).trans ((rd_wb _ rfl).trans ((rd_wb _ rfl).trans ((rd_wb _ rfl).trans ((rd_wb _ rfl).trans ((rd_fb _ rfl).trans ((rd_fb _ rfl).trans ((rd_fb _ rfl).trans ((rd_fb _ rfl).trans ((rd_fb _ rfl).trans ((rd_cb _ rfl).trans ((rd_wb _ rfl).trans (b_107_0))))))))))))))))))) ?_
      refine Tr.iload_n (pc := 18) (i := 1) d_X2_add_18 rfl rfl ?_
      refine Tr.iastX (pc := 19) d_X2_add_19 (ty_109 hF) (by decide) (by decide) hF (by decide +kernel) (fun hF => ?_)
      refine Tr.aload_n (pc := 20) (i := 0) d_X2_add_20 rfl rfl ?_
      refine Tr.getf (pc := 21) d_X2_add_21 f_2_18 (by decide) (by decide) (ty_107 hF) ?_
      refine Tr.tp 110 (fx_107_4 hF) ?_
      refine Tr.aload_n (pc := 24) (i := 0) d_X2_add_24 rfl rfl ?_
      refine Tr.getf (pc := 25) d_X2_add_25 f_2_27 (by decide) (by decide) (ty_107 hF) ?_
      refine Tr.tp 0 ((rd_wb _ rfl).trans ((rd_wb _ rfl).trans ((rd_fb _ rfl).trans ((rd_wb _ rfl).trans ((rd_wb _ rfl).trans ((rd_wb _ rfl).trans ((rd_wb _ rfl).trans ((rd_wb _ rfl).trans ((rd_wb _ rfl).trans ((rd_wb _ rfl).trans ((rd_wb _ rfl).trans ((rd_wb _ rfl).trans ((rd_fb _ rfl).trans ((rd_fb _ rfl).trans ((rd_fb _ rfl).trans ((rd_fb _ rfl).trans ((rd_fb _ rfl).trans ((rd_cb _ rfl).trans ((rd_wb _ rfl).trans (b_107_0)))))))))))))))))))) ?_
      refine Tr.aload_n (pc := 28) (i := 2) d_X2_add_28 rfl rfl ?_
      refine Tr.getf (pc := 29) d_X2_add_29 f_2_35 (by decide) (by decide) (ty_74 hF) ?_
      refine Tr.tp 0 ((rd_wb _ rfl).trans (rd_ws _ _ _ _)) ?_
      refine Tr.iastX (pc := 32) d_X2_add_32 (ty_110 hF) (by decide) (by decide) hF (by decide +kernel) (fun hF => ?_)
      refine Tr.aload_n (pc := 33) (i := 2) d_X2_add_33 rfl rfl ?_
      refine Tr.getf (pc := 34) d_X2_add_34 f_2_39 (by decide) (by decide) (ty_74 hF) ?_
      refine Tr.tp 82 (fx_74_0 hF) ?_
      refine Tr.getf (pc := 37) d_X2_add_37 f_2_43 (by decide) (by decide) (ty_82 hF) ?_
      refine Tr.tp 83 (fx_82_2 hF) ?_
      refine Tr.iconst (pc := 40) d_X2_add_40 (by decide) ?_
      refine Tr.aload_n (pc := 41) (i := 0) d_X2_add_41 rfl rfl ?_
      refine Tr.getf (pc := 42) d_X2_add_42 f_2_21 (by decide) (by decide) (ty_107 hF) ?_
      refine Tr.tp 111 (fx_107_5 hF) ?_
      refine Tr.aload_n (pc := 45) (i := 0) d_X2_add_45 rfl rfl ?_
      refine Tr.getf (pc := 46) d_X2_add_46 f_2_27 (by decide) (by decide) (ty_107 hF) ?_
      refine Tr.tp 0 ((rd_wb _ rfl).trans ((rd_wb _ rfl).trans ((rd_wb _ rfl).trans ((rd_fb _ rfl).trans ((rd_wb _ rfl).trans ((rd_wb _ rfl).trans ((rd_wb _ rfl).trans ((rd_wb _ rfl).trans ((rd_wb _ rfl).trans ((rd_wb _ rfl).trans ((rd_wb _ rfl).trans ((rd_wb _ rfl).trans ((rd_wb _ rfl).trans ((rd_fb _ rfl).trans ((rd_fb _ rfl).trans ((rd_fb _ rfl).trans ((rd_fb _ rfl).trans ((rd_fb _ rfl).trans ((rd_cb _ rfl).trans ((rd_wb _ rfl).trans (b_107_0))))))))))))))))))))) ?_
      refine Tr.bipush (pc := 49) d_X2_add_49 rfl (by decide) ?_
      refine Tr.imul (pc := 51) d_X2_add_51 ?_
      refine Tr.tp 0 rfl ?_
      refine Tr.bipush (pc := 52) d_X2_add_52 rfl (by decide) ?_
      refine Tr.acopyX (pc := 54) (x := 83) (y := 111) d_X2_add_54 ac_2_48 acw.1 acw.2.1 acw.2.2 (ty_83 hF) (ty_111 hF) (by decide) (by decide) (by decide) (by decide) (by decide) (Nat.le_of_ble_eq_true rfl) hF (by decide +kernel) (fun hF => ?_)
      refine Tr.aload_n (pc := 57) (i := 0) d_X2_add_57 rfl rfl ?_
      refine Tr.dup (pc := 58) d_X2_add_58 ne21 ?_
      refine Tr.getf (pc := 59) d_X2_add_59 f_2_27 (by decide) (by decide) (ty_107 hF) ?_
      refine Tr.tp 0 ((rd_cb _ rfl).trans ((rd_wb _ rfl).trans ((rd_wb _ rfl).trans ((rd_wb _ rfl).trans ((rd_fb _ rfl).trans ((rd_wb _ rfl).trans ((rd_wb _ rfl).trans ((rd_wb _ rfl).trans ((rd_wb _ rfl).trans ((rd_wb _ rfl).trans ((rd_wb _ rfl).trans ((rd_wb _ rfl).trans ((rd_wb _ rfl).trans ((rd_wb _ rfl).trans ((rd_fb _ rfl).trans ((rd_fb _ rfl).trans ((rd_fb _ rfl).trans ((rd_fb _ rfl).trans ((rd_fb _ rfl).trans ((rd_cb _ rfl).trans ((rd_wb _ rfl).trans (b_107_0)))))))))))))))))))))) ?_
      refine Tr.iconst (pc := 62) d_X2_add_62 (by decide) ?_
      refine Tr.iadd (pc := 63) d_X2_add_63 ?_
      refine Tr.tp 1 rfl ?_
      refine Tr.putfX (pc := 64) d_X2_add_64 f_2_27 (by decide) (by decide) (ty_107 hF) hF (by decide +kernel) (fun hF => ?_)
      refine Tr.vret (pc := 67) d_X2_add_67 rfl ?_
      refine Tr.sc [] rfl ?_
      refine Tr.aload_n (pc := 53) (i := 0) d_X11_measure_53 rfl rfl ?_
      refine Tr.getf (pc := 54) d_X11_measure_54 f_11_70 (by decide) (by decide) (ty_0 hF) ?_
      refine Tr.tp 107 (fx_0_12 hF) ?_
      refine Tr.getf (pc := 57) d_X11_measure_57 f_11_133 (by decide) (by decide) (ty_107 hF) ?_
      refine Tr.tp 1 (rd_ws _ _ _ _) ?_
      refine Tr.iret (pc := 60) d_X11_measure_60 rfl ?_
      refine Tr.sc [_] rfl ?_
      refine Tr.aload_n (pc := 780) (i := 2) d_L_law_780 rfl rfl ?_
      refine Tr.aload_n (pc := 781) (i := 0) d_L_law_781 rfl rfl ?_
      refine Tr.iload_n (pc := 782) (i := 3) d_L_law_782 rfl rfl ?_
      refine Tr.iconst (pc := 783) d_L_law_783 (by decide) ?_
      refine Tr.iadd (pc := 784) d_L_law_784 ?_
      refine Tr.tp 1 rfl ?_
      refine Tr.xld (pc := 785) (i := 0) d_L_law_785 rfl he (by decide) (by decide) ?_
      refine Tr.tp a1 g1 ?_
      refine Tr.callV (pc := 786) (as := [_]) d_L_law_786 s_13_102 ok_X12_measure rfl rfl (Nat.le_of_ble_eq_true rfl) (Nat.le_of_ble_eq_true rfl) (by decide) (ty_120 hF) ?_
      refine Tr.lc [(0, (2, 120)), (1, (0, _))] rfl ?_
      refine Tr.iload_n (pc := 0) (i := 1) d_X12_measure_0 rfl rfl ?_
      refine Tr.iconst (pc := 1) d_X12_measure_1 (by decide) ?_
      refine Tr.ldcw (pc := 2) d_X12_measure_2 k_12_688 (by decide) ?_
      refine Tr.callS (pc := 5) (as := [_, _, _]) d_X12_measure_5 s_12_467 ok_X12_is rfl rfl (Nat.le_of_ble_eq_true rfl) (Nat.le_of_ble_eq_true rfl) ?_
      refine Tr.lc [(0, (0, _)), (1, (0, 0)), (2, (0, 10000000))] rfl ?_
      refine Tr.iload_n (pc := 0) (i := 0) d_X12_is_0 rfl rfl ?_
      refine Tr.iload_n (pc := 1) (i := 1) d_X12_is_1 rfl rfl ?_
      refine Tr.icmp_lt (pc := 2) (tgt := 14) d_X12_is_2 rfl (fun hc => absurd hc (by omega)) (fun _ => ?_)
      refine Tr.iload_n (pc := 5) (i := 0) d_X12_is_5 rfl rfl ?_
      refine Tr.iload_n (pc := 6) (i := 2) d_X12_is_6 rfl rfl ?_
      refine Tr.icmp_gt (pc := 7) (tgt := 14) d_X12_is_7 rfl (fun hc => absurd hc (by omega)) (fun _ => ?_)
      refine Tr.iconst (pc := 10) d_X12_is_10 (by decide) ?_
      refine Tr.goto (pc := 11) (tgt := 15) d_X12_is_11 rfl ?_
      refine Tr.zret (pc := 15) d_X12_is_15 rfl (by decide) ?_
      refine Tr.sc [_] rfl ?_
      refine Tr.if_eq (pc := 8) (tgt := 20) d_X12_measure_8 rfl (fun hc => absurd hc (by decide)) (fun _ => ?_)
      refine Tr.aload_n (pc := 11) (i := 0) d_X12_measure_11 rfl rfl ?_
      refine Tr.getf (pc := 12) d_X12_measure_12 f_12_333 (by decide) (by decide) (ty_120 hF) ?_
      refine Tr.tp 0 ((rd_wb _ rfl).trans ((rd_cb _ rfl).trans ((rd_wb _ rfl).trans ((rd_wb _ rfl).trans ((rd_wb _ rfl).trans ((rd_fb _ rfl).trans ((rd_wb _ rfl).trans ((rd_wb _ rfl).trans ((rd_wb _ rfl).trans ((rd_wb _ rfl).trans ((rd_wb _ rfl).trans ((rd_wb _ rfl).trans ((rd_wb _ rfl).trans ((rd_wb _ rfl).trans ((rd_wb _ rfl).trans ((rd_fb _ rfl).trans ((rd_fb _ rfl).trans ((rd_fb _ rfl).trans ((rd_fb _ rfl).trans ((rd_fb _ rfl).trans ((rd_cb _ rfl).trans ((rd_wb _ rfl).trans (b_120_106))))))))))))))))))))))) ?_
      refine Tr.bipush (pc := 15) d_X12_measure_15 rfl (by decide) ?_
      refine Tr.icmp_ne (pc := 17) (tgt := 22) d_X12_measure_17 rfl (fun _ => ?_) (fun hc => absurd hc (by decide))
      refine Tr.iconst (pc := 22) d_X12_measure_22 (by decide) ?_
      refine Tr.istore_n (pc := 23) (i := 2) (ls2 := [(2, (0, 0)), (0, (2, 120)), (1, (0, _))]) d_X12_measure_23 rfl (by decide) rfl ?_
      refine Tr.iload_n (pc := 24) (i := 2) d_X12_measure_24 rfl rfl ?_
      refine Tr.iconst (pc := 25) d_X12_measure_25 (by decide) ?_
      refine Tr.icmp_ge (pc := 26) (tgt := 54) d_X12_measure_26 rfl (fun hc => absurd hc (by decide)) (fun _ => ?_)
      refine Tr.aload_n (pc := 29) (i := 0) d_X12_measure_29 rfl rfl ?_
      refine Tr.getf (pc := 30) d_X12_measure_30 f_12_336 (by decide) (by decide) (ty_120 hF) ?_
      refine Tr.tp 180 (fx_120_107 hF) ?_
      refine Tr.iconst (pc := 33) d_X12_measure_33 (by decide) ?_
      refine Tr.aload_n (pc := 34) (i := 0) d_X12_measure_34 rfl rfl ?_
      refine Tr.getf (pc := 35) d_X12_measure_35 f_12_333 (by decide) (by decide) (ty_120 hF) ?_
      refine Tr.tp 0 ((rd_wb _ rfl).trans ((rd_cb _ rfl).trans ((rd_wb _ rfl).trans ((rd_wb _ rfl).trans ((rd_wb _ rfl).trans ((rd_fb _ rfl).trans ((rd_wb _ rfl).trans ((rd_wb _ rfl).trans ((rd_wb _ rfl).trans ((rd_wb _ rfl).trans ((rd_wb _ rfl).trans ((rd_wb _ rfl).trans ((rd_wb _ rfl).trans ((rd_wb _ rfl).trans ((rd_wb _ rfl).trans ((rd_fb _ rfl).trans ((rd_fb _ rfl).trans ((rd_fb _ rfl).trans ((rd_fb _ rfl).trans ((rd_fb _ rfl).trans ((rd_cb _ rfl).trans ((rd_wb _ rfl).trans (b_120_106))))))))))))))))))))))) ?_
      refine Tr.imul (pc := 38) d_X12_measure_38 ?_
      refine Tr.tp 0 rfl ?_
      refine Tr.iload_n (pc := 39) (i := 2) d_X12_measure_39 rfl rfl ?_
      refine Tr.iadd (pc := 40) d_X12_measure_40 ?_
      refine Tr.tp 0 rfl ?_
      refine Tr.aload_n (pc := 41) (i := 0) d_X12_measure_41 rfl rfl ?_
      refine Tr.getf (pc := 42) d_X12_measure_42 f_12_168 (by decide) (by decide) (ty_120 hF) ?_
      refine Tr.tp 153 (fx_120_51 hF) ?_
      refine Tr.iload_n (pc := 45) (i := 2) d_X12_measure_45 rfl rfl ?_
      refine Tr.iald (pc := 46) d_X12_measure_46 (ty_153 hF) (by decide) (by decide) ?_
      refine Tr.tp 0 ((rd_wb _ rfl).trans ((rd_cb _ rfl).trans ((rd_wb _ rfl).trans ((rd_wb _ rfl).trans ((rd_wb _ rfl).trans ((rd_fb _ rfl).trans ((rd_wb _ rfl).trans ((rd_wb _ rfl).trans ((rd_wb _ rfl).trans ((rd_wb _ rfl).trans ((rd_wb _ rfl).trans ((rd_wb _ rfl).trans ((rd_wb _ rfl).trans ((rd_wb _ rfl).trans ((rd_wb _ rfl).trans ((rd_fb _ rfl).trans ((rd_fb _ rfl).trans ((rd_fb _ rfl).trans ((rd_fb _ rfl).trans ((rd_fb _ rfl).trans ((rd_cb _ rfl).trans ((rd_wb _ rfl).trans (b_153_0))))))))))))))))))))))) ?_
      refine Tr.iastX (pc := 47) d_X12_measure_47 (ty_180 hF) (by decide) (by decide) hF (by decide +kernel) (fun hF => ?_)
      refine Tr.iinc (pc := 48) (ls2 := [(2, (0, 1)), (0, (2, 120)), (1, (0, _))]) d_X12_measure_48 rfl (by decide) rfl ?_
      refine Tr.goto (pc := 51) (tgt := 24) d_X12_measure_51 rfl ?_
      refine Tr.iload_n (pc := 24) (i := 2) d_X12_measure_24 rfl rfl ?_
      refine Tr.iconst (pc := 25) d_X12_measure_25 (by decide) ?_
      refine Tr.icmp_ge (pc := 26) (tgt := 54) d_X12_measure_26 rfl (fun hc => absurd hc (by decide)) (fun _ => ?_)
      refine Tr.aload_n (pc := 29) (i := 0) d_X12_measure_29 rfl rfl ?_
      refine Tr.getf (pc := 30) d_X12_measure_30 f_12_336 (by decide) (by decide) (ty_120 hF) ?_
      refine Tr.tp 180 (fx_120_107 hF) ?_
      refine Tr.iconst (pc := 33) d_X12_measure_33 (by decide) ?_
      refine Tr.aload_n (pc := 34) (i := 0) d_X12_measure_34 rfl rfl ?_
      refine Tr.getf (pc := 35) d_X12_measure_35 f_12_333 (by decide) (by decide) (ty_120 hF) ?_
      refine Tr.tp 0 ((rd_wb _ rfl).trans ((rd_wb _ rfl).trans ((rd_cb _ rfl).trans ((rd_wb _ rfl).trans ((rd_wb _ rfl).trans ((rd_wb _ rfl).trans ((rd_fb _ rfl).trans ((rd_wb _ rfl).trans ((rd_wb _ rfl).trans ((rd_wb _ rfl).trans ((rd_wb _ rfl).trans ((rd_wb _ rfl).trans ((rd_wb _ rfl).trans ((rd_wb _ rfl).trans ((rd_wb _ rfl).trans ((rd_wb _ rfl).trans ((rd_fb _ rfl).trans ((rd_fb _ rfl).trans ((rd_fb _ rfl).trans ((rd_fb _ rfl).trans ((rd_fb _ rfl).trans ((rd_cb _ rfl).trans ((rd_wb _ rfl).trans (b_120_106)))))))))))))))))))))))) ?_
      refine Tr.imul (pc := 38) d_X12_measure_38 ?_
      refine Tr.tp 0 rfl ?_
      refine Tr.iload_n (pc := 39) (i := 2) d_X12_measure_39 rfl rfl ?_
      refine Tr.iadd (pc := 40) d_X12_measure_40 ?_
      refine Tr.tp 1 rfl ?_
      refine Tr.aload_n (pc := 41) (i := 0) d_X12_measure_41 rfl rfl ?_
      refine Tr.getf (pc := 42) d_X12_measure_42 f_12_168 (by decide) (by decide) (ty_120 hF) ?_
      refine Tr.tp 153 (fx_120_51 hF) ?_
      refine Tr.iload_n (pc := 45) (i := 2) d_X12_measure_45 rfl rfl ?_
      refine Tr.iald (pc := 46) d_X12_measure_46 (ty_153 hF) (by decide) (by decide) ?_
      refine Tr.tp 0 ((rd_wb _ rfl).trans ((rd_wb _ rfl).trans ((rd_cb _ rfl).trans ((rd_wb _ rfl).trans ((rd_wb _ rfl).trans ((rd_wb _ rfl).trans ((rd_fb _ rfl).trans ((rd_wb _ rfl).trans ((rd_wb _ rfl).trans ((rd_wb _ rfl).trans ((rd_wb _ rfl).trans ((rd_wb _ rfl).trans ((rd_wb _ rfl).trans ((rd_wb _ rfl).trans ((rd_wb _ rfl).trans ((rd_wb _ rfl).trans ((rd_fb _ rfl).trans ((rd_fb _ rfl).trans ((rd_fb _ rfl).trans ((rd_fb _ rfl).trans ((rd_fb _ rfl).trans ((rd_cb _ rfl).trans ((rd_wb _ rfl).trans (b_153_1)))))))))))))))))))))))) ?_
      refine Tr.iastX (pc := 47) d_X12_measure_47 (ty_180 hF) (by decide) (by decide) hF (by decide +kernel) (fun hF => ?_)
      refine Tr.iinc (pc := 48) (ls2 := [(2, (0, 2)), (0, (2, 120)), (1, (0, _))]) d_X12_measure_48 rfl (by decide) rfl ?_
      refine Tr.goto (pc := 51) (tgt := 24) d_X12_measure_51 rfl ?_
      refine Tr.iload_n (pc := 24) (i := 2) d_X12_measure_24 rfl rfl ?_
      refine Tr.iconst (pc := 25) d_X12_measure_25 (by decide) ?_
      refine Tr.icmp_ge (pc := 26) (tgt := 54) d_X12_measure_26 rfl (fun hc => absurd hc (by decide)) (fun _ => ?_)
      refine Tr.aload_n (pc := 29) (i := 0) d_X12_measure_29 rfl rfl ?_
      refine Tr.getf (pc := 30) d_X12_measure_30 f_12_336 (by decide) (by decide) (ty_120 hF) ?_
      refine Tr.tp 180 (fx_120_107 hF) ?_
      refine Tr.iconst (pc := 33) d_X12_measure_33 (by decide) ?_
      refine Tr.aload_n (pc := 34) (i := 0) d_X12_measure_34 rfl rfl ?_
      refine Tr.getf (pc := 35) d_X12_measure_35 f_12_333 (by decide) (by decide) (ty_120 hF) ?_
      refine Tr.tp 0 ((rd_wb _ rfl).trans ((rd_wb _ rfl).trans ((rd_wb _ rfl).trans ((rd_cb _ rfl).trans ((rd_wb _ rfl).trans ((rd_wb _ rfl).trans ((rd_wb _ rfl).trans ((rd_fb _ rfl).trans ((rd_wb _ rfl).trans ((rd_wb _ rfl).trans ((rd_wb _ rfl).trans ((rd_wb _ rfl).trans ((rd_wb _ rfl).trans ((rd_wb _ rfl).trans ((rd_wb _ rfl).trans ((rd_wb _ rfl).trans ((rd_wb _ rfl).trans ((rd_fb _ rfl).trans ((rd_fb _ rfl).trans ((rd_fb _ rfl).trans ((rd_fb _ rfl).trans ((rd_fb _ rfl).trans ((rd_cb _ rfl).trans ((rd_wb _ rfl).trans (b_120_106))))))))))))))))))))))))) ?_
      refine Tr.imul (pc := 38) d_X12_measure_38 ?_
      refine Tr.tp 0 rfl ?_
      refine Tr.iload_n (pc := 39) (i := 2) d_X12_measure_39 rfl rfl ?_
      refine Tr.iadd (pc := 40) d_X12_measure_40 ?_
      refine Tr.tp 2 rfl ?_
      refine Tr.aload_n (pc := 41) (i := 0) d_X12_measure_41 rfl rfl ?_
      refine Tr.getf (pc := 42) d_X12_measure_42 f_12_168 (by decide) (by decide) (ty_120 hF) ?_
      refine Tr.tp 153 (fx_120_51 hF) ?_
      refine Tr.iload_n (pc := 45) (i := 2) d_X12_measure_45 rfl rfl ?_
      refine Tr.iald (pc := 46) d_X12_measure_46 (ty_153 hF) (by decide) (by decide) ?_
      refine Tr.tp 0 ((rd_wb _ rfl).trans ((rd_wb _ rfl).trans ((rd_wb _ rfl).trans ((rd_cb _ rfl).trans ((rd_wb _ rfl).trans ((rd_wb _ rfl).trans ((rd_wb _ rfl).trans ((rd_fb _ rfl).trans ((rd_wb _ rfl).trans ((rd_wb _ rfl).trans ((rd_wb _ rfl).trans ((rd_wb _ rfl).trans ((rd_wb _ rfl).trans ((rd_wb _ rfl).trans ((rd_wb _ rfl).trans ((rd_wb _ rfl).trans ((rd_wb _ rfl).trans ((rd_fb _ rfl).trans ((rd_fb _ rfl).trans ((rd_fb _ rfl).trans ((rd_fb _ rfl).trans ((rd_fb _ rfl).trans ((rd_cb _ rfl).trans ((rd_wb _ rfl).trans (b_153_2))))))))))))))))))))))))) ?_
      refine Tr.iastX (pc := 47) d_X12_measure_47 (ty_180 hF) (by decide) (by decide) hF (by decide +kernel) (fun hF => ?_)
      refine Tr.iinc (pc := 48) (ls2 := [(2, (0, 3)), (0, (2, 120)), (1, (0, _))]) d_X12_measure_48 rfl (by decide) rfl ?_
      refine Tr.goto (pc := 51) (tgt := 24) d_X12_measure_51 rfl ?_
      refine Tr.iload_n (pc := 24) (i := 2) d_X12_measure_24 rfl rfl ?_
      refine Tr.iconst (pc := 25) d_X12_measure_25 (by decide) ?_
      refine Tr.icmp_ge (pc := 26) (tgt := 54) d_X12_measure_26 rfl (fun _ => ?_) (fun hc => absurd (by decide) hc)
      refine Tr.aload_n (pc := 54) (i := 0) d_X12_measure_54 rfl rfl ?_
      refine Tr.getf (pc := 55) d_X12_measure_55 f_12_339 (by decide) (by decide) (ty_120 hF) ?_
      refine Tr.tp 181 (fx_120_108 hF) ?_
      refine Tr.aload_n (pc := 58) (i := 0) d_X12_measure_58 rfl rfl ?_
      refine Tr.getf (pc := 59) d_X12_measure_59 f_12_333 (by decide) (by decide) (ty_120 hF) ?_
      refine Tr.tp 0 ((rd_wb _ rfl).trans ((rd_wb _ rfl).trans ((rd_wb _ rfl).trans ((rd_wb _ rfl).trans ((rd_cb _ rfl).trans ((rd_wb _ rfl).trans ((rd_wb _ rfl).trans ((rd_wb _ rfl).trans ((rd_fb _ rfl).trans ((rd_wb _ rfl).trans ((rd_wb _ rfl).trans ((rd_wb _ rfl).trans ((rd_wb _ rfl).trans ((rd_wb _ rfl).trans ((rd_wb _ rfl).trans ((rd_wb _ rfl).trans ((rd_wb _ rfl).trans ((rd_wb _ rfl).trans ((rd_fb _ rfl).trans ((rd_fb _ rfl).trans ((rd_fb _ rfl).trans ((rd_fb _ rfl).trans ((rd_fb _ rfl).trans ((rd_cb _ rfl).trans ((rd_wb _ rfl).trans (b_120_106)))))))))))))))))))))))))) ?_
      refine Tr.iload_n (pc := 62) (i := 1) d_X12_measure_62 rfl rfl ?_
      refine Tr.iastX (pc := 63) d_X12_measure_63 (ty_181 hF) (by decide) (by decide) hF (by decide +kernel) (fun hF => ?_)
      refine Tr.aload_n (pc := 64) (i := 0) d_X12_measure_64 rfl rfl ?_
      refine Tr.dup (pc := 65) d_X12_measure_65 ne21 ?_
      refine Tr.getf (pc := 66) d_X12_measure_66 f_12_333 (by decide) (by decide) (ty_120 hF) ?_
      refine Tr.tp 0 ((rd_wb _ rfl).trans ((rd_wb _ rfl).trans ((rd_wb _ rfl).trans ((rd_wb _ rfl).trans ((rd_wb _ rfl).trans ((rd_cb _ rfl).trans ((rd_wb _ rfl).trans ((rd_wb _ rfl).trans ((rd_wb _ rfl).trans ((rd_fb _ rfl).trans ((rd_wb _ rfl).trans ((rd_wb _ rfl).trans ((rd_wb _ rfl).trans ((rd_wb _ rfl).trans ((rd_wb _ rfl).trans ((rd_wb _ rfl).trans ((rd_wb _ rfl).trans ((rd_wb _ rfl).trans ((rd_wb _ rfl).trans ((rd_fb _ rfl).trans ((rd_fb _ rfl).trans ((rd_fb _ rfl).trans ((rd_fb _ rfl).trans ((rd_fb _ rfl).trans ((rd_cb _ rfl).trans ((rd_wb _ rfl).trans (b_120_106))))))))))))))))))))))))))) ?_
      refine Tr.iconst (pc := 69) d_X12_measure_69 (by decide) ?_
      refine Tr.iadd (pc := 70) d_X12_measure_70 ?_
      refine Tr.tp 1 rfl ?_
      refine Tr.putfX (pc := 71) d_X12_measure_71 f_12_333 (by decide) (by decide) (ty_120 hF) hF (by decide +kernel) (fun hF => ?_)
      refine Tr.aload_n (pc := 74) (i := 0) d_X12_measure_74 rfl rfl ?_
      refine Tr.getf (pc := 75) d_X12_measure_75 f_12_333 (by decide) (by decide) (ty_120 hF) ?_
      refine Tr.tp 1 (rd_ws _ _ _ _) ?_
      refine Tr.iret (pc := 78) d_X12_measure_78 rfl ?_
      refine Tr.sc [_, _] rfl ?_
      refine Tr.icmp_eq (pc := 789) (tgt := 998) d_L_law_789 rfl (fun _ => ?_) (fun hc => absurd (by decide) hc)
      refine Tr.iinc (pc := 998) (ls2 := [(3, (0, 6)), (2, (2, 120)), (1, (2, 0)), (0, (2, (-2)))]) d_L_law_998 rfl (by decide) rfl ?_
      refine Tr.goto (pc := 1001) (tgt := 18) d_L_law_1001 rfl ?_
      refine Tr.iload_n (pc := 18) (i := 3) d_L_law_18 rfl rfl ?_
      refine Tr.aload_n (pc := 19) (i := 0) d_L_law_19 rfl rfl ?_
      refine Tr.xlen (pc := 20) (i := 0) d_L_law_20 rfl he (by decide) ?_
      refine Tr.tp 6 rfl ?_
      refine Tr.bipush (pc := 21) d_L_law_21 rfl (by decide) ?_
      refine Tr.isub (pc := 23) d_L_law_23 ?_
      refine Tr.tp 0 rfl ?_
      refine Tr.icmp_gt (pc := 24) (tgt := 1004) d_L_law_24 rfl (fun _ => ?_) (fun hc => absurd (by decide) hc)
      refine Tr.iconst (pc := 1004) d_L_law_1004 (by decide) ?_
      exact Tr.zret (pc := 1005) d_L_law_1005 rfl (by decide) ⟨rfl, Fx_room hF⟩
set_option maxRecDepth 100000 in
set_option maxHeartbeats 4000000 in
theorem op_never {l : Launch} {K : EC} {f : Int → Int} (he : e_ext K 0 6 f) (hr : ∀ j, -2147483648 ≤ f j ∧ f j ≤ 2147483647) : Tr l K 20 mL_law 942 [(3, (0, 0)), (2, (2, 120)), (1, (2, 0)), (0, (2, -2))] [] C_461 (fun M' r => r = some (0, 1) ∧ M'.1 ≤ 600000 ∧ M'.2.1 ≤ room_1.slots) := by
  obtain ⟨a1, g1⟩ : ∃ a, f 1 = a := ⟨_, rfl⟩
  have r1 := hr 1
  rw [g1] at r1
  obtain ⟨a2, g2⟩ : ∃ a, f 2 = a := ⟨_, rfl⟩
  have r2 := hr 2
  rw [g2] at r2
  obtain ⟨a3, g3⟩ : ∃ a, f 3 = a := ⟨_, rfl⟩
  have r3 := hr 3
  rw [g3] at r3
  obtain ⟨a4, g4⟩ : ∃ a, f 4 = a := ⟨_, rfl⟩
  have r4 := hr 4
  rw [g4] at r4
  obtain ⟨a5, g5⟩ : ∃ a, f 5 = a := ⟨_, rfl⟩
  have r5 := hr 5
  rw [g5] at r5
  have hF := Fx_0
  refine Tr.aload_n (pc := 942) (i := 1) d_L_law_942 rfl rfl ?_
  refine Tr.callV (pc := 943) (as := []) d_L_law_943 s_13_127 ok_X11_never rfl rfl (Nat.le_of_ble_eq_true rfl) (Nat.le_of_ble_eq_true rfl) (by decide) (ty_0 hF) ?_
  refine Tr.lc [(0, (2, 0))] rfl ?_
  refine Tr.aload_n (pc := 0) (i := 0) d_X11_never_0 rfl rfl ?_
  refine Tr.getf (pc := 1) d_X11_never_1 f_11_30 (by decide) (by decide) (ty_0 hF) ?_
  refine Tr.tp 7 (b_0_4) ?_
  refine Tr.getf (pc := 4) d_X11_never_4 f_11_115 (by decide) (by decide) (ty_7 hF) ?_
  refine Tr.tp 15 (fx_7_11 hF) ?_
  refine Tr.callV (pc := 7) (as := []) d_X11_never_7 s_11_307 ok_X4_heldAtEnd rfl rfl (Nat.le_of_ble_eq_true rfl) (Nat.le_of_ble_eq_true rfl) (by decide) (ty_15 hF) ?_
  refine Tr.lc [(0, (2, 15))] rfl ?_
  refine Tr.aload_n (pc := 0) (i := 0) d_X4_heldAtEnd_0 rfl rfl ?_
  refine Tr.getf (pc := 1) d_X4_heldAtEnd_1 f_4_42 (by decide) (by decide) (ty_15 hF) ?_
  refine Tr.tp 26 (fx_15_12 hF) ?_
  refine Tr.iconst (pc := 4) d_X4_heldAtEnd_4 (by decide) ?_
  refine Tr.callS (pc := 5) (as := [_, _]) d_X4_heldAtEnd_5 s_4_58 ok_J7_fill_53178 rfl rfl (Nat.le_of_ble_eq_true rfl) (Nat.le_of_ble_eq_true rfl) ?_
  refine Tr.imp (sp_fillX (N := 61) (ty_26 hF) (by decide) hF (by decide +kernel)) ?_
  rintro _ _ ⟨rfl, rfl, hF⟩
  refine Tr.sc [] rfl ?_
  refine Tr.iconst (pc := 8) d_X4_heldAtEnd_8 (by decide) ?_
  refine Tr.istore_n (pc := 9) (i := 1) (ls2 := [(1, (0, 1)), (0, (2, 15))]) d_X4_heldAtEnd_9 rfl (by decide) rfl ?_
  refine Tr.iconst (pc := 10) d_X4_heldAtEnd_10 (by decide) ?_
  refine Tr.istore_n (pc := 11) (i := 2) (ls2 := [(2, (0, 0)), (1, (0, 1)), (0, (2, 15))]) d_X4_heldAtEnd_11 rfl (by decide) rfl ?_
  refine Tr.iload_n (pc := 12) (i := 2) d_X4_heldAtEnd_12 rfl rfl ?_
  refine Tr.sipush (pc := 13) d_X4_heldAtEnd_13 rfl (by decide) ?_
  refine Tr.icmp_gt (pc := 16) (tgt := 102) d_X4_heldAtEnd_16 rfl (fun hc => absurd hc (by decide)) (fun _ => ?_)
  refine Tr.iload_n (pc := 19) (i := 1) d_X4_heldAtEnd_19 rfl rfl ?_
  refine Tr.if_eq (pc := 20) (tgt := 102) d_X4_heldAtEnd_20 rfl (fun hc => absurd hc (by decide)) (fun _ => ?_)
  refine Tr.iconst (pc := 23) d_X4_heldAtEnd_23 (by decide) ?_
  refine Tr.istore_n (pc := 24) (i := 1) (ls2 := [(1, (0, 0)), (2, (0, 0)), (0, (2, 15))]) d_X4_heldAtEnd_24 rfl (by decide) rfl ?_
  refine Tr.iconst (pc := 25) d_X4_heldAtEnd_25 (by decide) ?_
  refine Tr.istore_n (pc := 26) (i := 3) (ls2 := [(3, (0, 0)), (1, (0, 0)), (2, (0, 0)), (0, (2, 15))]) d_X4_heldAtEnd_26 rfl (by decide) rfl ?_
  refine Tr.iload_n (pc := 27) (i := 3) d_X4_heldAtEnd_27 rfl rfl ?_
  refine Tr.aload_n (pc := 28) (i := 0) d_X4_heldAtEnd_28 rfl rfl ?_
  refine Tr.getf (pc := 29) d_X4_heldAtEnd_29 f_4_45 (by decide) (by decide) (ty_15 hF) ?_
  refine Tr.tp 0 ((rd_fb _ rfl).trans (b_15_0)) ?_
  refine Tr.icmp_ge (pc := 32) (tgt := 96) d_X4_heldAtEnd_32 rfl (fun _ => ?_) (fun hc => absurd (by decide) hc)
  refine Tr.iinc (pc := 96) (ls2 := [(2, (0, 1)), (3, (0, 0)), (1, (0, 0)), (0, (2, 15))]) d_X4_heldAtEnd_96 rfl (by decide) rfl ?_
  refine Tr.goto (pc := 99) (tgt := 12) d_X4_heldAtEnd_99 rfl ?_
  refine Tr.iload_n (pc := 12) (i := 2) d_X4_heldAtEnd_12 rfl rfl ?_
  refine Tr.sipush (pc := 13) d_X4_heldAtEnd_13 rfl (by decide) ?_
  refine Tr.icmp_gt (pc := 16) (tgt := 102) d_X4_heldAtEnd_16 rfl (fun hc => absurd hc (by decide)) (fun _ => ?_)
  refine Tr.iload_n (pc := 19) (i := 1) d_X4_heldAtEnd_19 rfl rfl ?_
  refine Tr.if_eq (pc := 20) (tgt := 102) d_X4_heldAtEnd_20 rfl (fun _ => ?_) (fun hc => absurd (by decide) hc)
  refine Tr.aload_n (pc := 102) (i := 0) d_X4_heldAtEnd_102 rfl rfl ?_
  refine Tr.getf (pc := 103) d_X4_heldAtEnd_103 f_4_42 (by decide) (by decide) (ty_15 hF) ?_
  refine Tr.tp 26 (fx_15_12 hF) ?_
  refine Tr.aload_n (pc := 106) (i := 0) d_X4_heldAtEnd_106 rfl rfl ?_
  refine Tr.getf (pc := 107) d_X4_heldAtEnd_107 f_4_45 (by decide) (by decide) (ty_15 hF) ?_
  refine Tr.tp 0 ((rd_fb _ rfl).trans (b_15_0)) ?_
  refine Tr.iald (pc := 110) d_X4_heldAtEnd_110 (ty_26 hF) (by decide) (by decide) ?_
  refine Tr.tp 0 (rd_fi _ (by decide) (by decide)) ?_
  refine Tr.iret (pc := 111) d_X4_heldAtEnd_111 rfl ?_
  refine Tr.sc [_] rfl ?_
  refine Tr.iret (pc := 10) d_X11_never_10 rfl ?_
  refine Tr.sc [_] rfl ?_
  refine Tr.aload_n (pc := 946) (i := 2) d_L_law_946 rfl rfl ?_
  refine Tr.callV (pc := 947) (as := []) d_L_law_947 s_13_130 ok_X12_never rfl rfl (Nat.le_of_ble_eq_true rfl) (Nat.le_of_ble_eq_true rfl) (by decide) (ty_120 hF) ?_
  refine Tr.lc [(0, (2, 120))] rfl ?_
  refine Tr.aload_n (pc := 0) (i := 0) d_X12_never_0 rfl rfl ?_
  refine Tr.getf (pc := 1) d_X12_never_1 f_12_94 (by decide) (by decide) (ty_120 hF) ?_
  refine Tr.tp 136 (fx_120_27 hF) ?_
  refine Tr.aload_n (pc := 4) (i := 0) d_X12_never_4 rfl rfl ?_
  refine Tr.getf (pc := 5) d_X12_never_5 f_12_48 (by decide) (by decide) (ty_120 hF) ?_
  refine Tr.tp 0 ((rd_fb _ rfl).trans (b_120_12)) ?_
  refine Tr.iald (pc := 8) d_X12_never_8 (ty_136 hF) (by decide) (by decide) ?_
  refine Tr.tp 0 ((rd_fb _ rfl).trans (b_136_0)) ?_
  refine Tr.istore_n (pc := 9) (i := 1) (ls2 := [(1, (0, 0)), (0, (2, 120))]) d_X12_never_9 rfl (by decide) rfl ?_
  refine Tr.iconst (pc := 10) d_X12_never_10 (by decide) ?_
  refine Tr.istore_n (pc := 11) (i := 2) (ls2 := [(2, (0, 0)), (1, (0, 0)), (0, (2, 120))]) d_X12_never_11 rfl (by decide) rfl ?_
  refine Tr.iload_n (pc := 12) (i := 2) d_X12_never_12 rfl rfl ?_
  refine Tr.iload_n (pc := 13) (i := 1) d_X12_never_13 rfl rfl ?_
  refine Tr.icmp_gt (pc := 14) (tgt := 38) d_X12_never_14 rfl (fun hc => absurd hc (by decide)) (fun _ => ?_)
  refine Tr.aload_n (pc := 17) (i := 0) d_X12_never_17 rfl rfl ?_
  refine Tr.getf (pc := 18) d_X12_never_18 f_12_375 (by decide) (by decide) (ty_120 hF) ?_
  refine Tr.tp 190 (fx_120_120 hF) ?_
  refine Tr.iload_n (pc := 21) (i := 2) d_X12_never_21 rfl rfl ?_
  refine Tr.iload_n (pc := 22) (i := 2) d_X12_never_22 rfl rfl ?_
  refine Tr.if_ne (pc := 23) (tgt := 30) d_X12_never_23 rfl (fun hc => absurd (by decide) hc) (fun _ => ?_)
  refine Tr.lconst (pc := 26) (v := 1) d_X12_never_26 rfl (by decide) ?_
  refine Tr.goto (pc := 27) (tgt := 31) d_X12_never_27 rfl ?_
  refine Tr.lastX (pc := 31) d_X12_never_31 (ty_190 hF) (by decide) (by decide) hF (by decide +kernel) (fun hF => ?_)
  refine Tr.iinc (pc := 32) (ls2 := [(2, (0, 1)), (1, (0, 0)), (0, (2, 120))]) d_X12_never_32 rfl (by decide) rfl ?_
  refine Tr.goto (pc := 35) (tgt := 12) d_X12_never_35 rfl ?_
  refine Tr.iload_n (pc := 12) (i := 2) d_X12_never_12 rfl rfl ?_
  refine Tr.iload_n (pc := 13) (i := 1) d_X12_never_13 rfl rfl ?_
  refine Tr.icmp_gt (pc := 14) (tgt := 38) d_X12_never_14 rfl (fun _ => ?_) (fun hc => absurd (by decide) hc)
  refine Tr.iconst (pc := 38) d_X12_never_38 (by decide) ?_
  refine Tr.istore_n (pc := 39) (i := 2) (ls2 := [(2, (0, 1)), (1, (0, 0)), (0, (2, 120))]) d_X12_never_39 rfl (by decide) rfl ?_
  refine Tr.iload_n (pc := 40) (i := 2) d_X12_never_40 rfl rfl ?_
  refine Tr.if_eq (pc := 41) (tgt := 261) d_X12_never_41 rfl (fun hc => absurd hc (by decide)) (fun _ => ?_)
  refine Tr.iconst (pc := 44) d_X12_never_44 (by decide) ?_
  refine Tr.istore_n (pc := 45) (i := 2) (ls2 := [(2, (0, 0)), (1, (0, 0)), (0, (2, 120))]) d_X12_never_45 rfl (by decide) rfl ?_
  refine Tr.iconst (pc := 46) d_X12_never_46 (by decide) ?_
  refine Tr.istore_n (pc := 47) (i := 3) (ls2 := [(3, (0, 0)), (2, (0, 0)), (1, (0, 0)), (0, (2, 120))]) d_X12_never_47 rfl (by decide) rfl ?_
  refine Tr.iload_n (pc := 48) (i := 3) d_X12_never_48 rfl rfl ?_
  refine Tr.iload_n (pc := 49) (i := 1) d_X12_never_49 rfl rfl ?_
  refine Tr.icmp_ge (pc := 50) (tgt := 258) d_X12_never_50 rfl (fun _ => ?_) (fun hc => absurd (by decide) hc)
  refine Tr.goto (pc := 258) (tgt := 40) d_X12_never_258 rfl ?_
  refine Tr.iload_n (pc := 40) (i := 2) d_X12_never_40 rfl rfl ?_
  refine Tr.if_eq (pc := 41) (tgt := 261) d_X12_never_41 rfl (fun _ => ?_) (fun hc => absurd (by decide) hc)
  refine Tr.iconst (pc := 261) d_X12_never_261 (by decide) ?_
  refine Tr.istore_n (pc := 262) (i := 3) (ls2 := [(3, (0, 0)), (2, (0, 0)), (1, (0, 0)), (0, (2, 120))]) d_X12_never_262 rfl (by decide) rfl ?_
  refine Tr.iconst (pc := 263) d_X12_never_263 (by decide) ?_
  refine Tr.istore (pc := 264) (i := 4) (ls2 := [(4, (0, 0)), (3, (0, 0)), (2, (0, 0)), (1, (0, 0)), (0, (2, 120))]) d_X12_never_264 (by decide) rfl ?_
  refine Tr.iload (pc := 266) (i := 4) d_X12_never_266 rfl ?_
  refine Tr.bipush (pc := 268) d_X12_never_268 rfl (by decide) ?_
  refine Tr.icmp_ge (pc := 270) (tgt := 300) d_X12_never_270 rfl (fun hc => absurd hc (by decide)) (fun _ => ?_)
  refine Tr.aload_n (pc := 273) (i := 0) d_X12_never_273 rfl rfl ?_
  refine Tr.getf (pc := 274) d_X12_never_274 f_12_375 (by decide) (by decide) (ty_120 hF) ?_
  refine Tr.tp 190 (fx_120_120 hF) ?_
  refine Tr.iload_n (pc := 277) (i := 1) d_X12_never_277 rfl rfl ?_
  refine Tr.lald (pc := 278) d_X12_never_278 (ty_190 hF) (by decide) (by decide) ?_
  refine Tr.tp 1 (rd_ws _ _ _ _) ?_
  refine Tr.iload (pc := 279) (i := 4) d_X12_never_279 rfl ?_
  refine Tr.lshr (pc := 281) d_X12_never_281 ?_
  refine Tr.tp 1 (by decide) ?_
  refine Tr.lconst (pc := 282) (v := 1) d_X12_never_282 rfl (by decide) ?_
  refine Tr.land (pc := 283) d_X12_never_283 ?_
  refine Tr.tp 1 (by decide) ?_
  refine Tr.lconst (pc := 284) (v := 1) d_X12_never_284 rfl (by decide) ?_
  refine Tr.lcmp (pc := 285) d_X12_never_285 ?_
  refine Tr.tp 0 rfl ?_
  refine Tr.if_ne (pc := 286) (tgt := 294) d_X12_never_286 rfl (fun hc => absurd (by decide) hc) (fun _ => ?_)
  refine Tr.iload_n (pc := 289) (i := 3) d_X12_never_289 rfl rfl ?_
  refine Tr.iload (pc := 290) (i := 4) d_X12_never_290 rfl ?_
  refine Tr.ior (pc := 292) d_X12_never_292 ?_
  refine Tr.tp 0 (by decide) ?_
  refine Tr.istore_n (pc := 293) (i := 3) (ls2 := [(3, (0, 0)), (4, (0, 0)), (2, (0, 0)), (1, (0, 0)), (0, (2, 120))]) d_X12_never_293 rfl (by decide) rfl ?_
  refine Tr.iinc (pc := 294) (ls2 := [(4, (0, 1)), (3, (0, 0)), (2, (0, 0)), (1, (0, 0)), (0, (2, 120))]) d_X12_never_294 rfl (by decide) rfl ?_
  refine Tr.goto (pc := 297) (tgt := 266) d_X12_never_297 rfl ?_
  refine Tr.iload (pc := 266) (i := 4) d_X12_never_266 rfl ?_
  refine Tr.bipush (pc := 268) d_X12_never_268 rfl (by decide) ?_
  refine Tr.icmp_ge (pc := 270) (tgt := 300) d_X12_never_270 rfl (fun hc => absurd hc (by decide)) (fun _ => ?_)
  refine Tr.aload_n (pc := 273) (i := 0) d_X12_never_273 rfl rfl ?_
  refine Tr.getf (pc := 274) d_X12_never_274 f_12_375 (by decide) (by decide) (ty_120 hF) ?_
  refine Tr.tp 190 (fx_120_120 hF) ?_
  refine Tr.iload_n (pc := 277) (i := 1) d_X12_never_277 rfl rfl ?_
  refine Tr.lald (pc := 278) d_X12_never_278 (ty_190 hF) (by decide) (by decide) ?_
  refine Tr.tp 1 (rd_ws _ _ _ _) ?_
  refine Tr.iload (pc := 279) (i := 4) d_X12_never_279 rfl ?_
  refine Tr.lshr (pc := 281) d_X12_never_281 ?_
  refine Tr.tp 0 (by decide) ?_
  refine Tr.lconst (pc := 282) (v := 1) d_X12_never_282 rfl (by decide) ?_
  refine Tr.land (pc := 283) d_X12_never_283 ?_
  refine Tr.tp 0 (by decide) ?_
  refine Tr.lconst (pc := 284) (v := 1) d_X12_never_284 rfl (by decide) ?_
  refine Tr.lcmp (pc := 285) d_X12_never_285 ?_
  refine Tr.tp (-1) rfl ?_
  refine Tr.if_ne (pc := 286) (tgt := 294) d_X12_never_286 rfl (fun _ => ?_) (fun hc => absurd hc (by decide))
  refine Tr.iinc (pc := 294) (ls2 := [(4, (0, 2)), (3, (0, 0)), (2, (0, 0)), (1, (0, 0)), (0, (2, 120))]) d_X12_never_294 rfl (by decide) rfl ?_
  refine Tr.goto (pc := 297) (tgt := 266) d_X12_never_297 rfl ?_
  refine Tr.iload (pc := 266) (i := 4) d_X12_never_266 rfl ?_
  refine Tr.bipush (pc := 268) d_X12_never_268 rfl (by decide) ?_
  refine Tr.icmp_ge (pc := 270) (tgt := 300) d_X12_never_270 rfl (fun hc => absurd hc (by decide)) (fun _ => ?_)
  refine Tr.aload_n (pc := 273) (i := 0) d_X12_never_273 rfl rfl ?_
  refine Tr.getf (pc := 274) d_X12_never_274 f_12_375 (by decide) (by decide) (ty_120 hF) ?_
  refine Tr.tp 190 (fx_120_120 hF) ?_
  refine Tr.iload_n (pc := 277) (i := 1) d_X12_never_277 rfl rfl ?_
  refine Tr.lald (pc := 278) d_X12_never_278 (ty_190 hF) (by decide) (by decide) ?_
  refine Tr.tp 1 (rd_ws _ _ _ _) ?_
  refine Tr.iload (pc := 279) (i := 4) d_X12_never_279 rfl ?_
  refine Tr.lshr (pc := 281) d_X12_never_281 ?_
  refine Tr.tp 0 (by decide) ?_
  refine Tr.lconst (pc := 282) (v := 1) d_X12_never_282 rfl (by decide) ?_
  refine Tr.land (pc := 283) d_X12_never_283 ?_
  refine Tr.tp 0 (by decide) ?_
  refine Tr.lconst (pc := 284) (v := 1) d_X12_never_284 rfl (by decide) ?_
  refine Tr.lcmp (pc := 285) d_X12_never_285 ?_
  refine Tr.tp (-1) rfl ?_
  refine Tr.if_ne (pc := 286) (tgt := 294) d_X12_never_286 rfl (fun _ => ?_) (fun hc => absurd hc (by decide))
  refine Tr.iinc (pc := 294) (ls2 := [(4, (0, 3)), (3, (0, 0)), (2, (0, 0)), (1, (0, 0)), (0, (2, 120))]) d_X12_never_294 rfl (by decide) rfl ?_
  refine Tr.goto (pc := 297) (tgt := 266) d_X12_never_297 rfl ?_
  refine Tr.iload (pc := 266) (i := 4) d_X12_never_266 rfl ?_
  refine Tr.bipush (pc := 268) d_X12_never_268 rfl (by decide) ?_
  refine Tr.icmp_ge (pc := 270) (tgt := 300) d_X12_never_270 rfl (fun hc => absurd hc (by decide)) (fun _ => ?_)
  refine Tr.aload_n (pc := 273) (i := 0) d_X12_never_273 rfl rfl ?_
  refine Tr.getf (pc := 274) d_X12_never_274 f_12_375 (by decide) (by decide) (ty_120 hF) ?_
  refine Tr.tp 190 (fx_120_120 hF) ?_
  refine Tr.iload_n (pc := 277) (i := 1) d_X12_never_277 rfl rfl ?_
  refine Tr.lald (pc := 278) d_X12_never_278 (ty_190 hF) (by decide) (by decide) ?_
  refine Tr.tp 1 (rd_ws _ _ _ _) ?_
  refine Tr.iload (pc := 279) (i := 4) d_X12_never_279 rfl ?_
  refine Tr.lshr (pc := 281) d_X12_never_281 ?_
  refine Tr.tp 0 (by decide) ?_
  refine Tr.lconst (pc := 282) (v := 1) d_X12_never_282 rfl (by decide) ?_
  refine Tr.land (pc := 283) d_X12_never_283 ?_
  refine Tr.tp 0 (by decide) ?_
  refine Tr.lconst (pc := 284) (v := 1) d_X12_never_284 rfl (by decide) ?_
  refine Tr.lcmp (pc := 285) d_X12_never_285 ?_
  refine Tr.tp (-1) rfl ?_
  refine Tr.if_ne (pc := 286) (tgt := 294) d_X12_never_286 rfl (fun _ => ?_) (fun hc => absurd hc (by decide))
  refine Tr.iinc (pc := 294) (ls2 := [(4, (0, 4)), (3, (0, 0)), (2, (0, 0)), (1, (0, 0)), (0, (2, 120))]) d_X12_never_294 rfl (by decide) rfl ?_
  refine Tr.goto (pc := 297) (tgt := 266) d_X12_never_297 rfl ?_
  refine Tr.iload (pc := 266) (i := 4) d_X12_never_266 rfl ?_
  refine Tr.bipush (pc := 268) d_X12_never_268 rfl (by decide) ?_
  refine Tr.icmp_ge (pc := 270) (tgt := 300) d_X12_never_270 rfl (fun hc => absurd hc (by decide)) (fun _ => ?_)
  refine Tr.aload_n (pc := 273) (i := 0) d_X12_never_273 rfl rfl ?_
  refine Tr.getf (pc := 274) d_X12_never_274 f_12_375 (by decide) (by decide) (ty_120 hF) ?_
  refine Tr.tp 190 (fx_120_120 hF) ?_
  refine Tr.iload_n (pc := 277) (i := 1) d_X12_never_277 rfl rfl ?_
  refine Tr.lald (pc := 278) d_X12_never_278 (ty_190 hF) (by decide) (by decide) ?_
  refine Tr.tp 1 (rd_ws _ _ _ _) ?_
  refine Tr.iload (pc := 279) (i := 4) d_X12_never_279 rfl ?_
  refine Tr.lshr (pc := 281) d_X12_never_281 ?_
  refine Tr.tp 0 (by decide) ?_
  refine Tr.lconst (pc := 282) (v := 1) d_X12_never_282 rfl (by decide) ?_
  refine Tr.land (pc := 283) d_X12_never_283 ?_
  refine Tr.tp 0 (by decide) ?_
  refine Tr.lconst (pc := 284) (v := 1) d_X12_never_284 rfl (by decide) ?_
  refine Tr.lcmp (pc := 285) d_X12_never_285 ?_
  refine Tr.tp (-1) rfl ?_
  refine Tr.if_ne (pc := 286) (tgt := 294) d_X12_never_286 rfl (fun _ => ?_) (fun hc => absurd hc (by decide))
  refine Tr.iinc (pc := 294) (ls2 := [(4, (0, 5)), (3, (0, 0)), (2, (0, 0)), (1, (0, 0)), (0, (2, 120))]) d_X12_never_294 rfl (by decide) rfl ?_
  refine Tr.goto (pc := 297) (tgt := 266) d_X12_never_297 rfl ?_
  refine Tr.iload (pc := 266) (i := 4) d_X12_never_266 rfl ?_
  refine Tr.bipush (pc := 268) d_X12_never_268 rfl (by decide) ?_
  refine Tr.icmp_ge (pc := 270) (tgt := 300) d_X12_never_270 rfl (fun hc => absurd hc (by decide)) (fun _ => ?_)
  refine Tr.aload_n (pc := 273) (i := 0) d_X12_never_273 rfl rfl ?_
  refine Tr.getf (pc := 274) d_X12_never_274 f_12_375 (by decide) (by decide) (ty_120 hF) ?_
  refine Tr.tp 190 (fx_120_120 hF) ?_
  refine Tr.iload_n (pc := 277) (i := 1) d_X12_never_277 rfl rfl ?_
  refine Tr.lald (pc := 278) d_X12_never_278 (ty_190 hF) (by decide) (by decide) ?_
  refine Tr.tp 1 (rd_ws _ _ _ _) ?_
  refine Tr.iload (pc := 279) (i := 4) d_X12_never_279 rfl ?_
  refine Tr.lshr (pc := 281) d_X12_never_281 ?_
  refine Tr.tp 0 (by decide) ?_
  refine Tr.lconst (pc := 282) (v := 1) d_X12_never_282 rfl (by decide) ?_
  refine Tr.land (pc := 283) d_X12_never_283 ?_
  refine Tr.tp 0 (by decide) ?_
  refine Tr.lconst (pc := 284) (v := 1) d_X12_never_284 rfl (by decide) ?_
  refine Tr.lcmp (pc := 285) d_X12_never_285 ?_
  refine Tr.tp (-1) rfl ?_
  refine Tr.if_ne (pc := 286) (tgt := 294) d_X12_never_286 rfl (fun _ => ?_) (fun hc => absurd hc (by decide))
  refine Tr.iinc (pc := 294) (ls2 := [(4, (0, 6)), (3, (0, 0)), (2, (0, 0)), (1, (0, 0)), (0, (2, 120))]) d_X12_never_294 rfl (by decide) rfl ?_
  refine Tr.goto (pc := 297) (tgt := 266) d_X12_never_297 rfl ?_
  refine Tr.iload (pc := 266) (i := 4) d_X12_never_266 rfl ?_
  refine Tr.bipush (pc := 268) d_X12_never_268 rfl (by decide) ?_
  refine Tr.icmp_ge (pc := 270) (tgt := 300) d_X12_never_270 rfl (fun hc => absurd hc (by decide)) (fun _ => ?_)
  refine Tr.aload_n (pc := 273) (i := 0) d_X12_never_273 rfl rfl ?_
  refine Tr.getf (pc := 274) d_X12_never_274 f_12_375 (by decide) (by decide) (ty_120 hF) ?_
  refine Tr.tp 190 (fx_120_120 hF) ?_
  refine Tr.iload_n (pc := 277) (i := 1) d_X12_never_277 rfl rfl ?_
  refine Tr.lald (pc := 278) d_X12_never_278 (ty_190 hF) (by decide) (by decide) ?_
  refine Tr.tp 1 (rd_ws _ _ _ _) ?_
  refine Tr.iload (pc := 279) (i := 4) d_X12_never_279 rfl ?_
  refine Tr.lshr (pc := 281) d_X12_never_281 ?_
  refine Tr.tp 0 (by decide) ?_
  refine Tr.lconst (pc := 282) (v := 1) d_X12_never_282 rfl (by decide) ?_
  refine Tr.land (pc := 283) d_X12_never_283 ?_
  refine Tr.tp 0 (by decide) ?_
  refine Tr.lconst (pc := 284) (v := 1) d_X12_never_284 rfl (by decide) ?_
  refine Tr.lcmp (pc := 285) d_X12_never_285 ?_
  refine Tr.tp (-1) rfl ?_
  refine Tr.if_ne (pc := 286) (tgt := 294) d_X12_never_286 rfl (fun _ => ?_) (fun hc => absurd hc (by decide))
  refine Tr.iinc (pc := 294) (ls2 := [(4, (0, 7)), (3, (0, 0)), (2, (0, 0)), (1, (0, 0)), (0, (2, 120))]) d_X12_never_294 rfl (by decide) rfl ?_
  refine Tr.goto (pc := 297) (tgt := 266) d_X12_never_297 rfl ?_
  refine Tr.iload (pc := 266) (i := 4) d_X12_never_266 rfl ?_
  refine Tr.bipush (pc := 268) d_X12_never_268 rfl (by decide) ?_
  refine Tr.icmp_ge (pc := 270) (tgt := 300) d_X12_never_270 rfl (fun hc => absurd hc (by decide)) (fun _ => ?_)
  refine Tr.aload_n (pc := 273) (i := 0) d_X12_never_273 rfl rfl ?_
  refine Tr.getf (pc := 274) d_X12_never_274 f_12_375 (by decide) (by decide) (ty_120 hF) ?_
  refine Tr.tp 190 (fx_120_120 hF) ?_
  refine Tr.iload_n (pc := 277) (i := 1) d_X12_never_277 rfl rfl ?_
  refine Tr.lald (pc := 278) d_X12_never_278 (ty_190 hF) (by decide) (by decide) ?_
  refine Tr.tp 1 (rd_ws _ _ _ _) ?_
  refine Tr.iload (pc := 279) (i := 4) d_X12_never_279 rfl ?_
  refine Tr.lshr (pc := 281) d_X12_never_281 ?_
  refine Tr.tp 0 (by decide) ?_
  refine Tr.lconst (pc := 282) (v := 1) d_X12_never_282 rfl (by decide) ?_
  refine Tr.land (pc := 283) d_X12_never_283 ?_
  refine Tr.tp 0 (by decide) ?_
  refine Tr.lconst (pc := 284) (v := 1) d_X12_never_284 rfl (by decide) ?_
  refine Tr.lcmp (pc := 285) d_X12_never_285 ?_
  refine Tr.tp (-1) rfl ?_
  refine Tr.if_ne (pc := 286) (tgt := 294) d_X12_never_286 rfl (fun _ => ?_) (fun hc => absurd hc (by decide))
  refine Tr.iinc (pc := 294) (ls2 := [(4, (0, 8)), (3, (0, 0)), (2, (0, 0)), (1, (0, 0)), (0, (2, 120))]) d_X12_never_294 rfl (by decide) rfl ?_
  refine Tr.goto (pc := 297) (tgt := 266) d_X12_never_297 rfl ?_
  refine Tr.iload (pc := 266) (i := 4) d_X12_never_266 rfl ?_
  refine Tr.bipush (pc := 268) d_X12_never_268 rfl (by decide) ?_
  refine Tr.icmp_ge (pc := 270) (tgt := 300) d_X12_never_270 rfl (fun hc => absurd hc (by decide)) (fun _ => ?_)
  refine Tr.aload_n (pc := 273) (i := 0) d_X12_never_273 rfl rfl ?_
  refine Tr.getf (pc := 274) d_X12_never_274 f_12_375 (by decide) (by decide) (ty_120 hF) ?_
  refine Tr.tp 190 (fx_120_120 hF) ?_
  refine Tr.iload_n (pc := 277) (i := 1) d_X12_never_277 rfl rfl ?_
  refine Tr.lald (pc := 278) d_X12_never_278 (ty_190 hF) (by decide) (by decide) ?_
  refine Tr.tp 1 (rd_ws _ _ _ _) ?_
  refine Tr.iload (pc := 279) (i := 4) d_X12_never_279 rfl ?_
  refine Tr.lshr (pc := 281) d_X12_never_281 ?_
  refine Tr.tp 0 (by decide) ?_
  refine Tr.lconst (pc := 282) (v := 1) d_X12_never_282 rfl (by decide) ?_
  refine Tr.land (pc := 283) d_X12_never_283 ?_
  refine Tr.tp 0 (by decide) ?_
  refine Tr.lconst (pc := 284) (v := 1) d_X12_never_284 rfl (by decide) ?_
  refine Tr.lcmp (pc := 285) d_X12_never_285 ?_
  refine Tr.tp (-1) rfl ?_
  refine Tr.if_ne (pc := 286) (tgt := 294) d_X12_never_286 rfl (fun _ => ?_) (fun hc => absurd hc (by decide))
  refine Tr.iinc (pc := 294) (ls2 := [(4, (0, 9)), (3, (0, 0)), (2, (0, 0)), (1, (0, 0)), (0, (2, 120))]) d_X12_never_294 rfl (by decide) rfl ?_
  refine Tr.goto (pc := 297) (tgt := 266) d_X12_never_297 rfl ?_
  refine Tr.iload (pc := 266) (i := 4) d_X12_never_266 rfl ?_
  refine Tr.bipush (pc := 268) d_X12_never_268 rfl (by decide) ?_
  refine Tr.icmp_ge (pc := 270) (tgt := 300) d_X12_never_270 rfl (fun hc => absurd hc (by decide)) (fun _ => ?_)
  refine Tr.aload_n (pc := 273) (i := 0) d_X12_never_273 rfl rfl ?_
  refine Tr.getf (pc := 274) d_X12_never_274 f_12_375 (by decide) (by decide) (ty_120 hF) ?_
  refine Tr.tp 190 (fx_120_120 hF) ?_
  refine Tr.iload_n (pc := 277) (i := 1) d_X12_never_277 rfl rfl ?_
  refine Tr.lald (pc := 278) d_X12_never_278 (ty_190 hF) (by decide) (by decide) ?_
  refine Tr.tp 1 (rd_ws _ _ _ _) ?_
  refine Tr.iload (pc := 279) (i := 4) d_X12_never_279 rfl ?_
  refine Tr.lshr (pc := 281) d_X12_never_281 ?_
  refine Tr.tp 0 (by decide) ?_
  refine Tr.lconst (pc := 282) (v := 1) d_X12_never_282 rfl (by decide) ?_
  refine Tr.land (pc := 283) d_X12_never_283 ?_
  refine Tr.tp 0 (by decide) ?_
  refine Tr.lconst (pc := 284) (v := 1) d_X12_never_284 rfl (by decide) ?_
  refine Tr.lcmp (pc := 285) d_X12_never_285 ?_
  refine Tr.tp (-1) rfl ?_
  refine Tr.if_ne (pc := 286) (tgt := 294) d_X12_never_286 rfl (fun _ => ?_) (fun hc => absurd hc (by decide))
  refine Tr.iinc (pc := 294) (ls2 := [(4, (0, 10)), (3, (0, 0)), (2, (0, 0)), (1, (0, 0)), (0, (2, 120))]) d_X12_never_294 rfl (by decide) rfl ?_
  refine Tr.goto (pc := 297) (tgt := 266) d_X12_never_297 rfl ?_
  refine Tr.iload (pc := 266) (i := 4) d_X12_never_266 rfl ?_
  refine Tr.bipush (pc := 268) d_X12_never_268 rfl (by decide) ?_
  refine Tr.icmp_ge (pc := 270) (tgt := 300) d_X12_never_270 rfl (fun hc => absurd hc (by decide)) (fun _ => ?_)
  refine Tr.aload_n (pc := 273) (i := 0) d_X12_never_273 rfl rfl ?_
  refine Tr.getf (pc := 274) d_X12_never_274 f_12_375 (by decide) (by decide) (ty_120 hF) ?_
  refine Tr.tp 190 (fx_120_120 hF) ?_
  refine Tr.iload_n (pc := 277) (i := 1) d_X12_never_277 rfl rfl ?_
  refine Tr.lald (pc := 278) d_X12_never_278 (ty_190 hF) (by decide) (by decide) ?_
  refine Tr.tp 1 (rd_ws _ _ _ _) ?_
  refine Tr.iload (pc := 279) (i := 4) d_X12_never_279 rfl ?_
  refine Tr.lshr (pc := 281) d_X12_never_281 ?_
  refine Tr.tp 0 (by decide) ?_
  refine Tr.lconst (pc := 282) (v := 1) d_X12_never_282 rfl (by decide) ?_
  refine Tr.land (pc := 283) d_X12_never_283 ?_
  refine Tr.tp 0 (by decide) ?_
  refine Tr.lconst (pc := 284) (v := 1) d_X12_never_284 rfl (by decide) ?_
  refine Tr.lcmp (pc := 285) d_X12_never_285 ?_
  refine Tr.tp (-1) rfl ?_
  refine Tr.if_ne (pc := 286) (tgt := 294) d_X12_never_286 rfl (fun _ => ?_) (fun hc => absurd hc (by decide))
  refine Tr.iinc (pc := 294) (ls2 := [(4, (0, 11)), (3, (0, 0)), (2, (0, 0)), (1, (0, 0)), (0, (2, 120))]) d_X12_never_294 rfl (by decide) rfl ?_
  refine Tr.goto (pc := 297) (tgt := 266) d_X12_never_297 rfl ?_
  refine Tr.iload (pc := 266) (i := 4) d_X12_never_266 rfl ?_
  refine Tr.bipush (pc := 268) d_X12_never_268 rfl (by decide) ?_
  refine Tr.icmp_ge (pc := 270) (tgt := 300) d_X12_never_270 rfl (fun hc => absurd hc (by decide)) (fun _ => ?_)
  refine Tr.aload_n (pc := 273) (i := 0) d_X12_never_273 rfl rfl ?_
  refine Tr.getf (pc := 274) d_X12_never_274 f_12_375 (by decide) (by decide) (ty_120 hF) ?_
  refine Tr.tp 190 (fx_120_120 hF) ?_
  refine Tr.iload_n (pc := 277) (i := 1) d_X12_never_277 rfl rfl ?_
  refine Tr.lald (pc := 278) d_X12_never_278 (ty_190 hF) (by decide) (by decide) ?_
  refine Tr.tp 1 (rd_ws _ _ _ _) ?_
  refine Tr.iload (pc := 279) (i := 4) d_X12_never_279 rfl ?_
  refine Tr.lshr (pc := 281) d_X12_never_281 ?_
  refine Tr.tp 0 (by decide) ?_
  refine Tr.lconst (pc := 282) (v := 1) d_X12_never_282 rfl (by decide) ?_
  refine Tr.land (pc := 283) d_X12_never_283 ?_
  refine Tr.tp 0 (by decide) ?_
  refine Tr.lconst (pc := 284) (v := 1) d_X12_never_284 rfl (by decide) ?_
  refine Tr.lcmp (pc := 285) d_X12_never_285 ?_
  refine Tr.tp (-1) rfl ?_
  refine Tr.if_ne (pc := 286) (tgt := 294) d_X12_never_286 rfl (fun _ => ?_) (fun hc => absurd hc (by decide))
  refine Tr.iinc (pc := 294) (ls2 := [(4, (0, 12)), (3, (0, 0)), (2, (0, 0)), (1, (0, 0)), (0, (2, 120))]) d_X12_never_294 rfl (by decide) rfl ?_
  refine Tr.goto (pc := 297) (tgt := 266) d_X12_never_297 rfl ?_
  refine Tr.iload (pc := 266) (i := 4) d_X12_never_266 rfl ?_
  refine Tr.bipush (pc := 268) d_X12_never_268 rfl (by decide) ?_
  refine Tr.icmp_ge (pc := 270) (tgt := 300) d_X12_never_270 rfl (fun hc => absurd hc (by decide)) (fun _ => ?_)
  refine Tr.aload_n (pc := 273) (i := 0) d_X12_never_273 rfl rfl ?_
  refine Tr.getf (pc := 274) d_X12_never_274 f_12_375 (by decide) (by decide) (ty_120 hF) ?_
  refine Tr.tp 190 (fx_120_120 hF) ?_
  refine Tr.iload_n (pc := 277) (i := 1) d_X12_never_277 rfl rfl ?_
  refine Tr.lald (pc := 278) d_X12_never_278 (ty_190 hF) (by decide) (by decide) ?_
  refine Tr.tp 1 (rd_ws _ _ _ _) ?_
  refine Tr.iload (pc := 279) (i := 4) d_X12_never_279 rfl ?_
  refine Tr.lshr (pc := 281) d_X12_never_281 ?_
  refine Tr.tp 0 (by decide) ?_
  refine Tr.lconst (pc := 282) (v := 1) d_X12_never_282 rfl (by decide) ?_
  refine Tr.land (pc := 283) d_X12_never_283 ?_
  refine Tr.tp 0 (by decide) ?_
  refine Tr.lconst (pc := 284) (v := 1) d_X12_never_284 rfl (by decide) ?_
  refine Tr.lcmp (pc := 285) d_X12_never_285 ?_
  refine Tr.tp (-1) rfl ?_
  refine Tr.if_ne (pc := 286) (tgt := 294) d_X12_never_286 rfl (fun _ => ?_) (fun hc => absurd hc (by decide))
  refine Tr.iinc (pc := 294) (ls2 := [(4, (0, 13)), (3, (0, 0)), (2, (0, 0)), (1, (0, 0)), (0, (2, 120))]) d_X12_never_294 rfl (by decide) rfl ?_
  refine Tr.goto (pc := 297) (tgt := 266) d_X12_never_297 rfl ?_
  refine Tr.iload (pc := 266) (i := 4) d_X12_never_266 rfl ?_
  refine Tr.bipush (pc := 268) d_X12_never_268 rfl (by decide) ?_
  refine Tr.icmp_ge (pc := 270) (tgt := 300) d_X12_never_270 rfl (fun hc => absurd hc (by decide)) (fun _ => ?_)
  refine Tr.aload_n (pc := 273) (i := 0) d_X12_never_273 rfl rfl ?_
  refine Tr.getf (pc := 274) d_X12_never_274 f_12_375 (by decide) (by decide) (ty_120 hF) ?_
  refine Tr.tp 190 (fx_120_120 hF) ?_
  refine Tr.iload_n (pc := 277) (i := 1) d_X12_never_277 rfl rfl ?_
  refine Tr.lald (pc := 278) d_X12_never_278 (ty_190 hF) (by decide) (by decide) ?_
  refine Tr.tp 1 (rd_ws _ _ _ _) ?_
  refine Tr.iload (pc := 279) (i := 4) d_X12_never_279 rfl ?_
  refine Tr.lshr (pc := 281) d_X12_never_281 ?_
  refine Tr.tp 0 (by decide) ?_
  refine Tr.lconst (pc := 282) (v := 1) d_X12_never_282 rfl (by decide) ?_
  refine Tr.land (pc := 283) d_X12_never_283 ?_
  refine Tr.tp 0 (by decide) ?_
  refine Tr.lconst (pc := 284) (v := 1) d_X12_never_284 rfl (by decide) ?_
  refine Tr.lcmp (pc := 285) d_X12_never_285 ?_
  refine Tr.tp (-1) rfl ?_
  refine Tr.if_ne (pc := 286) (tgt := 294) d_X12_never_286 rfl (fun _ => ?_) (fun hc => absurd hc (by decide))
  refine Tr.iinc (pc := 294) (ls2 := [(4, (0, 14)), (3, (0, 0)), (2, (0, 0)), (1, (0, 0)), (0, (2, 120))]) d_X12_never_294 rfl (by decide) rfl ?_
  refine Tr.goto (pc := 297) (tgt := 266) d_X12_never_297 rfl ?_
  refine Tr.iload (pc := 266) (i := 4) d_X12_never_266 rfl ?_
  refine Tr.bipush (pc := 268) d_X12_never_268 rfl (by decide) ?_
  refine Tr.icmp_ge (pc := 270) (tgt := 300) d_X12_never_270 rfl (fun hc => absurd hc (by decide)) (fun _ => ?_)
  refine Tr.aload_n (pc := 273) (i := 0) d_X12_never_273 rfl rfl ?_
  refine Tr.getf (pc := 274) d_X12_never_274 f_12_375 (by decide) (by decide) (ty_120 hF) ?_
  refine Tr.tp 190 (fx_120_120 hF) ?_
  refine Tr.iload_n (pc := 277) (i := 1) d_X12_never_277 rfl rfl ?_
  refine Tr.lald (pc := 278) d_X12_never_278 (ty_190 hF) (by decide) (by decide) ?_
  refine Tr.tp 1 (rd_ws _ _ _ _) ?_
  refine Tr.iload (pc := 279) (i := 4) d_X12_never_279 rfl ?_
  refine Tr.lshr (pc := 281) d_X12_never_281 ?_
  refine Tr.tp 0 (by decide) ?_
  refine Tr.lconst (pc := 282) (v := 1) d_X12_never_282 rfl (by decide) ?_
  refine Tr.land (pc := 283) d_X12_never_283 ?_
  refine Tr.tp 0 (by decide) ?_
  refine Tr.lconst (pc := 284) (v := 1) d_X12_never_284 rfl (by decide) ?_
  refine Tr.lcmp (pc := 285) d_X12_never_285 ?_
  refine Tr.tp (-1) rfl ?_
  refine Tr.if_ne (pc := 286) (tgt := 294) d_X12_never_286 rfl (fun _ => ?_) (fun hc => absurd hc (by decide))
  refine Tr.iinc (pc := 294) (ls2 := [(4, (0, 15)), (3, (0, 0)), (2, (0, 0)), (1, (0, 0)), (0, (2, 120))]) d_X12_never_294 rfl (by decide) rfl ?_
  refine Tr.goto (pc := 297) (tgt := 266) d_X12_never_297 rfl ?_
  refine Tr.iload (pc := 266) (i := 4) d_X12_never_266 rfl ?_
  refine Tr.bipush (pc := 268) d_X12_never_268 rfl (by decide) ?_
  refine Tr.icmp_ge (pc := 270) (tgt := 300) d_X12_never_270 rfl (fun hc => absurd hc (by decide)) (fun _ => ?_)
  refine Tr.aload_n (pc := 273) (i := 0) d_X12_never_273 rfl rfl ?_
  refine Tr.getf (pc := 274) d_X12_never_274 f_12_375 (by decide) (by decide) (ty_120 hF) ?_
  refine Tr.tp 190 (fx_120_120 hF) ?_
  refine Tr.iload_n (pc := 277) (i := 1) d_X12_never_277 rfl rfl ?_
  refine Tr.lald (pc := 278) d_X12_never_278 (ty_190 hF) (by decide) (by decide) ?_
  refine Tr.tp 1 (rd_ws _ _ _ _) ?_
  refine Tr.iload (pc := 279) (i := 4) d_X12_never_279 rfl ?_
  refine Tr.lshr (pc := 281) d_X12_never_281 ?_
  refine Tr.tp 0 (by decide) ?_
  refine Tr.lconst (pc := 282) (v := 1) d_X12_never_282 rfl (by decide) ?_
  refine Tr.land (pc := 283) d_X12_never_283 ?_
  refine Tr.tp 0 (by decide) ?_
  refine Tr.lconst (pc := 284) (v := 1) d_X12_never_284 rfl (by decide) ?_
  refine Tr.lcmp (pc := 285) d_X12_never_285 ?_
  refine Tr.tp (-1) rfl ?_
  refine Tr.if_ne (pc := 286) (tgt := 294) d_X12_never_286 rfl (fun _ => ?_) (fun hc => absurd hc (by decide))
  refine Tr.iinc (pc := 294) (ls2 := [(4, (0, 16)), (3, (0, 0)), (2, (0, 0)), (1, (0, 0)), (0, (2, 120))]) d_X12_never_294 rfl (by decide) rfl ?_
  refine Tr.goto (pc := 297) (tgt := 266) d_X12_never_297 rfl ?_
  refine Tr.iload (pc := 266) (i := 4) d_X12_never_266 rfl ?_
  refine Tr.bipush (pc := 268) d_X12_never_268 rfl (by decide) ?_
  refine Tr.icmp_ge (pc := 270) (tgt := 300) d_X12_never_270 rfl (fun hc => absurd hc (by decide)) (fun _ => ?_)
  refine Tr.aload_n (pc := 273) (i := 0) d_X12_never_273 rfl rfl ?_
  refine Tr.getf (pc := 274) d_X12_never_274 f_12_375 (by decide) (by decide) (ty_120 hF) ?_
  refine Tr.tp 190 (fx_120_120 hF) ?_
  refine Tr.iload_n (pc := 277) (i := 1) d_X12_never_277 rfl rfl ?_
  refine Tr.lald (pc := 278) d_X12_never_278 (ty_190 hF) (by decide) (by decide) ?_
  refine Tr.tp 1 (rd_ws _ _ _ _) ?_
  refine Tr.iload (pc := 279) (i := 4) d_X12_never_279 rfl ?_
  refine Tr.lshr (pc := 281) d_X12_never_281 ?_
  refine Tr.tp 0 (by decide) ?_
  refine Tr.lconst (pc := 282) (v := 1) d_X12_never_282 rfl (by decide) ?_
  refine Tr.land (pc := 283) d_X12_never_283 ?_
  refine Tr.tp 0 (by decide) ?_
  refine Tr.lconst (pc := 284) (v := 1) d_X12_never_284 rfl (by decide) ?_
  refine Tr.lcmp (pc := 285) d_X12_never_285 ?_
  refine Tr.tp (-1) rfl ?_
  refine Tr.if_ne (pc := 286) (tgt := 294) d_X12_never_286 rfl (fun _ => ?_) (fun hc => absurd hc (by decide))
  refine Tr.iinc (pc := 294) (ls2 := [(4, (0, 17)), (3, (0, 0)), (2, (0, 0)), (1, (0, 0)), (0, (2, 120))]) d_X12_never_294 rfl (by decide) rfl ?_
  refine Tr.goto (pc := 297) (tgt := 266) d_X12_never_297 rfl ?_
  refine Tr.iload (pc := 266) (i := 4) d_X12_never_266 rfl ?_
  refine Tr.bipush (pc := 268) d_X12_never_268 rfl (by decide) ?_
  refine Tr.icmp_ge (pc := 270) (tgt := 300) d_X12_never_270 rfl (fun hc => absurd hc (by decide)) (fun _ => ?_)
  refine Tr.aload_n (pc := 273) (i := 0) d_X12_never_273 rfl rfl ?_
  refine Tr.getf (pc := 274) d_X12_never_274 f_12_375 (by decide) (by decide) (ty_120 hF) ?_
  refine Tr.tp 190 (fx_120_120 hF) ?_
  refine Tr.iload_n (pc := 277) (i := 1) d_X12_never_277 rfl rfl ?_
  refine Tr.lald (pc := 278) d_X12_never_278 (ty_190 hF) (by decide) (by decide) ?_
  refine Tr.tp 1 (rd_ws _ _ _ _) ?_
  refine Tr.iload (pc := 279) (i := 4) d_X12_never_279 rfl ?_
  refine Tr.lshr (pc := 281) d_X12_never_281 ?_
  refine Tr.tp 0 (by decide) ?_
  refine Tr.lconst (pc := 282) (v := 1) d_X12_never_282 rfl (by decide) ?_
  refine Tr.land (pc := 283) d_X12_never_283 ?_
  refine Tr.tp 0 (by decide) ?_
  refine Tr.lconst (pc := 284) (v := 1) d_X12_never_284 rfl (by decide) ?_
  refine Tr.lcmp (pc := 285) d_X12_never_285 ?_
  refine Tr.tp (-1) rfl ?_
  refine Tr.if_ne (pc := 286) (tgt := 294) d_X12_never_286 rfl (fun _ => ?_) (fun hc => absurd hc (by decide))
  refine Tr.iinc (pc := 294) (ls2 := [(4, (0, 18)), (3, (0, 0)), (2, (0, 0)), (1, (0, 0)), (0, (2, 120))]) d_X12_never_294 rfl (by decide) rfl ?_
  refine Tr.goto (pc := 297) (tgt := 266) d_X12_never_297 rfl ?_
  refine Tr.iload (pc := 266) (i := 4) d_X12_never_266 rfl ?_
  refine Tr.bipush (pc := 268) d_X12_never_268 rfl (by decide) ?_
  refine Tr.icmp_ge (pc := 270) (tgt := 300) d_X12_never_270 rfl (fun hc => absurd hc (by decide)) (fun _ => ?_)
  refine Tr.aload_n (pc := 273) (i := 0) d_X12_never_273 rfl rfl ?_
  refine Tr.getf (pc := 274) d_X12_never_274 f_12_375 (by decide) (by decide) (ty_120 hF) ?_
  refine Tr.tp 190 (fx_120_120 hF) ?_
  refine Tr.iload_n (pc := 277) (i := 1) d_X12_never_277 rfl rfl ?_
  refine Tr.lald (pc := 278) d_X12_never_278 (ty_190 hF) (by decide) (by decide) ?_
  refine Tr.tp 1 (rd_ws _ _ _ _) ?_
  refine Tr.iload (pc := 279) (i := 4) d_X12_never_279 rfl ?_
  refine Tr.lshr (pc := 281) d_X12_never_281 ?_
  refine Tr.tp 0 (by decide) ?_
  refine Tr.lconst (pc := 282) (v := 1) d_X12_never_282 rfl (by decide) ?_
  refine Tr.land (pc := 283) d_X12_never_283 ?_
  refine Tr.tp 0 (by decide) ?_
  refine Tr.lconst (pc := 284) (v := 1) d_X12_never_284 rfl (by decide) ?_
  refine Tr.lcmp (pc := 285) d_X12_never_285 ?_
  refine Tr.tp (-1) rfl ?_
  refine Tr.if_ne (pc := 286) (tgt := 294) d_X12_never_286 rfl (fun _ => ?_) (fun hc => absurd hc (by decide))
  refine Tr.iinc (pc := 294) (ls2 := [(4, (0, 19)), (3, (0, 0)), (2, (0, 0)), (1, (0, 0)), (0, (2, 120))]) d_X12_never_294 rfl (by decide) rfl ?_
  refine Tr.goto (pc := 297) (tgt := 266) d_X12_never_297 rfl ?_
  refine Tr.iload (pc := 266) (i := 4) d_X12_never_266 rfl ?_
  refine Tr.bipush (pc := 268) d_X12_never_268 rfl (by decide) ?_
  refine Tr.icmp_ge (pc := 270) (tgt := 300) d_X12_never_270 rfl (fun hc => absurd hc (by decide)) (fun _ => ?_)
  refine Tr.aload_n (pc := 273) (i := 0) d_X12_never_273 rfl rfl ?_
  refine Tr.getf (pc := 274) d_X12_never_274 f_12_375 (by decide) (by decide) (ty_120 hF) ?_
  refine Tr.tp 190 (fx_120_120 hF) ?_
  refine Tr.iload_n (pc := 277) (i := 1) d_X12_never_277 rfl rfl ?_
  refine Tr.lald (pc := 278) d_X12_never_278 (ty_190 hF) (by decide) (by decide) ?_
  refine Tr.tp 1 (rd_ws _ _ _ _) ?_
  refine Tr.iload (pc := 279) (i := 4) d_X12_never_279 rfl ?_
  refine Tr.lshr (pc := 281) d_X12_never_281 ?_
  refine Tr.tp 0 (by decide) ?_
  refine Tr.lconst (pc := 282) (v := 1) d_X12_never_282 rfl (by decide) ?_
  refine Tr.land (pc := 283) d_X12_never_283 ?_
  refine Tr.tp 0 (by decide) ?_
  refine Tr.lconst (pc := 284) (v := 1) d_X12_never_284 rfl (by decide) ?_
  refine Tr.lcmp (pc := 285) d_X12_never_285 ?_
  refine Tr.tp (-1) rfl ?_
  refine Tr.if_ne (pc := 286) (tgt := 294) d_X12_never_286 rfl (fun _ => ?_) (fun hc => absurd hc (by decide))
  refine Tr.iinc (pc := 294) (ls2 := [(4, (0, 20)), (3, (0, 0)), (2, (0, 0)), (1, (0, 0)), (0, (2, 120))]) d_X12_never_294 rfl (by decide) rfl ?_
  refine Tr.goto (pc := 297) (tgt := 266) d_X12_never_297 rfl ?_
  refine Tr.iload (pc := 266) (i := 4) d_X12_never_266 rfl ?_
  refine Tr.bipush (pc := 268) d_X12_never_268 rfl (by decide) ?_
  refine Tr.icmp_ge (pc := 270) (tgt := 300) d_X12_never_270 rfl (fun hc => absurd hc (by decide)) (fun _ => ?_)
  refine Tr.aload_n (pc := 273) (i := 0) d_X12_never_273 rfl rfl ?_
  refine Tr.getf (pc := 274) d_X12_never_274 f_12_375 (by decide) (by decide) (ty_120 hF) ?_
  refine Tr.tp 190 (fx_120_120 hF) ?_
  refine Tr.iload_n (pc := 277) (i := 1) d_X12_never_277 rfl rfl ?_
  refine Tr.lald (pc := 278) d_X12_never_278 (ty_190 hF) (by decide) (by decide) ?_
  refine Tr.tp 1 (rd_ws _ _ _ _) ?_
  refine Tr.iload (pc := 279) (i := 4) d_X12_never_279 rfl ?_
  refine Tr.lshr (pc := 281) d_X12_never_281 ?_
  refine Tr.tp 0 (by decide) ?_
  refine Tr.lconst (pc := 282) (v := 1) d_X12_never_282 rfl (by decide) ?_
  refine Tr.land (pc := 283) d_X12_never_283 ?_
  refine Tr.tp 0 (by decide) ?_
  refine Tr.lconst (pc := 284) (v := 1) d_X12_never_284 rfl (by decide) ?_
  refine Tr.lcmp (pc := 285) d_X12_never_285 ?_
  refine Tr.tp (-1) rfl ?_
  refine Tr.if_ne (pc := 286) (tgt := 294) d_X12_never_286 rfl (fun _ => ?_) (fun hc => absurd hc (by decide))
  refine Tr.iinc (pc := 294) (ls2 := [(4, (0, 21)), (3, (0, 0)), (2, (0, 0)), (1, (0, 0)), (0, (2, 120))]) d_X12_never_294 rfl (by decide) rfl ?_
  refine Tr.goto (pc := 297) (tgt := 266) d_X12_never_297 rfl ?_
  refine Tr.iload (pc := 266) (i := 4) d_X12_never_266 rfl ?_
  refine Tr.bipush (pc := 268) d_X12_never_268 rfl (by decide) ?_
  refine Tr.icmp_ge (pc := 270) (tgt := 300) d_X12_never_270 rfl (fun hc => absurd hc (by decide)) (fun _ => ?_)
  refine Tr.aload_n (pc := 273) (i := 0) d_X12_never_273 rfl rfl ?_
  refine Tr.getf (pc := 274) d_X12_never_274 f_12_375 (by decide) (by decide) (ty_120 hF) ?_
  refine Tr.tp 190 (fx_120_120 hF) ?_
  refine Tr.iload_n (pc := 277) (i := 1) d_X12_never_277 rfl rfl ?_
  refine Tr.lald (pc := 278) d_X12_never_278 (ty_190 hF) (by decide) (by decide) ?_
  refine Tr.tp 1 (rd_ws _ _ _ _) ?_
  refine Tr.iload (pc := 279) (i := 4) d_X12_never_279 rfl ?_
  refine Tr.lshr (pc := 281) d_X12_never_281 ?_
  refine Tr.tp 0 (by decide) ?_
  refine Tr.lconst (pc := 282) (v := 1) d_X12_never_282 rfl (by decide) ?_
  refine Tr.land (pc := 283) d_X12_never_283 ?_
  refine Tr.tp 0 (by decide) ?_
  refine Tr.lconst (pc := 284) (v := 1) d_X12_never_284 rfl (by decide) ?_
  refine Tr.lcmp (pc := 285) d_X12_never_285 ?_
  refine Tr.tp (-1) rfl ?_
  refine Tr.if_ne (pc := 286) (tgt := 294) d_X12_never_286 rfl (fun _ => ?_) (fun hc => absurd hc (by decide))
  refine Tr.iinc (pc := 294) (ls2 := [(4, (0, 22)), (3, (0, 0)), (2, (0, 0)), (1, (0, 0)), (0, (2, 120))]) d_X12_never_294 rfl (by decide) rfl ?_
  refine Tr.goto (pc := 297) (tgt := 266) d_X12_never_297 rfl ?_
  refine Tr.iload (pc := 266) (i := 4) d_X12_never_266 rfl ?_
  refine Tr.bipush (pc := 268) d_X12_never_268 rfl (by decide) ?_
  refine Tr.icmp_ge (pc := 270) (tgt := 300) d_X12_never_270 rfl (fun hc => absurd hc (by decide)) (fun _ => ?_)
  refine Tr.aload_n (pc := 273) (i := 0) d_X12_never_273 rfl rfl ?_
  refine Tr.getf (pc := 274) d_X12_never_274 f_12_375 (by decide) (by decide) (ty_120 hF) ?_
  refine Tr.tp 190 (fx_120_120 hF) ?_
  refine Tr.iload_n (pc := 277) (i := 1) d_X12_never_277 rfl rfl ?_
  refine Tr.lald (pc := 278) d_X12_never_278 (ty_190 hF) (by decide) (by decide) ?_
  refine Tr.tp 1 (rd_ws _ _ _ _) ?_
  refine Tr.iload (pc := 279) (i := 4) d_X12_never_279 rfl ?_
  refine Tr.lshr (pc := 281) d_X12_never_281 ?_
  refine Tr.tp 0 (by decide) ?_
  refine Tr.lconst (pc := 282) (v := 1) d_X12_never_282 rfl (by decide) ?_
  refine Tr.land (pc := 283) d_X12_never_283 ?_
  refine Tr.tp 0 (by decide) ?_
  refine Tr.lconst (pc := 284) (v := 1) d_X12_never_284 rfl (by decide) ?_
  refine Tr.lcmp (pc := 285) d_X12_never_285 ?_
  refine Tr.tp (-1) rfl ?_
  refine Tr.if_ne (pc := 286) (tgt := 294) d_X12_never_286 rfl (fun _ => ?_) (fun hc => absurd hc (by decide))
  refine Tr.iinc (pc := 294) (ls2 := [(4, (0, 23)), (3, (0, 0)), (2, (0, 0)), (1, (0, 0)), (0, (2, 120))]) d_X12_never_294 rfl (by decide) rfl ?_
  refine Tr.goto (pc := 297) (tgt := 266) d_X12_never_297 rfl ?_
  refine Tr.iload (pc := 266) (i := 4) d_X12_never_266 rfl ?_
  refine Tr.bipush (pc := 268) d_X12_never_268 rfl (by decide) ?_
  refine Tr.icmp_ge (pc := 270) (tgt := 300) d_X12_never_270 rfl (fun hc => absurd hc (by decide)) (fun _ => ?_)
  refine Tr.aload_n (pc := 273) (i := 0) d_X12_never_273 rfl rfl ?_
  refine Tr.getf (pc := 274) d_X12_never_274 f_12_375 (by decide) (by decide) (ty_120 hF) ?_
  refine Tr.tp 190 (fx_120_120 hF) ?_
  refine Tr.iload_n (pc := 277) (i := 1) d_X12_never_277 rfl rfl ?_
  refine Tr.lald (pc := 278) d_X12_never_278 (ty_190 hF) (by decide) (by decide) ?_
  refine Tr.tp 1 (rd_ws _ _ _ _) ?_
  refine Tr.iload (pc := 279) (i := 4) d_X12_never_279 rfl ?_
  refine Tr.lshr (pc := 281) d_X12_never_281 ?_
  refine Tr.tp 0 (by decide) ?_
  refine Tr.lconst (pc := 282) (v := 1) d_X12_never_282 rfl (by decide) ?_
  refine Tr.land (pc := 283) d_X12_never_283 ?_
  refine Tr.tp 0 (by decide) ?_
  refine Tr.lconst (pc := 284) (v := 1) d_X12_never_284 rfl (by decide) ?_
  refine Tr.lcmp (pc := 285) d_X12_never_285 ?_
  refine Tr.tp (-1) rfl ?_
  refine Tr.if_ne (pc := 286) (tgt := 294) d_X12_never_286 rfl (fun _ => ?_) (fun hc => absurd hc (by decide))
  refine Tr.iinc (pc := 294) (ls2 := [(4, (0, 24)), (3, (0, 0)), (2, (0, 0)), (1, (0, 0)), (0, (2, 120))]) d_X12_never_294 rfl (by decide) rfl ?_
  refine Tr.goto (pc := 297) (tgt := 266) d_X12_never_297 rfl ?_
  refine Tr.iload (pc := 266) (i := 4) d_X12_never_266 rfl ?_
  refine Tr.bipush (pc := 268) d_X12_never_268 rfl (by decide) ?_
  refine Tr.icmp_ge (pc := 270) (tgt := 300) d_X12_never_270 rfl (fun hc => absurd hc (by decide)) (fun _ => ?_)
  refine Tr.aload_n (pc := 273) (i := 0) d_X12_never_273 rfl rfl ?_
  refine Tr.getf (pc := 274) d_X12_never_274 f_12_375 (by decide) (by decide) (ty_120 hF) ?_
  refine Tr.tp 190 (fx_120_120 hF) ?_
  refine Tr.iload_n (pc := 277) (i := 1) d_X12_never_277 rfl rfl ?_
  refine Tr.lald (pc := 278) d_X12_never_278 (ty_190 hF) (by decide) (by decide) ?_
  refine Tr.tp 1 (rd_ws _ _ _ _) ?_
  refine Tr.iload (pc := 279) (i := 4) d_X12_never_279 rfl ?_
  refine Tr.lshr (pc := 281) d_X12_never_281 ?_
  refine Tr.tp 0 (by decide) ?_
  refine Tr.lconst (pc := 282) (v := 1) d_X12_never_282 rfl (by decide) ?_
  refine Tr.land (pc := 283) d_X12_never_283 ?_
  refine Tr.tp 0 (by decide) ?_
  refine Tr.lconst (pc := 284) (v := 1) d_X12_never_284 rfl (by decide) ?_
  refine Tr.lcmp (pc := 285) d_X12_never_285 ?_
  refine Tr.tp (-1) rfl ?_
  refine Tr.if_ne (pc := 286) (tgt := 294) d_X12_never_286 rfl (fun _ => ?_) (fun hc => absurd hc (by decide))
  refine Tr.iinc (pc := 294) (ls2 := [(4, (0, 25)), (3, (0, 0)), (2, (0, 0)), (1, (0, 0)), (0, (2, 120))]) d_X12_never_294 rfl (by decide) rfl ?_
  refine Tr.goto (pc := 297) (tgt := 266) d_X12_never_297 rfl ?_
  refine Tr.iload (pc := 266) (i := 4) d_X12_never_266 rfl ?_
  refine Tr.bipush (pc := 268) d_X12_never_268 rfl (by decide) ?_
  refine Tr.icmp_ge (pc := 270) (tgt := 300) d_X12_never_270 rfl (fun hc => absurd hc (by decide)) (fun _ => ?_)
  refine Tr.aload_n (pc := 273) (i := 0) d_X12_never_273 rfl rfl ?_
  refine Tr.getf (pc := 274) d_X12_never_274 f_12_375 (by decide) (by decide) (ty_120 hF) ?_
  refine Tr.tp 190 (fx_120_120 hF) ?_
  refine Tr.iload_n (pc := 277) (i := 1) d_X12_never_277 rfl rfl ?_
  refine Tr.lald (pc := 278) d_X12_never_278 (ty_190 hF) (by decide) (by decide) ?_
  refine Tr.tp 1 (rd_ws _ _ _ _) ?_
  refine Tr.iload (pc := 279) (i := 4) d_X12_never_279 rfl ?_
  refine Tr.lshr (pc := 281) d_X12_never_281 ?_
  refine Tr.tp 0 (by decide) ?_
  refine Tr.lconst (pc := 282) (v := 1) d_X12_never_282 rfl (by decide) ?_
  refine Tr.land (pc := 283) d_X12_never_283 ?_
  refine Tr.tp 0 (by decide) ?_
  refine Tr.lconst (pc := 284) (v := 1) d_X12_never_284 rfl (by decide) ?_
  refine Tr.lcmp (pc := 285) d_X12_never_285 ?_
  refine Tr.tp (-1) rfl ?_
  refine Tr.if_ne (pc := 286) (tgt := 294) d_X12_never_286 rfl (fun _ => ?_) (fun hc => absurd hc (by decide))
  refine Tr.iinc (pc := 294) (ls2 := [(4, (0, 26)), (3, (0, 0)), (2, (0, 0)), (1, (0, 0)), (0, (2, 120))]) d_X12_never_294 rfl (by decide) rfl ?_
  refine Tr.goto (pc := 297) (tgt := 266) d_X12_never_297 rfl ?_
  refine Tr.iload (pc := 266) (i := 4) d_X12_never_266 rfl ?_
  refine Tr.bipush (pc := 268) d_X12_never_268 rfl (by decide) ?_
  refine Tr.icmp_ge (pc := 270) (tgt := 300) d_X12_never_270 rfl (fun hc => absurd hc (by decide)) (fun _ => ?_)
  refine Tr.aload_n (pc := 273) (i := 0) d_X12_never_273 rfl rfl ?_
  refine Tr.getf (pc := 274) d_X12_never_274 f_12_375 (by decide) (by decide) (ty_120 hF) ?_
  refine Tr.tp 190 (fx_120_120 hF) ?_
  refine Tr.iload_n (pc := 277) (i := 1) d_X12_never_277 rfl rfl ?_
  refine Tr.lald (pc := 278) d_X12_never_278 (ty_190 hF) (by decide) (by decide) ?_
  refine Tr.tp 1 (rd_ws _ _ _ _) ?_
  refine Tr.iload (pc := 279) (i := 4) d_X12_never_279 rfl ?_
  refine Tr.lshr (pc := 281) d_X12_never_281 ?_
  refine Tr.tp 0 (by decide) ?_
  refine Tr.lconst (pc := 282) (v := 1) d_X12_never_282 rfl (by decide) ?_
  refine Tr.land (pc := 283) d_X12_never_283 ?_
  refine Tr.tp 0 (by decide) ?_
  refine Tr.lconst (pc := 284) (v := 1) d_X12_never_284 rfl (by decide) ?_
  refine Tr.lcmp (pc := 285) d_X12_never_285 ?_
  refine Tr.tp (-1) rfl ?_
  refine Tr.if_ne (pc := 286) (tgt := 294) d_X12_never_286 rfl (fun _ => ?_) (fun hc => absurd hc (by decide))
  refine Tr.iinc (pc := 294) (ls2 := [(4, (0, 27)), (3, (0, 0)), (2, (0, 0)), (1, (0, 0)), (0, (2, 120))]) d_X12_never_294 rfl (by decide) rfl ?_
  refine Tr.goto (pc := 297) (tgt := 266) d_X12_never_297 rfl ?_
  refine Tr.iload (pc := 266) (i := 4) d_X12_never_266 rfl ?_
  refine Tr.bipush (pc := 268) d_X12_never_268 rfl (by decide) ?_
  refine Tr.icmp_ge (pc := 270) (tgt := 300) d_X12_never_270 rfl (fun hc => absurd hc (by decide)) (fun _ => ?_)
  refine Tr.aload_n (pc := 273) (i := 0) d_X12_never_273 rfl rfl ?_
  refine Tr.getf (pc := 274) d_X12_never_274 f_12_375 (by decide) (by decide) (ty_120 hF) ?_
  refine Tr.tp 190 (fx_120_120 hF) ?_
  refine Tr.iload_n (pc := 277) (i := 1) d_X12_never_277 rfl rfl ?_
  refine Tr.lald (pc := 278) d_X12_never_278 (ty_190 hF) (by decide) (by decide) ?_
  refine Tr.tp 1 (rd_ws _ _ _ _) ?_
  refine Tr.iload (pc := 279) (i := 4) d_X12_never_279 rfl ?_
  refine Tr.lshr (pc := 281) d_X12_never_281 ?_
  refine Tr.tp 0 (by decide) ?_
  refine Tr.lconst (pc := 282) (v := 1) d_X12_never_282 rfl (by decide) ?_
  refine Tr.land (pc := 283) d_X12_never_283 ?_
  refine Tr.tp 0 (by decide) ?_
  refine Tr.lconst (pc := 284) (v := 1) d_X12_never_284 rfl (by decide) ?_
  refine Tr.lcmp (pc := 285) d_X12_never_285 ?_
  refine Tr.tp (-1) rfl ?_
  refine Tr.if_ne (pc := 286) (tgt := 294) d_X12_never_286 rfl (fun _ => ?_) (fun hc => absurd hc (by decide))
  refine Tr.iinc (pc := 294) (ls2 := [(4, (0, 28)), (3, (0, 0)), (2, (0, 0)), (1, (0, 0)), (0, (2, 120))]) d_X12_never_294 rfl (by decide) rfl ?_
  refine Tr.goto (pc := 297) (tgt := 266) d_X12_never_297 rfl ?_
  refine Tr.iload (pc := 266) (i := 4) d_X12_never_266 rfl ?_
  refine Tr.bipush (pc := 268) d_X12_never_268 rfl (by decide) ?_
  refine Tr.icmp_ge (pc := 270) (tgt := 300) d_X12_never_270 rfl (fun hc => absurd hc (by decide)) (fun _ => ?_)
  refine Tr.aload_n (pc := 273) (i := 0) d_X12_never_273 rfl rfl ?_
  refine Tr.getf (pc := 274) d_X12_never_274 f_12_375 (by decide) (by decide) (ty_120 hF) ?_
  refine Tr.tp 190 (fx_120_120 hF) ?_
  refine Tr.iload_n (pc := 277) (i := 1) d_X12_never_277 rfl rfl ?_
  refine Tr.lald (pc := 278) d_X12_never_278 (ty_190 hF) (by decide) (by decide) ?_
  refine Tr.tp 1 (rd_ws _ _ _ _) ?_
  refine Tr.iload (pc := 279) (i := 4) d_X12_never_279 rfl ?_
  refine Tr.lshr (pc := 281) d_X12_never_281 ?_
  refine Tr.tp 0 (by decide) ?_
  refine Tr.lconst (pc := 282) (v := 1) d_X12_never_282 rfl (by decide) ?_
  refine Tr.land (pc := 283) d_X12_never_283 ?_
  refine Tr.tp 0 (by decide) ?_
  refine Tr.lconst (pc := 284) (v := 1) d_X12_never_284 rfl (by decide) ?_
  refine Tr.lcmp (pc := 285) d_X12_never_285 ?_
  refine Tr.tp (-1) rfl ?_
  refine Tr.if_ne (pc := 286) (tgt := 294) d_X12_never_286 rfl (fun _ => ?_) (fun hc => absurd hc (by decide))
  refine Tr.iinc (pc := 294) (ls2 := [(4, (0, 29)), (3, (0, 0)), (2, (0, 0)), (1, (0, 0)), (0, (2, 120))]) d_X12_never_294 rfl (by decide) rfl ?_
  refine Tr.goto (pc := 297) (tgt := 266) d_X12_never_297 rfl ?_
  refine Tr.iload (pc := 266) (i := 4) d_X12_never_266 rfl ?_
  refine Tr.bipush (pc := 268) d_X12_never_268 rfl (by decide) ?_
  refine Tr.icmp_ge (pc := 270) (tgt := 300) d_X12_never_270 rfl (fun hc => absurd hc (by decide)) (fun _ => ?_)
  refine Tr.aload_n (pc := 273) (i := 0) d_X12_never_273 rfl rfl ?_
  refine Tr.getf (pc := 274) d_X12_never_274 f_12_375 (by decide) (by decide) (ty_120 hF) ?_
  refine Tr.tp 190 (fx_120_120 hF) ?_
  refine Tr.iload_n (pc := 277) (i := 1) d_X12_never_277 rfl rfl ?_
  refine Tr.lald (pc := 278) d_X12_never_278 (ty_190 hF) (by decide) (by decide) ?_
  refine Tr.tp 1 (rd_ws _ _ _ _) ?_
  refine Tr.iload (pc := 279) (i := 4) d_X12_never_279 rfl ?_
  refine Tr.lshr (pc := 281) d_X12_never_281 ?_
  refine Tr.tp 0 (by decide) ?_
  refine Tr.lconst (pc := 282) (v := 1) d_X12_never_282 rfl (by decide) ?_
  refine Tr.land (pc := 283) d_X12_never_283 ?_
  refine Tr.tp 0 (by decide) ?_
  refine Tr.lconst (pc := 284) (v := 1) d_X12_never_284 rfl (by decide) ?_
  refine Tr.lcmp (pc := 285) d_X12_never_285 ?_
  refine Tr.tp (-1) rfl ?_
  refine Tr.if_ne (pc := 286) (tgt := 294) d_X12_never_286 rfl (fun _ => ?_) (fun hc => absurd hc (by decide))
  refine Tr.iinc (pc := 294) (ls2 := [(4, (0, 30)), (3, (0, 0)), (2, (0, 0)), (1, (0, 0)), (0, (2, 120))]) d_X12_never_294 rfl (by decide) rfl ?_
  refine Tr.goto (pc := 297) (tgt := 266) d_X12_never_297 rfl ?_
  refine Tr.iload (pc := 266) (i := 4) d_X12_never_266 rfl ?_
  refine Tr.bipush (pc := 268) d_X12_never_268 rfl (by decide) ?_
  refine Tr.icmp_ge (pc := 270) (tgt := 300) d_X12_never_270 rfl (fun hc => absurd hc (by decide)) (fun _ => ?_)
  refine Tr.aload_n (pc := 273) (i := 0) d_X12_never_273 rfl rfl ?_
  refine Tr.getf (pc := 274) d_X12_never_274 f_12_375 (by decide) (by decide) (ty_120 hF) ?_
  refine Tr.tp 190 (fx_120_120 hF) ?_
  refine Tr.iload_n (pc := 277) (i := 1) d_X12_never_277 rfl rfl ?_
  refine Tr.lald (pc := 278) d_X12_never_278 (ty_190 hF) (by decide) (by decide) ?_
  refine Tr.tp 1 (rd_ws _ _ _ _) ?_
  refine Tr.iload (pc := 279) (i := 4) d_X12_never_279 rfl ?_
  refine Tr.lshr (pc := 281) d_X12_never_281 ?_
  refine Tr.tp 0 (by decide) ?_
  refine Tr.lconst (pc := 282) (v := 1) d_X12_never_282 rfl (by decide) ?_
  refine Tr.land (pc := 283) d_X12_never_283 ?_
  refine Tr.tp 0 (by decide) ?_
  refine Tr.lconst (pc := 284) (v := 1) d_X12_never_284 rfl (by decide) ?_
  refine Tr.lcmp (pc := 285) d_X12_never_285 ?_
  refine Tr.tp (-1) rfl ?_
  refine Tr.if_ne (pc := 286) (tgt := 294) d_X12_never_286 rfl (fun _ => ?_) (fun hc => absurd hc (by decide))
  refine Tr.iinc (pc := 294) (ls2 := [(4, (0, 31)), (3, (0, 0)), (2, (0, 0)), (1, (0, 0)), (0, (2, 120))]) d_X12_never_294 rfl (by decide) rfl ?_
  refine Tr.goto (pc := 297) (tgt := 266) d_X12_never_297 rfl ?_
  refine Tr.iload (pc := 266) (i := 4) d_X12_never_266 rfl ?_
  refine Tr.bipush (pc := 268) d_X12_never_268 rfl (by decide) ?_
  refine Tr.icmp_ge (pc := 270) (tgt := 300) d_X12_never_270 rfl (fun hc => absurd hc (by decide)) (fun _ => ?_)
  refine Tr.aload_n (pc := 273) (i := 0) d_X12_never_273 rfl rfl ?_
  refine Tr.getf (pc := 274) d_X12_never_274 f_12_375 (by decide) (by decide) (ty_120 hF) ?_
  refine Tr.tp 190 (fx_120_120 hF) ?_
  refine Tr.iload_n (pc := 277) (i := 1) d_X12_never_277 rfl rfl ?_
  refine Tr.lald (pc := 278) d_X12_never_278 (ty_190 hF) (by decide) (by decide) ?_
  refine Tr.tp 1 (rd_ws _ _ _ _) ?_
  refine Tr.iload (pc := 279) (i := 4) d_X12_never_279 rfl ?_
  refine Tr.lshr (pc := 281) d_X12_never_281 ?_
  refine Tr.tp 0 (by decide) ?_
  refine Tr.lconst (pc := 282) (v := 1) d_X12_never_282 rfl (by decide) ?_
  refine Tr.land (pc := 283) d_X12_never_283 ?_
  refine Tr.tp 0 (by decide) ?_
  refine Tr.lconst (pc := 284) (v := 1) d_X12_never_284 rfl (by decide) ?_
  refine Tr.lcmp (pc := 285) d_X12_never_285 ?_
  refine Tr.tp (-1) rfl ?_
  refine Tr.if_ne (pc := 286) (tgt := 294) d_X12_never_286 rfl (fun _ => ?_) (fun hc => absurd hc (by decide))
  refine Tr.iinc (pc := 294) (ls2 := [(4, (0, 32)), (3, (0, 0)), (2, (0, 0)), (1, (0, 0)), (0, (2, 120))]) d_X12_never_294 rfl (by decide) rfl ?_
  refine Tr.goto (pc := 297) (tgt := 266) d_X12_never_297 rfl ?_
  refine Tr.iload (pc := 266) (i := 4) d_X12_never_266 rfl ?_
  refine Tr.bipush (pc := 268) d_X12_never_268 rfl (by decide) ?_
  refine Tr.icmp_ge (pc := 270) (tgt := 300) d_X12_never_270 rfl (fun hc => absurd hc (by decide)) (fun _ => ?_)
  refine Tr.aload_n (pc := 273) (i := 0) d_X12_never_273 rfl rfl ?_
  refine Tr.getf (pc := 274) d_X12_never_274 f_12_375 (by decide) (by decide) (ty_120 hF) ?_
  refine Tr.tp 190 (fx_120_120 hF) ?_
  refine Tr.iload_n (pc := 277) (i := 1) d_X12_never_277 rfl rfl ?_
  refine Tr.lald (pc := 278) d_X12_never_278 (ty_190 hF) (by decide) (by decide) ?_
  refine Tr.tp 1 (rd_ws _ _ _ _) ?_
  refine Tr.iload (pc := 279) (i := 4) d_X12_never_279 rfl ?_
  refine Tr.lshr (pc := 281) d_X12_never_281 ?_
  refine Tr.tp 0 (by decide) ?_
  refine Tr.lconst (pc := 282) (v := 1) d_X12_never_282 rfl (by decide) ?_
  refine Tr.land (pc := 283) d_X12_never_283 ?_
  refine Tr.tp 0 (by decide) ?_
  refine Tr.lconst (pc := 284) (v := 1) d_X12_never_284 rfl (by decide) ?_
  refine Tr.lcmp (pc := 285) d_X12_never_285 ?_
  refine Tr.tp (-1) rfl ?_
  refine Tr.if_ne (pc := 286) (tgt := 294) d_X12_never_286 rfl (fun _ => ?_) (fun hc => absurd hc (by decide))
  refine Tr.iinc (pc := 294) (ls2 := [(4, (0, 33)), (3, (0, 0)), (2, (0, 0)), (1, (0, 0)), (0, (2, 120))]) d_X12_never_294 rfl (by decide) rfl ?_
  refine Tr.goto (pc := 297) (tgt := 266) d_X12_never_297 rfl ?_
  refine Tr.iload (pc := 266) (i := 4) d_X12_never_266 rfl ?_
  refine Tr.bipush (pc := 268) d_X12_never_268 rfl (by decide) ?_
  refine Tr.icmp_ge (pc := 270) (tgt := 300) d_X12_never_270 rfl (fun hc => absurd hc (by decide)) (fun _ => ?_)
  refine Tr.aload_n (pc := 273) (i := 0) d_X12_never_273 rfl rfl ?_
  refine Tr.getf (pc := 274) d_X12_never_274 f_12_375 (by decide) (by decide) (ty_120 hF) ?_
  refine Tr.tp 190 (fx_120_120 hF) ?_
  refine Tr.iload_n (pc := 277) (i := 1) d_X12_never_277 rfl rfl ?_
  refine Tr.lald (pc := 278) d_X12_never_278 (ty_190 hF) (by decide) (by decide) ?_
  refine Tr.tp 1 (rd_ws _ _ _ _) ?_
  refine Tr.iload (pc := 279) (i := 4) d_X12_never_279 rfl ?_
  refine Tr.lshr (pc := 281) d_X12_never_281 ?_
  refine Tr.tp 0 (by decide) ?_
  refine Tr.lconst (pc := 282) (v := 1) d_X12_never_282 rfl (by decide) ?_
  refine Tr.land (pc := 283) d_X12_never_283 ?_
  refine Tr.tp 0 (by decide) ?_
  refine Tr.lconst (pc := 284) (v := 1) d_X12_never_284 rfl (by decide) ?_
  refine Tr.lcmp (pc := 285) d_X12_never_285 ?_
  refine Tr.tp (-1) rfl ?_
  refine Tr.if_ne (pc := 286) (tgt := 294) d_X12_never_286 rfl (fun _ => ?_) (fun hc => absurd hc (by decide))
  refine Tr.iinc (pc := 294) (ls2 := [(4, (0, 34)), (3, (0, 0)), (2, (0, 0)), (1, (0, 0)), (0, (2, 120))]) d_X12_never_294 rfl (by decide) rfl ?_
  refine Tr.goto (pc := 297) (tgt := 266) d_X12_never_297 rfl ?_
  refine Tr.iload (pc := 266) (i := 4) d_X12_never_266 rfl ?_
  refine Tr.bipush (pc := 268) d_X12_never_268 rfl (by decide) ?_
  refine Tr.icmp_ge (pc := 270) (tgt := 300) d_X12_never_270 rfl (fun hc => absurd hc (by decide)) (fun _ => ?_)
  refine Tr.aload_n (pc := 273) (i := 0) d_X12_never_273 rfl rfl ?_
  refine Tr.getf (pc := 274) d_X12_never_274 f_12_375 (by decide) (by decide) (ty_120 hF) ?_
  refine Tr.tp 190 (fx_120_120 hF) ?_
  refine Tr.iload_n (pc := 277) (i := 1) d_X12_never_277 rfl rfl ?_
  refine Tr.lald (pc := 278) d_X12_never_278 (ty_190 hF) (by decide) (by decide) ?_
  refine Tr.tp 1 (rd_ws _ _ _ _) ?_
  refine Tr.iload (pc := 279) (i := 4) d_X12_never_279 rfl ?_
  refine Tr.lshr (pc := 281) d_X12_never_281 ?_
  refine Tr.tp 0 (by decide) ?_
  refine Tr.lconst (pc := 282) (v := 1) d_X12_never_282 rfl (by decide) ?_
  refine Tr.land (pc := 283) d_X12_never_283 ?_
  refine Tr.tp 0 (by decide) ?_
  refine Tr.lconst (pc := 284) (v := 1) d_X12_never_284 rfl (by decide) ?_
  refine Tr.lcmp (pc := 285) d_X12_never_285 ?_
  refine Tr.tp (-1) rfl ?_
  refine Tr.if_ne (pc := 286) (tgt := 294) d_X12_never_286 rfl (fun _ => ?_) (fun hc => absurd hc (by decide))
  refine Tr.iinc (pc := 294) (ls2 := [(4, (0, 35)), (3, (0, 0)), (2, (0, 0)), (1, (0, 0)), (0, (2, 120))]) d_X12_never_294 rfl (by decide) rfl ?_
  refine Tr.goto (pc := 297) (tgt := 266) d_X12_never_297 rfl ?_
  refine Tr.iload (pc := 266) (i := 4) d_X12_never_266 rfl ?_
  refine Tr.bipush (pc := 268) d_X12_never_268 rfl (by decide) ?_
  refine Tr.icmp_ge (pc := 270) (tgt := 300) d_X12_never_270 rfl (fun hc => absurd hc (by decide)) (fun _ => ?_)
  refine Tr.aload_n (pc := 273) (i := 0) d_X12_never_273 rfl rfl ?_
  refine Tr.getf (pc := 274) d_X12_never_274 f_12_375 (by decide) (by decide) (ty_120 hF) ?_
  refine Tr.tp 190 (fx_120_120 hF) ?_
  refine Tr.iload_n (pc := 277) (i := 1) d_X12_never_277 rfl rfl ?_
  refine Tr.lald (pc := 278) d_X12_never_278 (ty_190 hF) (by decide) (by decide) ?_
  refine Tr.tp 1 (rd_ws _ _ _ _) ?_
  refine Tr.iload (pc := 279) (i := 4) d_X12_never_279 rfl ?_
  refine Tr.lshr (pc := 281) d_X12_never_281 ?_
  refine Tr.tp 0 (by decide) ?_
  refine Tr.lconst (pc := 282) (v := 1) d_X12_never_282 rfl (by decide) ?_
  refine Tr.land (pc := 283) d_X12_never_283 ?_
  refine Tr.tp 0 (by decide) ?_
  refine Tr.lconst (pc := 284) (v := 1) d_X12_never_284 rfl (by decide) ?_
  refine Tr.lcmp (pc := 285) d_X12_never_285 ?_
  refine Tr.tp (-1) rfl ?_
  refine Tr.if_ne (pc := 286) (tgt := 294) d_X12_never_286 rfl (fun _ => ?_) (fun hc => absurd hc (by decide))
  refine Tr.iinc (pc := 294) (ls2 := [(4, (0, 36)), (3, (0, 0)), (2, (0, 0)), (1, (0, 0)), (0, (2, 120))]) d_X12_never_294 rfl (by decide) rfl ?_
  refine Tr.goto (pc := 297) (tgt := 266) d_X12_never_297 rfl ?_
  refine Tr.iload (pc := 266) (i := 4) d_X12_never_266 rfl ?_
  refine Tr.bipush (pc := 268) d_X12_never_268 rfl (by decide) ?_
  refine Tr.icmp_ge (pc := 270) (tgt := 300) d_X12_never_270 rfl (fun hc => absurd hc (by decide)) (fun _ => ?_)
  refine Tr.aload_n (pc := 273) (i := 0) d_X12_never_273 rfl rfl ?_
  refine Tr.getf (pc := 274) d_X12_never_274 f_12_375 (by decide) (by decide) (ty_120 hF) ?_
  refine Tr.tp 190 (fx_120_120 hF) ?_
  refine Tr.iload_n (pc := 277) (i := 1) d_X12_never_277 rfl rfl ?_
  refine Tr.lald (pc := 278) d_X12_never_278 (ty_190 hF) (by decide) (by decide) ?_
  refine Tr.tp 1 (rd_ws _ _ _ _) ?_
  refine Tr.iload (pc := 279) (i := 4) d_X12_never_279 rfl ?_
  refine Tr.lshr (pc := 281) d_X12_never_281 ?_
  refine Tr.tp 0 (by decide) ?_
  refine Tr.lconst (pc := 282) (v := 1) d_X12_never_282 rfl (by decide) ?_
  refine Tr.land (pc := 283) d_X12_never_283 ?_
  refine Tr.tp 0 (by decide) ?_
  refine Tr.lconst (pc := 284) (v := 1) d_X12_never_284 rfl (by decide) ?_
  refine Tr.lcmp (pc := 285) d_X12_never_285 ?_
  refine Tr.tp (-1) rfl ?_
  refine Tr.if_ne (pc := 286) (tgt := 294) d_X12_never_286 rfl (fun _ => ?_) (fun hc => absurd hc (by decide))
  refine Tr.iinc (pc := 294) (ls2 := [(4, (0, 37)), (3, (0, 0)), (2, (0, 0)), (1, (0, 0)), (0, (2, 120))]) d_X12_never_294 rfl (by decide) rfl ?_
  refine Tr.goto (pc := 297) (tgt := 266) d_X12_never_297 rfl ?_
  refine Tr.iload (pc := 266) (i := 4) d_X12_never_266 rfl ?_
  refine Tr.bipush (pc := 268) d_X12_never_268 rfl (by decide) ?_
  refine Tr.icmp_ge (pc := 270) (tgt := 300) d_X12_never_270 rfl (fun hc => absurd hc (by decide)) (fun _ => ?_)
  refine Tr.aload_n (pc := 273) (i := 0) d_X12_never_273 rfl rfl ?_
  refine Tr.getf (pc := 274) d_X12_never_274 f_12_375 (by decide) (by decide) (ty_120 hF) ?_
  refine Tr.tp 190 (fx_120_120 hF) ?_
  refine Tr.iload_n (pc := 277) (i := 1) d_X12_never_277 rfl rfl ?_
  refine Tr.lald (pc := 278) d_X12_never_278 (ty_190 hF) (by decide) (by decide) ?_
  refine Tr.tp 1 (rd_ws _ _ _ _) ?_
  refine Tr.iload (pc := 279) (i := 4) d_X12_never_279 rfl ?_
  refine Tr.lshr (pc := 281) d_X12_never_281 ?_
  refine Tr.tp 0 (by decide) ?_
  refine Tr.lconst (pc := 282) (v := 1) d_X12_never_282 rfl (by decide) ?_
  refine Tr.land (pc := 283) d_X12_never_283 ?_
  refine Tr.tp 0 (by decide) ?_
  refine Tr.lconst (pc := 284) (v := 1) d_X12_never_284 rfl (by decide) ?_
  refine Tr.lcmp (pc := 285) d_X12_never_285 ?_
  refine Tr.tp (-1) rfl ?_
  refine Tr.if_ne (pc := 286) (tgt := 294) d_X12_never_286 rfl (fun _ => ?_) (fun hc => absurd hc (by decide))
  refine Tr.iinc (pc := 294) (ls2 := [(4, (0, 38)), (3, (0, 0)), (2, (0, 0)), (1, (0, 0)), (0, (2, 120))]) d_X12_never_294 rfl (by decide) rfl ?_
  refine Tr.goto (pc := 297) (tgt := 266) d_X12_never_297 rfl ?_
  refine Tr.iload (pc := 266) (i := 4) d_X12_never_266 rfl ?_
  refine Tr.bipush (pc := 268) d_X12_never_268 rfl (by decide) ?_
  refine Tr.icmp_ge (pc := 270) (tgt := 300) d_X12_never_270 rfl (fun hc => absurd hc (by decide)) (fun _ => ?_)
  refine Tr.aload_n (pc := 273) (i := 0) d_X12_never_273 rfl rfl ?_
  refine Tr.getf (pc := 274) d_X12_never_274 f_12_375 (by decide) (by decide) (ty_120 hF) ?_
  refine Tr.tp 190 (fx_120_120 hF) ?_
  refine Tr.iload_n (pc := 277) (i := 1) d_X12_never_277 rfl rfl ?_
  refine Tr.lald (pc := 278) d_X12_never_278 (ty_190 hF) (by decide) (by decide) ?_
  refine Tr.tp 1 (rd_ws _ _ _ _) ?_
  refine Tr.iload (pc := 279) (i := 4) d_X12_never_279 rfl ?_
  refine Tr.lshr (pc := 281) d_X12_never_281 ?_
  refine Tr.tp 0 (by decide) ?_
  refine Tr.lconst (pc := 282) (v := 1) d_X12_never_282 rfl (by decide) ?_
  refine Tr.land (pc := 283) d_X12_never_283 ?_
  refine Tr.tp 0 (by decide) ?_
  refine Tr.lconst (pc := 284) (v := 1) d_X12_never_284 rfl (by decide) ?_
  refine Tr.lcmp (pc := 285) d_X12_never_285 ?_
  refine Tr.tp (-1) rfl ?_
  refine Tr.if_ne (pc := 286) (tgt := 294) d_X12_never_286 rfl (fun _ => ?_) (fun hc => absurd hc (by decide))
  refine Tr.iinc (pc := 294) (ls2 := [(4, (0, 39)), (3, (0, 0)), (2, (0, 0)), (1, (0, 0)), (0, (2, 120))]) d_X12_never_294 rfl (by decide) rfl ?_
  refine Tr.goto (pc := 297) (tgt := 266) d_X12_never_297 rfl ?_
  refine Tr.iload (pc := 266) (i := 4) d_X12_never_266 rfl ?_
  refine Tr.bipush (pc := 268) d_X12_never_268 rfl (by decide) ?_
  refine Tr.icmp_ge (pc := 270) (tgt := 300) d_X12_never_270 rfl (fun hc => absurd hc (by decide)) (fun _ => ?_)
  refine Tr.aload_n (pc := 273) (i := 0) d_X12_never_273 rfl rfl ?_
  refine Tr.getf (pc := 274) d_X12_never_274 f_12_375 (by decide) (by decide) (ty_120 hF) ?_
  refine Tr.tp 190 (fx_120_120 hF) ?_
  refine Tr.iload_n (pc := 277) (i := 1) d_X12_never_277 rfl rfl ?_
  refine Tr.lald (pc := 278) d_X12_never_278 (ty_190 hF) (by decide) (by decide) ?_
  refine Tr.tp 1 (rd_ws _ _ _ _) ?_
  refine Tr.iload (pc := 279) (i := 4) d_X12_never_279 rfl ?_
  refine Tr.lshr (pc := 281) d_X12_never_281 ?_
  refine Tr.tp 0 (by decide) ?_
  refine Tr.lconst (pc := 282) (v := 1) d_X12_never_282 rfl (by decide) ?_
  refine Tr.land (pc := 283) d_X12_never_283 ?_
  refine Tr.tp 0 (by decide) ?_
  refine Tr.lconst (pc := 284) (v := 1) d_X12_never_284 rfl (by decide) ?_
  refine Tr.lcmp (pc := 285) d_X12_never_285 ?_
  refine Tr.tp (-1) rfl ?_
  refine Tr.if_ne (pc := 286) (tgt := 294) d_X12_never_286 rfl (fun _ => ?_) (fun hc => absurd hc (by decide))
  refine Tr.iinc (pc := 294) (ls2 := [(4, (0, 40)), (3, (0, 0)), (2, (0, 0)), (1, (0, 0)), (0, (2, 120))]) d_X12_never_294 rfl (by decide) rfl ?_
  refine Tr.goto (pc := 297) (tgt := 266) d_X12_never_297 rfl ?_
  refine Tr.iload (pc := 266) (i := 4) d_X12_never_266 rfl ?_
  refine Tr.bipush (pc := 268) d_X12_never_268 rfl (by decide) ?_
  refine Tr.icmp_ge (pc := 270) (tgt := 300) d_X12_never_270 rfl (fun hc => absurd hc (by decide)) (fun _ => ?_)
  refine Tr.aload_n (pc := 273) (i := 0) d_X12_never_273 rfl rfl ?_
  refine Tr.getf (pc := 274) d_X12_never_274 f_12_375 (by decide) (by decide) (ty_120 hF) ?_
  refine Tr.tp 190 (fx_120_120 hF) ?_
  refine Tr.iload_n (pc := 277) (i := 1) d_X12_never_277 rfl rfl ?_
  refine Tr.lald (pc := 278) d_X12_never_278 (ty_190 hF) (by decide) (by decide) ?_
  refine Tr.tp 1 (rd_ws _ _ _ _) ?_
  refine Tr.iload (pc := 279) (i := 4) d_X12_never_279 rfl ?_
  refine Tr.lshr (pc := 281) d_X12_never_281 ?_
  refine Tr.tp 0 (by decide) ?_
  refine Tr.lconst (pc := 282) (v := 1) d_X12_never_282 rfl (by decide) ?_
  refine Tr.land (pc := 283) d_X12_never_283 ?_
  refine Tr.tp 0 (by decide) ?_
  refine Tr.lconst (pc := 284) (v := 1) d_X12_never_284 rfl (by decide) ?_
  refine Tr.lcmp (pc := 285) d_X12_never_285 ?_
  refine Tr.tp (-1) rfl ?_
  refine Tr.if_ne (pc := 286) (tgt := 294) d_X12_never_286 rfl (fun _ => ?_) (fun hc => absurd hc (by decide))
  refine Tr.iinc (pc := 294) (ls2 := [(4, (0, 41)), (3, (0, 0)), (2, (0, 0)), (1, (0, 0)), (0, (2, 120))]) d_X12_never_294 rfl (by decide) rfl ?_
  refine Tr.goto (pc := 297) (tgt := 266) d_X12_never_297 rfl ?_
  refine Tr.iload (pc := 266) (i := 4) d_X12_never_266 rfl ?_
  refine Tr.bipush (pc := 268) d_X12_never_268 rfl (by decide) ?_
  refine Tr.icmp_ge (pc := 270) (tgt := 300) d_X12_never_270 rfl (fun hc => absurd hc (by decide)) (fun _ => ?_)
  refine Tr.aload_n (pc := 273) (i := 0) d_X12_never_273 rfl rfl ?_
  refine Tr.getf (pc := 274) d_X12_never_274 f_12_375 (by decide) (by decide) (ty_120 hF) ?_
  refine Tr.tp 190 (fx_120_120 hF) ?_
  refine Tr.iload_n (pc := 277) (i := 1) d_X12_never_277 rfl rfl ?_
  refine Tr.lald (pc := 278) d_X12_never_278 (ty_190 hF) (by decide) (by decide) ?_
  refine Tr.tp 1 (rd_ws _ _ _ _) ?_
  refine Tr.iload (pc := 279) (i := 4) d_X12_never_279 rfl ?_
  refine Tr.lshr (pc := 281) d_X12_never_281 ?_
  refine Tr.tp 0 (by decide) ?_
  refine Tr.lconst (pc := 282) (v := 1) d_X12_never_282 rfl (by decide) ?_
  refine Tr.land (pc := 283) d_X12_never_283 ?_
  refine Tr.tp 0 (by decide) ?_
  refine Tr.lconst (pc := 284) (v := 1) d_X12_never_284 rfl (by decide) ?_
  refine Tr.lcmp (pc := 285) d_X12_never_285 ?_
  refine Tr.tp (-1) rfl ?_
  refine Tr.if_ne (pc := 286) (tgt := 294) d_X12_never_286 rfl (fun _ => ?_) (fun hc => absurd hc (by decide))
  refine Tr.iinc (pc := 294) (ls2 := [(4, (0, 42)), (3, (0, 0)), (2, (0, 0)), (1, (0, 0)), (0, (2, 120))]) d_X12_never_294 rfl (by decide) rfl ?_
  refine Tr.goto (pc := 297) (tgt := 266) d_X12_never_297 rfl ?_
  refine Tr.iload (pc := 266) (i := 4) d_X12_never_266 rfl ?_
  refine Tr.bipush (pc := 268) d_X12_never_268 rfl (by decide) ?_
  refine Tr.icmp_ge (pc := 270) (tgt := 300) d_X12_never_270 rfl (fun hc => absurd hc (by decide)) (fun _ => ?_)
  refine Tr.aload_n (pc := 273) (i := 0) d_X12_never_273 rfl rfl ?_
  refine Tr.getf (pc := 274) d_X12_never_274 f_12_375 (by decide) (by decide) (ty_120 hF) ?_
  refine Tr.tp 190 (fx_120_120 hF) ?_
  refine Tr.iload_n (pc := 277) (i := 1) d_X12_never_277 rfl rfl ?_
  refine Tr.lald (pc := 278) d_X12_never_278 (ty_190 hF) (by decide) (by decide) ?_
  refine Tr.tp 1 (rd_ws _ _ _ _) ?_
  refine Tr.iload (pc := 279) (i := 4) d_X12_never_279 rfl ?_
  refine Tr.lshr (pc := 281) d_X12_never_281 ?_
  refine Tr.tp 0 (by decide) ?_
  refine Tr.lconst (pc := 282) (v := 1) d_X12_never_282 rfl (by decide) ?_
  refine Tr.land (pc := 283) d_X12_never_283 ?_
  refine Tr.tp 0 (by decide) ?_
  refine Tr.lconst (pc := 284) (v := 1) d_X12_never_284 rfl (by decide) ?_
  refine Tr.lcmp (pc := 285) d_X12_never_285 ?_
  refine Tr.tp (-1) rfl ?_
  refine Tr.if_ne (pc := 286) (tgt := 294) d_X12_never_286 rfl (fun _ => ?_) (fun hc => absurd hc (by decide))
  refine Tr.iinc (pc := 294) (ls2 := [(4, (0, 43)), (3, (0, 0)), (2, (0, 0)), (1, (0, 0)), (0, (2, 120))]) d_X12_never_294 rfl (by decide) rfl ?_
  refine Tr.goto (pc := 297) (tgt := 266) d_X12_never_297 rfl ?_
  refine Tr.iload (pc := 266) (i := 4) d_X12_never_266 rfl ?_
  refine Tr.bipush (pc := 268) d_X12_never_268 rfl (by decide) ?_
  refine Tr.icmp_ge (pc := 270) (tgt := 300) d_X12_never_270 rfl (fun hc => absurd hc (by decide)) (fun _ => ?_)
  refine Tr.aload_n (pc := 273) (i := 0) d_X12_never_273 rfl rfl ?_
  refine Tr.getf (pc := 274) d_X12_never_274 f_12_375 (by decide) (by decide) (ty_120 hF) ?_
  refine Tr.tp 190 (fx_120_120 hF) ?_
  refine Tr.iload_n (pc := 277) (i := 1) d_X12_never_277 rfl rfl ?_
  refine Tr.lald (pc := 278) d_X12_never_278 (ty_190 hF) (by decide) (by decide) ?_
  refine Tr.tp 1 (rd_ws _ _ _ _) ?_
  refine Tr.iload (pc := 279) (i := 4) d_X12_never_279 rfl ?_
  refine Tr.lshr (pc := 281) d_X12_never_281 ?_
  refine Tr.tp 0 (by decide) ?_
  refine Tr.lconst (pc := 282) (v := 1) d_X12_never_282 rfl (by decide) ?_
  refine Tr.land (pc := 283) d_X12_never_283 ?_
  refine Tr.tp 0 (by decide) ?_
  refine Tr.lconst (pc := 284) (v := 1) d_X12_never_284 rfl (by decide) ?_
  refine Tr.lcmp (pc := 285) d_X12_never_285 ?_
  refine Tr.tp (-1) rfl ?_
  refine Tr.if_ne (pc := 286) (tgt := 294) d_X12_never_286 rfl (fun _ => ?_) (fun hc => absurd hc (by decide))
  refine Tr.iinc (pc := 294) (ls2 := [(4, (0, 44)), (3, (0, 0)), (2, (0, 0)), (1, (0, 0)), (0, (2, 120))]) d_X12_never_294 rfl (by decide) rfl ?_
  refine Tr.goto (pc := 297) (tgt := 266) d_X12_never_297 rfl ?_
  refine Tr.iload (pc := 266) (i := 4) d_X12_never_266 rfl ?_
  refine Tr.bipush (pc := 268) d_X12_never_268 rfl (by decide) ?_
  refine Tr.icmp_ge (pc := 270) (tgt := 300) d_X12_never_270 rfl (fun hc => absurd hc (by decide)) (fun _ => ?_)
  refine Tr.aload_n (pc := 273) (i := 0) d_X12_never_273 rfl rfl ?_
  refine Tr.getf (pc := 274) d_X12_never_274 f_12_375 (by decide) (by decide) (ty_120 hF) ?_
  refine Tr.tp 190 (fx_120_120 hF) ?_
  refine Tr.iload_n (pc := 277) (i := 1) d_X12_never_277 rfl rfl ?_
  refine Tr.lald (pc := 278) d_X12_never_278 (ty_190 hF) (by decide) (by decide) ?_
  refine Tr.tp 1 (rd_ws _ _ _ _) ?_
  refine Tr.iload (pc := 279) (i := 4) d_X12_never_279 rfl ?_
  refine Tr.lshr (pc := 281) d_X12_never_281 ?_
  refine Tr.tp 0 (by decide) ?_
  refine Tr.lconst (pc := 282) (v := 1) d_X12_never_282 rfl (by decide) ?_
  refine Tr.land (pc := 283) d_X12_never_283 ?_
  refine Tr.tp 0 (by decide) ?_
  refine Tr.lconst (pc := 284) (v := 1) d_X12_never_284 rfl (by decide) ?_
  refine Tr.lcmp (pc := 285) d_X12_never_285 ?_
  refine Tr.tp (-1) rfl ?_
  refine Tr.if_ne (pc := 286) (tgt := 294) d_X12_never_286 rfl (fun _ => ?_) (fun hc => absurd hc (by decide))
  refine Tr.iinc (pc := 294) (ls2 := [(4, (0, 45)), (3, (0, 0)), (2, (0, 0)), (1, (0, 0)), (0, (2, 120))]) d_X12_never_294 rfl (by decide) rfl ?_
  refine Tr.goto (pc := 297) (tgt := 266) d_X12_never_297 rfl ?_
  refine Tr.iload (pc := 266) (i := 4) d_X12_never_266 rfl ?_
  refine Tr.bipush (pc := 268) d_X12_never_268 rfl (by decide) ?_
  refine Tr.icmp_ge (pc := 270) (tgt := 300) d_X12_never_270 rfl (fun hc => absurd hc (by decide)) (fun _ => ?_)
  refine Tr.aload_n (pc := 273) (i := 0) d_X12_never_273 rfl rfl ?_
  refine Tr.getf (pc := 274) d_X12_never_274 f_12_375 (by decide) (by decide) (ty_120 hF) ?_
  refine Tr.tp 190 (fx_120_120 hF) ?_
  refine Tr.iload_n (pc := 277) (i := 1) d_X12_never_277 rfl rfl ?_
  refine Tr.lald (pc := 278) d_X12_never_278 (ty_190 hF) (by decide) (by decide) ?_
  refine Tr.tp 1 (rd_ws _ _ _ _) ?_
  refine Tr.iload (pc := 279) (i := 4) d_X12_never_279 rfl ?_
  refine Tr.lshr (pc := 281) d_X12_never_281 ?_
  refine Tr.tp 0 (by decide) ?_
  refine Tr.lconst (pc := 282) (v := 1) d_X12_never_282 rfl (by decide) ?_
  refine Tr.land (pc := 283) d_X12_never_283 ?_
  refine Tr.tp 0 (by decide) ?_
  refine Tr.lconst (pc := 284) (v := 1) d_X12_never_284 rfl (by decide) ?_
  refine Tr.lcmp (pc := 285) d_X12_never_285 ?_
  refine Tr.tp (-1) rfl ?_
  refine Tr.if_ne (pc := 286) (tgt := 294) d_X12_never_286 rfl (fun _ => ?_) (fun hc => absurd hc (by decide))
  refine Tr.iinc (pc := 294) (ls2 := [(4, (0, 46)), (3, (0, 0)), (2, (0, 0)), (1, (0, 0)), (0, (2, 120))]) d_X12_never_294 rfl (by decide) rfl ?_
  refine Tr.goto (pc := 297) (tgt := 266) d_X12_never_297 rfl ?_
  refine Tr.iload (pc := 266) (i := 4) d_X12_never_266 rfl ?_
  refine Tr.bipush (pc := 268) d_X12_never_268 rfl (by decide) ?_
  refine Tr.icmp_ge (pc := 270) (tgt := 300) d_X12_never_270 rfl (fun hc => absurd hc (by decide)) (fun _ => ?_)
  refine Tr.aload_n (pc := 273) (i := 0) d_X12_never_273 rfl rfl ?_
  refine Tr.getf (pc := 274) d_X12_never_274 f_12_375 (by decide) (by decide) (ty_120 hF) ?_
  refine Tr.tp 190 (fx_120_120 hF) ?_
  refine Tr.iload_n (pc := 277) (i := 1) d_X12_never_277 rfl rfl ?_
  refine Tr.lald (pc := 278) d_X12_never_278 (ty_190 hF) (by decide) (by decide) ?_
  refine Tr.tp 1 (rd_ws _ _ _ _) ?_
  refine Tr.iload (pc := 279) (i := 4) d_X12_never_279 rfl ?_
  refine Tr.lshr (pc := 281) d_X12_never_281 ?_
  refine Tr.tp 0 (by decide) ?_
  refine Tr.lconst (pc := 282) (v := 1) d_X12_never_282 rfl (by decide) ?_
  refine Tr.land (pc := 283) d_X12_never_283 ?_
  refine Tr.tp 0 (by decide) ?_
  refine Tr.lconst (pc := 284) (v := 1) d_X12_never_284 rfl (by decide) ?_
  refine Tr.lcmp (pc := 285) d_X12_never_285 ?_
  refine Tr.tp (-1) rfl ?_
  refine Tr.if_ne (pc := 286) (tgt := 294) d_X12_never_286 rfl (fun _ => ?_) (fun hc => absurd hc (by decide))
  refine Tr.iinc (pc := 294) (ls2 := [(4, (0, 47)), (3, (0, 0)), (2, (0, 0)), (1, (0, 0)), (0, (2, 120))]) d_X12_never_294 rfl (by decide) rfl ?_
  refine Tr.goto (pc := 297) (tgt := 266) d_X12_never_297 rfl ?_
  refine Tr.iload (pc := 266) (i := 4) d_X12_never_266 rfl ?_
  refine Tr.bipush (pc := 268) d_X12_never_268 rfl (by decide) ?_
  refine Tr.icmp_ge (pc := 270) (tgt := 300) d_X12_never_270 rfl (fun hc => absurd hc (by decide)) (fun _ => ?_)
  refine Tr.aload_n (pc := 273) (i := 0) d_X12_never_273 rfl rfl ?_
  refine Tr.getf (pc := 274) d_X12_never_274 f_12_375 (by decide) (by decide) (ty_120 hF) ?_
  refine Tr.tp 190 (fx_120_120 hF) ?_
  refine Tr.iload_n (pc := 277) (i := 1) d_X12_never_277 rfl rfl ?_
  refine Tr.lald (pc := 278) d_X12_never_278 (ty_190 hF) (by decide) (by decide) ?_
  refine Tr.tp 1 (rd_ws _ _ _ _) ?_
  refine Tr.iload (pc := 279) (i := 4) d_X12_never_279 rfl ?_
  refine Tr.lshr (pc := 281) d_X12_never_281 ?_
  refine Tr.tp 0 (by decide) ?_
  refine Tr.lconst (pc := 282) (v := 1) d_X12_never_282 rfl (by decide) ?_
  refine Tr.land (pc := 283) d_X12_never_283 ?_
  refine Tr.tp 0 (by decide) ?_
  refine Tr.lconst (pc := 284) (v := 1) d_X12_never_284 rfl (by decide) ?_
  refine Tr.lcmp (pc := 285) d_X12_never_285 ?_
  refine Tr.tp (-1) rfl ?_
  refine Tr.if_ne (pc := 286) (tgt := 294) d_X12_never_286 rfl (fun _ => ?_) (fun hc => absurd hc (by decide))
  refine Tr.iinc (pc := 294) (ls2 := [(4, (0, 48)), (3, (0, 0)), (2, (0, 0)), (1, (0, 0)), (0, (2, 120))]) d_X12_never_294 rfl (by decide) rfl ?_
  refine Tr.goto (pc := 297) (tgt := 266) d_X12_never_297 rfl ?_
  refine Tr.iload (pc := 266) (i := 4) d_X12_never_266 rfl ?_
  refine Tr.bipush (pc := 268) d_X12_never_268 rfl (by decide) ?_
  refine Tr.icmp_ge (pc := 270) (tgt := 300) d_X12_never_270 rfl (fun hc => absurd hc (by decide)) (fun _ => ?_)
  refine Tr.aload_n (pc := 273) (i := 0) d_X12_never_273 rfl rfl ?_
  refine Tr.getf (pc := 274) d_X12_never_274 f_12_375 (by decide) (by decide) (ty_120 hF) ?_
  refine Tr.tp 190 (fx_120_120 hF) ?_
  refine Tr.iload_n (pc := 277) (i := 1) d_X12_never_277 rfl rfl ?_
  refine Tr.lald (pc := 278) d_X12_never_278 (ty_190 hF) (by decide) (by decide) ?_
  refine Tr.tp 1 (rd_ws _ _ _ _) ?_
  refine Tr.iload (pc := 279) (i := 4) d_X12_never_279 rfl ?_
  refine Tr.lshr (pc := 281) d_X12_never_281 ?_
  refine Tr.tp 0 (by decide) ?_
  refine Tr.lconst (pc := 282) (v := 1) d_X12_never_282 rfl (by decide) ?_
  refine Tr.land (pc := 283) d_X12_never_283 ?_
  refine Tr.tp 0 (by decide) ?_
  refine Tr.lconst (pc := 284) (v := 1) d_X12_never_284 rfl (by decide) ?_
  refine Tr.lcmp (pc := 285) d_X12_never_285 ?_
  refine Tr.tp (-1) rfl ?_
  refine Tr.if_ne (pc := 286) (tgt := 294) d_X12_never_286 rfl (fun _ => ?_) (fun hc => absurd hc (by decide))
  refine Tr.iinc (pc := 294) (ls2 := [(4, (0, 49)), (3, (0, 0)), (2, (0, 0)), (1, (0, 0)), (0, (2, 120))]) d_X12_never_294 rfl (by decide) rfl ?_
  refine Tr.goto (pc := 297) (tgt := 266) d_X12_never_297 rfl ?_
  refine Tr.iload (pc := 266) (i := 4) d_X12_never_266 rfl ?_
  refine Tr.bipush (pc := 268) d_X12_never_268 rfl (by decide) ?_
  refine Tr.icmp_ge (pc := 270) (tgt := 300) d_X12_never_270 rfl (fun hc => absurd hc (by decide)) (fun _ => ?_)
  refine Tr.aload_n (pc := 273) (i := 0) d_X12_never_273 rfl rfl ?_
  refine Tr.getf (pc := 274) d_X12_never_274 f_12_375 (by decide) (by decide) (ty_120 hF) ?_
  refine Tr.tp 190 (fx_120_120 hF) ?_
  refine Tr.iload_n (pc := 277) (i := 1) d_X12_never_277 rfl rfl ?_
  refine Tr.lald (pc := 278) d_X12_never_278 (ty_190 hF) (by decide) (by decide) ?_
  refine Tr.tp 1 (rd_ws _ _ _ _) ?_
  refine Tr.iload (pc := 279) (i := 4) d_X12_never_279 rfl ?_
  refine Tr.lshr (pc := 281) d_X12_never_281 ?_
  refine Tr.tp 0 (by decide) ?_
  refine Tr.lconst (pc := 282) (v := 1) d_X12_never_282 rfl (by decide) ?_
  refine Tr.land (pc := 283) d_X12_never_283 ?_
  refine Tr.tp 0 (by decide) ?_
  refine Tr.lconst (pc := 284) (v := 1) d_X12_never_284 rfl (by decide) ?_
  refine Tr.lcmp (pc := 285) d_X12_never_285 ?_
  refine Tr.tp (-1) rfl ?_
  refine Tr.if_ne (pc := 286) (tgt := 294) d_X12_never_286 rfl (fun _ => ?_) (fun hc => absurd hc (by decide))
  refine Tr.iinc (pc := 294) (ls2 := [(4, (0, 50)), (3, (0, 0)), (2, (0, 0)), (1, (0, 0)), (0, (2, 120))]) d_X12_never_294 rfl (by decide) rfl ?_
  refine Tr.goto (pc := 297) (tgt := 266) d_X12_never_297 rfl ?_
  refine Tr.iload (pc := 266) (i := 4) d_X12_never_266 rfl ?_
  refine Tr.bipush (pc := 268) d_X12_never_268 rfl (by decide) ?_
  refine Tr.icmp_ge (pc := 270) (tgt := 300) d_X12_never_270 rfl (fun hc => absurd hc (by decide)) (fun _ => ?_)
  refine Tr.aload_n (pc := 273) (i := 0) d_X12_never_273 rfl rfl ?_
  refine Tr.getf (pc := 274) d_X12_never_274 f_12_375 (by decide) (by decide) (ty_120 hF) ?_
  refine Tr.tp 190 (fx_120_120 hF) ?_
  refine Tr.iload_n (pc := 277) (i := 1) d_X12_never_277 rfl rfl ?_
  refine Tr.lald (pc := 278) d_X12_never_278 (ty_190 hF) (by decide) (by decide) ?_
  refine Tr.tp 1 (rd_ws _ _ _ _) ?_
  refine Tr.iload (pc := 279) (i := 4) d_X12_never_279 rfl ?_
  refine Tr.lshr (pc := 281) d_X12_never_281 ?_
  refine Tr.tp 0 (by decide) ?_
  refine Tr.lconst (pc := 282) (v := 1) d_X12_never_282 rfl (by decide) ?_
  refine Tr.land (pc := 283) d_X12_never_283 ?_
  refine Tr.tp 0 (by decide) ?_
  refine Tr.lconst (pc := 284) (v := 1) d_X12_never_284 rfl (by decide) ?_
  refine Tr.lcmp (pc := 285) d_X12_never_285 ?_
  refine Tr.tp (-1) rfl ?_
  refine Tr.if_ne (pc := 286) (tgt := 294) d_X12_never_286 rfl (fun _ => ?_) (fun hc => absurd hc (by decide))
  refine Tr.iinc (pc := 294) (ls2 := [(4, (0, 51)), (3, (0, 0)), (2, (0, 0)), (1, (0, 0)), (0, (2, 120))]) d_X12_never_294 rfl (by decide) rfl ?_
  refine Tr.goto (pc := 297) (tgt := 266) d_X12_never_297 rfl ?_
  refine Tr.iload (pc := 266) (i := 4) d_X12_never_266 rfl ?_
  refine Tr.bipush (pc := 268) d_X12_never_268 rfl (by decide) ?_
  refine Tr.icmp_ge (pc := 270) (tgt := 300) d_X12_never_270 rfl (fun hc => absurd hc (by decide)) (fun _ => ?_)
  refine Tr.aload_n (pc := 273) (i := 0) d_X12_never_273 rfl rfl ?_
  refine Tr.getf (pc := 274) d_X12_never_274 f_12_375 (by decide) (by decide) (ty_120 hF) ?_
  refine Tr.tp 190 (fx_120_120 hF) ?_
  refine Tr.iload_n (pc := 277) (i := 1) d_X12_never_277 rfl rfl ?_
  refine Tr.lald (pc := 278) d_X12_never_278 (ty_190 hF) (by decide) (by decide) ?_
  refine Tr.tp 1 (rd_ws _ _ _ _) ?_
  refine Tr.iload (pc := 279) (i := 4) d_X12_never_279 rfl ?_
  refine Tr.lshr (pc := 281) d_X12_never_281 ?_
  refine Tr.tp 0 (by decide) ?_
  refine Tr.lconst (pc := 282) (v := 1) d_X12_never_282 rfl (by decide) ?_
  refine Tr.land (pc := 283) d_X12_never_283 ?_
  refine Tr.tp 0 (by decide) ?_
  refine Tr.lconst (pc := 284) (v := 1) d_X12_never_284 rfl (by decide) ?_
  refine Tr.lcmp (pc := 285) d_X12_never_285 ?_
  refine Tr.tp (-1) rfl ?_
  refine Tr.if_ne (pc := 286) (tgt := 294) d_X12_never_286 rfl (fun _ => ?_) (fun hc => absurd hc (by decide))
  refine Tr.iinc (pc := 294) (ls2 := [(4, (0, 52)), (3, (0, 0)), (2, (0, 0)), (1, (0, 0)), (0, (2, 120))]) d_X12_never_294 rfl (by decide) rfl ?_
  refine Tr.goto (pc := 297) (tgt := 266) d_X12_never_297 rfl ?_
  refine Tr.iload (pc := 266) (i := 4) d_X12_never_266 rfl ?_
  refine Tr.bipush (pc := 268) d_X12_never_268 rfl (by decide) ?_
  refine Tr.icmp_ge (pc := 270) (tgt := 300) d_X12_never_270 rfl (fun hc => absurd hc (by decide)) (fun _ => ?_)
  refine Tr.aload_n (pc := 273) (i := 0) d_X12_never_273 rfl rfl ?_
  refine Tr.getf (pc := 274) d_X12_never_274 f_12_375 (by decide) (by decide) (ty_120 hF) ?_
  refine Tr.tp 190 (fx_120_120 hF) ?_
  refine Tr.iload_n (pc := 277) (i := 1) d_X12_never_277 rfl rfl ?_
  refine Tr.lald (pc := 278) d_X12_never_278 (ty_190 hF) (by decide) (by decide) ?_
  refine Tr.tp 1 (rd_ws _ _ _ _) ?_
  refine Tr.iload (pc := 279) (i := 4) d_X12_never_279 rfl ?_
  refine Tr.lshr (pc := 281) d_X12_never_281 ?_
  refine Tr.tp 0 (by decide) ?_
  refine Tr.lconst (pc := 282) (v := 1) d_X12_never_282 rfl (by decide) ?_
  refine Tr.land (pc := 283) d_X12_never_283 ?_
  refine Tr.tp 0 (by decide) ?_
  refine Tr.lconst (pc := 284) (v := 1) d_X12_never_284 rfl (by decide) ?_
  refine Tr.lcmp (pc := 285) d_X12_never_285 ?_
  refine Tr.tp (-1) rfl ?_
  refine Tr.if_ne (pc := 286) (tgt := 294) d_X12_never_286 rfl (fun _ => ?_) (fun hc => absurd hc (by decide))
  refine Tr.iinc (pc := 294) (ls2 := [(4, (0, 53)), (3, (0, 0)), (2, (0, 0)), (1, (0, 0)), (0, (2, 120))]) d_X12_never_294 rfl (by decide) rfl ?_
  refine Tr.goto (pc := 297) (tgt := 266) d_X12_never_297 rfl ?_
  refine Tr.iload (pc := 266) (i := 4) d_X12_never_266 rfl ?_
  refine Tr.bipush (pc := 268) d_X12_never_268 rfl (by decide) ?_
  refine Tr.icmp_ge (pc := 270) (tgt := 300) d_X12_never_270 rfl (fun hc => absurd hc (by decide)) (fun _ => ?_)
  refine Tr.aload_n (pc := 273) (i := 0) d_X12_never_273 rfl rfl ?_
  refine Tr.getf (pc := 274) d_X12_never_274 f_12_375 (by decide) (by decide) (ty_120 hF) ?_
  refine Tr.tp 190 (fx_120_120 hF) ?_
  refine Tr.iload_n (pc := 277) (i := 1) d_X12_never_277 rfl rfl ?_
  refine Tr.lald (pc := 278) d_X12_never_278 (ty_190 hF) (by decide) (by decide) ?_
  refine Tr.tp 1 (rd_ws _ _ _ _) ?_
  refine Tr.iload (pc := 279) (i := 4) d_X12_never_279 rfl ?_
  refine Tr.lshr (pc := 281) d_X12_never_281 ?_
  refine Tr.tp 0 (by decide) ?_
  refine Tr.lconst (pc := 282) (v := 1) d_X12_never_282 rfl (by decide) ?_
  refine Tr.land (pc := 283) d_X12_never_283 ?_
  refine Tr.tp 0 (by decide) ?_
  refine Tr.lconst (pc := 284) (v := 1) d_X12_never_284 rfl (by decide) ?_
  refine Tr.lcmp (pc := 285) d_X12_never_285 ?_
  refine Tr.tp (-1) rfl ?_
  refine Tr.if_ne (pc := 286) (tgt := 294) d_X12_never_286 rfl (fun _ => ?_) (fun hc => absurd hc (by decide))
  refine Tr.iinc (pc := 294) (ls2 := [(4, (0, 54)), (3, (0, 0)), (2, (0, 0)), (1, (0, 0)), (0, (2, 120))]) d_X12_never_294 rfl (by decide) rfl ?_
  refine Tr.goto (pc := 297) (tgt := 266) d_X12_never_297 rfl ?_
  refine Tr.iload (pc := 266) (i := 4) d_X12_never_266 rfl ?_
  refine Tr.bipush (pc := 268) d_X12_never_268 rfl (by decide) ?_
  refine Tr.icmp_ge (pc := 270) (tgt := 300) d_X12_never_270 rfl (fun hc => absurd hc (by decide)) (fun _ => ?_)
  refine Tr.aload_n (pc := 273) (i := 0) d_X12_never_273 rfl rfl ?_
  refine Tr.getf (pc := 274) d_X12_never_274 f_12_375 (by decide) (by decide) (ty_120 hF) ?_
  refine Tr.tp 190 (fx_120_120 hF) ?_
  refine Tr.iload_n (pc := 277) (i := 1) d_X12_never_277 rfl rfl ?_
  refine Tr.lald (pc := 278) d_X12_never_278 (ty_190 hF) (by decide) (by decide) ?_
  refine Tr.tp 1 (rd_ws _ _ _ _) ?_
  refine Tr.iload (pc := 279) (i := 4) d_X12_never_279 rfl ?_
  refine Tr.lshr (pc := 281) d_X12_never_281 ?_
  refine Tr.tp 0 (by decide) ?_
  refine Tr.lconst (pc := 282) (v := 1) d_X12_never_282 rfl (by decide) ?_
  refine Tr.land (pc := 283) d_X12_never_283 ?_
  refine Tr.tp 0 (by decide) ?_
  refine Tr.lconst (pc := 284) (v := 1) d_X12_never_284 rfl (by decide) ?_
  refine Tr.lcmp (pc := 285) d_X12_never_285 ?_
  refine Tr.tp (-1) rfl ?_
  refine Tr.if_ne (pc := 286) (tgt := 294) d_X12_never_286 rfl (fun _ => ?_) (fun hc => absurd hc (by decide))
  refine Tr.iinc (pc := 294) (ls2 := [(4, (0, 55)), (3, (0, 0)), (2, (0, 0)), (1, (0, 0)), (0, (2, 120))]) d_X12_never_294 rfl (by decide) rfl ?_
  refine Tr.goto (pc := 297) (tgt := 266) d_X12_never_297 rfl ?_
  refine Tr.iload (pc := 266) (i := 4) d_X12_never_266 rfl ?_
  refine Tr.bipush (pc := 268) d_X12_never_268 rfl (by decide) ?_
  refine Tr.icmp_ge (pc := 270) (tgt := 300) d_X12_never_270 rfl (fun hc => absurd hc (by decide)) (fun _ => ?_)
  refine Tr.aload_n (pc := 273) (i := 0) d_X12_never_273 rfl rfl ?_
  refine Tr.getf (pc := 274) d_X12_never_274 f_12_375 (by decide) (by decide) (ty_120 hF) ?_
  refine Tr.tp 190 (fx_120_120 hF) ?_
  refine Tr.iload_n (pc := 277) (i := 1) d_X12_never_277 rfl rfl ?_
  refine Tr.lald (pc := 278) d_X12_never_278 (ty_190 hF) (by decide) (by decide) ?_
  refine Tr.tp 1 (rd_ws _ _ _ _) ?_
  refine Tr.iload (pc := 279) (i := 4) d_X12_never_279 rfl ?_
  refine Tr.lshr (pc := 281) d_X12_never_281 ?_
  refine Tr.tp 0 (by decide) ?_
  refine Tr.lconst (pc := 282) (v := 1) d_X12_never_282 rfl (by decide) ?_
  refine Tr.land (pc := 283) d_X12_never_283 ?_
  refine Tr.tp 0 (by decide) ?_
  refine Tr.lconst (pc := 284) (v := 1) d_X12_never_284 rfl (by decide) ?_
  refine Tr.lcmp (pc := 285) d_X12_never_285 ?_
  refine Tr.tp (-1) rfl ?_
  refine Tr.if_ne (pc := 286) (tgt := 294) d_X12_never_286 rfl (fun _ => ?_) (fun hc => absurd hc (by decide))
  refine Tr.iinc (pc := 294) (ls2 := [(4, (0, 56)), (3, (0, 0)), (2, (0, 0)), (1, (0, 0)), (0, (2, 120))]) d_X12_never_294 rfl (by decide) rfl ?_
  refine Tr.goto (pc := 297) (tgt := 266) d_X12_never_297 rfl ?_
  refine Tr.iload (pc := 266) (i := 4) d_X12_never_266 rfl ?_
  refine Tr.bipush (pc := 268) d_X12_never_268 rfl (by decide) ?_
  refine Tr.icmp_ge (pc := 270) (tgt := 300) d_X12_never_270 rfl (fun hc => absurd hc (by decide)) (fun _ => ?_)
  refine Tr.aload_n (pc := 273) (i := 0) d_X12_never_273 rfl rfl ?_
  refine Tr.getf (pc := 274) d_X12_never_274 f_12_375 (by decide) (by decide) (ty_120 hF) ?_
  refine Tr.tp 190 (fx_120_120 hF) ?_
  refine Tr.iload_n (pc := 277) (i := 1) d_X12_never_277 rfl rfl ?_
  refine Tr.lald (pc := 278) d_X12_never_278 (ty_190 hF) (by decide) (by decide) ?_
  refine Tr.tp 1 (rd_ws _ _ _ _) ?_
  refine Tr.iload (pc := 279) (i := 4) d_X12_never_279 rfl ?_
  refine Tr.lshr (pc := 281) d_X12_never_281 ?_
  refine Tr.tp 0 (by decide) ?_
  refine Tr.lconst (pc := 282) (v := 1) d_X12_never_282 rfl (by decide) ?_
  refine Tr.land (pc := 283) d_X12_never_283 ?_
  refine Tr.tp 0 (by decide) ?_
  refine Tr.lconst (pc := 284) (v := 1) d_X12_never_284 rfl (by decide) ?_
  refine Tr.lcmp (pc := 285) d_X12_never_285 ?_
  refine Tr.tp (-1) rfl ?_
  refine Tr.if_ne (pc := 286) (tgt := 294) d_X12_never_286 rfl (fun _ => ?_) (fun hc => absurd hc (by decide))
  refine Tr.iinc (pc := 294) (ls2 := [(4, (0, 57)), (3, (0, 0)), (2, (0, 0)), (1, (0, 0)), (0, (2, 120))]) d_X12_never_294 rfl (by decide) rfl ?_
  refine Tr.goto (pc := 297) (tgt := 266) d_X12_never_297 rfl ?_
  refine Tr.iload (pc := 266) (i := 4) d_X12_never_266 rfl ?_
  refine Tr.bipush (pc := 268) d_X12_never_268 rfl (by decide) ?_
  refine Tr.icmp_ge (pc := 270) (tgt := 300) d_X12_never_270 rfl (fun hc => absurd hc (by decide)) (fun _ => ?_)
  refine Tr.aload_n (pc := 273) (i := 0) d_X12_never_273 rfl rfl ?_
  refine Tr.getf (pc := 274) d_X12_never_274 f_12_375 (by decide) (by decide) (ty_120 hF) ?_
  refine Tr.tp 190 (fx_120_120 hF) ?_
  refine Tr.iload_n (pc := 277) (i := 1) d_X12_never_277 rfl rfl ?_
  refine Tr.lald (pc := 278) d_X12_never_278 (ty_190 hF) (by decide) (by decide) ?_
  refine Tr.tp 1 (rd_ws _ _ _ _) ?_
  refine Tr.iload (pc := 279) (i := 4) d_X12_never_279 rfl ?_
  refine Tr.lshr (pc := 281) d_X12_never_281 ?_
  refine Tr.tp 0 (by decide) ?_
  refine Tr.lconst (pc := 282) (v := 1) d_X12_never_282 rfl (by decide) ?_
  refine Tr.land (pc := 283) d_X12_never_283 ?_
  refine Tr.tp 0 (by decide) ?_
  refine Tr.lconst (pc := 284) (v := 1) d_X12_never_284 rfl (by decide) ?_
  refine Tr.lcmp (pc := 285) d_X12_never_285 ?_
  refine Tr.tp (-1) rfl ?_
  refine Tr.if_ne (pc := 286) (tgt := 294) d_X12_never_286 rfl (fun _ => ?_) (fun hc => absurd hc (by decide))
  refine Tr.iinc (pc := 294) (ls2 := [(4, (0, 58)), (3, (0, 0)), (2, (0, 0)), (1, (0, 0)), (0, (2, 120))]) d_X12_never_294 rfl (by decide) rfl ?_
  refine Tr.goto (pc := 297) (tgt := 266) d_X12_never_297 rfl ?_
  refine Tr.iload (pc := 266) (i := 4) d_X12_never_266 rfl ?_
  refine Tr.bipush (pc := 268) d_X12_never_268 rfl (by decide) ?_
  refine Tr.icmp_ge (pc := 270) (tgt := 300) d_X12_never_270 rfl (fun hc => absurd hc (by decide)) (fun _ => ?_)
  refine Tr.aload_n (pc := 273) (i := 0) d_X12_never_273 rfl rfl ?_
  refine Tr.getf (pc := 274) d_X12_never_274 f_12_375 (by decide) (by decide) (ty_120 hF) ?_
  refine Tr.tp 190 (fx_120_120 hF) ?_
  refine Tr.iload_n (pc := 277) (i := 1) d_X12_never_277 rfl rfl ?_
  refine Tr.lald (pc := 278) d_X12_never_278 (ty_190 hF) (by decide) (by decide) ?_
  refine Tr.tp 1 (rd_ws _ _ _ _) ?_
  refine Tr.iload (pc := 279) (i := 4) d_X12_never_279 rfl ?_
  refine Tr.lshr (pc := 281) d_X12_never_281 ?_
  refine Tr.tp 0 (by decide) ?_
  refine Tr.lconst (pc := 282) (v := 1) d_X12_never_282 rfl (by decide) ?_
  refine Tr.land (pc := 283) d_X12_never_283 ?_
  refine Tr.tp 0 (by decide) ?_
  refine Tr.lconst (pc := 284) (v := 1) d_X12_never_284 rfl (by decide) ?_
  refine Tr.lcmp (pc := 285) d_X12_never_285 ?_
  refine Tr.tp (-1) rfl ?_
  refine Tr.if_ne (pc := 286) (tgt := 294) d_X12_never_286 rfl (fun _ => ?_) (fun hc => absurd hc (by decide))
  refine Tr.iinc (pc := 294) (ls2 := [(4, (0, 59)), (3, (0, 0)), (2, (0, 0)), (1, (0, 0)), (0, (2, 120))]) d_X12_never_294 rfl (by decide) rfl ?_
  refine Tr.goto (pc := 297) (tgt := 266) d_X12_never_297 rfl ?_
  refine Tr.iload (pc := 266) (i := 4) d_X12_never_266 rfl ?_
  refine Tr.bipush (pc := 268) d_X12_never_268 rfl (by decide) ?_
  refine Tr.icmp_ge (pc := 270) (tgt := 300) d_X12_never_270 rfl (fun hc => absurd hc (by decide)) (fun _ => ?_)
  refine Tr.aload_n (pc := 273) (i := 0) d_X12_never_273 rfl rfl ?_
  refine Tr.getf (pc := 274) d_X12_never_274 f_12_375 (by decide) (by decide) (ty_120 hF) ?_
  refine Tr.tp 190 (fx_120_120 hF) ?_
  refine Tr.iload_n (pc := 277) (i := 1) d_X12_never_277 rfl rfl ?_
  refine Tr.lald (pc := 278) d_X12_never_278 (ty_190 hF) (by decide) (by decide) ?_
  refine Tr.tp 1 (rd_ws _ _ _ _) ?_
  refine Tr.iload (pc := 279) (i := 4) d_X12_never_279 rfl ?_
  refine Tr.lshr (pc := 281) d_X12_never_281 ?_
  refine Tr.tp 0 (by decide) ?_
  refine Tr.lconst (pc := 282) (v := 1) d_X12_never_282 rfl (by decide) ?_
  refine Tr.land (pc := 283) d_X12_never_283 ?_
  refine Tr.tp 0 (by decide) ?_
  refine Tr.lconst (pc := 284) (v := 1) d_X12_never_284 rfl (by decide) ?_
  refine Tr.lcmp (pc := 285) d_X12_never_285 ?_
  refine Tr.tp (-1) rfl ?_
  refine Tr.if_ne (pc := 286) (tgt := 294) d_X12_never_286 rfl (fun _ => ?_) (fun hc => absurd hc (by decide))
  refine Tr.iinc (pc := 294) (ls2 := [(4, (0, 60)), (3, (0, 0)), (2, (0, 0)), (1, (0, 0)), (0, (2, 120))]) d_X12_never_294 rfl (by decide) rfl ?_
  refine Tr.goto (pc := 297) (tgt := 266) d_X12_never_297 rfl ?_
  refine Tr.iload (pc := 266) (i := 4) d_X12_never_266 rfl ?_
  refine Tr.bipush (pc := 268) d_X12_never_268 rfl (by decide) ?_
  refine Tr.icmp_ge (pc := 270) (tgt := 300) d_X12_never_270 rfl (fun hc => absurd hc (by decide)) (fun _ => ?_)
  refine Tr.aload_n (pc := 273) (i := 0) d_X12_never_273 rfl rfl ?_
  refine Tr.getf (pc := 274) d_X12_never_274 f_12_375 (by decide) (by decide) (ty_120 hF) ?_
  refine Tr.tp 190 (fx_120_120 hF) ?_
  refine Tr.iload_n (pc := 277) (i := 1) d_X12_never_277 rfl rfl ?_
  refine Tr.lald (pc := 278) d_X12_never_278 (ty_190 hF) (by decide) (by decide) ?_
  refine Tr.tp 1 (rd_ws _ _ _ _) ?_
  refine Tr.iload (pc := 279) (i := 4) d_X12_never_279 rfl ?_
  refine Tr.lshr (pc := 281) d_X12_never_281 ?_
  refine Tr.tp 0 (by decide) ?_
  refine Tr.lconst (pc := 282) (v := 1) d_X12_never_282 rfl (by decide) ?_
  refine Tr.land (pc := 283) d_X12_never_283 ?_
  refine Tr.tp 0 (by decide) ?_
  refine Tr.lconst (pc := 284) (v := 1) d_X12_never_284 rfl (by decide) ?_
  refine Tr.lcmp (pc := 285) d_X12_never_285 ?_
  refine Tr.tp (-1) rfl ?_
  refine Tr.if_ne (pc := 286) (tgt := 294) d_X12_never_286 rfl (fun _ => ?_) (fun hc => absurd hc (by decide))
  refine Tr.iinc (pc := 294) (ls2 := [(4, (0, 61)), (3, (0, 0)), (2, (0, 0)), (1, (0, 0)), (0, (2, 120))]) d_X12_never_294 rfl (by decide) rfl ?_
  refine Tr.goto (pc := 297) (tgt := 266) d_X12_never_297 rfl ?_
  refine Tr.iload (pc := 266) (i := 4) d_X12_never_266 rfl ?_
  refine Tr.bipush (pc := 268) d_X12_never_268 rfl (by decide) ?_
  refine Tr.icmp_ge (pc := 270) (tgt := 300) d_X12_never_270 rfl (fun hc => absurd hc (by decide)) (fun _ => ?_)
  refine Tr.aload_n (pc := 273) (i := 0) d_X12_never_273 rfl rfl ?_
  refine Tr.getf (pc := 274) d_X12_never_274 f_12_375 (by decide) (by decide) (ty_120 hF) ?_
  refine Tr.tp 190 (fx_120_120 hF) ?_
  refine Tr.iload_n (pc := 277) (i := 1) d_X12_never_277 rfl rfl ?_
  refine Tr.lald (pc := 278) d_X12_never_278 (ty_190 hF) (by decide) (by decide) ?_
  refine Tr.tp 1 (rd_ws _ _ _ _) ?_
  refine Tr.iload (pc := 279) (i := 4) d_X12_never_279 rfl ?_
  refine Tr.lshr (pc := 281) d_X12_never_281 ?_
  refine Tr.tp 0 (by decide) ?_
  refine Tr.lconst (pc := 282) (v := 1) d_X12_never_282 rfl (by decide) ?_
  refine Tr.land (pc := 283) d_X12_never_283 ?_
  refine Tr.tp 0 (by decide) ?_
  refine Tr.lconst (pc := 284) (v := 1) d_X12_never_284 rfl (by decide) ?_
  refine Tr.lcmp (pc := 285) d_X12_never_285 ?_
  refine Tr.tp (-1) rfl ?_
  refine Tr.if_ne (pc := 286) (tgt := 294) d_X12_never_286 rfl (fun _ => ?_) (fun hc => absurd hc (by decide))
  refine Tr.iinc (pc := 294) (ls2 := [(4, (0, 62)), (3, (0, 0)), (2, (0, 0)), (1, (0, 0)), (0, (2, 120))]) d_X12_never_294 rfl (by decide) rfl ?_
  refine Tr.goto (pc := 297) (tgt := 266) d_X12_never_297 rfl ?_
  refine Tr.iload (pc := 266) (i := 4) d_X12_never_266 rfl ?_
  refine Tr.bipush (pc := 268) d_X12_never_268 rfl (by decide) ?_
  refine Tr.icmp_ge (pc := 270) (tgt := 300) d_X12_never_270 rfl (fun hc => absurd hc (by decide)) (fun _ => ?_)
  refine Tr.aload_n (pc := 273) (i := 0) d_X12_never_273 rfl rfl ?_
  refine Tr.getf (pc := 274) d_X12_never_274 f_12_375 (by decide) (by decide) (ty_120 hF) ?_
  refine Tr.tp 190 (fx_120_120 hF) ?_
  refine Tr.iload_n (pc := 277) (i := 1) d_X12_never_277 rfl rfl ?_
  refine Tr.lald (pc := 278) d_X12_never_278 (ty_190 hF) (by decide) (by decide) ?_
  refine Tr.tp 1 (rd_ws _ _ _ _) ?_
  refine Tr.iload (pc := 279) (i := 4) d_X12_never_279 rfl ?_
  refine Tr.lshr (pc := 281) d_X12_never_281 ?_
  refine Tr.tp 0 (by decide) ?_
  refine Tr.lconst (pc := 282) (v := 1) d_X12_never_282 rfl (by decide) ?_
  refine Tr.land (pc := 283) d_X12_never_283 ?_
  refine Tr.tp 0 (by decide) ?_
  refine Tr.lconst (pc := 284) (v := 1) d_X12_never_284 rfl (by decide) ?_
  refine Tr.lcmp (pc := 285) d_X12_never_285 ?_
  refine Tr.tp (-1) rfl ?_
  refine Tr.if_ne (pc := 286) (tgt := 294) d_X12_never_286 rfl (fun _ => ?_) (fun hc => absurd hc (by decide))
  refine Tr.iinc (pc := 294) (ls2 := [(4, (0, 63)), (3, (0, 0)), (2, (0, 0)), (1, (0, 0)), (0, (2, 120))]) d_X12_never_294 rfl (by decide) rfl ?_
  refine Tr.goto (pc := 297) (tgt := 266) d_X12_never_297 rfl ?_
  refine Tr.iload (pc := 266) (i := 4) d_X12_never_266 rfl ?_
  refine Tr.bipush (pc := 268) d_X12_never_268 rfl (by decide) ?_
  refine Tr.icmp_ge (pc := 270) (tgt := 300) d_X12_never_270 rfl (fun hc => absurd hc (by decide)) (fun _ => ?_)
  refine Tr.aload_n (pc := 273) (i := 0) d_X12_never_273 rfl rfl ?_
  refine Tr.getf (pc := 274) d_X12_never_274 f_12_375 (by decide) (by decide) (ty_120 hF) ?_
  refine Tr.tp 190 (fx_120_120 hF) ?_
  refine Tr.iload_n (pc := 277) (i := 1) d_X12_never_277 rfl rfl ?_
  refine Tr.lald (pc := 278) d_X12_never_278 (ty_190 hF) (by decide) (by decide) ?_
  refine Tr.tp 1 (rd_ws _ _ _ _) ?_
  refine Tr.iload (pc := 279) (i := 4) d_X12_never_279 rfl ?_
  refine Tr.lshr (pc := 281) d_X12_never_281 ?_
  refine Tr.tp 0 (by decide) ?_
  refine Tr.lconst (pc := 282) (v := 1) d_X12_never_282 rfl (by decide) ?_
  refine Tr.land (pc := 283) d_X12_never_283 ?_
  refine Tr.tp 0 (by decide) ?_
  refine Tr.lconst (pc := 284) (v := 1) d_X12_never_284 rfl (by decide) ?_
  refine Tr.lcmp (pc := 285) d_X12_never_285 ?_
  refine Tr.tp (-1) rfl ?_
  refine Tr.if_ne (pc := 286) (tgt := 294) d_X12_never_286 rfl (fun _ => ?_) (fun hc => absurd hc (by decide))
  refine Tr.iinc (pc := 294) (ls2 := [(4, (0, 64)), (3, (0, 0)), (2, (0, 0)), (1, (0, 0)), (0, (2, 120))]) d_X12_never_294 rfl (by decide) rfl ?_
  refine Tr.goto (pc := 297) (tgt := 266) d_X12_never_297 rfl ?_
  refine Tr.iload (pc := 266) (i := 4) d_X12_never_266 rfl ?_
  refine Tr.bipush (pc := 268) d_X12_never_268 rfl (by decide) ?_
  refine Tr.icmp_ge (pc := 270) (tgt := 300) d_X12_never_270 rfl (fun _ => ?_) (fun hc => absurd (by decide) hc)
  refine Tr.iload_n (pc := 300) (i := 3) d_X12_never_300 rfl rfl ?_
  refine Tr.iret (pc := 301) d_X12_never_301 rfl ?_
  refine Tr.sc [_, _] rfl ?_
  refine Tr.icmp_eq (pc := 950) (tgt := 998) d_L_law_950 rfl (fun _ => ?_) (fun hc => absurd (by decide) hc)
  refine Tr.iinc (pc := 998) (ls2 := [(3, (0, 6)), (2, (2, 120)), (1, (2, 0)), (0, (2, (-2)))]) d_L_law_998 rfl (by decide) rfl ?_
  refine Tr.goto (pc := 1001) (tgt := 18) d_L_law_1001 rfl ?_
  refine Tr.iload_n (pc := 18) (i := 3) d_L_law_18 rfl rfl ?_
  refine Tr.aload_n (pc := 19) (i := 0) d_L_law_19 rfl rfl ?_
  refine Tr.xlen (pc := 20) (i := 0) d_L_law_20 rfl he (by decide) ?_
  refine Tr.tp 6 rfl ?_
  refine Tr.bipush (pc := 21) d_L_law_21 rfl (by decide) ?_
  refine Tr.isub (pc := 23) d_L_law_23 ?_
  refine Tr.tp 0 rfl ?_
  refine Tr.icmp_gt (pc := 24) (tgt := 1004) d_L_law_24 rfl (fun _ => ?_) (fun hc => absurd (by decide) hc)
  refine Tr.iconst (pc := 1004) d_L_law_1004 (by decide) ?_
  exact Tr.zret (pc := 1005) d_L_law_1005 rfl (by decide) ⟨rfl, Fx_room hF⟩
