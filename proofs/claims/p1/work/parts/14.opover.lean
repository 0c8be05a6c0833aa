/-! calls on a fresh pair -/
set_option maxRecDepth 100000 in
set_option maxHeartbeats 4000000 in
theorem op_over {l : Launch} {K : EC} {f : Int → Int} (he : e_ext K 0 6 f) (hr : ∀ j, -2147483648 ≤ f j ∧ f j ≤ 2147483647) : Tr l K 20 mL_law 709 [(3, (0, 0)), (2, (2, 120)), (1, (2, 0)), (0, (2, -2))] [] C_461 (fun M' r => r = some (0, 1) ∧ M'.1 ≤ 600000 ∧ M'.2.1 ≤ room_1.slots) := by
  obtain ⟨a1, g1⟩ : ∃ a, f 1 = a := ⟨_, rfl⟩
  have r1 := hr 1
  rw [g1] at r1
  obtain ⟨a2, g2⟩ : ∃ a, f 2 = a := ⟨_, rfl⟩
  have r2 := hr 2
  rw [g2] at r2
  obtain ⟨a3, g3⟩ : ∃ a, f 3 = a := ⟨_, rfl⟩
  have r3 := hr 3
  rw [g3] at r3
  obtain ⟨a4, g4⟩ : ∃ a, f 4 = a := ⟨_, rfl⟩
  have r4 := hr 4
  rw [g4] at r4
  obtain ⟨a5, g5⟩ : ∃ a, f 5 = a := ⟨_, rfl⟩
  have r5 := hr 5
  rw [g5] at r5
  have hF := Fx_0
  refine Tr.aload_n (pc := 709) (i := 1) d_L_law_709 rfl rfl ?_
  refine Tr.aload_n (pc := 710) (i := 0) d_L_law_710 rfl rfl ?_
  refine Tr.iload_n (pc := 711) (i := 3) d_L_law_711 rfl rfl ?_
  refine Tr.iconst (pc := 712) d_L_law_712 (by decide) ?_
  refine Tr.iadd (pc := 713) d_L_law_713 ?_
  refine Tr.tp 1 rfl ?_
  refine Tr.xld (pc := 714) (i := 0) d_L_law_714 rfl he (by decide) (by decide) ?_
  refine Tr.tp a1 g1 ?_
  refine Tr.if_eq (pc := 715) (tgt := 722) d_L_law_715 rfl (fun h1 => ?_) (fun h1 => ?_)
  · subst h1
    refine Tr.iconst (pc := 722) d_L_law_722 (by decide) ?_
    refine Tr.callV (pc := 723) (as := [_]) d_L_law_723 s_13_90 ok_X11_over rfl rfl (Nat.le_of_ble_eq_true rfl) (Nat.le_of_ble_eq_true rfl) (by decide) (ty_0 hF) ?_
    refine Tr.lc [(0, (2, 0)), (1, (0, 0))] rfl ?_
    refine Tr.aload_n (pc := 0) (i := 0) d_X11_over_0 rfl rfl ?_
    refine Tr.getf (pc := 1) d_X11_over_1 f_11_63 (by decide) (by decide) (ty_0 hF) ?_
    refine Tr.tp 103 (fx_0_11 hF) ?_
    refine Tr.aload_n (pc := 4) (i := 0) d_X11_over_4 rfl rfl ?_
    refine Tr.getf (pc := 5) d_X11_over_5 f_11_30 (by decide) (by decide) (ty_0 hF) ?_
    refine Tr.tp 7 (b_0_4) ?_
    refine Tr.callV (pc := 8) (as := [_]) d_X11_over_8 s_11_249 ok_X10_begin rfl rfl (Nat.le_of_ble_eq_true rfl) (Nat.le_of_ble_eq_true rfl) (by decide) (ty_103 hF) ?_
    refine Tr.lc [(0, (2, 103)), (1, (2, 7))] rfl ?_
    refine Tr.aload_n (pc := 0) (i := 1) d_X10_begin_0 rfl rfl ?_
    refine Tr.getf (pc := 1) d_X10_begin_1 f_10_33 (by decide) (by decide) (ty_7 hF) ?_
    refine Tr.tp 12 (fx_7_8 hF) ?_
    refine Tr.iconst (pc := 4) d_X10_begin_4 (by decide) ?_
    refine Tr.aload_n (pc := 5) (i := 0) d_X10_begin_5 rfl rfl ?_
    refine Tr.getf (pc := 6) d_X10_begin_6 f_10_9 (by decide) (by decide) (ty_103 hF) ?_
    refine Tr.tp 104 (fx_103_4 hF) ?_
    refine Tr.iconst (pc := 9) d_X10_begin_9 (by decide) ?_
    refine Tr.iconst (pc := 10) d_X10_begin_10 (by decide) ?_
    refine Tr.acopyX (pc := 11) (x := 12) (y := 104) d_X10_begin_11 ac_10_36 acw.1 acw.2.1 acw.2.2 (ty_12 hF) (ty_104 hF) (by decide) (by decide) (by decide) (by decide) (by decide) (Nat.le_of_ble_eq_true rfl) hF (by decide +kernel) (fun hF => ?_)
    refine Tr.aload_n (pc := 14) (i := 0) d_X10_begin_14 rfl rfl ?_
    refine Tr.getz (pc := 15) d_X10_begin_15 f_10_21 (by decide) (ty_103 hF) ?_
    refine Tr.tp 0 ((rd_cb _ rfl).trans (b_103_0)) ?_
    refine Tr.if_eq (pc := 18) (tgt := 25) d_X10_begin_18 rfl (fun _ => ?_) (fun hc => absurd (by decide) hc)
    refine Tr.aload_n (pc := 25) (i := 1) d_X10_begin_25 rfl rfl ?_
    refine Tr.callS (pc := 26) (as := [_]) d_X10_begin_26 s_10_42 ok_X10_count rfl rfl (Nat.le_of_ble_eq_true rfl) (Nat.le_of_ble_eq_true rfl) ?_
    refine Tr.lc [(0, (2, 7))] rfl ?_
    refine Tr.iconst (pc := 0) d_X10_count_0 (by decide) ?_
    refine Tr.istore_n (pc := 1) (i := 1) (ls2 := [(1, (0, 1)), (0, (2, 7))]) d_X10_count_1 rfl (by decide) rfl ?_
    refine Tr.iconst (pc := 2) d_X10_count_2 (by decide) ?_
    refine Tr.istore_n (pc := 3) (i := 2) (ls2 := [(2, (0, 0)), (1, (0, 1)), (0, (2, 7))]) d_X10_count_3 rfl (by decide) rfl ?_
    refine Tr.iload_n (pc := 4) (i := 2) d_X10_count_4 rfl rfl ?_
    refine Tr.aload_n (pc := 5) (i := 0) d_X10_count_5 rfl rfl ?_
    refine Tr.getf (pc := 6) d_X10_count_6 f_10_25 (by decide) (by decide) (ty_7 hF) ?_
    refine Tr.tp 8 (fx_7_4 hF) ?_
    refine Tr.iconst (pc := 9) d_X10_count_9 (by decide) ?_
    refine Tr.iald (pc := 10) d_X10_count_10 (ty_8 hF) (by decide) (by decide) ?_
    refine Tr.tp 0 ((rd_cb _ rfl).trans (b_8_1)) ?_
    refine Tr.icmp_ge (pc := 11) (tgt := 38) d_X10_count_11 rfl (fun _ => ?_) (fun hc => absurd (by decide) hc)
    refine Tr.iload_n (pc := 38) (i := 1) d_X10_count_38 rfl rfl ?_
    refine Tr.iret (pc := 39) d_X10_count_39 rfl ?_
    refine Tr.sc [_] rfl ?_
    refine Tr.iret (pc := 29) d_X10_begin_29 rfl ?_
    refine Tr.sc [_] rfl ?_
    refine Tr.istore_n (pc := 11) (i := 2) (ls2 := [(2, (0, 1)), (0, (2, 0)), (1, (0, 0))]) d_X11_over_11 rfl (by decide) rfl ?_
    refine Tr.iload_n (pc := 12) (i := 2) d_X11_over_12 rfl rfl ?_
    refine Tr.sipush (pc := 13) d_X11_over_13 rfl (by decide) ?_
    refine Tr.icmp_le (pc := 16) (tgt := 21) d_X11_over_16 rfl (fun _ => ?_) (fun hc => absurd (by decide) hc)
    refine Tr.iconst (pc := 21) d_X11_over_21 (by decide) ?_
    refine Tr.istore_n (pc := 22) (i := 3) (ls2 := [(3, (0, 0)), (2, (0, 1)), (0, (2, 0)), (1, (0, 0))]) d_X11_over_22 rfl (by decide) rfl ?_
    refine Tr.iload_n (pc := 23) (i := 3) d_X11_over_23 rfl rfl ?_
    refine Tr.iload_n (pc := 24) (i := 2) d_X11_over_24 rfl rfl ?_
    refine Tr.icmp_ge (pc := 25) (tgt := 87) d_X11_over_25 rfl (fun hc => absurd hc (by decide)) (fun _ => ?_)
    refine Tr.aload_n (pc := 28) (i := 0) d_X11_over_28 rfl rfl ?_
    refine Tr.getf (pc := 29) d_X11_over_29 f_11_50 (by decide) (by decide) (ty_0 hF) ?_
    refine Tr.tp 74 (fx_0_8 hF) ?_
    refine Tr.aload_n (pc := 32) (i := 0) d_X11_over_32 rfl rfl ?_
    refine Tr.getf (pc := 33) d_X11_over_33 f_11_30 (by decide) (by decide) (ty_0 hF) ?_
    refine Tr.tp 7 ((rd_cb _ rfl).trans (b_0_4)) ?_
    refine Tr.aload_n (pc := 36) (i := 0) d_X11_over_36 rfl rfl ?_
    refine Tr.getf (pc := 37) d_X11_over_37 f_11_63 (by decide) (by decide) (ty_0 hF) ?_
    refine Tr.tp 103 (fx_0_11 hF) ?_
    refine Tr.getf (pc := 40) d_X11_over_40 f_11_253 (by decide) (by decide) (ty_103 hF) ?_
    refine Tr.tp 104 (fx_103_4 hF) ?_
    refine Tr.iconst (pc := 43) d_X11_over_43 (by decide) ?_
    refine Tr.callV (pc := 44) (as := [_, _, _]) d_X11_over_44 s_11_144 ok_X6_go rfl rfl (Nat.le_of_ble_eq_true rfl) (Nat.le_of_ble_eq_true rfl) (by decide) (ty_74 hF) ?_
    refine Tr.lc [(0, (2, 74)), (1, (2, 7)), (2, (2, 104)), (3, (0, (-1)))] rfl ?_
    refine Tr.aload_n (pc := 0) (i := 0) d_X6_go_0 rfl rfl ?_
    refine Tr.aload_n (pc := 1) (i := 1) d_X6_go_1 rfl rfl ?_
    refine Tr.aload_n (pc := 2) (i := 2) d_X6_go_2 rfl rfl ?_
    refine Tr.iload_n (pc := 3) (i := 3) d_X6_go_3 rfl rfl ?_
    refine Tr.callV (pc := 4) (as := [_, _, _]) d_X6_go_4 s_6_42 ok_X6_begin rfl rfl (Nat.le_of_ble_eq_true rfl) (Nat.le_of_ble_eq_true rfl) (by decide) (ty_74 hF) ?_
    refine Tr.lc [(0, (2, 74)), (1, (2, 7)), (2, (2, 104)), (3, (0, (-1)))] rfl ?_
    refine Tr.aload_n (pc := 0) (i := 0) d_X6_begin_0 rfl rfl ?_
    refine Tr.aload_n (pc := 1) (i := 1) d_X6_begin_1 rfl rfl ?_
    refine Tr.putfX (pc := 2) d_X6_begin_2 f_6_46 (by decide) (by decide) (ty_74 hF) hF (by decide +kernel) (fun hF => ?_)
    refine Tr.aload_n (pc := 5) (i := 2) d_X6_begin_5 rfl rfl ?_
    refine Tr.iconst (pc := 6) d_X6_begin_6 (by decide) ?_
    refine Tr.aload_n (pc := 7) (i := 0) d_X6_begin_7 rfl rfl ?_
    refine Tr.getf (pc := 8) d_X6_begin_8 f_6_9 (by decide) (by decide) (ty_74 hF) ?_
    refine Tr.tp 75 (fx_74_2 hF) ?_
    refine Tr.iconst (pc := 11) d_X6_begin_11 (by decide) ?_
    refine Tr.iconst (pc := 12) d_X6_begin_12 (by decide) ?_
    refine Tr.acopyX (pc := 13) (x := 104) (y := 75) d_X6_begin_13 ac_6_85 acw.1 acw.2.1 acw.2.2 (ty_104 hF) (ty_75 hF) (by decide) (by decide) (by decide) (by decide) (by decide) (Nat.le_of_ble_eq_true rfl) hF (by decide +kernel) (fun hF => ?_)
    refine Tr.aload_n (pc := 16) (i := 0) d_X6_begin_16 rfl rfl ?_
    refine Tr.getf (pc := 17) d_X6_begin_17 f_6_15 (by decide) (by decide) (ty_74 hF) ?_
    refine Tr.tp 76 (fx_74_3 hF) ?_
    refine Tr.iconst (pc := 20) d_X6_begin_20 (by decide) ?_
    refine Tr.callS (pc := 21) (as := [_, _]) d_X6_begin_21 s_6_91 ok_J7_fill_53178 rfl rfl (Nat.le_of_ble_eq_true rfl) (Nat.le_of_ble_eq_true rfl) ?_
    refine Tr.imp (sp_fillX (N := 6) (ty_76 hF) (by decide) hF (by decide +kernel)) ?_
    rintro _ _ ⟨rfl, rfl, hF⟩
    refine Tr.sc [] rfl ?_
    refine Tr.aload_n (pc := 24) (i := 0) d_X6_begin_24 rfl rfl ?_
    refine Tr.getf (pc := 25) d_X6_begin_25 f_6_21 (by decide) (by decide) (ty_74 hF) ?_
    refine Tr.tp 78 (fx_74_5 hF) ?_
    refine Tr.iconst (pc := 28) d_X6_begin_28 (by decide) ?_
    refine Tr.callS (pc := 29) (as := [_, _]) d_X6_begin_29 s_6_91 ok_J7_fill_53178 rfl rfl (Nat.le_of_ble_eq_true rfl) (Nat.le_of_ble_eq_true rfl) ?_
    refine Tr.imp (sp_fillX (N := 8) (ty_78 hF) (by decide) hF (by decide +kernel)) ?_
    rintro _ _ ⟨rfl, rfl, hF⟩
    refine Tr.sc [] rfl ?_
    refine Tr.aload_n (pc := 32) (i := 0) d_X6_begin_32 rfl rfl ?_
    refine Tr.getf (pc := 33) d_X6_begin_33 f_6_24 (by decide) (by decide) (ty_74 hF) ?_
    refine Tr.tp 79 (fx_74_6 hF) ?_
    refine Tr.iconst (pc := 36) d_X6_begin_36 (by decide) ?_
    refine Tr.callS (pc := 37) (as := [_, _]) d_X6_begin_37 s_6_91 ok_J7_fill_53178 rfl rfl (Nat.le_of_ble_eq_true rfl) (Nat.le_of_ble_eq_true rfl) ?_
    refine Tr.imp (sp_fillX (N := 6) (ty_79 hF) (by decide) hF (by decide +kernel)) ?_
    rintro _ _ ⟨rfl, rfl, hF⟩
    refine Tr.sc [] rfl ?_
    refine Tr.aload_n (pc := 40) (i := 0) d_X6_begin_40 rfl rfl ?_
    refine Tr.getf (pc := 41) d_X6_begin_41 f_6_27 (by decide) (by decide) (ty_74 hF) ?_
    refine Tr.tp 80 (fx_74_7 hF) ?_
    refine Tr.iconst (pc := 44) d_X6_begin_44 (by decide) ?_
    refine Tr.callS (pc := 45) (as := [_, _]) d_X6_begin_45 s_6_91 ok_J7_fill_53178 rfl rfl (Nat.le_of_ble_eq_true rfl) (Nat.le_of_ble_eq_true rfl) ?_
    refine Tr.imp (sp_fillX (N := 6) (ty_80 hF) (by decide) hF (by decide +kernel)) ?_
    rintro _ _ ⟨rfl, rfl, hF⟩
    refine Tr.sc [] rfl ?_
    refine Tr.aload_n (pc := 48) (i := 0) d_X6_begin_48 rfl rfl ?_
    refine Tr.getf (pc := 49) d_X6_begin_49 f_6_30 (by decide) (by decide) (ty_74 hF) ?_
    refine Tr.tp 81 (fx_74_8 hF) ?_
    refine Tr.iconst (pc := 52) d_X6_begin_52 (by decide) ?_
    refine Tr.callS (pc := 53) (as := [_, _]) d_X6_begin_53 s_6_91 ok_J7_fill_53178 rfl rfl (Nat.le_of_ble_eq_true rfl) (Nat.le_of_ble_eq_true rfl) ?_
    refine Tr.imp (sp_fillX (N := 6) (ty_81 hF) (by decide) hF (by decide +kernel)) ?_
    rintro _ _ ⟨rfl, rfl, hF⟩
    refine Tr.sc [] rfl ?_
    refine Tr.aload_n (pc := 56) (i := 0) d_X6_begin_56 rfl rfl ?_
    refine Tr.iconst (pc := 57) d_X6_begin_57 (by decide) ?_
    refine Tr.putfX (pc := 58) d_X6_begin_58 f_6_68 (by decide) (by decide) (ty_74 hF) hF (by decide +kernel) (fun hF => ?_)
    refine Tr.aload_n (pc := 61) (i := 0) d_X6_begin_61 rfl rfl ?_
    refine Tr.iconst (pc := 62) d_X6_begin_62 (by decide) ?_
    refine Tr.putfX (pc := 63) d_X6_begin_63 f_6_97 (by decide) (by decide) (ty_74 hF) hF (by decide +kernel) (fun hF => ?_)
    refine Tr.aload_n (pc := 66) (i := 0) d_X6_begin_66 rfl rfl ?_
    refine Tr.iconst (pc := 67) d_X6_begin_67 (by decide) ?_
    refine Tr.putfX (pc := 68) d_X6_begin_68 f_6_100 (by decide) (by decide) (ty_74 hF) hF (by decide +kernel) (fun hF => ?_)
    refine Tr.aload_n (pc := 71) (i := 0) d_X6_begin_71 rfl rfl ?_
    refine Tr.iconst (pc := 72) d_X6_begin_72 (by decide) ?_
    refine Tr.putfX (pc := 73) d_X6_begin_73 f_6_103 (by decide) (by decide) (ty_74 hF) hF (by decide +kernel) (fun hF => ?_)
    refine Tr.aload_n (pc := 76) (i := 0) d_X6_begin_76 rfl rfl ?_
    refine Tr.iconst (pc := 77) d_X6_begin_77 (by decide) ?_
    refine Tr.putfX (pc := 78) d_X6_begin_78 f_6_62 (by decide) (by decide) (ty_74 hF) hF (by decide +kernel) (fun hF => ?_)
    refine Tr.aload_n (pc := 81) (i := 0) d_X6_begin_81 rfl rfl ?_
    refine Tr.iconst (pc := 82) d_X6_begin_82 (by decide) ?_
    refine Tr.putfX (pc := 83) d_X6_begin_83 f_6_79 (by decide) (by decide) (ty_74 hF) hF (by decide +kernel) (fun hF => ?_)
    refine Tr.aload_n (pc := 86) (i := 0) d_X6_begin_86 rfl rfl ?_
    refine Tr.iload_n (pc := 87) (i := 3) d_X6_begin_87 rfl rfl ?_
    refine Tr.if_lt (pc := 88) (tgt := 95) d_X6_begin_88 rfl (fun _ => ?_) (fun hc => absurd (by decide) hc)
    refine Tr.iconst (pc := 95) d_X6_begin_95 (by decide) ?_
    refine Tr.putzX (pc := 96) d_X6_begin_96 f_6_106 (by decide) (ty_74 hF) (by decide) hF (by decide +kernel) (fun hF => ?_)
    refine Tr.aload_n (pc := 99) (i := 0) d_X6_begin_99 rfl rfl ?_
    refine Tr.iload_n (pc := 100) (i := 3) d_X6_begin_100 rfl rfl ?_
    refine Tr.putfX (pc := 101) d_X6_begin_101 f_6_110 (by decide) (by decide) (ty_74 hF) hF (by decide +kernel) (fun hF => ?_)
    refine Tr.aload_n (pc := 104) (i := 0) d_X6_begin_104 rfl rfl ?_
    refine Tr.getf (pc := 105) d_X6_begin_105 f_6_38 (by decide) (by decide) (ty_74 hF) ?_
    refine Tr.tp 82 (fx_74_0 hF) ?_
    refine Tr.aload_n (pc := 108) (i := 1) d_X6_begin_108 rfl rfl ?_
    refine Tr.callV (pc := 109) (as := [_]) d_X6_begin_109 s_6_113 ok_X1_begin rfl rfl (Nat.le_of_ble_eq_true rfl) (Nat.le_of_ble_eq_true rfl) (by decide) (ty_82 hF) ?_
    refine Tr.lc [(0, (2, 82)), (1, (2, 7))] rfl ?_
    refine Tr.aload_n (pc := 0) (i := 0) d_X1_begin_0 rfl rfl ?_
    refine Tr.aload_n (pc := 1) (i := 1) d_X1_begin_1 rfl rfl ?_
    refine Tr.putfX (pc := 2) d_X1_begin_2 f_1_41 (by decide) (by decide) (ty_82 hF) hF (by decide +kernel) (fun hF => ?_)
    refine Tr.aload_n (pc := 5) (i := 0) d_X1_begin_5 rfl rfl ?_
    refine Tr.getf (pc := 6) d_X1_begin_6 f_1_9 (by decide) (by decide) (ty_82 hF) ?_
    refine Tr.tp 83 (fx_82_2 hF) ?_
    refine Tr.iconst (pc := 9) d_X1_begin_9 (by decide) ?_
    refine Tr.callS (pc := 10) (as := [_, _]) d_X1_begin_10 s_1_45 ok_J7_fill_53178 rfl rfl (Nat.le_of_ble_eq_true rfl) (Nat.le_of_ble_eq_true rfl) ?_
    refine Tr.imp (sp_fillX (N := 24) (ty_83 hF) (by decide) hF (by decide +kernel)) ?_
    rintro _ _ ⟨rfl, rfl, hF⟩
    refine Tr.sc [] rfl ?_
    refine Tr.aload_n (pc := 13) (i := 0) d_X1_begin_13 rfl rfl ?_
    refine Tr.getz (pc := 14) d_X1_begin_14 f_1_37 (by decide) (ty_82 hF) ?_
    refine Tr.tp 0 ((rd_fb _ rfl).trans ((rd_wb _ rfl).trans ((rd_wb _ rfl).trans ((rd_wb _ rfl).trans ((rd_wb _ rfl).trans ((rd_wb _ rfl).trans ((rd_wb _ rfl).trans ((rd_wb _ rfl).trans ((rd_wb _ rfl).trans ((rd_wb _ rfl).trans ((rd_fb _ rfl).trans ((rd_fb _ rfl).trans ((rd_fb _ rfl).trans ((rd_fb _ rfl).trans ((rd_fb _ rfl).trans ((rd_cb _ rfl).trans ((rd_wb _ rfl).trans ((rd_cb _ rfl).trans (b_82_0))))))))))))))))))) ?_
    refine Tr.if_eq (pc := 17) (tgt := 67) d_X1_begin_17 rfl (fun _ => ?_) (fun hc => absurd (by decide) hc)
    refine Tr.vret (pc := 67) d_X1_begin_67 rfl ?_
    refine Tr.sc [] rfl ?_
    refine Tr.vret (pc := 112) d_X6_begin_112 rfl ?_
    refine Tr.sc [] rfl ?_
    refine Tr.iconst (pc := 7) d_X6_go_7 (by decide) ?_
    refine Tr.istore (pc := 8) (i := 4) (ls2 := [(4, (0, 0)), (0, (2, 74)), (1, (2, 7)), (2, (2, 104)), (3, (0, (-1)))]) d_X6_go_8 (by decide) rfl ?_
    refine Tr.iconst (pc := 10) d_X6_go_10 (by decide) ?_
    refine Tr.istore (pc := 11) (i := 5) (ls2 := [(5, (0, 0)), (4, (0, 0)), (0, (2, 74)), (1, (2, 7)), (2, (2, 104)), (3, (0, (-1)))]) d_X6_go_11 (by decide) rfl ?_
    refine Tr.iload (pc := 13) (i := 5) d_X6_go_13 rfl ?_
    refine Tr.sipush (pc := 15) d_X6_go_15 rfl (by decide) ?_
    refine Tr.icmp_gt (pc := 18) (tgt := 103) d_X6_go_18 rfl (fun hc => absurd hc (by decide)) (fun _ => ?_)
    refine Tr.iload (pc := 21) (i := 4) d_X6_go_21 rfl ?_
    refine Tr.aload_n (pc := 23) (i := 0) d_X6_go_23 rfl rfl ?_
    refine Tr.getf (pc := 24) d_X6_go_24 f_6_46 (by decide) (by decide) (ty_74 hF) ?_
    refine Tr.tp 7 ((rd_fb _ rfl).trans ((rd_wb _ rfl).trans ((rd_wb _ rfl).trans ((rd_wb _ rfl).trans ((rd_wb _ rfl).trans ((rd_wb _ rfl).trans ((rd_wb _ rfl).trans ((rd_wb _ rfl).trans ((rd_wb _ rfl).trans ((rd_wb _ rfl).trans ((rd_fb _ rfl).trans ((rd_fb _ rfl).trans ((rd_fb _ rfl).trans ((rd_fb _ rfl).trans ((rd_fb _ rfl).trans ((rd_cb _ rfl).trans (rd_ws _ _ _ _))))))))))))))))) ?_
    refine Tr.getf (pc := 27) d_X6_go_27 f_6_50 (by decide) (by decide) (ty_7 hF) ?_
    refine Tr.tp 15 (fx_7_11 hF) ?_
    refine Tr.getf (pc := 30) d_X6_go_30 f_6_56 (by decide) (by decide) (ty_15 hF) ?_
    refine Tr.tp 0 ((rd_fb _ rfl).trans ((rd_wb _ rfl).trans ((rd_wb _ rfl).trans ((rd_wb _ rfl).trans ((rd_wb _ rfl).trans ((rd_wb _ rfl).trans ((rd_wb _ rfl).trans ((rd_wb _ rfl).trans ((rd_wb _ rfl).trans ((rd_wb _ rfl).trans ((rd_fb _ rfl).trans ((rd_fb _ rfl).trans ((rd_fb _ rfl).trans ((rd_fb _ rfl).trans ((rd_fb _ rfl).trans ((rd_cb _ rfl).trans ((rd_wb _ rfl).trans ((rd_cb _ rfl).trans (b_15_0))))))))))))))))))) ?_
    refine Tr.icmp_ge (pc := 33) (tgt := 103) d_X6_go_33 rfl (fun _ => ?_) (fun hc => absurd (by decide) hc)
    refine Tr.aload_n (pc := 103) (i := 0) d_X6_go_103 rfl rfl ?_
    refine Tr.callV (pc := 104) (as := []) d_X6_go_104 s_6_82 ok_X6_finish rfl rfl (Nat.le_of_ble_eq_true rfl) (Nat.le_of_ble_eq_true rfl) (by decide) (ty_74 hF) ?_
    refine Tr.lc [(0, (2, 74))] rfl ?_
    refine Tr.aload_n (pc := 0) (i := 0) d_X6_finish_0 rfl rfl ?_
    refine Tr.getf (pc := 1) d_X6_finish_1 f_6_68 (by decide) (by decide) (ty_74 hF) ?_
    refine Tr.tp 0 ((rd_fb _ rfl).trans ((rd_wb _ rfl).trans ((rd_wb _ rfl).trans ((rd_wb _ rfl).trans ((rd_wb _ rfl).trans ((rd_wb _ rfl).trans ((rd_wb _ rfl).trans ((rd_wb _ rfl).trans ((rd_wb _ rfl).trans (rd_ws _ _ _ _)))))))))) ?_
    refine Tr.istore_n (pc := 4) (i := 1) (ls2 := [(1, (0, 0)), (0, (2, 74))]) d_X6_finish_4 rfl (by decide) rfl ?_
    refine Tr.aload_n (pc := 5) (i := 0) d_X6_finish_5 rfl rfl ?_
    refine Tr.getf (pc := 6) d_X6_finish_6 f_6_46 (by decide) (by decide) (ty_74 hF) ?_
    refine Tr.tp 7 ((rd_fb _ rfl).trans ((rd_wb _ rfl).trans ((rd_wb _ rfl).trans ((rd_wb _ rfl).trans ((rd_wb _ rfl).trans ((rd_wb _ rfl).trans ((rd_wb _ rfl).trans ((rd_wb _ rfl).trans ((rd_wb _ rfl).trans ((rd_wb _ rfl).trans ((rd_fb _ rfl).trans ((rd_fb _ rfl).trans ((rd_fb _ rfl).trans ((rd_fb _ rfl).trans ((rd_fb _ rfl).trans ((rd_cb _ rfl).trans (rd_ws _ _ _ _))))))))))))))))) ?_
    refine Tr.getf (pc := 9) d_X6_finish_9 f_6_116 (by decide) (by decide) (ty_7 hF) ?_
    refine Tr.tp 8 (fx_7_4 hF) ?_
    refine Tr.iconst (pc := 12) d_X6_finish_12 (by decide) ?_
    refine Tr.iald (pc := 13) d_X6_finish_13 (ty_8 hF) (by decide) (by decide) ?_
    refine Tr.tp 0 ((rd_fb _ rfl).trans ((rd_wb _ rfl).trans ((rd_wb _ rfl).trans ((rd_wb _ rfl).trans ((rd_wb _ rfl).trans ((rd_wb _ rfl).trans ((rd_wb _ rfl).trans ((rd_wb _ rfl).trans ((rd_wb _ rfl).trans ((rd_wb _ rfl).trans ((rd_fb _ rfl).trans ((rd_fb _ rfl).trans ((rd_fb _ rfl).trans ((rd_fb _ rfl).trans ((rd_fb _ rfl).trans ((rd_cb _ rfl).trans ((rd_wb _ rfl).trans ((rd_cb _ rfl).trans (b_8_0))))))))))))))))))) ?_
    refine Tr.istore_n (pc := 14) (i := 2) (ls2 := [(2, (0, 0)), (1, (0, 0)), (0, (2, 74))]) d_X6_finish_14 rfl (by decide) rfl ?_
    refine Tr.iconst (pc := 15) d_X6_finish_15 (by decide) ?_
    refine Tr.istore_n (pc := 16) (i := 3) (ls2 := [(3, (0, 0)), (2, (0, 0)), (1, (0, 0)), (0, (2, 74))]) d_X6_finish_16 rfl (by decide) rfl ?_
    refine Tr.iload_n (pc := 17) (i := 3) d_X6_finish_17 rfl rfl ?_
    refine Tr.iload_n (pc := 18) (i := 2) d_X6_finish_18 rfl rfl ?_
    refine Tr.icmp_ge (pc := 19) (tgt := 61) d_X6_finish_19 rfl (fun _ => ?_) (fun hc => absurd (by decide) hc)
    refine Tr.iconst (pc := 61) d_X6_finish_61 (by decide) ?_
    refine Tr.istore_n (pc := 62) (i := 3) (ls2 := [(3, (0, 0)), (2, (0, 0)), (1, (0, 0)), (0, (2, 74))]) d_X6_finish_62 rfl (by decide) rfl ?_
    refine Tr.iload_n (pc := 63) (i := 3) d_X6_finish_63 rfl rfl ?_
    refine Tr.iload_n (pc := 64) (i := 2) d_X6_finish_64 rfl rfl ?_
    refine Tr.icmp_ge (pc := 65) (tgt := 129) d_X6_finish_65 rfl (fun _ => ?_) (fun hc => absurd (by decide) hc)
    refine Tr.aload_n (pc := 129) (i := 0) d_X6_finish_129 rfl rfl ?_
    refine Tr.iload_n (pc := 130) (i := 1) d_X6_finish_130 rfl rfl ?_
    refine Tr.aload_n (pc := 131) (i := 0) d_X6_finish_131 rfl rfl ?_
    refine Tr.getf (pc := 132) d_X6_finish_132 f_6_46 (by decide) (by decide) (ty_74 hF) ?_
    refine Tr.tp 7 ((rd_fb _ rfl).trans ((rd_wb _ rfl).trans ((rd_wb _ rfl).trans ((rd_wb _ rfl).trans ((rd_wb _ rfl).trans ((rd_wb _ rfl).trans ((rd_wb _ rfl).trans ((rd_wb _ rfl).trans ((rd_wb _ rfl).trans ((rd_wb _ rfl).trans ((rd_fb _ rfl).trans ((rd_fb _ rfl).trans ((rd_fb _ rfl).trans ((rd_fb _ rfl).trans ((rd_fb _ rfl).trans ((rd_cb _ rfl).trans (rd_ws _ _ _ _))))))))))))))))) ?_
    refine Tr.getf (pc := 135) d_X6_finish_135 f_6_135 (by decide) (by decide) (ty_7 hF) ?_
    refine Tr.tp 1 ((rd_fb _ rfl).trans ((rd_wb _ rfl).trans ((rd_wb _ rfl).trans ((rd_wb _ rfl).trans ((rd_wb _ rfl).trans ((rd_wb _ rfl).trans ((rd_wb _ rfl).trans ((rd_wb _ rfl).trans ((rd_wb _ rfl).trans ((rd_wb _ rfl).trans ((rd_fb _ rfl).trans ((rd_fb _ rfl).trans ((rd_fb _ rfl).trans ((rd_fb _ rfl).trans ((rd_fb _ rfl).trans ((rd_cb _ rfl).trans ((rd_wb _ rfl).trans ((rd_cb _ rfl).trans (b_7_0))))))))))))))))))) ?_
    refine Tr.imul (pc := 138) d_X6_finish_138 ?_
    refine Tr.tp 0 rfl ?_
    refine Tr.aload_n (pc := 139) (i := 0) d_X6_finish_139 rfl rfl ?_
    refine Tr.getf (pc := 140) d_X6_finish_140 f_6_38 (by decide) (by decide) (ty_74 hF) ?_
    refine Tr.tp 82 (fx_74_0 hF) ?_
    refine Tr.callV (pc := 143) (as := []) d_X6_finish_143 s_6_138 ok_X1_sippedByParts rfl rfl (Nat.le_of_ble_eq_true rfl) (Nat.le_of_ble_eq_true rfl) (by decide) (ty_82 hF) ?_
    refine Tr.lc [(0, (2, 82))] rfl ?_
    refine Tr.iconst (pc := 0) d_X1_sippedByParts_0 (by decide) ?_
    refine Tr.istore_n (pc := 1) (i := 1) (ls2 := [(1, (0, 0)), (0, (2, 82))]) d_X1_sippedByParts_1 rfl (by decide) rfl ?_
    refine Tr.iconst (pc := 2) d_X1_sippedByParts_2 (by decide) ?_
    refine Tr.istore_n (pc := 3) (i := 2) (ls2 := [(2, (0, 0)), (1, (0, 0)), (0, (2, 82))]) d_X1_sippedByParts_3 rfl (by decide) rfl ?_
    refine Tr.iload_n (pc := 4) (i := 2) d_X1_sippedByParts_4 rfl rfl ?_
    refine Tr.aload_n (pc := 5) (i := 0) d_X1_sippedByParts_5 rfl rfl ?_
    refine Tr.getf (pc := 6) d_X1_sippedByParts_6 f_1_41 (by decide) (by decide) (ty_82 hF) ?_
    refine Tr.tp 7 ((rd_fb _ rfl).trans (rd_ws _ _ _ _)) ?_
    refine Tr.getf (pc := 9) d_X1_sippedByParts_9 f_1_91 (by decide) (by decide) (ty_7 hF) ?_
    refine Tr.tp 8 (fx_7_4 hF) ?_
    refine Tr.iconst (pc := 12) d_X1_sippedByParts_12 (by decide) ?_
    refine Tr.iald (pc := 13) d_X1_sippedByParts_13 (ty_8 hF) (by decide) (by decide) ?_
    refine Tr.tp 0 ((rd_fb _ rfl).trans ((rd_wb _ rfl).trans ((rd_wb _ rfl).trans ((rd_wb _ rfl).trans ((rd_wb _ rfl).trans ((rd_wb _ rfl).trans ((rd_wb _ rfl).trans ((rd_wb _ rfl).trans ((rd_wb _ rfl).trans ((rd_wb _ rfl).trans ((rd_fb _ rfl).trans ((rd_fb _ rfl).trans ((rd_fb _ rfl).trans ((rd_fb _ rfl).trans ((rd_fb _ rfl).trans ((rd_cb _ rfl).trans ((rd_wb _ rfl).trans ((rd_cb _ rfl).trans (b_8_0))))))))))))))))))) ?_
    refine Tr.iconst (pc := 14) d_X1_sippedByParts_14 (by decide) ?_
    refine Tr.imul (pc := 15) d_X1_sippedByParts_15 ?_
    refine Tr.tp 0 rfl ?_
    refine Tr.icmp_ge (pc := 16) (tgt := 44) d_X1_sippedByParts_16 rfl (fun _ => ?_) (fun hc => absurd (by decide) hc)
    refine Tr.iload_n (pc := 44) (i := 1) d_X1_sippedByParts_44 rfl rfl ?_
    refine Tr.iret (pc := 45) d_X1_sippedByParts_45 rfl ?_
    refine Tr.sc [_, _, _] rfl ?_
    refine Tr.iadd (pc := 146) d_X6_finish_146 ?_
    refine Tr.tp 0 rfl ?_
    refine Tr.putfX (pc := 147) d_X6_finish_147 f_6_142 (by decide) (by decide) (ty_74 hF) hF (by decide +kernel) (fun hF => ?_)
    refine Tr.vret (pc := 150) d_X6_finish_150 rfl ?_
    refine Tr.sc [] rfl ?_
    refine Tr.vret (pc := 107) d_X6_go_107 rfl ?_
    refine Tr.sc [] rfl ?_
    refine Tr.aload_n (pc := 47) (i := 0) d_X11_over_47 rfl rfl ?_
    refine Tr.getf (pc := 48) d_X11_over_48 f_11_63 (by decide) (by decide) (ty_0 hF) ?_
    refine Tr.tp 103 (fx_0_11 hF) ?_
    refine Tr.aload_n (pc := 51) (i := 0) d_X11_over_51 rfl rfl ?_
    refine Tr.getf (pc := 52) d_X11_over_52 f_11_50 (by decide) (by decide) (ty_0 hF) ?_
    refine Tr.tp 74 (fx_0_8 hF) ?_
    refine Tr.getf (pc := 55) d_X11_over_55 f_11_155 (by decide) (by decide) (ty_74 hF) ?_
    refine Tr.tp 0 (rd_ws _ _ _ _) ?_
    refine Tr.iload_n (pc := 58) (i := 3) d_X11_over_58 rfl rfl ?_
    refine Tr.if_ne (pc := 59) (tgt := 66) d_X11_over_59 rfl (fun hc => absurd (by decide) hc) (fun _ => ?_)
    refine Tr.iconst (pc := 62) d_X11_over_62 (by decide) ?_
    refine Tr.goto (pc := 63) (tgt := 67) d_X11_over_63 rfl ?_
    refine Tr.callV (pc := 67) (as := [_, _]) d_X11_over_67 s_11_256 ok_X10_compare rfl rfl (Nat.le_of_ble_eq_true rfl) (Nat.le_of_ble_eq_true rfl) (by decide) (ty_103 hF) ?_
    refine Tr.lc [(0, (2, 103)), (1, (0, 0)), (2, (0, 1))] rfl ?_
    refine Tr.iload_n (pc := 0) (i := 2) d_X10_compare_0 rfl rfl ?_
    refine Tr.if_ne (pc := 1) (tgt := 12) d_X10_compare_1 rfl (fun _ => ?_) (fun hc => absurd hc (by decide))
    refine Tr.aload_n (pc := 12) (i := 0) d_X10_compare_12 rfl rfl ?_
    refine Tr.iload_n (pc := 13) (i := 1) d_X10_compare_13 rfl rfl ?_
    refine Tr.putfX (pc := 14) d_X10_compare_14 f_10_46 (by decide) (by decide) (ty_103 hF) hF (by decide +kernel) (fun hF => ?_)
    refine Tr.aload_n (pc := 17) (i := 0) d_X10_compare_17 rfl rfl ?_
    refine Tr.getf (pc := 18) d_X10_compare_18 f_10_9 (by decide) (by decide) (ty_103 hF) ?_
    refine Tr.tp 104 (fx_103_4 hF) ?_
    refine Tr.iconst (pc := 21) d_X10_compare_21 (by decide) ?_
    refine Tr.aload_n (pc := 22) (i := 0) d_X10_compare_22 rfl rfl ?_
    refine Tr.getf (pc := 23) d_X10_compare_23 f_10_15 (by decide) (by decide) (ty_103 hF) ?_
    refine Tr.tp 105 (fx_103_5 hF) ?_
    refine Tr.iconst (pc := 26) d_X10_compare_26 (by decide) ?_
    refine Tr.iconst (pc := 27) d_X10_compare_27 (by decide) ?_
    refine Tr.acopyX (pc := 28) (x := 104) (y := 105) d_X10_compare_28 ac_10_36 acw.1 acw.2.1 acw.2.2 (ty_104 hF) (ty_105 hF) (by decide) (by decide) (by decide) (by decide) (by decide) (Nat.le_of_ble_eq_true rfl) hF (by decide +kernel) (fun hF => ?_)
    refine Tr.iload_n (pc := 31) (i := 2) d_X10_compare_31 rfl rfl ?_
    refine Tr.if_ne (pc := 32) (tgt := 43) d_X10_compare_32 rfl (fun _ => ?_) (fun hc => absurd hc (by decide))
    refine Tr.aload_n (pc := 43) (i := 0) d_X10_compare_43 rfl rfl ?_
    refine Tr.iload_n (pc := 44) (i := 1) d_X10_compare_44 rfl rfl ?_
    refine Tr.putfX (pc := 45) d_X10_compare_45 f_10_50 (by decide) (by decide) (ty_103 hF) hF (by decide +kernel) (fun hF => ?_)
    refine Tr.aload_n (pc := 48) (i := 0) d_X10_compare_48 rfl rfl ?_
    refine Tr.getf (pc := 49) d_X10_compare_49 f_10_9 (by decide) (by decide) (ty_103 hF) ?_
    refine Tr.tp 104 (fx_103_4 hF) ?_
    refine Tr.iconst (pc := 52) d_X10_compare_52 (by decide) ?_
    refine Tr.aload_n (pc := 53) (i := 0) d_X10_compare_53 rfl rfl ?_
    refine Tr.getf (pc := 54) d_X10_compare_54 f_10_18 (by decide) (by decide) (ty_103 hF) ?_
    refine Tr.tp 106 (fx_103_6 hF) ?_
    refine Tr.iconst (pc := 57) d_X10_compare_57 (by decide) ?_
    refine Tr.iconst (pc := 58) d_X10_compare_58 (by decide) ?_
    refine Tr.acopyX (pc := 59) (x := 104) (y := 106) d_X10_compare_59 ac_10_36 acw.1 acw.2.1 acw.2.2 (ty_104 hF) (ty_106 hF) (by decide) (by decide) (by decide) (by decide) (by decide) (Nat.le_of_ble_eq_true rfl) hF (by decide +kernel) (fun hF => ?_)
    refine Tr.vret (pc := 62) d_X10_compare_62 rfl ?_
    refine Tr.sc [] rfl ?_
    refine Tr.aload_n (pc := 70) (i := 0) d_X11_over_70 rfl rfl ?_
    refine Tr.getf (pc := 71) d_X11_over_71 f_11_63 (by decide) (by decide) (ty_0 hF) ?_
    refine Tr.tp 103 (fx_0_11 hF) ?_
    refine Tr.aload_n (pc := 74) (i := 0) d_X11_over_74 rfl rfl ?_
    refine Tr.getf (pc := 75) d_X11_over_75 f_11_30 (by decide) (by decide) (ty_0 hF) ?_
    refine Tr.tp 7 ((rd_cb _ rfl).trans ((rd_wb _ rfl).trans ((rd_cb _ rfl).trans ((rd_wb _ rfl).trans ((rd_wb _ rfl).trans ((rd_fb _ rfl).trans ((rd_wb _ rfl).trans ((rd_wb _ rfl).trans ((rd_wb _ rfl).trans ((rd_wb _ rfl).trans ((rd_wb _ rfl).trans ((rd_wb _ rfl).trans ((rd_wb _ rfl).trans ((rd_wb _ rfl).trans ((rd_wb _ rfl).trans ((rd_fb _ rfl).trans ((rd_fb _ rfl).trans ((rd_fb _ rfl).trans ((rd_fb _ rfl).trans ((rd_fb _ rfl).trans ((rd_cb _ rfl).trans ((rd_wb _ rfl).trans ((rd_cb _ rfl).trans (b_0_4)))))))))))))))))))))))) ?_
    refine Tr.callV (pc := 78) (as := [_]) d_X11_over_78 s_11_260 ok_X10_turnOn rfl rfl (Nat.le_of_ble_eq_true rfl) (Nat.le_of_ble_eq_true rfl) (by decide) (ty_103 hF) ?_
    refine Tr.lc [(0, (2, 103)), (1, (2, 7))] rfl ?_
    refine Tr.aload_n (pc := 0) (i := 1) d_X10_turnOn_0 rfl rfl ?_
    refine Tr.getf (pc := 1) d_X10_turnOn_1 f_10_25 (by decide) (by decide) (ty_7 hF) ?_
    refine Tr.tp 8 (fx_7_4 hF) ?_
    refine Tr.iconst (pc := 4) d_X10_turnOn_4 (by decide) ?_
    refine Tr.iald (pc := 5) d_X10_turnOn_5 (ty_8 hF) (by decide) (by decide) ?_
    refine Tr.tp 0 ((rd_cb _ rfl).trans ((rd_wb _ rfl).trans ((rd_cb _ rfl).trans ((rd_wb _ rfl).trans ((rd_wb _ rfl).trans ((rd_fb _ rfl).trans ((rd_wb _ rfl).trans ((rd_wb _ rfl).trans ((rd_wb _ rfl).trans ((rd_wb _ rfl).trans ((rd_wb _ rfl).trans ((rd_wb _ rfl).trans ((rd_wb _ rfl).trans ((rd_wb _ rfl).trans ((rd_wb _ rfl).trans ((rd_fb _ rfl).trans ((rd_fb _ rfl).trans ((rd_fb _ rfl).trans ((rd_fb _ rfl).trans ((rd_fb _ rfl).trans ((rd_cb _ rfl).trans ((rd_wb _ rfl).trans ((rd_cb _ rfl).trans (b_8_1)))))))))))))))))))))))) ?_
    refine Tr.iconst (pc := 6) d_X10_turnOn_6 (by decide) ?_
    refine Tr.isub (pc := 7) d_X10_turnOn_7 ?_
    refine Tr.tp (-1) rfl ?_
    refine Tr.istore_n (pc := 8) (i := 2) (ls2 := [(2, (0, (-1))), (0, (2, 103)), (1, (2, 7))]) d_X10_turnOn_8 rfl (by decide) rfl ?_
    refine Tr.iload_n (pc := 9) (i := 2) d_X10_turnOn_9 rfl rfl ?_
    refine Tr.if_lt (pc := 10) (tgt := 57) d_X10_turnOn_10 rfl (fun _ => ?_) (fun hc => absurd (by decide) hc)
    refine Tr.vret (pc := 57) d_X10_turnOn_57 rfl ?_
    refine Tr.sc [] rfl ?_
    refine Tr.iinc (pc := 81) (ls2 := [(3, (0, 1)), (2, (0, 1)), (0, (2, 0)), (1, (0, 0))]) d_X11_over_81 rfl (by decide) rfl ?_
    refine Tr.goto (pc := 84) (tgt := 23) d_X11_over_84 rfl ?_
    refine Tr.iload_n (pc := 23) (i := 3) d_X11_over_23 rfl rfl ?_
    refine Tr.iload_n (pc := 24) (i := 2) d_X11_over_24 rfl rfl ?_
    refine Tr.icmp_ge (pc := 25) (tgt := 87) d_X11_over_25 rfl (fun _ => ?_) (fun hc => absurd (by decide) hc)
    refine Tr.aload_n (pc := 87) (i := 0) d_X11_over_87 rfl rfl ?_
    refine Tr.getf (pc := 88) d_X11_over_88 f_11_63 (by decide) (by decide) (ty_0 hF) ?_
    refine Tr.tp 103 (fx_0_11 hF) ?_
    refine Tr.iload_n (pc := 91) (i := 1) d_X11_over_91 rfl rfl ?_
    refine Tr.callV (pc := 92) (as := [_]) d_X11_over_92 s_11_264 ok_X10_choose rfl rfl (Nat.le_of_ble_eq_true rfl) (Nat.le_of_ble_eq_true rfl) (by decide) (ty_103 hF) ?_
    refine Tr.lc [(0, (2, 103)), (1, (0, 0))] rfl ?_
    refine Tr.aload_n (pc := 0) (i := 0) d_X10_choose_0 rfl rfl ?_
    refine Tr.iconst (pc := 1) d_X10_choose_1 (by decide) ?_
    refine Tr.putzX (pc := 2) d_X10_choose_2 f_10_21 (by decide) (ty_103 hF) (by decide) hF (by decide +kernel) (fun hF => ?_)
    refine Tr.aload_n (pc := 5) (i := 0) d_X10_choose_5 rfl rfl ?_
    refine Tr.iload_n (pc := 6) (i := 1) d_X10_choose_6 rfl rfl ?_
    refine Tr.putzX (pc := 7) d_X10_choose_7 f_10_52 (by decide) (ty_103 hF) (by decide) hF (by decide +kernel) (fun hF => ?_)
    refine Tr.iload_n (pc := 10) (i := 1) d_X10_choose_10 rfl rfl ?_
    refine Tr.if_eq (pc := 11) (tgt := 21) d_X10_choose_11 rfl (fun _ => ?_) (fun hc => absurd (by decide) hc)
    refine Tr.aload_n (pc := 21) (i := 0) d_X10_choose_21 rfl rfl ?_
    refine Tr.getf (pc := 22) d_X10_choose_22 f_10_50 (by decide) (by decide) (ty_103 hF) ?_
    refine Tr.tp 0 ((rd_wb _ rfl).trans ((rd_wb _ rfl).trans ((rd_cb _ rfl).trans (rd_ws _ _ _ _)))) ?_
    refine Tr.iret (pc := 25) d_X10_choose_25 rfl ?_
    refine Tr.sc [_] rfl ?_
    refine Tr.iret (pc := 95) d_X11_over_95 rfl ?_
    refine Tr.sc [_] rfl ?_
    refine Tr.aload_n (pc := 726) (i := 2) d_L_law_726 rfl rfl ?_
    refine Tr.aload_n (pc := 727) (i := 0) d_L_law_727 rfl rfl ?_
    refine Tr.iload_n (pc := 728) (i := 3) d_L_law_728 rfl rfl ?_
    refine Tr.iconst (pc := 729) d_L_law_729 (by decide) ?_
    refine Tr.iadd (pc := 730) d_L_law_730 ?_
    refine Tr.tp 1 rfl ?_
    refine Tr.xld (pc := 731) (i := 0) d_L_law_731 rfl he (by decide) (by decide) ?_
    refine Tr.tp 0 g1 ?_
    refine Tr.if_eq (pc := 732) (tgt := 739) d_L_law_732 rfl (fun _ => ?_) (fun hc => absurd (by decide) hc)
    refine Tr.iconst (pc := 739) d_L_law_739 (by decide) ?_
    refine Tr.callV (pc := 740) (as := [_]) d_L_law_740 s_13_94 ok_X12_over rfl rfl (Nat.le_of_ble_eq_true rfl) (Nat.le_of_ble_eq_true rfl) (by decide) (ty_120 hF) ?_
    refine Tr.lc [(0, (2, 120)), (1, (0, 0))] rfl ?_
    refine Tr.aload_n (pc := 0) (i := 0) d_X12_over_0 rfl rfl ?_
    refine Tr.iconst (pc := 1) d_X12_over_1 (by decide) ?_
    refine Tr.callV (pc := 2) (as := [_]) d_X12_over_2 s_12_680 ok_X12_span rfl rfl (Nat.le_of_ble_eq_true rfl) (Nat.le_of_ble_eq_true rfl) (by decide) (ty_120 hF) ?_
    refine Tr.lc [(0, (2, 120)), (1, (0, 0))] rfl ?_
    refine Tr.iload_n (pc := 0) (i := 1) d_X12_span_0 rfl rfl ?_
    refine Tr.aload_n (pc := 1) (i := 0) d_X12_span_1 rfl rfl ?_
    refine Tr.getf (pc := 2) d_X12_span_2 f_12_66 (by decide) (by decide) (ty_120 hF) ?_
    refine Tr.tp 127 (fx_120_18 hF) ?_
    refine Tr.aload_n (pc := 5) (i := 0) d_X12_span_5 rfl rfl ?_
    refine Tr.getf (pc := 6) d_X12_span_6 f_12_48 (by decide) (by decide) (ty_120 hF) ?_
    refine Tr.tp 0 ((rd_wb _ rfl).trans ((rd_wb _ rfl).trans ((rd_cb _ rfl).trans ((rd_wb _ rfl).trans ((rd_cb _ rfl).trans ((rd_wb _ rfl).trans ((rd_wb _ rfl).trans ((rd_fb _ rfl).trans ((rd_wb _ rfl).trans ((rd_wb _ rfl).trans ((rd_wb _ rfl).trans ((rd_wb _ rfl).trans ((rd_wb _ rfl).trans ((rd_wb _ rfl).trans ((rd_wb _ rfl).trans ((rd_wb _ rfl).trans ((rd_wb _ rfl).trans ((rd_fb _ rfl).trans ((rd_fb _ rfl).trans ((rd_fb _ rfl).trans ((rd_fb _ rfl).trans ((rd_fb _ rfl).trans ((rd_cb _ rfl).trans ((rd_wb _ rfl).trans ((rd_cb _ rfl).trans (b_120_12)))))))))))))))))))))))))) ?_
    refine Tr.iald (pc := 9) d_X12_span_9 (ty_127 hF) (by decide) (by decide) ?_
    refine Tr.tp 0 ((rd_wb _ rfl).trans ((rd_wb _ rfl).trans ((rd_cb _ rfl).trans ((rd_wb _ rfl).trans ((rd_cb _ rfl).trans ((rd_wb _ rfl).trans ((rd_wb _ rfl).trans ((rd_fb _ rfl).trans ((rd_wb _ rfl).trans ((rd_wb _ rfl).trans ((rd_wb _ rfl).trans ((rd_wb _ rfl).trans ((rd_wb _ rfl).trans ((rd_wb _ rfl).trans ((rd_wb _ rfl).trans ((rd_wb _ rfl).trans ((rd_wb _ rfl).trans ((rd_fb _ rfl).trans ((rd_fb _ rfl).trans ((rd_fb _ rfl).trans ((rd_fb _ rfl).trans ((rd_fb _ rfl).trans ((rd_cb _ rfl).trans ((rd_wb _ rfl).trans ((rd_cb _ rfl).trans (b_127_0)))))))))))))))))))))))))) ?_
    refine Tr.icmp_ge (pc := 10) (tgt := 45) d_X12_span_10 rfl (fun _ => ?_) (fun hc => absurd (by decide) hc)
    refine Tr.iconst (pc := 45) d_X12_span_45 (by decide) ?_
    refine Tr.iret (pc := 46) d_X12_span_46 rfl ?_
    refine Tr.sc [_] rfl ?_
    refine Tr.aload_n (pc := 5) (i := 0) d_X12_over_5 rfl rfl ?_
    refine Tr.iconst (pc := 6) d_X12_over_6 (by decide) ?_
    refine Tr.callV (pc := 7) (as := [_]) d_X12_over_7 s_12_680 ok_X12_span rfl rfl (Nat.le_of_ble_eq_true rfl) (Nat.le_of_ble_eq_true rfl) (by decide) (ty_120 hF) ?_
    refine Tr.lc [(0, (2, 120)), (1, (0, 1))] rfl ?_
    refine Tr.iload_n (pc := 0) (i := 1) d_X12_span_0 rfl rfl ?_
    refine Tr.aload_n (pc := 1) (i := 0) d_X12_span_1 rfl rfl ?_
    refine Tr.getf (pc := 2) d_X12_span_2 f_12_66 (by decide) (by decide) (ty_120 hF) ?_
    refine Tr.tp 127 (fx_120_18 hF) ?_
    refine Tr.aload_n (pc := 5) (i := 0) d_X12_span_5 rfl rfl ?_
    refine Tr.getf (pc := 6) d_X12_span_6 f_12_48 (by decide) (by decide) (ty_120 hF) ?_
    refine Tr.tp 0 ((rd_wb _ rfl).trans ((rd_wb _ rfl).trans ((rd_cb _ rfl).trans ((rd_wb _ rfl).trans ((rd_cb _ rfl).trans ((rd_wb _ rfl).trans ((rd_wb _ rfl).trans ((rd_fb _ rfl).trans ((rd_wb _ rfl).trans ((rd_wb _ rfl).trans ((rd_wb _ rfl).trans ((rd_wb _ rfl).trans ((rd_wb _ rfl).trans ((rd_wb _ rfl).trans ((rd_wb _ rfl).trans ((rd_wb _ rfl).trans ((rd_wb _ rfl).trans ((rd_fb _ rfl).trans ((rd_fb _ rfl).trans ((rd_fb _ rfl).trans ((rd_fb _ rfl).trans ((rd_fb _ rfl).trans ((rd_cb _ rfl).trans ((rd_wb _ rfl).trans ((rd_cb _ rfl).trans (b_120_12)))))))))))))))))))))))))) ?_
    refine Tr.iald (pc := 9) d_X12_span_9 (ty_127 hF) (by decide) (by decide) ?_
    refine Tr.tp 0 ((rd_wb _ rfl).trans ((rd_wb _ rfl).trans ((rd_cb _ rfl).trans ((rd_wb _ rfl).trans ((rd_cb _ rfl).trans ((rd_wb _ rfl).trans ((rd_wb _ rfl).trans ((rd_fb _ rfl).trans ((rd_wb _ rfl).trans ((rd_wb _ rfl).trans ((rd_wb _ rfl).trans ((rd_wb _ rfl).trans ((rd_wb _ rfl).trans ((rd_wb _ rfl).trans ((rd_wb _ rfl).trans ((rd_wb _ rfl).trans ((rd_wb _ rfl).trans ((rd_fb _ rfl).trans ((rd_fb _ rfl).trans ((rd_fb _ rfl).trans ((rd_fb _ rfl).trans ((rd_fb _ rfl).trans ((rd_cb _ rfl).trans ((rd_wb _ rfl).trans ((rd_cb _ rfl).trans (b_127_0)))))))))))))))))))))))))) ?_
    refine Tr.icmp_ge (pc := 10) (tgt := 45) d_X12_span_10 rfl (fun _ => ?_) (fun hc => absurd (by decide) hc)
    refine Tr.iconst (pc := 45) d_X12_span_45 (by decide) ?_
    refine Tr.iret (pc := 46) d_X12_span_46 rfl ?_
    refine Tr.sc [_, _] rfl ?_
    refine Tr.imul (pc := 10) d_X12_over_10 ?_
    refine Tr.tp 1 rfl ?_
    refine Tr.aload_n (pc := 11) (i := 0) d_X12_over_11 rfl rfl ?_
    refine Tr.iconst (pc := 12) d_X12_over_12 (by decide) ?_
    refine Tr.callV (pc := 13) (as := [_]) d_X12_over_13 s_12_680 ok_X12_span rfl rfl (Nat.le_of_ble_eq_true rfl) (Nat.le_of_ble_eq_true rfl) (by decide) (ty_120 hF) ?_
    refine Tr.lc [(0, (2, 120)), (1, (0, 2))] rfl ?_
    refine Tr.iload_n (pc := 0) (i := 1) d_X12_span_0 rfl rfl ?_
    refine Tr.aload_n (pc := 1) (i := 0) d_X12_span_1 rfl rfl ?_
    refine Tr.getf (pc := 2) d_X12_span_2 f_12_66 (by decide) (by decide) (ty_120 hF) ?_
    refine Tr.tp 127 (fx_120_18 hF) ?_
    refine Tr.aload_n (pc := 5) (i := 0) d_X12_span_5 rfl rfl ?_
    refine Tr.getf (pc := 6) d_X12_span_6 f_12_48 (by decide) (by decide) (ty_120 hF) ?_
    refine Tr.tp 0 ((rd_wb _ rfl).trans ((rd_wb _ rfl).trans ((rd_cb _ rfl).trans ((rd_wb _ rfl).trans ((rd_cb _ rfl).trans ((rd_wb _ rfl).trans ((rd_wb _ rfl).trans ((rd_fb _ rfl).trans ((rd_wb _ rfl).trans ((rd_wb _ rfl).trans ((rd_wb _ rfl).trans ((rd_wb _ rfl).trans ((rd_wb _ rfl).trans ((rd_wb _ rfl).trans ((rd_wb _ rfl).trans ((rd_wb _ rfl).trans ((rd_wb _ rfl).trans ((rd_fb _ rfl).trans ((rd_fb _ rfl).trans ((rd_fb _ rfl).trans ((rd_fb _ rfl).trans ((rd_fb _ rfl).trans ((rd_cb _ rfl).trans ((rd_wb _ rfl).trans ((rd_cb _ rfl).trans (b_120_12)))))))))))))))))))))))))) ?_
    refine Tr.iald (pc := 9) d_X12_span_9 (ty_127 hF) (by decide) (by decide) ?_
    refine Tr.tp 0 ((rd_wb _ rfl).trans ((rd_wb _ rfl).trans ((rd_cb _ rfl).trans ((rd_wb _ rfl).trans ((rd_cb _ rfl).trans ((rd_wb _ rfl).trans ((rd_wb _ rfl).trans ((rd_fb _ rfl).trans ((rd_wb _ rfl).trans ((rd_wb _ rfl).trans ((rd_wb _ rfl).trans ((rd_wb _ rfl).trans ((rd_wb _ rfl).trans ((rd_wb _ rfl).trans ((rd_wb _ rfl).trans ((rd_wb _ rfl).trans ((rd_wb _ rfl).trans ((rd_fb _ rfl).trans ((rd_fb _ rfl).trans ((rd_fb _ rfl).trans ((rd_fb _ rfl).trans ((rd_fb _ rfl).trans ((rd_cb _ rfl).trans ((rd_wb _ rfl).trans ((rd_cb _ rfl).trans (b_127_0)))))))))))))))))))))))))) ?_
    refine Tr.icmp_ge (pc := 10) (tgt := 45) d_X12_span_10 rfl (fun _ => ?_) (fun hc => absurd (by decide) hc)
    refine Tr.iconst (pc := 45) d_X12_span_45 (by decide) ?_
    refine Tr.iret (pc := 46) d_X12_span_46 rfl ?_
    refine Tr.sc [_, _] rfl ?_
    refine Tr.imul (pc := 16) d_X12_over_16 ?_
    refine Tr.tp 1 rfl ?_
    refine Tr.sipush (pc := 17) d_X12_over_17 rfl (by decide) ?_
    refine Tr.icmp_le (pc := 20) (tgt := 25) d_X12_over_20 rfl (fun _ => ?_) (fun hc => absurd (by decide) hc)
    refine Tr.lconst (pc := 25) (v := 0) d_X12_over_25 rfl (by decide) ?_
    refine Tr.lstore_n (pc := 26) (i := 2) (ls2 := [(2, (1, 0)), (0, (2, 120)), (1, (0, 0))]) d_X12_over_26 rfl (by decide) rfl ?_
    refine Tr.iconst (pc := 27) d_X12_over_27 (by decide) ?_
    refine Tr.istore (pc := 28) (i := 4) (ls2 := [(4, (0, 0)), (2, (1, 0)), (0, (2, 120)), (1, (0, 0))]) d_X12_over_28 (by decide) rfl ?_
    refine Tr.iconst (pc := 30) d_X12_over_30 (by decide) ?_
    refine Tr.istore (pc := 31) (i := 5) (ls2 := [(5, (0, 0)), (4, (0, 0)), (2, (1, 0)), (0, (2, 120)), (1, (0, 0))]) d_X12_over_31 (by decide) rfl ?_
    refine Tr.iload (pc := 33) (i := 5) d_X12_over_33 rfl ?_
    refine Tr.aload_n (pc := 35) (i := 0) d_X12_over_35 rfl rfl ?_
    refine Tr.iconst (pc := 36) d_X12_over_36 (by decide) ?_
    refine Tr.callV (pc := 37) (as := [_]) d_X12_over_37 s_12_680 ok_X12_span rfl rfl (Nat.le_of_ble_eq_true rfl) (Nat.le_of_ble_eq_true rfl) (by decide) (ty_120 hF) ?_
    refine Tr.lc [(0, (2, 120)), (1, (0, 0))] rfl ?_
    refine Tr.iload_n (pc := 0) (i := 1) d_X12_span_0 rfl rfl ?_
    refine Tr.aload_n (pc := 1) (i := 0) d_X12_span_1 rfl rfl ?_
    refine Tr.getf (pc := 2) d_X12_span_2 f_12_66 (by decide) (by decide) (ty_120 hF) ?_
    refine Tr.tp 127 (fx_120_18 hF) ?_
    refine Tr.aload_n (pc := 5) (i := 0) d_X12_span_5 rfl rfl ?_
    refine Tr.getf (pc := 6) d_X12_span_6 f_12_48 (by decide) (by decide) (ty_120 hF) ?_
    refine Tr.tp 0 ((rd_wb _ rfl).trans ((rd_wb _ rfl).trans ((rd_cb _ rfl).trans ((rd_wb _ rfl).trans ((rd_cb _ rfl).trans ((rd_wb _ rfl).trans ((rd_wb _ rfl).trans ((rd_fb _ rfl).trans ((rd_wb _ rfl).trans ((rd_wb _ rfl).trans ((rd_wb _ rfl).trans ((rd_wb _ rfl).trans ((rd_wb _ rfl).trans ((rd_wb _ rfl).trans ((rd_wb _ rfl).trans ((rd_wb _ rfl).trans ((rd_wb _ rfl).trans ((rd_fb _ rfl).trans ((rd_fb _ rfl).trans ((rd_fb _ rfl).trans ((rd_fb _ rfl).trans ((rd_fb _ rfl).trans ((rd_cb _ rfl).trans ((rd_wb _ rfl).trans ((rd_cb _ rfl).trans (b_120_12)))))))))))))))))))))))))) ?_
    refine Tr.iald (pc := 9) d_X12_span_9 (ty_127 hF) (by decide) (by decide) ?_
    refine Tr.tp 0 ((rd_wb _ rfl).trans ((rd_wb _ rfl).trans ((rd_cb _ rfl).trans ((rd_wb _ rfl).trans ((rd_cb _ rfl).trans ((rd_wb _ rfl).trans ((rd_wb _ rfl).trans ((rd_fb _ rfl).trans ((rd_wb _ rfl).trans ((rd_wb _ rfl).trans ((rd_wb _ rfl).trans ((rd_wb _ rfl).trans ((rd_wb _ rfl).trans ((rd_wb _ rfl).trans ((rd_wb _ rfl).trans ((rd_wb _ rfl).trans ((rd_wb _ rfl).trans ((rd_fb _ rfl).trans ((rd_fb _ rfl).trans ((rd_fb _ rfl).trans ((rd_fb _ rfl).trans ((rd_fb _ rfl).trans ((rd_cb _ rfl).trans ((rd_wb _ rfl).trans ((rd_cb _ rfl).trans (b_127_0)))))))))))))))))))))))))) ?_
    refine Tr.icmp_ge (pc := 10) (tgt := 45) d_X12_span_10 rfl (fun _ => ?_) (fun hc => absurd (by decide) hc)
    refine Tr.iconst (pc := 45) d_X12_span_45 (by decide) ?_
    refine Tr.iret (pc := 46) d_X12_span_46 rfl ?_
    refine Tr.sc [_, _] rfl ?_
    refine Tr.icmp_ge (pc := 40) (tgt := 208) d_X12_over_40 rfl (fun hc => absurd hc (by decide)) (fun _ => ?_)
    refine Tr.iconst (pc := 43) d_X12_over_43 (by decide) ?_
    refine Tr.istore (pc := 44) (i := 6) (ls2 := [(6, (0, 0)), (5, (0, 0)), (4, (0, 0)), (2, (1, 0)), (0, (2, 120)), (1, (0, 0))]) d_X12_over_44 (by decide) rfl ?_
    refine Tr.iload (pc := 46) (i := 6) d_X12_over_46 rfl ?_
    refine Tr.aload_n (pc := 48) (i := 0) d_X12_over_48 rfl rfl ?_
    refine Tr.iconst (pc := 49) d_X12_over_49 (by decide) ?_
    refine Tr.callV (pc := 50) (as := [_]) d_X12_over_50 s_12_680 ok_X12_span rfl rfl (Nat.le_of_ble_eq_true rfl) (Nat.le_of_ble_eq_true rfl) (by decide) (ty_120 hF) ?_
    refine Tr.lc [(0, (2, 120)), (1, (0, 1))] rfl ?_
    refine Tr.iload_n (pc := 0) (i := 1) d_X12_span_0 rfl rfl ?_
    refine Tr.aload_n (pc := 1) (i := 0) d_X12_span_1 rfl rfl ?_
    refine Tr.getf (pc := 2) d_X12_span_2 f_12_66 (by decide) (by decide) (ty_120 hF) ?_
    refine Tr.tp 127 (fx_120_18 hF) ?_
    refine Tr.aload_n (pc := 5) (i := 0) d_X12_span_5 rfl rfl ?_
    refine Tr.getf (pc := 6) d_X12_span_6 f_12_48 (by decide) (by decide) (ty_120 hF) ?_
    refine Tr.tp 0 ((rd_wb _ rfl).trans ((rd_wb _ rfl).trans ((rd_cb _ rfl).trans ((rd_wb _ rfl).trans ((rd_cb _ rfl).trans ((rd_wb _ rfl).trans ((rd_wb _ rfl).trans ((rd_fb _ rfl).trans ((rd_wb _ rfl).trans ((rd_wb _ rfl).trans ((rd_wb _ rfl).trans ((rd_wb _ rfl).trans ((rd_wb _ rfl).trans ((rd_wb _ rfl).trans ((rd_wb _ rfl).trans ((rd_wb _ rfl).trans ((rd_wb _ rfl).trans ((rd_fb _ rfl).trans ((rd_fb _ rfl).trans ((rd_fb _ rfl).trans ((rd_fb _ rfl).trans ((rd_fb _ rfl).trans ((rd_cb _ rfl).trans ((rd_wb _ rfl).trans ((rd_cb _ rfl).trans (b_120_12)))))))))))))))))))))))))) ?_
    refine Tr.iald (pc := 9) d_X12_span_9 (ty_127 hF) (by decide) (by decide) ?_
    refine Tr.tp 0 ((rd_wb _ rfl).trans ((rd_wb _ rfl).trans ((rd_cb _ rfl).trans ((rd_wb _ rfl).trans ((rd_cb _ rfl).trans ((rd_wb _ rfl).trans ((rd_wb _ rfl).trans ((rd_fb _ rfl).trans ((rd_wb _ rfl).trans ((rd_wb _ rfl).trans ((rd_wb _ rfl).trans ((rd_wb _ rfl).trans ((rd_wb _ rfl).trans ((rd_wb _ rfl).trans ((rd_wb _ rfl).trans ((rd_wb _ rfl).trans ((rd_wb _ rfl).trans ((rd_fb _ rfl).trans ((rd_fb _ rfl).trans ((rd_fb _ rfl).trans ((rd_fb _ rfl).trans ((rd_fb _ rfl).trans ((rd_cb _ rfl).trans ((rd_wb _ rfl).trans ((rd_cb _ rfl).trans (b_127_0)))))))))))))))))))))))))) ?_
    refine Tr.icmp_ge (pc := 10) (tgt := 45) d_X12_span_10 rfl (fun _ => ?_) (fun hc => absurd (by decide) hc)
    refine Tr.iconst (pc := 45) d_X12_span_45 (by decide) ?_
    refine Tr.iret (pc := 46) d_X12_span_46 rfl ?_
    refine Tr.sc [_, _] rfl ?_
    refine Tr.icmp_ge (pc := 53) (tgt := 202) d_X12_over_53 rfl (fun hc => absurd hc (by decide)) (fun _ => ?_)
    refine Tr.iconst (pc := 56) d_X12_over_56 (by decide) ?_
    refine Tr.istore (pc := 57) (i := 7) (ls2 := [(7, (0, 0)), (6, (0, 0)), (5, (0, 0)), (4, (0, 0)), (2, (1, 0)), (0, (2, 120)), (1, (0, 0))]) d_X12_over_57 (by decide) rfl ?_
    refine Tr.iload (pc := 59) (i := 7) d_X12_over_59 rfl ?_
    refine Tr.aload_n (pc := 61) (i := 0) d_X12_over_61 rfl rfl ?_
    refine Tr.iconst (pc := 62) d_X12_over_62 (by decide) ?_
    refine Tr.callV (pc := 63) (as := [_]) d_X12_over_63 s_12_680 ok_X12_span rfl rfl (Nat.le_of_ble_eq_true rfl) (Nat.le_of_ble_eq_true rfl) (by decide) (ty_120 hF) ?_
    refine Tr.lc [(0, (2, 120)), (1, (0, 2))] rfl ?_
    refine Tr.iload_n (pc := 0) (i := 1) d_X12_span_0 rfl rfl ?_
    refine Tr.aload_n (pc := 1) (i := 0) d_X12_span_1 rfl rfl ?_
    refine Tr.getf (pc := 2) d_X12_span_2 f_12_66 (by decide) (by decide) (ty_120 hF) ?_
    refine Tr.tp 127 (fx_120_18 hF) ?_
    refine Tr.aload_n (pc := 5) (i := 0) d_X12_span_5 rfl rfl ?_
    refine Tr.getf (pc := 6) d_X12_span_6 f_12_48 (by decide) (by decide) (ty_120 hF) ?_
    refine Tr.tp 0 ((rd_wb _ rfl).trans ((rd_wb _ rfl).trans ((rd_cb _ rfl).trans ((rd_wb _ rfl).trans ((rd_cb _ rfl).trans ((rd_wb _ rfl).trans ((rd_wb _ rfl).trans ((rd_fb _ rfl).trans ((rd_wb _ rfl).trans ((rd_wb _ rfl).trans ((rd_wb _ rfl).trans ((rd_wb _ rfl).trans ((rd_wb _ rfl).trans ((rd_wb _ rfl).trans ((rd_wb _ rfl).trans ((rd_wb _ rfl).trans ((rd_wb _ rfl).trans ((rd_fb _ rfl).trans ((rd_fb _ rfl).trans ((rd_fb _ rfl).trans ((rd_fb _ rfl).trans ((rd_fb _ rfl).trans ((rd_cb _ rfl).trans ((rd_wb _ rfl).trans ((rd_cb _ rfl).trans (b_120_12)))))))))))))))))))))))))) ?_
    refine Tr.iald (pc := 9) d_X12_span_9 (ty_127 hF) (by decide) (by decide) ?_
    refine Tr.tp 0 ((rd_wb _ rfl).trans ((rd_wb _ rfl).trans ((rd_cb _ rfl).trans ((rd_wb _ rfl).trans ((rd_cb _ rfl).trans ((rd_wb _ rfl).trans ((rd_wb _ rfl).trans ((rd_fb _ rfl).trans ((rd_wb _ rfl).trans ((rd_wb _ rfl).trans ((rd_wb _ rfl).trans ((rd_wb _ rfl).trans ((rd_wb _ rfl).trans ((rd_wb _ rfl).trans ((rd_wb _ rfl).trans ((rd_wb _ rfl).trans ((rd_wb _ rfl).trans ((rd_fb _ rfl).trans ((rd_fb _ rfl).trans ((rd_fb _ rfl).trans ((rd_fb _ rfl).trans ((rd_fb _ rfl).trans ((rd_cb _ rfl).trans ((rd_wb _ rfl).trans ((rd_cb _ rfl).trans (b_127_0)))))))))))))))))))))))))) ?_
    refine Tr.icmp_ge (pc := 10) (tgt := 45) d_X12_span_10 rfl (fun _ => ?_) (fun hc => absurd (by decide) hc)
    refine Tr.iconst (pc := 45) d_X12_span_45 (by decide) ?_
    refine Tr.iret (pc := 46) d_X12_span_46 rfl ?_
    refine Tr.sc [_, _] rfl ?_
    refine Tr.icmp_ge (pc := 66) (tgt := 196) d_X12_over_66 rfl (fun hc => absurd hc (by decide)) (fun _ => ?_)
    refine Tr.aload_n (pc := 69) (i := 0) d_X12_over_69 rfl rfl ?_
    refine Tr.getf (pc := 70) d_X12_over_70 f_12_171 (by decide) (by decide) (ty_120 hF) ?_
    refine Tr.tp 154 (fx_120_52 hF) ?_
    refine Tr.iconst (pc := 73) d_X12_over_73 (by decide) ?_
    refine Tr.aload_n (pc := 74) (i := 0) d_X12_over_74 rfl rfl ?_
    refine Tr.iconst (pc := 75) d_X12_over_75 (by decide) ?_
    refine Tr.callV (pc := 76) (as := [_]) d_X12_over_76 s_12_683 ok_X12_lowOf rfl rfl (Nat.le_of_ble_eq_true rfl) (Nat.le_of_ble_eq_true rfl) (by decide) (ty_120 hF) ?_
    refine Tr.lc [(0, (2, 120)), (1, (0, 0))] rfl ?_
    refine Tr.iload_n (pc := 0) (i := 1) d_X12_lowOf_0 rfl rfl ?_
    refine Tr.aload_n (pc := 1) (i := 0) d_X12_lowOf_1 rfl rfl ?_
    refine Tr.getf (pc := 2) d_X12_lowOf_2 f_12_66 (by decide) (by decide) (ty_120 hF) ?_
    refine Tr.tp 127 (fx_120_18 hF) ?_
    refine Tr.aload_n (pc := 5) (i := 0) d_X12_lowOf_5 rfl rfl ?_
    refine Tr.getf (pc := 6) d_X12_lowOf_6 f_12_48 (by decide) (by decide) (ty_120 hF) ?_
    refine Tr.tp 0 ((rd_wb _ rfl).trans ((rd_wb _ rfl).trans ((rd_cb _ rfl).trans ((rd_wb _ rfl).trans ((rd_cb _ rfl).trans ((rd_wb _ rfl).trans ((rd_wb _ rfl).trans ((rd_fb _ rfl).trans ((rd_wb _ rfl).trans ((rd_wb _ rfl).trans ((rd_wb _ rfl).trans ((rd_wb _ rfl).trans ((rd_wb _ rfl).trans ((rd_wb _ rfl).trans ((rd_wb _ rfl).trans ((rd_wb _ rfl).trans ((rd_wb _ rfl).trans ((rd_fb _ rfl).trans ((rd_fb _ rfl).trans ((rd_fb _ rfl).trans ((rd_fb _ rfl).trans ((rd_fb _ rfl).trans ((rd_cb _ rfl).trans ((rd_wb _ rfl).trans ((rd_cb _ rfl).trans (b_120_12)))))))))))))))))))))))))) ?_
    refine Tr.iald (pc := 9) d_X12_lowOf_9 (ty_127 hF) (by decide) (by decide) ?_
    refine Tr.tp 0 ((rd_wb _ rfl).trans ((rd_wb _ rfl).trans ((rd_cb _ rfl).trans ((rd_wb _ rfl).trans ((rd_cb _ rfl).trans ((rd_wb _ rfl).trans ((rd_wb _ rfl).trans ((rd_fb _ rfl).trans ((rd_wb _ rfl).trans ((rd_wb _ rfl).trans ((rd_wb _ rfl).trans ((rd_wb _ rfl).trans ((rd_wb _ rfl).trans ((rd_wb _ rfl).trans ((rd_wb _ rfl).trans ((rd_wb _ rfl).trans ((rd_wb _ rfl).trans ((rd_fb _ rfl).trans ((rd_fb _ rfl).trans ((rd_fb _ rfl).trans ((rd_fb _ rfl).trans ((rd_fb _ rfl).trans ((rd_cb _ rfl).trans ((rd_wb _ rfl).trans ((rd_cb _ rfl).trans (b_127_0)))))))))))))))))))))))))) ?_
    refine Tr.icmp_ge (pc := 10) (tgt := 29) d_X12_lowOf_10 rfl (fun _ => ?_) (fun hc => absurd (by decide) hc)
    refine Tr.iconst (pc := 29) d_X12_lowOf_29 (by decide) ?_
    refine Tr.iret (pc := 30) d_X12_lowOf_30 rfl ?_
    refine Tr.sc [_, _, _] rfl ?_
    refine Tr.iload (pc := 79) (i := 5) d_X12_over_79 rfl ?_
    refine Tr.iadd (pc := 81) d_X12_over_81 ?_
    refine Tr.tp 0 rfl ?_
    refine Tr.iastX (pc := 82) d_X12_over_82 (ty_154 hF) (by decide) (by decide) hF (by decide +kernel) (fun hF => ?_)
    refine Tr.aload_n (pc := 83) (i := 0) d_X12_over_83 rfl rfl ?_
    refine Tr.getf (pc := 84) d_X12_over_84 f_12_171 (by decide) (by decide) (ty_120 hF) ?_
    refine Tr.tp 154 (fx_120_52 hF) ?_
    refine Tr.iconst (pc := 87) d_X12_over_87 (by decide) ?_
    refine Tr.aload_n (pc := 88) (i := 0) d_X12_over_88 rfl rfl ?_
    refine Tr.iconst (pc := 89) d_X12_over_89 (by decide) ?_
    refine Tr.callV (pc := 90) (as := [_]) d_X12_over_90 s_12_683 ok_X12_lowOf rfl rfl (Nat.le_of_ble_eq_true rfl) (Nat.le_of_ble_eq_true rfl) (by decide) (ty_120 hF) ?_
    refine Tr.lc [(0, (2, 120)), (1, (0, 1))] rfl ?_
    refine Tr.iload_n (pc := 0) (i := 1) d_X12_lowOf_0 rfl rfl ?_
    refine Tr.aload_n (pc := 1) (i := 0) d_X12_lowOf_1 rfl rfl ?_
    refine Tr.getf (pc := 2) d_X12_lowOf_2 f_12_66 (by decide) (by decide) (ty_120 hF) ?_
    refine Tr.tp 127 (fx_120_18 hF) ?_
    refine Tr.aload_n (pc := 5) (i := 0) d_X12_lowOf_5 rfl rfl ?_
    refine Tr.getf (pc := 6) d_X12_lowOf_6 f_12_48 (by decide) (by decide) (ty_120 hF) ?_
    refine Tr.tp 0 ((rd_wb _ rfl).trans ((rd_wb _ rfl).trans ((rd_wb _ rfl).trans ((rd_cb _ rfl).trans ((rd_wb _ rfl).trans ((rd_cb _ rfl).trans ((rd_wb _ rfl).trans ((rd_wb _ rfl).trans ((rd_fb _ rfl).trans ((rd_wb _ rfl).trans ((rd_wb _ rfl).trans ((rd_wb _ rfl).trans ((rd_wb _ rfl).trans ((rd_wb _ rfl).trans ((rd_wb _ rfl).trans ((rd_wb _ rfl).trans ((rd_wb _ rfl).trans ((rd_wb _ rfl).trans ((rd_fb _ rfl).trans ((rd_fb _ rfl).trans ((rd_fb _ rfl).trans ((rd_fb _ rfl).trans ((rd_fb _ rfl).trans ((rd_cb _ rfl).trans ((rd_wb _ rfl).trans ((rd_cb _ rfl).trans (b_120_12))))))))))))))))))))))))))) ?_
    refine Tr.iald (pc := 9) d_X12_lowOf_9 (ty_127 hF) (by decide) (by decide) ?_
    refine Tr.tp 0 ((rd_wb _ rfl).trans ((rd_wb _ rfl).trans ((rd_wb _ rfl).trans ((rd_cb _ rfl).trans ((rd_wb _ rfl).trans ((rd_cb _ rfl).trans ((rd_wb _ rfl).trans ((rd_wb _ rfl).trans ((rd_fb _ rfl).trans ((rd_wb _ rfl).trans ((rd_wb _ rfl).trans ((rd_wb _ rfl).trans ((rd_wb _ rfl).trans ((rd_wb _ rfl).trans ((rd_wb _ rfl).trans ((rd_wb _ rfl).trans ((rd_wb _ rfl).trans ((rd_wb _ rfl).trans ((rd_fb _ rfl).trans ((rd_fb _ rfl).trans ((rd_fb _ rfl).trans ((rd_fb _ rfl).trans ((rd_fb _ rfl).trans ((rd_cb _ rfl).trans ((rd_wb _ rfl).trans ((rd_cb _ rfl).trans (b_127_0))))))))))))))))))))))))))) ?_
    refine Tr.icmp_ge (pc := 10) (tgt := 29) d_X12_lowOf_10 rfl (fun _ => ?_) (fun hc => absurd (by decide) hc)
    refine Tr.iconst (pc := 29) d_X12_lowOf_29 (by decide) ?_
    refine Tr.iret (pc := 30) d_X12_lowOf_30 rfl ?_
    refine Tr.sc [_, _, _] rfl ?_
    refine Tr.iload (pc := 93) (i := 6) d_X12_over_93 rfl ?_
    refine Tr.iadd (pc := 95) d_X12_over_95 ?_
    refine Tr.tp 0 rfl ?_
    refine Tr.iastX (pc := 96) d_X12_over_96 (ty_154 hF) (by decide) (by decide) hF (by decide +kernel) (fun hF => ?_)
    refine Tr.aload_n (pc := 97) (i := 0) d_X12_over_97 rfl rfl ?_
    refine Tr.getf (pc := 98) d_X12_over_98 f_12_171 (by decide) (by decide) (ty_120 hF) ?_
    refine Tr.tp 154 (fx_120_52 hF) ?_
    refine Tr.iconst (pc := 101) d_X12_over_101 (by decide) ?_
    refine Tr.aload_n (pc := 102) (i := 0) d_X12_over_102 rfl rfl ?_
    refine Tr.iconst (pc := 103) d_X12_over_103 (by decide) ?_
    refine Tr.callV (pc := 104) (as := [_]) d_X12_over_104 s_12_683 ok_X12_lowOf rfl rfl (Nat.le_of_ble_eq_true rfl) (Nat.le_of_ble_eq_true rfl) (by decide) (ty_120 hF) ?_
    refine Tr.lc [(0, (2, 120)), (1, (0, 2))] rfl ?_
    refine Tr.iload_n (pc := 0) (i := 1) d_X12_lowOf_0 rfl rfl ?_
    refine Tr.aload_n (pc := 1) (i := 0) d_X12_lowOf_1 rfl rfl ?_
    refine Tr.getf (pc := 2) d_X12_lowOf_2 f_12_66 (by decide) (by decide) (ty_120 hF) ?_
    refine Tr.tp 127 (fx_120_18 hF) ?_
    refine Tr.aload_n (pc := 5) (i := 0) d_X12_lowOf_5 rfl rfl ?_
    refine Tr.getf (pc := 6) d_X12_lowOf_6 f_12_48 (by decide) (by decide) (ty_120 hF) ?_
    refine Tr.tp 0 ((rd_wb _ rfl).trans ((rd_wb _ rfl).trans ((rd_wb _ rfl).trans ((rd_wb _ rfl).trans ((rd_cb _ rfl).trans ((rd_wb _ rfl).trans ((rd_cb _ rfl).trans ((rd_wb _ rfl).trans ((rd_wb _ rfl).trans ((rd_fb _ rfl).trans ((rd_wb _ rfl).trans ((rd_wb _ rfl).trans ((rd_wb _ rfl).trans ((rd_wb _ rfl).trans ((rd_wb _ rfl).trans ((rd_wb _ rfl).trans ((rd_wb _ rfl).trans ((rd_wb _ rfl).trans ((rd_wb _ rfl).trans ((rd_fb _ rfl).trans ((rd_fb _ rfl).trans ((rd_fb _ rfl).trans ((rd_fb _ rfl).trans ((rd_fb _ rfl).trans ((rd_cb _ rfl).trans ((rd_wb _ rfl).trans ((rd_cb _ rfl).trans (b_120_12)))))))))))))))))))))))))))) ?_
    refine Tr.iald (pc := 9) d_X12_lowOf_9 (ty_127 hF) (by decide) (by decide) ?_
    refine Tr.tp 0 ((rd_wb _ rfl).trans ((rd_wb _ rfl).trans ((rd_wb _ rfl).trans ((rd_wb _ rfl).trans ((rd_cb _ rfl).trans ((rd_wb _ rfl).trans ((rd_cb _ rfl).trans ((rd_wb _ rfl).trans ((rd_wb _ rfl).trans ((rd_fb _ rfl).trans ((rd_wb _ rfl).trans ((rd_wb _ rfl).trans ((rd_wb _ rfl).trans ((rd_wb _ rfl).trans ((rd_wb _ rfl).trans ((rd_wb _ rfl).trans ((rd_wb _ rfl).trans ((rd_wb _ rfl).trans ((rd_wb _ rfl).trans ((rd_fb _ rfl).trans ((rd_fb _ rfl).trans ((rd_fb _ rfl).trans ((rd_fb _ rfl).trans ((rd_fb _ rfl).trans ((rd_cb _ rfl).trans ((rd_wb _ rfl).trans ((rd_cb _ rfl).trans (b_127_0)))))))))))))))))))))))))))) ?_
    refine Tr.icmp_ge (pc := 10) (tgt := 29) d_X12_lowOf_10 rfl (fun _ => ?_) (fun hc => absurd (by decide) hc)
    refine Tr.iconst (pc := 29) d_X12_lowOf_29 (by decide) ?_
    refine Tr.iret (pc := 30) d_X12_lowOf_30 rfl ?_
    refine Tr.sc [_, _, _] rfl ?_
    refine Tr.iload (pc := 107) (i := 7) d_X12_over_107 rfl ?_
    refine Tr.iadd (pc := 109) d_X12_over_109 ?_
    refine Tr.tp 0 rfl ?_
    refine Tr.iastX (pc := 110) d_X12_over_110 (ty_154 hF) (by decide) (by decide) hF (by decide +kernel) (fun hF => ?_)
    refine Tr.aload_n (pc := 111) (i := 0) d_X12_over_111 rfl rfl ?_
    refine Tr.ldc2 (pc := 112) d_X12_over_112 kl_12_686 (by decide) ?_
    refine Tr.callV (pc := 115) (as := [_]) d_X12_over_115 s_12_637 ok_X12_runs rfl rfl (Nat.le_of_ble_eq_true rfl) (Nat.le_of_ble_eq_true rfl) (by decide) (ty_120 hF) ?_
    refine Tr.lc [(0, (2, 120)), (1, (1, (-1)))] rfl ?_
    refine Tr.iconst (pc := 0) d_X12_runs_0 (by decide) ?_
    refine Tr.istore_n (pc := 1) (i := 3) (ls2 := [(3, (0, 0)), (0, (2, 120)), (1, (1, (-1)))]) d_X12_runs_1 rfl (by decide) rfl ?_
    refine Tr.iload_n (pc := 2) (i := 3) d_X12_runs_2 rfl rfl ?_
    refine Tr.bipush (pc := 3) d_X12_runs_3 rfl (by decide) ?_
    refine Tr.icmp_ge (pc := 5) (tgt := 21) d_X12_runs_5 rfl (fun hc => absurd hc (by decide)) (fun _ => ?_)
    refine Tr.aload_n (pc := 8) (i := 0) d_X12_runs_8 rfl rfl ?_
    refine Tr.getf (pc := 9) d_X12_runs_9 f_12_174 (by decide) (by decide) (ty_120 hF) ?_
    refine Tr.tp 155 (fx_120_53 hF) ?_
    refine Tr.iload_n (pc := 12) (i := 3) d_X12_runs_12 rfl rfl ?_
    refine Tr.iconst (pc := 13) d_X12_runs_13 (by decide) ?_
    refine Tr.iastX (pc := 14) d_X12_runs_14 (ty_155 hF) (by decide) (by decide) hF (by decide +kernel) (fun hF => ?_)
    refine Tr.iinc (pc := 15) (ls2 := [(3, (0, 1)), (0, (2, 120)), (1, (1, (-1)))]) d_X12_runs_15 rfl (by decide) rfl ?_
    refine Tr.goto (pc := 18) (tgt := 2) d_X12_runs_18 rfl ?_
    refine Tr.iload_n (pc := 2) (i := 3) d_X12_runs_2 rfl rfl ?_
    refine Tr.bipush (pc := 3) d_X12_runs_3 rfl (by decide) ?_
    refine Tr.icmp_ge (pc := 5) (tgt := 21) d_X12_runs_5 rfl (fun hc => absurd hc (by decide)) (fun _ => ?_)
    refine Tr.aload_n (pc := 8) (i := 0) d_X12_runs_8 rfl rfl ?_
    refine Tr.getf (pc := 9) d_X12_runs_9 f_12_174 (by decide) (by decide) (ty_120 hF) ?_
    refine Tr.tp 155 (fx_120_53 hF) ?_
    refine Tr.iload_n (pc := 12) (i := 3) d_X12_runs_12 rfl rfl ?_
    refine Tr.iconst (pc := 13) d_X12_runs_13 (by decide) ?_
    refine Tr.iastX (pc := 14) d_X12_runs_14 (ty_155 hF) (by decide) (by decide) hF (by decide +kernel) (fun hF => ?_)
    refine Tr.iinc (pc := 15) (ls2 := [(3, (0, 2)), (0, (2, 120)), (1, (1, (-1)))]) d_X12_runs_15 rfl (by decide) rfl ?_
    refine Tr.goto (pc := 18) (tgt := 2) d_X12_runs_18 rfl ?_
    refine Tr.iload_n (pc := 2) (i := 3) d_X12_runs_2 rfl rfl ?_
    refine Tr.bipush (pc := 3) d_X12_runs_3 rfl (by decide) ?_
    refine Tr.icmp_ge (pc := 5) (tgt := 21) d_X12_runs_5 rfl (fun hc => absurd hc (by decide)) (fun _ => ?_)
    refine Tr.aload_n (pc := 8) (i := 0) d_X12_runs_8 rfl rfl ?_
    refine Tr.getf (pc := 9) d_X12_runs_9 f_12_174 (by decide) (by decide) (ty_120 hF) ?_
    refine Tr.tp 155 (fx_120_53 hF) ?_
    refine Tr.iload_n (pc := 12) (i := 3) d_X12_runs_12 rfl rfl ?_
    refine Tr.iconst (pc := 13) d_X12_runs_13 (by decide) ?_
    refine Tr.iastX (pc := 14) d_X12_runs_14 (ty_155 hF) (by decide) (by decide) hF (by decide +kernel) (fun hF => ?_)
    refine Tr.iinc (pc := 15) (ls2 := [(3, (0, 3)), (0, (2, 120)), (1, (1, (-1)))]) d_X12_runs_15 rfl (by decide) rfl ?_
    refine Tr.goto (pc := 18) (tgt := 2) d_X12_runs_18 rfl ?_
    refine Tr.iload_n (pc := 2) (i := 3) d_X12_runs_2 rfl rfl ?_
    refine Tr.bipush (pc := 3) d_X12_runs_3 rfl (by decide) ?_
    refine Tr.icmp_ge (pc := 5) (tgt := 21) d_X12_runs_5 rfl (fun hc => absurd hc (by decide)) (fun _ => ?_)
    refine Tr.aload_n (pc := 8) (i := 0) d_X12_runs_8 rfl rfl ?_
    refine Tr.getf (pc := 9) d_X12_runs_9 f_12_174 (by decide) (by decide) (ty_120 hF) ?_
    refine Tr.tp 155 (fx_120_53 hF) ?_
    refine Tr.iload_n (pc := 12) (i := 3) d_X12_runs_12 rfl rfl ?_
    refine Tr.iconst (pc := 13) d_X12_runs_13 (by decide) ?_
    refine Tr.iastX (pc := 14) d_X12_runs_14 (ty_155 hF) (by decide) (by decide) hF (by decide +kernel) (fun hF => ?_)
    refine Tr.iinc (pc := 15) (ls2 := [(3, (0, 4)), (0, (2, 120)), (1, (1, (-1)))]) d_X12_runs_15 rfl (by decide) rfl ?_
    refine Tr.goto (pc := 18) (tgt := 2) d_X12_runs_18 rfl ?_
    refine Tr.iload_n (pc := 2) (i := 3) d_X12_runs_2 rfl rfl ?_
    refine Tr.bipush (pc := 3) d_X12_runs_3 rfl (by decide) ?_
    refine Tr.icmp_ge (pc := 5) (tgt := 21) d_X12_runs_5 rfl (fun hc => absurd hc (by decide)) (fun _ => ?_)
    refine Tr.aload_n (pc := 8) (i := 0) d_X12_runs_8 rfl rfl ?_
    refine Tr.getf (pc := 9) d_X12_runs_9 f_12_174 (by decide) (by decide) (ty_120 hF) ?_
    refine Tr.tp 155 (fx_120_53 hF) ?_
    refine Tr.iload_n (pc := 12) (i := 3) d_X12_runs_12 rfl rfl ?_
    refine Tr.iconst (pc := 13) d_X12_runs_13 (by decide) ?_
    refine Tr.iastX (pc := 14) d_X12_runs_14 (ty_155 hF) (by decide) (by decide) hF (by decide +kernel) (fun hF => ?_)
    refine Tr.iinc (pc := 15) (ls2 := [(3, (0, 5)), (0, (2, 120)), (1, (1, (-1)))]) d_X12_runs_15 rfl (by decide) rfl ?_
    refine Tr.goto (pc := 18) (tgt := 2) d_X12_runs_18 rfl ?_
    refine Tr.iload_n (pc := 2) (i := 3) d_X12_runs_2 rfl rfl ?_
    refine Tr.bipush (pc := 3) d_X12_runs_3 rfl (by decide) ?_
    refine Tr.icmp_ge (pc := 5) (tgt := 21) d_X12_runs_5 rfl (fun hc => absurd hc (by decide)) (fun _ => ?_)
    refine Tr.aload_n (pc := 8) (i := 0) d_X12_runs_8 rfl rfl ?_
    refine Tr.getf (pc := 9) d_X12_runs_9 f_12_174 (by decide) (by decide) (ty_120 hF) ?_
    refine Tr.tp 155 (fx_120_53 hF) ?_
    refine Tr.iload_n (pc := 12) (i := 3) d_X12_runs_12 rfl rfl ?_
    refine Tr.iconst (pc := 13) d_X12_runs_13 (by decide) ?_
    refine Tr.iastX (pc := 14) d_X12_runs_14 (ty_155 hF) (by decide) (by decide) hF (by decide +kernel) (fun hF => ?_)
    refine Tr.iinc (pc := 15) (ls2 := [(3, (0, 6)), (0, (2, 120)), (1, (1, (-1)))]) d_X12_runs_15 rfl (by decide) rfl ?_
    refine Tr.goto (pc := 18) (tgt := 2) d_X12_runs_18 rfl ?_
    refine Tr.iload_n (pc := 2) (i := 3) d_X12_runs_2 rfl rfl ?_
    refine Tr.bipush (pc := 3) d_X12_runs_3 rfl (by decide) ?_
    refine Tr.icmp_ge (pc := 5) (tgt := 21) d_X12_runs_5 rfl (fun _ => ?_) (fun hc => absurd (by decide) hc)
    refine Tr.iconst (pc := 21) d_X12_runs_21 (by decide) ?_
    refine Tr.istore_n (pc := 22) (i := 3) (ls2 := [(3, (0, 0)), (0, (2, 120)), (1, (1, (-1)))]) d_X12_runs_22 rfl (by decide) rfl ?_
    refine Tr.iload_n (pc := 23) (i := 3) d_X12_runs_23 rfl rfl ?_
    refine Tr.bipush (pc := 24) d_X12_runs_24 rfl (by decide) ?_
    refine Tr.icmp_ge (pc := 26) (tgt := 63) d_X12_runs_26 rfl (fun hc => absurd hc (by decide)) (fun _ => ?_)
    refine Tr.aload_n (pc := 29) (i := 0) d_X12_runs_29 rfl rfl ?_
    refine Tr.getf (pc := 30) d_X12_runs_30 f_12_177 (by decide) (by decide) (ty_120 hF) ?_
    refine Tr.tp 156 (fx_120_54 hF) ?_
    refine Tr.iload_n (pc := 33) (i := 3) d_X12_runs_33 rfl rfl ?_
    refine Tr.iconst (pc := 34) d_X12_runs_34 (by decide) ?_
    refine Tr.zastX (pc := 35) d_X12_runs_35 (ty_156 hF) (by decide) (by decide) (by decide) hF (by decide +kernel) (fun hF => ?_)
    refine Tr.aload_n (pc := 36) (i := 0) d_X12_runs_36 rfl rfl ?_
    refine Tr.getf (pc := 37) d_X12_runs_37 f_12_180 (by decide) (by decide) (ty_120 hF) ?_
    refine Tr.tp 157 (fx_120_55 hF) ?_
    refine Tr.iload_n (pc := 40) (i := 3) d_X12_runs_40 rfl rfl ?_
    refine Tr.iconst (pc := 41) d_X12_runs_41 (by decide) ?_
    refine Tr.iastX (pc := 42) d_X12_runs_42 (ty_157 hF) (by decide) (by decide) hF (by decide +kernel) (fun hF => ?_)
    refine Tr.aload_n (pc := 43) (i := 0) d_X12_runs_43 rfl rfl ?_
    refine Tr.getf (pc := 44) d_X12_runs_44 f_12_183 (by decide) (by decide) (ty_120 hF) ?_
    refine Tr.tp 158 (fx_120_56 hF) ?_
    refine Tr.iload_n (pc := 47) (i := 3) d_X12_runs_47 rfl rfl ?_
    refine Tr.iconst (pc := 48) d_X12_runs_48 (by decide) ?_
    refine Tr.iastX (pc := 49) d_X12_runs_49 (ty_158 hF) (by decide) (by decide) hF (by decide +kernel) (fun hF => ?_)
    refine Tr.aload_n (pc := 50) (i := 0) d_X12_runs_50 rfl rfl ?_
    refine Tr.getf (pc := 51) d_X12_runs_51 f_12_186 (by decide) (by decide) (ty_120 hF) ?_
    refine Tr.tp 159 (fx_120_57 hF) ?_
    refine Tr.iload_n (pc := 54) (i := 3) d_X12_runs_54 rfl rfl ?_
    refine Tr.iconst (pc := 55) d_X12_runs_55 (by decide) ?_
    refine Tr.iastX (pc := 56) d_X12_runs_56 (ty_159 hF) (by decide) (by decide) hF (by decide +kernel) (fun hF => ?_)
    refine Tr.iinc (pc := 57) (ls2 := [(3, (0, 1)), (0, (2, 120)), (1, (1, (-1)))]) d_X12_runs_57 rfl (by decide) rfl ?_
    refine Tr.goto (pc := 60) (tgt := 23) d_X12_runs_60 rfl ?_
    refine Tr.iload_n (pc := 23) (i := 3) d_X12_runs_23 rfl rfl ?_
    refine Tr.bipush (pc := 24) d_X12_runs_24 rfl (by decide) ?_
    refine Tr.icmp_ge (pc := 26) (tgt := 63) d_X12_runs_26 rfl (fun hc => absurd hc (by decide)) (fun _ => ?_)
    refine Tr.aload_n (pc := 29) (i := 0) d_X12_runs_29 rfl rfl ?_
    refine Tr.getf (pc := 30) d_X12_runs_30 f_12_177 (by decide) (by decide) (ty_120 hF) ?_
    refine Tr.tp 156 (fx_120_54 hF) ?_
    refine Tr.iload_n (pc := 33) (i := 3) d_X12_runs_33 rfl rfl ?_
    refine Tr.iconst (pc := 34) d_X12_runs_34 (by decide) ?_
    refine Tr.zastX (pc := 35) d_X12_runs_35 (ty_156 hF) (by decide) (by decide) (by decide) hF (by decide +kernel) (fun hF => ?_)
    refine Tr.aload_n (pc := 36) (i := 0) d_X12_runs_36 rfl rfl ?_
    refine Tr.getf (pc := 37) d_X12_runs_37 f_12_180 (by decide) (by decide) (ty_120 hF) ?_
    refine Tr.tp 157 (fx_120_55 hF) ?_
    refine Tr.iload_n (pc := 40) (i := 3) d_X12_runs_40 rfl rfl ?_
    refine Tr.iconst (pc := 41) d_X12_runs_41 (by decide) ?_
    refine Tr.iastX (pc := 42) d_X12_runs_42 (ty_157 hF) (by decide) (by decide) hF (by decide +kernel) (fun hF => ?_)
    refine Tr.aload_n (pc := 43) (i := 0) d_X12_runs_43 rfl rfl ?_
    refine Tr.getf (pc := 44) d_X12_runs_44 f_12_183 (by decide) (by decide) (ty_120 hF) ?_
    refine Tr.tp 158 (fx_120_56 hF) ?_
    refine Tr.iload_n (pc := 47) (i := 3) d_X12_runs_47 rfl rfl ?_
    refine Tr.iconst (pc := 48) d_X12_runs_48 (by decide) ?_
    refine Tr.iastX (pc := 49) d_X12_runs_49 (ty_158 hF) (by decide) (by decide) hF (by decide +kernel) (fun hF => ?_)
    refine Tr.aload_n (pc := 50) (i := 0) d_X12_runs_50 rfl rfl ?_
    refine Tr.getf (pc := 51) d_X12_runs_51 f_12_186 (by decide) (by decide) (ty_120 hF) ?_
    refine Tr.tp 159 (fx_120_57 hF) ?_
    refine Tr.iload_n (pc := 54) (i := 3) d_X12_runs_54 rfl rfl ?_
    refine Tr.iconst (pc := 55) d_X12_runs_55 (by decide) ?_
    refine Tr.iastX (pc := 56) d_X12_runs_56 (ty_159 hF) (by decide) (by decide) hF (by decide +kernel) (fun hF => ?_)
    refine Tr.iinc (pc := 57) (ls2 := [(3, (0, 2)), (0, (2, 120)), (1, (1, (-1)))]) d_X12_runs_57 rfl (by decide) rfl ?_
    refine Tr.goto (pc := 60) (tgt := 23) d_X12_runs_60 rfl ?_
    refine Tr.iload_n (pc := 23) (i := 3) d_X12_runs_23 rfl rfl ?_
    refine Tr.bipush (pc := 24) d_X12_runs_24 rfl (by decide) ?_
    refine Tr.icmp_ge (pc := 26) (tgt := 63) d_X12_runs_26 rfl (fun hc => absurd hc (by decide)) (fun _ => ?_)
    refine Tr.aload_n (pc := 29) (i := 0) d_X12_runs_29 rfl rfl ?_
    refine Tr.getf (pc := 30) d_X12_runs_30 f_12_177 (by decide) (by decide) (ty_120 hF) ?_
    refine Tr.tp 156 (fx_120_54 hF) ?_
    refine Tr.iload_n (pc := 33) (i := 3) d_X12_runs_33 rfl rfl ?_
    refine Tr.iconst (pc := 34) d_X12_runs_34 (by decide) ?_
    refine Tr.zastX (pc := 35) d_X12_runs_35 (ty_156 hF) (by decide) (by decide) (by decide) hF (by decide +kernel) (fun hF => ?_)
    refine Tr.aload_n (pc := 36) (i := 0) d_X12_runs_36 rfl rfl ?_
    refine Tr.getf (pc := 37) d_X12_runs_37 f_12_180 (by decide) (by decide) (ty_120 hF) ?_
    refine Tr.tp 157 (fx_120_55 hF) ?_
    refine Tr.iload_n (pc := 40) (i := 3) d_X12_runs_40 rfl rfl ?_
    refine Tr.iconst (pc := 41) d_X12_runs_41 (by decide) ?_
    refine Tr.iastX (pc := 42) d_X12_runs_42 (ty_157 hF) (by decide) (by decide) hF (by decide +kernel) (fun hF => ?_)
    refine Tr.aload_n (pc := 43) (i := 0) d_X12_runs_43 rfl rfl ?_
    refine Tr.getf (pc := 44) d_X12_runs_44 f_12_183 (by decide) (by decide) (ty_120 hF) ?_
    refine Tr.tp 158 (fx_120_56 hF) ?_
    refine Tr.iload_n (pc := 47) (i := 3) d_X12_runs_47 rfl rfl ?_
    refine Tr.iconst (pc := 48) d_X12_runs_48 (by decide) ?_
    refine Tr.iastX (pc := 49) d_X12_runs_49 (ty_158 hF) (by decide) (by decide) hF (by decide +kernel) (fun hF => ?_)
    refine Tr.aload_n (pc := 50) (i := 0) d_X12_runs_50 rfl rfl ?_
    refine Tr.getf (pc := 51) d_X12_runs_51 f_12_186 (by decide) (by decide) (ty_120 hF) ?_
    refine Tr.tp 159 (fx_120_57 hF) ?_
    refine Tr.iload_n (pc := 54) (i := 3) d_X12_runs_54 rfl rfl ?_
    refine Tr.iconst (pc := 55) d_X12_runs_55 (by decide) ?_
    refine Tr.iastX (pc := 56) d_X12_runs_56 (ty_159 hF) (by decide) (by decide) hF (by decide +kernel) (fun hF => ?_)
    refine Tr.iinc (pc := 57) (ls2 := [(3, (0, 3)), (0, (2, 120)), (1, (1, (-1)))]) d_X12_runs_57 rfl (by decide) rfl ?_
    refine Tr.goto (pc := 60) (tgt := 23) d_X12_runs_60 rfl ?_
    refine Tr.iload_n (pc := 23) (i := 3) d_X12_runs_23 rfl rfl ?_
    refine Tr.bipush (pc := 24) d_X12_runs_24 rfl (by decide) ?_
    refine Tr.icmp_ge (pc := 26) (tgt := 63) d_X12_runs_26 rfl (fun hc => absurd hc (by decide)) (fun _ => ?_)
    refine Tr.aload_n (pc := 29) (i := 0) d_X12_runs_29 rfl rfl ?_
    refine Tr.getf (pc := 30) d_X12_runs_30 f_12_177 (by decide) (by decide) (ty_120 hF) ?_
    refine Tr.tp 156 (fx_120_54 hF) ?_
    refine Tr.iload_n (pc := 33) (i := 3) d_X12_runs_33 rfl rfl ?_
    refine Tr.iconst (pc := 34) d_X12_runs_34 (by decide) ?_
    refine Tr.zastX (pc := 35) d_X12_runs_35 (ty_156 hF) (by decide) (by decide) (by decide) hF (by decide +kernel) (fun hF => ?_)
    refine Tr.aload_n (pc := 36) (i := 0) d_X12_runs_36 rfl rfl ?_
    refine Tr.getf (pc := 37) d_X12_runs_37 f_12_180 (by decide) (by decide) (ty_120 hF) ?_
    refine Tr.tp 157 (fx_120_55 hF) ?_
    refine Tr.iload_n (pc := 40) (i := 3) d_X12_runs_40 rfl rfl ?_
    refine Tr.iconst (pc := 41) d_X12_runs_41 (by decide) ?_
    refine Tr.iastX (pc := 42) d_X12_runs_42 (ty_157 hF) (by decide) (by decide) hF (by decide +kernel) (fun hF => ?_)
    refine Tr.aload_n (pc := 43) (i := 0) d_X12_runs_43 rfl rfl ?_
    refine Tr.getf (pc := 44) d_X12_runs_44 f_12_183 (by decide) (by decide) (ty_120 hF) ?_
    refine Tr.tp 158 (fx_120_56 hF) ?_
    refine Tr.iload_n (pc := 47) (i := 3) d_X12_runs_47 rfl rfl ?_
    refine Tr.iconst (pc := 48) d_X12_runs_48 (by decide) ?_
    refine Tr.iastX (pc := 49) d_X12_runs_49 (ty_158 hF) (by decide) (by decide) hF (by decide +kernel) (fun hF => ?_)
    refine Tr.aload_n (pc := 50) (i := 0) d_X12_runs_50 rfl rfl ?_
    refine Tr.getf (pc := 51) d_X12_runs_51 f_12_186 (by decide) (by decide) (ty_120 hF) ?_
    refine Tr.tp 159 (fx_120_57 hF) ?_
    refine Tr.iload_n (pc := 54) (i := 3) d_X12_runs_54 rfl rfl ?_
    refine Tr.iconst (pc := 55) d_X12_runs_55 (by decide) ?_
    refine Tr.iastX (pc := 56) d_X12_runs_56 (ty_159 hF) (by decide) (by decide) hF (by decide +kernel) (fun hF => ?_)
    refine Tr.iinc (pc := 57) (ls2 := [(3, (0, 4)), (0, (2, 120)), (1, (1, (-1)))]) d_X12_runs_57 rfl (by decide) rfl ?_
    refine Tr.goto (pc := 60) (tgt := 23) d_X12_runs_60 rfl ?_
    refine Tr.iload_n (pc := 23) (i := 3) d_X12_runs_23 rfl rfl ?_
    refine Tr.bipush (pc := 24) d_X12_runs_24 rfl (by decide) ?_
    refine Tr.icmp_ge (pc := 26) (tgt := 63) d_X12_runs_26 rfl (fun hc => absurd hc (by decide)) (fun _ => ?_)
    refine Tr.aload_n (pc := 29) (i := 0) d_X12_runs_29 rfl rfl ?_
    refine Tr.getf (pc := 30) d_X12_runs_30 f_12_177 (by decide) (by decide) (ty_120 hF) ?_
    refine Tr.tp 156 (fx_120_54 hF) ?_
    refine Tr.iload_n (pc := 33) (i := 3) d_X12_runs_33 rfl rfl ?_
    refine Tr.iconst (pc := 34) d_X12_runs_34 (by decide) ?_
    refine Tr.zastX (pc := 35) d_X12_runs_35 (ty_156 hF) (by decide) (by decide) (by decide) hF (by decide +kernel) (fun hF => ?_)
    refine Tr.aload_n (pc := 36) (i := 0) d_X12_runs_36 rfl rfl ?_
    refine Tr.getf (pc := 37) d_X12_runs_37 f_12_180 (by decide) (by decide) (ty_120 hF) ?_
    refine Tr.tp 157 (fx_120_55 hF) ?_
    refine Tr.iload_n (pc := 40) (i := 3) d_X12_runs_40 rfl rfl ?_
    refine Tr.iconst (pc := 41) d_X12_runs_41 (by decide) ?_
    refine Tr.iastX (pc := 42) d_X12_runs_42 (ty_157 hF) (by decide) (by decide) hF (by decide +kernel) (fun hF => ?_)
    refine Tr.aload_n (pc := 43) (i := 0) d_X12_runs_43 rfl rfl ?_
    refine Tr.getf (pc := 44) d_X12_runs_44 f_12_183 (by decide) (by decide) (ty_120 hF) ?_
    refine Tr.tp 158 (fx_120_56 hF) ?_
    refine Tr.iload_n (pc := 47) (i := 3) d_X12_runs_47 rfl rfl ?_
    refine Tr.iconst (pc := 48) d_X12_runs_48 (by decide) ?_
    refine Tr.iastX (pc := 49) d_X12_runs_49 (ty_158 hF) (by decide) (by decide) hF (by decide +kernel) (fun hF => ?_)
    refine Tr.aload_n (pc := 50) (i := 0) d_X12_runs_50 rfl rfl ?_
    refine Tr.getf (pc := 51) d_X12_runs_51 f_12_186 (by decide) (by decide) (ty_120 hF) ?_
    refine Tr.tp 159 (fx_120_57 hF) ?_
    refine Tr.iload_n (pc := 54) (i := 3) d_X12_runs_54 rfl rfl ?_
    refine Tr.iconst (pc := 55) d_X12_runs_55 (by decide) ?_
    refine Tr.iastX (pc := 56) d_X12_runs_56 (ty_159 hF) (by decide) (by decide) hF (by decide +kernel) (fun hF => ?_)
    refine Tr.iinc (pc := 57) (ls2 := [(3, (0, 5)), (0, (2, 120)), (1, (1, (-1)))]) d_X12_runs_57 rfl (by decide) rfl ?_
    refine Tr.goto (pc := 60) (tgt := 23) d_X12_runs_60 rfl ?_
    refine Tr.iload_n (pc := 23) (i := 3) d_X12_runs_23 rfl rfl ?_
    refine Tr.bipush (pc := 24) d_X12_runs_24 rfl (by decide) ?_
    refine Tr.icmp_ge (pc := 26) (tgt := 63) d_X12_runs_26 rfl (fun hc => absurd hc (by decide)) (fun _ => ?_)
    refine Tr.aload_n (pc := 29) (i := 0) d_X12_runs_29 rfl rfl ?_
    refine Tr.getf (pc := 30) d_X12_runs_30 f_12_177 (by decide) (by decide) (ty_120 hF) ?_
    refine Tr.tp 156 (fx_120_54 hF) ?_
    refine Tr.iload_n (pc := 33) (i := 3) d_X12_runs_33 rfl rfl ?_
    refine Tr.iconst (pc := 34) d_X12_runs_34 (by decide) ?_
    refine Tr.zastX (pc := 35) d_X12_runs_35 (ty_156 hF) (by decide) (by decide) (by decide) hF (by decide +kernel) (fun hF => ?_)
    refine Tr.aload_n (pc := 36) (i := 0) d_X12_runs_36 rfl rfl ?_
    refine Tr.getf (pc := 37) d_X12_runs_37 f_12_180 (by decide) (by decide) (ty_120 hF) ?_
    refine Tr.tp 157 (fx_120_55 hF) ?_
    refine Tr.iload_n (pc := 40) (i := 3) d_X12_runs_40 rfl rfl ?_
    refine Tr.iconst (pc := 41) d_X12_runs_41 (by decide) ?_
    refine Tr.iastX (pc := 42) d_X12_runs_42 (ty_157 hF) (by decide) (by decide) hF (by decide +kernel) (fun hF => ?_)
    refine Tr.aload_n (pc := 43) (i := 0) d_X12_runs_43 rfl rfl ?_
    refine Tr.getf (pc := 44) d_X12_runs_44 f_12_183 (by decide) (by decide) (ty_120 hF) ?_
    refine Tr.tp 158 (fx_120_56 hF) ?_
    refine Tr.iload_n (pc := 47) (i := 3) d_X12_runs_47 rfl rfl ?_
    refine Tr.iconst (pc := 48) d_X12_runs_48 (by decide) ?_
    refine Tr.iastX (pc := 49) d_X12_runs_49 (ty_158 hF) (by decide) (by decide) hF (by decide +kernel) (fun hF => ?_)
    refine Tr.aload_n (pc := 50) (i := 0) d_X12_runs_50 rfl rfl ?_
    refine Tr.getf (pc := 51) d_X12_runs_51 f_12_186 (by decide) (by decide) (ty_120 hF) ?_
    refine Tr.tp 159 (fx_120_57 hF) ?_
    refine Tr.iload_n (pc := 54) (i := 3) d_X12_runs_54 rfl rfl ?_
    refine Tr.iconst (pc := 55) d_X12_runs_55 (by decide) ?_
    refine Tr.iastX (pc := 56) d_X12_runs_56 (ty_159 hF) (by decide) (by decide) hF (by decide +kernel) (fun hF => ?_)
    refine Tr.iinc (pc := 57) (ls2 := [(3, (0, 6)), (0, (2, 120)), (1, (1, (-1)))]) d_X12_runs_57 rfl (by decide) rfl ?_
    refine Tr.goto (pc := 60) (tgt := 23) d_X12_runs_60 rfl ?_
    refine Tr.iload_n (pc := 23) (i := 3) d_X12_runs_23 rfl rfl ?_
    refine Tr.bipush (pc := 24) d_X12_runs_24 rfl (by decide) ?_
    refine Tr.icmp_ge (pc := 26) (tgt := 63) d_X12_runs_26 rfl (fun _ => ?_) (fun hc => absurd (by decide) hc)
    refine Tr.iconst (pc := 63) d_X12_runs_63 (by decide) ?_
    refine Tr.istore_n (pc := 64) (i := 3) (ls2 := [(3, (0, 0)), (0, (2, 120)), (1, (1, (-1)))]) d_X12_runs_64 rfl (by decide) rfl ?_
    refine Tr.iload_n (pc := 65) (i := 3) d_X12_runs_65 rfl rfl ?_
    refine Tr.bipush (pc := 66) d_X12_runs_66 rfl (by decide) ?_
    refine Tr.icmp_ge (pc := 68) (tgt := 84) d_X12_runs_68 rfl (fun hc => absurd hc (by decide)) (fun _ => ?_)
    refine Tr.aload_n (pc := 71) (i := 0) d_X12_runs_71 rfl rfl ?_
    refine Tr.getf (pc := 72) d_X12_runs_72 f_12_189 (by decide) (by decide) (ty_120 hF) ?_
    refine Tr.tp 160 (fx_120_58 hF) ?_
    refine Tr.iload_n (pc := 75) (i := 3) d_X12_runs_75 rfl rfl ?_
    refine Tr.iconst (pc := 76) d_X12_runs_76 (by decide) ?_
    refine Tr.iastX (pc := 77) d_X12_runs_77 (ty_160 hF) (by decide) (by decide) hF (by decide +kernel) (fun hF => ?_)
    refine Tr.iinc (pc := 78) (ls2 := [(3, (0, 1)), (0, (2, 120)), (1, (1, (-1)))]) d_X12_runs_78 rfl (by decide) rfl ?_
    refine Tr.goto (pc := 81) (tgt := 65) d_X12_runs_81 rfl ?_
    refine Tr.iload_n (pc := 65) (i := 3) d_X12_runs_65 rfl rfl ?_
    refine Tr.bipush (pc := 66) d_X12_runs_66 rfl (by decide) ?_
    refine Tr.icmp_ge (pc := 68) (tgt := 84) d_X12_runs_68 rfl (fun hc => absurd hc (by decide)) (fun _ => ?_)
    refine Tr.aload_n (pc := 71) (i := 0) d_X12_runs_71 rfl rfl ?_
    refine Tr.getf (pc := 72) d_X12_runs_72 f_12_189 (by decide) (by decide) (ty_120 hF) ?_
    refine Tr.tp 160 (fx_120_58 hF) ?_
    refine Tr.iload_n (pc := 75) (i := 3) d_X12_runs_75 rfl rfl ?_
    refine Tr.iconst (pc := 76) d_X12_runs_76 (by decide) ?_
    refine Tr.iastX (pc := 77) d_X12_runs_77 (ty_160 hF) (by decide) (by decide) hF (by decide +kernel) (fun hF => ?_)
    refine Tr.iinc (pc := 78) (ls2 := [(3, (0, 2)), (0, (2, 120)), (1, (1, (-1)))]) d_X12_runs_78 rfl (by decide) rfl ?_
    refine Tr.goto (pc := 81) (tgt := 65) d_X12_runs_81 rfl ?_
    refine Tr.iload_n (pc := 65) (i := 3) d_X12_runs_65 rfl rfl ?_
    refine Tr.bipush (pc := 66) d_X12_runs_66 rfl (by decide) ?_
    refine Tr.icmp_ge (pc := 68) (tgt := 84) d_X12_runs_68 rfl (fun hc => absurd hc (by decide)) (fun _ => ?_)
    refine Tr.aload_n (pc := 71) (i := 0) d_X12_runs_71 rfl rfl ?_
    refine Tr.getf (pc := 72) d_X12_runs_72 f_12_189 (by decide) (by decide) (ty_120 hF) ?_
    refine Tr.tp 160 (fx_120_58 hF) ?_
    refine Tr.iload_n (pc := 75) (i := 3) d_X12_runs_75 rfl rfl ?_
    refine Tr.iconst (pc := 76) d_X12_runs_76 (by decide) ?_
    refine Tr.iastX (pc := 77) d_X12_runs_77 (ty_160 hF) (by decide) (by decide) hF (by decide +kernel) (fun hF => ?_)
    refine Tr.iinc (pc := 78) (ls2 := [(3, (0, 3)), (0, (2, 120)), (1, (1, (-1)))]) d_X12_runs_78 rfl (by decide) rfl ?_
    refine Tr.goto (pc := 81) (tgt := 65) d_X12_runs_81 rfl ?_
    refine Tr.iload_n (pc := 65) (i := 3) d_X12_runs_65 rfl rfl ?_
    refine Tr.bipush (pc := 66) d_X12_runs_66 rfl (by decide) ?_
    refine Tr.icmp_ge (pc := 68) (tgt := 84) d_X12_runs_68 rfl (fun hc => absurd hc (by decide)) (fun _ => ?_)
    refine Tr.aload_n (pc := 71) (i := 0) d_X12_runs_71 rfl rfl ?_
    refine Tr.getf (pc := 72) d_X12_runs_72 f_12_189 (by decide) (by decide) (ty_120 hF) ?_
    refine Tr.tp 160 (fx_120_58 hF) ?_
    refine Tr.iload_n (pc := 75) (i := 3) d_X12_runs_75 rfl rfl ?_
    refine Tr.iconst (pc := 76) d_X12_runs_76 (by decide) ?_
    refine Tr.iastX (pc := 77) d_X12_runs_77 (ty_160 hF) (by decide) (by decide) hF (by decide +kernel) (fun hF => ?_)
    refine Tr.iinc (pc := 78) (ls2 := [(3, (0, 4)), (0, (2, 120)), (1, (1, (-1)))]) d_X12_runs_78 rfl (by decide) rfl ?_
    refine Tr.goto (pc := 81) (tgt := 65) d_X12_runs_81 rfl ?_
    refine Tr.iload_n (pc := 65) (i := 3) d_X12_runs_65 rfl rfl ?_
    refine Tr.bipush (pc := 66) d_X12_runs_66 rfl (by decide) ?_
    refine Tr.icmp_ge (pc := 68) (tgt := 84) d_X12_runs_68 rfl (fun hc => absurd hc (by decide)) (fun _ => ?_)
    refine Tr.aload_n (pc := 71) (i := 0) d_X12_runs_71 rfl rfl ?_
    refine Tr.getf (pc := 72) d_X12_runs_72 f_12_189 (by decide) (by decide) (ty_120 hF) ?_
    refine Tr.tp 160 (fx_120_58 hF) ?_
    refine Tr.iload_n (pc := 75) (i := 3) d_X12_runs_75 rfl rfl ?_
    refine Tr.iconst (pc := 76) d_X12_runs_76 (by decide) ?_
    refine Tr.iastX (pc := 77) d_X12_runs_77 (ty_160 hF) (by decide) (by decide) hF (by decide +kernel) (fun hF => ?_)
    refine Tr.iinc (pc := 78) (ls2 := [(3, (0, 5)), (0, (2, 120)), (1, (1, (-1)))]) d_X12_runs_78 rfl (by decide) rfl ?_
    refine Tr.goto (pc := 81) (tgt := 65) d_X12_runs_81 rfl ?_
    refine Tr.iload_n (pc := 65) (i := 3) d_X12_runs_65 rfl rfl ?_
    refine Tr.bipush (pc := 66) d_X12_runs_66 rfl (by decide) ?_
    refine Tr.icmp_ge (pc := 68) (tgt := 84) d_X12_runs_68 rfl (fun hc => absurd hc (by decide)) (fun _ => ?_)
    refine Tr.aload_n (pc := 71) (i := 0) d_X12_runs_71 rfl rfl ?_
    refine Tr.getf (pc := 72) d_X12_runs_72 f_12_189 (by decide) (by decide) (ty_120 hF) ?_
    refine Tr.tp 160 (fx_120_58 hF) ?_
    refine Tr.iload_n (pc := 75) (i := 3) d_X12_runs_75 rfl rfl ?_
    refine Tr.iconst (pc := 76) d_X12_runs_76 (by decide) ?_
    refine Tr.iastX (pc := 77) d_X12_runs_77 (ty_160 hF) (by decide) (by decide) hF (by decide +kernel) (fun hF => ?_)
    refine Tr.iinc (pc := 78) (ls2 := [(3, (0, 6)), (0, (2, 120)), (1, (1, (-1)))]) d_X12_runs_78 rfl (by decide) rfl ?_
    refine Tr.goto (pc := 81) (tgt := 65) d_X12_runs_81 rfl ?_
    refine Tr.iload_n (pc := 65) (i := 3) d_X12_runs_65 rfl rfl ?_
    refine Tr.bipush (pc := 66) d_X12_runs_66 rfl (by decide) ?_
    refine Tr.icmp_ge (pc := 68) (tgt := 84) d_X12_runs_68 rfl (fun hc => absurd hc (by decide)) (fun _ => ?_)
    refine Tr.aload_n (pc := 71) (i := 0) d_X12_runs_71 rfl rfl ?_
    refine Tr.getf (pc := 72) d_X12_runs_72 f_12_189 (by decide) (by decide) (ty_120 hF) ?_
    refine Tr.tp 160 (fx_120_58 hF) ?_
    refine Tr.iload_n (pc := 75) (i := 3) d_X12_runs_75 rfl rfl ?_
    refine Tr.iconst (pc := 76) d_X12_runs_76 (by decide) ?_
    refine Tr.iastX (pc := 77) d_X12_runs_77 (ty_160 hF) (by decide) (by decide) hF (by decide +kernel) (fun hF => ?_)
    refine Tr.iinc (pc := 78) (ls2 := [(3, (0, 7)), (0, (2, 120)), (1, (1, (-1)))]) d_X12_runs_78 rfl (by decide) rfl ?_
    refine Tr.goto (pc := 81) (tgt := 65) d_X12_runs_81 rfl ?_
    refine Tr.iload_n (pc := 65) (i := 3) d_X12_runs_65 rfl rfl ?_
    refine Tr.bipush (pc := 66) d_X12_runs_66 rfl (by decide) ?_
    refine Tr.icmp_ge (pc := 68) (tgt := 84) d_X12_runs_68 rfl (fun hc => absurd hc (by decide)) (fun _ => ?_)
    refine Tr.aload_n (pc := 71) (i := 0) d_X12_runs_71 rfl rfl ?_
    refine Tr.getf (pc := 72) d_X12_runs_72 f_12_189 (by decide) (by decide) (ty_120 hF) ?_
    refine Tr.tp 160 (fx_120_58 hF) ?_
    refine Tr.iload_n (pc := 75) (i := 3) d_X12_runs_75 rfl rfl ?_
    refine Tr.iconst (pc := 76) d_X12_runs_76 (by decide) ?_
    refine Tr.iastX (pc := 77) d_X12_runs_77 (ty_160 hF) (by decide) (by decide) hF (by decide +kernel) (fun hF => ?_)
    refine Tr.iinc (pc := 78) (ls2 := [(3, (0, 8)), (0, (2, 120)), (1, (1, (-1)))]) d_X12_runs_78 rfl (by decide) rfl ?_
    refine Tr.goto (pc := 81) (tgt := 65) d_X12_runs_81 rfl ?_
    refine Tr.iload_n (pc := 65) (i := 3) d_X12_runs_65 rfl rfl ?_
    refine Tr.bipush (pc := 66) d_X12_runs_66 rfl (by decide) ?_
    refine Tr.icmp_ge (pc := 68) (tgt := 84) d_X12_runs_68 rfl (fun _ => ?_) (fun hc => absurd (by decide) hc)
    refine Tr.iconst (pc := 84) d_X12_runs_84 (by decide) ?_
    refine Tr.istore_n (pc := 85) (i := 3) (ls2 := [(3, (0, 0)), (0, (2, 120)), (1, (1, (-1)))]) d_X12_runs_85 rfl (by decide) rfl ?_
    refine Tr.iload_n (pc := 86) (i := 3) d_X12_runs_86 rfl rfl ?_
    refine Tr.bipush (pc := 87) d_X12_runs_87 rfl (by decide) ?_
    refine Tr.icmp_ge (pc := 89) (tgt := 105) d_X12_runs_89 rfl (fun hc => absurd hc (by decide)) (fun _ => ?_)
    refine Tr.aload_n (pc := 92) (i := 0) d_X12_runs_92 rfl rfl ?_
    refine Tr.getf (pc := 93) d_X12_runs_93 f_12_222 (by decide) (by decide) (ty_120 hF) ?_
    refine Tr.tp 161 (fx_120_69 hF) ?_
    refine Tr.iload_n (pc := 96) (i := 3) d_X12_runs_96 rfl rfl ?_
    refine Tr.iconst (pc := 97) d_X12_runs_97 (by decide) ?_
    refine Tr.iastX (pc := 98) d_X12_runs_98 (ty_161 hF) (by decide) (by decide) hF (by decide +kernel) (fun hF => ?_)
    refine Tr.iinc (pc := 99) (ls2 := [(3, (0, 1)), (0, (2, 120)), (1, (1, (-1)))]) d_X12_runs_99 rfl (by decide) rfl ?_
    refine Tr.goto (pc := 102) (tgt := 86) d_X12_runs_102 rfl ?_
    refine Tr.iload_n (pc := 86) (i := 3) d_X12_runs_86 rfl rfl ?_
    refine Tr.bipush (pc := 87) d_X12_runs_87 rfl (by decide) ?_
    refine Tr.icmp_ge (pc := 89) (tgt := 105) d_X12_runs_89 rfl (fun hc => absurd hc (by decide)) (fun _ => ?_)
    refine Tr.aload_n (pc := 92) (i := 0) d_X12_runs_92 rfl rfl ?_
    refine Tr.getf (pc := 93) d_X12_runs_93 f_12_222 (by decide) (by decide) (ty_120 hF) ?_
    refine Tr.tp 161 (fx_120_69 hF) ?_
    refine Tr.iload_n (pc := 96) (i := 3) d_X12_runs_96 rfl rfl ?_
    refine Tr.iconst (pc := 97) d_X12_runs_97 (by decide) ?_
    refine Tr.iastX (pc := 98) d_X12_runs_98 (ty_161 hF) (by decide) (by decide) hF (by decide +kernel) (fun hF => ?_)
    refine Tr.iinc (pc := 99) (ls2 := [(3, (0, 2)), (0, (2, 120)), (1, (1, (-1)))]) d_X12_runs_99 rfl (by decide) rfl ?_
    refine Tr.goto (pc := 102) (tgt := 86) d_X12_runs_102 rfl ?_
    refine Tr.iload_n (pc := 86) (i := 3) d_X12_runs_86 rfl rfl ?_
    refine Tr.bipush (pc := 87) d_X12_runs_87 rfl (by decide) ?_
    refine Tr.icmp_ge (pc := 89) (tgt := 105) d_X12_runs_89 rfl (fun hc => absurd hc (by decide)) (fun _ => ?_)
    refine Tr.aload_n (pc := 92) (i := 0) d_X12_runs_92 rfl rfl ?_
    refine Tr.getf (pc := 93) d_X12_runs_93 f_12_222 (by decide) (by decide) (ty_120 hF) ?_
    refine Tr.tp 161 (fx_120_69 hF) ?_
    refine Tr.iload_n (pc := 96) (i := 3) d_X12_runs_96 rfl rfl ?_
    refine Tr.iconst (pc := 97) d_X12_runs_97 (by decide) ?_
    refine Tr.iastX (pc := 98) d_X12_runs_98 (ty_161 hF) (by decide) (by decide) hF (by decide +kernel) (fun hF => ?_)
    refine Tr.iinc (pc := 99) (ls2 := [(3, (0, 3)), (0, (2, 120)), (1, (1, (-1)))]) d_X12_runs_99 rfl (by decide) rfl ?_
    refine Tr.goto (pc := 102) (tgt := 86) d_X12_runs_102 rfl ?_
    refine Tr.iload_n (pc := 86) (i := 3) d_X12_runs_86 rfl rfl ?_
    refine Tr.bipush (pc := 87) d_X12_runs_87 rfl (by decide) ?_
    refine Tr.icmp_ge (pc := 89) (tgt := 105) d_X12_runs_89 rfl (fun hc => absurd hc (by decide)) (fun _ => ?_)
    refine Tr.aload_n (pc := 92) (i := 0) d_X12_runs_92 rfl rfl ?_
    refine Tr.getf (pc := 93) d_X12_runs_93 f_12_222 (by decide) (by decide) (ty_120 hF) ?_
    refine Tr.tp 161 (fx_120_69 hF) ?_
    refine Tr.iload_n (pc := 96) (i := 3) d_X12_runs_96 rfl rfl ?_
    refine Tr.iconst (pc := 97) d_X12_runs_97 (by decide) ?_
    refine Tr.iastX (pc := 98) d_X12_runs_98 (ty_161 hF) (by decide) (by decide) hF (by decide +kernel) (fun hF => ?_)
    refine Tr.iinc (pc := 99) (ls2 := [(3, (0, 4)), (0, (2, 120)), (1, (1, (-1)))]) d_X12_runs_99 rfl (by decide) rfl ?_
    refine Tr.goto (pc := 102) (tgt := 86) d_X12_runs_102 rfl ?_
    refine Tr.iload_n (pc := 86) (i := 3) d_X12_runs_86 rfl rfl ?_
    refine Tr.bipush (pc := 87) d_X12_runs_87 rfl (by decide) ?_
    refine Tr.icmp_ge (pc := 89) (tgt := 105) d_X12_runs_89 rfl (fun hc => absurd hc (by decide)) (fun _ => ?_)
    refine Tr.aload_n (pc := 92) (i := 0) d_X12_runs_92 rfl rfl ?_
    refine Tr.getf (pc := 93) d_X12_runs_93 f_12_222 (by decide) (by decide) (ty_120 hF) ?_
    refine Tr.tp 161 (fx_120_69 hF) ?_
    refine Tr.iload_n (pc := 96) (i := 3) d_X12_runs_96 rfl rfl ?_
    refine Tr.iconst (pc := 97) d_X12_runs_97 (by decide) ?_
    refine Tr.iastX (pc := 98) d_X12_runs_98 (ty_161 hF) (by decide) (by decide) hF (by decide +kernel) (fun hF => ?_)
    refine Tr.iinc (pc := 99) (ls2 := [(3, (0, 5)), (0, (2, 120)), (1, (1, (-1)))]) d_X12_runs_99 rfl (by decide) rfl ?_
    refine Tr.goto (pc := 102) (tgt := 86) d_X12_runs_102 rfl ?_
    refine Tr.iload_n (pc := 86) (i := 3) d_X12_runs_86 rfl rfl ?_
    refine Tr.bipush (pc := 87) d_X12_runs_87 rfl (by decide) ?_
    refine Tr.icmp_ge (pc := 89) (tgt := 105) d_X12_runs_89 rfl (fun hc => absurd hc (by decide)) (fun _ => ?_)
    refine Tr.aload_n (pc := 92) (i := 0) d_X12_runs_92 rfl rfl ?_
    refine Tr.getf (pc := 93) d_X12_runs_93 f_12_222 (by decide) (by decide) (ty_120 hF) ?_
    refine Tr.tp 161 (fx_120_69 hF) ?_
    refine Tr.iload_n (pc := 96) (i := 3) d_X12_runs_96 rfl rfl ?_
    refine Tr.iconst (pc := 97) d_X12_runs_97 (by decide) ?_
    refine Tr.iastX (pc := 98) d_X12_runs_98 (ty_161 hF) (by decide) (by decide) hF (by decide +kernel) (fun hF => ?_)
    refine Tr.iinc (pc := 99) (ls2 := [(3, (0, 6)), (0, (2, 120)), (1, (1, (-1)))]) d_X12_runs_99 rfl (by decide) rfl ?_
    refine Tr.goto (pc := 102) (tgt := 86) d_X12_runs_102 rfl ?_
    refine Tr.iload_n (pc := 86) (i := 3) d_X12_runs_86 rfl rfl ?_
    refine Tr.bipush (pc := 87) d_X12_runs_87 rfl (by decide) ?_
    refine Tr.icmp_ge (pc := 89) (tgt := 105) d_X12_runs_89 rfl (fun hc => absurd hc (by decide)) (fun _ => ?_)
    refine Tr.aload_n (pc := 92) (i := 0) d_X12_runs_92 rfl rfl ?_
    refine Tr.getf (pc := 93) d_X12_runs_93 f_12_222 (by decide) (by decide) (ty_120 hF) ?_
    refine Tr.tp 161 (fx_120_69 hF) ?_
    refine Tr.iload_n (pc := 96) (i := 3) d_X12_runs_96 rfl rfl ?_
    refine Tr.iconst (pc := 97) d_X12_runs_97 (by decide) ?_
    refine Tr.iastX (pc := 98) d_X12_runs_98 (ty_161 hF) (by decide) (by decide) hF (by decide +kernel) (fun hF => ?_)
    refine Tr.iinc (pc := 99) (ls2 := [(3, (0, 7)), (0, (2, 120)), (1, (1, (-1)))]) d_X12_runs_99 rfl (by decide) rfl ?_
    refine Tr.goto (pc := 102) (tgt := 86) d_X12_runs_102 rfl ?_
    refine Tr.iload_n (pc := 86) (i := 3) d_X12_runs_86 rfl rfl ?_
    refine Tr.bipush (pc := 87) d_X12_runs_87 rfl (by decide) ?_
    refine Tr.icmp_ge (pc := 89) (tgt := 105) d_X12_runs_89 rfl (fun hc => absurd hc (by decide)) (fun _ => ?_)
    refine Tr.aload_n (pc := 92) (i := 0) d_X12_runs_92 rfl rfl ?_
    refine Tr.getf (pc := 93) d_X12_runs_93 f_12_222 (by decide) (by decide) (ty_120 hF) ?_
    refine Tr.tp 161 (fx_120_69 hF) ?_
    refine Tr.iload_n (pc := 96) (i := 3) d_X12_runs_96 rfl rfl ?_
    refine Tr.iconst (pc := 97) d_X12_runs_97 (by decide) ?_
    refine Tr.iastX (pc := 98) d_X12_runs_98 (ty_161 hF) (by decide) (by decide) hF (by decide +kernel) (fun hF => ?_)
    refine Tr.iinc (pc := 99) (ls2 := [(3, (0, 8)), (0, (2, 120)), (1, (1, (-1)))]) d_X12_runs_99 rfl (by decide) rfl ?_
    refine Tr.goto (pc := 102) (tgt := 86) d_X12_runs_102 rfl ?_
    refine Tr.iload_n (pc := 86) (i := 3) d_X12_runs_86 rfl rfl ?_
    refine Tr.bipush (pc := 87) d_X12_runs_87 rfl (by decide) ?_
    refine Tr.icmp_ge (pc := 89) (tgt := 105) d_X12_runs_89 rfl (fun hc => absurd hc (by decide)) (fun _ => ?_)
    refine Tr.aload_n (pc := 92) (i := 0) d_X12_runs_92 rfl rfl ?_
    refine Tr.getf (pc := 93) d_X12_runs_93 f_12_222 (by decide) (by decide) (ty_120 hF) ?_
    refine Tr.tp 161 (fx_120_69 hF) ?_
    refine Tr.iload_n (pc := 96) (i := 3) d_X12_runs_96 rfl rfl ?_
    refine Tr.iconst (pc := 97) d_X12_runs_97 (by decide) ?_
    refine Tr.iastX (pc := 98) d_X12_runs_98 (ty_161 hF) (by decide) (by decide) hF (by decide +kernel) (fun hF => ?_)
    refine Tr.iinc (pc := 99) (ls2 := [(3, (0, 9)), (0, (2, 120)), (1, (1, (-1)))]) d_X12_runs_99 rfl (by decide) rfl ?_
    refine Tr.goto (pc := 102) (tgt := 86) d_X12_runs_102 rfl ?_
    refine Tr.iload_n (pc := 86) (i := 3) d_X12_runs_86 rfl rfl ?_
    refine Tr.bipush (pc := 87) d_X12_runs_87 rfl (by decide) ?_
    refine Tr.icmp_ge (pc := 89) (tgt := 105) d_X12_runs_89 rfl (fun hc => absurd hc (by decide)) (fun _ => ?_)
    refine Tr.aload_n (pc := 92) (i := 0) d_X12_runs_92 rfl rfl ?_
    refine Tr.getf (pc := 93) d_X12_runs_93 f_12_222 (by decide) (by decide) (ty_120 hF) ?_
    refine Tr.tp 161 (fx_120_69 hF) ?_
    refine Tr.iload_n (pc := 96) (i := 3) d_X12_runs_96 rfl rfl ?_
    refine Tr.iconst (pc := 97) d_X12_runs_97 (by decide) ?_
    refine Tr.iastX (pc := 98) d_X12_runs_98 (ty_161 hF) (by decide) (by decide) hF (by decide +kernel) (fun hF => ?_)
    refine Tr.iinc (pc := 99) (ls2 := [(3, (0, 10)), (0, (2, 120)), (1, (1, (-1)))]) d_X12_runs_99 rfl (by decide) rfl ?_
    refine Tr.goto (pc := 102) (tgt := 86) d_X12_runs_102 rfl ?_
    refine Tr.iload_n (pc := 86) (i := 3) d_X12_runs_86 rfl rfl ?_
    refine Tr.bipush (pc := 87) d_X12_runs_87 rfl (by decide) ?_
    refine Tr.icmp_ge (pc := 89) (tgt := 105) d_X12_runs_89 rfl (fun hc => absurd hc (by decide)) (fun _ => ?_)
    refine Tr.aload_n (pc := 92) (i := 0) d_X12_runs_92 rfl rfl ?_
    refine Tr.getf (pc := 93) d_X12_runs_93 f_12_222 (by decide) (by decide) (ty_120 hF) ?_
    refine Tr.tp 161 (fx_120_69 hF) ?_
    refine Tr.iload_n (pc := 96) (i := 3) d_X12_runs_96 rfl rfl ?_
    refine Tr.iconst (pc := 97) d_X12_runs_97 (by decide) ?_
    refine Tr.iastX (pc := 98) d_X12_runs_98 (ty_161 hF) (by decide) (by decide) hF (by decide +kernel) (fun hF => ?_)
    refine Tr.iinc (pc := 99) (ls2 := [(3, (0, 11)), (0, (2, 120)), (1, (1, (-1)))]) d_X12_runs_99 rfl (by decide) rfl ?_
    refine Tr.goto (pc := 102) (tgt := 86) d_X12_runs_102 rfl ?_
    refine Tr.iload_n (pc := 86) (i := 3) d_X12_runs_86 rfl rfl ?_
    refine Tr.bipush (pc := 87) d_X12_runs_87 rfl (by decide) ?_
    refine Tr.icmp_ge (pc := 89) (tgt := 105) d_X12_runs_89 rfl (fun hc => absurd hc (by decide)) (fun _ => ?_)
    refine Tr.aload_n (pc := 92) (i := 0) d_X12_runs_92 rfl rfl ?_
    refine Tr.getf (pc := 93) d_X12_runs_93 f_12_222 (by decide) (by decide) (ty_120 hF) ?_
    refine Tr.tp 161 (fx_120_69 hF) ?_
    refine Tr.iload_n (pc := 96) (i := 3) d_X12_runs_96 rfl rfl ?_
    refine Tr.iconst (pc := 97) d_X12_runs_97 (by decide) ?_
    refine Tr.iastX (pc := 98) d_X12_runs_98 (ty_161 hF) (by decide) (by decide) hF (by decide +kernel) (fun hF => ?_)
    refine Tr.iinc (pc := 99) (ls2 := [(3, (0, 12)), (0, (2, 120)), (1, (1, (-1)))]) d_X12_runs_99 rfl (by decide) rfl ?_
    refine Tr.goto (pc := 102) (tgt := 86) d_X12_runs_102 rfl ?_
    refine Tr.iload_n (pc := 86) (i := 3) d_X12_runs_86 rfl rfl ?_
    refine Tr.bipush (pc := 87) d_X12_runs_87 rfl (by decide) ?_
    refine Tr.icmp_ge (pc := 89) (tgt := 105) d_X12_runs_89 rfl (fun hc => absurd hc (by decide)) (fun _ => ?_)
    refine Tr.aload_n (pc := 92) (i := 0) d_X12_runs_92 rfl rfl ?_
    refine Tr.getf (pc := 93) d_X12_runs_93 f_12_222 (by decide) (by decide) (ty_120 hF) ?_
    refine Tr.tp 161 (fx_120_69 hF) ?_
    refine Tr.iload_n (pc := 96) (i := 3) d_X12_runs_96 rfl rfl ?_
    refine Tr.iconst (pc := 97) d_X12_runs_97 (by decide) ?_
    refine Tr.iastX (pc := 98) d_X12_runs_98 (ty_161 hF) (by decide) (by decide) hF (by decide +kernel) (fun hF => ?_)
    refine Tr.iinc (pc := 99) (ls2 := [(3, (0, 13)), (0, (2, 120)), (1, (1, (-1)))]) d_X12_runs_99 rfl (by decide) rfl ?_
    refine Tr.goto (pc := 102) (tgt := 86) d_X12_runs_102 rfl ?_
    refine Tr.iload_n (pc := 86) (i := 3) d_X12_runs_86 rfl rfl ?_
    refine Tr.bipush (pc := 87) d_X12_runs_87 rfl (by decide) ?_
    refine Tr.icmp_ge (pc := 89) (tgt := 105) d_X12_runs_89 rfl (fun hc => absurd hc (by decide)) (fun _ => ?_)
    refine Tr.aload_n (pc := 92) (i := 0) d_X12_runs_92 rfl rfl ?_
    refine Tr.getf (pc := 93) d_X12_runs_93 f_12_222 (by decide) (by decide) (ty_120 hF) ?_
    refine Tr.tp 161 (fx_120_69 hF) ?_
    refine Tr.iload_n (pc := 96) (i := 3) d_X12_runs_96 rfl rfl ?_
    refine Tr.iconst (pc := 97) d_X12_runs_97 (by decide) ?_
    refine Tr.iastX (pc := 98) d_X12_runs_98 (ty_161 hF) (by decide) (by decide) hF (by decide +kernel) (fun hF => ?_)
    refine Tr.iinc (pc := 99) (ls2 := [(3, (0, 14)), (0, (2, 120)), (1, (1, (-1)))]) d_X12_runs_99 rfl (by decide) rfl ?_
    refine Tr.goto (pc := 102) (tgt := 86) d_X12_runs_102 rfl ?_
    refine Tr.iload_n (pc := 86) (i := 3) d_X12_runs_86 rfl rfl ?_
    refine Tr.bipush (pc := 87) d_X12_runs_87 rfl (by decide) ?_
    refine Tr.icmp_ge (pc := 89) (tgt := 105) d_X12_runs_89 rfl (fun hc => absurd hc (by decide)) (fun _ => ?_)
    refine Tr.aload_n (pc := 92) (i := 0) d_X12_runs_92 rfl rfl ?_
    refine Tr.getf (pc := 93) d_X12_runs_93 f_12_222 (by decide) (by decide) (ty_120 hF) ?_
    refine Tr.tp 161 (fx_120_69 hF) ?_
    refine Tr.iload_n (pc := 96) (i := 3) d_X12_runs_96 rfl rfl ?_
    refine Tr.iconst (pc := 97) d_X12_runs_97 (by decide) ?_
    refine Tr.iastX (pc := 98) d_X12_runs_98 (ty_161 hF) (by decide) (by decide) hF (by decide +kernel) (fun hF => ?_)
    refine Tr.iinc (pc := 99) (ls2 := [(3, (0, 15)), (0, (2, 120)), (1, (1, (-1)))]) d_X12_runs_99 rfl (by decide) rfl ?_
    refine Tr.goto (pc := 102) (tgt := 86) d_X12_runs_102 rfl ?_
    refine Tr.iload_n (pc := 86) (i := 3) d_X12_runs_86 rfl rfl ?_
    refine Tr.bipush (pc := 87) d_X12_runs_87 rfl (by decide) ?_
    refine Tr.icmp_ge (pc := 89) (tgt := 105) d_X12_runs_89 rfl (fun hc => absurd hc (by decide)) (fun _ => ?_)
    refine Tr.aload_n (pc := 92) (i := 0) d_X12_runs_92 rfl rfl ?_
    refine Tr.getf (pc := 93) d_X12_runs_93 f_12_222 (by decide) (by decide) (ty_120 hF) ?_
    refine Tr.tp 161 (fx_120_69 hF) ?_
    refine Tr.iload_n (pc := 96) (i := 3) d_X12_runs_96 rfl rfl ?_
    refine Tr.iconst (pc := 97) d_X12_runs_97 (by decide) ?_
    refine Tr.iastX (pc := 98) d_X12_runs_98 (ty_161 hF) (by decide) (by decide) hF (by decide +kernel) (fun hF => ?_)
    refine Tr.iinc (pc := 99) (ls2 := [(3, (0, 16)), (0, (2, 120)), (1, (1, (-1)))]) d_X12_runs_99 rfl (by decide) rfl ?_
    refine Tr.goto (pc := 102) (tgt := 86) d_X12_runs_102 rfl ?_
    refine Tr.iload_n (pc := 86) (i := 3) d_X12_runs_86 rfl rfl ?_
    refine Tr.bipush (pc := 87) d_X12_runs_87 rfl (by decide) ?_
    refine Tr.icmp_ge (pc := 89) (tgt := 105) d_X12_runs_89 rfl (fun hc => absurd hc (by decide)) (fun _ => ?_)
    refine Tr.aload_n (pc := 92) (i := 0) d_X12_runs_92 rfl rfl ?_
    refine Tr.getf (pc := 93) d_X12_runs_93 f_12_222 (by decide) (by decide) (ty_120 hF) ?_
    refine Tr.tp 161 (fx_120_69 hF) ?_
    refine Tr.iload_n (pc := 96) (i := 3) d_X12_runs_96 rfl rfl ?_
    refine Tr.iconst (pc := 97) d_X12_runs_97 (by decide) ?_
    refine Tr.iastX (pc := 98) d_X12_runs_98 (ty_161 hF) (by decide) (by decide) hF (by decide +kernel) (fun hF => ?_)
    refine Tr.iinc (pc := 99) (ls2 := [(3, (0, 17)), (0, (2, 120)), (1, (1, (-1)))]) d_X12_runs_99 rfl (by decide) rfl ?_
    refine Tr.goto (pc := 102) (tgt := 86) d_X12_runs_102 rfl ?_
    refine Tr.iload_n (pc := 86) (i := 3) d_X12_runs_86 rfl rfl ?_
    refine Tr.bipush (pc := 87) d_X12_runs_87 rfl (by decide) ?_
    refine Tr.icmp_ge (pc := 89) (tgt := 105) d_X12_runs_89 rfl (fun hc => absurd hc (by decide)) (fun _ => ?_)
    refine Tr.aload_n (pc := 92) (i := 0) d_X12_runs_92 rfl rfl ?_
    refine Tr.getf (pc := 93) d_X12_runs_93 f_12_222 (by decide) (by decide) (ty_120 hF) ?_
    refine Tr.tp 161 (fx_120_69 hF) ?_
    refine Tr.iload_n (pc := 96) (i := 3) d_X12_runs_96 rfl rfl ?_
    refine Tr.iconst (pc := 97) d_X12_runs_97 (by decide) ?_
    refine Tr.iastX (pc := 98) d_X12_runs_98 (ty_161 hF) (by decide) (by decide) hF (by decide +kernel) (fun hF => ?_)
    refine Tr.iinc (pc := 99) (ls2 := [(3, (0, 18)), (0, (2, 120)), (1, (1, (-1)))]) d_X12_runs_99 rfl (by decide) rfl ?_
    refine Tr.goto (pc := 102) (tgt := 86) d_X12_runs_102 rfl ?_
    refine Tr.iload_n (pc := 86) (i := 3) d_X12_runs_86 rfl rfl ?_
    refine Tr.bipush (pc := 87) d_X12_runs_87 rfl (by decide) ?_
    refine Tr.icmp_ge (pc := 89) (tgt := 105) d_X12_runs_89 rfl (fun hc => absurd hc (by decide)) (fun _ => ?_)
    refine Tr.aload_n (pc := 92) (i := 0) d_X12_runs_92 rfl rfl ?_
    refine Tr.getf (pc := 93) d_X12_runs_93 f_12_222 (by decide) (by decide) (ty_120 hF) ?_
    refine Tr.tp 161 (fx_120_69 hF) ?_
    refine Tr.iload_n (pc := 96) (i := 3) d_X12_runs_96 rfl rfl ?_
    refine Tr.iconst (pc := 97) d_X12_runs_97 (by decide) ?_
    refine Tr.iastX (pc := 98) d_X12_runs_98 (ty_161 hF) (by decide) (by decide) hF (by decide +kernel) (fun hF => ?_)
    refine Tr.iinc (pc := 99) (ls2 := [(3, (0, 19)), (0, (2, 120)), (1, (1, (-1)))]) d_X12_runs_99 rfl (by decide) rfl ?_
    refine Tr.goto (pc := 102) (tgt := 86) d_X12_runs_102 rfl ?_
    refine Tr.iload_n (pc := 86) (i := 3) d_X12_runs_86 rfl rfl ?_
    refine Tr.bipush (pc := 87) d_X12_runs_87 rfl (by decide) ?_
    refine Tr.icmp_ge (pc := 89) (tgt := 105) d_X12_runs_89 rfl (fun hc => absurd hc (by decide)) (fun _ => ?_)
    refine Tr.aload_n (pc := 92) (i := 0) d_X12_runs_92 rfl rfl ?_
    refine Tr.getf (pc := 93) d_X12_runs_93 f_12_222 (by decide) (by decide) (ty_120 hF) ?_
    refine Tr.tp 161 (fx_120_69 hF) ?_
    refine Tr.iload_n (pc := 96) (i := 3) d_X12_runs_96 rfl rfl ?_
    refine Tr.iconst (pc := 97) d_X12_runs_97 (by decide) ?_
    refine Tr.iastX (pc := 98) d_X12_runs_98 (ty_161 hF) (by decide) (by decide) hF (by decide +kernel) (fun hF => ?_)
    refine Tr.iinc (pc := 99) (ls2 := [(3, (0, 20)), (0, (2, 120)), (1, (1, (-1)))]) d_X12_runs_99 rfl (by decide) rfl ?_
    refine Tr.goto (pc := 102) (tgt := 86) d_X12_runs_102 rfl ?_
    refine Tr.iload_n (pc := 86) (i := 3) d_X12_runs_86 rfl rfl ?_
    refine Tr.bipush (pc := 87) d_X12_runs_87 rfl (by decide) ?_
    refine Tr.icmp_ge (pc := 89) (tgt := 105) d_X12_runs_89 rfl (fun hc => absurd hc (by decide)) (fun _ => ?_)
    refine Tr.aload_n (pc := 92) (i := 0) d_X12_runs_92 rfl rfl ?_
    refine Tr.getf (pc := 93) d_X12_runs_93 f_12_222 (by decide) (by decide) (ty_120 hF) ?_
    refine Tr.tp 161 (fx_120_69 hF) ?_
    refine Tr.iload_n (pc := 96) (i := 3) d_X12_runs_96 rfl rfl ?_
    refine Tr.iconst (pc := 97) d_X12_runs_97 (by decide) ?_
    refine Tr.iastX (pc := 98) d_X12_runs_98 (ty_161 hF) (by decide) (by decide) hF (by decide +kernel) (fun hF => ?_)
    refine Tr.iinc (pc := 99) (ls2 := [(3, (0, 21)), (0, (2, 120)), (1, (1, (-1)))]) d_X12_runs_99 rfl (by decide) rfl ?_
    refine Tr.goto (pc := 102) (tgt := 86) d_X12_runs_102 rfl ?_
    refine Tr.iload_n (pc := 86) (i := 3) d_X12_runs_86 rfl rfl ?_
    refine Tr.bipush (pc := 87) d_X12_runs_87 rfl (by decide) ?_
    refine Tr.icmp_ge (pc := 89) (tgt := 105) d_X12_runs_89 rfl (fun hc => absurd hc (by decide)) (fun _ => ?_)
    refine Tr.aload_n (pc := 92) (i := 0) d_X12_runs_92 rfl rfl ?_
    refine Tr.getf (pc := 93) d_X12_runs_93 f_12_222 (by decide) (by decide) (ty_120 hF) ?_
    refine Tr.tp 161 (fx_120_69 hF) ?_
    refine Tr.iload_n (pc := 96) (i := 3) d_X12_runs_96 rfl rfl ?_
    refine Tr.iconst (pc := 97) d_X12_runs_97 (by decide) ?_
    refine Tr.iastX (pc := 98) d_X12_runs_98 (ty_161 hF) (by decide) (by decide) hF (by decide +kernel) (fun hF => ?_)
    refine Tr.iinc (pc := 99) (ls2 := [(3, (0, 22)), (0, (2, 120)), (1, (1, (-1)))]) d_X12_runs_99 rfl (by decide) rfl ?_
    refine Tr.goto (pc := 102) (tgt := 86) d_X12_runs_102 rfl ?_
    refine Tr.iload_n (pc := 86) (i := 3) d_X12_runs_86 rfl rfl ?_
    refine Tr.bipush (pc := 87) d_X12_runs_87 rfl (by decide) ?_
    refine Tr.icmp_ge (pc := 89) (tgt := 105) d_X12_runs_89 rfl (fun hc => absurd hc (by decide)) (fun _ => ?_)
    refine Tr.aload_n (pc := 92) (i := 0) d_X12_runs_92 rfl rfl ?_
    refine Tr.getf (pc := 93) d_X12_runs_93 f_12_222 (by decide) (by decide) (ty_120 hF) ?_
    refine Tr.tp 161 (fx_120_69 hF) ?_
    refine Tr.iload_n (pc := 96) (i := 3) d_X12_runs_96 rfl rfl ?_
    refine Tr.iconst (pc := 97) d_X12_runs_97 (by decide) ?_
    refine Tr.iastX (pc := 98) d_X12_runs_98 (ty_161 hF) (by decide) (by decide) hF (by decide +kernel) (fun hF => ?_)
    refine Tr.iinc (pc := 99) (ls2 := [(3, (0, 23)), (0, (2, 120)), (1, (1, (-1)))]) d_X12_runs_99 rfl (by decide) rfl ?_
    refine Tr.goto (pc := 102) (tgt := 86) d_X12_runs_102 rfl ?_
    refine Tr.iload_n (pc := 86) (i := 3) d_X12_runs_86 rfl rfl ?_
    refine Tr.bipush (pc := 87) d_X12_runs_87 rfl (by decide) ?_
    refine Tr.icmp_ge (pc := 89) (tgt := 105) d_X12_runs_89 rfl (fun hc => absurd hc (by decide)) (fun _ => ?_)
    refine Tr.aload_n (pc := 92) (i := 0) d_X12_runs_92 rfl rfl ?_
    refine Tr.getf (pc := 93) d_X12_runs_93 f_12_222 (by decide) (by decide) (ty_120 hF) ?_
    refine Tr.tp 161 (fx_120_69 hF) ?_
    refine Tr.iload_n (pc := 96) (i := 3) d_X12_runs_96 rfl rfl ?_
    refine Tr.iconst (pc := 97) d_X12_runs_97 (by decide) ?_
    refine Tr.iastX (pc := 98) d_X12_runs_98 (ty_161 hF) (by decide) (by decide) hF (by decide +kernel) (fun hF => ?_)
    refine Tr.iinc (pc := 99) (ls2 := [(3, (0, 24)), (0, (2, 120)), (1, (1, (-1)))]) d_X12_runs_99 rfl (by decide) rfl ?_
    refine Tr.goto (pc := 102) (tgt := 86) d_X12_runs_102 rfl ?_
    refine Tr.iload_n (pc := 86) (i := 3) d_X12_runs_86 rfl rfl ?_
    refine Tr.bipush (pc := 87) d_X12_runs_87 rfl (by decide) ?_
    refine Tr.icmp_ge (pc := 89) (tgt := 105) d_X12_runs_89 rfl (fun _ => ?_) (fun hc => absurd (by decide) hc)
    refine Tr.aload_n (pc := 105) (i := 0) d_X12_runs_105 rfl rfl ?_
    refine Tr.iconst (pc := 106) d_X12_runs_106 (by decide) ?_
    refine Tr.putfX (pc := 107) d_X12_runs_107 f_12_201 (by decide) (by decide) (ty_120 hF) hF (by decide +kernel) (fun hF => ?_)
    refine Tr.aload_n (pc := 110) (i := 0) d_X12_runs_110 rfl rfl ?_
    refine Tr.lconst (pc := 111) (v := 0) d_X12_runs_111 rfl (by decide) ?_
    refine Tr.putfX (pc := 112) d_X12_runs_112 f_12_204 (by decide) (by decide) (ty_120 hF) hF (by decide +kernel) (fun hF => ?_)
    refine Tr.aload_n (pc := 115) (i := 0) d_X12_runs_115 rfl rfl ?_
    refine Tr.lload_n (pc := 116) (i := 1) d_X12_runs_116 rfl rfl ?_
    refine Tr.putfX (pc := 117) d_X12_runs_117 f_12_207 (by decide) (by decide) (ty_120 hF) hF (by decide +kernel) (fun hF => ?_)
    refine Tr.aload_n (pc := 120) (i := 0) d_X12_runs_120 rfl rfl ?_
    refine Tr.iconst (pc := 121) d_X12_runs_121 (by decide) ?_
    refine Tr.putfX (pc := 122) d_X12_runs_122 f_12_210 (by decide) (by decide) (ty_120 hF) hF (by decide +kernel) (fun hF => ?_)
    refine Tr.aload_n (pc := 125) (i := 0) d_X12_runs_125 rfl rfl ?_
    refine Tr.iconst (pc := 126) d_X12_runs_126 (by decide) ?_
    refine Tr.putfX (pc := 127) d_X12_runs_127 f_12_213 (by decide) (by decide) (ty_120 hF) hF (by decide +kernel) (fun hF => ?_)
    refine Tr.aload_n (pc := 130) (i := 0) d_X12_runs_130 rfl rfl ?_
    refine Tr.iconst (pc := 131) d_X12_runs_131 (by decide) ?_
    refine Tr.putfX (pc := 132) d_X12_runs_132 f_12_216 (by decide) (by decide) (ty_120 hF) hF (by decide +kernel) (fun hF => ?_)
    refine Tr.aload_n (pc := 135) (i := 0) d_X12_runs_135 rfl rfl ?_
    refine Tr.iconst (pc := 136) d_X12_runs_136 (by decide) ?_
    refine Tr.putfX (pc := 137) d_X12_runs_137 f_12_219 (by decide) (by decide) (ty_120 hF) hF (by decide +kernel) (fun hF => ?_)
    refine Tr.aload_n (pc := 140) (i := 0) d_X12_runs_140 rfl rfl ?_
    refine Tr.iconst (pc := 141) d_X12_runs_141 (by decide) ?_
    refine Tr.putfX (pc := 142) d_X12_runs_142 f_12_267 (by decide) (by decide) (ty_120 hF) hF (by decide +kernel) (fun hF => ?_)
    refine Tr.aload_n (pc := 145) (i := 0) d_X12_runs_145 rfl rfl ?_
    refine Tr.iconst (pc := 146) d_X12_runs_146 (by decide) ?_
    refine Tr.putfX (pc := 147) d_X12_runs_147 f_12_195 (by decide) (by decide) (ty_120 hF) hF (by decide +kernel) (fun hF => ?_)
    refine Tr.aload_n (pc := 150) (i := 0) d_X12_runs_150 rfl rfl ?_
    refine Tr.iconst (pc := 151) d_X12_runs_151 (by decide) ?_
    refine Tr.putfX (pc := 152) d_X12_runs_152 f_12_240 (by decide) (by decide) (ty_120 hF) hF (by decide +kernel) (fun hF => ?_)
    refine Tr.aload_n (pc := 155) (i := 0) d_X12_runs_155 rfl rfl ?_
    refine Tr.iconst (pc := 156) d_X12_runs_156 (by decide) ?_
    refine Tr.putfX (pc := 157) d_X12_runs_157 f_12_252 (by decide) (by decide) (ty_120 hF) hF (by decide +kernel) (fun hF => ?_)
    refine Tr.iconst (pc := 160) d_X12_runs_160 (by decide) ?_
    refine Tr.istore_n (pc := 161) (i := 3) (ls2 := [(3, (0, 0)), (0, (2, 120)), (1, (1, (-1)))]) d_X12_runs_161 rfl (by decide) rfl ?_
    refine Tr.iload_n (pc := 162) (i := 3) d_X12_runs_162 rfl rfl ?_
    refine Tr.aload_n (pc := 163) (i := 0) d_X12_runs_163 rfl rfl ?_
    refine Tr.getf (pc := 164) d_X12_runs_164 f_12_94 (by decide) (by decide) (ty_120 hF) ?_
    refine Tr.tp 136 (fx_120_27 hF) ?_
    refine Tr.aload_n (pc := 167) (i := 0) d_X12_runs_167 rfl rfl ?_
    refine Tr.getf (pc := 168) d_X12_runs_168 f_12_48 (by decide) (by decide) (ty_120 hF) ?_
    refine Tr.tp 0 ((rd_wb _ rfl).trans ((rd_wb _ rfl).trans ((rd_wb _ rfl).trans ((rd_wb _ rfl).trans ((rd_wb _ rfl).trans ((rd_wb _ rfl).trans ((rd_wb _ rfl).trans ((rd_wb _ rfl).trans ((rd_wb _ rfl).trans ((rd_wb _ rfl).trans ((rd_wb _ rfl).trans ((rd_wb _ rfl).trans ((rd_wb _ rfl).trans ((rd_wb _ rfl).trans ((rd_wb _ rfl).trans ((rd_wb _ rfl).trans ((rd_wb _ rfl).trans ((rd_wb _ rfl).trans ((rd_wb _ rfl).trans ((rd_wb _ rfl).trans ((rd_wb _ rfl).trans ((rd_wb _ rfl).trans ((rd_wb _ rfl).trans ((rd_wb _ rfl).trans ((rd_wb _ rfl).trans ((rd_wb _ rfl).trans ((rd_wb _ rfl).trans ((rd_wb _ rfl).trans ((rd_wb _ rfl).trans ((rd_wb _ rfl).trans ((rd_wb _ rfl).trans ((rd_wb _ rfl).trans ((rd_wb _ rfl).trans ((rd_wb _ rfl).trans ((rd_wb _ rfl).trans ((rd_wb _ rfl).trans ((rd_wb _ rfl).trans ((rd_wb _ rfl).trans ((rd_wb _ rfl).trans ((rd_wb _ rfl).trans ((rd_wb _ rfl).trans ((rd_wb _ rfl).trans ((rd_wb _ rfl).trans ((rd_wb _ rfl).trans ((rd_wb _ rfl).trans ((rd_wb _ rfl).trans ((rd_wb _ rfl).trans ((rd_wb _ rfl).trans ((rd_wb _ rfl).trans ((rd_wb _ rfl).trans ((rd_wb _ rfl).trans ((rd_wb _ rfl).trans ((rd_wb _ rfl).trans ((rd_wb _ rfl).trans ((rd_wb _ rfl).trans ((rd_wb _ rfl).trans ((rd_wb _ rfl).trans ((rd_wb _ rfl).trans ((rd_wb _ rfl).trans ((rd_wb _ rfl).trans ((rd_wb _ rfl).trans ((rd_wb _ rfl).trans ((rd_wb _ rfl).trans ((rd_wb _ rfl).trans ((rd_wb _ rfl).trans ((rd_wb _ rfl).trans ((rd_wb _ rfl).trans ((rd_wb _ rfl).trans ((rd_wb _ rfl).trans ((rd_wb _ rfl).trans ((rd_wb _ rfl).trans ((rd_wb _ rfl).trans ((rd_wb _ rfl).trans ((rd_wb _ rfl).trans ((rd_wb _ rfl).trans ((rd_wb _ rfl).trans ((rd_wb _ rfl).trans ((rd_wb _ rfl).trans ((rd_cb _ rfl).trans ((rd_wb _ rfl).trans ((rd_cb _ rfl).trans ((rd_wb _ rfl).trans ((rd_wb _ rfl).trans ((rd_fb _ rfl).trans ((rd_wb _ rfl).trans ((rd_wb _ rfl).trans ((rd_wb _ rfl).trans ((rd_wb _ rfl).trans ((rd_wb _ rfl).trans ((rd_wb _ rfl).trans ((rd_wb _ rfl).trans ((rd_wb _ rfl).trans ((rd_wb _ rfl).trans ((rd_fb _ rfl).trans ((rd_fb _ rfl).trans ((rd_fb _ rfl).trans ((rd_fb _ rfl).trans ((rd_fb _ rfl).trans ((rd_cb _ rfl).trans ((rd_wb _ rfl).trans ((rd_cb _ rfl).trans (b_120_12)))))))))))))))))))))))))))))))))))))))))))))))))))))))))))))))))))))))))))))))))))))))))))))))))))))) ?_
    refine Tr.iald (pc := 171) d_X12_runs_171 (ty_136 hF) (by decide) (by decide) ?_
    refine Tr.tp 0 ((rd_wb _ rfl).trans ((rd_wb _ rfl).trans ((rd_wb _ rfl).trans ((rd_wb _ rfl).trans ((rd_wb _ rfl).trans ((rd_wb _ rfl).trans ((rd_wb _ rfl).trans ((rd_wb _ rfl).trans ((rd_wb _ rfl).trans ((rd_wb _ rfl).trans ((rd_wb _ rfl).trans ((rd_wb _ rfl).trans ((rd_wb _ rfl).trans ((rd_wb _ rfl).trans ((rd_wb _ rfl).trans ((rd_wb _ rfl).trans ((rd_wb _ rfl).trans ((rd_wb _ rfl).trans ((rd_wb _ rfl).trans ((rd_wb _ rfl).trans ((rd_wb _ rfl).trans ((rd_wb _ rfl).trans ((rd_wb _ rfl).trans ((rd_wb _ rfl).trans ((rd_wb _ rfl).trans ((rd_wb _ rfl).trans ((rd_wb _ rfl).trans ((rd_wb _ rfl).trans ((rd_wb _ rfl).trans ((rd_wb _ rfl).trans ((rd_wb _ rfl).trans ((rd_wb _ rfl).trans ((rd_wb _ rfl).trans ((rd_wb _ rfl).trans ((rd_wb _ rfl).trans ((rd_wb _ rfl).trans ((rd_wb _ rfl).trans ((rd_wb _ rfl).trans ((rd_wb _ rfl).trans ((rd_wb _ rfl).trans ((rd_wb _ rfl).trans ((rd_wb _ rfl).trans ((rd_wb _ rfl).trans ((rd_wb _ rfl).trans ((rd_wb _ rfl).trans ((rd_wb _ rfl).trans ((rd_wb _ rfl).trans ((rd_wb _ rfl).trans ((rd_wb _ rfl).trans ((rd_wb _ rfl).trans ((rd_wb _ rfl).trans ((rd_wb _ rfl).trans ((rd_wb _ rfl).trans ((rd_wb _ rfl).trans ((rd_wb _ rfl).trans ((rd_wb _ rfl).trans ((rd_wb _ rfl).trans ((rd_wb _ rfl).trans ((rd_wb _ rfl).trans ((rd_wb _ rfl).trans ((rd_wb _ rfl).trans ((rd_wb _ rfl).trans ((rd_wb _ rfl).trans ((rd_wb _ rfl).trans ((rd_wb _ rfl).trans ((rd_wb _ rfl).trans ((rd_wb _ rfl).trans ((rd_wb _ rfl).trans ((rd_wb _ rfl).trans ((rd_wb _ rfl).trans ((rd_wb _ rfl).trans ((rd_wb _ rfl).trans ((rd_wb _ rfl).trans ((rd_wb _ rfl).trans ((rd_wb _ rfl).trans ((rd_wb _ rfl).trans ((rd_wb _ rfl).trans ((rd_wb _ rfl).trans ((rd_cb _ rfl).trans ((rd_wb _ rfl).trans ((rd_cb _ rfl).trans ((rd_wb _ rfl).trans ((rd_wb _ rfl).trans ((rd_fb _ rfl).trans ((rd_wb _ rfl).trans ((rd_wb _ rfl).trans ((rd_wb _ rfl).trans ((rd_wb _ rfl).trans ((rd_wb _ rfl).trans ((rd_wb _ rfl).trans ((rd_wb _ rfl).trans ((rd_wb _ rfl).trans ((rd_wb _ rfl).trans ((rd_fb _ rfl).trans ((rd_fb _ rfl).trans ((rd_fb _ rfl).trans ((rd_fb _ rfl).trans ((rd_fb _ rfl).trans ((rd_cb _ rfl).trans ((rd_wb _ rfl).trans ((rd_cb _ rfl).trans (b_136_0)))))))))))))))))))))))))))))))))))))))))))))))))))))))))))))))))))))))))))))))))))))))))))))))))))))) ?_
    refine Tr.icmp_ge (pc := 172) (tgt := 317) d_X12_runs_172 rfl (fun _ => ?_) (fun hc => absurd (by decide) hc)
    refine Tr.aload_n (pc := 317) (i := 0) d_X12_runs_317 rfl rfl ?_
    refine Tr.getf (pc := 318) d_X12_runs_318 f_12_219 (by decide) (by decide) (ty_120 hF) ?_
    refine Tr.tp 0 ((rd_wb _ rfl).trans ((rd_wb _ rfl).trans ((rd_wb _ rfl).trans ((rd_wb _ rfl).trans (rd_ws _ _ _ _))))) ?_
    refine Tr.if_le (pc := 321) (tgt := 329) d_X12_runs_321 rfl (fun _ => ?_) (fun hc => absurd (by decide) hc)
    refine Tr.iconst (pc := 329) d_X12_runs_329 (by decide) ?_
    refine Tr.istore (pc := 330) (i := 4) (ls2 := [(4, (0, 1)), (3, (0, 0)), (0, (2, 120)), (1, (1, (-1)))]) d_X12_runs_330 (by decide) rfl ?_
    refine Tr.iload (pc := 332) (i := 4) d_X12_runs_332 rfl ?_
    refine Tr.if_eq (pc := 334) (tgt := 409) d_X12_runs_334 rfl (fun hc => absurd hc (by decide)) (fun _ => ?_)
    refine Tr.iconst (pc := 337) d_X12_runs_337 (by decide) ?_
    refine Tr.istore (pc := 338) (i := 4) (ls2 := [(4, (0, 0)), (3, (0, 0)), (0, (2, 120)), (1, (1, (-1)))]) d_X12_runs_338 (by decide) rfl ?_
    refine Tr.iconst (pc := 340) d_X12_runs_340 (by decide) ?_
    refine Tr.istore (pc := 341) (i := 5) (ls2 := [(5, (0, 0)), (4, (0, 0)), (3, (0, 0)), (0, (2, 120)), (1, (1, (-1)))]) d_X12_runs_341 (by decide) rfl ?_
    refine Tr.iload (pc := 343) (i := 5) d_X12_runs_343 rfl ?_
    refine Tr.aload_n (pc := 345) (i := 0) d_X12_runs_345 rfl rfl ?_
    refine Tr.getf (pc := 346) d_X12_runs_346 f_12_63 (by decide) (by decide) (ty_120 hF) ?_
    refine Tr.tp 126 (fx_120_17 hF) ?_
    refine Tr.aload_n (pc := 349) (i := 0) d_X12_runs_349 rfl rfl ?_
    refine Tr.getf (pc := 350) d_X12_runs_350 f_12_48 (by decide) (by decide) (ty_120 hF) ?_
    refine Tr.tp 0 ((rd_wb _ rfl).trans ((rd_wb _ rfl).trans ((rd_wb _ rfl).trans ((rd_wb _ rfl).trans ((rd_wb _ rfl).trans ((rd_wb _ rfl).trans ((rd_wb _ rfl).trans ((rd_wb _ rfl).trans ((rd_wb _ rfl).trans ((rd_wb _ rfl).trans ((rd_wb _ rfl).trans ((rd_wb _ rfl).trans ((rd_wb _ rfl).trans ((rd_wb _ rfl).trans ((rd_wb _ rfl).trans ((rd_wb _ rfl).trans ((rd_wb _ rfl).trans ((rd_wb _ rfl).trans ((rd_wb _ rfl).trans ((rd_wb _ rfl).trans ((rd_wb _ rfl).trans ((rd_wb _ rfl).trans ((rd_wb _ rfl).trans ((rd_wb _ rfl).trans ((rd_wb _ rfl).trans ((rd_wb _ rfl).trans ((rd_wb _ rfl).trans ((rd_wb _ rfl).trans ((rd_wb _ rfl).trans ((rd_wb _ rfl).trans ((rd_wb _ rfl).trans ((rd_wb _ rfl).trans ((rd_wb _ rfl).trans ((rd_wb _ rfl).trans ((rd_wb _ rfl).trans ((rd_wb _ rfl).trans ((rd_wb _ rfl).trans ((rd_wb _ rfl).trans ((rd_wb _ rfl).trans ((rd_wb _ rfl).trans ((rd_wb _ rfl).trans ((rd_wb _ rfl).trans ((rd_wb _ rfl).trans ((rd_wb _ rfl).trans ((rd_wb _ rfl).trans ((rd_wb _ rfl).trans ((rd_wb _ rfl).trans ((rd_wb _ rfl).trans ((rd_wb _ rfl).trans ((rd_wb _ rfl).trans ((rd_wb _ rfl).trans ((rd_wb _ rfl).trans ((rd_wb _ rfl).trans ((rd_wb _ rfl).trans ((rd_wb _ rfl).trans ((rd_wb _ rfl).trans ((rd_wb _ rfl).trans ((rd_wb _ rfl).trans ((rd_wb _ rfl).trans ((rd_wb _ rfl).trans ((rd_wb _ rfl).trans ((rd_wb _ rfl).trans ((rd_wb _ rfl).trans ((rd_wb _ rfl).trans ((rd_wb _ rfl).trans ((rd_wb _ rfl).trans ((rd_wb _ rfl).trans ((rd_wb _ rfl).trans ((rd_wb _ rfl).trans ((rd_wb _ rfl).trans ((rd_wb _ rfl).trans ((rd_wb _ rfl).trans ((rd_wb _ rfl).trans ((rd_wb _ rfl).trans ((rd_wb _ rfl).trans ((rd_wb _ rfl).trans ((rd_wb _ rfl).trans ((rd_wb _ rfl).trans ((rd_cb _ rfl).trans ((rd_wb _ rfl).trans ((rd_cb _ rfl).trans ((rd_wb _ rfl).trans ((rd_wb _ rfl).trans ((rd_fb _ rfl).trans ((rd_wb _ rfl).trans ((rd_wb _ rfl).trans ((rd_wb _ rfl).trans ((rd_wb _ rfl).trans ((rd_wb _ rfl).trans ((rd_wb _ rfl).trans ((rd_wb _ rfl).trans ((rd_wb _ rfl).trans ((rd_wb _ rfl).trans ((rd_fb _ rfl).trans ((rd_fb _ rfl).trans ((rd_fb _ rfl).trans ((rd_fb _ rfl).trans ((rd_fb _ rfl).trans ((rd_cb _ rfl).trans ((rd_wb _ rfl).trans ((rd_cb _ rfl).trans (b_120_12)))))))))))))))))))))))))))))))))))))))))))))))))))))))))))))))))))))))))))))))))))))))))))))))))))))) ?_
    refine Tr.iald (pc := 353) d_X12_runs_353 (ty_126 hF) (by decide) (by decide) ?_
    refine Tr.tp 0 ((rd_wb _ rfl).trans ((rd_wb _ rfl).trans ((rd_wb _ rfl).trans ((rd_wb _ rfl).trans ((rd_wb _ rfl).trans ((rd_wb _ rfl).trans ((rd_wb _ rfl).trans ((rd_wb _ rfl).trans ((rd_wb _ rfl).trans ((rd_wb _ rfl).trans ((rd_wb _ rfl).trans ((rd_wb _ rfl).trans ((rd_wb _ rfl).trans ((rd_wb _ rfl).trans ((rd_wb _ rfl).trans ((rd_wb _ rfl).trans ((rd_wb _ rfl).trans ((rd_wb _ rfl).trans ((rd_wb _ rfl).trans ((rd_wb _ rfl).trans ((rd_wb _ rfl).trans ((rd_wb _ rfl).trans ((rd_wb _ rfl).trans ((rd_wb _ rfl).trans ((rd_wb _ rfl).trans ((rd_wb _ rfl).trans ((rd_wb _ rfl).trans ((rd_wb _ rfl).trans ((rd_wb _ rfl).trans ((rd_wb _ rfl).trans ((rd_wb _ rfl).trans ((rd_wb _ rfl).trans ((rd_wb _ rfl).trans ((rd_wb _ rfl).trans ((rd_wb _ rfl).trans ((rd_wb _ rfl).trans ((rd_wb _ rfl).trans ((rd_wb _ rfl).trans ((rd_wb _ rfl).trans ((rd_wb _ rfl).trans ((rd_wb _ rfl).trans ((rd_wb _ rfl).trans ((rd_wb _ rfl).trans ((rd_wb _ rfl).trans ((rd_wb _ rfl).trans ((rd_wb _ rfl).trans ((rd_wb _ rfl).trans ((rd_wb _ rfl).trans ((rd_wb _ rfl).trans ((rd_wb _ rfl).trans ((rd_wb _ rfl).trans ((rd_wb _ rfl).trans ((rd_wb _ rfl).trans ((rd_wb _ rfl).trans ((rd_wb _ rfl).trans ((rd_wb _ rfl).trans ((rd_wb _ rfl).trans ((rd_wb _ rfl).trans ((rd_wb _ rfl).trans ((rd_wb _ rfl).trans ((rd_wb _ rfl).trans ((rd_wb _ rfl).trans ((rd_wb _ rfl).trans ((rd_wb _ rfl).trans ((rd_wb _ rfl).trans ((rd_wb _ rfl).trans ((rd_wb _ rfl).trans ((rd_wb _ rfl).trans ((rd_wb _ rfl).trans ((rd_wb _ rfl).trans ((rd_wb _ rfl).trans ((rd_wb _ rfl).trans ((rd_wb _ rfl).trans ((rd_wb _ rfl).trans ((rd_wb _ rfl).trans ((rd_wb _ rfl).trans ((rd_wb _ rfl).trans ((rd_wb _ rfl).trans ((rd_cb _ rfl).trans ((rd_wb _ rfl).trans ((rd_cb _ rfl).trans ((rd_wb _ rfl).trans ((rd_wb _ rfl).trans ((rd_fb _ rfl).trans ((rd_wb _ rfl).trans ((rd_wb _ rfl).trans ((rd_wb _ rfl).trans ((rd_wb _ rfl).trans ((rd_wb _ rfl).trans ((rd_wb _ rfl).trans ((rd_wb _ rfl).trans ((rd_wb _ rfl).trans ((rd_wb _ rfl).trans ((rd_fb _ rfl).trans ((rd_fb _ rfl).trans ((rd_fb _ rfl).trans ((rd_fb _ rfl).trans ((rd_fb _ rfl).trans ((rd_cb _ rfl).trans ((rd_wb _ rfl).trans ((rd_cb _ rfl).trans (b_126_0)))))))))))))))))))))))))))))))))))))))))))))))))))))))))))))))))))))))))))))))))))))))))))))))))))))) ?_
    refine Tr.icmp_ge (pc := 354) (tgt := 395) d_X12_runs_354 rfl (fun _ => ?_) (fun hc => absurd (by decide) hc)
    refine Tr.iload (pc := 395) (i := 4) d_X12_runs_395 rfl ?_
    refine Tr.if_eq (pc := 397) (tgt := 332) d_X12_runs_397 rfl (fun _ => ?_) (fun hc => absurd (by decide) hc)
    refine Tr.iload (pc := 332) (i := 4) d_X12_runs_332 rfl ?_
    refine Tr.if_eq (pc := 334) (tgt := 409) d_X12_runs_334 rfl (fun _ => ?_) (fun hc => absurd (by decide) hc)
    refine Tr.iconst (pc := 409) d_X12_runs_409 (by decide) ?_
    refine Tr.iret (pc := 410) d_X12_runs_410 rfl ?_
    refine Tr.sc [_] rfl ?_
    refine Tr.istore (pc := 118) (i := 8) (ls2 := [(8, (0, 0)), (7, (0, 0)), (6, (0, 0)), (5, (0, 0)), (4, (0, 0)), (2, (1, 0)), (0, (2, 120)), (1, (0, 0))]) d_X12_over_118 (by decide) rfl ?_
    refine Tr.iload (pc := 120) (i := 4) d_X12_over_120 rfl ?_
    refine Tr.if_eq (pc := 122) (tgt := 153) d_X12_over_122 rfl (fun _ => ?_) (fun hc => absurd (by decide) hc)
    refine Tr.iconst (pc := 153) d_X12_over_153 (by decide) ?_
    refine Tr.istore (pc := 154) (i := 4) (ls2 := [(4, (0, 1)), (8, (0, 0)), (7, (0, 0)), (6, (0, 0)), (5, (0, 0)), (2, (1, 0)), (0, (2, 120)), (1, (0, 0))]) d_X12_over_154 (by decide) rfl ?_
    refine Tr.aload_n (pc := 156) (i := 0) d_X12_over_156 rfl rfl ?_
    refine Tr.getf (pc := 157) d_X12_over_157 f_12_204 (by decide) (by decide) (ty_120 hF) ?_
    refine Tr.tp 0 ((rd_wb _ rfl).trans ((rd_wb _ rfl).trans ((rd_wb _ rfl).trans ((rd_wb _ rfl).trans ((rd_wb _ rfl).trans ((rd_wb _ rfl).trans ((rd_wb _ rfl).trans ((rd_wb _ rfl).trans ((rd_wb _ rfl).trans (rd_ws _ _ _ _)))))))))) ?_
    refine Tr.lstore_n (pc := 160) (i := 2) (ls2 := [(2, (1, 0)), (4, (0, 1)), (8, (0, 0)), (7, (0, 0)), (6, (0, 0)), (5, (0, 0)), (0, (2, 120)), (1, (0, 0))]) d_X12_over_160 rfl (by decide) rfl ?_
    refine Tr.iconst (pc := 161) d_X12_over_161 (by decide) ?_
    refine Tr.istore (pc := 162) (i := 9) (ls2 := [(9, (0, 0)), (2, (1, 0)), (4, (0, 1)), (8, (0, 0)), (7, (0, 0)), (6, (0, 0)), (5, (0, 0)), (0, (2, 120)), (1, (0, 0))]) d_X12_over_162 (by decide) rfl ?_
    refine Tr.iload (pc := 164) (i := 9) d_X12_over_164 rfl ?_
    refine Tr.iconst (pc := 166) d_X12_over_166 (by decide) ?_
    refine Tr.icmp_ge (pc := 167) (tgt := 190) d_X12_over_167 rfl (fun hc => absurd hc (by decide)) (fun _ => ?_)
    refine Tr.aload_n (pc := 170) (i := 0) d_X12_over_170 rfl rfl ?_
    refine Tr.getf (pc := 171) d_X12_over_171 f_12_330 (by decide) (by decide) (ty_120 hF) ?_
    refine Tr.tp 179 (fx_120_105 hF) ?_
    refine Tr.iload (pc := 174) (i := 9) d_X12_over_174 rfl ?_
    refine Tr.aload_n (pc := 176) (i := 0) d_X12_over_176 rfl rfl ?_
    refine Tr.getf (pc := 177) d_X12_over_177 f_12_171 (by decide) (by decide) (ty_120 hF) ?_
    refine Tr.tp 154 (fx_120_52 hF) ?_
    refine Tr.iload (pc := 180) (i := 9) d_X12_over_180 rfl ?_
    refine Tr.iald (pc := 182) d_X12_over_182 (ty_154 hF) (by decide) (by decide) ?_
    refine Tr.tp 0 ((rd_wb _ rfl).trans ((rd_wb _ rfl).trans ((rd_wb _ rfl).trans ((rd_wb _ rfl).trans ((rd_wb _ rfl).trans ((rd_wb _ rfl).trans ((rd_wb _ rfl).trans ((rd_wb _ rfl).trans ((rd_wb _ rfl).trans ((rd_wb _ rfl).trans ((rd_wb _ rfl).trans ((rd_wb _ rfl).trans ((rd_wb _ rfl).trans ((rd_wb _ rfl).trans ((rd_wb _ rfl).trans ((rd_wb _ rfl).trans ((rd_wb _ rfl).trans ((rd_wb _ rfl).trans ((rd_wb _ rfl).trans ((rd_wb _ rfl).trans ((rd_wb _ rfl).trans ((rd_wb _ rfl).trans ((rd_wb _ rfl).trans ((rd_wb _ rfl).trans ((rd_wb _ rfl).trans ((rd_wb _ rfl).trans ((rd_wb _ rfl).trans ((rd_wb _ rfl).trans ((rd_wb _ rfl).trans ((rd_wb _ rfl).trans ((rd_wb _ rfl).trans ((rd_wb _ rfl).trans ((rd_wb _ rfl).trans ((rd_wb _ rfl).trans ((rd_wb _ rfl).trans ((rd_wb _ rfl).trans ((rd_wb _ rfl).trans ((rd_wb _ rfl).trans ((rd_wb _ rfl).trans ((rd_wb _ rfl).trans ((rd_wb _ rfl).trans ((rd_wb _ rfl).trans ((rd_wb _ rfl).trans ((rd_wb _ rfl).trans ((rd_wb _ rfl).trans ((rd_wb _ rfl).trans ((rd_wb _ rfl).trans ((rd_wb _ rfl).trans ((rd_wb _ rfl).trans ((rd_wb _ rfl).trans ((rd_wb _ rfl).trans ((rd_wb _ rfl).trans ((rd_wb _ rfl).trans ((rd_wb _ rfl).trans ((rd_wb _ rfl).trans ((rd_wb _ rfl).trans ((rd_wb _ rfl).trans ((rd_wb _ rfl).trans ((rd_wb _ rfl).trans ((rd_wb _ rfl).trans ((rd_wb _ rfl).trans ((rd_wb _ rfl).trans ((rd_wb _ rfl).trans ((rd_wb _ rfl).trans ((rd_wb _ rfl).trans ((rd_wb _ rfl).trans ((rd_wb _ rfl).trans ((rd_wb _ rfl).trans ((rd_wb _ rfl).trans ((rd_wb _ rfl).trans ((rd_wb _ rfl).trans ((rd_wb _ rfl).trans ((rd_wb _ rfl).trans ((rd_wb _ rfl).trans ((rd_wb _ rfl).trans (rd_ws _ _ _ _)))))))))))))))))))))))))))))))))))))))))))))))))))))))))))))))))))))))))))) ?_
    refine Tr.iastX (pc := 183) d_X12_over_183 (ty_179 hF) (by decide) (by decide) hF (by decide +kernel) (fun hF => ?_)
    refine Tr.iinc (pc := 184) (ls2 := [(9, (0, 1)), (2, (1, 0)), (4, (0, 1)), (8, (0, 0)), (7, (0, 0)), (6, (0, 0)), (5, (0, 0)), (0, (2, 120)), (1, (0, 0))]) d_X12_over_184 rfl (by decide) rfl ?_
    refine Tr.goto (pc := 187) (tgt := 164) d_X12_over_187 rfl ?_
    refine Tr.iload (pc := 164) (i := 9) d_X12_over_164 rfl ?_
    refine Tr.iconst (pc := 166) d_X12_over_166 (by decide) ?_
    refine Tr.icmp_ge (pc := 167) (tgt := 190) d_X12_over_167 rfl (fun hc => absurd hc (by decide)) (fun _ => ?_)
    refine Tr.aload_n (pc := 170) (i := 0) d_X12_over_170 rfl rfl ?_
    refine Tr.getf (pc := 171) d_X12_over_171 f_12_330 (by decide) (by decide) (ty_120 hF) ?_
    refine Tr.tp 179 (fx_120_105 hF) ?_
    refine Tr.iload (pc := 174) (i := 9) d_X12_over_174 rfl ?_
    refine Tr.aload_n (pc := 176) (i := 0) d_X12_over_176 rfl rfl ?_
    refine Tr.getf (pc := 177) d_X12_over_177 f_12_171 (by decide) (by decide) (ty_120 hF) ?_
    refine Tr.tp 154 (fx_120_52 hF) ?_
    refine Tr.iload (pc := 180) (i := 9) d_X12_over_180 rfl ?_
    refine Tr.iald (pc := 182) d_X12_over_182 (ty_154 hF) (by decide) (by decide) ?_
    refine Tr.tp 0 ((rd_wb _ rfl).trans ((rd_wb _ rfl).trans ((rd_wb _ rfl).trans ((rd_wb _ rfl).trans ((rd_wb _ rfl).trans ((rd_wb _ rfl).trans ((rd_wb _ rfl).trans ((rd_wb _ rfl).trans ((rd_wb _ rfl).trans ((rd_wb _ rfl).trans ((rd_wb _ rfl).trans ((rd_wb _ rfl).trans ((rd_wb _ rfl).trans ((rd_wb _ rfl).trans ((rd_wb _ rfl).trans ((rd_wb _ rfl).trans ((rd_wb _ rfl).trans ((rd_wb _ rfl).trans ((rd_wb _ rfl).trans ((rd_wb _ rfl).trans ((rd_wb _ rfl).trans ((rd_wb _ rfl).trans ((rd_wb _ rfl).trans ((rd_wb _ rfl).trans ((rd_wb _ rfl).trans ((rd_wb _ rfl).trans ((rd_wb _ rfl).trans ((rd_wb _ rfl).trans ((rd_wb _ rfl).trans ((rd_wb _ rfl).trans ((rd_wb _ rfl).trans ((rd_wb _ rfl).trans ((rd_wb _ rfl).trans ((rd_wb _ rfl).trans ((rd_wb _ rfl).trans ((rd_wb _ rfl).trans ((rd_wb _ rfl).trans ((rd_wb _ rfl).trans ((rd_wb _ rfl).trans ((rd_wb _ rfl).trans ((rd_wb _ rfl).trans ((rd_wb _ rfl).trans ((rd_wb _ rfl).trans ((rd_wb _ rfl).trans ((rd_wb _ rfl).trans ((rd_wb _ rfl).trans ((rd_wb _ rfl).trans ((rd_wb _ rfl).trans ((rd_wb _ rfl).trans ((rd_wb _ rfl).trans ((rd_wb _ rfl).trans ((rd_wb _ rfl).trans ((rd_wb _ rfl).trans ((rd_wb _ rfl).trans ((rd_wb _ rfl).trans ((rd_wb _ rfl).trans ((rd_wb _ rfl).trans ((rd_wb _ rfl).trans ((rd_wb _ rfl).trans ((rd_wb _ rfl).trans ((rd_wb _ rfl).trans ((rd_wb _ rfl).trans ((rd_wb _ rfl).trans ((rd_wb _ rfl).trans ((rd_wb _ rfl).trans ((rd_wb _ rfl).trans ((rd_wb _ rfl).trans ((rd_wb _ rfl).trans ((rd_wb _ rfl).trans ((rd_wb _ rfl).trans ((rd_wb _ rfl).trans ((rd_wb _ rfl).trans ((rd_wb _ rfl).trans ((rd_wb _ rfl).trans ((rd_wb _ rfl).trans (rd_ws _ _ _ _)))))))))))))))))))))))))))))))))))))))))))))))))))))))))))))))))))))))))))) ?_
    refine Tr.iastX (pc := 183) d_X12_over_183 (ty_179 hF) (by decide) (by decide) hF (by decide +kernel) (fun hF => ?_)
    refine Tr.iinc (pc := 184) (ls2 := [(9, (0, 2)), (2, (1, 0)), (4, (0, 1)), (8, (0, 0)), (7, (0, 0)), (6, (0, 0)), (5, (0, 0)), (0, (2, 120)), (1, (0, 0))]) d_X12_over_184 rfl (by decide) rfl ?_
    refine Tr.goto (pc := 187) (tgt := 164) d_X12_over_187 rfl ?_
    refine Tr.iload (pc := 164) (i := 9) d_X12_over_164 rfl ?_
    refine Tr.iconst (pc := 166) d_X12_over_166 (by decide) ?_
    refine Tr.icmp_ge (pc := 167) (tgt := 190) d_X12_over_167 rfl (fun hc => absurd hc (by decide)) (fun _ => ?_)
    refine Tr.aload_n (pc := 170) (i := 0) d_X12_over_170 rfl rfl ?_
    refine Tr.getf (pc := 171) d_X12_over_171 f_12_330 (by decide) (by decide) (ty_120 hF) ?_
    refine Tr.tp 179 (fx_120_105 hF) ?_
    refine Tr.iload (pc := 174) (i := 9) d_X12_over_174 rfl ?_
    refine Tr.aload_n (pc := 176) (i := 0) d_X12_over_176 rfl rfl ?_
    refine Tr.getf (pc := 177) d_X12_over_177 f_12_171 (by decide) (by decide) (ty_120 hF) ?_
    refine Tr.tp 154 (fx_120_52 hF) ?_
    refine Tr.iload (pc := 180) (i := 9) d_X12_over_180 rfl ?_
    refine Tr.iald (pc := 182) d_X12_over_182 (ty_154 hF) (by decide) (by decide) ?_
    refine Tr.tp 0 ((rd_wb _ rfl).trans ((rd_wb _ rfl).trans ((rd_wb _ rfl).trans ((rd_wb _ rfl).trans ((rd_wb _ rfl).trans ((rd_wb _ rfl).trans ((rd_wb _ rfl).trans ((rd_wb _ rfl).trans ((rd_wb _ rfl).trans ((rd_wb _ rfl).trans ((rd_wb _ rfl).trans ((rd_wb _ rfl).trans ((rd_wb _ rfl).trans ((rd_wb _ rfl).trans ((rd_wb _ rfl).trans ((rd_wb _ rfl).trans ((rd_wb _ rfl).trans ((rd_wb _ rfl).trans ((rd_wb _ rfl).trans ((rd_wb _ rfl).trans ((rd_wb _ rfl).trans ((rd_wb _ rfl).trans ((rd_wb _ rfl).trans ((rd_wb _ rfl).trans ((rd_wb _ rfl).trans ((rd_wb _ rfl).trans ((rd_wb _ rfl).trans ((rd_wb _ rfl).trans ((rd_wb _ rfl).trans ((rd_wb _ rfl).trans ((rd_wb _ rfl).trans ((rd_wb _ rfl).trans ((rd_wb _ rfl).trans ((rd_wb _ rfl).trans ((rd_wb _ rfl).trans ((rd_wb _ rfl).trans ((rd_wb _ rfl).trans ((rd_wb _ rfl).trans ((rd_wb _ rfl).trans ((rd_wb _ rfl).trans ((rd_wb _ rfl).trans ((rd_wb _ rfl).trans ((rd_wb _ rfl).trans ((rd_wb _ rfl).trans ((rd_wb _ rfl).trans ((rd_wb _ rfl).trans ((rd_wb _ rfl).trans ((rd_wb _ rfl).trans ((rd_wb _ rfl).trans ((rd_wb _ rfl).trans ((rd_wb _ rfl).trans ((rd_wb _ rfl).trans ((rd_wb _ rfl).trans ((rd_wb _ rfl).trans ((rd_wb _ rfl).trans ((rd_wb _ rfl).trans ((rd_wb _ rfl).trans ((rd_wb _ rfl).trans ((rd_wb _ rfl).trans ((rd_wb _ rfl).trans ((rd_wb _ rfl).trans ((rd_wb _ rfl).trans ((rd_wb _ rfl).trans ((rd_wb _ rfl).trans ((rd_wb _ rfl).trans ((rd_wb _ rfl).trans ((rd_wb _ rfl).trans ((rd_wb _ rfl).trans ((rd_wb _ rfl).trans ((rd_wb _ rfl).trans ((rd_wb _ rfl).trans ((rd_wb _ rfl).trans ((rd_wb _ rfl).trans ((rd_wb _ rfl).trans ((rd_wb _ rfl).trans (rd_ws _ _ _ _)))))))))))))))))))))))))))))))))))))))))))))))))))))))))))))))))))))))))))) ?_
    refine Tr.iastX (pc := 183) d_X12_over_183 (ty_179 hF) (by decide) (by decide) hF (by decide +kernel) (fun hF => ?_)
    refine Tr.iinc (pc := 184) (ls2 := [(9, (0, 3)), (2, (1, 0)), (4, (0, 1)), (8, (0, 0)), (7, (0, 0)), (6, (0, 0)), (5, (0, 0)), (0, (2, 120)), (1, (0, 0))]) d_X12_over_184 rfl (by decide) rfl ?_
    refine Tr.goto (pc := 187) (tgt := 164) d_X12_over_187 rfl ?_
    refine Tr.iload (pc := 164) (i := 9) d_X12_over_164 rfl ?_
    refine Tr.iconst (pc := 166) d_X12_over_166 (by decide) ?_
    refine Tr.icmp_ge (pc := 167) (tgt := 190) d_X12_over_167 rfl (fun _ => ?_) (fun hc => absurd (by decide) hc)
    refine Tr.iinc (pc := 190) (ls2 := [(7, (0, 1)), (9, (0, 3)), (2, (1, 0)), (4, (0, 1)), (8, (0, 0)), (6, (0, 0)), (5, (0, 0)), (0, (2, 120)), (1, (0, 0))]) d_X12_over_190 rfl (by decide) rfl ?_
    refine Tr.goto (pc := 193) (tgt := 59) d_X12_over_193 rfl ?_
    refine Tr.iload (pc := 59) (i := 7) d_X12_over_59 rfl ?_
    refine Tr.aload_n (pc := 61) (i := 0) d_X12_over_61 rfl rfl ?_
    refine Tr.iconst (pc := 62) d_X12_over_62 (by decide) ?_
    refine Tr.callV (pc := 63) (as := [_]) d_X12_over_63 s_12_680 ok_X12_span rfl rfl (Nat.le_of_ble_eq_true rfl) (Nat.le_of_ble_eq_true rfl) (by decide) (ty_120 hF) ?_
    refine Tr.lc [(0, (2, 120)), (1, (0, 2))] rfl ?_
    refine Tr.iload_n (pc := 0) (i := 1) d_X12_span_0 rfl rfl ?_
    refine Tr.aload_n (pc := 1) (i := 0) d_X12_span_1 rfl rfl ?_
    refine Tr.getf (pc := 2) d_X12_span_2 f_12_66 (by decide) (by decide) (ty_120 hF) ?_
    refine Tr.tp 127 (fx_120_18 hF) ?_
    refine Tr.aload_n (pc := 5) (i := 0) d_X12_span_5 rfl rfl ?_
    refine Tr.getf (pc := 6) d_X12_span_6 f_12_48 (by decide) (by decide) (ty_120 hF) ?_
    refine Tr.tp 0 ((rd_wb _ rfl).trans ((rd_wb _ rfl).trans ((rd_wb _ rfl).trans ((rd_wb _ rfl).trans ((rd_wb _ rfl).trans ((rd_wb _ rfl).trans ((rd_wb _ rfl).trans ((rd_wb _ rfl).trans ((rd_wb _ rfl).trans ((rd_wb _ rfl).trans ((rd_wb _ rfl).trans ((rd_wb _ rfl).trans ((rd_wb _ rfl).trans ((rd_wb _ rfl).trans ((rd_wb _ rfl).trans ((rd_wb _ rfl).trans ((rd_wb _ rfl).trans ((rd_wb _ rfl).trans ((rd_wb _ rfl).trans ((rd_wb _ rfl).trans ((rd_wb _ rfl).trans ((rd_wb _ rfl).trans ((rd_wb _ rfl).trans ((rd_wb _ rfl).trans ((rd_wb _ rfl).trans ((rd_wb _ rfl).trans ((rd_wb _ rfl).trans ((rd_wb _ rfl).trans ((rd_wb _ rfl).trans ((rd_wb _ rfl).trans ((rd_wb _ rfl).trans ((rd_wb _ rfl).trans ((rd_wb _ rfl).trans ((rd_wb _ rfl).trans ((rd_wb _ rfl).trans ((rd_wb _ rfl).trans ((rd_wb _ rfl).trans ((rd_wb _ rfl).trans ((rd_wb _ rfl).trans ((rd_wb _ rfl).trans ((rd_wb _ rfl).trans ((rd_wb _ rfl).trans ((rd_wb _ rfl).trans ((rd_wb _ rfl).trans ((rd_wb _ rfl).trans ((rd_wb _ rfl).trans ((rd_wb _ rfl).trans ((rd_wb _ rfl).trans ((rd_wb _ rfl).trans ((rd_wb _ rfl).trans ((rd_wb _ rfl).trans ((rd_wb _ rfl).trans ((rd_wb _ rfl).trans ((rd_wb _ rfl).trans ((rd_wb _ rfl).trans ((rd_wb _ rfl).trans ((rd_wb _ rfl).trans ((rd_wb _ rfl).trans ((rd_wb _ rfl).trans ((rd_wb _ rfl).trans ((rd_wb _ rfl).trans ((rd_wb _ rfl).trans ((rd_wb _ rfl).trans ((rd_wb _ rfl).trans ((rd_wb _ rfl).trans ((rd_wb _ rfl).trans ((rd_wb _ rfl).trans ((rd_wb _ rfl).trans ((rd_wb _ rfl).trans ((rd_wb _ rfl).trans ((rd_wb _ rfl).trans ((rd_wb _ rfl).trans ((rd_wb _ rfl).trans ((rd_wb _ rfl).trans ((rd_wb _ rfl).trans ((rd_wb _ rfl).trans ((rd_wb _ rfl).trans ((rd_wb _ rfl).trans ((rd_wb _ rfl).trans ((rd_wb _ rfl).trans ((rd_wb _ rfl).trans ((rd_cb _ rfl).trans ((rd_wb _ rfl).trans ((rd_cb _ rfl).trans ((rd_wb _ rfl).trans ((rd_wb _ rfl).trans ((rd_fb _ rfl).trans ((rd_wb _ rfl).trans ((rd_wb _ rfl).trans ((rd_wb _ rfl).trans ((rd_wb _ rfl).trans ((rd_wb _ rfl).trans ((rd_wb _ rfl).trans ((rd_wb _ rfl).trans ((rd_wb _ rfl).trans ((rd_wb _ rfl).trans ((rd_fb _ rfl).trans ((rd_fb _ rfl).trans ((rd_fb _ rfl).trans ((rd_fb _ rfl).trans ((rd_fb _ rfl).trans ((rd_cb _ rfl).trans ((rd_wb _ rfl).trans ((rd_cb _ rfl).trans (b_120_12))))))))))))))))))))))))))))))))))))))))))))))))))))))))))))))))))))))))))))))))))))))))))))))))))))))))) ?_
    refine Tr.iald (pc := 9) d_X12_span_9 (ty_127 hF) (by decide) (by decide) ?_
    refine Tr.tp 0 ((rd_wb _ rfl).trans ((rd_wb _ rfl).trans ((rd_wb _ rfl).trans ((rd_wb _ rfl).trans ((rd_wb _ rfl).trans ((rd_wb _ rfl).trans ((rd_wb _ rfl).trans ((rd_wb _ rfl).trans ((rd_wb _ rfl).trans ((rd_wb _ rfl).trans ((rd_wb _ rfl).trans ((rd_wb _ rfl).trans ((rd_wb _ rfl).trans ((rd_wb _ rfl).trans ((rd_wb _ rfl).trans ((rd_wb _ rfl).trans ((rd_wb _ rfl).trans ((rd_wb _ rfl).trans ((rd_wb _ rfl).trans ((rd_wb _ rfl).trans ((rd_wb _ rfl).trans ((rd_wb _ rfl).trans ((rd_wb _ rfl).trans ((rd_wb _ rfl).trans ((rd_wb _ rfl).trans ((rd_wb _ rfl).trans ((rd_wb _ rfl).trans ((rd_wb _ rfl).trans ((rd_wb _ rfl).trans ((rd_wb _ rfl).trans ((rd_wb _ rfl).trans ((rd_wb _ rfl).trans ((rd_wb _ rfl).trans ((rd_wb _ rfl).trans ((rd_wb _ rfl).trans ((rd_wb _ rfl).trans ((rd_wb _ rfl).trans ((rd_wb _ rfl).trans ((rd_wb _ rfl).trans ((rd_wb _ rfl).trans ((rd_wb _ rfl).trans ((rd_wb _ rfl).trans ((rd_wb _ rfl).trans ((rd_wb _ rfl).trans ((rd_wb _ rfl).trans ((rd_wb _ rfl).trans ((rd_wb _ rfl).trans ((rd_wb _ rfl).trans ((rd_wb _ rfl).trans ((rd_wb _ rfl).trans ((rd_wb _ rfl).trans ((rd_wb _ rfl).trans ((rd_wb _ rfl).trans ((rd_wb _ rfl).trans ((rd_wb _ rfl).trans ((rd_wb _ rfl).trans ((rd_wb _ rfl).trans ((rd_wb _ rfl).trans ((rd_wb _ rfl).trans ((rd_wb _ rfl).trans ((rd_wb _ rfl).trans ((rd_wb _ rfl).trans ((rd_wb _ rfl).trans ((rd_wb _ rfl).trans ((rd_wb _ rfl).trans ((rd_wb _ rfl).trans ((rd_wb _ rfl).trans ((rd_wb _ rfl).trans ((rd_wb _ rfl).trans ((rd_wb _ rfl).trans ((rd_wb _ rfl).trans ((rd_wb _ rfl).trans ((rd_wb _ rfl).trans ((rd_wb _ rfl).trans ((rd_wb _ rfl).trans ((rd_wb _ rfl).trans ((rd_wb _ rfl).trans ((rd_wb _ rfl).trans ((rd_wb _ rfl).trans ((rd_wb _ rfl).trans ((rd_wb _ rfl).trans ((rd_cb _ rfl).trans ((rd_wb _ rfl).trans ((rd_cb _ rfl).trans ((rd_wb _ rfl).trans ((rd_wb _ rfl).trans ((rd_fb _ rfl).trans ((rd_wb _ rfl).trans ((rd_wb _ rfl).trans ((rd_wb _ rfl).trans ((rd_wb _ rfl).trans ((rd_wb _ rfl).trans ((rd_wb _ rfl).trans ((rd_wb _ rfl).trans ((rd_wb _ rfl).trans ((rd_wb _ rfl).trans ((rd_fb _ rfl).trans ((rd_fb _ rfl).trans ((rd_fb _ rfl).trans ((rd_fb _ rfl).trans ((rd_fb _ rfl).trans ((rd_cb _ rfl).trans ((rd_wb _ rfl).trans ((rd_cb _ rfl).trans (b_127_0))))))))))))))))))))))))))))))))))))))))))))))))))))))))))))))))))))))))))))))))))))))))))))))))))))))))) ?_
    refine Tr.icmp_ge (pc := 10) (tgt := 45) d_X12_span_10 rfl (fun _ => ?_) (fun hc => absurd (by decide) hc)
    refine Tr.iconst (pc := 45) d_X12_span_45 (by decide) ?_
    refine Tr.iret (pc := 46) d_X12_span_46 rfl ?_
    refine Tr.sc [_, _] rfl ?_
    refine Tr.icmp_ge (pc := 66) (tgt := 196) d_X12_over_66 rfl (fun _ => ?_) (fun hc => absurd (by decide) hc)
    refine Tr.iinc (pc := 196) (ls2 := [(6, (0, 1)), (7, (0, 1)), (9, (0, 3)), (2, (1, 0)), (4, (0, 1)), (8, (0, 0)), (5, (0, 0)), (0, (2, 120)), (1, (0, 0))]) d_X12_over_196 rfl (by decide) rfl ?_
    refine Tr.goto (pc := 199) (tgt := 46) d_X12_over_199 rfl ?_
    refine Tr.iload (pc := 46) (i := 6) d_X12_over_46 rfl ?_
    refine Tr.aload_n (pc := 48) (i := 0) d_X12_over_48 rfl rfl ?_
    refine Tr.iconst (pc := 49) d_X12_over_49 (by decide) ?_
    refine Tr.callV (pc := 50) (as := [_]) d_X12_over_50 s_12_680 ok_X12_span rfl rfl (Nat.le_of_ble_eq_true rfl) (Nat.le_of_ble_eq_true rfl) (by decide) (ty_120 hF) ?_
    refine Tr.lc [(0, (2, 120)), (1, (0, 1))] rfl ?_
    refine Tr.iload_n (pc := 0) (i := 1) d_X12_span_0 rfl rfl ?_
    refine Tr.aload_n (pc := 1) (i := 0) d_X12_span_1 rfl rfl ?_
    refine Tr.getf (pc := 2) d_X12_span_2 f_12_66 (by decide) (by decide) (ty_120 hF) ?_
    refine Tr.tp 127 (fx_120_18 hF) ?_
    refine Tr.aload_n (pc := 5) (i := 0) d_X12_span_5 rfl rfl ?_
    refine Tr.getf (pc := 6) d_X12_span_6 f_12_48 (by decide) (by decide) (ty_120 hF) ?_
    refine Tr.tp 0 ((rd_wb _ rfl).trans ((rd_wb _ rfl).trans ((rd_wb _ rfl).trans ((rd_wb _ rfl).trans ((rd_wb _ rfl).trans ((rd_wb _ rfl).trans ((rd_wb _ rfl).trans ((rd_wb _ rfl).trans ((rd_wb _ rfl).trans ((rd_wb _ rfl).trans ((rd_wb _ rfl).trans ((rd_wb _ rfl).trans ((rd_wb _ rfl).trans ((rd_wb _ rfl).trans ((rd_wb _ rfl).trans ((rd_wb _ rfl).trans ((rd_wb _ rfl).trans ((rd_wb _ rfl).trans ((rd_wb _ rfl).trans ((rd_wb _ rfl).trans ((rd_wb _ rfl).trans ((rd_wb _ rfl).trans ((rd_wb _ rfl).trans ((rd_wb _ rfl).trans ((rd_wb _ rfl).trans ((rd_wb _ rfl).trans ((rd_wb _ rfl).trans ((rd_wb _ rfl).trans ((rd_wb _ rfl).trans ((rd_wb _ rfl).trans ((rd_wb _ rfl).trans ((rd_wb _ rfl).trans ((rd_wb _ rfl).trans ((rd_wb _ rfl).trans ((rd_wb _ rfl).trans ((rd_wb _ rfl).trans ((rd_wb _ rfl).trans ((rd_wb _ rfl).trans ((rd_wb _ rfl).trans ((rd_wb _ rfl).trans ((rd_wb _ rfl).trans ((rd_wb _ rfl).trans ((rd_wb _ rfl).trans ((rd_wb _ rfl).trans ((rd_wb _ rfl).trans ((rd_wb _ rfl).trans ((rd_wb _ rfl).trans ((rd_wb _ rfl).trans ((rd_wb _ rfl).trans ((rd_wb _ rfl).trans ((rd_wb _ rfl).trans ((rd_wb _ rfl).trans ((rd_wb _ rfl).trans ((rd_wb _ rfl).trans ((rd_wb _ rfl).trans ((rd_wb _ rfl).trans ((rd_wb _ rfl).trans ((rd_wb _ rfl).trans ((rd_wb _ rfl).trans ((rd_wb _ rfl).trans ((rd_wb _ rfl).trans ((rd_wb _ rfl).trans ((rd_wb _ rfl).trans ((rd_wb _ rfl).trans ((rd_wb _ rfl).trans ((rd_wb _ rfl).trans ((rd_wb _ rfl).trans ((rd_wb _ rfl).trans ((rd_wb _ rfl).trans ((rd_wb _ rfl).trans ((rd_wb _ rfl).trans ((rd_wb _ rfl).trans ((rd_wb _ rfl).trans ((rd_wb _ rfl).trans ((rd_wb _ rfl).trans ((rd_wb _ rfl).trans ((rd_wb _ rfl).trans ((rd_wb _ rfl).trans ((rd_wb _ rfl).trans ((rd_wb _ rfl).trans ((rd_wb _ rfl).trans ((rd_cb _ rfl).trans ((rd_wb _ rfl).trans ((rd_cb _ rfl).trans ((rd_wb _ rfl).trans ((rd_wb _ rfl).trans ((rd_fb _ rfl).trans ((rd_wb _ rfl).trans ((rd_wb _ rfl).trans ((rd_wb _ rfl).trans ((rd_wb _ rfl).trans ((rd_wb _ rfl).trans ((rd_wb _ rfl).trans ((rd_wb _ rfl).trans ((rd_wb _ rfl).trans ((rd_wb _ rfl).trans ((rd_fb _ rfl).trans ((rd_fb _ rfl).trans ((rd_fb _ rfl).trans ((rd_fb _ rfl).trans ((rd_fb _ rfl).trans ((rd_cb _ rfl).trans ((rd_wb _ rfl).trans ((rd_cb _ rfl).trans (b_120_12))))))))))))))))))))))))))))))))))))))))))))))))))))))))))))))))))))))))))))))))))))))))))))))))))))))))) ?_
    refine Tr.iald (pc := 9) d_X12_span_9 (ty_127 hF) (by decide) (by decide) ?_
    refine Tr.tp 0 ((rd_wb _ rfl).trans ((rd_wb _ rfl).trans ((rd_wb _ rfl).trans ((rd_wb _ rfl).trans ((rd_wb _ rfl).trans ((rd_wb _ rfl).trans ((rd_wb _ rfl).trans ((rd_wb _ rfl).trans ((rd_wb _ rfl).trans ((rd_wb _ rfl).trans ((rd_wb _ rfl).trans ((rd_wb _ rfl).trans ((rd_wb _ rfl).trans ((rd_wb _ rfl).trans ((rd_wb _ rfl).trans ((rd_wb _ rfl).trans ((rd_wb _ rfl).trans ((rd_wb _ rfl).trans ((rd_wb _ rfl).trans ((rd_wb _ rfl).trans ((rd_wb _ rfl).trans ((rd_wb _ rfl).trans ((rd_wb _ rfl).trans ((rd_wb _ rfl).trans ((rd_wb _ rfl).trans ((rd_wb _ rfl).trans ((rd_wb _ rfl).trans ((rd_wb _ rfl).trans ((rd_wb _ rfl).trans ((rd_wb _ rfl).trans ((rd_wb _ rfl).trans ((rd_wb _ rfl).trans ((rd_wb _ rfl).trans ((rd_wb _ rfl).trans ((rd_wb _ rfl).trans ((rd_wb _ rfl).trans ((rd_wb _ rfl).trans ((rd_wb _ rfl).trans ((rd_wb _ rfl).trans ((rd_wb _ rfl).trans ((rd_wb _ rfl).trans ((rd_wb _ rfl).trans ((rd_wb _ rfl).trans ((rd_wb _ rfl).trans ((rd_wb _ rfl).trans ((rd_wb _ rfl).trans ((rd_wb _ rfl).trans ((rd_wb _ rfl).trans ((rd_wb _ rfl).trans ((rd_wb _ rfl).trans ((rd_wb _ rfl).trans ((rd_wb _ rfl).trans ((rd_wb _ rfl).trans ((rd_wb _ rfl).trans ((rd_wb _ rfl).trans ((rd_wb _ rfl).trans ((rd_wb _ rfl).trans ((rd_wb _ rfl).trans ((rd_wb _ rfl).trans ((rd_wb _ rfl).trans ((rd_wb _ rfl).trans ((rd_wb _ rfl).trans ((rd_wb _ rfl).trans ((rd_wb _ rfl).trans ((rd_wb _ rfl).trans ((rd_wb _ rfl).trans ((rd_wb _ rfl).trans ((rd_wb _ rfl).trans ((rd_wb _ rfl).trans ((rd_wb _ rfl).trans ((rd_wb _ rfl).trans ((rd_wb _ rfl).trans ((rd_wb _ rfl).trans ((rd_wb _ rfl).trans ((rd_wb _ rfl).trans ((rd_wb _ rfl).trans ((rd_wb _ rfl).trans ((rd_wb _ rfl).trans ((rd_wb _ rfl).trans ((rd_wb _ rfl).trans ((rd_wb _ rfl).trans ((rd_cb _ rfl).trans ((rd_wb _ rfl).trans ((rd_cb _ rfl).trans ((rd_wb _ rfl).trans ((rd_wb _ rfl).trans ((rd_fb _ rfl).trans ((rd_wb _ rfl).trans ((rd_wb _ rfl).trans ((rd_wb _ rfl).trans ((rd_wb _ rfl).trans ((rd_wb _ rfl).trans ((rd_wb _ rfl).trans ((rd_wb _ rfl).trans ((rd_wb _ rfl).trans ((rd_wb _ rfl).trans ((rd_fb _ rfl).trans ((rd_fb _ rfl).trans ((rd_fb _ rfl).trans ((rd_fb _ rfl).trans ((rd_fb _ rfl).trans ((rd_cb _ rfl).trans ((rd_wb _ rfl).trans ((rd_cb _ rfl).trans (b_127_0))))))))))))))))))))))))))))))))))))))))))))))))))))))))))))))))))))))))))))))))))))))))))))))))))))))))) ?_
    refine Tr.icmp_ge (pc := 10) (tgt := 45) d_X12_span_10 rfl (fun _ => ?_) (fun hc => absurd (by decide) hc)
    refine Tr.iconst (pc := 45) d_X12_span_45 (by decide) ?_
    refine Tr.iret (pc := 46) d_X12_span_46 rfl ?_
    refine Tr.sc [_, _] rfl ?_
    refine Tr.icmp_ge (pc := 53) (tgt := 202) d_X12_over_53 rfl (fun _ => ?_) (fun hc => absurd (by decide) hc)
    refine Tr.iinc (pc := 202) (ls2 := [(5, (0, 1)), (6, (0, 1)), (7, (0, 1)), (9, (0, 3)), (2, (1, 0)), (4, (0, 1)), (8, (0, 0)), (0, (2, 120)), (1, (0, 0))]) d_X12_over_202 rfl (by decide) rfl ?_
    refine Tr.goto (pc := 205) (tgt := 33) d_X12_over_205 rfl ?_
    refine Tr.iload (pc := 33) (i := 5) d_X12_over_33 rfl ?_
    refine Tr.aload_n (pc := 35) (i := 0) d_X12_over_35 rfl rfl ?_
    refine Tr.iconst (pc := 36) d_X12_over_36 (by decide) ?_
    refine Tr.callV (pc := 37) (as := [_]) d_X12_over_37 s_12_680 ok_X12_span rfl rfl (Nat.le_of_ble_eq_true rfl) (Nat.le_of_ble_eq_true rfl) (by decide) (ty_120 hF) ?_
    refine Tr.lc [(0, (2, 120)), (1, (0, 0))] rfl ?_
    refine Tr.iload_n (pc := 0) (i := 1) d_X12_span_0 rfl rfl ?_
    refine Tr.aload_n (pc := 1) (i := 0) d_X12_span_1 rfl rfl ?_
    refine Tr.getf (pc := 2) d_X12_span_2 f_12_66 (by decide) (by decide) (ty_120 hF) ?_
    refine Tr.tp 127 (fx_120_18 hF) ?_
    refine Tr.aload_n (pc := 5) (i := 0) d_X12_span_5 rfl rfl ?_
    refine Tr.getf (pc := 6) d_X12_span_6 f_12_48 (by decide) (by decide) (ty_120 hF) ?_
    refine Tr.tp 0 ((rd_wb _ rfl).trans ((rd_wb _ rfl).trans ((rd_wb _ rfl).trans ((rd_wb _ rfl).trans ((rd_wb _ rfl).trans ((rd_wb _ rfl).trans ((rd_wb _ rfl).trans ((rd_wb _ rfl).trans ((rd_wb _ rfl).trans ((rd_wb _ rfl).trans ((rd_wb _ rfl).trans ((rd_wb _ rfl).trans ((rd_wb _ rfl).trans ((rd_wb _ rfl).trans ((rd_wb _ rfl).trans ((rd_wb _ rfl).trans ((rd_wb _ rfl).trans ((rd_wb _ rfl).trans ((rd_wb _ rfl).trans ((rd_wb _ rfl).trans ((rd_wb _ rfl).trans ((rd_wb _ rfl).trans ((rd_wb _ rfl).trans ((rd_wb _ rfl).trans ((rd_wb _ rfl).trans ((rd_wb _ rfl).trans ((rd_wb _ rfl).trans ((rd_wb _ rfl).trans ((rd_wb _ rfl).trans ((rd_wb _ rfl).trans ((rd_wb _ rfl).trans ((rd_wb _ rfl).trans ((rd_wb _ rfl).trans ((rd_wb _ rfl).trans ((rd_wb _ rfl).trans ((rd_wb _ rfl).trans ((rd_wb _ rfl).trans ((rd_wb _ rfl).trans ((rd_wb _ rfl).trans ((rd_wb _ rfl).trans ((rd_wb _ rfl).trans ((rd_wb _ rfl).trans ((rd_wb _ rfl).trans ((rd_wb _ rfl).trans ((rd_wb _ rfl).trans ((rd_wb _ rfl).trans ((rd_wb _ rfl).trans ((rd_wb _ rfl).trans ((rd_wb _ rfl).trans ((rd_wb _ rfl).trans ((rd_wb _ rfl).trans ((rd_wb _ rfl).trans ((rd_wb _ rfl).trans ((rd_wb _ rfl).trans ((rd_wb _ rfl).trans ((rd_wb _ rfl).trans ((rd_wb _ rfl).trans ((rd_wb _ rfl).trans ((rd_wb _ rfl).trans ((rd_wb _ rfl).trans ((rd_wb _ rfl).trans ((rd_wb _ rfl).trans ((rd_wb _ rfl).trans ((rd_wb _ rfl).trans ((rd_wb _ rfl).trans ((rd_wb _ rfl).trans ((rd_wb _ rfl).trans ((rd_wb _ rfl).trans ((rd_wb _ rfl).trans ((rd_wb _ rfl).trans ((rd_wb _ rfl).trans ((rd_wb _ rfl).trans ((rd_wb _ rfl).trans ((rd_wb _ rfl).trans ((rd_wb _ rfl).trans ((rd_wb _ rfl).trans ((rd_wb _ rfl).trans ((rd_wb _ rfl).trans ((rd_wb _ rfl).trans ((rd_wb _ rfl).trans ((rd_wb _ rfl).trans ((rd_cb _ rfl).trans ((rd_wb _ rfl).trans ((rd_cb _ rfl).trans ((rd_wb _ rfl).trans ((rd_wb _ rfl).trans ((rd_fb _ rfl).trans ((rd_wb _ rfl).trans ((rd_wb _ rfl).trans ((rd_wb _ rfl).trans ((rd_wb _ rfl).trans ((rd_wb _ rfl).trans ((rd_wb _ rfl).trans ((rd_wb _ rfl).trans ((rd_wb _ rfl).trans ((rd_wb _ rfl).trans ((rd_fb _ rfl).trans ((rd_fb _ rfl).trans ((rd_fb _ rfl).trans ((rd_fb _ rfl).trans ((rd_fb _ rfl).trans ((rd_cb _ rfl).trans ((rd_wb _ rfl).trans ((rd_cb _ rfl).trans (b_120_12))))))))))))))))))))))))))))))))))))))))))))))))))))))))))))))))))))))))))))))))))))))))))))))))))))))))) ?_
    refine Tr.iald (pc := 9) d_X12_span_9 (ty_127 hF) (by decide) (by decide) ?_
    refine Tr.tp 0 ((rd_wb _ rfl).trans ((rd_wb _ rfl).trans ((rd_wb _ rfl).trans ((rd_wb _ rfl).trans ((rd_wb _ rfl).trans ((rd_wb _ rfl).trans ((rd_wb _ rfl).trans ((rd_wb _ rfl).trans ((rd_wb _ rfl).trans ((rd_wb _ rfl).trans ((rd_wb _ rfl).trans ((rd_wb _ rfl).trans ((rd_wb _ rfl).trans ((rd_wb _ rfl).trans ((rd_wb _ rfl).trans ((rd_wb _ rfl).trans ((rd_wb _ rfl).trans ((rd_wb _ rfl).trans ((rd_wb _ rfl).trans ((rd_wb _ rfl).trans ((rd_wb _ rfl).trans ((rd_wb _ rfl).trans ((rd_wb _ rfl).trans ((rd_wb _ rfl).trans ((rd_wb _ rfl).trans ((rd_wb _ rfl).trans ((rd_wb _ rfl).trans ((rd_wb _ rfl).trans ((rd_wb _ rfl).trans ((rd_wb _ rfl).trans ((rd_wb _ rfl).trans ((rd_wb _ rfl).trans ((rd_wb _ rfl).trans ((rd_wb _ rfl).trans ((rd_wb _ rfl).trans ((rd_wb _ rfl).trans ((rd_wb _ rfl).trans ((rd_wb _ rfl).trans ((rd_wb _ rfl).trans ((rd_wb _ rfl).trans ((rd_wb _ rfl).trans ((rd_wb _ rfl).trans ((rd_wb _ rfl).trans ((rd_wb _ rfl).trans ((rd_wb _ rfl).trans ((rd_wb _ rfl).trans ((rd_wb _ rfl).trans ((rd_wb _ rfl).trans ((rd_wb _ rfl).trans ((rd_wb _ rfl).trans ((rd_wb _ rfl).trans ((rd_wb _ rfl).trans ((rd_wb _ rfl).trans ((rd_wb _ rfl).trans ((rd_wb _ rfl).trans ((rd_wb _ rfl).trans ((rd_wb _ rfl).trans ((rd_wb _ rfl).trans ((rd_wb _ rfl).trans ((rd_wb _ rfl).trans ((rd_wb _ rfl).trans ((rd_wb _ rfl).trans ((rd_wb _ rfl).trans ((rd_wb _ rfl).trans ((rd_wb _ rfl).trans ((rd_wb _ rfl).trans ((rd_wb _ rfl).trans ((rd_wb _ rfl).trans ((rd_wb _ rfl).trans ((rd_wb _ rfl).trans ((rd_wb _ rfl).trans ((rd_wb _ rfl).trans ((rd_wb _ rfl).trans ((rd_wb _ rfl).trans ((rd_wb _ rfl).trans ((rd_wb _ rfl).trans ((rd_wb _ rfl).trans ((rd_wb _ rfl).trans ((rd_wb _ rfl).trans ((rd_wb _ rfl).trans ((rd_wb _ rfl).trans ((rd_cb _ rfl).trans ((rd_wb _ rfl).trans ((rd_cb _ rfl).trans ((rd_wb _ rfl).trans ((rd_wb _ rfl).trans ((rd_fb _ rfl).trans ((rd_wb _ rfl).trans ((rd_wb _ rfl).trans ((rd_wb _ rfl).trans ((rd_wb _ rfl).trans ((rd_wb _ rfl).trans ((rd_wb _ rfl).trans ((rd_wb _ rfl).trans ((rd_wb _ rfl).trans ((rd_wb _ rfl).trans ((rd_fb _ rfl).trans ((rd_fb _ rfl).trans ((rd_fb _ rfl).trans ((rd_fb _ rfl).trans ((rd_fb _ rfl).trans ((rd_cb _ rfl).trans ((rd_wb _ rfl).trans ((rd_cb _ rfl).trans (b_127_0))))))))))))))))))))))))))))))))))))))))))))))))))))))))))))))))))))))))))))))))))))))))))))))))))))))))) ?_
    refine Tr.icmp_ge (pc := 10) (tgt := 45) d_X12_span_10 rfl (fun _ => ?_) (fun hc => absurd (by decide) hc)
    refine Tr.iconst (pc := 45) d_X12_span_45 (by decide) ?_
    refine Tr.iret (pc := 46) d_X12_span_46 rfl ?_
    refine Tr.sc [_, _] rfl ?_
    refine Tr.icmp_ge (pc := 40) (tgt := 208) d_X12_over_40 rfl (fun _ => ?_) (fun hc => absurd (by decide) hc)
    refine Tr.aload_n (pc := 208) (i := 0) d_X12_over_208 rfl rfl ?_
    refine Tr.iconst (pc := 209) d_X12_over_209 (by decide) ?_
    refine Tr.putzX (pc := 210) d_X12_over_210 f_12_327 (by decide) (ty_120 hF) (by decide) hF (by decide +kernel) (fun hF => ?_)
    refine Tr.lload_n (pc := 213) (i := 2) d_X12_over_213 rfl rfl ?_
    refine Tr.l2i (pc := 214) d_X12_over_214 ?_
    refine Tr.tp 0 rfl ?_
    refine Tr.iret (pc := 215) d_X12_over_215 rfl ?_
    refine Tr.sc [_, _] rfl ?_
    refine Tr.icmp_eq (pc := 743) (tgt := 998) d_L_law_743 rfl (fun _ => ?_) (fun hc => absurd (by decide) hc)
    refine Tr.iinc (pc := 998) (ls2 := [(3, (0, 6)), (2, (2, 120)), (1, (2, 0)), (0, (2, (-2)))]) d_L_law_998 rfl (by decide) rfl ?_
    refine Tr.goto (pc := 1001) (tgt := 18) d_L_law_1001 rfl ?_
    refine Tr.iload_n (pc := 18) (i := 3) d_L_law_18 rfl rfl ?_
    refine Tr.aload_n (pc := 19) (i := 0) d_L_law_19 rfl rfl ?_
    refine Tr.xlen (pc := 20) (i := 0) d_L_law_20 rfl he (by decide) ?_
    refine Tr.tp 6 rfl ?_
    refine Tr.bipush (pc := 21) d_L_law_21 rfl (by decide) ?_
    refine Tr.isub (pc := 23) d_L_law_23 ?_
    refine Tr.tp 0 rfl ?_
    refine Tr.icmp_gt (pc := 24) (tgt := 1004) d_L_law_24 rfl (fun _ => ?_) (fun hc => absurd (by decide) hc)
    refine Tr.iconst (pc := 1004) d_L_law_1004 (by decide) ?_
    exact Tr.zret (pc := 1005) d_L_law_1005 rfl (by decide) ⟨rfl, Fx_room hF⟩
  · refine Tr.iconst (pc := 718) d_L_law_718 (by decide) ?_
    refine Tr.goto (pc := 719) (tgt := 723) d_L_law_719 rfl ?_
    refine Tr.callV (pc := 723) (as := [_]) d_L_law_723 s_13_90 ok_X11_over rfl rfl (Nat.le_of_ble_eq_true rfl) (Nat.le_of_ble_eq_true rfl) (by decide) (ty_0 hF) ?_
    refine Tr.lc [(0, (2, 0)), (1, (0, 1))] rfl ?_
    refine Tr.aload_n (pc := 0) (i := 0) d_X11_over_0 rfl rfl ?_
    refine Tr.getf (pc := 1) d_X11_over_1 f_11_63 (by decide) (by decide) (ty_0 hF) ?_
    refine Tr.tp 103 (fx_0_11 hF) ?_
    refine Tr.aload_n (pc := 4) (i := 0) d_X11_over_4 rfl rfl ?_
    refine Tr.getf (pc := 5) d_X11_over_5 f_11_30 (by decide) (by decide) (ty_0 hF) ?_
    refine Tr.tp 7 (b_0_4) ?_
    refine Tr.callV (pc := 8) (as := [_]) d_X11_over_8 s_11_249 ok_X10_begin rfl rfl (Nat.le_of_ble_eq_true rfl) (Nat.le_of_ble_eq_true rfl) (by decide) (ty_103 hF) ?_
    refine Tr.lc [(0, (2, 103)), (1, (2, 7))] rfl ?_
    refine Tr.aload_n (pc := 0) (i := 1) d_X10_begin_0 rfl rfl ?_
    refine Tr.getf (pc := 1) d_X10_begin_1 f_10_33 (by decide) (by decide) (ty_7 hF) ?_
    refine Tr.tp 12 (fx_7_8 hF) ?_
    refine Tr.iconst (pc := 4) d_X10_begin_4 (by decide) ?_
    refine Tr.aload_n (pc := 5) (i := 0) d_X10_begin_5 rfl rfl ?_
    refine Tr.getf (pc := 6) d_X10_begin_6 f_10_9 (by decide) (by decide) (ty_103 hF) ?_
    refine Tr.tp 104 (fx_103_4 hF) ?_
    refine Tr.iconst (pc := 9) d_X10_begin_9 (by decide) ?_
    refine Tr.iconst (pc := 10) d_X10_begin_10 (by decide) ?_
    refine Tr.acopyX (pc := 11) (x := 12) (y := 104) d_X10_begin_11 ac_10_36 acw.1 acw.2.1 acw.2.2 (ty_12 hF) (ty_104 hF) (by decide) (by decide) (by decide) (by decide) (by decide) (Nat.le_of_ble_eq_true rfl) hF (by decide +kernel) (fun hF => ?_)
    refine Tr.aload_n (pc := 14) (i := 0) d_X10_begin_14 rfl rfl ?_
    refine Tr.getz (pc := 15) d_X10_begin_15 f_10_21 (by decide) (ty_103 hF) ?_
    refine Tr.tp 0 ((rd_cb _ rfl).trans (b_103_0)) ?_
    refine Tr.if_eq (pc := 18) (tgt := 25) d_X10_begin_18 rfl (fun _ => ?_) (fun hc => absurd (by decide) hc)
    refine Tr.aload_n (pc := 25) (i := 1) d_X10_begin_25 rfl rfl ?_
    refine Tr.callS (pc := 26) (as := [_]) d_X10_begin_26 s_10_42 ok_X10_count rfl rfl (Nat.le_of_ble_eq_true rfl) (Nat.le_of_ble_eq_true rfl) ?_
    refine Tr.lc [(0, (2, 7))] rfl ?_
    refine Tr.iconst (pc := 0) d_X10_count_0 (by decide) ?_
    refine Tr.istore_n (pc := 1) (i := 1) (ls2 := [(1, (0, 1)), (0, (2, 7))]) d_X10_count_1 rfl (by decide) rfl ?_
    refine Tr.iconst (pc := 2) d_X10_count_2 (by decide) ?_
    refine Tr.istore_n (pc := 3) (i := 2) (ls2 := [(2, (0, 0)), (1, (0, 1)), (0, (2, 7))]) d_X10_count_3 rfl (by decide) rfl ?_
    refine Tr.iload_n (pc := 4) (i := 2) d_X10_count_4 rfl rfl ?_
    refine Tr.aload_n (pc := 5) (i := 0) d_X10_count_5 rfl rfl ?_
    refine Tr.getf (pc := 6) d_X10_count_6 f_10_25 (by decide) (by decide) (ty_7 hF) ?_
    refine Tr.tp 8 (fx_7_4 hF) ?_
    refine Tr.iconst (pc := 9) d_X10_count_9 (by decide) ?_
    refine Tr.iald (pc := 10) d_X10_count_10 (ty_8 hF) (by decide) (by decide) ?_
    refine Tr.tp 0 ((rd_cb _ rfl).trans (b_8_1)) ?_
    refine Tr.icmp_ge (pc := 11) (tgt := 38) d_X10_count_11 rfl (fun _ => ?_) (fun hc => absurd (by decide) hc)
    refine Tr.iload_n (pc := 38) (i := 1) d_X10_count_38 rfl rfl ?_
    refine Tr.iret (pc := 39) d_X10_count_39 rfl ?_
    refine Tr.sc [_] rfl ?_
    refine Tr.iret (pc := 29) d_X10_begin_29 rfl ?_
    refine Tr.sc [_] rfl ?_
    refine Tr.istore_n (pc := 11) (i := 2) (ls2 := [(2, (0, 1)), (0, (2, 0)), (1, (0, 1))]) d_X11_over_11 rfl (by decide) rfl ?_
    refine Tr.iload_n (pc := 12) (i := 2) d_X11_over_12 rfl rfl ?_
    refine Tr.sipush (pc := 13) d_X11_over_13 rfl (by decide) ?_
    refine Tr.icmp_le (pc := 16) (tgt := 21) d_X11_over_16 rfl (fun _ => ?_) (fun hc => absurd (by decide) hc)
    refine Tr.iconst (pc := 21) d_X11_over_21 (by decide) ?_
    refine Tr.istore_n (pc := 22) (i := 3) (ls2 := [(3, (0, 0)), (2, (0, 1)), (0, (2, 0)), (1, (0, 1))]) d_X11_over_22 rfl (by decide) rfl ?_
    refine Tr.iload_n (pc := 23) (i := 3) d_X11_over_23 rfl rfl ?_
    refine Tr.iload_n (pc := 24) (i := 2) d_X11_over_24 rfl rfl ?_
    refine Tr.icmp_ge (pc := 25) (tgt := 87) d_X11_over_25 rfl (fun hc => absurd hc (by decide)) (fun _ => ?_)
    refine Tr.aload_n (pc := 28) (i := 0) d_X11_over_28 rfl rfl ?_
    refine Tr.getf (pc := 29) d_X11_over_29 f_11_50 (by decide) (by decide) (ty_0 hF) ?_
    refine Tr.tp 74 (fx_0_8 hF) ?_
    refine Tr.aload_n (pc := 32) (i := 0) d_X11_over_32 rfl rfl ?_
    refine Tr.getf (pc := 33) d_X11_over_33 f_11_30 (by decide) (by decide) (ty_0 hF) ?_
    refine Tr.tp 7 ((rd_cb _ rfl).trans (b_0_4)) ?_
    refine Tr.aload_n (pc := 36) (i := 0) d_X11_over_36 rfl rfl ?_
    refine Tr.getf (pc := 37) d_X11_over_37 f_11_63 (by decide) (by decide) (ty_0 hF) ?_
    refine Tr.tp 103 (fx_0_11 hF) ?_
    refine Tr.getf (pc := 40) d_X11_over_40 f_11_253 (by decide) (by decide) (ty_103 hF) ?_
    refine Tr.tp 104 (fx_103_4 hF) ?_
    refine Tr.iconst (pc := 43) d_X11_over_43 (by decide) ?_
    refine Tr.callV (pc := 44) (as := [_, _, _]) d_X11_over_44 s_11_144 ok_X6_go rfl rfl (Nat.le_of_ble_eq_true rfl) (Nat.le_of_ble_eq_true rfl) (by decide) (ty_74 hF) ?_
    refine Tr.lc [(0, (2, 74)), (1, (2, 7)), (2, (2, 104)), (3, (0, (-1)))] rfl ?_
    refine Tr.aload_n (pc := 0) (i := 0) d_X6_go_0 rfl rfl ?_
    refine Tr.aload_n (pc := 1) (i := 1) d_X6_go_1 rfl rfl ?_
    refine Tr.aload_n (pc := 2) (i := 2) d_X6_go_2 rfl rfl ?_
    refine Tr.iload_n (pc := 3) (i := 3) d_X6_go_3 rfl rfl ?_
    refine Tr.callV (pc := 4) (as := [_, _, _]) d_X6_go_4 s_6_42 ok_X6_begin rfl rfl (Nat.le_of_ble_eq_true rfl) (Nat.le_of_ble_eq_true rfl) (by decide) (ty_74 hF) ?_
    refine Tr.lc [(0, (2, 74)), (1, (2, 7)), (2, (2, 104)), (3, (0, (-1)))] rfl ?_
    refine Tr.aload_n (pc := 0) (i := 0) d_X6_begin_0 rfl rfl ?_
    refine Tr.aload_n (pc := 1) (i := 1) d_X6_begin_1 rfl rfl ?_
    refine Tr.putfX (pc := 2) d_X6_begin_2 f_6_46 (by decide) (by decide) (ty_74 hF) hF (by decide +kernel) (fun hF => ?_)
    refine Tr.aload_n (pc := 5) (i := 2) d_X6_begin_5 rfl rfl ?_
    refine Tr.iconst (pc := 6) d_X6_begin_6 (by decide) ?_
    refine Tr.aload_n (pc := 7) (i := 0) d_X6_begin_7 rfl rfl ?_
    refine Tr.getf (pc := 8) d_X6_begin_8 f_6_9 (by decide) (by decide) (ty_74 hF) ?_
    refine Tr.tp 75 (fx_74_2 hF) ?_
    refine Tr.iconst (pc := 11) d_X6_begin_11 (by decide) ?_
    refine Tr.iconst (pc := 12) d_X6_begin_12 (by decide) ?_
    refine Tr.acopyX (pc := 13) (x := 104) (y := 75) d_X6_begin_13 ac_6_85 acw.1 acw.2.1 acw.2.2 (ty_104 hF) (ty_75 hF) (by decide) (by decide) (by decide) (by decide) (by decide) (Nat.le_of_ble_eq_true rfl) hF (by decide +kernel) (fun hF => ?_)
    refine Tr.aload_n (pc := 16) (i := 0) d_X6_begin_16 rfl rfl ?_
    refine Tr.getf (pc := 17) d_X6_begin_17 f_6_15 (by decide) (by decide) (ty_74 hF) ?_
    refine Tr.tp 76 (fx_74_3 hF) ?_
    refine Tr.iconst (pc := 20) d_X6_begin_20 (by decide) ?_
    refine Tr.callS (pc := 21) (as := [_, _]) d_X6_begin_21 s_6_91 ok_J7_fill_53178 rfl rfl (Nat.le_of_ble_eq_true rfl) (Nat.le_of_ble_eq_true rfl) ?_
    refine Tr.imp (sp_fillX (N := 6) (ty_76 hF) (by decide) hF (by decide +kernel)) ?_
    rintro _ _ ⟨rfl, rfl, hF⟩
    refine Tr.sc [] rfl ?_
    refine Tr.aload_n (pc := 24) (i := 0) d_X6_begin_24 rfl rfl ?_
    refine Tr.getf (pc := 25) d_X6_begin_25 f_6_21 (by decide) (by decide) (ty_74 hF) ?_
    refine Tr.tp 78 (fx_74_5 hF) ?_
    refine Tr.iconst (pc := 28) d_X6_begin_28 (by decide) ?_
    refine Tr.callS (pc := 29) (as := [_, _]) d_X6_begin_29 s_6_91 ok_J7_fill_53178 rfl rfl (Nat.le_of_ble_eq_true rfl) (Nat.le_of_ble_eq_true rfl) ?_
    refine Tr.imp (sp_fillX (N := 8) (ty_78 hF) (by decide) hF (by decide +kernel)) ?_
    rintro _ _ ⟨rfl, rfl, hF⟩
    refine Tr.sc [] rfl ?_
    refine Tr.aload_n (pc := 32) (i := 0) d_X6_begin_32 rfl rfl ?_
    refine Tr.getf (pc := 33) d_X6_begin_33 f_6_24 (by decide) (by decide) (ty_74 hF) ?_
    refine Tr.tp 79 (fx_74_6 hF) ?_
    refine Tr.iconst (pc := 36) d_X6_begin_36 (by decide) ?_
    refine Tr.callS (pc := 37) (as := [_, _]) d_X6_begin_37 s_6_91 ok_J7_fill_53178 rfl rfl (Nat.le_of_ble_eq_true rfl) (Nat.le_of_ble_eq_true rfl) ?_
    refine Tr.imp (sp_fillX (N := 6) (ty_79 hF) (by decide) hF (by decide +kernel)) ?_
    rintro _ _ ⟨rfl, rfl, hF⟩
    refine Tr.sc [] rfl ?_
    refine Tr.aload_n (pc := 40) (i := 0) d_X6_begin_40 rfl rfl ?_
    refine Tr.getf (pc := 41) d_X6_begin_41 f_6_27 (by decide) (by decide) (ty_74 hF) ?_
    refine Tr.tp 80 (fx_74_7 hF) ?_
    refine Tr.iconst (pc := 44) d_X6_begin_44 (by decide) ?_
    refine Tr.callS (pc := 45) (as := [_, _]) d_X6_begin_45 s_6_91 ok_J7_fill_53178 rfl rfl (Nat.le_of_ble_eq_true rfl) (Nat.le_of_ble_eq_true rfl) ?_
    refine Tr.imp (sp_fillX (N := 6) (ty_80 hF) (by decide) hF (by decide +kernel)) ?_
    rintro _ _ ⟨rfl, rfl, hF⟩
    refine Tr.sc [] rfl ?_
    refine Tr.aload_n (pc := 48) (i := 0) d_X6_begin_48 rfl rfl ?_
    refine Tr.getf (pc := 49) d_X6_begin_49 f_6_30 (by decide) (by decide) (ty_74 hF) ?_
    refine Tr.tp 81 (fx_74_8 hF) ?_
    refine Tr.iconst (pc := 52) d_X6_begin_52 (by decide) ?_
    refine Tr.callS (pc := 53) (as := [_, _]) d_X6_begin_53 s_6_91 ok_J7_fill_53178 rfl rfl (Nat.le_of_ble_eq_true rfl) (Nat.le_of_ble_eq_true rfl) ?_
    refine Tr.imp (sp_fillX (N := 6) (ty_81 hF) (by decide) hF (by decide +kernel)) ?_
    rintro _ _ ⟨rfl, rfl, hF⟩
    refine Tr.sc [] rfl ?_
    refine Tr.aload_n (pc := 56) (i := 0) d_X6_begin_56 rfl rfl ?_
    refine Tr.iconst (pc := 57) d_X6_begin_57 (by decide) ?_
    refine Tr.putfX (pc := 58) d_X6_begin_58 f_6_68 (by decide) (by decide) (ty_74 hF) hF (by decide +kernel) (fun hF => ?_)
    refine Tr.aload_n (pc := 61) (i := 0) d_X6_begin_61 rfl rfl ?_
    refine Tr.iconst (pc := 62) d_X6_begin_62 (by decide) ?_
    refine Tr.putfX (pc := 63) d_X6_begin_63 f_6_97 (by decide) (by decide) (ty_74 hF) hF (by decide +kernel) (fun hF => ?_)
    refine Tr.aload_n (pc := 66) (i := 0) d_X6_begin_66 rfl rfl ?_
    refine Tr.iconst (pc := 67) d_X6_begin_67 (by decide) ?_
    refine Tr.putfX (pc := 68) d_X6_begin_68 f_6_100 (by decide) (by decide) (ty_74 hF) hF (by decide +kernel) (fun hF => ?_)
    refine Tr.aload_n (pc := 71) (i := 0) d_X6_begin_71 rfl rfl ?_
    refine Tr.iconst (pc := 72) d_X6_begin_72 (by decide) ?_
    refine Tr.putfX (pc := 73) d_X6_begin_73 f_6_103 (by decide) (by decide) (ty_74 hF) hF (by decide +kernel) (fun hF => ?_)
    refine Tr.aload_n (pc := 76) (i := 0) d_X6_begin_76 rfl rfl ?_
    refine Tr.iconst (pc := 77) d_X6_begin_77 (by decide) ?_
    refine Tr.putfX (pc := 78) d_X6_begin_78 f_6_62 (by decide) (by decide) (ty_74 hF) hF (by decide +kernel) (fun hF => ?_)
    refine Tr.aload_n (pc := 81) (i := 0) d_X6_begin_81 rfl rfl ?_
    refine Tr.iconst (pc := 82) d_X6_begin_82 (by decide) ?_
    refine Tr.putfX (pc := 83) d_X6_begin_83 f_6_79 (by decide) (by decide) (ty_74 hF) hF (by decide +kernel) (fun hF => ?_)
    refine Tr.aload_n (pc := 86) (i := 0) d_X6_begin_86 rfl rfl ?_
    refine Tr.iload_n (pc := 87) (i := 3) d_X6_begin_87 rfl rfl ?_
    refine Tr.if_lt (pc := 88) (tgt := 95) d_X6_begin_88 rfl (fun _ => ?_) (fun hc => absurd (by decide) hc)
    refine Tr.iconst (pc := 95) d_X6_begin_95 (by decide) ?_
    refine Tr.putzX (pc := 96) d_X6_begin_96 f_6_106 (by decide) (ty_74 hF) (by decide) hF (by decide +kernel) (fun hF => ?_)
    refine Tr.aload_n (pc := 99) (i := 0) d_X6_begin_99 rfl rfl ?_
    refine Tr.iload_n (pc := 100) (i := 3) d_X6_begin_100 rfl rfl ?_
    refine Tr.putfX (pc := 101) d_X6_begin_101 f_6_110 (by decide) (by decide) (ty_74 hF) hF (by decide +kernel) (fun hF => ?_)
    refine Tr.aload_n (pc := 104) (i := 0) d_X6_begin_104 rfl rfl ?_
    refine Tr.getf (pc := 105) d_X6_begin_105 f_6_38 (by decide) (by decide) (ty_74 hF) ?_
    refine Tr.tp 82 (fx_74_0 hF) ?_
    refine Tr.aload_n (pc := 108) (i := 1) d_X6_begin_108 rfl rfl ?_
    refine Tr.callV (pc := 109) (as := [_]) d_X6_begin_109 s_6_113 ok_X1_begin rfl rfl (Nat.le_of_ble_eq_true rfl) (Nat.le_of_ble_eq_true rfl) (by decide) (ty_82 hF) ?_
    refine Tr.lc [(0, (2, 82)), (1, (2, 7))] rfl ?_
    refine Tr.aload_n (pc := 0) (i := 0) d_X1_begin_0 rfl rfl ?_
    refine Tr.aload_n (pc := 1) (i := 1) d_X1_begin_1 rfl rfl ?_
    refine Tr.putfX (pc := 2) d_X1_begin_2 f_1_41 (by decide) (by decide) (ty_82 hF) hF (by decide +kernel) (fun hF => ?_)
    refine Tr.aload_n (pc := 5) (i := 0) d_X1_begin_5 rfl rfl ?_
    refine Tr.getf (pc := 6) d_X1_begin_6 f_1_9 (by decide) (by decide) (ty_82 hF) ?_
    refine Tr.tp 83 (fx_82_2 hF) ?_
    refine Tr.iconst (pc := 9) d_X1_begin_9 (by decide) ?_
    refine Tr.callS (pc := 10) (as := [_, _]) d_X1_begin_10 s_1_45 ok_J7_fill_53178 rfl rfl (Nat.le_of_ble_eq_true rfl) (Nat.le_of_ble_eq_true rfl) ?_
    refine Tr.imp (sp_fillX (N := 24) (ty_83 hF) (by decide) hF (by decide +kernel)) ?_
    rintro _ _ ⟨rfl, rfl, hF⟩
    refine Tr.sc [] rfl ?_
    refine Tr.aload_n (pc := 13) (i := 0) d_X1_begin_13 rfl rfl ?_
    refine Tr.getz (pc := 14) d_X1_begin_14 f_1_37 (by decide) (ty_82 hF) ?_
    refine Tr.tp 0 ((rd_fb _ rfl).trans ((rd_wb _ rfl).trans ((rd_wb _ rfl).trans ((rd_wb _ rfl).trans ((rd_wb _ rfl).trans ((rd_wb _ rfl).trans ((rd_wb _ rfl).trans ((rd_wb _ rfl).trans ((rd_wb _ rfl).trans ((rd_wb _ rfl).trans ((rd_fb _ rfl).trans ((rd_fb _ rfl).trans ((rd_fb _ rfl).trans ((rd_fb _ rfl).trans ((rd_fb _ rfl).trans ((rd_cb _ rfl).trans ((rd_wb _ rfl).trans ((rd_cb _ rfl).trans (b_82_0))))))))))))))))))) ?_
    refine Tr.if_eq (pc := 17) (tgt := 67) d_X1_begin_17 rfl (fun _ => ?_) (fun hc => absurd (by decide) hc)
    refine Tr.vret (pc := 67) d_X1_begin_67 rfl ?_
    refine Tr.sc [] rfl ?_
    refine Tr.vret (pc := 112) d_X6_begin_112 rfl ?_
    refine Tr.sc [] rfl ?_
    refine Tr.iconst (pc := 7) d_X6_go_7 (by decide) ?_
    refine Tr.istore (pc := 8) (i := 4) (ls2 := [(4, (0, 0)), (0, (2, 74)), (1, (2, 7)), (2, (2, 104)), (3, (0, (-1)))]) d_X6_go_8 (by decide) rfl ?_
    refine Tr.iconst (pc := 10) d_X6_go_10 (by decide) ?_
    refine Tr.istore (pc := 11) (i := 5) (ls2 := [(5, (0, 0)), (4, (0, 0)), (0, (2, 74)), (1, (2, 7)), (2, (2, 104)), (3, (0, (-1)))]) d_X6_go_11 (by decide) rfl ?_
    refine Tr.iload (pc := 13) (i := 5) d_X6_go_13 rfl ?_
    refine Tr.sipush (pc := 15) d_X6_go_15 rfl (by decide) ?_
    refine Tr.icmp_gt (pc := 18) (tgt := 103) d_X6_go_18 rfl (fun hc => absurd hc (by decide)) (fun _ => ?_)
    refine Tr.iload (pc := 21) (i := 4) d_X6_go_21 rfl ?_
    refine Tr.aload_n (pc := 23) (i := 0) d_X6_go_23 rfl rfl ?_
    refine Tr.getf (pc := 24) d_X6_go_24 f_6_46 (by decide) (by decide) (ty_74 hF) ?_
    refine Tr.tp 7 ((rd_fb _ rfl).trans ((rd_wb _ rfl).trans ((rd_wb _ rfl).trans ((rd_wb _ rfl).trans ((rd_wb _ rfl).trans ((rd_wb _ rfl).trans ((rd_wb _ rfl).trans ((rd_wb _ rfl).trans ((rd_wb _ rfl).trans ((rd_wb _ rfl).trans ((rd_fb _ rfl).trans ((rd_fb _ rfl).trans ((rd_fb _ rfl).trans ((rd_fb _ rfl).trans ((rd_fb _ rfl).trans ((rd_cb _ rfl).trans (rd_ws _ _ _ _))))))))))))))))) ?_
    refine Tr.getf (pc := 27) d_X6_go_27 f_6_50 (by decide) (by decide) (ty_7 hF) ?_
    refine Tr.tp 15 (fx_7_11 hF) ?_
    refine Tr.getf (pc := 30) d_X6_go_30 f_6_56 (by decide) (by decide) (ty_15 hF) ?_
    refine Tr.tp 0 ((rd_fb _ rfl).trans ((rd_wb _ rfl).trans ((rd_wb _ rfl).trans ((rd_wb _ rfl).trans ((rd_wb _ rfl).trans ((rd_wb _ rfl).trans ((rd_wb _ rfl).trans ((rd_wb _ rfl).trans ((rd_wb _ rfl).trans ((rd_wb _ rfl).trans ((rd_fb _ rfl).trans ((rd_fb _ rfl).trans ((rd_fb _ rfl).trans ((rd_fb _ rfl).trans ((rd_fb _ rfl).trans ((rd_cb _ rfl).trans ((rd_wb _ rfl).trans ((rd_cb _ rfl).trans (b_15_0))))))))))))))))))) ?_
    refine Tr.icmp_ge (pc := 33) (tgt := 103) d_X6_go_33 rfl (fun _ => ?_) (fun hc => absurd (by decide) hc)
    refine Tr.aload_n (pc := 103) (i := 0) d_X6_go_103 rfl rfl ?_
    refine Tr.callV (pc := 104) (as := []) d_X6_go_104 s_6_82 ok_X6_finish rfl rfl (Nat.le_of_ble_eq_true rfl) (Nat.le_of_ble_eq_true rfl) (by decide) (ty_74 hF) ?_
    refine Tr.lc [(0, (2, 74))] rfl ?_
    refine Tr.aload_n (pc := 0) (i := 0) d_X6_finish_0 rfl rfl ?_
    refine Tr.getf (pc := 1) d_X6_finish_1 f_6_68 (by decide) (by decide) (ty_74 hF) ?_
    refine Tr.tp 0 ((rd_fb _ rfl).trans ((rd_wb _ rfl).trans ((rd_wb _ rfl).trans ((rd_wb _ rfl).trans ((rd_wb _ rfl).trans ((rd_wb _ rfl).trans ((rd_wb _ rfl).trans ((rd_wb _ rfl).trans ((rd_wb _ rfl).trans (rd_ws _ _ _ _)))))))))) ?_
    refine Tr.istore_n (pc := 4) (i := 1) (ls2 := [(1, (0, 0)), (0, (2, 74))]) d_X6_finish_4 rfl (by decide) rfl ?_
    refine Tr.aload_n (pc := 5) (i := 0) d_X6_finish_5 rfl rfl ?_
    refine Tr.getf (pc := 6) d_X6_finish_6 f_6_46 (by decide) (by decide) (ty_74 hF) ?_
    refine Tr.tp 7 ((rd_fb _ rfl).trans ((rd_wb _ rfl).trans ((rd_wb _ rfl).trans ((rd_wb _ rfl).trans ((rd_wb _ rfl).trans ((rd_wb _ rfl).trans ((rd_wb _ rfl).trans ((rd_wb _ rfl).trans ((rd_wb _ rfl).trans ((rd_wb _ rfl).trans ((rd_fb _ rfl).trans ((rd_fb _ rfl).trans ((rd_fb _ rfl).trans ((rd_fb _ rfl).trans ((rd_fb _ rfl).trans ((rd_cb _ rfl).trans (rd_ws _ _ _ _))))))))))))))))) ?_
    refine Tr.getf (pc := 9) d_X6_finish_9 f_6_116 (by decide) (by decide) (ty_7 hF) ?_
    refine Tr.tp 8 (fx_7_4 hF) ?_
    refine Tr.iconst (pc := 12) d_X6_finish_12 (by decide) ?_
    refine Tr.iald (pc := 13) d_X6_finish_13 (ty_8 hF) (by decide) (by decide) ?_
    refine Tr.tp 0 ((rd_fb _ rfl).trans ((rd_wb _ rfl).trans ((rd_wb _ rfl).trans ((rd_wb _ rfl).trans ((rd_wb _ rfl).trans ((rd_wb _ rfl).trans ((rd_wb _ rfl).trans ((rd_wb _ rfl).trans ((rd_wb _ rfl).trans ((rd_wb _ rfl).trans ((rd_fb _ rfl).trans ((rd_fb _ rfl).trans ((rd_fb _ rfl).trans ((rd_fb _ rfl).trans ((rd_fb _ rfl).trans ((rd_cb _ rfl).trans ((rd_wb _ rfl).trans ((rd_cb _ rfl).trans (b_8_0))))))))))))))))))) ?_
    refine Tr.istore_n (pc := 14) (i := 2) (ls2 := [(2, (0, 0)), (1, (0, 0)), (0, (2, 74))]) d_X6_finish_14 rfl (by decide) rfl ?_
    refine Tr.iconst (pc := 15) d_X6_finish_15 (by decide) ?_
    refine Tr.istore_n (pc := 16) (i := 3) (ls2 := [(3, (0, 0)), (2, (0, 0)), (1, (0, 0)), (0, (2, 74))]) d_X6_finish_16 rfl (by decide) rfl ?_
    refine Tr.iload_n (pc := 17) (i := 3) d_X6_finish_17 rfl rfl ?_
    refine Tr.iload_n (pc := 18) (i := 2) d_X6_finish_18 rfl rfl ?_
    refine Tr.icmp_ge (pc := 19) (tgt := 61) d_X6_finish_19 rfl (fun _ => ?_) (fun hc => absurd (by decide) hc)
    refine Tr.iconst (pc := 61) d_X6_finish_61 (by decide) ?_
    refine Tr.istore_n (pc := 62) (i := 3) (ls2 := [(3, (0, 0)), (2, (0, 0)), (1, (0, 0)), (0, (2, 74))]) d_X6_finish_62 rfl (by decide) rfl ?_
    refine Tr.iload_n (pc := 63) (i := 3) d_X6_finish_63 rfl rfl ?_
    refine Tr.iload_n (pc := 64) (i := 2) d_X6_finish_64 rfl rfl ?_
    refine Tr.icmp_ge (pc := 65) (tgt := 129) d_X6_finish_65 rfl (fun _ => ?_) (fun hc => absurd (by decide) hc)
    refine Tr.aload_n (pc := 129) (i := 0) d_X6_finish_129 rfl rfl ?_
    refine Tr.iload_n (pc := 130) (i := 1) d_X6_finish_130 rfl rfl ?_
    refine Tr.aload_n (pc := 131) (i := 0) d_X6_finish_131 rfl rfl ?_
    refine Tr.getf (pc := 132) d_X6_finish_132 f_6_46 (by decide) (by decide) (ty_74 hF) ?_
    refine Tr.tp 7 ((rd_fb _ rfl).trans ((rd_wb _ rfl).trans ((rd_wb _ rfl).trans ((rd_wb _ rfl).trans ((rd_wb _ rfl).trans ((rd_wb _ rfl).trans ((rd_wb _ rfl).trans ((rd_wb _ rfl).trans ((rd_wb _ rfl).trans ((rd_wb _ rfl).trans ((rd_fb _ rfl).trans ((rd_fb _ rfl).trans ((rd_fb _ rfl).trans ((rd_fb _ rfl).trans ((rd_fb _ rfl).trans ((rd_cb _ rfl).trans (rd_ws _ _ _ _))))))))))))))))) ?_
    refine Tr.getf (pc := 135) d_X6_finish_135 f_6_135 (by decide) (by decide) (ty_7 hF) ?_
    refine Tr.tp 1 ((rd_fb _ rfl).trans ((rd_wb _ rfl).trans ((rd_wb _ rfl).trans ((rd_wb _ rfl).trans ((rd_wb _ rfl).trans ((rd_wb _ rfl).trans ((rd_wb _ rfl).trans ((rd_wb _ rfl).trans ((rd_wb _ rfl).trans ((rd_wb _ rfl).trans ((rd_fb _ rfl).trans ((rd_fb _ rfl).trans ((rd_fb _ rfl).trans ((rd_fb _ rfl).trans ((rd_fb _ rfl).trans ((rd_cb _ rfl).trans ((rd_wb _ rfl).trans ((rd_cb _ rfl).trans (b_7_0))))))))))))))))))) ?_
    refine Tr.imul (pc := 138) d_X6_finish_138 ?_
    refine Tr.tp 0 rfl ?_
    refine Tr.aload_n (pc := 139) (i := 0) d_X6_finish_139 rfl rfl ?_
    refine Tr.getf (pc := 140) d_X6_finish_140 f_6_38 (by decide) (by decide) (ty_74 hF) ?_
    refine Tr.tp 82 (fx_74_0 hF) ?_
    refine Tr.callV (pc := 143) (as := []) d_X6_finish_143 s_6_138 ok_X1_sippedByParts rfl rfl (Nat.le_of_ble_eq_true rfl) (Nat.le_of_ble_eq_true rfl) (by decide) (ty_82 hF) ?_
    refine Tr.lc [(0, (2, 82))] rfl ?_
    refine Tr.iconst (pc := 0) d_X1_sippedByParts_0 (by decide) ?_
    refine Tr.istore_n (pc := 1) (i := 1) (ls2 := [(1, (0, 0)), (0, (2, 82))]) d_X1_sippedByParts_1 rfl (by decide) rfl ?_
    refine Tr.iconst (pc := 2) d_X1_sippedByParts_2 (by decide) ?_
    refine Tr.istore_n (pc := 3) (i := 2) (ls2 := [(2, (0, 0)), (1, (0, 0)), (0, (2, 82))]) d_X1_sippedByParts_3 rfl (by decide) rfl ?_
    refine Tr.iload_n (pc := 4) (i := 2) d_X1_sippedByParts_4 rfl rfl ?_
    refine Tr.aload_n (pc := 5) (i := 0) d_X1_sippedByParts_5 rfl rfl ?_
    refine Tr.getf (pc := 6) d_X1_sippedByParts_6 f_1_41 (by decide) (by decide) (ty_82 hF) ?_
    refine Tr.tp 7 ((rd_fb _ rfl).trans (rd_ws _ _ _ _)) ?_
    refine Tr.getf (pc := 9) d_X1_sippedByParts_9 f_1_91 (by decide) (by decide) (ty_7 hF) ?_
    refine Tr.tp 8 (fx_7_4 hF) ?_
    refine Tr.iconst (pc := 12) d_X1_sippedByParts_12 (by decide) ?_
    refine Tr.iald (pc := 13) d_X1_sippedByParts_13 (ty_8 hF) (by decide) (by decide) ?_
    refine Tr.tp 0 ((rd_fb _ rfl).trans ((rd_wb _ rfl).trans ((rd_wb _ rfl).trans ((rd_wb _ rfl).trans ((rd_wb _ rfl).trans ((rd_wb _ rfl).trans ((rd_wb _ rfl).trans ((rd_wb _ rfl).trans ((rd_wb _ rfl).trans ((rd_wb _ rfl).trans ((rd_fb _ rfl).trans ((rd_fb _ rfl).trans ((rd_fb _ rfl).trans ((rd_fb _ rfl).trans ((rd_fb _ rfl).trans ((rd_cb _ rfl).trans ((rd_wb _ rfl).trans ((rd_cb _ rfl).trans (b_8_0))))))))))))))))))) ?_
    refine Tr.iconst (pc := 14) d_X1_sippedByParts_14 (by decide) ?_
    refine Tr.imul (pc := 15) d_X1_sippedByParts_15 ?_
    refine Tr.tp 0 rfl ?_
    refine Tr.icmp_ge (pc := 16) (tgt := 44) d_X1_sippedByParts_16 rfl (fun _ => ?_) (fun hc => absurd (by decide) hc)
    refine Tr.iload_n (pc := 44) (i := 1) d_X1_sippedByParts_44 rfl rfl ?_
    refine Tr.iret (pc := 45) d_X1_sippedByParts_45 rfl ?_
    refine Tr.sc [_, _, _] rfl ?_
    refine Tr.iadd (pc := 146) d_X6_finish_146 ?_
    refine Tr.tp 0 rfl ?_
    refine Tr.putfX (pc := 147) d_X6_finish_147 f_6_142 (by decide) (by decide) (ty_74 hF) hF (by decide +kernel) (fun hF => ?_)
    refine Tr.vret (pc := 150) d_X6_finish_150 rfl ?_
    refine Tr.sc [] rfl ?_
    refine Tr.vret (pc := 107) d_X6_go_107 rfl ?_
    refine Tr.sc [] rfl ?_
    refine Tr.aload_n (pc := 47) (i := 0) d_X11_over_47 rfl rfl ?_
    refine Tr.getf (pc := 48) d_X11_over_48 f_11_63 (by decide) (by decide) (ty_0 hF) ?_
    refine Tr.tp 103 (fx_0_11 hF) ?_
    refine Tr.aload_n (pc := 51) (i := 0) d_X11_over_51 rfl rfl ?_
    refine Tr.getf (pc := 52) d_X11_over_52 f_11_50 (by decide) (by decide) (ty_0 hF) ?_
    refine Tr.tp 74 (fx_0_8 hF) ?_
    refine Tr.getf (pc := 55) d_X11_over_55 f_11_155 (by decide) (by decide) (ty_74 hF) ?_
    refine Tr.tp 0 (rd_ws _ _ _ _) ?_
    refine Tr.iload_n (pc := 58) (i := 3) d_X11_over_58 rfl rfl ?_
    refine Tr.if_ne (pc := 59) (tgt := 66) d_X11_over_59 rfl (fun hc => absurd (by decide) hc) (fun _ => ?_)
    refine Tr.iconst (pc := 62) d_X11_over_62 (by decide) ?_
    refine Tr.goto (pc := 63) (tgt := 67) d_X11_over_63 rfl ?_
    refine Tr.callV (pc := 67) (as := [_, _]) d_X11_over_67 s_11_256 ok_X10_compare rfl rfl (Nat.le_of_ble_eq_true rfl) (Nat.le_of_ble_eq_true rfl) (by decide) (ty_103 hF) ?_
    refine Tr.lc [(0, (2, 103)), (1, (0, 0)), (2, (0, 1))] rfl ?_
    refine Tr.iload_n (pc := 0) (i := 2) d_X10_compare_0 rfl rfl ?_
    refine Tr.if_ne (pc := 1) (tgt := 12) d_X10_compare_1 rfl (fun _ => ?_) (fun hc => absurd hc (by decide))
    refine Tr.aload_n (pc := 12) (i := 0) d_X10_compare_12 rfl rfl ?_
    refine Tr.iload_n (pc := 13) (i := 1) d_X10_compare_13 rfl rfl ?_
    refine Tr.putfX (pc := 14) d_X10_compare_14 f_10_46 (by decide) (by decide) (ty_103 hF) hF (by decide +kernel) (fun hF => ?_)
    refine Tr.aload_n (pc := 17) (i := 0) d_X10_compare_17 rfl rfl ?_
    refine Tr.getf (pc := 18) d_X10_compare_18 f_10_9 (by decide) (by decide) (ty_103 hF) ?_
    refine Tr.tp 104 (fx_103_4 hF) ?_
    refine Tr.iconst (pc := 21) d_X10_compare_21 (by decide) ?_
    refine Tr.aload_n (pc := 22) (i := 0) d_X10_compare_22 rfl rfl ?_
    refine Tr.getf (pc := 23) d_X10_compare_23 f_10_15 (by decide) (by decide) (ty_103 hF) ?_
    refine Tr.tp 105 (fx_103_5 hF) ?_
    refine Tr.iconst (pc := 26) d_X10_compare_26 (by decide) ?_
    refine Tr.iconst (pc := 27) d_X10_compare_27 (by decide) ?_
    refine Tr.acopyX (pc := 28) (x := 104) (y := 105) d_X10_compare_28 ac_10_36 acw.1 acw.2.1 acw.2.2 (ty_104 hF) (ty_105 hF) (by decide) (by decide) (by decide) (by decide) (by decide) (Nat.le_of_ble_eq_true rfl) hF (by decide +kernel) (fun hF => ?_)
    refine Tr.iload_n (pc := 31) (i := 2) d_X10_compare_31 rfl rfl ?_
    refine Tr.if_ne (pc := 32) (tgt := 43) d_X10_compare_32 rfl (fun _ => ?_) (fun hc => absurd hc (by decide))
    refine Tr.aload_n (pc := 43) (i := 0) d_X10_compare_43 rfl rfl ?_
    refine Tr.iload_n (pc := 44) (i := 1) d_X10_compare_44 rfl rfl ?_
    refine Tr.putfX (pc := 45) d_X10_compare_45 f_10_50 (by decide) (by decide) (ty_103 hF) hF (by decide +kernel) (fun hF => ?_)
    refine Tr.aload_n (pc := 48) (i := 0) d_X10_compare_48 rfl rfl ?_
    refine Tr.getf (pc := 49) d_X10_compare_49 f_10_9 (by decide) (by decide) (ty_103 hF) ?_
    refine Tr.tp 104 (fx_103_4 hF) ?_
    refine Tr.iconst (pc := 52) d_X10_compare_52 (by decide) ?_
    refine Tr.aload_n (pc := 53) (i := 0) d_X10_compare_53 rfl rfl ?_
    refine Tr.getf (pc := 54) d_X10_compare_54 f_10_18 (by decide) (by decide) (ty_103 hF) ?_
    refine Tr.tp 106 (fx_103_6 hF) ?_
    refine Tr.iconst (pc := 57) d_X10_compare_57 (by decide) ?_
    refine Tr.iconst (pc := 58) d_X10_compare_58 (by decide) ?_
    refine Tr.acopyX (pc := 59) (x := 104) (y := 106) d_X10_compare_59 ac_10_36 acw.1 acw.2.1 acw.2.2 (ty_104 hF) (ty_106 hF) (by decide) (by decide) (by decide) (by decide) (by decide) (Nat.le_of_ble_eq_true rfl) hF (by decide +kernel) (fun hF => ?_)
    refine Tr.vret (pc := 62) d_X10_compare_62 rfl ?_
    refine Tr.sc [] rfl ?_
    refine Tr.aload_n (pc := 70) (i := 0) d_X11_over_70 rfl rfl ?_
    refine Tr.getf (pc := 71) d_X11_over_71 f_11_63 (by decide) (by decide) (ty_0 hF) ?_
    refine Tr.tp 103 (fx_0_11 hF) ?_
    refine Tr.aload_n (pc := 74) (i := 0) d_X11_over_74 rfl rfl ?_
    refine Tr.getf (pc := 75) d_X11_over_75 f_11_30 (by decide) (by decide) (ty_0 hF) ?_
    refine Tr.tp 7 ((rd_cb _ rfl).trans ((rd_wb _ rfl).trans ((rd_cb _ rfl).trans ((rd_wb _ rfl).trans ((rd_wb _ rfl).trans ((rd_fb _ rfl).trans ((rd_wb _ rfl).trans ((rd_wb _ rfl).trans ((rd_wb _ rfl).trans ((rd_wb _ rfl).trans ((rd_wb _ rfl).trans ((rd_wb _ rfl).trans ((rd_wb _ rfl).trans ((rd_wb _ rfl).trans ((rd_wb _ rfl).trans ((rd_fb _ rfl).trans ((rd_fb _ rfl).trans ((rd_fb _ rfl).trans ((rd_fb _ rfl).trans ((rd_fb _ rfl).trans ((rd_cb _ rfl).trans ((rd_wb _ rfl).trans ((rd_cb _ rfl).trans (b_0_4)))))))))))))))))))))))) ?_
    refine Tr.callV (pc := 78) (as := [_]) d_X11_over_78 s_11_260 ok_X10_turnOn rfl rfl (Nat.le_of_ble_eq_true rfl) (Nat.le_of_ble_eq_true rfl) (by decide) (ty_103 hF) ?_
    refine Tr.lc [(0, (2, 103)), (1, (2, 7))] rfl ?_
    refine Tr.aload_n (pc := 0) (i := 1) d_X10_turnOn_0 rfl rfl ?_
    refine Tr.getf (pc := 1) d_X10_turnOn_1 f_10_25 (by decide) (by decide) (ty_7 hF) ?_
    refine Tr.tp 8 (fx_7_4 hF) ?_
    refine Tr.iconst (pc := 4) d_X10_turnOn_4 (by decide) ?_
    refine Tr.iald (pc := 5) d_X10_turnOn_5 (ty_8 hF) (by decide) (by decide) ?_
    refine Tr.tp 0 ((rd_cb _ rfl).trans ((rd_wb _ rfl).trans ((rd_cb _ rfl).trans ((rd_wb _ rfl).trans ((rd_wb _ rfl).trans ((rd_fb _ rfl).trans ((rd_wb _ rfl).trans ((rd_wb _ rfl).trans ((rd_wb _ rfl).trans ((rd_wb _ rfl).trans ((rd_wb _ rfl).trans ((rd_wb _ rfl).trans ((rd_wb _ rfl).trans ((rd_wb _ rfl).trans ((rd_wb _ rfl).trans ((rd_fb _ rfl).trans ((rd_fb _ rfl).trans ((rd_fb _ rfl).trans ((rd_fb _ rfl).trans ((rd_fb _ rfl).trans ((rd_cb _ rfl).trans ((rd_wb _ rfl).trans ((rd_cb _ rfl).trans (b_8_1)))))))))))))))))))))))) ?_
    refine Tr.iconst (pc := 6) d_X10_turnOn_6 (by decide) ?_
    refine Tr.isub (pc := 7) d_X10_turnOn_7 ?_
    refine Tr.tp (-1) rfl ?_
    refine Tr.istore_n (pc := 8) (i := 2) (ls2 := [(2, (0, (-1))), (0, (2, 103)), (1, (2, 7))]) d_X10_turnOn_8 rfl (by decide) rfl ?_
    refine Tr.iload_n (pc := 9) (i := 2) d_X10_turnOn_9 rfl rfl ?_
    refine Tr.if_lt (pc := 10) (tgt := 57) d_X10_turnOn_10 rfl (fun _ => ?_) (fun hc => absurd (by decide) hc)
    refine Tr.vret (pc := 57) d_X10_turnOn_57 rfl ?_
    refine Tr.sc [] rfl ?_
    refine Tr.iinc (pc := 81) (ls2 := [(3, (0, 1)), (2, (0, 1)), (0, (2, 0)), (1, (0, 1))]) d_X11_over_81 rfl (by decide) rfl ?_
    refine Tr.goto (pc := 84) (tgt := 23) d_X11_over_84 rfl ?_
    refine Tr.iload_n (pc := 23) (i := 3) d_X11_over_23 rfl rfl ?_
    refine Tr.iload_n (pc := 24) (i := 2) d_X11_over_24 rfl rfl ?_
    refine Tr.icmp_ge (pc := 25) (tgt := 87) d_X11_over_25 rfl (fun _ => ?_) (fun hc => absurd (by decide) hc)
    refine Tr.aload_n (pc := 87) (i := 0) d_X11_over_87 rfl rfl ?_
    refine Tr.getf (pc := 88) d_X11_over_88 f_11_63 (by decide) (by decide) (ty_0 hF) ?_
    refine Tr.tp 103 (fx_0_11 hF) ?_
    refine Tr.iload_n (pc := 91) (i := 1) d_X11_over_91 rfl rfl ?_
    refine Tr.callV (pc := 92) (as := [_]) d_X11_over_92 s_11_264 ok_X10_choose rfl rfl (Nat.le_of_ble_eq_true rfl) (Nat.le_of_ble_eq_true rfl) (by decide) (ty_103 hF) ?_
    refine Tr.lc [(0, (2, 103)), (1, (0, 1))] rfl ?_
    refine Tr.aload_n (pc := 0) (i := 0) d_X10_choose_0 rfl rfl ?_
    refine Tr.iconst (pc := 1) d_X10_choose_1 (by decide) ?_
    refine Tr.putzX (pc := 2) d_X10_choose_2 f_10_21 (by decide) (ty_103 hF) (by decide) hF (by decide +kernel) (fun hF => ?_)
    refine Tr.aload_n (pc := 5) (i := 0) d_X10_choose_5 rfl rfl ?_
    refine Tr.iload_n (pc := 6) (i := 1) d_X10_choose_6 rfl rfl ?_
    refine Tr.putzX (pc := 7) d_X10_choose_7 f_10_52 (by decide) (ty_103 hF) (by decide) hF (by decide +kernel) (fun hF => ?_)
    refine Tr.iload_n (pc := 10) (i := 1) d_X10_choose_10 rfl rfl ?_
    refine Tr.if_eq (pc := 11) (tgt := 21) d_X10_choose_11 rfl (fun hc => absurd hc (by decide)) (fun _ => ?_)
    refine Tr.aload_n (pc := 14) (i := 0) d_X10_choose_14 rfl rfl ?_
    refine Tr.getf (pc := 15) d_X10_choose_15 f_10_46 (by decide) (by decide) (ty_103 hF) ?_
    refine Tr.tp 0 ((rd_wb _ rfl).trans ((rd_wb _ rfl).trans ((rd_cb _ rfl).trans ((rd_wb _ rfl).trans ((rd_cb _ rfl).trans (rd_ws _ _ _ _)))))) ?_
    refine Tr.goto (pc := 18) (tgt := 25) d_X10_choose_18 rfl ?_
    refine Tr.iret (pc := 25) d_X10_choose_25 rfl ?_
    refine Tr.sc [_] rfl ?_
    refine Tr.iret (pc := 95) d_X11_over_95 rfl ?_
    refine Tr.sc [_] rfl ?_
    refine Tr.aload_n (pc := 726) (i := 2) d_L_law_726 rfl rfl ?_
    refine Tr.aload_n (pc := 727) (i := 0) d_L_law_727 rfl rfl ?_
    refine Tr.iload_n (pc := 728) (i := 3) d_L_law_728 rfl rfl ?_
    refine Tr.iconst (pc := 729) d_L_law_729 (by decide) ?_
    refine Tr.iadd (pc := 730) d_L_law_730 ?_
    refine Tr.tp 1 rfl ?_
    refine Tr.xld (pc := 731) (i := 0) d_L_law_731 rfl he (by decide) (by decide) ?_
    refine Tr.tp a1 g1 ?_
    refine Tr.if_eq (pc := 732) (tgt := 739) d_L_law_732 rfl (fun hc => absurd hc (by omega)) (fun _ => ?_)
    refine Tr.iconst (pc := 735) d_L_law_735 (by decide) ?_
    refine Tr.goto (pc := 736) (tgt := 740) d_L_law_736 rfl ?_
    refine Tr.callV (pc := 740) (as := [_]) d_L_law_740 s_13_94 ok_X12_over rfl rfl (Nat.le_of_ble_eq_true rfl) (Nat.le_of_ble_eq_true rfl) (by decide) (ty_120 hF) ?_
    refine Tr.lc [(0, (2, 120)), (1, (0, 1))] rfl ?_
    refine Tr.aload_n (pc := 0) (i := 0) d_X12_over_0 rfl rfl ?_
    refine Tr.iconst (pc := 1) d_X12_over_1 (by decide) ?_
    refine Tr.callV (pc := 2) (as := [_]) d_X12_over_2 s_12_680 ok_X12_span rfl rfl (Nat.le_of_ble_eq_true rfl) (Nat.le_of_ble_eq_true rfl) (by decide) (ty_120 hF) ?_
    refine Tr.lc [(0, (2, 120)), (1, (0, 0))] rfl ?_
    refine Tr.iload_n (pc := 0) (i := 1) d_X12_span_0 rfl rfl ?_
    refine Tr.aload_n (pc := 1) (i := 0) d_X12_span_1 rfl rfl ?_
    refine Tr.getf (pc := 2) d_X12_span_2 f_12_66 (by decide) (by decide) (ty_120 hF) ?_
    refine Tr.tp 127 (fx_120_18 hF) ?_
    refine Tr.aload_n (pc := 5) (i := 0) d_X12_span_5 rfl rfl ?_
    refine Tr.getf (pc := 6) d_X12_span_6 f_12_48 (by decide) (by decide) (ty_120 hF) ?_
    refine Tr.tp 0 ((rd_wb _ rfl).trans ((rd_wb _ rfl).trans ((rd_cb _ rfl).trans ((rd_wb _ rfl).trans ((rd_cb _ rfl).trans ((rd_wb _ rfl).trans ((rd_wb _ rfl).trans ((rd_fb _ rfl).trans ((rd_wb _ rfl).trans ((rd_wb _ rfl).trans ((rd_wb _ rfl).trans ((rd_wb _ rfl).trans ((rd_wb _ rfl).trans ((rd_wb _ rfl).trans ((rd_wb _ rfl).trans ((rd_wb _ rfl).trans ((rd_wb _ rfl).trans ((rd_fb _ rfl).trans ((rd_fb _ rfl).trans ((rd_fb _ rfl).trans ((rd_fb _ rfl).trans ((rd_fb _ rfl).trans ((rd_cb _ rfl).trans ((rd_wb _ rfl).trans ((rd_cb _ rfl).trans (b_120_12)))))))))))))))))))))))))) ?_
    refine Tr.iald (pc := 9) d_X12_span_9 (ty_127 hF) (by decide) (by decide) ?_
    refine Tr.tp 0 ((rd_wb _ rfl).trans ((rd_wb _ rfl).trans ((rd_cb _ rfl).trans ((rd_wb _ rfl).trans ((rd_cb _ rfl).trans ((rd_wb _ rfl).trans ((rd_wb _ rfl).trans ((rd_fb _ rfl).trans ((rd_wb _ rfl).trans ((rd_wb _ rfl).trans ((rd_wb _ rfl).trans ((rd_wb _ rfl).trans ((rd_wb _ rfl).trans ((rd_wb _ rfl).trans ((rd_wb _ rfl).trans ((rd_wb _ rfl).trans ((rd_wb _ rfl).trans ((rd_fb _ rfl).trans ((rd_fb _ rfl).trans ((rd_fb _ rfl).trans ((rd_fb _ rfl).trans ((rd_fb _ rfl).trans ((rd_cb _ rfl).trans ((rd_wb _ rfl).trans ((rd_cb _ rfl).trans (b_127_0)))))))))))))))))))))))))) ?_
    refine Tr.icmp_ge (pc := 10) (tgt := 45) d_X12_span_10 rfl (fun _ => ?_) (fun hc => absurd (by decide) hc)
    refine Tr.iconst (pc := 45) d_X12_span_45 (by decide) ?_
    refine Tr.iret (pc := 46) d_X12_span_46 rfl ?_
    refine Tr.sc [_] rfl ?_
    refine Tr.aload_n (pc := 5) (i := 0) d_X12_over_5 rfl rfl ?_
    refine Tr.iconst (pc := 6) d_X12_over_6 (by decide) ?_
    refine Tr.callV (pc := 7) (as := [_]) d_X12_over_7 s_12_680 ok_X12_span rfl rfl (Nat.le_of_ble_eq_true rfl) (Nat.le_of_ble_eq_true rfl) (by decide) (ty_120 hF) ?_
    refine Tr.lc [(0, (2, 120)), (1, (0, 1))] rfl ?_
    refine Tr.iload_n (pc := 0) (i := 1) d_X12_span_0 rfl rfl ?_
    refine Tr.aload_n (pc := 1) (i := 0) d_X12_span_1 rfl rfl ?_
    refine Tr.getf (pc := 2) d_X12_span_2 f_12_66 (by decide) (by decide) (ty_120 hF) ?_
    refine Tr.tp 127 (fx_120_18 hF) ?_
    refine Tr.aload_n (pc := 5) (i := 0) d_X12_span_5 rfl rfl ?_
    refine Tr.getf (pc := 6) d_X12_span_6 f_12_48 (by decide) (by decide) (ty_120 hF) ?_
    refine Tr.tp 0 ((rd_wb _ rfl).trans ((rd_wb _ rfl).trans ((rd_cb _ rfl).trans ((rd_wb _ rfl).trans ((rd_cb _ rfl).trans ((rd_wb _ rfl).trans ((rd_wb _ rfl).trans ((rd_fb _ rfl).trans ((rd_wb _ rfl).trans ((rd_wb _ rfl).trans ((rd_wb _ rfl).trans ((rd_wb _ rfl).trans ((rd_wb _ rfl).trans ((rd_wb _ rfl).trans ((rd_wb _ rfl).trans ((rd_wb _ rfl).trans ((rd_wb _ rfl).trans ((rd_fb _ rfl).trans ((rd_fb _ rfl).trans ((rd_fb _ rfl).trans ((rd_fb _ rfl).trans ((rd_fb _ rfl).trans ((rd_cb _ rfl).trans ((rd_wb _ rfl).trans ((rd_cb _ rfl).trans (b_120_12)))))))))))))))))))))))))) ?_
    refine Tr.iald (pc := 9) d_X12_span_9 (ty_127 hF) (by decide) (by decide) ?_
    refine Tr.tp 0 ((rd_wb _ rfl).trans ((rd_wb _ rfl).trans ((rd_cb _ rfl).trans ((rd_wb _ rfl).trans ((rd_cb _ rfl).trans ((rd_wb _ rfl).trans ((rd_wb _ rfl).trans ((rd_fb _ rfl).trans ((rd_wb _ rfl).trans ((rd_wb _ rfl).trans ((rd_wb _ rfl).trans ((rd_wb _ rfl).trans ((rd_wb _ rfl).trans ((rd_wb _ rfl).trans ((rd_wb _ rfl).trans ((rd_wb _ rfl).trans ((rd_wb _ rfl).trans ((rd_fb _ rfl).trans ((rd_fb _ rfl).trans ((rd_fb _ rfl).trans ((rd_fb _ rfl).trans ((rd_fb _ rfl).trans ((rd_cb _ rfl).trans ((rd_wb _ rfl).trans ((rd_cb _ rfl).trans (b_127_0)))))))))))))))))))))))))) ?_
    refine Tr.icmp_ge (pc := 10) (tgt := 45) d_X12_span_10 rfl (fun _ => ?_) (fun hc => absurd (by decide) hc)
    refine Tr.iconst (pc := 45) d_X12_span_45 (by decide) ?_
    refine Tr.iret (pc := 46) d_X12_span_46 rfl ?_
    refine Tr.sc [_, _] rfl ?_
    refine Tr.imul (pc := 10) d_X12_over_10 ?_
    refine Tr.tp 1 rfl ?_
    refine Tr.aload_n (pc := 11) (i := 0) d_X12_over_11 rfl rfl ?_
    refine Tr.iconst (pc := 12) d_X12_over_12 (by decide) ?_
    refine Tr.callV (pc := 13) (as := [_]) d_X12_over_13 s_12_680 ok_X12_span rfl rfl (Nat.le_of_ble_eq_true rfl) (Nat.le_of_ble_eq_true rfl) (by decide) (ty_120 hF) ?_
    refine Tr.lc [(0, (2, 120)), (1, (0, 2))] rfl ?_
    refine Tr.iload_n (pc := 0) (i := 1) d_X12_span_0 rfl rfl ?_
    refine Tr.aload_n (pc := 1) (i := 0) d_X12_span_1 rfl rfl ?_
    refine Tr.getf (pc := 2) d_X12_span_2 f_12_66 (by decide) (by decide) (ty_120 hF) ?_
    refine Tr.tp 127 (fx_120_18 hF) ?_
    refine Tr.aload_n (pc := 5) (i := 0) d_X12_span_5 rfl rfl ?_
    refine Tr.getf (pc := 6) d_X12_span_6 f_12_48 (by decide) (by decide) (ty_120 hF) ?_
    refine Tr.tp 0 ((rd_wb _ rfl).trans ((rd_wb _ rfl).trans ((rd_cb _ rfl).trans ((rd_wb _ rfl).trans ((rd_cb _ rfl).trans ((rd_wb _ rfl).trans ((rd_wb _ rfl).trans ((rd_fb _ rfl).trans ((rd_wb _ rfl).trans ((rd_wb _ rfl).trans ((rd_wb _ rfl).trans ((rd_wb _ rfl).trans ((rd_wb _ rfl).trans ((rd_wb _ rfl).trans ((rd_wb _ rfl).trans ((rd_wb _ rfl).trans ((rd_wb _ rfl).trans ((rd_fb _ rfl).trans ((rd_fb _ rfl).trans ((rd_fb _ rfl).trans ((rd_fb _ rfl).trans ((rd_fb _ rfl).trans ((rd_cb _ rfl).trans ((rd_wb _ rfl).trans ((rd_cb _ rfl).trans (b_120_12)))))))))))))))))))))))))) ?_
    refine Tr.iald (pc := 9) d_X12_span_9 (ty_127 hF) (by decide) (by decide) ?_
    refine Tr.tp 0 ((rd_wb _ rfl).trans ((rd_wb _ rfl).trans ((rd_cb _ rfl).trans ((rd_wb _ rfl).trans ((rd_cb _ rfl).trans ((rd_wb _ rfl).trans ((rd_wb _ rfl).trans ((rd_fb _ rfl).trans ((rd_wb _ rfl).trans ((rd_wb _ rfl).trans ((rd_wb _ rfl).trans ((rd_wb _ rfl).trans ((rd_wb _ rfl).trans ((rd_wb _ rfl).trans ((rd_wb _ rfl).trans ((rd_wb _ rfl).trans ((rd_wb _ rfl).trans ((rd_fb _ rfl).trans ((rd_fb _ rfl).trans ((rd_fb _ rfl).trans ((rd_fb _ rfl).trans ((rd_fb _ rfl).trans ((rd_cb _ rfl).trans ((rd_wb _ rfl).trans ((rd_cb _ rfl).trans (b_127_0)))))))))))))))))))))))))) ?_
    refine Tr.icmp_ge (pc := 10) (tgt := 45) d_X12_span_10 rfl (fun _ => ?_) (fun hc => absurd (by decide) hc)
    refine Tr.iconst (pc := 45) d_X12_span_45 (by decide) ?_
    refine Tr.iret (pc := 46) d_X12_span_46 rfl ?_
    refine Tr.sc [_, _] rfl ?_
    refine Tr.imul (pc := 16) d_X12_over_16 ?_
    refine Tr.tp 1 rfl ?_
    refine Tr.sipush (pc := 17) d_X12_over_17 rfl (by decide) ?_
    refine Tr.icmp_le (pc := 20) (tgt := 25) d_X12_over_20 rfl (fun _ => ?_) (fun hc => absurd (by decide) hc)
    refine Tr.lconst (pc := 25) (v := 0) d_X12_over_25 rfl (by decide) ?_
    refine Tr.lstore_n (pc := 26) (i := 2) (ls2 := [(2, (1, 0)), (0, (2, 120)), (1, (0, 1))]) d_X12_over_26 rfl (by decide) rfl ?_
    refine Tr.iconst (pc := 27) d_X12_over_27 (by decide) ?_
    refine Tr.istore (pc := 28) (i := 4) (ls2 := [(4, (0, 0)), (2, (1, 0)), (0, (2, 120)), (1, (0, 1))]) d_X12_over_28 (by decide) rfl ?_
    refine Tr.iconst (pc := 30) d_X12_over_30 (by decide) ?_
    refine Tr.istore (pc := 31) (i := 5) (ls2 := [(5, (0, 0)), (4, (0, 0)), (2, (1, 0)), (0, (2, 120)), (1, (0, 1))]) d_X12_over_31 (by decide) rfl ?_
    refine Tr.iload (pc := 33) (i := 5) d_X12_over_33 rfl ?_
    refine Tr.aload_n (pc := 35) (i := 0) d_X12_over_35 rfl rfl ?_
    refine Tr.iconst (pc := 36) d_X12_over_36 (by decide) ?_
    refine Tr.callV (pc := 37) (as := [_]) d_X12_over_37 s_12_680 ok_X12_span rfl rfl (Nat.le_of_ble_eq_true rfl) (Nat.le_of_ble_eq_true rfl) (by decide) (ty_120 hF) ?_
    refine Tr.lc [(0, (2, 120)), (1, (0, 0))] rfl ?_
    refine Tr.iload_n (pc := 0) (i := 1) d_X12_span_0 rfl rfl ?_
    refine Tr.aload_n (pc := 1) (i := 0) d_X12_span_1 rfl rfl ?_
    refine Tr.getf (pc := 2) d_X12_span_2 f_12_66 (by decide) (by decide) (ty_120 hF) ?_
    refine Tr.tp 127 (fx_120_18 hF) ?_
    refine Tr.aload_n (pc := 5) (i := 0) d_X12_span_5 rfl rfl ?_
    refine Tr.getf (pc := 6) d_X12_span_6 f_12_48 (by decide) (by decide) (ty_120 hF) ?_
    refine Tr.tp 0 ((rd_wb _ rfl).trans ((rd_wb _ rfl).trans ((rd_cb _ rfl).trans ((rd_wb _ rfl).trans ((rd_cb _ rfl).trans ((rd_wb _ rfl).trans ((rd_wb _ rfl).trans ((rd_fb _ rfl).trans ((rd_wb _ rfl).trans ((rd_wb _ rfl).trans ((rd_wb _ rfl).trans ((rd_wb _ rfl).trans ((rd_wb _ rfl).trans ((rd_wb _ rfl).trans ((rd_wb _ rfl).trans ((rd_wb _ rfl).trans ((rd_wb _ rfl).trans ((rd_fb _ rfl).trans ((rd_fb _ rfl).trans ((rd_fb _ rfl).trans ((rd_fb _ rfl).trans ((rd_fb _ rfl).trans ((rd_cb _ rfl).trans ((rd_wb _ rfl).trans ((rd_cb _ rfl).trans (b_120_12)))))))))))))))))))))))))) ?_
    refine Tr.iald (pc := 9) d_X12_span_9 (ty_127 hF) (by decide) (by decide) ?_
    refine Tr.tp 0 ((rd_wb _ rfl).trans ((rd_wb _ rfl).trans ((rd_cb _ rfl).trans ((rd_wb _ rfl).trans ((rd_cb _ rfl).trans ((rd_wb _ rfl).trans ((rd_wb _ rfl).trans ((rd_fb _ rfl).trans ((rd_wb _ rfl).trans ((rd_wb _ rfl).trans ((rd_wb _ rfl).trans ((rd_wb _ rfl).trans ((rd_wb _ rfl).trans ((rd_wb _ rfl).trans ((rd_wb _ rfl).trans ((rd_wb _ rfl).trans ((rd_wb _ rfl).trans ((rd_fb _ rfl).trans ((rd_fb _ rfl).trans ((rd_fb _ rfl).trans ((rd_fb _ rfl).trans ((rd_fb _ rfl).trans ((rd_cb _ rfl).trans ((rd_wb _ rfl).trans ((rd_cb _ rfl).trans (b_127_0)))))))))))))))))))))))))) ?_
    refine Tr.icmp_ge (pc := 10) (tgt := 45) d_X12_span_10 rfl (fun _ => ?_) (fun hc => absurd (by decide) hc)
    refine Tr.iconst (pc := 45) d_X12_span_45 (by decide) ?_
    refine Tr.iret (pc := 46) d_X12_span_46 rfl ?_
    refine Tr.sc [_, _] rfl ?_
    refine Tr.icmp_ge (pc := 40) (tgt := 208) d_X12_over_40 rfl (fun hc => absurd hc (by decide)) (fun _ => ?_)
    refine Tr.iconst (pc := 43) d_X12_over_43 (by decide) ?_
    refine Tr.istore (pc := 44) (i := 6) (ls2 := [(6, (0, 0)), (5, (0, 0)), (4, (0, 0)), (2, (1, 0)), (0, (2, 120)), (1, (0, 1))]) d_X12_over_44 (by decide) rfl ?_
    refine Tr.iload (pc := 46) (i := 6) d_X12_over_46 rfl ?_
    refine Tr.aload_n (pc := 48) (i := 0) d_X12_over_48 rfl rfl ?_
    refine Tr.iconst (pc := 49) d_X12_over_49 (by decide) ?_
    refine Tr.callV (pc := 50) (as := [_]) d_X12_over_50 s_12_680 ok_X12_span rfl rfl (Nat.le_of_ble_eq_true rfl) (Nat.le_of_ble_eq_true rfl) (by decide) (ty_120 hF) ?_
    refine Tr.lc [(0, (2, 120)), (1, (0, 1))] rfl ?_
    refine Tr.iload_n (pc := 0) (i := 1) d_X12_span_0 rfl rfl ?_
    refine Tr.aload_n (pc := 1) (i := 0) d_X12_span_1 rfl rfl ?_
    refine Tr.getf (pc := 2) d_X12_span_2 f_12_66 (by decide) (by decide) (ty_120 hF) ?_
    refine Tr.tp 127 (fx_120_18 hF) ?_
    refine Tr.aload_n (pc := 5) (i := 0) d_X12_span_5 rfl rfl ?_
    refine Tr.getf (pc := 6) d_X12_span_6 f_12_48 (by decide) (by decide) (ty_120 hF) ?_
    refine Tr.tp 0 ((rd_wb _ rfl).trans ((rd_wb _ rfl).trans ((rd_cb _ rfl).trans ((rd_wb _ rfl).trans ((rd_cb _ rfl).trans ((rd_wb _ rfl).trans ((rd_wb _ rfl).trans ((rd_fb _ rfl).trans ((rd_wb _ rfl).trans ((rd_wb _ rfl).trans ((rd_wb _ rfl).trans ((rd_wb _ rfl).trans ((rd_wb _ rfl).trans ((rd_wb _ rfl).trans ((rd_wb _ rfl).trans ((rd_wb _ rfl).trans ((rd_wb _ rfl).trans ((rd_fb _ rfl).trans ((rd_fb _ rfl).trans ((rd_fb _ rfl).trans ((rd_fb _ rfl).trans ((rd_fb _ rfl).trans ((rd_cb _ rfl).trans ((rd_wb _ rfl).trans ((rd_cb _ rfl).trans (b_120_12)))))))))))))))))))))))))) ?_
    refine Tr.iald (pc := 9) d_X12_span_9 (ty_127 hF) (by decide) (by decide) ?_
    refine Tr.tp 0 ((rd_wb _ rfl).trans ((rd_wb _ rfl).trans ((rd_cb _ rfl).trans ((rd_wb _ rfl).trans ((rd_cb _ rfl).trans ((rd_wb _ rfl).trans ((rd_wb _ rfl).trans ((rd_fb _ rfl).trans ((rd_wb _ rfl).trans ((rd_wb _ rfl).trans ((rd_wb _ rfl).trans ((rd_wb _ rfl).trans ((rd_wb _ rfl).trans ((rd_wb _ rfl).trans ((rd_wb _ rfl).trans ((rd_wb _ rfl).trans ((rd_wb _ rfl).trans ((rd_fb _ rfl).trans ((rd_fb _ rfl).trans ((rd_fb _ rfl).trans ((rd_fb _ rfl).trans ((rd_fb _ rfl).trans ((rd_cb _ rfl).trans ((rd_wb _ rfl).trans ((rd_cb _ rfl).trans (b_127_0)))))))))))))))))))))))))) ?_
    refine Tr.icmp_ge (pc := 10) (tgt := 45) d_X12_span_10 rfl (fun _ => ?_) (fun hc => absurd (by decide) hc)
    refine Tr.iconst (pc := 45) d_X12_span_45 (by decide) ?_
    refine Tr.iret (pc := 46) d_X12_span_46 rfl ?_
    refine Tr.sc [_, _] rfl ?_
    refine Tr.icmp_ge (pc := 53) (tgt := 202) d_X12_over_53 rfl (fun hc => absurd hc (by decide)) (fun _ => ?_)
    refine Tr.iconst (pc := 56) d_X12_over_56 (by decide) ?_
    refine Tr.istore (pc := 57) (i := 7) (ls2 := [(7, (0, 0)), (6, (0, 0)), (5, (0, 0)), (4, (0, 0)), (2, (1, 0)), (0, (2, 120)), (1, (0, 1))]) d_X12_over_57 (by decide) rfl ?_
    refine Tr.iload (pc := 59) (i := 7) d_X12_over_59 rfl ?_
    refine Tr.aload_n (pc := 61) (i := 0) d_X12_over_61 rfl rfl ?_
    refine Tr.iconst (pc := 62) d_X12_over_62 (by decide) ?_
    refine Tr.callV (pc := 63) (as := [_]) d_X12_over_63 s_12_680 ok_X12_span rfl rfl (Nat.le_of_ble_eq_true rfl) (Nat.le_of_ble_eq_true rfl) (by decide) (ty_120 hF) ?_
    refine Tr.lc [(0, (2, 120)), (1, (0, 2))] rfl ?_
    refine Tr.iload_n (pc := 0) (i := 1) d_X12_span_0 rfl rfl ?_
    refine Tr.aload_n (pc := 1) (i := 0) d_X12_span_1 rfl rfl ?_
    refine Tr.getf (pc := 2) d_X12_span_2 f_12_66 (by decide) (by decide) (ty_120 hF) ?_
    refine Tr.tp 127 (fx_120_18 hF) ?_
    refine Tr.aload_n (pc := 5) (i := 0) d_X12_span_5 rfl rfl ?_
    refine Tr.getf (pc := 6) d_X12_span_6 f_12_48 (by decide) (by decide) (ty_120 hF) ?_
    refine Tr.tp 0 ((rd_wb _ rfl).trans ((rd_wb _ rfl).trans ((rd_cb _ rfl).trans ((rd_wb _ rfl).trans ((rd_cb _ rfl).trans ((rd_wb _ rfl).trans ((rd_wb _ rfl).trans ((rd_fb _ rfl).trans ((rd_wb _ rfl).trans ((rd_wb _ rfl).trans ((rd_wb _ rfl).trans ((rd_wb _ rfl).trans ((rd_wb _ rfl).trans ((rd_wb _ rfl).trans ((rd_wb _ rfl).trans ((rd_wb _ rfl).trans ((rd_wb _ rfl).trans ((rd_fb _ rfl).trans ((rd_fb _ rfl).trans ((rd_fb _ rfl).trans ((rd_fb _ rfl).trans ((rd_fb _ rfl).trans ((rd_cb _ rfl).trans ((rd_wb _ rfl).trans ((rd_cb _ rfl).trans (b_120_12)))))))))))))))))))))))))) ?_
    refine Tr.iald (pc := 9) d_X12_span_9 (ty_127 hF) (by decide) (by decide) ?_
    refine Tr.tp 0 ((rd_wb _ rfl).trans ((rd_wb _ rfl).trans ((rd_cb _ rfl).trans ((rd_wb _ rfl).trans ((rd_cb _ rfl).trans ((rd_wb _ rfl).trans ((rd_wb _ rfl).trans ((rd_fb _ rfl).trans ((rd_wb _ rfl).trans ((rd_wb _ rfl).trans ((rd_wb _ rfl).trans ((rd_wb _ rfl).trans ((rd_wb _ rfl).trans ((rd_wb _ rfl).trans ((rd_wb _ rfl).trans ((rd_wb _ rfl).trans ((rd_wb _ rfl).trans ((rd_fb _ rfl).trans ((rd_fb _ rfl).trans ((rd_fb _ rfl).trans ((rd_fb _ rfl).trans ((rd_fb _ rfl).trans ((rd_cb _ rfl).trans ((rd_wb _ rfl).trans ((rd_cb _ rfl).trans (b_127_0)))))))))))))))))))))))))) ?_
    refine Tr.icmp_ge (pc := 10) (tgt := 45) d_X12_span_10 rfl (fun _ => ?_) (fun hc => absurd (by decide) hc)
    refine Tr.iconst (pc := 45) d_X12_span_45 (by decide) ?_
    refine Tr.iret (pc := 46) d_X12_span_46 rfl ?_
    refine Tr.sc [_, _] rfl ?_
    refine Tr.icmp_ge (pc := 66) (tgt := 196) d_X12_over_66 rfl (fun hc => absurd hc (by decide)) (fun _ => ?_)
    refine Tr.aload_n (pc := 69) (i := 0) d_X12_over_69 rfl rfl ?_
    refine Tr.getf (pc := 70) d_X12_over_70 f_12_171 (by decide) (by decide) (ty_120 hF) ?_
    refine Tr.tp 154 (fx_120_52 hF) ?_
    refine Tr.iconst (pc := 73) d_X12_over_73 (by decide) ?_
    refine Tr.aload_n (pc := 74) (i := 0) d_X12_over_74 rfl rfl ?_
    refine Tr.iconst (pc := 75) d_X12_over_75 (by decide) ?_
    refine Tr.callV (pc := 76) (as := [_]) d_X12_over_76 s_12_683 ok_X12_lowOf rfl rfl (Nat.le_of_ble_eq_true rfl) (Nat.le_of_ble_eq_true rfl) (by decide) (ty_120 hF) ?_
    refine Tr.lc [(0, (2, 120)), (1, (0, 0))] rfl ?_
    refine Tr.iload_n (pc := 0) (i := 1) d_X12_lowOf_0 rfl rfl ?_
    refine Tr.aload_n (pc := 1) (i := 0) d_X12_lowOf_1 rfl rfl ?_
    refine Tr.getf (pc := 2) d_X12_lowOf_2 f_12_66 (by decide) (by decide) (ty_120 hF) ?_
    refine Tr.tp 127 (fx_120_18 hF) ?_
    refine Tr.aload_n (pc := 5) (i := 0) d_X12_lowOf_5 rfl rfl ?_
    refine Tr.getf (pc := 6) d_X12_lowOf_6 f_12_48 (by decide) (by decide) (ty_120 hF) ?_
    refine Tr.tp 0 ((rd_wb _ rfl).trans ((rd_wb _ rfl).trans ((rd_cb _ rfl).trans ((rd_wb _ rfl).trans ((rd_cb _ rfl).trans ((rd_wb _ rfl).trans ((rd_wb _ rfl).trans ((rd_fb _ rfl).trans ((rd_wb _ rfl).trans ((rd_wb _ rfl).trans ((rd_wb _ rfl).trans ((rd_wb _ rfl).trans ((rd_wb _ rfl).trans ((rd_wb _ rfl).trans ((rd_wb _ rfl).trans ((rd_wb _ rfl).trans ((rd_wb _ rfl).trans ((rd_fb _ rfl).trans ((rd_fb _ rfl).trans ((rd_fb _ rfl).trans ((rd_fb _ rfl).trans ((rd_fb _ rfl).trans ((rd_cb _ rfl).trans ((rd_wb _ rfl).trans ((rd_cb _ rfl).trans (b_120_12)))))))))))))))))))))))))) ?_
    refine Tr.iald (pc := 9) d_X12_lowOf_9 (ty_127 hF) (by decide) (by decide) ?_
    refine Tr.tp 0 ((rd_wb _ rfl).trans ((rd_wb _ rfl).trans ((rd_cb _ rfl).trans ((rd_wb _ rfl).trans ((rd_cb _ rfl).trans ((rd_wb _ rfl).trans ((rd_wb _ rfl).trans ((rd_fb _ rfl).trans ((rd_wb _ rfl).trans ((rd_wb _ rfl).trans ((rd_wb _ rfl).trans ((rd_wb _ rfl).trans ((rd_wb _ rfl).trans ((rd_wb _ rfl).trans ((rd_wb _ rfl).trans ((rd_wb _ rfl).trans ((rd_wb _ rfl).trans ((rd_fb _ rfl).trans ((rd_fb _ rfl).trans ((rd_fb _ rfl).trans ((rd_fb _ rfl).trans ((rd_fb _ rfl).trans ((rd_cb _ rfl).trans ((rd_wb _ rfl).trans ((rd_cb _ rfl).trans (b_127_0)))))))))))))))))))))))))) ?_
    refine Tr.icmp_ge (pc := 10) (tgt := 29) d_X12_lowOf_10 rfl (fun _ => ?_) (fun hc => absurd (by decide) hc)
    refine Tr.iconst (pc := 29) d_X12_lowOf_29 (by decide) ?_
    refine Tr.iret (pc := 30) d_X12_lowOf_30 rfl ?_
    refine Tr.sc [_, _, _] rfl ?_
    refine Tr.iload (pc := 79) (i := 5) d_X12_over_79 rfl ?_
    refine Tr.iadd (pc := 81) d_X12_over_81 ?_
    refine Tr.tp 0 rfl ?_
    refine Tr.iastX (pc := 82) d_X12_over_82 (ty_154 hF) (by decide) (by decide) hF (by decide +kernel) (fun hF => ?_)
    refine Tr.aload_n (pc := 83) (i := 0) d_X12_over_83 rfl rfl ?_
    refine Tr.getf (pc := 84) d_X12_over_84 f_12_171 (by decide) (by decide) (ty_120 hF) ?_
    refine Tr.tp 154 (fx_120_52 hF) ?_
    refine Tr.iconst (pc := 87) d_X12_over_87 (by decide) ?_
    refine Tr.aload_n (pc := 88) (i := 0) d_X12_over_88 rfl rfl ?_
    refine Tr.iconst (pc := 89) d_X12_over_89 (by decide) ?_
    refine Tr.callV (pc := 90) (as := [_]) d_X12_over_90 s_12_683 ok_X12_lowOf rfl rfl (Nat.le_of_ble_eq_true rfl) (Nat.le_of_ble_eq_true rfl) (by decide) (ty_120 hF) ?_
    refine Tr.lc [(0, (2, 120)), (1, (0, 1))] rfl ?_
    refine Tr.iload_n (pc := 0) (i := 1) d_X12_lowOf_0 rfl rfl ?_
    refine Tr.aload_n (pc := 1) (i := 0) d_X12_lowOf_1 rfl rfl ?_
    refine Tr.getf (pc := 2) d_X12_lowOf_2 f_12_66 (by decide) (by decide) (ty_120 hF) ?_
    refine Tr.tp 127 (fx_120_18 hF) ?_
    refine Tr.aload_n (pc := 5) (i := 0) d_X12_lowOf_5 rfl rfl ?_
    refine Tr.getf (pc := 6) d_X12_lowOf_6 f_12_48 (by decide) (by decide) (ty_120 hF) ?_
    refine Tr.tp 0 ((rd_wb _ rfl).trans ((rd_wb _ rfl).trans ((rd_wb _ rfl).trans ((rd_cb _ rfl).trans ((rd_wb _ rfl).trans ((rd_cb _ rfl).trans ((rd_wb _ rfl).trans ((rd_wb _ rfl).trans ((rd_fb _ rfl).trans ((rd_wb _ rfl).trans ((rd_wb _ rfl).trans ((rd_wb _ rfl).trans ((rd_wb _ rfl).trans ((rd_wb _ rfl).trans ((rd_wb _ rfl).trans ((rd_wb _ rfl).trans ((rd_wb _ rfl).trans ((rd_wb _ rfl).trans ((rd_fb _ rfl).trans ((rd_fb _ rfl).trans ((rd_fb _ rfl).trans ((rd_fb _ rfl).trans ((rd_fb _ rfl).trans ((rd_cb _ rfl).trans ((rd_wb _ rfl).trans ((rd_cb _ rfl).trans (b_120_12))))))))))))))))))))))))))) ?_
    refine Tr.iald (pc := 9) d_X12_lowOf_9 (ty_127 hF) (by decide) (by decide) ?_
    refine Tr.tp 0 ((rd_wb _ rfl).trans ((rd_wb _ rfl).trans ((rd_wb _ rfl).trans ((rd_cb _ rfl).trans ((rd_wb _ rfl).trans ((rd_cb _ rfl).trans ((rd_wb _ rfl).trans ((rd_wb _ rfl).trans ((rd_fb _ rfl).trans ((rd_wb _ rfl).trans ((rd_wb _ rfl).trans ((rd_wb _ rfl).trans ((rd_wb _ rfl).trans ((rd_wb _ rfl).trans ((rd_wb _ rfl).trans ((rd_wb _ rfl).trans ((rd_wb _ rfl).trans ((rd_wb _ rfl).trans ((rd_fb _ rfl).trans ((rd_fb _ rfl).trans ((rd_fb _ rfl).trans ((rd_fb _ rfl).trans ((rd_fb _ rfl).trans ((rd_cb _ rfl).trans ((rd_wb _ rfl).trans ((rd_cb _ rfl).trans (b_127_0))))))))))))))))))))))))))) ?_
    refine Tr.icmp_ge (pc := 10) (tgt := 29) d_X12_lowOf_10 rfl (fun _ => ?_) (fun hc => absurd (by decide) hc)
    refine Tr.iconst (pc := 29) d_X12_lowOf_29 (by decide) ?_
    refine Tr.iret (pc := 30) d_X12_lowOf_30 rfl ?_
    refine Tr.sc [_, _, _] rfl ?_
    refine Tr.iload (pc := 93) (i := 6) d_X12_over_93 rfl ?_
    refine Tr.iadd (pc := 95) d_X12_over_95 ?_
    refine Tr.tp 0 rfl ?_
    refine Tr.iastX (pc := 96) d_X12_over_96 (ty_154 hF) (by decide) (by decide) hF (by decide +kernel) (fun hF => ?_)
    refine Tr.aload_n (pc := 97) (i := 0) d_X12_over_97 rfl rfl ?_
    refine Tr.getf (pc := 98) d_X12_over_98 f_12_171 (by decide) (by decide) (ty_120 hF) ?_
    refine Tr.tp 154 (fx_120_52 hF) ?_
    refine Tr.iconst (pc := 101) d_X12_over_101 (by decide) ?_
    refine Tr.aload_n (pc := 102) (i := 0) d_X12_over_102 rfl rfl ?_
    refine Tr.iconst (pc := 103) d_X12_over_103 (by decide) ?_
    refine Tr.callV (pc := 104) (as := [_]) d_X12_over_104 s_12_683 ok_X12_lowOf rfl rfl (Nat.le_of_ble_eq_true rfl) (Nat.le_of_ble_eq_true rfl) (by decide) (ty_120 hF) ?_
    refine Tr.lc [(0, (2, 120)), (1, (0, 2))] rfl ?_
    refine Tr.iload_n (pc := 0) (i := 1) d_X12_lowOf_0 rfl rfl ?_
    refine Tr.aload_n (pc := 1) (i := 0) d_X12_lowOf_1 rfl rfl ?_
    refine Tr.getf (pc := 2) d_X12_lowOf_2 f_12_66 (by decide) (by decide) (ty_120 hF) ?_
    refine Tr.tp 127 (fx_120_18 hF) ?_
    refine Tr.aload_n (pc := 5) (i := 0) d_X12_lowOf_5 rfl rfl ?_
    refine Tr.getf (pc := 6) d_X12_lowOf_6 f_12_48 (by decide) (by decide) (ty_120 hF) ?_
    refine Tr.tp 0 ((rd_wb _ rfl).trans ((rd_wb _ rfl).trans ((rd_wb _ rfl).trans ((rd_wb _ rfl).trans ((rd_cb _ rfl).trans ((rd_wb _ rfl).trans ((rd_cb _ rfl).trans ((rd_wb _ rfl).trans ((rd_wb _ rfl).trans ((rd_fb _ rfl).trans ((rd_wb _ rfl).trans ((rd_wb _ rfl).trans ((rd_wb _ rfl).trans ((rd_wb _ rfl).trans ((rd_wb _ rfl).trans ((rd_wb _ rfl).trans ((rd_wb _ rfl).trans ((rd_wb _ rfl).trans ((rd_wb _ rfl).trans ((rd_fb _ rfl).trans ((rd_fb _ rfl).trans ((rd_fb _ rfl).trans ((rd_fb _ rfl).trans ((rd_fb _ rfl).trans ((rd_cb _ rfl).trans ((rd_wb _ rfl).trans ((rd_cb _ rfl).trans (b_120_12)))))))))))))))))))))))))))) ?_
    refine Tr.iald (pc := 9) d_X12_lowOf_9 (ty_127 hF) (by decide) (by decide) ?_
    refine Tr.tp 0 ((rd_wb _ rfl).trans ((rd_wb _ rfl).trans ((rd_wb _ rfl).trans ((rd_wb _ rfl).trans ((rd_cb _ rfl).trans ((rd_wb _ rfl).trans ((rd_cb _ rfl).trans ((rd_wb _ rfl).trans ((rd_wb _ rfl).trans ((rd_fb _ rfl).trans ((rd_wb _ rfl).trans ((rd_wb _ rfl).trans ((rd_wb _ rfl).trans ((rd_wb _ rfl).trans ((rd_wb _ rfl).trans ((rd_wb _ rfl).trans ((rd_wb _ rfl).trans ((rd_wb _ rfl).trans ((rd_wb _ rfl).trans ((rd_fb _ rfl).trans ((rd_fb _ rfl).trans ((rd_fb _ rfl).trans ((rd_fb _ rfl).trans ((rd_fb _ rfl).trans ((rd_cb _ rfl).trans ((rd_wb _ rfl).trans ((rd_cb _ rfl).trans (b_127_0)))))))))))))))))))))))))))) ?_
    refine Tr.icmp_ge (pc := 10) (tgt := 29) d_X12_lowOf_10 rfl (fun _ => ?_) (fun hc => absurd (by decide) hc)
    refine Tr.iconst (pc := 29) d_X12_lowOf_29 (by decide) ?_
    refine Tr.iret (pc := 30) d_X12_lowOf_30 rfl ?_
    refine Tr.sc [_, _, _] rfl ?_
    refine Tr.iload (pc := 107) (i := 7) d_X12_over_107 rfl ?_
    refine Tr.iadd (pc := 109) d_X12_over_109 ?_
    refine Tr.tp 0 rfl ?_
    refine Tr.iastX (pc := 110) d_X12_over_110 (ty_154 hF) (by decide) (by decide) hF (by decide +kernel) (fun hF => ?_)
    refine Tr.aload_n (pc := 111) (i := 0) d_X12_over_111 rfl rfl ?_
    refine Tr.ldc2 (pc := 112) d_X12_over_112 kl_12_686 (by decide) ?_
    refine Tr.callV (pc := 115) (as := [_]) d_X12_over_115 s_12_637 ok_X12_runs rfl rfl (Nat.le_of_ble_eq_true rfl) (Nat.le_of_ble_eq_true rfl) (by decide) (ty_120 hF) ?_
    refine Tr.lc [(0, (2, 120)), (1, (1, (-1)))] rfl ?_
    refine Tr.iconst (pc := 0) d_X12_runs_0 (by decide) ?_
    refine Tr.istore_n (pc := 1) (i := 3) (ls2 := [(3, (0, 0)), (0, (2, 120)), (1, (1, (-1)))]) d_X12_runs_1 rfl (by decide) rfl ?_
    refine Tr.iload_n (pc := 2) (i := 3) d_X12_runs_2 rfl rfl ?_
    refine Tr.bipush (pc := 3) d_X12_runs_3 rfl (by decide) ?_
    refine Tr.icmp_ge (pc := 5) (tgt := 21) d_X12_runs_5 rfl (fun hc => absurd hc (by decide)) (fun _ => ?_)
    refine Tr.aload_n (pc := 8) (i := 0) d_X12_runs_8 rfl rfl ?_
    refine Tr.getf (pc := 9) d_X12_runs_9 f_12_174 (by decide) (by decide) (ty_120 hF) ?_
    refine Tr.tp 155 (fx_120_53 hF) ?_
    refine Tr.iload_n (pc := 12) (i := 3) d_X12_runs_12 rfl rfl ?_
    refine Tr.iconst (pc := 13) d_X12_runs_13 (by decide) ?_
    refine Tr.iastX (pc := 14) d_X12_runs_14 (ty_155 hF) (by decide) (by decide) hF (by decide +kernel) (fun hF => ?_)
    refine Tr.iinc (pc := 15) (ls2 := [(3, (0, 1)), (0, (2, 120)), (1, (1, (-1)))]) d_X12_runs_15 rfl (by decide) rfl ?_
    refine Tr.goto (pc := 18) (tgt := 2) d_X12_runs_18 rfl ?_
    refine Tr.iload_n (pc := 2) (i := 3) d_X12_runs_2 rfl rfl ?_
    refine Tr.bipush (pc := 3) d_X12_runs_3 rfl (by decide) ?_
    refine Tr.icmp_ge (pc := 5) (tgt := 21) d_X12_runs_5 rfl (fun hc => absurd hc (by decide)) (fun _ => ?_)
    refine Tr.aload_n (pc := 8) (i := 0) d_X12_runs_8 rfl rfl ?_
    refine Tr.getf (pc := 9) d_X12_runs_9 f_12_174 (by decide) (by decide) (ty_120 hF) ?_
    refine Tr.tp 155 (fx_120_53 hF) ?_
    refine Tr.iload_n (pc := 12) (i := 3) d_X12_runs_12 rfl rfl ?_
    refine Tr.iconst (pc := 13) d_X12_runs_13 (by decide) ?_
    refine Tr.iastX (pc := 14) d_X12_runs_14 (ty_155 hF) (by decide) (by decide) hF (by decide +kernel) (fun hF => ?_)
    refine Tr.iinc (pc := 15) (ls2 := [(3, (0, 2)), (0, (2, 120)), (1, (1, (-1)))]) d_X12_runs_15 rfl (by decide) rfl ?_
    refine Tr.goto (pc := 18) (tgt := 2) d_X12_runs_18 rfl ?_
    refine Tr.iload_n (pc := 2) (i := 3) d_X12_runs_2 rfl rfl ?_
    refine Tr.bipush (pc := 3) d_X12_runs_3 rfl (by decide) ?_
    refine Tr.icmp_ge (pc := 5) (tgt := 21) d_X12_runs_5 rfl (fun hc => absurd hc (by decide)) (fun _ => ?_)
    refine Tr.aload_n (pc := 8) (i := 0) d_X12_runs_8 rfl rfl ?_
    refine Tr.getf (pc := 9) d_X12_runs_9 f_12_174 (by decide) (by decide) (ty_120 hF) ?_
    refine Tr.tp 155 (fx_120_53 hF) ?_
    refine Tr.iload_n (pc := 12) (i := 3) d_X12_runs_12 rfl rfl ?_
    refine Tr.iconst (pc := 13) d_X12_runs_13 (by decide) ?_
    refine Tr.iastX (pc := 14) d_X12_runs_14 (ty_155 hF) (by decide) (by decide) hF (by decide +kernel) (fun hF => ?_)
    refine Tr.iinc (pc := 15) (ls2 := [(3, (0, 3)), (0, (2, 120)), (1, (1, (-1)))]) d_X12_runs_15 rfl (by decide) rfl ?_
    refine Tr.goto (pc := 18) (tgt := 2) d_X12_runs_18 rfl ?_
    refine Tr.iload_n (pc := 2) (i := 3) d_X12_runs_2 rfl rfl ?_
    refine Tr.bipush (pc := 3) d_X12_runs_3 rfl (by decide) ?_
    refine Tr.icmp_ge (pc := 5) (tgt := 21) d_X12_runs_5 rfl (fun hc => absurd hc (by decide)) (fun _ => ?_)
    refine Tr.aload_n (pc := 8) (i := 0) d_X12_runs_8 rfl rfl ?_
    refine Tr.getf (pc := 9) d_X12_runs_9 f_12_174 (by decide) (by decide) (ty_120 hF) ?_
    refine Tr.tp 155 (fx_120_53 hF) ?_
    refine Tr.iload_n (pc := 12) (i := 3) d_X12_runs_12 rfl rfl ?_
    refine Tr.iconst (pc := 13) d_X12_runs_13 (by decide) ?_
    refine Tr.iastX (pc := 14) d_X12_runs_14 (ty_155 hF) (by decide) (by decide) hF (by decide +kernel) (fun hF => ?_)
    refine Tr.iinc (pc := 15) (ls2 := [(3, (0, 4)), (0, (2, 120)), (1, (1, (-1)))]) d_X12_runs_15 rfl (by decide) rfl ?_
    refine Tr.goto (pc := 18) (tgt := 2) d_X12_runs_18 rfl ?_
    refine Tr.iload_n (pc := 2) (i := 3) d_X12_runs_2 rfl rfl ?_
    refine Tr.bipush (pc := 3) d_X12_runs_3 rfl (by decide) ?_
    refine Tr.icmp_ge (pc := 5) (tgt := 21) d_X12_runs_5 rfl (fun hc => absurd hc (by decide)) (fun _ => ?_)
    refine Tr.aload_n (pc := 8) (i := 0) d_X12_runs_8 rfl rfl ?_
    refine Tr.getf (pc := 9) d_X12_runs_9 f_12_174 (by decide) (by decide) (ty_120 hF) ?_
    refine Tr.tp 155 (fx_120_53 hF) ?_
    refine Tr.iload_n (pc := 12) (i := 3) d_X12_runs_12 rfl rfl ?_
    refine Tr.iconst (pc := 13) d_X12_runs_13 (by decide) ?_
    refine Tr.iastX (pc := 14) d_X12_runs_14 (ty_155 hF) (by decide) (by decide) hF (by decide +kernel) (fun hF => ?_)
    refine Tr.iinc (pc := 15) (ls2 := [(3, (0, 5)), (0, (2, 120)), (1, (1, (-1)))]) d_X12_runs_15 rfl (by decide) rfl ?_
    refine Tr.goto (pc := 18) (tgt := 2) d_X12_runs_18 rfl ?_
    refine Tr.iload_n (pc := 2) (i := 3) d_X12_runs_2 rfl rfl ?_
    refine Tr.bipush (pc := 3) d_X12_runs_3 rfl (by decide) ?_
    refine Tr.icmp_ge (pc := 5) (tgt := 21) d_X12_runs_5 rfl (fun hc => absurd hc (by decide)) (fun _ => ?_)
    refine Tr.aload_n (pc := 8) (i := 0) d_X12_runs_8 rfl rfl ?_
    refine Tr.getf (pc := 9) d_X12_runs_9 f_12_174 (by decide) (by decide) (ty_120 hF) ?_
    refine Tr.tp 155 (fx_120_53 hF) ?_
    refine Tr.iload_n (pc := 12) (i := 3) d_X12_runs_12 rfl rfl ?_
    refine Tr.iconst (pc := 13) d_X12_runs_13 (by decide) ?_
    refine Tr.iastX (pc := 14) d_X12_runs_14 (ty_155 hF) (by decide) (by decide) hF (by decide +kernel) (fun hF => ?_)
    refine Tr.iinc (pc := 15) (ls2 := [(3, (0, 6)), (0, (2, 120)), (1, (1, (-1)))]) d_X12_runs_15 rfl (by decide) rfl ?_
    refine Tr.goto (pc := 18) (tgt := 2) d_X12_runs_18 rfl ?_
    refine Tr.iload_n (pc := 2) (i := 3) d_X12_runs_2 rfl rfl ?_
    refine Tr.bipush (pc := 3) d_X12_runs_3 rfl (by decide) ?_
    refine Tr.icmp_ge (pc := 5) (tgt := 21) d_X12_runs_5 rfl (fun _ => ?_) (fun hc => absurd (by decide) hc)
    refine Tr.iconst (pc := 21) d_X12_runs_21 (by decide) ?_
    refine Tr.istore_n (pc := 22) (i := 3) (ls2 := [(3, (0, 0)), (0, (2, 120)), (1, (1, (-1)))]) d_X12_runs_22 rfl (by decide) rfl ?_
    refine Tr.iload_n (pc := 23) (i := 3) d_X12_runs_23 rfl rfl ?_
    refine Tr.bipush (pc := 24) d_X12_runs_24 rfl (by decide) ?_
    refine Tr.icmp_ge (pc := 26) (tgt := 63) d_X12_runs_26 rfl (fun hc => absurd hc (by decide)) (fun _ => ?_)
    refine Tr.aload_n (pc := 29) (i := 0) d_X12_runs_29 rfl rfl ?_
    refine Tr.getf (pc := 30) d_X12_runs_30 f_12_177 (by decide) (by decide) (ty_120 hF) ?_
    refine Tr.tp 156 (fx_120_54 hF) ?_
    refine Tr.iload_n (pc := 33) (i := 3) d_X12_runs_33 rfl rfl ?_
    refine Tr.iconst (pc := 34) d_X12_runs_34 (by decide) ?_
    refine Tr.zastX (pc := 35) d_X12_runs_35 (ty_156 hF) (by decide) (by decide) (by decide) hF (by decide +kernel) (fun hF => ?_)
    refine Tr.aload_n (pc := 36) (i := 0) d_X12_runs_36 rfl rfl ?_
    refine Tr.getf (pc := 37) d_X12_runs_37 f_12_180 (by decide) (by decide) (ty_120 hF) ?_
    refine Tr.tp 157 (fx_120_55 hF) ?_
    refine Tr.iload_n (pc := 40) (i := 3) d_X12_runs_40 rfl rfl ?_
    refine Tr.iconst (pc := 41) d_X12_runs_41 (by decide) ?_
    refine Tr.iastX (pc := 42) d_X12_runs_42 (ty_157 hF) (by decide) (by decide) hF (by decide +kernel) (fun hF => ?_)
    refine Tr.aload_n (pc := 43) (i := 0) d_X12_runs_43 rfl rfl ?_
    refine Tr.getf (pc := 44) d_X12_runs_44 f_12_183 (by decide) (by decide) (ty_120 hF) ?_
    refine Tr.tp 158 (fx_120_56 hF) ?_
    refine Tr.iload_n (pc := 47) (i := 3) d_X12_runs_47 rfl rfl ?_
    refine Tr.iconst (pc := 48) d_X12_runs_48 (by decide) ?_
    refine Tr.iastX (pc := 49) d_X12_runs_49 (ty_158 hF) (by decide) (by decide) hF (by decide +kernel) (fun hF => ?_)
    refine Tr.aload_n (pc := 50) (i := 0) d_X12_runs_50 rfl rfl ?_
    refine Tr.getf (pc := 51) d_X12_runs_51 f_12_186 (by decide) (by decide) (ty_120 hF) ?_
    refine Tr.tp 159 (fx_120_57 hF) ?_
    refine Tr.iload_n (pc := 54) (i := 3) d_X12_runs_54 rfl rfl ?_
    refine Tr.iconst (pc := 55) d_X12_runs_55 (by decide) ?_
    refine Tr.iastX (pc := 56) d_X12_runs_56 (ty_159 hF) (by decide) (by decide) hF (by decide +kernel) (fun hF => ?_)
    refine Tr.iinc (pc := 57) (ls2 := [(3, (0, 1)), (0, (2, 120)), (1, (1, (-1)))]) d_X12_runs_57 rfl (by decide) rfl ?_
    refine Tr.goto (pc := 60) (tgt := 23) d_X12_runs_60 rfl ?_
    refine Tr.iload_n (pc := 23) (i := 3) d_X12_runs_23 rfl rfl ?_
    refine Tr.bipush (pc := 24) d_X12_runs_24 rfl (by decide) ?_
    refine Tr.icmp_ge (pc := 26) (tgt := 63) d_X12_runs_26 rfl (fun hc => absurd hc (by decide)) (fun _ => ?_)
    refine Tr.aload_n (pc := 29) (i := 0) d_X12_runs_29 rfl rfl ?_
    refine Tr.getf (pc := 30) d_X12_runs_30 f_12_177 (by decide) (by decide) (ty_120 hF) ?_
    refine Tr.tp 156 (fx_120_54 hF) ?_
    refine Tr.iload_n (pc := 33) (i := 3) d_X12_runs_33 rfl rfl ?_
    refine Tr.iconst (pc := 34) d_X12_runs_34 (by decide) ?_
    refine Tr.zastX (pc := 35) d_X12_runs_35 (ty_156 hF) (by decide) (by decide) (by decide) hF (by decide +kernel) (fun hF => ?_)
    refine Tr.aload_n (pc := 36) (i := 0) d_X12_runs_36 rfl rfl ?_
    refine Tr.getf (pc := 37) d_X12_runs_37 f_12_180 (by decide) (by decide) (ty_120 hF) ?_
    refine Tr.tp 157 (fx_120_55 hF) ?_
    refine Tr.iload_n (pc := 40) (i := 3) d_X12_runs_40 rfl rfl ?_
    refine Tr.iconst (pc := 41) d_X12_runs_41 (by decide) ?_
    refine Tr.iastX (pc := 42) d_X12_runs_42 (ty_157 hF) (by decide) (by decide) hF (by decide +kernel) (fun hF => ?_)
    refine Tr.aload_n (pc := 43) (i := 0) d_X12_runs_43 rfl rfl ?_
    refine Tr.getf (pc := 44) d_X12_runs_44 f_12_183 (by decide) (by decide) (ty_120 hF) ?_
    refine Tr.tp 158 (fx_120_56 hF) ?_
    refine Tr.iload_n (pc := 47) (i := 3) d_X12_runs_47 rfl rfl ?_
    refine Tr.iconst (pc := 48) d_X12_runs_48 (by decide) ?_
    refine Tr.iastX (pc := 49) d_X12_runs_49 (ty_158 hF) (by decide) (by decide) hF (by decide +kernel) (fun hF => ?_)
    refine Tr.aload_n (pc := 50) (i := 0) d_X12_runs_50 rfl rfl ?_
    refine Tr.getf (pc := 51) d_X12_runs_51 f_12_186 (by decide) (by decide) (ty_120 hF) ?_
    refine Tr.tp 159 (fx_120_57 hF) ?_
    refine Tr.iload_n (pc := 54) (i := 3) d_X12_runs_54 rfl rfl ?_
    refine Tr.iconst (pc := 55) d_X12_runs_55 (by decide) ?_
    refine Tr.iastX (pc := 56) d_X12_runs_56 (ty_159 hF) (by decide) (by decide) hF (by decide +kernel) (fun hF => ?_)
    refine Tr.iinc (pc := 57) (ls2 := [(3, (0, 2)), (0, (2, 120)), (1, (1, (-1)))]) d_X12_runs_57 rfl (by decide) rfl ?_
    refine Tr.goto (pc := 60) (tgt := 23) d_X12_runs_60 rfl ?_
    refine Tr.iload_n (pc := 23) (i := 3) d_X12_runs_23 rfl rfl ?_
    refine Tr.bipush (pc := 24) d_X12_runs_24 rfl (by decide) ?_
    refine Tr.icmp_ge (pc := 26) (tgt := 63) d_X12_runs_26 rfl (fun hc => absurd hc (by decide)) (fun _ => ?_)
    refine Tr.aload_n (pc := 29) (i := 0) d_X12_runs_29 rfl rfl ?_
    refine Tr.getf (pc := 30) d_X12_runs_30 f_12_177 (by decide) (by decide) (ty_120 hF) ?_
    refine Tr.tp 156 (fx_120_54 hF) ?_
    refine Tr.iload_n (pc := 33) (i := 3) d_X12_runs_33 rfl rfl ?_
    refine Tr.iconst (pc := 34) d_X12_runs_34 (by decide) ?_
    refine Tr.zastX (pc := 35) d_X12_runs_35 (ty_156 hF) (by decide) (by decide) (by decide) hF (by decide +kernel) (fun hF => ?_)
    refine Tr.aload_n (pc := 36) (i := 0) d_X12_runs_36 rfl rfl ?_
    refine Tr.getf (pc := 37) d_X12_runs_37 f_12_180 (by decide) (by decide) (ty_120 hF) ?_
    refine Tr.tp 157 (fx_120_55 hF) ?_
    refine Tr.iload_n (pc := 40) (i := 3) d_X12_runs_40 rfl rfl ?_
    refine Tr.iconst (pc := 41) d_X12_runs_41 (by decide) ?_
    refine Tr.iastX (pc := 42) d_X12_runs_42 (ty_157 hF) (by decide) (by decide) hF (by decide +kernel) (fun hF => ?_)
    refine Tr.aload_n (pc := 43) (i := 0) d_X12_runs_43 rfl rfl ?_
    refine Tr.getf (pc := 44) d_X12_runs_44 f_12_183 (by decide) (by decide) (ty_120 hF) ?_
    refine Tr.tp 158 (fx_120_56 hF) ?_
    refine Tr.iload_n (pc := 47) (i := 3) d_X12_runs_47 rfl rfl ?_
    refine Tr.iconst (pc := 48) d_X12_runs_48 (by decide) ?_
    refine Tr.iastX (pc := 49) d_X12_runs_49 (ty_158 hF) (by decide) (by decide) hF (by decide +kernel) (fun hF => ?_)
    refine Tr.aload_n (pc := 50) (i := 0) d_X12_runs_50 rfl rfl ?_
    refine Tr.getf (pc := 51) d_X12_runs_51 f_12_186 (by decide) (by decide) (ty_120 hF) ?_
    refine Tr.tp 159 (fx_120_57 hF) ?_
    refine Tr.iload_n (pc := 54) (i := 3) d_X12_runs_54 rfl rfl ?_
    refine Tr.iconst (pc := 55) d_X12_runs_55 (by decide) ?_
    refine Tr.iastX (pc := 56) d_X12_runs_56 (ty_159 hF) (by decide) (by decide) hF (by decide +kernel) (fun hF => ?_)
    refine Tr.iinc (pc := 57) (ls2 := [(3, (0, 3)), (0, (2, 120)), (1, (1, (-1)))]) d_X12_runs_57 rfl (by decide) rfl ?_
    refine Tr.goto (pc := 60) (tgt := 23) d_X12_runs_60 rfl ?_
    refine Tr.iload_n (pc := 23) (i := 3) d_X12_runs_23 rfl rfl ?_
    refine Tr.bipush (pc := 24) d_X12_runs_24 rfl (by decide) ?_
    refine Tr.icmp_ge (pc := 26) (tgt := 63) d_X12_runs_26 rfl (fun hc => absurd hc (by decide)) (fun _ => ?_)
    refine Tr.aload_n (pc := 29) (i := 0) d_X12_runs_29 rfl rfl ?_
    refine Tr.getf (pc := 30) d_X12_runs_30 f_12_177 (by decide) (by decide) (ty_120 hF) ?_
    refine Tr.tp 156 (fx_120_54 hF) ?_
    refine Tr.iload_n (pc := 33) (i := 3) d_X12_runs_33 rfl rfl ?_
    refine Tr.iconst (pc := 34) d_X12_runs_34 (by decide) ?_
    refine Tr.zastX (pc := 35) d_X12_runs_35 (ty_156 hF) (by decide) (by decide) (by decide) hF (by decide +kernel) (fun hF => ?_)
    refine Tr.aload_n (pc := 36) (i := 0) d_X12_runs_36 rfl rfl ?_
    refine Tr.getf (pc := 37) d_X12_runs_37 f_12_180 (by decide) (by decide) (ty_120 hF) ?_
    refine Tr.tp 157 (fx_120_55 hF) ?_
    refine Tr.iload_n (pc := 40) (i := 3) d_X12_runs_40 rfl rfl ?_
    refine Tr.iconst (pc := 41) d_X12_runs_41 (by decide) ?_
    refine Tr.iastX (pc := 42) d_X12_runs_42 (ty_157 hF) (by decide) (by decide) hF (by decide +kernel) (fun hF => ?_)
    refine Tr.aload_n (pc := 43) (i := 0) d_X12_runs_43 rfl rfl ?_
    refine Tr.getf (pc := 44) d_X12_runs_44 f_12_183 (by decide) (by decide) (ty_120 hF) ?_
    refine Tr.tp 158 (fx_120_56 hF) ?_
    refine Tr.iload_n (pc := 47) (i := 3) d_X12_runs_47 rfl rfl ?_
    refine Tr.iconst (pc := 48) d_X12_runs_48 (by decide) ?_
    refine Tr.iastX (pc := 49) d_X12_runs_49 (ty_158 hF) (by decide) (by decide) hF (by decide +kernel) (fun hF => ?_)
    refine Tr.aload_n (pc := 50) (i := 0) d_X12_runs_50 rfl rfl ?_
    refine Tr.getf (pc := 51) d_X12_runs_51 f_12_186 (by decide) (by decide) (ty_120 hF) ?_
    refine Tr.tp 159 (fx_120_57 hF) ?_
    refine Tr.iload_n (pc := 54) (i := 3) d_X12_runs_54 rfl rfl ?_
    refine Tr.iconst (pc := 55) d_X12_runs_55 (by decide) ?_
    refine Tr.iastX (pc := 56) d_X12_runs_56 (ty_159 hF) (by decide) (by decide) hF (by decide +kernel) (fun hF => ?_)
    refine Tr.iinc (pc := 57) (ls2 := [(3, (0, 4)), (0, (2, 120)), (1, (1, (-1)))]) d_X12_runs_57 rfl (by decide) rfl ?_
    refine Tr.goto (pc := 60) (tgt := 23) d_X12_runs_60 rfl ?_
    refine Tr.iload_n (pc := 23) (i := 3) d_X12_runs_23 rfl rfl ?_
    refine Tr.bipush (pc := 24) d_X12_runs_24 rfl (by decide) ?_
    refine Tr.icmp_ge (pc := 26) (tgt := 63) d_X12_runs_26 rfl (fun hc => absurd hc (by decide)) (fun _ => ?_)
    refine Tr.aload_n (pc := 29) (i := 0) d_X12_runs_29 rfl rfl ?_
    refine Tr.getf (pc := 30) d_X12_runs_30 f_12_177 (by decide) (by decide) (ty_120 hF) ?_
    refine Tr.tp 156 (fx_120_54 hF) ?_
    refine Tr.iload_n (pc := 33) (i := 3) d_X12_runs_33 rfl rfl ?_
    refine Tr.iconst (pc := 34) d_X12_runs_34 (by decide) ?_
    refine Tr.zastX (pc := 35) d_X12_runs_35 (ty_156 hF) (by decide) (by decide) (by decide) hF (by decide +kernel) (fun hF => ?_)
    refine Tr.aload_n (pc := 36) (i := 0) d_X12_runs_36 rfl rfl ?_
    refine Tr.getf (pc := 37) d_X12_runs_37 f_12_180 (by decide) (by decide) (ty_120 hF) ?_
    refine Tr.tp 157 (fx_120_55 hF) ?_
    refine Tr.iload_n (pc := 40) (i := 3) d_X12_runs_40 rfl rfl ?_
    refine Tr.iconst (pc := 41) d_X12_runs_41 (by decide) ?_
    refine Tr.iastX (pc := 42) d_X12_runs_42 (ty_157 hF) (by decide) (by decide) hF (by decide +kernel) (fun hF => ?_)
    refine Tr.aload_n (pc := 43) (i := 0) d_X12_runs_43 rfl rfl ?_
    refine Tr.getf (pc := 44) d_X12_runs_44 f_12_183 (by decide) (by decide) (ty_120 hF) ?_
    refine Tr.tp 158 (fx_120_56 hF) ?_
    refine Tr.iload_n (pc := 47) (i := 3) d_X12_runs_47 rfl rfl ?_
    refine Tr.iconst (pc := 48) d_X12_runs_48 (by decide) ?_
    refine Tr.iastX (pc := 49) d_X12_runs_49 (ty_158 hF) (by decide) (by decide) hF (by decide +kernel) (fun hF => ?_)
    refine Tr.aload_n (pc := 50) (i := 0) d_X12_runs_50 rfl rfl ?_
    refine Tr.getf (pc := 51) d_X12_runs_51 f_12_186 (by decide) (by decide) (ty_120 hF) ?_
    refine Tr.tp 159 (fx_120_57 hF) ?_
    refine Tr.iload_n (pc := 54) (i := 3) d_X12_runs_54 rfl rfl ?_
    refine Tr.iconst (pc := 55) d_X12_runs_55 (by decide) ?_
    refine Tr.iastX (pc := 56) d_X12_runs_56 (ty_159 hF) (by decide) (by decide) hF (by decide +kernel) (fun hF => ?_)
    refine Tr.iinc (pc := 57) (ls2 := [(3, (0, 5)), (0, (2, 120)), (1, (1, (-1)))]) d_X12_runs_57 rfl (by decide) rfl ?_
    refine Tr.goto (pc := 60) (tgt := 23) d_X12_runs_60 rfl ?_
    refine Tr.iload_n (pc := 23) (i := 3) d_X12_runs_23 rfl rfl ?_
    refine Tr.bipush (pc := 24) d_X12_runs_24 rfl (by decide) ?_
    refine Tr.icmp_ge (pc := 26) (tgt := 63) d_X12_runs_26 rfl (fun hc => absurd hc (by decide)) (fun _ => ?_)
    refine Tr.aload_n (pc := 29) (i := 0) d_X12_runs_29 rfl rfl ?_
    refine Tr.getf (pc := 30) d_X12_runs_30 f_12_177 (by decide) (by decide) (ty_120 hF) ?_
    refine Tr.tp 156 (fx_120_54 hF) ?_
    refine Tr.iload_n (pc := 33) (i := 3) d_X12_runs_33 rfl rfl ?_
    refine Tr.iconst (pc := 34) d_X12_runs_34 (by decide) ?_
    refine Tr.zastX (pc := 35) d_X12_runs_35 (ty_156 hF) (by decide) (by decide) (by decide) hF (by decide +kernel) (fun hF => ?_)
    refine Tr.aload_n (pc := 36) (i := 0) d_X12_runs_36 rfl rfl ?_
    refine Tr.getf (pc := 37) d_X12_runs_37 f_12_180 (by decide) (by decide) (ty_120 hF) ?_
    refine Tr.tp 157 (fx_120_55 hF) ?_
    refine Tr.iload_n (pc := 40) (i := 3) d_X12_runs_40 rfl rfl ?_
    refine Tr.iconst (pc := 41) d_X12_runs_41 (by decide) ?_
    refine Tr.iastX (pc := 42) d_X12_runs_42 (ty_157 hF) (by decide) (by decide) hF (by decide +kernel) (fun hF => ?_)
    refine Tr.aload_n (pc := 43) (i := 0) d_X12_runs_43 rfl rfl ?_
    refine Tr.getf (pc := 44) d_X12_runs_44 f_12_183 (by decide) (by decide) (ty_120 hF) ?_
    refine Tr.tp 158 (fx_120_56 hF) ?_
    refine Tr.iload_n (pc := 47) (i := 3) d_X12_runs_47 rfl rfl ?_
    refine Tr.iconst (pc := 48) d_X12_runs_48 (by decide) ?_
    refine Tr.iastX (pc := 49) d_X12_runs_49 (ty_158 hF) (by decide) (by decide) hF (by decide +kernel) (fun hF => ?_)
    refine Tr.aload_n (pc := 50) (i := 0) d_X12_runs_50 rfl rfl ?_
    refine Tr.getf (pc := 51) d_X12_runs_51 f_12_186 (by decide) (by decide) (ty_120 hF) ?_
    refine Tr.tp 159 (fx_120_57 hF) ?_
    refine Tr.iload_n (pc := 54) (i := 3) d_X12_runs_54 rfl rfl ?_
    refine Tr.iconst (pc := 55) d_X12_runs_55 (by decide) ?_
    refine Tr.iastX (pc := 56) d_X12_runs_56 (ty_159 hF) (by decide) (by decide) hF (by decide +kernel) (fun hF => ?_)
    refine Tr.iinc (pc := 57) (ls2 := [(3, (0, 6)), (0, (2, 120)), (1, (1, (-1)))]) d_X12_runs_57 rfl (by decide) rfl ?_
    refine Tr.goto (pc := 60) (tgt := 23) d_X12_runs_60 rfl ?_
    refine Tr.iload_n (pc := 23) (i := 3) d_X12_runs_23 rfl rfl ?_
    refine Tr.bipush (pc := 24) d_X12_runs_24 rfl (by decide) ?_
    refine Tr.icmp_ge (pc := 26) (tgt := 63) d_X12_runs_26 rfl (fun _ => ?_) (fun hc => absurd (by decide) hc)
    refine Tr.iconst (pc := 63) d_X12_runs_63 (by decide) ?_
    refine Tr.istore_n (pc := 64) (i := 3) (ls2 := [(3, (0, 0)), (0, (2, 120)), (1, (1, (-1)))]) d_X12_runs_64 rfl (by decide) rfl ?_
    refine Tr.iload_n (pc := 65) (i := 3) d_X12_runs_65 rfl rfl ?_
    refine Tr.bipush (pc := 66) d_X12_runs_66 rfl (by decide) ?_
    refine Tr.icmp_ge (pc := 68) (tgt := 84) d_X12_runs_68 rfl (fun hc => absurd hc (by decide)) (fun _ => ?_)
    refine Tr.aload_n (pc := 71) (i := 0) d_X12_runs_71 rfl rfl ?_
    refine Tr.getf (pc := 72) d_X12_runs_72 f_12_189 (by decide) (by decide) (ty_120 hF) ?_
    refine Tr.tp 160 (fx_120_58 hF) ?_
    refine Tr.iload_n (pc := 75) (i := 3) d_X12_runs_75 rfl rfl ?_
    refine Tr.iconst (pc := 76) d_X12_runs_76 (by decide) ?_
    refine Tr.iastX (pc := 77) d_X12_runs_77 (ty_160 hF) (by decide) (by decide) hF (by decide +kernel) (fun hF => ?_)
    refine Tr.iinc (pc := 78) (ls2 := [(3, (0, 1)), (0, (2, 120)), (1, (1, (-1)))]) d_X12_runs_78 rfl (by decide) rfl ?_
    refine Tr.goto (pc := 81) (tgt := 65) d_X12_runs_81 rfl ?_
    refine Tr.iload_n (pc := 65) (i := 3) d_X12_runs_65 rfl rfl ?_
    refine Tr.bipush (pc := 66) d_X12_runs_66 rfl (by decide) ?_
    refine Tr.icmp_ge (pc := 68) (tgt := 84) d_X12_runs_68 rfl (fun hc => absurd hc (by decide)) (fun _ => ?_)
    refine Tr.aload_n (pc := 71) (i := 0) d_X12_runs_71 rfl rfl ?_
    refine Tr.getf (pc := 72) d_X12_runs_72 f_12_189 (by decide) (by decide) (ty_120 hF) ?_
    refine Tr.tp 160 (fx_120_58 hF) ?_
    refine Tr.iload_n (pc := 75) (i := 3) d_X12_runs_75 rfl rfl ?_
    refine Tr.iconst (pc := 76) d_X12_runs_76 (by decide) ?_
    refine Tr.iastX (pc := 77) d_X12_runs_77 (ty_160 hF) (by decide) (by decide) hF (by decide +kernel) (fun hF => ?_)
    refine Tr.iinc (pc := 78) (ls2 := [(3, (0, 2)), (0, (2, 120)), (1, (1, (-1)))]) d_X12_runs_78 rfl (by decide) rfl ?_
    refine Tr.goto (pc := 81) (tgt := 65) d_X12_runs_81 rfl ?_
    refine Tr.iload_n (pc := 65) (i := 3) d_X12_runs_65 rfl rfl ?_
    refine Tr.bipush (pc := 66) d_X12_runs_66 rfl (by decide) ?_
    refine Tr.icmp_ge (pc := 68) (tgt := 84) d_X12_runs_68 rfl (fun hc => absurd hc (by decide)) (fun _ => ?_)
    refine Tr.aload_n (pc := 71) (i := 0) d_X12_runs_71 rfl rfl ?_
    refine Tr.getf (pc := 72) d_X12_runs_72 f_12_189 (by decide) (by decide) (ty_120 hF) ?_
    refine Tr.tp 160 (fx_120_58 hF) ?_
    refine Tr.iload_n (pc := 75) (i := 3) d_X12_runs_75 rfl rfl ?_
    refine Tr.iconst (pc := 76) d_X12_runs_76 (by decide) ?_
    refine Tr.iastX (pc := 77) d_X12_runs_77 (ty_160 hF) (by decide) (by decide) hF (by decide +kernel) (fun hF => ?_)
    refine Tr.iinc (pc := 78) (ls2 := [(3, (0, 3)), (0, (2, 120)), (1, (1, (-1)))]) d_X12_runs_78 rfl (by decide) rfl ?_
    refine Tr.goto (pc := 81) (tgt := 65) d_X12_runs_81 rfl ?_
    refine Tr.iload_n (pc := 65) (i := 3) d_X12_runs_65 rfl rfl ?_
    refine Tr.bipush (pc := 66) d_X12_runs_66 rfl (by decide) ?_
    refine Tr.icmp_ge (pc := 68) (tgt := 84) d_X12_runs_68 rfl (fun hc => absurd hc (by decide)) (fun _ => ?_)
    refine Tr.aload_n (pc := 71) (i := 0) d_X12_runs_71 rfl rfl ?_
    refine Tr.getf (pc := 72) d_X12_runs_72 f_12_189 (by decide) (by decide) (ty_120 hF) ?_
    refine Tr.tp 160 (fx_120_58 hF) ?_
    refine Tr.iload_n (pc := 75) (i := 3) d_X12_runs_75 rfl rfl ?_
    refine Tr.iconst (pc := 76) d_X12_runs_76 (by decide) ?_
    refine Tr.iastX (pc := 77) d_X12_runs_77 (ty_160 hF) (by decide) (by decide) hF (by decide +kernel) (fun hF => ?_)
    refine Tr.iinc (pc := 78) (ls2 := [(3, (0, 4)), (0, (2, 120)), (1, (1, (-1)))]) d_X12_runs_78 rfl (by decide) rfl ?_
    refine Tr.goto (pc := 81) (tgt := 65) d_X12_runs_81 rfl ?_
    refine Tr.iload_n (pc := 65) (i := 3) d_X12_runs_65 rfl rfl ?_
    refine Tr.bipush (pc := 66) d_X12_runs_66 rfl (by decide) ?_
    refine Tr.icmp_ge (pc := 68) (tgt := 84) d_X12_runs_68 rfl (fun hc => absurd hc (by decide)) (fun _ => ?_)
    refine Tr.aload_n (pc := 71) (i := 0) d_X12_runs_71 rfl rfl ?_
    refine Tr.getf (pc := 72) d_X12_runs_72 f_12_189 (by decide) (by decide) (ty_120 hF) ?_
    refine Tr.tp 160 (fx_120_58 hF) ?_
    refine Tr.iload_n (pc := 75) (i := 3) d_X12_runs_75 rfl rfl ?_
    refine Tr.iconst (pc := 76) d_X12_runs_76 (by decide) ?_
    refine Tr.iastX (pc := 77) d_X12_runs_77 (ty_160 hF) (by decide) (by decide) hF (by decide +kernel) (fun hF => ?_)
    refine Tr.iinc (pc := 78) (ls2 := [(3, (0, 5)), (0, (2, 120)), (1, (1, (-1)))]) d_X12_runs_78 rfl (by decide) rfl ?_
    refine Tr.goto (pc := 81) (tgt := 65) d_X12_runs_81 rfl ?_
    refine Tr.iload_n (pc := 65) (i := 3) d_X12_runs_65 rfl rfl ?_
    refine Tr.bipush (pc := 66) d_X12_runs_66 rfl (by decide) ?_
    refine Tr.icmp_ge (pc := 68) (tgt := 84) d_X12_runs_68 rfl (fun hc => absurd hc (by decide)) (fun _ => ?_)
    refine Tr.aload_n (pc := 71) (i := 0) d_X12_runs_71 rfl rfl ?_
    refine Tr.getf (pc := 72) d_X12_runs_72 f_12_189 (by decide) (by decide) (ty_120 hF) ?_
    refine Tr.tp 160 (fx_120_58 hF) ?_
    refine Tr.iload_n (pc := 75) (i := 3) d_X12_runs_75 rfl rfl ?_
    refine Tr.iconst (pc := 76) d_X12_runs_76 (by decide) ?_
    refine Tr.iastX (pc := 77) d_X12_runs_77 (ty_160 hF) (by decide) (by decide) hF (by decide +kernel) (fun hF => ?_)
    refine Tr.iinc (pc := 78) (ls2 := [(3, (0, 6)), (0, (2, 120)), (1, (1, (-1)))]) d_X12_runs_78 rfl (by decide) rfl ?_
    refine Tr.goto (pc := 81) (tgt := 65) d_X12_runs_81 rfl ?_
    refine Tr.iload_n (pc := 65) (i := 3) d_X12_runs_65 rfl rfl ?_
    refine Tr.bipush (pc := 66) d_X12_runs_66 rfl (by decide) ?_
    refine Tr.icmp_ge (pc := 68) (tgt := 84) d_X12_runs_68 rfl (fun hc => absurd hc (by decide)) (fun _ => ?_)
    refine Tr.aload_n (pc := 71) (i := 0) d_X12_runs_71 rfl rfl ?_
    refine Tr.getf (pc := 72) d_X12_runs_72 f_12_189 (by decide) (by decide) (ty_120 hF) ?_
    refine Tr.tp 160 (fx_120_58 hF) ?_
    refine Tr.iload_n (pc := 75) (i := 3) d_X12_runs_75 rfl rfl ?_
    refine Tr.iconst (pc := 76) d_X12_runs_76 (by decide) ?_
    refine Tr.iastX (pc := 77) d_X12_runs_77 (ty_160 hF) (by decide) (by decide) hF (by decide +kernel) (fun hF => ?_)
    refine Tr.iinc (pc := 78) (ls2 := [(3, (0, 7)), (0, (2, 120)), (1, (1, (-1)))]) d_X12_runs_78 rfl (by decide) rfl ?_
    refine Tr.goto (pc := 81) (tgt := 65) d_X12_runs_81 rfl ?_
    refine Tr.iload_n (pc := 65) (i := 3) d_X12_runs_65 rfl rfl ?_
    refine Tr.bipush (pc := 66) d_X12_runs_66 rfl (by decide) ?_
    refine Tr.icmp_ge (pc := 68) (tgt := 84) d_X12_runs_68 rfl (fun hc => absurd hc (by decide)) (fun _ => ?_)
    refine Tr.aload_n (pc := 71) (i := 0) d_X12_runs_71 rfl rfl ?_
    refine Tr.getf (pc := 72) d_X12_runs_72 f_12_189 (by decide) (by decide) (ty_120 hF) ?_
    refine Tr.tp 160 (fx_120_58 hF) ?_
    refine Tr.iload_n (pc := 75) (i := 3) d_X12_runs_75 rfl rfl ?_
    refine Tr.iconst (pc := 76) d_X12_runs_76 (by decide) ?_
    refine Tr.iastX (pc := 77) d_X12_runs_77 (ty_160 hF) (by decide) (by decide) hF (by decide +kernel) (fun hF => ?_)
    refine Tr.iinc (pc := 78) (ls2 := [(3, (0, 8)), (0, (2, 120)), (1, (1, (-1)))]) d_X12_runs_78 rfl (by decide) rfl ?_
    refine Tr.goto (pc := 81) (tgt := 65) d_X12_runs_81 rfl ?_
    refine Tr.iload_n (pc := 65) (i := 3) d_X12_runs_65 rfl rfl ?_
    refine Tr.bipush (pc := 66) d_X12_runs_66 rfl (by decide) ?_
    refine Tr.icmp_ge (pc := 68) (tgt := 84) d_X12_runs_68 rfl (fun _ => ?_) (fun hc => absurd (by decide) hc)
    refine Tr.iconst (pc := 84) d_X12_runs_84 (by decide) ?_
    refine Tr.istore_n (pc := 85) (i := 3) (ls2 := [(3, (0, 0)), (0, (2, 120)), (1, (1, (-1)))]) d_X12_runs_85 rfl (by decide) rfl ?_
    refine Tr.iload_n (pc := 86) (i := 3) d_X12_runs_86 rfl rfl ?_
    refine Tr.bipush (pc := 87) d_X12_runs_87 rfl (by decide) ?_
    refine Tr.icmp_ge (pc := 89) (tgt := 105) d_X12_runs_89 rfl (fun hc => absurd hc (by decide)) (fun _ => ?_)
    refine Tr.aload_n (pc := 92) (i := 0) d_X12_runs_92 rfl rfl ?_
    refine Tr.getf (pc := 93) d_X12_runs_93 f_12_222 (by decide) (by decide) (ty_120 hF) ?_
    refine Tr.tp 161 (fx_120_69 hF) ?_
    refine Tr.iload_n (pc := 96) (i := 3) d_X12_runs_96 rfl rfl ?_
    refine Tr.iconst (pc := 97) d_X12_runs_97 (by decide) ?_
    refine Tr.iastX (pc := 98) d_X12_runs_98 (ty_161 hF) (by decide) (by decide) hF (by decide +kernel) (fun hF => ?_)
    refine Tr.iinc (pc := 99) (ls2 := [(3, (0, 1)), (0, (2, 120)), (1, (1, (-1)))]) d_X12_runs_99 rfl (by decide) rfl ?_
    refine Tr.goto (pc := 102) (tgt := 86) d_X12_runs_102 rfl ?_
    refine Tr.iload_n (pc := 86) (i := 3) d_X12_runs_86 rfl rfl ?_
    refine Tr.bipush (pc := 87) d_X12_runs_87 rfl (by decide) ?_
    refine Tr.icmp_ge (pc := 89) (tgt := 105) d_X12_runs_89 rfl (fun hc => absurd hc (by decide)) (fun _ => ?_)
    refine Tr.aload_n (pc := 92) (i := 0) d_X12_runs_92 rfl rfl ?_
    refine Tr.getf (pc := 93) d_X12_runs_93 f_12_222 (by decide) (by decide) (ty_120 hF) ?_
    refine Tr.tp 161 (fx_120_69 hF) ?_
    refine Tr.iload_n (pc := 96) (i := 3) d_X12_runs_96 rfl rfl ?_
    refine Tr.iconst (pc := 97) d_X12_runs_97 (by decide) ?_
    refine Tr.iastX (pc := 98) d_X12_runs_98 (ty_161 hF) (by decide) (by decide) hF (by decide +kernel) (fun hF => ?_)
    refine Tr.iinc (pc := 99) (ls2 := [(3, (0, 2)), (0, (2, 120)), (1, (1, (-1)))]) d_X12_runs_99 rfl (by decide) rfl ?_
    refine Tr.goto (pc := 102) (tgt := 86) d_X12_runs_102 rfl ?_
    refine Tr.iload_n (pc := 86) (i := 3) d_X12_runs_86 rfl rfl ?_
    refine Tr.bipush (pc := 87) d_X12_runs_87 rfl (by decide) ?_
    refine Tr.icmp_ge (pc := 89) (tgt := 105) d_X12_runs_89 rfl (fun hc => absurd hc (by decide)) (fun _ => ?_)
    refine Tr.aload_n (pc := 92) (i := 0) d_X12_runs_92 rfl rfl ?_
    refine Tr.getf (pc := 93) d_X12_runs_93 f_12_222 (by decide) (by decide) (ty_120 hF) ?_
    refine Tr.tp 161 (fx_120_69 hF) ?_
    refine Tr.iload_n (pc := 96) (i := 3) d_X12_runs_96 rfl rfl ?_
    refine Tr.iconst (pc := 97) d_X12_runs_97 (by decide) ?_
    refine Tr.iastX (pc := 98) d_X12_runs_98 (ty_161 hF) (by decide) (by decide) hF (by decide +kernel) (fun hF => ?_)
    refine Tr.iinc (pc := 99) (ls2 := [(3, (0, 3)), (0, (2, 120)), (1, (1, (-1)))]) d_X12_runs_99 rfl (by decide) rfl ?_
    refine Tr.goto (pc := 102) (tgt := 86) d_X12_runs_102 rfl ?_
    refine Tr.iload_n (pc := 86) (i := 3) d_X12_runs_86 rfl rfl ?_
    refine Tr.bipush (pc := 87) d_X12_runs_87 rfl (by decide) ?_
    refine Tr.icmp_ge (pc := 89) (tgt := 105) d_X12_runs_89 rfl (fun hc => absurd hc (by decide)) (fun _ => ?_)
    refine Tr.aload_n (pc := 92) (i := 0) d_X12_runs_92 rfl rfl ?_
    refine Tr.getf (pc := 93) d_X12_runs_93 f_12_222 (by decide) (by decide) (ty_120 hF) ?_
    refine Tr.tp 161 (fx_120_69 hF) ?_
    refine Tr.iload_n (pc := 96) (i := 3) d_X12_runs_96 rfl rfl ?_
    refine Tr.iconst (pc := 97) d_X12_runs_97 (by decide) ?_
    refine Tr.iastX (pc := 98) d_X12_runs_98 (ty_161 hF) (by decide) (by decide) hF (by decide +kernel) (fun hF => ?_)
    refine Tr.iinc (pc := 99) (ls2 := [(3, (0, 4)), (0, (2, 120)), (1, (1, (-1)))]) d_X12_runs_99 rfl (by decide) rfl ?_
    refine Tr.goto (pc := 102) (tgt := 86) d_X12_runs_102 rfl ?_
    refine Tr.iload_n (pc := 86) (i := 3) d_X12_runs_86 rfl rfl ?_
    refine Tr.bipush (pc := 87) d_X12_runs_87 rfl (by decide) ?_
    refine Tr.icmp_ge (pc := 89) (tgt := 105) d_X12_runs_89 rfl (fun hc => absurd hc (by decide)) (fun _ => ?_)
    refine Tr.aload_n (pc := 92) (i := 0) d_X12_runs_92 rfl rfl ?_
    refine Tr.getf (pc := 93) d_X12_runs_93 f_12_222 (by decide) (by decide) (ty_120 hF) ?_
    refine Tr.tp 161 (fx_120_69 hF) ?_
    refine Tr.iload_n (pc := 96) (i := 3) d_X12_runs_96 rfl rfl ?_
    refine Tr.iconst (pc := 97) d_X12_runs_97 (by decide) ?_
    refine Tr.iastX (pc := 98) d_X12_runs_98 (ty_161 hF) (by decide) (by decide) hF (by decide +kernel) (fun hF => ?_)
    refine Tr.iinc (pc := 99) (ls2 := [(3, (0, 5)), (0, (2, 120)), (1, (1, (-1)))]) d_X12_runs_99 rfl (by decide) rfl ?_
    refine Tr.goto (pc := 102) (tgt := 86) d_X12_runs_102 rfl ?_
    refine Tr.iload_n (pc := 86) (i := 3) d_X12_runs_86 rfl rfl ?_
    refine Tr.bipush (pc := 87) d_X12_runs_87 rfl (by decide) ?_
    refine Tr.icmp_ge (pc := 89) (tgt := 105) d_X12_runs_89 rfl (fun hc => absurd hc (by decide)) (fun _ => ?_)
    refine Tr.aload_n (pc := 92) (i := 0) d_X12_runs_92 rfl rfl ?_
    refine Tr.getf (pc := 93) d_X12_runs_93 f_12_222 (by decide) (by decide) (ty_120 hF) ?_
    refine Tr.tp 161 (fx_120_69 hF) ?_
    refine Tr.iload_n (pc := 96) (i := 3) d_X12_runs_96 rfl rfl ?_
    refine Tr.iconst (pc := 97) d_X12_runs_97 (by decide) ?_
    refine Tr.iastX (pc := 98) d_X12_runs_98 (ty_161 hF) (by decide) (by decide) hF (by decide +kernel) (fun hF => ?_)
    refine Tr.iinc (pc := 99) (ls2 := [(3, (0, 6)), (0, (2, 120)), (1, (1, (-1)))]) d_X12_runs_99 rfl (by decide) rfl ?_
    refine Tr.goto (pc := 102) (tgt := 86) d_X12_runs_102 rfl ?_
    refine Tr.iload_n (pc := 86) (i := 3) d_X12_runs_86 rfl rfl ?_
    refine Tr.bipush (pc := 87) d_X12_runs_87 rfl (by decide) ?_
    refine Tr.icmp_ge (pc := 89) (tgt := 105) d_X12_runs_89 rfl (fun hc => absurd hc (by decide)) (fun _ => ?_)
    refine Tr.aload_n (pc := 92) (i := 0) d_X12_runs_92 rfl rfl ?_
    refine Tr.getf (pc := 93) d_X12_runs_93 f_12_222 (by decide) (by decide) (ty_120 hF) ?_
    refine Tr.tp 161 (fx_120_69 hF) ?_
    refine Tr.iload_n (pc := 96) (i := 3) d_X12_runs_96 rfl rfl ?_
    refine Tr.iconst (pc := 97) d_X12_runs_97 (by decide) ?_
    refine Tr.iastX (pc := 98) d_X12_runs_98 (ty_161 hF) (by decide) (by decide) hF (by decide +kernel) (fun hF => ?_)
    refine Tr.iinc (pc := 99) (ls2 := [(3, (0, 7)), (0, (2, 120)), (1, (1, (-1)))]) d_X12_runs_99 rfl (by decide) rfl ?_
    refine Tr.goto (pc := 102) (tgt := 86) d_X12_runs_102 rfl ?_
    refine Tr.iload_n (pc := 86) (i := 3) d_X12_runs_86 rfl rfl ?_
    refine Tr.bipush (pc := 87) d_X12_runs_87 rfl (by decide) ?_
    refine Tr.icmp_ge (pc := 89) (tgt := 105) d_X12_runs_89 rfl (fun hc => absurd hc (by decide)) (fun _ => ?_)
    refine Tr.aload_n (pc := 92) (i := 0) d_X12_runs_92 rfl rfl ?_
    refine Tr.getf (pc := 93) d_X12_runs_93 f_12_222 (by decide) (by decide) (ty_120 hF) ?_
    refine Tr.tp 161 (fx_120_69 hF) ?_
    refine Tr.iload_n (pc := 96) (i := 3) d_X12_runs_96 rfl rfl ?_
    refine Tr.iconst (pc := 97) d_X12_runs_97 (by decide) ?_
    refine Tr.iastX (pc := 98) d_X12_runs_98 (ty_161 hF) (by decide) (by decide) hF (by decide +kernel) (fun hF => ?_)
    refine Tr.iinc (pc := 99) (ls2 := [(3, (0, 8)), (0, (2, 120)), (1, (1, (-1)))]) d_X12_runs_99 rfl (by decide) rfl ?_
    refine Tr.goto (pc := 102) (tgt := 86) d_X12_runs_102 rfl ?_
    refine Tr.iload_n (pc := 86) (i := 3) d_X12_runs_86 rfl rfl ?_
    refine Tr.bipush (pc := 87) d_X12_runs_87 rfl (by decide) ?_
    refine Tr.icmp_ge (pc := 89) (tgt := 105) d_X12_runs_89 rfl (fun hc => absurd hc (by decide)) (fun _ => ?_)
    refine Tr.aload_n (pc := 92) (i := 0) d_X12_runs_92 rfl rfl ?_
    refine Tr.getf (pc := 93) d_X12_runs_93 f_12_222 (by decide) (by decide) (ty_120 hF) ?_
    refine Tr.tp 161 (fx_120_69 hF) ?_
    refine Tr.iload_n (pc := 96) (i := 3) d_X12_runs_96 rfl rfl ?_
    refine Tr.iconst (pc := 97) d_X12_runs_97 (by decide) ?_
    refine Tr.iastX (pc := 98) d_X12_runs_98 (ty_161 hF) (by decide) (by decide) hF (by decide +kernel) (fun hF => ?_)
    refine Tr.iinc (pc := 99) (ls2 := [(3, (0, 9)), (0, (2, 120)), (1, (1, (-1)))]) d_X12_runs_99 rfl (by decide) rfl ?_
    refine Tr.goto (pc := 102) (tgt := 86) d_X12_runs_102 rfl ?_
    refine Tr.iload_n (pc := 86) (i := 3) d_X12_runs_86 rfl rfl ?_
    refine Tr.bipush (pc := 87) d_X12_runs_87 rfl (by decide) ?_
    refine Tr.icmp_ge (pc := 89) (tgt := 105) d_X12_runs_89 rfl (fun hc => absurd hc (by decide)) (fun _ => ?_)
    refine Tr.aload_n (pc := 92) (i := 0) d_X12_runs_92 rfl rfl ?_
    refine Tr.getf (pc := 93) d_X12_runs_93 f_12_222 (by decide) (by decide) (ty_120 hF) ?_
    refine Tr.tp 161 (fx_120_69 hF) ?_
    refine Tr.iload_n (pc := 96) (i := 3) d_X12_runs_96 rfl rfl ?_
    refine Tr.iconst (pc := 97) d_X12_runs_97 (by decide) ?_
    refine Tr.iastX (pc := 98) d_X12_runs_98 (ty_161 hF) (by decide) (by decide) hF (by decide +kernel) (fun hF => ?_)
    refine Tr.iinc (pc := 99) (ls2 := [(3, (0, 10)), (0, (2, 120)), (1, (1, (-1)))]) d_X12_runs_99 rfl (by decide) rfl ?_
    refine Tr.goto (pc := 102) (tgt := 86) d_X12_runs_102 rfl ?_
    refine Tr.iload_n (pc := 86) (i := 3) d_X12_runs_86 rfl rfl ?_
    refine Tr.bipush (pc := 87) d_X12_runs_87 rfl (by decide) ?_
    refine Tr.icmp_ge (pc := 89) (tgt := 105) d_X12_runs_89 rfl (fun hc => absurd hc (by decide)) (fun _ => ?_)
    refine Tr.aload_n (pc := 92) (i := 0) d_X12_runs_92 rfl rfl ?_
    refine Tr.getf (pc := 93) d_X12_runs_93 f_12_222 (by decide) (by decide) (ty_120 hF) ?_
    refine Tr.tp 161 (fx_120_69 hF) ?_
    refine Tr.iload_n (pc := 96) (i := 3) d_X12_runs_96 rfl rfl ?_
    refine Tr.iconst (pc := 97) d_X12_runs_97 (by decide) ?_
    refine Tr.iastX (pc := 98) d_X12_runs_98 (ty_161 hF) (by decide) (by decide) hF (by decide +kernel) (fun hF => ?_)
    refine Tr.iinc (pc := 99) (ls2 := [(3, (0, 11)), (0, (2, 120)), (1, (1, (-1)))]) d_X12_runs_99 rfl (by decide) rfl ?_
    refine Tr.goto (pc := 102) (tgt := 86) d_X12_runs_102 rfl ?_
    refine Tr.iload_n (pc := 86) (i := 3) d_X12_runs_86 rfl rfl ?_
    refine Tr.bipush (pc := 87) d_X12_runs_87 rfl (by decide) ?_
    refine Tr.icmp_ge (pc := 89) (tgt := 105) d_X12_runs_89 rfl (fun hc => absurd hc (by decide)) (fun _ => ?_)
    refine Tr.aload_n (pc := 92) (i := 0) d_X12_runs_92 rfl rfl ?_
    refine Tr.getf (pc := 93) d_X12_runs_93 f_12_222 (by decide) (by decide) (ty_120 hF) ?_
    refine Tr.tp 161 (fx_120_69 hF) ?_
    refine Tr.iload_n (pc := 96) (i := 3) d_X12_runs_96 rfl rfl ?_
    refine Tr.iconst (pc := 97) d_X12_runs_97 (by decide) ?_
    refine Tr.iastX (pc := 98) d_X12_runs_98 (ty_161 hF) (by decide) (by decide) hF (by decide +kernel) (fun hF => ?_)
    refine Tr.iinc (pc := 99) (ls2 := [(3, (0, 12)), (0, (2, 120)), (1, (1, (-1)))]) d_X12_runs_99 rfl (by decide) rfl ?_
    refine Tr.goto (pc := 102) (tgt := 86) d_X12_runs_102 rfl ?_
    refine Tr.iload_n (pc := 86) (i := 3) d_X12_runs_86 rfl rfl ?_
    refine Tr.bipush (pc := 87) d_X12_runs_87 rfl (by decide) ?_
    refine Tr.icmp_ge (pc := 89) (tgt := 105) d_X12_runs_89 rfl (fun hc => absurd hc (by decide)) (fun _ => ?_)
    refine Tr.aload_n (pc := 92) (i := 0) d_X12_runs_92 rfl rfl ?_
    refine Tr.getf (pc := 93) d_X12_runs_93 f_12_222 (by decide) (by decide) (ty_120 hF) ?_
    refine Tr.tp 161 (fx_120_69 hF) ?_
    refine Tr.iload_n (pc := 96) (i := 3) d_X12_runs_96 rfl rfl ?_
    refine Tr.iconst (pc := 97) d_X12_runs_97 (by decide) ?_
    refine Tr.iastX (pc := 98) d_X12_runs_98 (ty_161 hF) (by decide) (by decide) hF (by decide +kernel) (fun hF => ?_)
    refine Tr.iinc (pc := 99) (ls2 := [(3, (0, 13)), (0, (2, 120)), (1, (1, (-1)))]) d_X12_runs_99 rfl (by decide) rfl ?_
    refine Tr.goto (pc := 102) (tgt := 86) d_X12_runs_102 rfl ?_
    refine Tr.iload_n (pc := 86) (i := 3) d_X12_runs_86 rfl rfl ?_
    refine Tr.bipush (pc := 87) d_X12_runs_87 rfl (by decide) ?_
    refine Tr.icmp_ge (pc := 89) (tgt := 105) d_X12_runs_89 rfl (fun hc => absurd hc (by decide)) (fun _ => ?_)
    refine Tr.aload_n (pc := 92) (i := 0) d_X12_runs_92 rfl rfl ?_
    refine Tr.getf (pc := 93) d_X12_runs_93 f_12_222 (by decide) (by decide) (ty_120 hF) ?_
    refine Tr.tp 161 (fx_120_69 hF) ?_
    refine Tr.iload_n (pc := 96) (i := 3) d_X12_runs_96 rfl rfl ?_
    refine Tr.iconst (pc := 97) d_X12_runs_97 (by decide) ?_
    refine Tr.iastX (pc := 98) d_X12_runs_98 (ty_161 hF) (by decide) (by decide) hF (by decide +kernel) (fun hF => ?_)
    refine Tr.iinc (pc := 99) (ls2 := [(3, (0, 14)), (0, (2, 120)), (1, (1, (-1)))]) d_X12_runs_99 rfl (by decide) rfl ?_
    refine Tr.goto (pc := 102) (tgt := 86) d_X12_runs_102 rfl ?_
    refine Tr.iload_n (pc := 86) (i := 3) d_X12_runs_86 rfl rfl ?_
    refine Tr.bipush (pc := 87) d_X12_runs_87 rfl (by decide) ?_
    refine Tr.icmp_ge (pc := 89) (tgt := 105) d_X12_runs_89 rfl (fun hc => absurd hc (by decide)) (fun _ => ?_)
    refine Tr.aload_n (pc := 92) (i := 0) d_X12_runs_92 rfl rfl ?_
    refine Tr.getf (pc := 93) d_X12_runs_93 f_12_222 (by decide) (by decide) (ty_120 hF) ?_
    refine Tr.tp 161 (fx_120_69 hF) ?_
    refine Tr.iload_n (pc := 96) (i := 3) d_X12_runs_96 rfl rfl ?_
    refine Tr.iconst (pc := 97) d_X12_runs_97 (by decide) ?_
    refine Tr.iastX (pc := 98) d_X12_runs_98 (ty_161 hF) (by decide) (by decide) hF (by decide +kernel) (fun hF => ?_)
    refine Tr.iinc (pc := 99) (ls2 := [(3, (0, 15)), (0, (2, 120)), (1, (1, (-1)))]) d_X12_runs_99 rfl (by decide) rfl ?_
    refine Tr.goto (pc := 102) (tgt := 86) d_X12_runs_102 rfl ?_
    refine Tr.iload_n (pc := 86) (i := 3) d_X12_runs_86 rfl rfl ?_
    refine Tr.bipush (pc := 87) d_X12_runs_87 rfl (by decide) ?_
    refine Tr.icmp_ge (pc := 89) (tgt := 105) d_X12_runs_89 rfl (fun hc => absurd hc (by decide)) (fun _ => ?_)
    refine Tr.aload_n (pc := 92) (i := 0) d_X12_runs_92 rfl rfl ?_
    refine Tr.getf (pc := 93) d_X12_runs_93 f_12_222 (by decide) (by decide) (ty_120 hF) ?_
    refine Tr.tp 161 (fx_120_69 hF) ?_
    refine Tr.iload_n (pc := 96) (i := 3) d_X12_runs_96 rfl rfl ?_
    refine Tr.iconst (pc := 97) d_X12_runs_97 (by decide) ?_
    refine Tr.iastX (pc := 98) d_X12_runs_98 (ty_161 hF) (by decide) (by decide) hF (by decide +kernel) (fun hF => ?_)
    refine Tr.iinc (pc := 99) (ls2 := [(3, (0, 16)), (0, (2, 120)), (1, (1, (-1)))]) d_X12_runs_99 rfl (by decide) rfl ?_
    refine Tr.goto (pc := 102) (tgt := 86) d_X12_runs_102 rfl ?_
    refine Tr.iload_n (pc := 86) (i := 3) d_X12_runs_86 rfl rfl ?_
    refine Tr.bipush (pc := 87) d_X12_runs_87 rfl (by decide) ?_
    refine Tr.icmp_ge (pc := 89) (tgt := 105) d_X12_runs_89 rfl (fun hc => absurd hc (by decide)) (fun _ => ?_)
    refine Tr.aload_n (pc := 92) (i := 0) d_X12_runs_92 rfl rfl ?_
    refine Tr.getf (pc := 93) d_X12_runs_93 f_12_222 (by decide) (by decide) (ty_120 hF) ?_
    refine Tr.tp 161 (fx_120_69 hF) ?_
    refine Tr.iload_n (pc := 96) (i := 3) d_X12_runs_96 rfl rfl ?_
    refine Tr.iconst (pc := 97) d_X12_runs_97 (by decide) ?_
    refine Tr.iastX (pc := 98) d_X12_runs_98 (ty_161 hF) (by decide) (by decide) hF (by decide +kernel) (fun hF => ?_)
    refine Tr.iinc (pc := 99) (ls2 := [(3, (0, 17)), (0, (2, 120)), (1, (1, (-1)))]) d_X12_runs_99 rfl (by decide) rfl ?_
    refine Tr.goto (pc := 102) (tgt := 86) d_X12_runs_102 rfl ?_
    refine Tr.iload_n (pc := 86) (i := 3) d_X12_runs_86 rfl rfl ?_
    refine Tr.bipush (pc := 87) d_X12_runs_87 rfl (by decide) ?_
    refine Tr.icmp_ge (pc := 89) (tgt := 105) d_X12_runs_89 rfl (fun hc => absurd hc (by decide)) (fun _ => ?_)
    refine Tr.aload_n (pc := 92) (i := 0) d_X12_runs_92 rfl rfl ?_
    refine Tr.getf (pc := 93) d_X12_runs_93 f_12_222 (by decide) (by decide) (ty_120 hF) ?_
    refine Tr.tp 161 (fx_120_69 hF) ?_
    refine Tr.iload_n (pc := 96) (i := 3) d_X12_runs_96 rfl rfl ?_
    refine Tr.iconst (pc := 97) d_X12_runs_97 (by decide) ?_
    refine Tr.iastX (pc := 98) d_X12_runs_98 (ty_161 hF) (by decide) (by decide) hF (by decide +kernel) (fun hF => ?_)
    refine Tr.iinc (pc := 99) (ls2 := [(3, (0, 18)), (0, (2, 120)), (1, (1, (-1)))]) d_X12_runs_99 rfl (by decide) rfl ?_
    refine Tr.goto (pc := 102) (tgt := 86) d_X12_runs_102 rfl ?_
    refine Tr.iload_n (pc := 86) (i := 3) d_X12_runs_86 rfl rfl ?_
    refine Tr.bipush (pc := 87) d_X12_runs_87 rfl (by decide) ?_
    refine Tr.icmp_ge (pc := 89) (tgt := 105) d_X12_runs_89 rfl (fun hc => absurd hc (by decide)) (fun _ => ?_)
    refine Tr.aload_n (pc := 92) (i := 0) d_X12_runs_92 rfl rfl ?_
    refine Tr.getf (pc := 93) d_X12_runs_93 f_12_222 (by decide) (by decide) (ty_120 hF) ?_
    refine Tr.tp 161 (fx_120_69 hF) ?_
    refine Tr.iload_n (pc := 96) (i := 3) d_X12_runs_96 rfl rfl ?_
    refine Tr.iconst (pc := 97) d_X12_runs_97 (by decide) ?_
    refine Tr.iastX (pc := 98) d_X12_runs_98 (ty_161 hF) (by decide) (by decide) hF (by decide +kernel) (fun hF => ?_)
    refine Tr.iinc (pc := 99) (ls2 := [(3, (0, 19)), (0, (2, 120)), (1, (1, (-1)))]) d_X12_runs_99 rfl (by decide) rfl ?_
    refine Tr.goto (pc := 102) (tgt := 86) d_X12_runs_102 rfl ?_
    refine Tr.iload_n (pc := 86) (i := 3) d_X12_runs_86 rfl rfl ?_
    refine Tr.bipush (pc := 87) d_X12_runs_87 rfl (by decide) ?_
    refine Tr.icmp_ge (pc := 89) (tgt := 105) d_X12_runs_89 rfl (fun hc => absurd hc (by decide)) (fun _ => ?_)
    refine Tr.aload_n (pc := 92) (i := 0) d_X12_runs_92 rfl rfl ?_
    refine Tr.getf (pc := 93) d_X12_runs_93 f_12_222 (by decide) (by decide) (ty_120 hF) ?_
    refine Tr.tp 161 (fx_120_69 hF) ?_
    refine Tr.iload_n (pc := 96) (i := 3) d_X12_runs_96 rfl rfl ?_
    refine Tr.iconst (pc := 97) d_X12_runs_97 (by decide) ?_
    refine Tr.iastX (pc := 98) d_X12_runs_98 (ty_161 hF) (by decide) (by decide) hF (by decide +kernel) (fun hF => ?_)
    refine Tr.iinc (pc := 99) (ls2 := [(3, (0, 20)), (0, (2, 120)), (1, (1, (-1)))]) d_X12_runs_99 rfl (by decide) rfl ?_
    refine Tr.goto (pc := 102) (tgt := 86) d_X12_runs_102 rfl ?_
    refine Tr.iload_n (pc := 86) (i := 3) d_X12_runs_86 rfl rfl ?_
    refine Tr.bipush (pc := 87) d_X12_runs_87 rfl (by decide) ?_
    refine Tr.icmp_ge (pc := 89) (tgt := 105) d_X12_runs_89 rfl (fun hc => absurd hc (by decide)) (fun _ => ?_)
    refine Tr.aload_n (pc := 92) (i := 0) d_X12_runs_92 rfl rfl ?_
    refine Tr.getf (pc := 93) d_X12_runs_93 f_12_222 (by decide) (by decide) (ty_120 hF) ?_
    refine Tr.tp 161 (fx_120_69 hF) ?_
    refine Tr.iload_n (pc := 96) (i := 3) d_X12_runs_96 rfl rfl ?_
    refine Tr.iconst (pc := 97) d_X12_runs_97 (by decide) ?_
    refine Tr.iastX (pc := 98) d_X12_runs_98 (ty_161 hF) (by decide) (by decide) hF (by decide +kernel) (fun hF => ?_)
    refine Tr.iinc (pc := 99) (ls2 := [(3, (0, 21)), (0, (2, 120)), (1, (1, (-1)))]) d_X12_runs_99 rfl (by decide) rfl ?_
    refine Tr.goto (pc := 102) (tgt := 86) d_X12_runs_102 rfl ?_
    refine Tr.iload_n (pc := 86) (i := 3) d_X12_runs_86 rfl rfl ?_
    refine Tr.bipush (pc := 87) d_X12_runs_87 rfl (by decide) ?_
    refine Tr.icmp_ge (pc := 89) (tgt := 105) d_X12_runs_89 rfl (fun hc => absurd hc (by decide)) (fun _ => ?_)
    refine Tr.aload_n (pc := 92) (i := 0) d_X12_runs_92 rfl rfl ?_
    refine Tr.getf (pc := 93) d_X12_runs_93 f_12_222 (by decide) (by decide) (ty_120 hF) ?_
    refine Tr.tp 161 (fx_120_69 hF) ?_
    refine Tr.iload_n (pc := 96) (i := 3) d_X12_runs_96 rfl rfl ?_
    refine Tr.iconst (pc := 97) d_X12_runs_97 (by decide) ?_
    refine Tr.iastX (pc := 98) d_X12_runs_98 (ty_161 hF) (by decide) (by decide) hF (by decide +kernel) (fun hF => ?_)
    refine Tr.iinc (pc := 99) (ls2 := [(3, (0, 22)), (0, (2, 120)), (1, (1, (-1)))]) d_X12_runs_99 rfl (by decide) rfl ?_
    refine Tr.goto (pc := 102) (tgt := 86) d_X12_runs_102 rfl ?_
    refine Tr.iload_n (pc := 86) (i := 3) d_X12_runs_86 rfl rfl ?_
    refine Tr.bipush (pc := 87) d_X12_runs_87 rfl (by decide) ?_
    refine Tr.icmp_ge (pc := 89) (tgt := 105) d_X12_runs_89 rfl (fun hc => absurd hc (by decide)) (fun _ => ?_)
    refine Tr.aload_n (pc := 92) (i := 0) d_X12_runs_92 rfl rfl ?_
    refine Tr.getf (pc := 93) d_X12_runs_93 f_12_222 (by decide) (by decide) (ty_120 hF) ?_
    refine Tr.tp 161 (fx_120_69 hF) ?_
    refine Tr.iload_n (pc := 96) (i := 3) d_X12_runs_96 rfl rfl ?_
    refine Tr.iconst (pc := 97) d_X12_runs_97 (by decide) ?_
    refine Tr.iastX (pc := 98) d_X12_runs_98 (ty_161 hF) (by decide) (by decide) hF (by decide +kernel) (fun hF => ?_)
    refine Tr.iinc (pc := 99) (ls2 := [(3, (0, 23)), (0, (2, 120)), (1, (1, (-1)))]) d_X12_runs_99 rfl (by decide) rfl ?_
    refine Tr.goto (pc := 102) (tgt := 86) d_X12_runs_102 rfl ?_
    refine Tr.iload_n (pc := 86) (i := 3) d_X12_runs_86 rfl rfl ?_
    refine Tr.bipush (pc := 87) d_X12_runs_87 rfl (by decide) ?_
    refine Tr.icmp_ge (pc := 89) (tgt := 105) d_X12_runs_89 rfl (fun hc => absurd hc (by decide)) (fun _ => ?_)
    refine Tr.aload_n (pc := 92) (i := 0) d_X12_runs_92 rfl rfl ?_
    refine Tr.getf (pc := 93) d_X12_runs_93 f_12_222 (by decide) (by decide) (ty_120 hF) ?_
    refine Tr.tp 161 (fx_120_69 hF) ?_
    refine Tr.iload_n (pc := 96) (i := 3) d_X12_runs_96 rfl rfl ?_
    refine Tr.iconst (pc := 97) d_X12_runs_97 (by decide) ?_
    refine Tr.iastX (pc := 98) d_X12_runs_98 (ty_161 hF) (by decide) (by decide) hF (by decide +kernel) (fun hF => ?_)
    refine Tr.iinc (pc := 99) (ls2 := [(3, (0, 24)), (0, (2, 120)), (1, (1, (-1)))]) d_X12_runs_99 rfl (by decide) rfl ?_
    refine Tr.goto (pc := 102) (tgt := 86) d_X12_runs_102 rfl ?_
    refine Tr.iload_n (pc := 86) (i := 3) d_X12_runs_86 rfl rfl ?_
    refine Tr.bipush (pc := 87) d_X12_runs_87 rfl (by decide) ?_
    refine Tr.icmp_ge (pc := 89) (tgt := 105) d_X12_runs_89 rfl (fun _ => ?_) (fun hc => absurd (by decide) hc)
    refine Tr.aload_n (pc := 105) (i := 0) d_X12_runs_105 rfl rfl ?_
    refine Tr.iconst (pc := 106) d_X12_runs_106 (by decide) ?_
    refine Tr.putfX (pc := 107) d_X12_runs_107 f_12_201 (by decide) (by decide) (ty_120 hF) hF (by decide +kernel) (fun hF => ?_)
    refine Tr.aload_n (pc := 110) (i := 0) d_X12_runs_110 rfl rfl ?_
    refine Tr.lconst (pc := 111) (v := 0) d_X12_runs_111 rfl (by decide) ?_
    refine Tr.putfX (pc := 112) d_X12_runs_112 f_12_204 (by decide) (by decide) (ty_120 hF) hF (by decide +kernel) (fun hF => ?_)
    refine Tr.aload_n (pc := 115) (i := 0) d_X12_runs_115 rfl rfl ?_
    refine Tr.lload_n (pc := 116) (i := 1) d_X12_runs_116 rfl rfl ?_
    refine Tr.putfX (pc := 117) d_X12_runs_117 f_12_207 (by decide) (by decide) (ty_120 hF) hF (by decide +kernel) (fun hF => ?_)
    refine Tr.aload_n (pc := 120) (i := 0) d_X12_runs_120 rfl rfl ?_
    refine Tr.iconst (pc := 121) d_X12_runs_121 (by decide) ?_
    refine Tr.putfX (pc := 122) d_X12_runs_122 f_12_210 (by decide) (by decide) (ty_120 hF) hF (by decide +kernel) (fun hF => ?_)
    refine Tr.aload_n (pc := 125) (i := 0) d_X12_runs_125 rfl rfl ?_
    refine Tr.iconst (pc := 126) d_X12_runs_126 (by decide) ?_
    refine Tr.putfX (pc := 127) d_X12_runs_127 f_12_213 (by decide) (by decide) (ty_120 hF) hF (by decide +kernel) (fun hF => ?_)
    refine Tr.aload_n (pc := 130) (i := 0) d_X12_runs_130 rfl rfl ?_
    refine Tr.iconst (pc := 131) d_X12_runs_131 (by decide) ?_
    refine Tr.putfX (pc := 132) d_X12_runs_132 f_12_216 (by decide) (by decide) (ty_120 hF) hF (by decide +kernel) (fun hF => ?_)
    refine Tr.aload_n (pc := 135) (i := 0) d_X12_runs_135 rfl rfl ?_
    refine Tr.iconst (pc := 136) d_X12_runs_136 (by decide) ?_
    refine Tr.putfX (pc := 137) d_X12_runs_137 f_12_219 (by decide) (by decide) (ty_120 hF) hF (by decide +kernel) (fun hF => ?_)
    refine Tr.aload_n (pc := 140) (i := 0) d_X12_runs_140 rfl rfl ?_
    refine Tr.iconst (pc := 141) d_X12_runs_141 (by decide) ?_
    refine Tr.putfX (pc := 142) d_X12_runs_142 f_12_267 (by decide) (by decide) (ty_120 hF) hF (by decide +kernel) (fun hF => ?_)
    refine Tr.aload_n (pc := 145) (i := 0) d_X12_runs_145 rfl rfl ?_
    refine Tr.iconst (pc := 146) d_X12_runs_146 (by decide) ?_
    refine Tr.putfX (pc := 147) d_X12_runs_147 f_12_195 (by decide) (by decide) (ty_120 hF) hF (by decide +kernel) (fun hF => ?_)
    refine Tr.aload_n (pc := 150) (i := 0) d_X12_runs_150 rfl rfl ?_
    refine Tr.iconst (pc := 151) d_X12_runs_151 (by decide) ?_
    refine Tr.putfX (pc := 152) d_X12_runs_152 f_12_240 (by decide) (by decide) (ty_120 hF) hF (by decide +kernel) (fun hF => ?_)
    refine Tr.aload_n (pc := 155) (i := 0) d_X12_runs_155 rfl rfl ?_
    refine Tr.iconst (pc := 156) d_X12_runs_156 (by decide) ?_
    refine Tr.putfX (pc := 157) d_X12_runs_157 f_12_252 (by decide) (by decide) (ty_120 hF) hF (by decide +kernel) (fun hF => ?_)
    refine Tr.iconst (pc := 160) d_X12_runs_160 (by decide) ?_
    refine Tr.istore_n (pc := 161) (i := 3) (ls2 := [(3, (0, 0)), (0, (2, 120)), (1, (1, (-1)))]) d_X12_runs_161 rfl (by decide) rfl ?_
    refine Tr.iload_n (pc := 162) (i := 3) d_X12_runs_162 rfl rfl ?_
    refine Tr.aload_n (pc := 163) (i := 0) d_X12_runs_163 rfl rfl ?_
    refine Tr.getf (pc := 164) d_X12_runs_164 f_12_94 (by decide) (by decide) (ty_120 hF) ?_
    refine Tr.tp 136 (fx_120_27 hF) ?_
    refine Tr.aload_n (pc := 167) (i := 0) d_X12_runs_167 rfl rfl ?_
    refine Tr.getf (pc := 168) d_X12_runs_168 f_12_48 (by decide) (by decide) (ty_120 hF) ?_
    refine Tr.tp 0 ((rd_wb _ rfl).trans ((rd_wb _ rfl).trans ((rd_wb _ rfl).trans ((rd_wb _ rfl).trans ((rd_wb _ rfl).trans ((rd_wb _ rfl).trans ((rd_wb _ rfl).trans ((rd_wb _ rfl).trans ((rd_wb _ rfl).trans ((rd_wb _ rfl).trans ((rd_wb _ rfl).trans ((rd_wb _ rfl).trans ((rd_wb _ rfl).trans ((rd_wb _ rfl).trans ((rd_wb _ rfl).trans ((rd_wb _ rfl).trans ((rd_wb _ rfl).trans ((rd_wb _ rfl).trans ((rd_wb _ rfl).trans ((rd_wb _ rfl).trans ((rd_wb _ rfl).trans ((rd_wb _ rfl).trans ((rd_wb _ rfl).trans ((rd_wb _ rfl).trans ((rd_wb _ rfl).trans ((rd_wb _ rfl).trans ((rd_wb _ rfl).trans ((rd_wb _ rfl).trans ((rd_wb _ rfl).trans ((rd_wb _ rfl).trans ((rd_wb _ rfl).trans ((rd_wb _ rfl).trans ((rd_wb _ rfl).trans ((rd_wb _ rfl).trans ((rd_wb _ rfl).trans ((rd_wb _ rfl).trans ((rd_wb _ rfl).trans ((rd_wb _ rfl).trans ((rd_wb _ rfl).trans ((rd_wb _ rfl).trans ((rd_wb _ rfl).trans ((rd_wb _ rfl).trans ((rd_wb _ rfl).trans ((rd_wb _ rfl).trans ((rd_wb _ rfl).trans ((rd_wb _ rfl).trans ((rd_wb _ rfl).trans ((rd_wb _ rfl).trans ((rd_wb _ rfl).trans ((rd_wb _ rfl).trans ((rd_wb _ rfl).trans ((rd_wb _ rfl).trans ((rd_wb _ rfl).trans ((rd_wb _ rfl).trans ((rd_wb _ rfl).trans ((rd_wb _ rfl).trans ((rd_wb _ rfl).trans ((rd_wb _ rfl).trans ((rd_wb _ rfl).trans ((rd_wb _ rfl).trans ((rd_wb _ rfl).trans ((rd_wb _ rfl).trans ((rd_wb _ rfl).trans ((rd_wb _ rfl).trans ((rd_wb _ rfl).trans ((rd_wb _ rfl).trans ((rd_wb _ rfl).trans ((rd_wb _ rfl).trans ((rd_wb _ rfl).trans ((rd_wb _ rfl).trans ((rd_wb _ rfl).trans ((rd_wb _ rfl).trans ((rd_wb _ rfl).trans ((rd_wb _ rfl).trans ((rd_wb _ rfl).trans ((rd_wb _ rfl).trans ((rd_wb _ rfl).trans ((rd_wb _ rfl).trans ((rd_cb _ rfl).trans ((rd_wb _ rfl).trans ((rd_cb _ rfl).trans ((rd_wb _ rfl).trans ((rd_wb _ rfl).trans ((rd_fb _ rfl).trans ((rd_wb _ rfl).trans ((rd_wb _ rfl).trans ((rd_wb _ rfl).trans ((rd_wb _ rfl).trans ((rd_wb _ rfl).trans ((rd_wb _ rfl).trans ((rd_wb _ rfl).trans ((rd_wb _ rfl).trans ((rd_wb _ rfl).trans ((rd_fb _ rfl).trans ((rd_fb _ rfl).trans ((rd_fb _ rfl).trans ((rd_fb _ rfl).trans ((rd_fb _ rfl).trans ((rd_cb _ rfl).trans ((rd_wb _ rfl).trans ((rd_cb _ rfl).trans (b_120_12)))))))))))))))))))))))))))))))))))))))))))))))))))))))))))))))))))))))))))))))))))))))))))))))))))))) ?_
    refine Tr.iald (pc := 171) d_X12_runs_171 (ty_136 hF) (by decide) (by decide) ?_
    refine Tr.tp 0 ((rd_wb _ rfl).trans ((rd_wb _ rfl).trans ((rd_wb _ rfl).trans ((rd_wb _ rfl).trans ((rd_wb _ rfl).trans ((rd_wb _ rfl).trans ((rd_wb _ rfl).trans ((rd_wb _ rfl).trans ((rd_wb _ rfl).trans ((rd_wb _ rfl).trans ((rd_wb _ rfl).trans ((rd_wb _ rfl).trans ((rd_wb _ rfl).trans ((rd_wb _ rfl).trans ((rd_wb _ rfl).trans ((rd_wb _ rfl).trans ((rd_wb _ rfl).trans ((rd_wb _ rfl).trans ((rd_wb _ rfl).trans ((rd_wb _ rfl).trans ((rd_wb _ rfl).trans ((rd_wb _ rfl).trans ((rd_wb _ rfl).trans ((rd_wb _ rfl).trans ((rd_wb _ rfl).trans ((rd_wb _ rfl).trans ((rd_wb _ rfl).trans ((rd_wb _ rfl).trans ((rd_wb _ rfl).trans ((rd_wb _ rfl).trans ((rd_wb _ rfl).trans ((rd_wb _ rfl).trans ((rd_wb _ rfl).trans ((rd_wb _ rfl).trans ((rd_wb _ rfl).trans ((rd_wb _ rfl).trans ((rd_wb _ rfl).trans ((rd_wb _ rfl).trans ((rd_wb _ rfl).trans ((rd_wb _ rfl).trans ((rd_wb _ rfl).trans ((rd_wb _ rfl).trans ((rd_wb _ rfl).trans ((rd_wb _ rfl).trans ((rd_wb _ rfl).trans ((rd_wb _ rfl).trans ((rd_wb _ rfl).trans ((rd_wb _ rfl).trans ((rd_wb _ rfl).trans ((rd_wb _ rfl).trans ((rd_wb _ rfl).trans ((rd_wb _ rfl).trans ((rd_wb _ rfl).trans ((rd_wb _ rfl).trans ((rd_wb _ rfl).trans ((rd_wb _ rfl).trans ((rd_wb _ rfl).trans ((rd_wb _ rfl).trans ((rd_wb _ rfl).trans ((rd_wb _ rfl).trans ((rd_wb _ rfl).trans ((rd_wb _ rfl).trans ((rd_wb _ rfl).trans ((rd_wb _ rfl).trans ((rd_wb _ rfl).trans ((rd_wb _ rfl).trans ((rd_wb _ rfl).trans ((rd_wb _ rfl).trans ((rd_wb _ rfl).trans ((rd_wb _ rfl).trans ((rd_wb _ rfl).trans ((rd_wb _ rfl).trans ((rd_wb _ rfl).trans ((rd_wb _ rfl).trans ((rd_wb _ rfl).trans ((rd_wb _ rfl).trans ((rd_wb _ rfl).trans ((rd_wb _ rfl).trans ((rd_cb _ rfl).trans ((rd_wb _ rfl).trans ((rd_cb _ rfl).trans ((rd_wb _ rfl).trans ((rd_wb _ rfl).trans ((rd_fb _ rfl).trans ((rd_wb _ rfl).trans ((rd_wb _ rfl).trans ((rd_wb _ rfl).trans ((rd_wb _ rfl).trans ((rd_wb _ rfl).trans ((rd_wb _ rfl).trans ((rd_wb _ rfl).trans ((rd_wb _ rfl).trans ((rd_wb _ rfl).trans ((rd_fb _ rfl).trans ((rd_fb _ rfl).trans ((rd_fb _ rfl).trans ((rd_fb _ rfl).trans ((rd_fb _ rfl).trans ((rd_cb _ rfl).trans ((rd_wb _ rfl).trans ((rd_cb _ rfl).trans (b_136_0)))))))))))))))))))))))))))))))))))))))))))))))))))))))))))))))))))))))))))))))))))))))))))))))))))))) ?_
    refine Tr.icmp_ge (pc := 172) (tgt := 317) d_X12_runs_172 rfl (fun _ => ?_) (fun hc => absurd (by decide) hc)
    refine Tr.aload_n (pc := 317) (i := 0) d_X12_runs_317 rfl rfl ?_
    refine Tr.getf (pc := 318) d_X12_runs_318 f_12_219 (by decide) (by decide) (ty_120 hF) ?_
    refine Tr.tp 0 ((rd_wb _ rfl).trans ((rd_wb _ rfl).trans ((rd_wb _ rfl).trans ((rd_wb _ rfl).trans (rd_ws _ _ _ _))))) ?_
    refine Tr.if_le (pc := 321) (tgt := 329) d_X12_runs_321 rfl (fun _ => ?_) (fun hc => absurd (by decide) hc)
    refine Tr.iconst (pc := 329) d_X12_runs_329 (by decide) ?_
    refine Tr.istore (pc := 330) (i := 4) (ls2 := [(4, (0, 1)), (3, (0, 0)), (0, (2, 120)), (1, (1, (-1)))]) d_X12_runs_330 (by decide) rfl ?_
    refine Tr.iload (pc := 332) (i := 4) d_X12_runs_332 rfl ?_
    refine Tr.if_eq (pc := 334) (tgt := 409) d_X12_runs_334 rfl (fun hc => absurd hc (by decide)) (fun _ => ?_)
    refine Tr.iconst (pc := 337) d_X12_runs_337 (by decide) ?_
    refine Tr.istore (pc := 338) (i := 4) (ls2 := [(4, (0, 0)), (3, (0, 0)), (0, (2, 120)), (1, (1, (-1)))]) d_X12_runs_338 (by decide) rfl ?_
    refine Tr.iconst (pc := 340) d_X12_runs_340 (by decide) ?_
    refine Tr.istore (pc := 341) (i := 5) (ls2 := [(5, (0, 0)), (4, (0, 0)), (3, (0, 0)), (0, (2, 120)), (1, (1, (-1)))]) d_X12_runs_341 (by decide) rfl ?_
    refine Tr.iload (pc := 343) (i := 5) d_X12_runs_343 rfl ?_
    refine Tr.aload_n (pc := 345) (i := 0) d_X12_runs_345 rfl rfl ?_
    refine Tr.getf (pc := 346) d_X12_runs_346 f_12_63 (by decide) (by decide) (ty_120 hF) ?_
    refine Tr.tp 126 (fx_120_17 hF) ?_
    refine Tr.aload_n (pc := 349) (i := 0) d_X12_runs_349 rfl rfl ?_
    refine Tr.getf (pc := 350) d_X12_runs_350 f_12_48 (by decide) (by decide) (ty_120 hF) ?_
    refine Tr.tp 0 ((rd_wb _ rfl).trans ((rd_wb _ rfl).trans ((rd_wb _ rfl).trans ((rd_wb _ rfl).trans ((rd_wb _ rfl).trans ((rd_wb _ rfl).trans ((rd_wb _ rfl).trans ((rd_wb _ rfl).trans ((rd_wb _ rfl).trans ((rd_wb _ rfl).trans ((rd_wb _ rfl).trans ((rd_wb _ rfl).trans ((rd_wb _ rfl).trans ((rd_wb _ rfl).trans ((rd_wb _ rfl).trans ((rd_wb _ rfl).trans ((rd_wb _ rfl).trans ((rd_wb _ rfl).trans ((rd_wb _ rfl).trans ((rd_wb _ rfl).trans ((rd_wb _ rfl).trans ((rd_wb _ rfl).trans ((rd_wb _ rfl).trans ((rd_wb _ rfl).trans ((rd_wb _ rfl).trans ((rd_wb _ rfl).trans ((rd_wb _ rfl).trans ((rd_wb _ rfl).trans ((rd_wb _ rfl).trans ((rd_wb _ rfl).trans ((rd_wb _ rfl).trans ((rd_wb _ rfl).trans ((rd_wb _ rfl).trans ((rd_wb _ rfl).trans ((rd_wb _ rfl).trans ((rd_wb _ rfl).trans ((rd_wb _ rfl).trans ((rd_wb _ rfl).trans ((rd_wb _ rfl).trans ((rd_wb _ rfl).trans ((rd_wb _ rfl).trans ((rd_wb _ rfl).trans ((rd_wb _ rfl).trans ((rd_wb _ rfl).trans ((rd_wb _ rfl).trans ((rd_wb _ rfl).trans ((rd_wb _ rfl).trans ((rd_wb _ rfl).trans ((rd_wb _ rfl).trans ((rd_wb _ rfl).trans ((rd_wb _ rfl).trans ((rd_wb _ rfl).trans ((rd_wb _ rfl).trans ((rd_wb _ rfl).trans ((rd_wb _ rfl).trans ((rd_wb _ rfl).trans ((rd_wb _ rfl).trans ((rd_wb _ rfl).trans ((rd_wb _ rfl).trans ((rd_wb _ rfl).trans ((rd_wb _ rfl).trans ((rd_wb _ rfl).trans ((rd_wb _ rfl).trans ((rd_wb _ rfl).trans ((rd_wb _ rfl).trans ((rd_wb _ rfl).trans ((rd_wb _ rfl).trans ((rd_wb _ rfl).trans ((rd_wb _ rfl).trans ((rd_wb _ rfl).trans ((rd_wb _ rfl).trans ((rd_wb _ rfl).trans ((rd_wb _ rfl).trans ((rd_wb _ rfl).trans ((rd_wb _ rfl).trans ((rd_wb _ rfl).trans ((rd_wb _ rfl).trans ((rd_wb _ rfl).trans ((rd_cb _ rfl).trans ((rd_wb _ rfl).trans ((rd_cb _ rfl).trans ((rd_wb _ rfl).trans ((rd_wb _ rfl).trans ((rd_fb _ rfl).trans ((rd_wb _ rfl).trans ((rd_wb _ rfl).trans ((rd_wb _ rfl).trans ((rd_wb _ rfl).trans ((rd_wb _ rfl).trans ((rd_wb _ rfl).trans ((rd_wb _ rfl).trans ((rd_wb _ rfl).trans ((rd_wb _ rfl).trans ((rd_fb _ rfl).trans ((rd_fb _ rfl).trans ((rd_fb _ rfl).trans ((rd_fb _ rfl).trans ((rd_fb _ rfl).trans ((rd_cb _ rfl).trans ((rd_wb _ rfl).trans ((rd_cb _ rfl).trans (b_120_12)))))))))))))))))))))))))))))))))))))))))))))))))))))))))))))))))))))))))))))))))))))))))))))))))))))) ?_
    refine Tr.iald (pc := 353) d_X12_runs_353 (ty_126 hF) (by decide) (by decide) ?_
    refine Tr.tp 0 ((rd_wb _ rfl).trans ((rd_wb _ rfl).trans ((rd_wb _ rfl).trans ((rd_wb _ rfl).trans ((rd_wb _ rfl).trans ((rd_wb _ rfl).trans ((rd_wb _ rfl).trans ((rd_wb _ rfl).trans ((rd_wb _ rfl).trans ((rd_wb _ rfl).trans ((rd_wb _ rfl).trans ((rd_wb _ rfl).trans ((rd_wb _ rfl).trans ((rd_wb _ rfl).trans ((rd_wb _ rfl).trans ((rd_wb _ rfl).trans ((rd_wb _ rfl).trans ((rd_wb _ rfl).trans ((rd_wb _ rfl).trans ((rd_wb _ rfl).trans ((rd_wb _ rfl).trans ((rd_wb _ rfl).trans ((rd_wb _ rfl).trans ((rd_wb _ rfl).trans ((rd_wb _ rfl).trans ((rd_wb _ rfl).trans ((rd_wb _ rfl).trans ((rd_wb _ rfl).trans ((rd_wb _ rfl).trans ((rd_wb _ rfl).trans ((rd_wb _ rfl).trans ((rd_wb _ rfl).trans ((rd_wb _ rfl).trans ((rd_wb _ rfl).trans ((rd_wb _ rfl).trans ((rd_wb _ rfl).trans ((rd_wb _ rfl).trans ((rd_wb _ rfl).trans ((rd_wb _ rfl).trans ((rd_wb _ rfl).trans ((rd_wb _ rfl).trans ((rd_wb _ rfl).trans ((rd_wb _ rfl).trans ((rd_wb _ rfl).trans ((rd_wb _ rfl).trans ((rd_wb _ rfl).trans ((rd_wb _ rfl).trans ((rd_wb _ rfl).trans ((rd_wb _ rfl).trans ((rd_wb _ rfl).trans ((rd_wb _ rfl).trans ((rd_wb _ rfl).trans ((rd_wb _ rfl).trans ((rd_wb _ rfl).trans ((rd_wb _ rfl).trans ((rd_wb _ rfl).trans ((rd_wb _ rfl).trans ((rd_wb _ rfl).trans ((rd_wb _ rfl).trans ((rd_wb _ rfl).trans ((rd_wb _ rfl).trans ((rd_wb _ rfl).trans ((rd_wb _ rfl).trans ((rd_wb _ rfl).trans ((rd_wb _ rfl).trans ((rd_wb _ rfl).trans ((rd_wb _ rfl).trans ((rd_wb _ rfl).trans ((rd_wb _ rfl).trans ((rd_wb _ rfl).trans ((rd_wb _ rfl).trans ((rd_wb _ rfl).trans ((rd_wb _ rfl).trans ((rd_wb _ rfl).trans ((rd_wb _ rfl).trans ((rd_wb _ rfl).trans ((rd_wb _ rfl).trans ((rd_wb _ rfl).trans ((rd_cb _ rfl).trans ((rd_wb _ rfl).trans ((rd_cb _ rfl).trans ((rd_wb _ rfl).trans ((rd_wb _ rfl).trans ((rd_fb _ rfl).trans ((rd_wb _ rfl).trans ((rd_wb _ rfl).trans ((rd_wb _ rfl).trans ((rd_wb _ rfl).trans ((rd_wb _ rfl).trans ((rd_wb _ rfl).trans ((rd_wb _ rfl).trans ((rd_wb _ rfl).trans ((rd_wb _ rfl).trans ((rd_fb _ rfl).trans ((rd_fb _ rfl).trans ((rd_fb _ rfl).trans ((rd_fb _ rfl).trans ((rd_fb _ rfl).trans ((rd_cb _ rfl).trans ((rd_wb _ rfl).trans ((rd_cb _ rfl).trans (b_126_0)))))))))))))))))))))))))))))))))))))))))))))))))))))))))))))))))))))))))))))))))))))))))))))))))))))) ?_
    refine Tr.icmp_ge (pc := 354) (tgt := 395) d_X12_runs_354 rfl (fun _ => ?_) (fun hc => absurd (by decide) hc)
    refine Tr.iload (pc := 395) (i := 4) d_X12_runs_395 rfl ?_
    refine Tr.if_eq (pc := 397) (tgt := 332) d_X12_runs_397 rfl (fun _ => ?_) (fun hc => absurd (by decide) hc)
    refine Tr.iload (pc := 332) (i := 4) d_X12_runs_332 rfl ?_
    refine Tr.if_eq (pc := 334) (tgt := 409) d_X12_runs_334 rfl (fun _ => ?_) (fun hc => absurd (by decide) hc)
    refine Tr.iconst (pc := 409) d_X12_runs_409 (by decide) ?_
    refine Tr.iret (pc := 410) d_X12_runs_410 rfl ?_
    refine Tr.sc [_] rfl ?_
    refine Tr.istore (pc := 118) (i := 8) (ls2 := [(8, (0, 0)), (7, (0, 0)), (6, (0, 0)), (5, (0, 0)), (4, (0, 0)), (2, (1, 0)), (0, (2, 120)), (1, (0, 1))]) d_X12_over_118 (by decide) rfl ?_
    refine Tr.iload (pc := 120) (i := 4) d_X12_over_120 rfl ?_
    refine Tr.if_eq (pc := 122) (tgt := 153) d_X12_over_122 rfl (fun _ => ?_) (fun hc => absurd (by decide) hc)
    refine Tr.iconst (pc := 153) d_X12_over_153 (by decide) ?_
    refine Tr.istore (pc := 154) (i := 4) (ls2 := [(4, (0, 1)), (8, (0, 0)), (7, (0, 0)), (6, (0, 0)), (5, (0, 0)), (2, (1, 0)), (0, (2, 120)), (1, (0, 1))]) d_X12_over_154 (by decide) rfl ?_
    refine Tr.aload_n (pc := 156) (i := 0) d_X12_over_156 rfl rfl ?_
    refine Tr.getf (pc := 157) d_X12_over_157 f_12_204 (by decide) (by decide) (ty_120 hF) ?_
    refine Tr.tp 0 ((rd_wb _ rfl).trans ((rd_wb _ rfl).trans ((rd_wb _ rfl).trans ((rd_wb _ rfl).trans ((rd_wb _ rfl).trans ((rd_wb _ rfl).trans ((rd_wb _ rfl).trans ((rd_wb _ rfl).trans ((rd_wb _ rfl).trans (rd_ws _ _ _ _)))))))))) ?_
    refine Tr.lstore_n (pc := 160) (i := 2) (ls2 := [(2, (1, 0)), (4, (0, 1)), (8, (0, 0)), (7, (0, 0)), (6, (0, 0)), (5, (0, 0)), (0, (2, 120)), (1, (0, 1))]) d_X12_over_160 rfl (by decide) rfl ?_
    refine Tr.iconst (pc := 161) d_X12_over_161 (by decide) ?_
    refine Tr.istore (pc := 162) (i := 9) (ls2 := [(9, (0, 0)), (2, (1, 0)), (4, (0, 1)), (8, (0, 0)), (7, (0, 0)), (6, (0, 0)), (5, (0, 0)), (0, (2, 120)), (1, (0, 1))]) d_X12_over_162 (by decide) rfl ?_
    refine Tr.iload (pc := 164) (i := 9) d_X12_over_164 rfl ?_
    refine Tr.iconst (pc := 166) d_X12_over_166 (by decide) ?_
    refine Tr.icmp_ge (pc := 167) (tgt := 190) d_X12_over_167 rfl (fun hc => absurd hc (by decide)) (fun _ => ?_)
    refine Tr.aload_n (pc := 170) (i := 0) d_X12_over_170 rfl rfl ?_
    refine Tr.getf (pc := 171) d_X12_over_171 f_12_330 (by decide) (by decide) (ty_120 hF) ?_
    refine Tr.tp 179 (fx_120_105 hF) ?_
    refine Tr.iload (pc := 174) (i := 9) d_X12_over_174 rfl ?_
    refine Tr.aload_n (pc := 176) (i := 0) d_X12_over_176 rfl rfl ?_
    refine Tr.getf (pc := 177) d_X12_over_177 f_12_171 (by decide) (by decide) (ty_120 hF) ?_
    refine Tr.tp 154 (fx_120_52 hF) ?_
    refine Tr.iload (pc := 180) (i := 9) d_X12_over_180 rfl ?_
    refine Tr.iald (pc := 182) d_X12_over_182 (ty_154 hF) (by decide) (by decide) ?_
    refine Tr.tp 0 ((rd_wb _ rfl).trans ((rd_wb _ rfl).trans ((rd_wb _ rfl).trans ((rd_wb _ rfl).trans ((rd_wb _ rfl).trans ((rd_wb _ rfl).trans ((rd_wb _ rfl).trans ((rd_wb _ rfl).trans ((rd_wb _ rfl).trans ((rd_wb _ rfl).trans ((rd_wb _ rfl).trans ((rd_wb _ rfl).trans ((rd_wb _ rfl).trans ((rd_wb _ rfl).trans ((rd_wb _ rfl).trans ((rd_wb _ rfl).trans ((rd_wb _ rfl).trans ((rd_wb _ rfl).trans ((rd_wb _ rfl).trans ((rd_wb _ rfl).trans ((rd_wb _ rfl).trans ((rd_wb _ rfl).trans ((rd_wb _ rfl).trans ((rd_wb _ rfl).trans ((rd_wb _ rfl).trans ((rd_wb _ rfl).trans ((rd_wb _ rfl).trans ((rd_wb _ rfl).trans ((rd_wb _ rfl).trans ((rd_wb _ rfl).trans ((rd_wb _ rfl).trans ((rd_wb _ rfl).trans ((rd_wb _ rfl).trans ((rd_wb _ rfl).trans ((rd_wb _ rfl).trans ((rd_wb _ rfl).trans ((rd_wb _ rfl).trans ((rd_wb _ rfl).trans ((rd_wb _ rfl).trans ((rd_wb _ rfl).trans ((rd_wb _ rfl).trans ((rd_wb _ rfl).trans ((rd_wb _ rfl).trans ((rd_wb _ rfl).trans ((rd_wb _ rfl).trans ((rd_wb _ rfl).trans ((rd_wb _ rfl).trans ((rd_wb _ rfl).trans ((rd_wb _ rfl).trans ((rd_wb _ rfl).trans ((rd_wb _ rfl).trans ((rd_wb _ rfl).trans ((rd_wb _ rfl).trans ((rd_wb _ rfl).trans ((rd_wb _ rfl).trans ((rd_wb _ rfl).trans ((rd_wb _ rfl).trans ((rd_wb _ rfl).trans ((rd_wb _ rfl).trans ((rd_wb _ rfl).trans ((rd_wb _ rfl).trans ((rd_wb _ rfl).trans ((rd_wb _ rfl).trans ((rd_wb _ rfl).trans ((rd_wb _ rfl).trans ((rd_wb _ rfl).trans ((rd_wb _ rfl).trans ((rd_wb _ rfl).trans ((rd_wb _ rfl).trans ((rd_wb _ rfl).trans ((rd_wb _ rfl).trans ((rd_wb _ rfl).trans ((rd_wb _ rfl).trans ((rd_wb _ rfl).trans ((rd_wb _ rfl).trans (rd_ws _ _ _ _)))))))))))))))))))))))))))))))))))))))))))))))))))))))))))))))))))))))))))) ?_
    refine Tr.iastX (pc := 183) d_X12_over_183 (ty_179 hF) (by decide) (by decide) hF (by decide +kernel) (fun hF => ?_)
    refine Tr.iinc (pc := 184) (ls2 := [(9, (0, 1)), (2, (1, 0)), (4, (0, 1)), (8, (0, 0)), (7, (0, 0)), (6, (0, 0)), (5, (0, 0)), (0, (2, 120)), (1, (0, 1))]) d_X12_over_184 rfl (by decide) rfl ?_
    refine Tr.goto (pc := 187) (tgt := 164) d_X12_over_187 rfl ?_
    refine Tr.iload (pc := 164) (i := 9) d_X12_over_164 rfl ?_
    refine Tr.iconst (pc := 166) d_X12_over_166 (by decide) ?_
    refine Tr.icmp_ge (pc := 167) (tgt := 190) d_X12_over_167 rfl (fun hc => absurd hc (by decide)) (fun _ => ?_)
    refine Tr.aload_n (pc := 170) (i := 0) d_X12_over_170 rfl rfl ?_
    refine Tr.getf (pc := 171) d_X12_over_171 f_12_330 (by decide) (by decide) (ty_120 hF) ?_
    refine Tr.tp 179 (fx_120_105 hF) ?_
    refine Tr.iload (pc := 174) (i := 9) d_X12_over_174 rfl ?_
    refine Tr.aload_n (pc := 176) (i := 0) d_X12_over_176 rfl rfl ?_
    refine Tr.getf (pc := 177) d_X12_over_177 f_12_171 (by decide) (by decide) (ty_120 hF) ?_
    refine Tr.tp 154 (fx_120_52 hF) ?_
    refine Tr.iload (pc := 180) (i := 9) d_X12_over_180 rfl ?_
    refine Tr.iald (pc := 182) d_X12_over_182 (ty_154 hF) (by decide) (by decide) ?_
    refine Tr.tp 0 ((rd_wb _ rfl).trans ((rd_wb _ rfl).trans ((rd_wb _ rfl).trans ((rd_wb _ rfl).trans ((rd_wb _ rfl).trans ((rd_wb _ rfl).trans ((rd_wb _ rfl).trans ((rd_wb _ rfl).trans ((rd_wb _ rfl).trans ((rd_wb _ rfl).trans ((rd_wb _ rfl).trans ((rd_wb _ rfl).trans ((rd_wb _ rfl).trans ((rd_wb _ rfl).trans ((rd_wb _ rfl).trans ((rd_wb _ rfl).trans ((rd_wb _ rfl).trans ((rd_wb _ rfl).trans ((rd_wb _ rfl).trans ((rd_wb _ rfl).trans ((rd_wb _ rfl).trans ((rd_wb _ rfl).trans ((rd_wb _ rfl).trans ((rd_wb _ rfl).trans ((rd_wb _ rfl).trans ((rd_wb _ rfl).trans ((rd_wb _ rfl).trans ((rd_wb _ rfl).trans ((rd_wb _ rfl).trans ((rd_wb _ rfl).trans ((rd_wb _ rfl).trans ((rd_wb _ rfl).trans ((rd_wb _ rfl).trans ((rd_wb _ rfl).trans ((rd_wb _ rfl).trans ((rd_wb _ rfl).trans ((rd_wb _ rfl).trans ((rd_wb _ rfl).trans ((rd_wb _ rfl).trans ((rd_wb _ rfl).trans ((rd_wb _ rfl).trans ((rd_wb _ rfl).trans ((rd_wb _ rfl).trans ((rd_wb _ rfl).trans ((rd_wb _ rfl).trans ((rd_wb _ rfl).trans ((rd_wb _ rfl).trans ((rd_wb _ rfl).trans ((rd_wb _ rfl).trans ((rd_wb _ rfl).trans ((rd_wb _ rfl).trans ((rd_wb _ rfl).trans ((rd_wb _ rfl).trans ((rd_wb _ rfl).trans ((rd_wb _ rfl).trans ((rd_wb _ rfl).trans ((rd_wb _ rfl).trans ((rd_wb _ rfl).trans ((rd_wb _ rfl).trans ((rd_wb _ rfl).trans ((rd_wb _ rfl).trans ((rd_wb _ rfl).trans ((rd_wb _ rfl).trans ((rd_wb _ rfl).trans ((rd_wb _ rfl).trans ((rd_wb _ rfl).trans ((rd_wb _ rfl).trans ((rd_wb _ rfl).trans ((rd_wb _ rfl).trans ((rd_wb _ rfl).trans ((rd_wb _ rfl).trans ((rd_wb _ rfl).trans ((rd_wb _ rfl).trans ((rd_wb _ rfl).trans ((rd_wb _ rfl).trans (rd_ws _ _ _ _)))))))))))))))))))))))))))))))))))))))))))))))))))))))))))))))))))))))))))) ?_
    refine Tr.iastX (pc := 183) d_X12_over_183 (ty_179 hF) (by decide) (by decide) hF (by decide +kernel) (fun hF => ?_)
    refine Tr.iinc (pc := 184) (ls2 := [(9, (0, 2)), (2, (1, 0)), (4, (0, 1)), (8, (0, 0)), (7, (0, 0)), (6, (0, 0)), (5, (0, 0)), (0, (2, 120)), (1, (0, 1))]) d_X12_over_184 rfl (by decide) rfl ?_
    refine Tr.goto (pc := 187) (tgt := 164) d_X12_over_187 rfl ?_
    refine Tr.iload (pc := 164) (i := 9) d_X12_over_164 rfl ?_
    refine Tr.iconst (pc := 166) d_X12_over_166 (by decide) ?_
    refine Tr.icmp_ge (pc := 167) (tgt := 190) d_X12_over_167 rfl (fun hc => absurd hc (by decide)) (fun _ => ?_)
    refine Tr.aload_n (pc := 170) (i := 0) d_X12_over_170 rfl rfl ?_
    refine Tr.getf (pc := 171) d_X12_over_171 f_12_330 (by decide) (by decide) (ty_120 hF) ?_
    refine Tr.tp 179 (fx_120_105 hF) ?_
    refine Tr.iload (pc := 174) (i := 9) d_X12_over_174 rfl ?_
    refine Tr.aload_n (pc := 176) (i := 0) d_X12_over_176 rfl rfl ?_
    refine Tr.getf (pc := 177) d_X12_over_177 f_12_171 (by decide) (by decide) (ty_120 hF) ?_
    refine Tr.tp 154 (fx_120_52 hF) ?_
    refine Tr.iload (pc := 180) (i := 9) d_X12_over_180 rfl ?_
    refine Tr.iald (pc := 182) d_X12_over_182 (ty_154 hF) (by decide) (by decide) ?_
    refine Tr.tp 0 ((rd_wb _ rfl).trans ((rd_wb _ rfl).trans ((rd_wb _ rfl).trans ((rd_wb _ rfl).trans ((rd_wb _ rfl).trans ((rd_wb _ rfl).trans ((rd_wb _ rfl).trans ((rd_wb _ rfl).trans ((rd_wb _ rfl).trans ((rd_wb _ rfl).trans ((rd_wb _ rfl).trans ((rd_wb _ rfl).trans ((rd_wb _ rfl).trans ((rd_wb _ rfl).trans ((rd_wb _ rfl).trans ((rd_wb _ rfl).trans ((rd_wb _ rfl).trans ((rd_wb _ rfl).trans ((rd_wb _ rfl).trans ((rd_wb _ rfl).trans ((rd_wb _ rfl).trans ((rd_wb _ rfl).trans ((rd_wb _ rfl).trans ((rd_wb _ rfl).trans ((rd_wb _ rfl).trans ((rd_wb _ rfl).trans ((rd_wb _ rfl).trans ((rd_wb _ rfl).trans ((rd_wb _ rfl).trans ((rd_wb _ rfl).trans ((rd_wb _ rfl).trans ((rd_wb _ rfl).trans ((rd_wb _ rfl).trans ((rd_wb _ rfl).trans ((rd_wb _ rfl).trans ((rd_wb _ rfl).trans ((rd_wb _ rfl).trans ((rd_wb _ rfl).trans ((rd_wb _ rfl).trans ((rd_wb _ rfl).trans ((rd_wb _ rfl).trans ((rd_wb _ rfl).trans ((rd_wb _ rfl).trans ((rd_wb _ rfl).trans ((rd_wb _ rfl).trans ((rd_wb _ rfl).trans ((rd_wb _ rfl).trans ((rd_wb _ rfl).trans ((rd_wb _ rfl).trans ((rd_wb _ rfl).trans ((rd_wb _ rfl).trans ((rd_wb _ rfl).trans ((rd_wb _ rfl).trans ((rd_wb _ rfl).trans ((rd_wb _ rfl).trans ((rd_wb _ rfl).trans ((rd_wb _ rfl).trans ((rd_wb _ rfl).trans ((rd_wb _ rfl).trans ((rd_wb _ rfl).trans ((rd_wb _ rfl).trans ((rd_wb _ rfl).trans ((rd_wb _ rfl).trans ((rd_wb _ rfl).trans ((rd_wb _ rfl).trans ((rd_wb _ rfl).trans ((rd_wb _ rfl).trans ((rd_wb _ rfl).trans ((rd_wb _ rfl).trans ((rd_wb _ rfl).trans ((rd_wb _ rfl).trans ((rd_wb _ rfl).trans ((rd_wb _ rfl).trans ((rd_wb _ rfl).trans ((rd_wb _ rfl).trans (rd_ws _ _ _ _)))))))))))))))))))))))))))))))))))))))))))))))))))))))))))))))))))))))))))) ?_
    refine Tr.iastX (pc := 183) d_X12_over_183 (ty_179 hF) (by decide) (by decide) hF (by decide +kernel) (fun hF => ?_)
    refine Tr.iinc (pc := 184) (ls2 := [(9, (0, 3)), (2, (1, 0)), (4, (0, 1)), (8, (0, 0)), (7, (0, 0)), (6, (0, 0)), (5, (0, 0)), (0, (2, 120)), (1, (0, 1))]) d_X12_over_184 rfl (by decide) rfl ?_
    refine Tr.goto (pc := 187) (tgt := 164) d_X12_over_187 rfl ?_
    refine Tr.iload (pc := 164) (i := 9) d_X12_over_164 rfl ?_
    refine Tr.iconst (pc := 166) d_X12_over_166 (by decide) ?_
    refine Tr.icmp_ge (pc := 167) (tgt := 190) d_X12_over_167 rfl (fun _ => ?_) (fun hc => absurd (by decide) hc)
    refine Tr.iinc (pc := 190) (ls2 := [(7, (0, 1)), (9, (0, 3)), (2, (1, 0)), (4, (0, 1)), (8, (0, 0)), (6, (0, 0)), (5, (0, 0)), (0, (2, 120)), (1, (0, 1))]) d_X12_over_190 rfl (by decide) rfl ?_
    refine Tr.goto (pc := 193) (tgt := 59) d_X12_over_193 rfl ?_
    refine Tr.iload (pc := 59) (i := 7) d_X12_over_59 rfl ?_
    refine Tr.aload_n (pc := 61) (i := 0) d_X12_over_61 rfl rfl ?_
    refine Tr.iconst (pc := 62) d_X12_over_62 (by decide) ?_
    refine Tr.callV (pc := 63) (as := [_]) d_X12_over_63 s_12_680 ok_X12_span rfl rfl (Nat.le_of_ble_eq_true rfl) (Nat.le_of_ble_eq_true rfl) (by decide) (ty_120 hF) ?_
    refine Tr.lc [(0, (2, 120)), (1, (0, 2))] rfl ?_
    refine Tr.iload_n (pc := 0) (i := 1) d_X12_span_0 rfl rfl ?_
    refine Tr.aload_n (pc := 1) (i := 0) d_X12_span_1 rfl rfl ?_
    refine Tr.getf (pc := 2) d_X12_span_2 f_12_66 (by decide) (by decide) (ty_120 hF) ?_
    refine Tr.tp 127 (fx_120_18 hF) ?_
    refine Tr.aload_n (pc := 5) (i := 0) d_X12_span_5 rfl rfl ?_
    refine Tr.getf (pc := 6) d_X12_span_6 f_12_48 (by decide) (by decide) (ty_120 hF) ?_
    refine Tr.tp 0 ((rd_wb _ rfl).trans ((rd_wb _ rfl).trans ((rd_wb _ rfl).trans ((rd_wb _ rfl).trans ((rd_wb _ rfl).trans ((rd_wb _ rfl).trans ((rd_wb _ rfl).trans ((rd_wb _ rfl).trans ((rd_wb _ rfl).trans ((rd_wb _ rfl).trans ((rd_wb _ rfl).trans ((rd_wb _ rfl).trans ((rd_wb _ rfl).trans ((rd_wb _ rfl).trans ((rd_wb _ rfl).trans ((rd_wb _ rfl).trans ((rd_wb _ rfl).trans ((rd_wb _ rfl).trans ((rd_wb _ rfl).trans ((rd_wb _ rfl).trans ((rd_wb _ rfl).trans ((rd_wb _ rfl).trans ((rd_wb _ rfl).trans ((rd_wb _ rfl).trans ((rd_wb _ rfl).trans ((rd_wb _ rfl).trans ((rd_wb _ rfl).trans ((rd_wb _ rfl).trans ((rd_wb _ rfl).trans ((rd_wb _ rfl).trans ((rd_wb _ rfl).trans ((rd_wb _ rfl).trans ((rd_wb _ rfl).trans ((rd_wb _ rfl).trans ((rd_wb _ rfl).trans ((rd_wb _ rfl).trans ((rd_wb _ rfl).trans ((rd_wb _ rfl).trans ((rd_wb _ rfl).trans ((rd_wb _ rfl).trans ((rd_wb _ rfl).trans ((rd_wb _ rfl).trans ((rd_wb _ rfl).trans ((rd_wb _ rfl).trans ((rd_wb _ rfl).trans ((rd_wb _ rfl).trans ((rd_wb _ rfl).trans ((rd_wb _ rfl).trans ((rd_wb _ rfl).trans ((rd_wb _ rfl).trans ((rd_wb _ rfl).trans ((rd_wb _ rfl).trans ((rd_wb _ rfl).trans ((rd_wb _ rfl).trans ((rd_wb _ rfl).trans ((rd_wb _ rfl).trans ((rd_wb _ rfl).trans ((rd_wb _ rfl).trans ((rd_wb _ rfl).trans ((rd_wb _ rfl).trans ((rd_wb _ rfl).trans ((rd_wb _ rfl).trans ((rd_wb _ rfl).trans ((rd_wb _ rfl).trans ((rd_wb _ rfl).trans ((rd_wb _ rfl).trans ((rd_wb _ rfl).trans ((rd_wb _ rfl).trans ((rd_wb _ rfl).trans ((rd_wb _ rfl).trans ((rd_wb _ rfl).trans ((rd_wb _ rfl).trans ((rd_wb _ rfl).trans ((rd_wb _ rfl).trans ((rd_wb _ rfl).trans ((rd_wb _ rfl).trans ((rd_wb _ rfl).trans ((rd_wb _ rfl).trans ((rd_wb _ rfl).trans ((rd_wb _ rfl).trans ((rd_wb _ rfl).trans ((rd_cb _ rfl).trans ((rd_wb _ rfl).trans ((rd_cb _ rfl).trans ((rd_wb _ rfl).trans ((rd_wb _ rfl).trans ((rd_fb _ rfl).trans ((rd_wb _ rfl).trans ((rd_wb _ rfl).trans ((rd_wb _ rfl).trans ((rd_wb _ rfl).trans ((rd_wb _ rfl).trans ((rd_wb _ rfl).trans ((rd_wb _ rfl).trans ((rd_wb _ rfl).trans ((rd_wb _ rfl).trans ((rd_fb _ rfl).trans ((rd_fb _ rfl).trans ((rd_fb _ rfl).trans ((rd_fb _ rfl).trans ((rd_fb _ rfl).trans ((rd_cb _ rfl).trans ((rd_wb _ rfl).trans ((rd_cb _ rfl).trans (b_120_12))))))))))))))))))))))))))))))))))))))))))))))))))))))))))))))))))))))))))))))))))))))))))))))))))))))))) ?_
    refine Tr.iald (pc := 9) d_X12_span_9 (ty_127 hF) (by decide) (by decide) ?_
    refine Tr.tp 0 ((rd_wb _ rfl).trans ((rd_wb _ rfl).trans ((rd_wb _ rfl).trans ((rd_wb _ rfl).trans ((rd_wb _ rfl).trans ((rd_wb _ rfl).trans ((rd_wb _ rfl).trans ((rd_wb _ rfl).trans ((rd_wb _ rfl).trans ((rd_wb _ rfl).trans ((rd_wb _ rfl).trans ((rd_wb _ rfl).trans ((rd_wb _ rfl).trans ((rd_wb _ rfl).trans ((rd_wb _ rfl).trans ((rd_wb _ rfl).trans ((rd_wb _ rfl).trans ((rd_wb _ rfl).trans ((rd_wb _ rfl).trans ((rd_wb _ rfl).trans ((rd_wb _ rfl).trans ((rd_wb _ rfl).trans ((rd_wb _ rfl).trans ((rd_wb _ rfl).trans ((rd_wb _ rfl).trans ((rd_wb _ rfl).trans ((rd_wb _ rfl).trans ((rd_wb _ rfl).trans ((rd_wb _ rfl).trans ((rd_wb _ rfl).trans ((rd_wb _ rfl).trans ((rd_wb _ rfl).trans ((rd_wb _ rfl).trans ((rd_wb _ rfl).trans ((rd_wb _ rfl).trans ((rd_wb _ rfl).trans ((rd_wb _ rfl).trans ((rd_wb _ rfl).trans ((rd_wb _ rfl).trans ((rd_wb _ rfl).trans ((rd_wb _ rfl).trans ((rd_wb _ rfl).trans ((rd_wb _ rfl).trans ((rd_wb _ rfl).trans ((rd_wb _ rfl).trans ((rd_wb _ rfl).trans ((rd_wb _ rfl).trans ((rd_wb _ rfl).trans ((rd_wb _ rfl).trans ((rd_wb _ rfl).trans ((rd_wb _ rfl).trans ((rd_wb _ rfl).trans ((rd_wb _ rfl).trans ((rd_wb _ rfl).trans ((rd_wb _ rfl).trans ((rd_wb _ rfl).trans ((rd_wb _ rfl).trans ((rd_wb _ rfl).trans ((rd_wb _ rfl).trans ((rd_wb _ rfl).trans ((rd_wb _ rfl).trans ((rd_wb _ rfl).trans ((rd_wb _ rfl).trans ((rd_wb _ rfl).trans ((rd_wb _ rfl).trans ((rd_wb _ rfl).trans ((rd_wb _ rfl).trans ((rd_wb _ rfl).trans ((rd_wb _ rfl).trans ((rd_wb _ rfl).trans ((rd_wb _ rfl).trans ((rd_wb _ rfl).trans ((rd_wb _ rfl).trans ((rd_wb _ rfl).trans ((rd_wb _ rfl).trans ((rd_wb _ rfl).trans ((rd_wb _ rfl).trans ((rd_wb _ rfl).trans ((rd_wb _ rfl).trans ((rd_wb _ rfl).trans ((rd_wb _ rfl).trans ((rd_cb _ rfl).trans ((rd_wb _ rfl).trans ((rd_cb _ rfl).trans ((rd_wb _ rfl).trans ((rd_wb _ rfl).trans ((rd_fb _ rfl).trans ((rd_wb _ rfl).trans ((rd_wb _ rfl).trans ((rd_wb _ rfl).trans ((rd_wb _ rfl).trans ((rd_wb _ rfl).trans ((rd_wb _ rfl).trans ((rd_wb _ rfl).trans ((rd_wb _ rfl).trans ((rd_wb _ rfl).trans ((rd_fb _ rfl).trans ((rd_fb _ rfl).trans ((rd_fb _ rfl).trans ((rd_fb _ rfl).trans ((rd_fb _ rfl).trans ((rd_cb _ rfl).trans ((rd_wb _ rfl).trans ((rd_cb _ rfl).trans (b_127_0))))))))))))))))))))))))))))))))))))))))))))))))))))))))))))))))))))))))))))))))))))))))))))))))))))))))) ?_
    refine Tr.icmp_ge (pc := 10) (tgt := 45) d_X12_span_10 rfl (fun _ => ?_) (fun hc => absurd (by decide) hc)
    refine Tr.iconst (pc := 45) d_X12_span_45 (by decide) ?_
    refine Tr.iret (pc := 46) d_X12_span_46 rfl ?_
    refine Tr.sc [_, _] rfl ?_
    refine Tr.icmp_ge (pc := 66) (tgt := 196) d_X12_over_66 rfl (fun _ => ?_) (fun hc => absurd (by decide) hc)
    refine Tr.iinc (pc := 196) (ls2 := [(6, (0, 1)), (7, (0, 1)), (9, (0, 3)), (2, (1, 0)), (4, (0, 1)), (8, (0, 0)), (5, (0, 0)), (0, (2, 120)), (1, (0, 1))]) d_X12_over_196 rfl (by decide) rfl ?_
    refine Tr.goto (pc := 199) (tgt := 46) d_X12_over_199 rfl ?_
    refine Tr.iload (pc := 46) (i := 6) d_X12_over_46 rfl ?_
    refine Tr.aload_n (pc := 48) (i := 0) d_X12_over_48 rfl rfl ?_
    refine Tr.iconst (pc := 49) d_X12_over_49 (by decide) ?_
    refine Tr.callV (pc := 50) (as := [_]) d_X12_over_50 s_12_680 ok_X12_span rfl rfl (Nat.le_of_ble_eq_true rfl) (Nat.le_of_ble_eq_true rfl) (by decide) (ty_120 hF) ?_
    refine Tr.lc [(0, (2, 120)), (1, (0, 1))] rfl ?_
    refine Tr.iload_n (pc := 0) (i := 1) d_X12_span_0 rfl rfl ?_
    refine Tr.aload_n (pc := 1) (i := 0) d_X12_span_1 rfl rfl ?_
    refine Tr.getf (pc := 2) d_X12_span_2 f_12_66 (by decide) (by decide) (ty_120 hF) ?_
    refine Tr.tp 127 (fx_120_18 hF) ?_
    refine Tr.aload_n (pc := 5) (i := 0) d_X12_span_5 rfl rfl ?_
    refine Tr.getf (pc := 6) d_X12_span_6 f_12_48 (by decide) (by decide) (ty_120 hF) ?_
    refine Tr.tp 0 ((rd_wb _ rfl).trans ((rd_wb _ rfl).trans ((rd_wb _ rfl).trans ((rd_wb _ rfl).trans ((rd_wb _ rfl).trans ((rd_wb _ rfl).trans ((rd_wb _ rfl).trans ((rd_wb _ rfl).trans ((rd_wb _ rfl).trans ((rd_wb _ rfl).trans ((rd_wb _ rfl).trans ((rd_wb _ rfl).trans ((rd_wb _ rfl).trans ((rd_wb _ rfl).trans ((rd_wb _ rfl).trans ((rd_wb _ rfl).trans ((rd_wb _ rfl).trans ((rd_wb _ rfl).trans ((rd_wb _ rfl).trans ((rd_wb _ rfl).trans ((rd_wb _ rfl).trans ((rd_wb _ rfl).trans ((rd_wb _ rfl).trans ((rd_wb _ rfl).trans ((rd_wb _ rfl).trans ((rd_wb _ rfl).trans ((rd_wb _ rfl).trans ((rd_wb _ rfl).trans ((rd_wb _ rfl).trans ((rd_wb _ rfl).trans ((rd_wb _ rfl).trans ((rd_wb _ rfl).trans ((rd_wb _ rfl).trans ((rd_wb _ rfl).trans ((rd_wb _ rfl).trans ((rd_wb _ rfl).trans ((rd_wb _ rfl).trans ((rd_wb _ rfl).trans ((rd_wb _ rfl).trans ((rd_wb _ rfl).trans ((rd_wb _ rfl).trans ((rd_wb _ rfl).trans ((rd_wb _ rfl).trans ((rd_wb _ rfl).trans ((rd_wb _ rfl).trans ((rd_wb _ rfl).trans ((rd_wb _ rfl).trans ((rd_wb _ rfl).trans ((rd_wb _ rfl).trans ((rd_wb _ rfl).trans ((rd_wb _ rfl).trans ((rd_wb _ rfl).trans ((rd_wb _ rfl).trans ((rd_wb _ rfl).trans ((rd_wb _ rfl).trans ((rd_wb _ rfl).trans ((rd_wb _ rfl).trans ((rd_wb _ rfl).trans ((rd_wb _ rfl).trans ((rd_wb _ rfl).trans ((rd_wb _ rfl).trans ((rd_wb _ rfl).trans ((rd_wb _ rfl).trans ((rd_wb _ rfl).trans ((rd_wb _ rfl).trans ((rd_wb _ rfl).trans ((rd_wb _ rfl).trans ((rd_wb _ rfl).trans ((rd_wb _ rfl).trans ((rd_wb _ rfl).trans ((rd_wb _ rfl).trans ((rd_wb _ rfl).trans ((rd_wb _ rfl).trans ((rd_wb _ rfl).trans ((rd_wb _ rfl).trans ((rd_wb _ rfl).trans ((rd_wb _ rfl).trans ((rd_wb _ rfl).trans ((rd_wb _ rfl).trans ((rd_wb _ rfl).trans ((rd_wb _ rfl).trans ((rd_cb _ rfl).trans ((rd_wb _ rfl).trans ((rd_cb _ rfl).trans ((rd_wb _ rfl).trans ((rd_wb _ rfl).trans ((rd_fb _ rfl).trans ((rd_wb _ rfl).trans ((rd_wb _ rfl).trans ((rd_wb _ rfl).trans ((rd_wb _ rfl).trans ((rd_wb _ rfl).trans ((rd_wb _ rfl).trans ((rd_wb _ rfl).trans ((rd_wb _ rfl).trans ((rd_wb _ rfl).trans ((rd_fb _ rfl).trans ((rd_fb _ rfl).trans ((rd_fb _ rfl).trans ((rd_fb _ rfl).trans ((rd_fb _ rfl).trans ((rd_cb _ rfl).trans ((rd_wb _ rfl).trans ((rd_cb _ rfl).trans (b_120_12))))))))))))))))))))))))))))))))))))))))))))))))))))))))))))))))))))))))))))))))))))))))))))))))))))))))) ?_
    refine Tr.iald (pc := 9) d_X12_span_9 (ty_127 hF) (by decide) (by decide) ?_
    refine Tr.tp 0 ((rd_wb _ rfl).trans ((rd_wb _ rfl).trans ((rd_wb _ rfl).trans ((rd_wb _ rfl).trans ((rd_wb _ rfl).trans ((rd_wb _ rfl).trans ((rd_wb _ rfl).trans ((rd_wb _ rfl).trans ((rd_wb _ rfl).trans ((rd_wb _ rfl).trans ((rd_wb _ rfl).trans ((rd_wb _ rfl).trans ((rd_wb _ rfl).trans ((rd_wb _ rfl).trans ((rd_wb _ rfl).trans ((rd_wb _ rfl).trans ((rd_wb _ rfl).trans ((rd_wb _ rfl).trans ((rd_wb _ rfl).trans ((rd_wb _ rfl).trans ((rd_wb _ rfl).trans ((rd_wb _ rfl).trans ((rd_wb _ rfl).trans ((rd_wb _ rfl).trans ((rd_wb _ rfl).trans ((rd_wb _ rfl).trans ((rd_wb _ rfl).trans ((rd_wb _ rfl).trans ((rd_wb _ rfl).trans ((rd_wb _ rfl).trans ((rd_wb _ rfl).trans ((rd_wb _ rfl).trans ((rd_wb _ rfl).trans ((rd_wb _ rfl).trans ((rd_wb _ rfl).trans ((rd_wb _ rfl).trans ((rd_wb _ rfl).trans ((rd_wb _ rfl).trans ((rd_wb _ rfl).trans ((rd_wb _ rfl).trans ((rd_wb _ rfl).trans ((rd_wb _ rfl).trans ((rd_wb _ rfl).trans ((rd_wb _ rfl).trans ((rd_wb _ rfl).trans ((rd_wb _ rfl).trans ((rd_wb _ rfl).trans ((rd_wb _ rfl).trans ((rd_wb _ rfl).trans ((rd_wb _ rfl).trans ((rd_wb _ rfl).trans ((rd_wb _ rfl).trans ((rd_wb _ rfl).trans ((rd_wb _ rfl).trans ((rd_wb _ rfl).trans ((rd_wb _ rfl).trans ((rd_wb _ rfl).trans ((rd_wb _ rfl).trans ((rd_wb _ rfl).trans ((rd_wb _ rfl).trans ((rd_wb _ rfl).trans ((rd_wb _ rfl).trans ((rd_wb _ rfl).trans ((rd_wb _ rfl).trans ((rd_wb _ rfl).trans ((rd_wb _ rfl).trans ((rd_wb _ rfl).trans ((rd_wb _ rfl).trans ((rd_wb _ rfl).trans ((rd_wb _ rfl).trans ((rd_wb _ rfl).trans ((rd_wb _ rfl).trans ((rd_wb _ rfl).trans ((rd_wb _ rfl).trans ((rd_wb _ rfl).trans ((rd_wb _ rfl).trans ((rd_wb _ rfl).trans ((rd_wb _ rfl).trans ((rd_wb _ rfl).trans ((rd_wb _ rfl).trans ((rd_wb _ rfl).trans ((rd_cb _ rfl).trans ((rd_wb _ rfl).trans ((rd_cb _ rfl).trans ((rd_wb _ rfl).trans ((rd_wb _ rfl).trans ((rd_fb _ rfl).trans ((rd_wb _ rfl).trans ((rd_wb _ rfl).trans ((rd_wb _ rfl).trans ((rd_wb _ rfl).trans ((rd_wb _ rfl).trans ((rd_wb _ rfl).trans ((rd_wb _ rfl).trans ((rd_wb _ rfl).trans ((rd_wb _ rfl).trans ((rd_fb _ rfl).trans ((rd_fb _ rfl).trans ((rd_fb _ rfl).trans ((rd_fb _ rfl).trans ((rd_fb _ rfl).trans ((rd_cb _ rfl).trans ((rd_wb _ rfl).trans ((rd_cb _ rfl).trans (b_127_0))))))))))))))))))))))))))))))))))))))))))))))))))))))))))))))))))))))))))))))))))))))))))))))))))))))))) ?_
    refine Tr.icmp_ge (pc := 10) (tgt := 45) d_X12_span_10 rfl (fun _ => ?_) (fun hc => absurd (by decide) hc)
    refine Tr.iconst (pc := 45) d_X12_span_45 (by decide) ?_
    refine Tr.iret (pc := 46) d_X12_span_46 rfl ?_
    refine Tr.sc [_, _] rfl ?_
    refine Tr.icmp_ge (pc := 53) (tgt := 202) d_X12_over_53 rfl (fun _ => ?_) (fun hc => absurd (by decide) hc)
    refine Tr.iinc (pc := 202) (ls2 := [(5, (0, 1)), (6, (0, 1)), (7, (0, 1)), (9, (0, 3)), (2, (1, 0)), (4, (0, 1)), (8, (0, 0)), (0, (2, 120)), (1, (0, 1))]) d_X12_over_202 rfl (by decide) rfl ?_
    refine Tr.goto (pc := 205) (tgt := 33) d_X12_over_205 rfl ?_
    refine Tr.iload (pc := 33) (i := 5) d_X12_over_33 rfl ?_
    refine Tr.aload_n (pc := 35) (i := 0) d_X12_over_35 rfl rfl ?_
    refine Tr.iconst (pc := 36) d_X12_over_36 (by decide) ?_
    refine Tr.callV (pc := 37) (as := [_]) d_X12_over_37 s_12_680 ok_X12_span rfl rfl (Nat.le_of_ble_eq_true rfl) (Nat.le_of_ble_eq_true rfl) (by decide) (ty_120 hF) ?_
    refine Tr.lc [(0, (2, 120)), (1, (0, 0))] rfl ?_
    refine Tr.iload_n (pc := 0) (i := 1) d_X12_span_0 rfl rfl ?_
    refine Tr.aload_n (pc := 1) (i := 0) d_X12_span_1 rfl rfl ?_
    refine Tr.getf (pc := 2) d_X12_span_2 f_12_66 (by decide) (by decide) (ty_120 hF) ?_
    refine Tr.tp 127 (fx_120_18 hF) ?_
    refine Tr.aload_n (pc := 5) (i := 0) d_X12_span_5 rfl rfl ?_
    refine Tr.getf (pc := 6) d_X12_span_6 f_12_48 (by decide) (by decide) (ty_120 hF) ?_
    refine Tr.tp 0 ((rd_wb _ rfl).trans ((rd_wb _ rfl).trans ((rd_wb _ rfl).trans ((rd_wb _ rfl).trans ((rd_wb _ rfl).trans ((rd_wb _ rfl).trans ((rd_wb _ rfl).trans ((rd_wb _ rfl).trans ((rd_wb _ rfl).trans ((rd_wb _ rfl).trans ((rd_wb _ rfl).trans ((rd_wb _ rfl).trans ((rd_wb _ rfl).trans ((rd_wb _ rfl).trans ((rd_wb _ rfl).trans ((rd_wb _ rfl).trans ((rd_wb _ rfl).trans ((rd_wb _ rfl).trans ((rd_wb _ rfl).trans ((rd_wb _ rfl).trans ((rd_wb _ rfl).trans ((rd_wb _ rfl).trans ((rd_wb _ rfl).trans ((rd_wb _ rfl).trans ((rd_wb _ rfl).trans ((rd_wb _ rfl).trans ((rd_wb _ rfl).trans ((rd_wb _ rfl).trans ((rd_wb _ rfl).trans ((rd_wb _ rfl).trans ((rd_wb _ rfl).trans ((rd_wb _ rfl).trans ((rd_wb _ rfl).trans ((rd_wb _ rfl).trans ((rd_wb _ rfl).trans ((rd_wb _ rfl).trans ((rd_wb _ rfl).trans ((rd_wb _ rfl).trans ((rd_wb _ rfl).trans ((rd_wb _ rfl).trans ((rd_wb _ rfl).trans ((rd_wb _ rfl).trans ((rd_wb _ rfl).trans ((rd_wb _ rfl).trans ((rd_wb _ rfl).trans ((rd_wb _ rfl).trans ((rd_wb _ rfl).trans ((rd_wb _ rfl).trans ((rd_wb _ rfl).trans ((rd_wb _ rfl).trans ((rd_wb _ rfl).trans ((rd_wb _ rfl).trans ((rd_wb _ rfl).trans ((rd_wb _ rfl).trans ((rd_wb _ rfl).trans ((rd_wb _ rfl).trans ((rd_wb _ rfl).trans ((rd_wb _ rfl).trans ((rd_wb _ rfl).trans ((rd_wb _ rfl).trans ((rd_wb _ rfl).trans ((rd_wb _ rfl).trans ((rd_wb _ rfl).trans ((rd_wb _ rfl).trans ((rd_wb _ rfl).trans ((rd_wb _ rfl).trans ((rd_wb _ rfl).trans ((rd_wb _ rfl).trans ((rd_wb _ rfl).trans ((rd_wb _ rfl).trans ((rd_wb _ rfl).trans ((rd_wb _ rfl).trans ((rd_wb _ rfl).trans ((rd_wb _ rfl).trans ((rd_wb _ rfl).trans ((rd_wb _ rfl).trans ((rd_wb _ rfl).trans ((rd_wb _ rfl).trans ((rd_wb _ rfl).trans ((rd_wb _ rfl).trans ((rd_wb _ rfl).trans ((rd_cb _ rfl).trans ((rd_wb _ rfl).trans ((rd_cb _ rfl).trans ((rd_wb _ rfl).trans ((rd_wb _ rfl).trans ((rd_fb _ rfl).trans ((rd_wb _ rfl).trans ((rd_wb _ rfl).trans ((rd_wb _ rfl).trans ((rd_wb _ rfl).trans ((rd_wb _ rfl).trans ((rd_wb _ rfl).trans ((rd_wb _ rfl).trans ((rd_wb _ rfl).trans ((rd_wb _ rfl).trans ((rd_fb _ rfl).trans ((rd_fb _ rfl).trans ((rd_fb _ rfl).trans ((rd_fb _ rfl).trans ((rd_fb _ rfl).trans ((rd_cb _ rfl).trans ((rd_wb _ rfl).trans ((rd_cb _ rfl).trans (b_120_12))))))))))))))))))))))))))))))))))))))))))))))))))))))))))))))))))))))))))))))))))))))))))))))))))))))))) ?_
    refine Tr.iald (pc := 9) d_X12_span_9 (ty_127 hF) (by decide) (by decide) ?_
    refine Tr.tp 0 ((rd_wb _ rfl).trans ((rd_wb _ rfl).trans ((rd_wb _ rfl).trans ((rd_wb _ rfl).trans ((rd_wb _ rfl).trans ((rd_wb _ rfl).trans ((rd_wb _ rfl).trans ((rd_wb _ rfl).trans ((rd_wb _ rfl).trans ((rd_wb _ rfl).trans ((rd_wb _ rfl).trans ((rd_wb _ rfl).trans ((rd_wb _ rfl).trans ((rd_wb _ rfl).trans ((rd_wb _ rfl).trans ((rd_wb _ rfl).trans ((rd_wb _ rfl).trans ((rd_wb _ rfl).trans ((rd_wb _ rfl).trans ((rd_wb _ rfl).trans ((rd_wb _ rfl).trans ((rd_wb _ rfl).trans ((rd_wb _ rfl).trans ((rd_wb _ rfl).trans ((rd_wb _ rfl).trans ((rd_wb _ rfl).trans ((rd_wb _ rfl).trans ((rd_wb _ rfl).trans ((rd_wb _ rfl).trans ((rd_wb _ rfl).trans ((rd_wb _ rfl).trans ((rd_wb _ rfl).trans ((rd_wb _ rfl).trans ((rd_wb _ rfl).trans ((rd_wb _ rfl).trans ((rd_wb _ rfl).trans ((rd_wb _ rfl).trans ((rd_wb _ rfl).trans ((rd_wb _ rfl).trans ((rd_wb _ rfl).trans ((rd_wb _ rfl).trans ((rd_wb _ rfl).trans ((rd_wb _ rfl).trans ((rd_wb _ rfl).trans ((rd_wb _ rfl).trans ((rd_wb _ rfl).trans ((rd_wb _ rfl).trans ((rd_wb _ rfl).trans ((rd_wb _ rfl).trans ((rd_wb _ rfl).trans ((rd_wb _ rfl).trans ((rd_wb _ rfl).trans ((rd_wb _ rfl).trans ((rd_wb _ rfl).trans ((rd_wb _ rfl).trans ((rd_wb _ rfl).trans ((rd_wb _ rfl).trans ((rd_wb _ rfl).trans ((rd_wb _ rfl).trans ((rd_wb _ rfl).trans ((rd_wb _ rfl).trans ((rd_wb _ rfl).trans ((rd_wb _ rfl).trans ((rd_wb _ rfl).trans ((rd_wb _ rfl).trans ((rd_wb _ rfl).trans ((rd_wb _ rfl).trans ((rd_wb _ rfl).trans ((rd_wb _ rfl).trans ((rd_wb _ rfl).trans ((rd_wb _ rfl).trans ((rd_wb _ rfl).trans ((rd_wb _ rfl).trans ((rd_wb _ rfl).trans ((rd_wb _ rfl).trans ((rd_wb _ rfl).trans ((rd_wb _ rfl).trans ((rd_wb _ rfl).trans ((rd_wb _ rfl).trans ((rd_wb _ rfl).trans ((rd_wb _ rfl).trans ((rd_cb _ rfl).trans ((rd_wb _ rfl).trans ((rd_cb _ rfl).trans ((rd_wb _ rfl).trans ((rd_wb _ rfl).trans ((rd_fb _ rfl).trans ((rd_wb _ rfl).trans ((rd_wb _ rfl).trans ((rd_wb _ rfl).trans ((rd_wb _ rfl).trans ((rd_wb _ rfl).trans ((rd_wb _ rfl).trans ((rd_wb _ rfl).trans ((rd_wb _ rfl).trans ((rd_wb _ rfl).trans ((rd_fb _ rfl).trans ((rd_fb _ rfl).trans ((rd_fb _ rfl).trans ((rd_fb _ rfl).trans ((rd_fb _ rfl).trans ((rd_cb _ rfl).trans ((rd_wb _ rfl).trans ((rd_cb _ rfl).trans (b_127_0))))))))))))))))))))))))))))))))))))))))))))))))))))))))))))))))))))))))))))))))))))))))))))))))))))))))) ?_
    refine Tr.icmp_ge (pc := 10) (tgt := 45) d_X12_span_10 rfl (fun _ => ?_) (fun hc => absurd (by decide) hc)
    refine Tr.iconst (pc := 45) d_X12_span_45 (by decide) ?_
    refine Tr.iret (pc := 46) d_X12_span_46 rfl ?_
    refine Tr.sc [_, _] rfl ?_
    refine Tr.icmp_ge (pc := 40) (tgt := 208) d_X12_over_40 rfl (fun _ => ?_) (fun hc => absurd (by decide) hc)
    refine Tr.aload_n (pc := 208) (i := 0) d_X12_over_208 rfl rfl ?_
    refine Tr.iconst (pc := 209) d_X12_over_209 (by decide) ?_
    refine Tr.putzX (pc := 210) d_X12_over_210 f_12_327 (by decide) (ty_120 hF) (by decide) hF (by decide +kernel) (fun hF => ?_)
    refine Tr.lload_n (pc := 213) (i := 2) d_X12_over_213 rfl rfl ?_
    refine Tr.l2i (pc := 214) d_X12_over_214 ?_
    refine Tr.tp 0 rfl ?_
    refine Tr.iret (pc := 215) d_X12_over_215 rfl ?_
    refine Tr.sc [_, _] rfl ?_
    refine Tr.icmp_eq (pc := 743) (tgt := 998) d_L_law_743 rfl (fun _ => ?_) (fun hc => absurd (by decide) hc)
    refine Tr.iinc (pc := 998) (ls2 := [(3, (0, 6)), (2, (2, 120)), (1, (2, 0)), (0, (2, (-2)))]) d_L_law_998 rfl (by decide) rfl ?_
    refine Tr.goto (pc := 1001) (tgt := 18) d_L_law_1001 rfl ?_
    refine Tr.iload_n (pc := 18) (i := 3) d_L_law_18 rfl rfl ?_
    refine Tr.aload_n (pc := 19) (i := 0) d_L_law_19 rfl rfl ?_
    refine Tr.xlen (pc := 20) (i := 0) d_L_law_20 rfl he (by decide) ?_
    refine Tr.tp 6 rfl ?_
    refine Tr.bipush (pc := 21) d_L_law_21 rfl (by decide) ?_
    refine Tr.isub (pc := 23) d_L_law_23 ?_
    refine Tr.tp 0 rfl ?_
    refine Tr.icmp_gt (pc := 24) (tgt := 1004) d_L_law_24 rfl (fun _ => ?_) (fun hc => absurd (by decide) hc)
    refine Tr.iconst (pc := 1004) d_L_law_1004 (by decide) ?_
    exact Tr.zret (pc := 1005) d_L_law_1005 rfl (by decide) ⟨rfl, Fx_room hF⟩
