/-! calls on a fresh pair -/
set_option maxRecDepth 100000 in
set_option maxHeartbeats 4000000 in
theorem op_run {l : Launch} {K : EC} {f : Int → Int} (he : e_ext K 0 6 f) (hr : ∀ j, -2147483648 ≤ f j ∧ f j ≤ 2147483647) : Tr l K 20 mL_law 381 [(3, (0, 0)), (2, (2, 120)), (1, (2, 0)), (0, (2, -2))] [] C_461 (fun M' r => r = some (0, 1) ∧ M'.1 ≤ 600000 ∧ M'.2.1 ≤ room_1.slots) := by
  obtain ⟨a1, g1⟩ : ∃ a, f 1 = a := ⟨_, rfl⟩
  have r1 := hr 1
  rw [g1] at r1
  obtain ⟨a2, g2⟩ : ∃ a, f 2 = a := ⟨_, rfl⟩
  have r2 := hr 2
  rw [g2] at r2
  obtain ⟨a3, g3⟩ : ∃ a, f 3 = a := ⟨_, rfl⟩
  have r3 := hr 3
  rw [g3] at r3
  obtain ⟨a4, g4⟩ : ∃ a, f 4 = a := ⟨_, rfl⟩
  have r4 := hr 4
  rw [g4] at r4
  obtain ⟨a5, g5⟩ : ∃ a, f 5 = a := ⟨_, rfl⟩
  have r5 := hr 5
  rw [g5] at r5
  have hF := Fx_0
  refine Tr.aload_n (pc := 381) (i := 1) d_L_law_381 rfl rfl ?_
  refine Tr.aload_n (pc := 382) (i := 0) d_L_law_382 rfl rfl ?_
  refine Tr.iload_n (pc := 383) (i := 3) d_L_law_383 rfl rfl ?_
  refine Tr.iconst (pc := 384) d_L_law_384 (by decide) ?_
  refine Tr.iadd (pc := 385) d_L_law_385 ?_
  refine Tr.tp 1 rfl ?_
  refine Tr.xld (pc := 386) (i := 0) d_L_law_386 rfl he (by decide) (by decide) ?_
  refine Tr.tp a1 g1 ?_
  refine Tr.callV (pc := 387) (as := [_]) d_L_law_387 s_13_47 ok_X11_run rfl rfl (Nat.le_of_ble_eq_true rfl) (Nat.le_of_ble_eq_true rfl) (by decide) (ty_0 hF) ?_
  refine Tr.lc [(0, (2, 0)), (1, (0, _))] rfl ?_
  refine Tr.iload_n (pc := 0) (i := 1) d_X11_run_0 rfl rfl ?_
  refine Tr.iconst (pc := 1) d_X11_run_1 (by decide) ?_
  refine Tr.icmp_ge (pc := 2) (tgt := 8) d_X11_run_2 rfl (fun h1 => ?_) (fun h1 => ?_)
  · refine Tr.aload_n (pc := 8) (i := 0) d_X11_run_8 rfl rfl ?_
    refine Tr.getf (pc := 9) d_X11_run_9 f_11_46 (by decide) (by decide) (ty_0 hF) ?_
    refine Tr.tp 48 (fx_0_7 hF) ?_
    refine Tr.aload_n (pc := 12) (i := 0) d_X11_run_12 rfl rfl ?_
    refine Tr.getf (pc := 13) d_X11_run_13 f_11_30 (by decide) (by decide) (ty_0 hF) ?_
    refine Tr.tp 7 (b_0_4) ?_
    refine Tr.aload_n (pc := 16) (i := 0) d_X11_run_16 rfl rfl ?_
    refine Tr.getf (pc := 17) d_X11_run_17 f_11_37 (by decide) (by decide) (ty_0 hF) ?_
    refine Tr.tp 47 (fx_0_6 hF) ?_
    refine Tr.iload_n (pc := 20) (i := 1) d_X11_run_20 rfl rfl ?_
    refine Tr.callV (pc := 21) (as := [_, _, _]) d_X11_run_21 s_11_144 ok_X6_go rfl rfl (Nat.le_of_ble_eq_true rfl) (Nat.le_of_ble_eq_true rfl) (by decide) (ty_48 hF) ?_
    refine Tr.lc [(0, (2, 48)), (1, (2, 7)), (2, (2, 47)), (3, (0, _))] rfl ?_
    refine Tr.aload_n (pc := 0) (i := 0) d_X6_go_0 rfl rfl ?_
    refine Tr.aload_n (pc := 1) (i := 1) d_X6_go_1 rfl rfl ?_
    refine Tr.aload_n (pc := 2) (i := 2) d_X6_go_2 rfl rfl ?_
    refine Tr.iload_n (pc := 3) (i := 3) d_X6_go_3 rfl rfl ?_
    refine Tr.callV (pc := 4) (as := [_, _, _]) d_X6_go_4 s_6_42 ok_X6_begin rfl rfl (Nat.le_of_ble_eq_true rfl) (Nat.le_of_ble_eq_true rfl) (by decide) (ty_48 hF) ?_
    refine Tr.lc [(0, (2, 48)), (1, (2, 7)), (2, (2, 47)), (3, (0, _))] rfl ?_
    refine Tr.aload_n (pc := 0) (i := 0) d_X6_begin_0 rfl rfl ?_
    refine Tr.aload_n (pc := 1) (i := 1) d_X6_begin_1 rfl rfl ?_
    refine Tr.putfX (pc := 2) d_X6_begin_2 f_6_46 (by decide) (by decide) (ty_48 hF) hF (by decide +kernel) (fun hF => ?_)
    refine Tr.aload_n (pc := 5) (i := 2) d_X6_begin_5 rfl rfl ?_
    refine Tr.iconst (pc := 6) d_X6_begin_6 (by decide) ?_
    refine Tr.aload_n (pc := 7) (i := 0) d_X6_begin_7 rfl rfl ?_
    refine Tr.getf (pc := 8) d_X6_begin_8 f_6_9 (by decide) (by decide) (ty_48 hF) ?_
    refine Tr.tp 49 (fx_48_2 hF) ?_
    refine Tr.iconst (pc := 11) d_X6_begin_11 (by decide) ?_
    refine Tr.iconst (pc := 12) d_X6_begin_12 (by decide) ?_
    refine Tr.acopyX (pc := 13) (x := 47) (y := 49) d_X6_begin_13 ac_6_85 acw.1 acw.2.1 acw.2.2 (ty_47 hF) (ty_49 hF) (by decide) (by decide) (by decide) (by decide) (by decide) (Nat.le_of_ble_eq_true rfl) hF (by decide +kernel) (fun hF => ?_)
    refine Tr.aload_n (pc := 16) (i := 0) d_X6_begin_16 rfl rfl ?_
    refine Tr.getf (pc := 17) d_X6_begin_17 f_6_15 (by decide) (by decide) (ty_48 hF) ?_
    refine Tr.tp 50 (fx_48_3 hF) ?_
    refine Tr.iconst (pc := 20) d_X6_begin_20 (by decide) ?_
    refine Tr.callS (pc := 21) (as := [_, _]) d_X6_begin_21 s_6_91 ok_J7_fill_53178 rfl rfl (Nat.le_of_ble_eq_true rfl) (Nat.le_of_ble_eq_true rfl) ?_
    refine Tr.imp (sp_fillX (N := 6) (ty_50 hF) (by decide) hF (by decide +kernel)) ?_
    rintro _ _ ⟨rfl, rfl, hF⟩
    refine Tr.sc [] rfl ?_
    refine Tr.aload_n (pc := 24) (i := 0) d_X6_begin_24 rfl rfl ?_
    refine Tr.getf (pc := 25) d_X6_begin_25 f_6_21 (by decide) (by decide) (ty_48 hF) ?_
    refine Tr.tp 52 (fx_48_5 hF) ?_
    refine Tr.iconst (pc := 28) d_X6_begin_28 (by decide) ?_
    refine Tr.callS (pc := 29) (as := [_, _]) d_X6_begin_29 s_6_91 ok_J7_fill_53178 rfl rfl (Nat.le_of_ble_eq_true rfl) (Nat.le_of_ble_eq_true rfl) ?_
    refine Tr.imp (sp_fillX (N := 8) (ty_52 hF) (by decide) hF (by decide +kernel)) ?_
    rintro _ _ ⟨rfl, rfl, hF⟩
    refine Tr.sc [] rfl ?_
    refine Tr.aload_n (pc := 32) (i := 0) d_X6_begin_32 rfl rfl ?_
    refine Tr.getf (pc := 33) d_X6_begin_33 f_6_24 (by decide) (by decide) (ty_48 hF) ?_
    refine Tr.tp 53 (fx_48_6 hF) ?_
    refine Tr.iconst (pc := 36) d_X6_begin_36 (by decide) ?_
    refine Tr.callS (pc := 37) (as := [_, _]) d_X6_begin_37 s_6_91 ok_J7_fill_53178 rfl rfl (Nat.le_of_ble_eq_true rfl) (Nat.le_of_ble_eq_true rfl) ?_
    refine Tr.imp (sp_fillX (N := 6) (ty_53 hF) (by decide) hF (by decide +kernel)) ?_
    rintro _ _ ⟨rfl, rfl, hF⟩
    refine Tr.sc [] rfl ?_
    refine Tr.aload_n (pc := 40) (i := 0) d_X6_begin_40 rfl rfl ?_
    refine Tr.getf (pc := 41) d_X6_begin_41 f_6_27 (by decide) (by decide) (ty_48 hF) ?_
    refine Tr.tp 54 (fx_48_7 hF) ?_
    refine Tr.iconst (pc := 44) d_X6_begin_44 (by decide) ?_
    refine Tr.callS (pc := 45) (as := [_, _]) d_X6_begin_45 s_6_91 ok_J7_fill_53178 rfl rfl (Nat.le_of_ble_eq_true rfl) (Nat.le_of_ble_eq_true rfl) ?_
    refine Tr.imp (sp_fillX (N := 6) (ty_54 hF) (by decide) hF (by decide +kernel)) ?_
    rintro _ _ ⟨rfl, rfl, hF⟩
    refine Tr.sc [] rfl ?_
    refine Tr.aload_n (pc := 48) (i := 0) d_X6_begin_48 rfl rfl ?_
    refine Tr.getf (pc := 49) d_X6_begin_49 f_6_30 (by decide) (by decide) (ty_48 hF) ?_
    refine Tr.tp 55 (fx_48_8 hF) ?_
    refine Tr.iconst (pc := 52) d_X6_begin_52 (by decide) ?_
    refine Tr.callS (pc := 53) (as := [_, _]) d_X6_begin_53 s_6_91 ok_J7_fill_53178 rfl rfl (Nat.le_of_ble_eq_true rfl) (Nat.le_of_ble_eq_true rfl) ?_
    refine Tr.imp (sp_fillX (N := 6) (ty_55 hF) (by decide) hF (by decide +kernel)) ?_
    rintro _ _ ⟨rfl, rfl, hF⟩
    refine Tr.sc [] rfl ?_
    refine Tr.aload_n (pc := 56) (i := 0) d_X6_begin_56 rfl rfl ?_
    refine Tr.iconst (pc := 57) d_X6_begin_57 (by decide) ?_
    refine Tr.putfX (pc := 58) d_X6_begin_58 f_6_68 (by decide) (by decide) (ty_48 hF) hF (by decide +kernel) (fun hF => ?_)
    refine Tr.aload_n (pc := 61) (i := 0) d_X6_begin_61 rfl rfl ?_
    refine Tr.iconst (pc := 62) d_X6_begin_62 (by decide) ?_
    refine Tr.putfX (pc := 63) d_X6_begin_63 f_6_97 (by decide) (by decide) (ty_48 hF) hF (by decide +kernel) (fun hF => ?_)
    refine Tr.aload_n (pc := 66) (i := 0) d_X6_begin_66 rfl rfl ?_
    refine Tr.iconst (pc := 67) d_X6_begin_67 (by decide) ?_
    refine Tr.putfX (pc := 68) d_X6_begin_68 f_6_100 (by decide) (by decide) (ty_48 hF) hF (by decide +kernel) (fun hF => ?_)
    refine Tr.aload_n (pc := 71) (i := 0) d_X6_begin_71 rfl rfl ?_
    refine Tr.iconst (pc := 72) d_X6_begin_72 (by decide) ?_
    refine Tr.putfX (pc := 73) d_X6_begin_73 f_6_103 (by decide) (by decide) (ty_48 hF) hF (by decide +kernel) (fun hF => ?_)
    refine Tr.aload_n (pc := 76) (i := 0) d_X6_begin_76 rfl rfl ?_
    refine Tr.iconst (pc := 77) d_X6_begin_77 (by decide) ?_
    refine Tr.putfX (pc := 78) d_X6_begin_78 f_6_62 (by decide) (by decide) (ty_48 hF) hF (by decide +kernel) (fun hF => ?_)
    refine Tr.aload_n (pc := 81) (i := 0) d_X6_begin_81 rfl rfl ?_
    refine Tr.iconst (pc := 82) d_X6_begin_82 (by decide) ?_
    refine Tr.putfX (pc := 83) d_X6_begin_83 f_6_79 (by decide) (by decide) (ty_48 hF) hF (by decide +kernel) (fun hF => ?_)
    refine Tr.aload_n (pc := 86) (i := 0) d_X6_begin_86 rfl rfl ?_
    refine Tr.iload_n (pc := 87) (i := 3) d_X6_begin_87 rfl rfl ?_
    refine Tr.if_lt (pc := 88) (tgt := 95) d_X6_begin_88 rfl (fun h2 => ?_) (fun h2 => ?_)
    · refine Tr.iconst (pc := 95) d_X6_begin_95 (by decide) ?_
      refine Tr.putzX (pc := 96) d_X6_begin_96 f_6_106 (by decide) (ty_48 hF) (by decide) hF (by decide +kernel) (fun hF => ?_)
      refine Tr.aload_n (pc := 99) (i := 0) d_X6_begin_99 rfl rfl ?_
      refine Tr.iload_n (pc := 100) (i := 3) d_X6_begin_100 rfl rfl ?_
      refine Tr.putfX (pc := 101) d_X6_begin_101 f_6_110 (by decide) (by decide) (ty_48 hF) hF (by decide +kernel) (fun hF => ?_)
      refine Tr.aload_n (pc := 104) (i := 0) d_X6_begin_104 rfl rfl ?_
      refine Tr.getf (pc := 105) d_X6_begin_105 f_6_38 (by decide) (by decide) (ty_48 hF) ?_
      refine Tr.tp 56 (fx_48_0 hF) ?_
      refine Tr.aload_n (pc := 108) (i := 1) d_X6_begin_108 rfl rfl ?_
      refine Tr.callV (pc := 109) (as := [_]) d_X6_begin_109 s_6_113 ok_X1_begin rfl rfl (Nat.le_of_ble_eq_true rfl) (Nat.le_of_ble_eq_true rfl) (by decide) (ty_56 hF) ?_
      refine Tr.lc [(0, (2, 56)), (1, (2, 7))] rfl ?_
      refine Tr.aload_n (pc := 0) (i := 0) d_X1_begin_0 rfl rfl ?_
      refine Tr.aload_n (pc := 1) (i := 1) d_X1_begin_1 rfl rfl ?_
      refine Tr.putfX (pc := 2) d_X1_begin_2 f_1_41 (by decide) (by decide) (ty_56 hF) hF (by decide +kernel) (fun hF => ?_)
      refine Tr.aload_n (pc := 5) (i := 0) d_X1_begin_5 rfl rfl ?_
      refine Tr.getf (pc := 6) d_X1_begin_6 f_1_9 (by decide) (by decide) (ty_56 hF) ?_
      refine Tr.tp 57 (fx_56_2 hF) ?_
      refine Tr.iconst (pc := 9) d_X1_begin_9 (by decide) ?_
      refine Tr.callS (pc := 10) (as := [_, _]) d_X1_begin_10 s_1_45 ok_J7_fill_53178 rfl rfl (Nat.le_of_ble_eq_true rfl) (Nat.le_of_ble_eq_true rfl) ?_
      refine Tr.imp (sp_fillX (N := 24) (ty_57 hF) (by decide) hF (by decide +kernel)) ?_
      rintro _ _ ⟨rfl, rfl, hF⟩
      refine Tr.sc [] rfl ?_
      refine Tr.aload_n (pc := 13) (i := 0) d_X1_begin_13 rfl rfl ?_
      refine Tr.getz (pc := 14) d_X1_begin_14 f_1_37 (by decide) (ty_56 hF) ?_
      refine Tr.tp 1 ((rd_fb _ rfl).trans ((rd_wb _ rfl).trans ((rd_wb _ rfl).trans ((rd_wb _ rfl).trans ((rd_wb _ rfl).trans ((rd_wb _ rfl).trans ((rd_wb _ rfl).trans ((rd_wb _ rfl).trans ((rd_wb _ rfl).trans ((rd_wb _ rfl).trans ((rd_fb _ rfl).trans ((rd_fb _ rfl).trans ((rd_fb _ rfl).trans ((rd_fb _ rfl).trans ((rd_fb _ rfl).trans ((rd_cb _ rfl).trans ((rd_wb _ rfl).trans (b_56_0)))))))))))))))))) ?_
      refine Tr.if_eq (pc := 17) (tgt := 67) d_X1_begin_17 rfl (fun hc => absurd hc (by decide)) (fun _ => ?_)
      refine Tr.aload_n (pc := 20) (i := 0) d_X1_begin_20 rfl rfl ?_
      refine Tr.getf (pc := 21) d_X1_begin_21 f_1_15 (by decide) (by decide) (ty_56 hF) ?_
      refine Tr.tp 58 (fx_56_3 hF) ?_
      refine Tr.iconst (pc := 24) d_X1_begin_24 (by decide) ?_
      refine Tr.callS (pc := 25) (as := [_, _]) d_X1_begin_25 s_1_45 ok_J7_fill_53178 rfl rfl (Nat.le_of_ble_eq_true rfl) (Nat.le_of_ble_eq_true rfl) ?_
      refine Tr.imp (sp_fillX (N := 6) (ty_58 hF) (by decide) hF (by decide +kernel)) ?_
      rintro _ _ ⟨rfl, rfl, hF⟩
      refine Tr.sc [] rfl ?_
      refine Tr.aload_n (pc := 28) (i := 0) d_X1_begin_28 rfl rfl ?_
      refine Tr.getf (pc := 29) d_X1_begin_29 f_1_18 (by decide) (by decide) (ty_56 hF) ?_
      refine Tr.tp 59 (fx_56_4 hF) ?_
      refine Tr.iconst (pc := 32) d_X1_begin_32 (by decide) ?_
      refine Tr.callS (pc := 33) (as := [_, _]) d_X1_begin_33 s_1_45 ok_J7_fill_53178 rfl rfl (Nat.le_of_ble_eq_true rfl) (Nat.le_of_ble_eq_true rfl) ?_
      refine Tr.imp (sp_fillX (N := 6) (ty_59 hF) (by decide) hF (by decide +kernel)) ?_
      rintro _ _ ⟨rfl, rfl, hF⟩
      refine Tr.sc [] rfl ?_
      refine Tr.aload_n (pc := 36) (i := 0) d_X1_begin_36 rfl rfl ?_
      refine Tr.getf (pc := 37) d_X1_begin_37 f_1_21 (by decide) (by decide) (ty_56 hF) ?_
      refine Tr.tp 60 (fx_56_5 hF) ?_
      refine Tr.iconst (pc := 40) d_X1_begin_40 (by decide) ?_
      refine Tr.callS (pc := 41) (as := [_, _]) d_X1_begin_41 s_1_45 ok_J7_fill_53178 rfl rfl (Nat.le_of_ble_eq_true rfl) (Nat.le_of_ble_eq_true rfl) ?_
      refine Tr.imp (sp_fillX (N := 60) (ty_60 hF) (by decide) hF (by decide +kernel)) ?_
      rintro _ _ ⟨rfl, rfl, hF⟩
      refine Tr.sc [] rfl ?_
      refine Tr.aload_n (pc := 44) (i := 0) d_X1_begin_44 rfl rfl ?_
      refine Tr.getf (pc := 45) d_X1_begin_45 f_1_24 (by decide) (by decide) (ty_56 hF) ?_
      refine Tr.tp 61 (fx_56_6 hF) ?_
      refine Tr.iconst (pc := 48) d_X1_begin_48 (by decide) ?_
      refine Tr.callS (pc := 49) (as := [_, _]) d_X1_begin_49 s_1_45 ok_J7_fill_53178 rfl rfl (Nat.le_of_ble_eq_true rfl) (Nat.le_of_ble_eq_true rfl) ?_
      refine Tr.imp (sp_fillX (N := 60) (ty_61 hF) (by decide) hF (by decide +kernel)) ?_
      rintro _ _ ⟨rfl, rfl, hF⟩
      refine Tr.sc [] rfl ?_
      refine Tr.aload_n (pc := 52) (i := 0) d_X1_begin_52 rfl rfl ?_
      refine Tr.getf (pc := 53) d_X1_begin_53 f_1_27 (by decide) (by decide) (ty_56 hF) ?_
      refine Tr.tp 62 (fx_56_7 hF) ?_
      refine Tr.iconst (pc := 56) d_X1_begin_56 (by decide) ?_
      refine Tr.callS (pc := 57) (as := [_, _]) d_X1_begin_57 s_1_45 ok_J7_fill_53178 rfl rfl (Nat.le_of_ble_eq_true rfl) (Nat.le_of_ble_eq_true rfl) ?_
      refine Tr.imp (sp_fillX (N := 60) (ty_62 hF) (by decide) hF (by decide +kernel)) ?_
      rintro _ _ ⟨rfl, rfl, hF⟩
      refine Tr.sc [] rfl ?_
      refine Tr.aload_n (pc := 60) (i := 0) d_X1_begin_60 rfl rfl ?_
      refine Tr.getf (pc := 61) d_X1_begin_61 f_1_33 (by decide) (by decide) (ty_56 hF) ?_
      refine Tr.tp 63 (fx_56_8 hF) ?_
      refine Tr.callV (pc := 64) (as := []) d_X1_begin_64 s_1_51 ok_X8_clear rfl rfl (Nat.le_of_ble_eq_true rfl) (Nat.le_of_ble_eq_true rfl) (by decide) (ty_63 hF) ?_
      refine Tr.lc [(0, (2, 63))] rfl ?_
      refine Tr.aload_n (pc := 0) (i := 0) d_X8_clear_0 rfl rfl ?_
      refine Tr.iconst (pc := 1) d_X8_clear_1 (by decide) ?_
      refine Tr.putfX (pc := 2) d_X8_clear_2 f_8_43 (by decide) (by decide) (ty_63 hF) hF (by decide +kernel) (fun hF => ?_)
      refine Tr.aload_n (pc := 5) (i := 0) d_X8_clear_5 rfl rfl ?_
      refine Tr.iconst (pc := 6) d_X8_clear_6 (by decide) ?_
      refine Tr.putfX (pc := 7) d_X8_clear_7 f_8_47 (by decide) (by decide) (ty_63 hF) hF (by decide +kernel) (fun hF => ?_)
      refine Tr.aload_n (pc := 10) (i := 0) d_X8_clear_10 rfl rfl ?_
      refine Tr.getf (pc := 11) d_X8_clear_11 f_8_28 (by decide) (by decide) (ty_63 hF) ?_
      refine Tr.tp 69 (fx_63_6 hF) ?_
      refine Tr.iconst (pc := 14) d_X8_clear_14 (by decide) ?_
      refine Tr.callS (pc := 15) (as := [_, _]) d_X8_clear_15 s_8_50 ok_J7_fill_53178 rfl rfl (Nat.le_of_ble_eq_true rfl) (Nat.le_of_ble_eq_true rfl) ?_
      refine Tr.imp (sp_fillX (N := 6) (ty_69 hF) (by decide) hF (by decide +kernel)) ?_
      rintro _ _ ⟨rfl, rfl, hF⟩
      refine Tr.sc [] rfl ?_
      refine Tr.vret (pc := 18) d_X8_clear_18 rfl ?_
      refine Tr.sc [] rfl ?_
      refine Tr.vret (pc := 67) d_X1_begin_67 rfl ?_
      refine Tr.sc [] rfl ?_
      refine Tr.vret (pc := 112) d_X6_begin_112 rfl ?_
      refine Tr.sc [] rfl ?_
      refine Tr.iconst (pc := 7) d_X6_go_7 (by decide) ?_
      refine Tr.istore (pc := 8) (i := 4) (ls2 := [(4, (0, 0)), (0, (2, 48)), (1, (2, 7)), (2, (2, 47)), (3, (0, _))]) d_X6_go_8 (by decide) rfl ?_
      refine Tr.iconst (pc := 10) d_X6_go_10 (by decide) ?_
      refine Tr.istore (pc := 11) (i := 5) (ls2 := [(5, (0, 0)), (4, (0, 0)), (0, (2, 48)), (1, (2, 7)), (2, (2, 47)), (3, (0, _))]) d_X6_go_11 (by decide) rfl ?_
      refine Tr.iload (pc := 13) (i := 5) d_X6_go_13 rfl ?_
      refine Tr.sipush (pc := 15) d_X6_go_15 rfl (by decide) ?_
      refine Tr.icmp_gt (pc := 18) (tgt := 103) d_X6_go_18 rfl (fun hc => absurd hc (by decide)) (fun _ => ?_)
      refine Tr.iload (pc := 21) (i := 4) d_X6_go_21 rfl ?_
      refine Tr.aload_n (pc := 23) (i := 0) d_X6_go_23 rfl rfl ?_
      refine Tr.getf (pc := 24) d_X6_go_24 f_6_46 (by decide) (by decide) (ty_48 hF) ?_
      refine Tr.tp 7 ((rd_fb _ rfl).trans ((rd_wb _ rfl).trans ((rd_wb _ rfl).trans ((rd_fb _ rfl).trans ((rd_fb _ rfl).trans ((rd_fb _ rfl).trans ((rd_fb _ rfl).trans ((rd_fb _ rfl).trans ((rd_fb _ rfl).trans ((rd_wb _ rfl).trans ((rd_wb _ rfl).trans ((rd_wb _ rfl).trans ((rd_wb _ rfl).trans ((rd_wb _ rfl).trans ((rd_wb _ rfl).trans ((rd_wb _ rfl).trans ((rd_wb _ rfl).trans ((rd_wb _ rfl).trans ((rd_fb _ rfl).trans ((rd_fb _ rfl).trans ((rd_fb _ rfl).trans ((rd_fb _ rfl).trans ((rd_fb _ rfl).trans ((rd_cb _ rfl).trans (rd_ws _ _ _ _))))))))))))))))))))))))) ?_
      refine Tr.getf (pc := 27) d_X6_go_27 f_6_50 (by decide) (by decide) (ty_7 hF) ?_
      refine Tr.tp 15 (fx_7_11 hF) ?_
      refine Tr.getf (pc := 30) d_X6_go_30 f_6_56 (by decide) (by decide) (ty_15 hF) ?_
      refine Tr.tp 0 ((rd_fb _ rfl).trans ((rd_wb _ rfl).trans ((rd_wb _ rfl).trans ((rd_fb _ rfl).trans ((rd_fb _ rfl).trans ((rd_fb _ rfl).trans ((rd_fb _ rfl).trans ((rd_fb _ rfl).trans ((rd_fb _ rfl).trans ((rd_wb _ rfl).trans ((rd_wb _ rfl).trans ((rd_wb _ rfl).trans ((rd_wb _ rfl).trans ((rd_wb _ rfl).trans ((rd_wb _ rfl).trans ((rd_wb _ rfl).trans ((rd_wb _ rfl).trans ((rd_wb _ rfl).trans ((rd_fb _ rfl).trans ((rd_fb _ rfl).trans ((rd_fb _ rfl).trans ((rd_fb _ rfl).trans ((rd_fb _ rfl).trans ((rd_cb _ rfl).trans ((rd_wb _ rfl).trans (b_15_0)))))))))))))))))))))))))) ?_
      refine Tr.icmp_ge (pc := 33) (tgt := 103) d_X6_go_33 rfl (fun _ => ?_) (fun hc => absurd (by decide) hc)
      refine Tr.aload_n (pc := 103) (i := 0) d_X6_go_103 rfl rfl ?_
      refine Tr.callV (pc := 104) (as := []) d_X6_go_104 s_6_82 ok_X6_finish rfl rfl (Nat.le_of_ble_eq_true rfl) (Nat.le_of_ble_eq_true rfl) (by decide) (ty_48 hF) ?_
      refine Tr.lc [(0, (2, 48))] rfl ?_
      refine Tr.aload_n (pc := 0) (i := 0) d_X6_finish_0 rfl rfl ?_
      refine Tr.getf (pc := 1) d_X6_finish_1 f_6_68 (by decide) (by decide) (ty_48 hF) ?_
      refine Tr.tp 0 ((rd_fb _ rfl).trans ((rd_wb _ rfl).trans ((rd_wb _ rfl).trans ((rd_fb _ rfl).trans ((rd_fb _ rfl).trans ((rd_fb _ rfl).trans ((rd_fb _ rfl).trans ((rd_fb _ rfl).trans ((rd_fb _ rfl).trans ((rd_wb _ rfl).trans ((rd_wb _ rfl).trans ((rd_wb _ rfl).trans ((rd_wb _ rfl).trans ((rd_wb _ rfl).trans ((rd_wb _ rfl).trans ((rd_wb _ rfl).trans ((rd_wb _ rfl).trans (rd_ws _ _ _ _)))))))))))))))))) ?_
      refine Tr.istore_n (pc := 4) (i := 1) (ls2 := [(1, (0, 0)), (0, (2, 48))]) d_X6_finish_4 rfl (by decide) rfl ?_
      refine Tr.aload_n (pc := 5) (i := 0) d_X6_finish_5 rfl rfl ?_
      refine Tr.getf (pc := 6) d_X6_finish_6 f_6_46 (by decide) (by decide) (ty_48 hF) ?_
      refine Tr.tp 7 ((rd_fb _ rfl).trans ((rd_wb _ rfl).trans ((rd_wb _ rfl).trans ((rd_fb _ rfl).trans ((rd_fb _ rfl).trans ((rd_fb _ rfl).trans ((rd_fb _ rfl).trans ((rd_fb _ rfl).trans ((rd_fb _ rfl).trans ((rd_wb _ rfl).trans ((rd_wb _ rfl).trans ((rd_wb _ rfl).trans ((rd_wb _ rfl).trans ((rd_wb _ rfl).trans ((rd_wb _ rfl).trans ((rd_wb _ rfl).trans ((rd_wb _ rfl).trans ((rd_wb _ rfl).trans ((rd_fb _ rfl).trans ((rd_fb _ rfl).trans ((rd_fb _ rfl).trans ((rd_fb _ rfl).trans ((rd_fb _ rfl).trans ((rd_cb _ rfl).trans (rd_ws _ _ _ _))))))))))))))))))))))))) ?_
      refine Tr.getf (pc := 9) d_X6_finish_9 f_6_116 (by decide) (by decide) (ty_7 hF) ?_
      refine Tr.tp 8 (fx_7_4 hF) ?_
      refine Tr.iconst (pc := 12) d_X6_finish_12 (by decide) ?_
      refine Tr.iald (pc := 13) d_X6_finish_13 (ty_8 hF) (by decide) (by decide) ?_
      refine Tr.tp 0 ((rd_fb _ rfl).trans ((rd_wb _ rfl).trans ((rd_wb _ rfl).trans ((rd_fb _ rfl).trans ((rd_fb _ rfl).trans ((rd_fb _ rfl).trans ((rd_fb _ rfl).trans ((rd_fb _ rfl).trans ((rd_fb _ rfl).trans ((rd_wb _ rfl).trans ((rd_wb _ rfl).trans ((rd_wb _ rfl).trans ((rd_wb _ rfl).trans ((rd_wb _ rfl).trans ((rd_wb _ rfl).trans ((rd_wb _ rfl).trans ((rd_wb _ rfl).trans ((rd_wb _ rfl).trans ((rd_fb _ rfl).trans ((rd_fb _ rfl).trans ((rd_fb _ rfl).trans ((rd_fb _ rfl).trans ((rd_fb _ rfl).trans ((rd_cb _ rfl).trans ((rd_wb _ rfl).trans (b_8_0)))))))))))))))))))))))))) ?_
      refine Tr.istore_n (pc := 14) (i := 2) (ls2 := [(2, (0, 0)), (1, (0, 0)), (0, (2, 48))]) d_X6_finish_14 rfl (by decide) rfl ?_
      refine Tr.iconst (pc := 15) d_X6_finish_15 (by decide) ?_
      refine Tr.istore_n (pc := 16) (i := 3) (ls2 := [(3, (0, 0)), (2, (0, 0)), (1, (0, 0)), (0, (2, 48))]) d_X6_finish_16 rfl (by decide) rfl ?_
      refine Tr.iload_n (pc := 17) (i := 3) d_X6_finish_17 rfl rfl ?_
      refine Tr.iload_n (pc := 18) (i := 2) d_X6_finish_18 rfl rfl ?_
      refine Tr.icmp_ge (pc := 19) (tgt := 61) d_X6_finish_19 rfl (fun _ => ?_) (fun hc => absurd (by decide) hc)
      refine Tr.iconst (pc := 61) d_X6_finish_61 (by decide) ?_
      refine Tr.istore_n (pc := 62) (i := 3) (ls2 := [(3, (0, 0)), (2, (0, 0)), (1, (0, 0)), (0, (2, 48))]) d_X6_finish_62 rfl (by decide) rfl ?_
      refine Tr.iload_n (pc := 63) (i := 3) d_X6_finish_63 rfl rfl ?_
      refine Tr.iload_n (pc := 64) (i := 2) d_X6_finish_64 rfl rfl ?_
      refine Tr.icmp_ge (pc := 65) (tgt := 129) d_X6_finish_65 rfl (fun _ => ?_) (fun hc => absurd (by decide) hc)
      refine Tr.aload_n (pc := 129) (i := 0) d_X6_finish_129 rfl rfl ?_
      refine Tr.iload_n (pc := 130) (i := 1) d_X6_finish_130 rfl rfl ?_
      refine Tr.aload_n (pc := 131) (i := 0) d_X6_finish_131 rfl rfl ?_
      refine Tr.getf (pc := 132) d_X6_finish_132 f_6_46 (by decide) (by decide) (ty_48 hF) ?_
      refine Tr.tp 7 ((rd_fb _ rfl).trans ((rd_wb _ rfl).trans ((rd_wb _ rfl).trans ((rd_fb _ rfl).trans ((rd_fb _ rfl).trans ((rd_fb _ rfl).trans ((rd_fb _ rfl).trans ((rd_fb _ rfl).trans ((rd_fb _ rfl).trans ((rd_wb _ rfl).trans ((rd_wb _ rfl).trans ((rd_wb _ rfl).trans ((rd_wb _ rfl).trans ((rd_wb _ rfl).trans ((rd_wb _ rfl).trans ((rd_wb _ rfl).trans ((rd_wb _ rfl).trans ((rd_wb _ rfl).trans ((rd_fb _ rfl).trans ((rd_fb _ rfl).trans ((rd_fb _ rfl).trans ((rd_fb _ rfl).trans ((rd_fb _ rfl).trans ((rd_cb _ rfl).trans (rd_ws _ _ _ _))))))))))))))))))))))))) ?_
      refine Tr.getf (pc := 135) d_X6_finish_135 f_6_135 (by decide) (by decide) (ty_7 hF) ?_
      refine Tr.tp 1 ((rd_fb _ rfl).trans ((rd_wb _ rfl).trans ((rd_wb _ rfl).trans ((rd_fb _ rfl).trans ((rd_fb _ rfl).trans ((rd_fb _ rfl).trans ((rd_fb _ rfl).trans ((rd_fb _ rfl).trans ((rd_fb _ rfl).trans ((rd_wb _ rfl).trans ((rd_wb _ rfl).trans ((rd_wb _ rfl).trans ((rd_wb _ rfl).trans ((rd_wb _ rfl).trans ((rd_wb _ rfl).trans ((rd_wb _ rfl).trans ((rd_wb _ rfl).trans ((rd_wb _ rfl).trans ((rd_fb _ rfl).trans ((rd_fb _ rfl).trans ((rd_fb _ rfl).trans ((rd_fb _ rfl).trans ((rd_fb _ rfl).trans ((rd_cb _ rfl).trans ((rd_wb _ rfl).trans (b_7_0)))))))))))))))))))))))))) ?_
      refine Tr.imul (pc := 138) d_X6_finish_138 ?_
      refine Tr.tp 0 rfl ?_
      refine Tr.aload_n (pc := 139) (i := 0) d_X6_finish_139 rfl rfl ?_
      refine Tr.getf (pc := 140) d_X6_finish_140 f_6_38 (by decide) (by decide) (ty_48 hF) ?_
      refine Tr.tp 56 (fx_48_0 hF) ?_
      refine Tr.callV (pc := 143) (as := []) d_X6_finish_143 s_6_138 ok_X1_sippedByParts rfl rfl (Nat.le_of_ble_eq_true rfl) (Nat.le_of_ble_eq_true rfl) (by decide) (ty_56 hF) ?_
      refine Tr.lc [(0, (2, 56))] rfl ?_
      refine Tr.iconst (pc := 0) d_X1_sippedByParts_0 (by decide) ?_
      refine Tr.istore_n (pc := 1) (i := 1) (ls2 := [(1, (0, 0)), (0, (2, 56))]) d_X1_sippedByParts_1 rfl (by decide) rfl ?_
      refine Tr.iconst (pc := 2) d_X1_sippedByParts_2 (by decide) ?_
      refine Tr.istore_n (pc := 3) (i := 2) (ls2 := [(2, (0, 0)), (1, (0, 0)), (0, (2, 56))]) d_X1_sippedByParts_3 rfl (by decide) rfl ?_
      refine Tr.iload_n (pc := 4) (i := 2) d_X1_sippedByParts_4 rfl rfl ?_
      refine Tr.aload_n (pc := 5) (i := 0) d_X1_sippedByParts_5 rfl rfl ?_
      refine Tr.getf (pc := 6) d_X1_sippedByParts_6 f_1_41 (by decide) (by decide) (ty_56 hF) ?_
      refine Tr.tp 7 ((rd_fb _ rfl).trans ((rd_wb _ rfl).trans ((rd_wb _ rfl).trans ((rd_fb _ rfl).trans ((rd_fb _ rfl).trans ((rd_fb _ rfl).trans ((rd_fb _ rfl).trans ((rd_fb _ rfl).trans ((rd_fb _ rfl).trans (rd_ws _ _ _ _)))))))))) ?_
      refine Tr.getf (pc := 9) d_X1_sippedByParts_9 f_1_91 (by decide) (by decide) (ty_7 hF) ?_
      refine Tr.tp 8 (fx_7_4 hF) ?_
      refine Tr.iconst (pc := 12) d_X1_sippedByParts_12 (by decide) ?_
      refine Tr.iald (pc := 13) d_X1_sippedByParts_13 (ty_8 hF) (by decide) (by decide) ?_
      refine Tr.tp 0 ((rd_fb _ rfl).trans ((rd_wb _ rfl).trans ((rd_wb _ rfl).trans ((rd_fb _ rfl).trans ((rd_fb _ rfl).trans ((rd_fb _ rfl).trans ((rd_fb _ rfl).trans ((rd_fb _ rfl).trans ((rd_fb _ rfl).trans ((rd_wb _ rfl).trans ((rd_wb _ rfl).trans ((rd_wb _ rfl).trans ((rd_wb _ rfl).trans ((rd_wb _ rfl).trans ((rd_wb _ rfl).trans ((rd_wb _ rfl).trans ((rd_wb _ rfl).trans ((rd_wb _ rfl).trans ((rd_fb _ rfl).trans ((rd_fb _ rfl).trans ((rd_fb _ rfl).trans ((rd_fb _ rfl).trans ((rd_fb _ rfl).trans ((rd_cb _ rfl).trans ((rd_wb _ rfl).trans (b_8_0)))))))))))))))))))))))))) ?_
      refine Tr.iconst (pc := 14) d_X1_sippedByParts_14 (by decide) ?_
      refine Tr.imul (pc := 15) d_X1_sippedByParts_15 ?_
      refine Tr.tp 0 rfl ?_
      refine Tr.icmp_ge (pc := 16) (tgt := 44) d_X1_sippedByParts_16 rfl (fun _ => ?_) (fun hc => absurd (by decide) hc)
      refine Tr.iload_n (pc := 44) (i := 1) d_X1_sippedByParts_44 rfl rfl ?_
      refine Tr.iret (pc := 45) d_X1_sippedByParts_45 rfl ?_
      refine Tr.sc [_, _, _] rfl ?_
      refine Tr.iadd (pc := 146) d_X6_finish_146 ?_
      refine Tr.tp 0 rfl ?_
      refine Tr.putfX (pc := 147) d_X6_finish_147 f_6_142 (by decide) (by decide) (ty_48 hF) hF (by decide +kernel) (fun hF => ?_)
      refine Tr.vret (pc := 150) d_X6_finish_150 rfl ?_
      refine Tr.sc [] rfl ?_
      refine Tr.vret (pc := 107) d_X6_go_107 rfl ?_
      refine Tr.sc [] rfl ?_
      refine Tr.aload_n (pc := 24) (i := 0) d_X11_run_24 rfl rfl ?_
      refine Tr.getf (pc := 25) d_X11_run_25 f_11_56 (by decide) (by decide) (ty_0 hF) ?_
      refine Tr.tp 100 (fx_0_10 hF) ?_
      refine Tr.callV (pc := 28) (as := []) d_X11_run_28 s_11_148 ok_X9_clear rfl rfl (Nat.le_of_ble_eq_true rfl) (Nat.le_of_ble_eq_true rfl) (by decide) (ty_100 hF) ?_
      refine Tr.lc [(0, (2, 100))] rfl ?_
      refine Tr.aload_n (pc := 0) (i := 0) d_X9_clear_0 rfl rfl ?_
      refine Tr.iconst (pc := 1) d_X9_clear_1 (by decide) ?_
      refine Tr.putfX (pc := 2) d_X9_clear_2 f_9_19 (by decide) (by decide) (ty_100 hF) hF (by decide +kernel) (fun hF => ?_)
      refine Tr.vret (pc := 5) d_X9_clear_5 rfl ?_
      refine Tr.sc [] rfl ?_
      refine Tr.aload_n (pc := 31) (i := 0) d_X11_run_31 rfl rfl ?_
      refine Tr.iconst (pc := 32) d_X11_run_32 (by decide) ?_
      refine Tr.putzX (pc := 33) d_X11_run_33 f_11_109 (by decide) (ty_0 hF) (by decide) hF (by decide +kernel) (fun hF => ?_)
      refine Tr.aload_n (pc := 36) (i := 0) d_X11_run_36 rfl rfl ?_
      refine Tr.getf (pc := 37) d_X11_run_37 f_11_46 (by decide) (by decide) (ty_0 hF) ?_
      refine Tr.tp 48 (fx_0_7 hF) ?_
      refine Tr.getf (pc := 40) d_X11_run_40 f_11_149 (by decide) (by decide) (ty_48 hF) ?_
      refine Tr.tp 0 ((rd_wb _ rfl).trans ((rd_wb _ rfl).trans ((rd_wb _ rfl).trans ((rd_fb _ rfl).trans ((rd_wb _ rfl).trans ((rd_wb _ rfl).trans ((rd_fb _ rfl).trans ((rd_fb _ rfl).trans ((rd_fb _ rfl).trans ((rd_fb _ rfl).trans ((rd_fb _ rfl).trans ((rd_fb _ rfl).trans ((rd_wb _ rfl).trans ((rd_wb _ rfl).trans ((rd_wb _ rfl).trans ((rd_wb _ rfl).trans (rd_ws _ _ _ _))))))))))))))))) ?_
      refine Tr.iret (pc := 43) d_X11_run_43 rfl ?_
      refine Tr.sc [_] rfl ?_
      refine Tr.aload_n (pc := 390) (i := 2) d_L_law_390 rfl rfl ?_
      refine Tr.aload_n (pc := 391) (i := 0) d_L_law_391 rfl rfl ?_
      refine Tr.iload_n (pc := 392) (i := 3) d_L_law_392 rfl rfl ?_
      refine Tr.iconst (pc := 393) d_L_law_393 (by decide) ?_
      refine Tr.iadd (pc := 394) d_L_law_394 ?_
      refine Tr.tp 1 rfl ?_
      refine Tr.xld (pc := 395) (i := 0) d_L_law_395 rfl he (by decide) (by decide) ?_
      refine Tr.tp a1 g1 ?_
      refine Tr.callV (pc := 396) (as := [_]) d_L_law_396 s_13_50 ok_X12_run rfl rfl (Nat.le_of_ble_eq_true rfl) (Nat.le_of_ble_eq_true rfl) (by decide) (ty_120 hF) ?_
      refine Tr.lc [(0, (2, 120)), (1, (0, _))] rfl ?_
      refine Tr.iload_n (pc := 0) (i := 1) d_X12_run_0 rfl rfl ?_
      refine Tr.iconst (pc := 1) d_X12_run_1 (by decide) ?_
      refine Tr.icmp_ge (pc := 2) (tgt := 8) d_X12_run_2 rfl (fun _ => ?_) (fun hc => absurd (by omega) hc)
      refine Tr.iconst (pc := 8) d_X12_run_8 (by decide) ?_
      refine Tr.istore_n (pc := 9) (i := 2) (ls2 := [(2, (0, 0)), (0, (2, 120)), (1, (0, _))]) d_X12_run_9 rfl (by decide) rfl ?_
      refine Tr.iload_n (pc := 10) (i := 2) d_X12_run_10 rfl rfl ?_
      refine Tr.iconst (pc := 11) d_X12_run_11 (by decide) ?_
      refine Tr.icmp_ge (pc := 12) (tgt := 33) d_X12_run_12 rfl (fun hc => absurd hc (by decide)) (fun _ => ?_)
      refine Tr.aload_n (pc := 15) (i := 0) d_X12_run_15 rfl rfl ?_
      refine Tr.getf (pc := 16) d_X12_run_16 f_12_171 (by decide) (by decide) (ty_120 hF) ?_
      refine Tr.tp 154 (fx_120_52 hF) ?_
      refine Tr.iload_n (pc := 19) (i := 2) d_X12_run_19 rfl rfl ?_
      refine Tr.aload_n (pc := 20) (i := 0) d_X12_run_20 rfl rfl ?_
      refine Tr.getf (pc := 21) d_X12_run_21 f_12_168 (by decide) (by decide) (ty_120 hF) ?_
      refine Tr.tp 153 (fx_120_51 hF) ?_
      refine Tr.iload_n (pc := 24) (i := 2) d_X12_run_24 rfl rfl ?_
      refine Tr.iald (pc := 25) d_X12_run_25 (ty_153 hF) (by decide) (by decide) ?_
      refine Tr.tp 0 ((rd_wb _ rfl).trans ((rd_wb _ rfl).trans ((rd_wb _ rfl).trans ((rd_fb _ rfl).trans ((rd_wb _ rfl).trans ((rd_wb _ rfl).trans ((rd_fb _ rfl).trans ((rd_fb _ rfl).trans ((rd_fb _ rfl).trans ((rd_fb _ rfl).trans ((rd_fb _ rfl).trans ((rd_fb _ rfl).trans ((rd_wb _ rfl).trans ((rd_wb _ rfl).trans ((rd_wb _ rfl).trans ((rd_wb _ rfl).trans ((rd_wb _ rfl).trans ((rd_wb _ rfl).trans ((rd_wb _ rfl).trans ((rd_wb _ rfl).trans ((rd_wb _ rfl).trans ((rd_fb _ rfl).trans ((rd_fb _ rfl).trans ((rd_fb _ rfl).trans ((rd_fb _ rfl).trans ((rd_fb _ rfl).trans ((rd_cb _ rfl).trans ((rd_wb _ rfl).trans (b_153_0))))))))))))))))))))))))))))) ?_
      refine Tr.iastX (pc := 26) d_X12_run_26 (ty_154 hF) (by decide) (by decide) hF (by decide +kernel) (fun hF => ?_)
      refine Tr.iinc (pc := 27) (ls2 := [(2, (0, 1)), (0, (2, 120)), (1, (0, _))]) d_X12_run_27 rfl (by decide) rfl ?_
      refine Tr.goto (pc := 30) (tgt := 10) d_X12_run_30 rfl ?_
      refine Tr.iload_n (pc := 10) (i := 2) d_X12_run_10 rfl rfl ?_
      refine Tr.iconst (pc := 11) d_X12_run_11 (by decide) ?_
      refine Tr.icmp_ge (pc := 12) (tgt := 33) d_X12_run_12 rfl (fun hc => absurd hc (by decide)) (fun _ => ?_)
      refine Tr.aload_n (pc := 15) (i := 0) d_X12_run_15 rfl rfl ?_
      refine Tr.getf (pc := 16) d_X12_run_16 f_12_171 (by decide) (by decide) (ty_120 hF) ?_
      refine Tr.tp 154 (fx_120_52 hF) ?_
      refine Tr.iload_n (pc := 19) (i := 2) d_X12_run_19 rfl rfl ?_
      refine Tr.aload_n (pc := 20) (i := 0) d_X12_run_20 rfl rfl ?_
      refine Tr.getf (pc := 21) d_X12_run_21 f_12_168 (by decide) (by decide) (ty_120 hF) ?_
      refine Tr.tp 153 (fx_120_51 hF) ?_
      refine Tr.iload_n (pc := 24) (i := 2) d_X12_run_24 rfl rfl ?_
      refine Tr.iald (pc := 25) d_X12_run_25 (ty_153 hF) (by decide) (by decide) ?_
      refine Tr.tp 0 ((rd_wb _ rfl).trans ((rd_wb _ rfl).trans ((rd_wb _ rfl).trans ((rd_wb _ rfl).trans ((rd_fb _ rfl).trans ((rd_wb _ rfl).trans ((rd_wb _ rfl).trans ((rd_fb _ rfl).trans ((rd_fb _ rfl).trans ((rd_fb _ rfl).trans ((rd_fb _ rfl).trans ((rd_fb _ rfl).trans ((rd_fb _ rfl).trans ((rd_wb _ rfl).trans ((rd_wb _ rfl).trans ((rd_wb _ rfl).trans ((rd_wb _ rfl).trans ((rd_wb _ rfl).trans ((rd_wb _ rfl).trans ((rd_wb _ rfl).trans ((rd_wb _ rfl).trans ((rd_wb _ rfl).trans ((rd_fb _ rfl).trans ((rd_fb _ rfl).trans ((rd_fb _ rfl).trans ((rd_fb _ rfl).trans ((rd_fb _ rfl).trans ((rd_cb _ rfl).trans ((rd_wb _ rfl).trans (b_153_1)))))))))))))))))))))))))))))) ?_
      refine Tr.iastX (pc := 26) d_X12_run_26 (ty_154 hF) (by decide) (by decide) hF (by decide +kernel) (fun hF => ?_)
      refine Tr.iinc (pc := 27) (ls2 := [(2, (0, 2)), (0, (2, 120)), (1, (0, _))]) d_X12_run_27 rfl (by decide) rfl ?_
      refine Tr.goto (pc := 30) (tgt := 10) d_X12_run_30 rfl ?_
      refine Tr.iload_n (pc := 10) (i := 2) d_X12_run_10 rfl rfl ?_
      refine Tr.iconst (pc := 11) d_X12_run_11 (by decide) ?_
      refine Tr.icmp_ge (pc := 12) (tgt := 33) d_X12_run_12 rfl (fun hc => absurd hc (by decide)) (fun _ => ?_)
      refine Tr.aload_n (pc := 15) (i := 0) d_X12_run_15 rfl rfl ?_
      refine Tr.getf (pc := 16) d_X12_run_16 f_12_171 (by decide) (by decide) (ty_120 hF) ?_
      refine Tr.tp 154 (fx_120_52 hF) ?_
      refine Tr.iload_n (pc := 19) (i := 2) d_X12_run_19 rfl rfl ?_
      refine Tr.aload_n (pc := 20) (i := 0) d_X12_run_20 rfl rfl ?_
      refine Tr.getf (pc := 21) d_X12_run_21 f_12_168 (by decide) (by decide) (ty_120 hF) ?_
      refine Tr.tp 153 (fx_120_51 hF) ?_
      refine Tr.iload_n (pc := 24) (i := 2) d_X12_run_24 rfl rfl ?_
      refine Tr.iald (pc := 25) d_X12_run_25 (ty_153 hF) (by decide) (by decide) ?_
      refine Tr.tp 0 ((rd_wb _ rfl).trans ((rd_wb _ rfl).trans ((rd_wb _ rfl).trans ((rd_wb _ rfl).trans ((rd_wb _ rfl).trans ((rd_fb _ rfl).trans ((rd_wb _ rfl).trans ((rd_wb _ rfl).trans ((rd_fb _ rfl).trans ((rd_fb _ rfl).trans ((rd_fb _ rfl).trans ((rd_fb _ rfl).trans ((rd_fb _ rfl).trans ((rd_fb _ rfl).trans ((rd_wb _ rfl).trans ((rd_wb _ rfl).trans ((rd_wb _ rfl).trans ((rd_wb _ rfl).trans ((rd_wb _ rfl).trans ((rd_wb _ rfl).trans ((rd_wb _ rfl).trans ((rd_wb _ rfl).trans ((rd_wb _ rfl).trans ((rd_fb _ rfl).trans ((rd_fb _ rfl).trans ((rd_fb _ rfl).trans ((rd_fb _ rfl).trans ((rd_fb _ rfl).trans ((rd_cb _ rfl).trans ((rd_wb _ rfl).trans (b_153_2))))))))))))))))))))))))))))))) ?_
      refine Tr.iastX (pc := 26) d_X12_run_26 (ty_154 hF) (by decide) (by decide) hF (by decide +kernel) (fun hF => ?_)
      refine Tr.iinc (pc := 27) (ls2 := [(2, (0, 3)), (0, (2, 120)), (1, (0, _))]) d_X12_run_27 rfl (by decide) rfl ?_
      refine Tr.goto (pc := 30) (tgt := 10) d_X12_run_30 rfl ?_
      refine Tr.iload_n (pc := 10) (i := 2) d_X12_run_10 rfl rfl ?_
      refine Tr.iconst (pc := 11) d_X12_run_11 (by decide) ?_
      refine Tr.icmp_ge (pc := 12) (tgt := 33) d_X12_run_12 rfl (fun _ => ?_) (fun hc => absurd (by decide) hc)
      refine Tr.aload_n (pc := 33) (i := 0) d_X12_run_33 rfl rfl ?_
      refine Tr.iconst (pc := 34) d_X12_run_34 (by decide) ?_
      refine Tr.putzX (pc := 35) d_X12_run_35 f_12_225 (by decide) (ty_120 hF) (by decide) hF (by decide +kernel) (fun hF => ?_)
      refine Tr.aload_n (pc := 38) (i := 0) d_X12_run_38 rfl rfl ?_
      refine Tr.iload_n (pc := 39) (i := 1) d_X12_run_39 rfl rfl ?_
      refine Tr.i2l (pc := 40) d_X12_run_40 ?_
      refine Tr.callV (pc := 41) (as := [_]) d_X12_run_41 s_12_637 ok_X12_runs rfl rfl (Nat.le_of_ble_eq_true rfl) (Nat.le_of_ble_eq_true rfl) (by decide) (ty_120 hF) ?_
      refine Tr.lc [(0, (2, 120)), (1, (1, _))] rfl ?_
      refine Tr.iconst (pc := 0) d_X12_runs_0 (by decide) ?_
      refine Tr.istore_n (pc := 1) (i := 3) (ls2 := [(3, (0, 0)), (0, (2, 120)), (1, (1, _))]) d_X12_runs_1 rfl (by decide) rfl ?_
      refine Tr.iload_n (pc := 2) (i := 3) d_X12_runs_2 rfl rfl ?_
      refine Tr.bipush (pc := 3) d_X12_runs_3 rfl (by decide) ?_
      refine Tr.icmp_ge (pc := 5) (tgt := 21) d_X12_runs_5 rfl (fun hc => absurd hc (by decide)) (fun _ => ?_)
      refine Tr.aload_n (pc := 8) (i := 0) d_X12_runs_8 rfl rfl ?_
      refine Tr.getf (pc := 9) d_X12_runs_9 f_12_174 (by decide) (by decide) (ty_120 hF) ?_
      refine Tr.tp 155 (fx_120_53 hF) ?_
      refine Tr.iload_n (pc := 12) (i := 3) d_X12_runs_12 rfl rfl ?_
      refine Tr.iconst (pc := 13) d_X12_runs_13 (by decide) ?_
      refine Tr.iastX (pc := 14) d_X12_runs_14 (ty_155 hF) (by decide) (by decide) hF (by decide +kernel) (fun hF => ?_)
      refine Tr.iinc (pc := 15) (ls2 := [(3, (0, 1)), (0, (2, 120)), (1, (1, _))]) d_X12_runs_15 rfl (by decide) rfl ?_
      refine Tr.goto (pc := 18) (tgt := 2) d_X12_runs_18 rfl ?_
      refine Tr.iload_n (pc := 2) (i := 3) d_X12_runs_2 rfl rfl ?_
      refine Tr.bipush (pc := 3) d_X12_runs_3 rfl (by decide) ?_
      refine Tr.icmp_ge (pc := 5) (tgt := 21) d_X12_runs_5 rfl (fun hc => absurd hc (by decide)) (fun _ => ?_)
      refine Tr.aload_n (pc := 8) (i := 0) d_X12_runs_8 rfl rfl ?_
      refine Tr.getf (pc := 9) d_X12_runs_9 f_12_174 (by decide) (by decide) (ty_120 hF) ?_
      refine Tr.tp 155 (fx_120_53 hF) ?_
      refine Tr.iload_n (pc := 12) (i := 3) d_X12_runs_12 rfl rfl ?_
      refine Tr.iconst (pc := 13) d_X12_runs_13 (by decide) ?_
      refine Tr.iastX (pc := 14) d_X12_runs_14 (ty_155 hF) (by decide) (by decide) hF (by decide +kernel) (fun hF => ?_)
      refine Tr.iinc (pc := 15) (ls2 := [(3, (0, 2)), (0, (2, 120)), (1, (1, _))]) d_X12_runs_15 rfl (by decide) rfl ?_
      refine Tr.goto (pc := 18) (tgt := 2) d_X12_runs_18 rfl ?_
      refine Tr.iload_n (pc := 2) (i := 3) d_X12_runs_2 rfl rfl ?_
      refine Tr.bipush (pc := 3) d_X12_runs_3 rfl (by decide) ?_
      refine Tr.icmp_ge (pc := 5) (tgt := 21) d_X12_runs_5 rfl (fun hc => absurd hc (by decide)) (fun _ => ?_)
      refine Tr.aload_n (pc := 8) (i := 0) d_X12_runs_8 rfl rfl ?_
      refine Tr.getf (pc := 9) d_X12_runs_9 f_12_174 (by decide) (by decide) (ty_120 hF) ?_
      refine Tr.tp 155 (fx_120_53 hF) ?_
      refine Tr.iload_n (pc := 12) (i := 3) d_X12_runs_12 rfl rfl ?_
      refine Tr.iconst (pc := 13) d_X12_runs_13 (by decide) ?_
      refine Tr.iastX (pc := 14) d_X12_runs_14 (ty_155 hF) (by decide) (by decide) hF (by decide +kernel) (fun hF => ?_)
      refine Tr.iinc (pc := 15) (ls2 := [(3, (0, 3)), (0, (2, 120)), (1, (1, _))]) d_X12_runs_15 rfl (by decide) rfl ?_
      refine Tr.goto (pc := 18) (tgt := 2) d_X12_runs_18 rfl ?_
      refine Tr.iload_n (pc := 2) (i := 3) d_X12_runs_2 rfl rfl ?_
      refine Tr.bipush (pc := 3) d_X12_runs_3 rfl (by decide) ?_
      refine Tr.icmp_ge (pc := 5) (tgt := 21) d_X12_runs_5 rfl (fun hc => absurd hc (by decide)) (fun _ => ?_)
      refine Tr.aload_n (pc := 8) (i := 0) d_X12_runs_8 rfl rfl ?_
      refine Tr.getf (pc := 9) d_X12_runs_9 f_12_174 (by decide) (by decide) (ty_120 hF) ?_
      refine Tr.tp 155 (fx_120_53 hF) ?_
      refine Tr.iload_n (pc := 12) (i := 3) d_X12_runs_12 rfl rfl ?_
      refine Tr.iconst (pc := 13) d_X12_runs_13 (by decide) ?_
      refine Tr.iastX (pc := 14) d_X12_runs_14 (ty_155 hF) (by decide) (by decide) hF (by decide +kernel) (fun hF => ?_)
      refine Tr.iinc (pc := 15) (ls2 := [(3, (0, 4)), (0, (2, 120)), (1, (1, _))]) d_X12_runs_15 rfl (by decide) rfl ?_
      refine Tr.goto (pc := 18) (tgt := 2) d_X12_runs_18 rfl ?_
      refine Tr.iload_n (pc := 2) (i := 3) d_X12_runs_2 rfl rfl ?_
      refine Tr.bipush (pc := 3) d_X12_runs_3 rfl (by decide) ?_
      refine Tr.icmp_ge (pc := 5) (tgt := 21) d_X12_runs_5 rfl (fun hc => absurd hc (by decide)) (fun _ => ?_)
      refine Tr.aload_n (pc := 8) (i := 0) d_X12_runs_8 rfl rfl ?_
      refine Tr.getf (pc := 9) d_X12_runs_9 f_12_174 (by decide) (by decide) (ty_120 hF) ?_
      refine Tr.tp 155 (fx_120_53 hF) ?_
      refine Tr.iload_n (pc := 12) (i := 3) d_X12_runs_12 rfl rfl ?_
      refine Tr.iconst (pc := 13) d_X12_runs_13 (by decide) ?_
      refine Tr.iastX (pc := 14) d_X12_runs_14 (ty_155 hF) (by decide) (by decide) hF (by decide +kernel) (fun hF => ?_)
      refine Tr.iinc (pc := 15) (ls2 := [(3, (0, 5)), (0, (2, 120)), (1, (1, _))]) d_X12_runs_15 rfl (by decide) rfl ?_
      refine Tr.goto (pc := 18) (tgt := 2) d_X12_runs_18 rfl ?_
      refine Tr.iload_n (pc := 2) (i := 3) d_X12_runs_2 rfl rfl ?_
      refine Tr.bipush (pc := 3) d_X12_runs_3 rfl (by decide) ?_
      refine Tr.icmp_ge (pc := 5) (tgt := 21) d_X12_runs_5 rfl (fun hc => absurd hc (by decide)) (fun _ => ?_)
      refine Tr.aload_n (pc := 8) (i := 0) d_X12_runs_8 rfl rfl ?_
      refine Tr.getf (pc := 9) d_X12_runs_9 f_12_174 (by decide) (by decide) (ty_120 hF) ?_
      refine Tr.tp 155 (fx_120_53 hF) ?_
      refine Tr.iload_n (pc := 12) (i := 3) d_X12_runs_12 rfl rfl ?_
      refine Tr.iconst (pc := 13) d_X12_runs_13 (by decide) ?_
      refine Tr.iastX (pc := 14) d_X12_runs_14 (ty_155 hF) (by decide) (by decide) hF (by decide +kernel) (fun hF => ?_)
      refine Tr.iinc (pc := 15) (ls2 := [(3, (0, 6)), (0, (2, 120)), (1, (1, _))]) d_X12_runs_15 rfl (by decide) rfl ?_
      refine Tr.goto (pc := 18) (tgt := 2) d_X12_runs_18 rfl ?_
      refine Tr.iload_n (pc := 2) (i := 3) d_X12_runs_2 rfl rfl ?_
      refine Tr.bipush (pc := 3) d_X12_runs_3 rfl (by decide) ?_
      refine Tr.icmp_ge (pc := 5) (tgt := 21) d_X12_runs_5 rfl (fun _ => ?_) (fun hc => absurd (by decide) hc)
      refine Tr.iconst (pc := 21) d_X12_runs_21 (by decide) ?_
      refine Tr.istore_n (pc := 22) (i := 3) (ls2 := [(3, (0, 0)), (0, (2, 120)), (1, (1, _))]) d_X12_runs_22 rfl (by decide) rfl ?_
      refine Tr.iload_n (pc := 23) (i := 3) d_X12_runs_23 rfl rfl ?_
      refine Tr.bipush (pc := 24) d_X12_runs_24 rfl (by decide) ?_
      refine Tr.icmp_ge (pc := 26) (tgt := 63) d_X12_runs_26 rfl (fun hc => absurd hc (by decide)) (fun _ => ?_)
      refine Tr.aload_n (pc := 29) (i := 0) d_X12_runs_29 rfl rfl ?_
      refine Tr.getf (pc := 30) d_X12_runs_30 f_12_177 (by decide) (by decide) (ty_120 hF) ?_
      refine Tr.tp 156 (fx_120_54 hF) ?_
      refine Tr.iload_n (pc := 33) (i := 3) d_X12_runs_33 rfl rfl ?_
      refine Tr.iconst (pc := 34) d_X12_runs_34 (by decide) ?_
      refine Tr.zastX (pc := 35) d_X12_runs_35 (ty_156 hF) (by decide) (by decide) (by decide) hF (by decide +kernel) (fun hF => ?_)
      refine Tr.aload_n (pc := 36) (i := 0) d_X12_runs_36 rfl rfl ?_
      refine Tr.getf (pc := 37) d_X12_runs_37 f_12_180 (by decide) (by decide) (ty_120 hF) ?_
      refine Tr.tp 157 (fx_120_55 hF) ?_
      refine Tr.iload_n (pc := 40) (i := 3) d_X12_runs_40 rfl rfl ?_
      refine Tr.iconst (pc := 41) d_X12_runs_41 (by decide) ?_
      refine Tr.iastX (pc := 42) d_X12_runs_42 (ty_157 hF) (by decide) (by decide) hF (by decide +kernel) (fun hF => ?_)
      refine Tr.aload_n (pc := 43) (i := 0) d_X12_runs_43 rfl rfl ?_
      refine Tr.getf (pc := 44) d_X12_runs_44 f_12_183 (by decide) (by decide) (ty_120 hF) ?_
      refine Tr.tp 158 (fx_120_56 hF) ?_
      refine Tr.iload_n (pc := 47) (i := 3) d_X12_runs_47 rfl rfl ?_
      refine Tr.iconst (pc := 48) d_X12_runs_48 (by decide) ?_
      refine Tr.iastX (pc := 49) d_X12_runs_49 (ty_158 hF) (by decide) (by decide) hF (by decide +kernel) (fun hF => ?_)
      refine Tr.aload_n (pc := 50) (i := 0) d_X12_runs_50 rfl rfl ?_
      refine Tr.getf (pc := 51) d_X12_runs_51 f_12_186 (by decide) (by decide) (ty_120 hF) ?_
      refine Tr.tp 159 (fx_120_57 hF) ?_
      refine Tr.iload_n (pc := 54) (i := 3) d_X12_runs_54 rfl rfl ?_
      refine Tr.iconst (pc := 55) d_X12_runs_55 (by decide) ?_
      refine Tr.iastX (pc := 56) d_X12_runs_56 (ty_159 hF) (by decide) (by decide) hF (by decide +kernel) (fun hF => ?_)
      refine Tr.iinc (pc := 57) (ls2 := [(3, (0, 1)), (0, (2, 120)), (1, (1, _))]) d_X12_runs_57 rfl (by decide) rfl ?_
      refine Tr.goto (pc := 60) (tgt := 23) d_X12_runs_60 rfl ?_
      refine Tr.iload_n (pc := 23) (i := 3) d_X12_runs_23 rfl rfl ?_
      refine Tr.bipush (pc := 24) d_X12_runs_24 rfl (by decide) ?_
      refine Tr.icmp_ge (pc := 26) (tgt := 63) d_X12_runs_26 rfl (fun hc => absurd hc (by decide)) (fun _ => ?_)
      refine Tr.aload_n (pc := 29) (i := 0) d_X12_runs_29 rfl rfl ?_
      refine Tr.getf (pc := 30) d_X12_runs_30 f_12_177 (by decide) (by decide) (ty_120 hF) ?_
      refine Tr.tp 156 (fx_120_54 hF) ?_
      refine Tr.iload_n (pc := 33) (i := 3) d_X12_runs_33 rfl rfl ?_
      refine Tr.iconst (pc := 34) d_X12_runs_34 (by decide) ?_
      refine Tr.zastX (pc := 35) d_X12_runs_35 (ty_156 hF) (by decide) (by decide) (by decide) hF (by decide +kernel) (fun hF => ?_)
      refine Tr.aload_n (pc := 36) (i := 0) d_X12_runs_36 rfl rfl ?_
      refine Tr.getf (pc := 37) d_X12_runs_37 f_12_180 (by decide) (by decide) (ty_120 hF) ?_
      refine Tr.tp 157 (fx_120_55 hF) ?_
      refine Tr.iload_n (pc := 40) (i := 3) d_X12_runs_40 rfl rfl ?_
      refine Tr.iconst (pc := 41) d_X12_runs_41 (by decide) ?_
      refine Tr.iastX (pc := 42) d_X12_runs_42 (ty_157 hF) (by decide) (by decide) hF (by decide +kernel) (fun hF => ?_)
      refine Tr.aload_n (pc := 43) (i := 0) d_X12_runs_43 rfl rfl ?_
      refine Tr.getf (pc := 44) d_X12_runs_44 f_12_183 (by decide) (by decide) (ty_120 hF) ?_
      refine Tr.tp 158 (fx_120_56 hF) ?_
      refine Tr.iload_n (pc := 47) (i := 3) d_X12_runs_47 rfl rfl ?_
      refine Tr.iconst (pc := 48) d_X12_runs_48 (by decide) ?_
      refine Tr.iastX (pc := 49) d_X12_runs_49 (ty_158 hF) (by decide) (by decide) hF (by decide +kernel) (fun hF => ?_)
      refine Tr.aload_n (pc := 50) (i := 0) d_X12_runs_50 rfl rfl ?_
      refine Tr.getf (pc := 51) d_X12_runs_51 f_12_186 (by decide) (by decide) (ty_120 hF) ?_
      refine Tr.tp 159 (fx_120_57 hF) ?_
      refine Tr.iload_n (pc := 54) (i := 3) d_X12_runs_54 rfl rfl ?_
      refine Tr.iconst (pc := 55) d_X12_runs_55 (by decide) ?_
      refine Tr.iastX (pc := 56) d_X12_runs_56 (ty_159 hF) (by decide) (by decide) hF (by decide +kernel) (fun hF => ?_)
      refine Tr.iinc (pc := 57) (ls2 := [(3, (0, 2)), (0, (2, 120)), (1, (1, _))]) d_X12_runs_57 rfl (by decide) rfl ?_
      refine Tr.goto (pc := 60) (tgt := 23) d_X12_runs_60 rfl ?_
      refine Tr.iload_n (pc := 23) (i := 3) d_X12_runs_23 rfl rfl ?_
      refine Tr.bipush (pc := 24) d_X12_runs_24 rfl (by decide) ?_
      refine Tr.icmp_ge (pc := 26) (tgt := 63) d_X12_runs_26 rfl (fun hc => absurd hc (by decide)) (fun _ => ?_)
      refine Tr.aload_n (pc := 29) (i := 0) d_X12_runs_29 rfl rfl ?_
      refine Tr.getf (pc := 30) d_X12_runs_30 f_12_177 (by decide) (by decide) (ty_120 hF) ?_
      refine Tr.tp 156 (fx_120_54 hF) ?_
      refine Tr.iload_n (pc := 33) (i := 3) d_X12_runs_33 rfl rfl ?_
      refine Tr.iconst (pc := 34) d_X12_runs_34 (by decide) ?_
      refine Tr.zastX (pc := 35) d_X12_runs_35 (ty_156 hF) (by decide) (by decide) (by decide) hF (by decide +kernel) (fun hF => ?_)
      refine Tr.aload_n (pc := 36) (i := 0) d_X12_runs_36 rfl rfl ?_
      refine Tr.getf (pc := 37) d_X12_runs_37 f_12_180 (by decide) (by decide) (ty_120 hF) ?_
      refine Tr.tp 157 (fx_120_55 hF) ?_
      refine Tr.iload_n (pc := 40) (i := 3) d_X12_runs_40 rfl rfl ?_
      refine Tr.iconst (pc := 41) d_X12_runs_41 (by decide) ?_
      refine Tr.iastX (pc := 42) d_X12_runs_42 (ty_157 hF) (by decide) (by decide) hF (by decide +kernel) (fun hF => ?_)
      refine Tr.aload_n (pc := 43) (i := 0) d_X12_runs_43 rfl rfl ?_
      refine Tr.getf (pc := 44) d_X12_runs_44 f_12_183 (by decide) (by decide) (ty_120 hF) ?_
      refine Tr.tp 158 (fx_120_56 hF) ?_
      refine Tr.iload_n (pc := 47) (i := 3) d_X12_runs_47 rfl rfl ?_
      refine Tr.iconst (pc := 48) d_X12_runs_48 (by decide) ?_
      refine Tr.iastX (pc := 49) d_X12_runs_49 (ty_158 hF) (by decide) (by decide) hF (by decide +kernel) (fun hF => ?_)
      refine Tr.aload_n (pc := 50) (i := 0) d_X12_runs_50 rfl rfl ?_
      refine Tr.getf (pc := 51) d_X12_runs_51 f_12_186 (by decide) (by decide) (ty_120 hF) ?_
      refine Tr.tp 159 (fx_120_57 hF) ?_
      refine Tr.iload_n (pc := 54) (i := 3) d_X12_runs_54 rfl rfl ?_
      refine Tr.iconst (pc := 55) d_X12_runs_55 (by decide) ?_
      refine Tr.iastX (pc := 56) d_X12_runs_56 (ty_159 hF) (by decide) (by decide) hF (by decide +kernel) (fun hF => ?_)
      refine Tr.iinc (pc := 57) (ls2 := [(3, (0, 3)), (0, (2, 120)), (1, (1, _))]) d_X12_runs_57 rfl (by decide) rfl ?_
      refine Tr.goto (pc := 60) (tgt := 23) d_X12_runs_60 rfl ?_
      refine Tr.iload_n (pc := 23) (i := 3) d_X12_runs_23 rfl rfl ?_
      refine Tr.bipush (pc := 24) d_X12_runs_24 rfl (by decide) ?_
      refine Tr.icmp_ge (pc := 26) (tgt := 63) d_X12_runs_26 rfl (fun hc => absurd hc (by decide)) (fun _ => ?_)
      refine Tr.aload_n (pc := 29) (i := 0) d_X12_runs_29 rfl rfl ?_
      refine Tr.getf (pc := 30) d_X12_runs_30 f_12_177 (by decide) (by decide) (ty_120 hF) ?_
      refine Tr.tp 156 (fx_120_54 hF) ?_
      refine Tr.iload_n (pc := 33) (i := 3) d_X12_runs_33 rfl rfl ?_
      refine Tr.iconst (pc := 34) d_X12_runs_34 (by decide) ?_
      refine Tr.zastX (pc := 35) d_X12_runs_35 (ty_156 hF) (by decide) (by decide) (by decide) hF (by decide +kernel) (fun hF => ?_)
      refine Tr.aload_n (pc := 36) (i := 0) d_X12_runs_36 rfl rfl ?_
      refine Tr.getf (pc := 37) d_X12_runs_37 f_12_180 (by decide) (by decide) (ty_120 hF) ?_
      refine Tr.tp 157 (fx_120_55 hF) ?_
      refine Tr.iload_n (pc := 40) (i := 3) d_X12_runs_40 rfl rfl ?_
      refine Tr.iconst (pc := 41) d_X12_runs_41 (by decide) ?_
      refine Tr.iastX (pc := 42) d_X12_runs_42 (ty_157 hF) (by decide) (by decide) hF (by decide +kernel) (fun hF => ?_)
      refine Tr.aload_n (pc := 43) (i := 0) d_X12_runs_43 rfl rfl ?_
      refine Tr.getf (pc := 44) d_X12_runs_44 f_12_183 (by decide) (by decide) (ty_120 hF) ?_
      refine Tr.tp 158 (fx_120_56 hF) ?_
      refine Tr.iload_n (pc := 47) (i := 3) d_X12_runs_47 rfl rfl ?_
      refine Tr.iconst (pc := 48) d_X12_runs_48 (by decide) ?_
      refine Tr.iastX (pc := 49) d_X12_runs_49 (ty_158 hF) (by decide) (by decide) hF (by decide +kernel) (fun hF => ?_)
      refine Tr.aload_n (pc := 50) (i := 0) d_X12_runs_50 rfl rfl ?_
      refine Tr.getf (pc := 51) d_X12_runs_51 f_12_186 (by decide) (by decide) (ty_120 hF) ?_
      refine Tr.tp 159 (fx_120_57 hF) ?_
      refine Tr.iload_n (pc := 54) (i := 3) d_X12_runs_54 rfl rfl ?_
      refine Tr.iconst (pc := 55) d_X12_runs_55 (by decide) ?_
      refine Tr.iastX (pc := 56) d_X12_runs_56 (ty_159 hF) (by decide) (by decide) hF (by decide +kernel) (fun hF => ?_)
      refine Tr.iinc (pc := 57) (ls2 := [(3, (0, 4)), (0, (2, 120)), (1, (1, _))]) d_X12_runs_57 rfl (by decide) rfl ?_
      refine Tr.goto (pc := 60) (tgt := 23) d_X12_runs_60 rfl ?_
      refine Tr.iload_n (pc := 23) (i := 3) d_X12_runs_23 rfl rfl ?_
      refine Tr.bipush (pc := 24) d_X12_runs_24 rfl (by decide) ?_
      refine Tr.icmp_ge (pc := 26) (tgt := 63) d_X12_runs_26 rfl (fun hc => absurd hc (by decide)) (fun _ => ?_)
      refine Tr.aload_n (pc := 29) (i := 0) d_X12_runs_29 rfl rfl ?_
      refine Tr.getf (pc := 30) d_X12_runs_30 f_12_177 (by decide) (by decide) (ty_120 hF) ?_
      refine Tr.tp 156 (fx_120_54 hF) ?_
      refine Tr.iload_n (pc := 33) (i := 3) d_X12_runs_33 rfl rfl ?_
      refine Tr.iconst (pc := 34) d_X12_runs_34 (by decide) ?_
      refine Tr.zastX (pc := 35) d_X12_runs_35 (ty_156 hF) (by decide) (by decide) (by decide) hF (by decide +kernel) (fun hF => ?_)
      refine Tr.aload_n (pc := 36) (i := 0) d_X12_runs_36 rfl rfl ?_
      refine Tr.getf (pc := 37) d_X12_runs_37 f_12_180 (by decide) (by decide) (ty_120 hF) ?_
      refine Tr.tp 157 (fx_120_55 hF) ?_
      refine Tr.iload_n (pc := 40) (i := 3) d_X12_runs_40 rfl rfl ?_
      refine Tr.iconst (pc := 41) d_X12_runs_41 (by decide) ?_
      refine Tr.iastX (pc := 42) d_X12_runs_42 (ty_157 hF) (by decide) (by decide) hF (by decide +kernel) (fun hF => ?_)
      refine Tr.aload_n (pc := 43) (i := 0) d_X12_runs_43 rfl rfl ?_
      refine Tr.getf (pc := 44) d_X12_runs_44 f_12_183 (by decide) (by decide) (ty_120 hF) ?_
      refine Tr.tp 158 (fx_120_56 hF) ?_
      refine Tr.iload_n (pc := 47) (i := 3) d_X12_runs_47 rfl rfl ?_
      refine Tr.iconst (pc := 48) d_X12_runs_48 (by decide) ?_
      refine Tr.iastX (pc := 49) d_X12_runs_49 (ty_158 hF) (by decide) (by decide) hF (by decide +kernel) (fun hF => ?_)
      refine Tr.aload_n (pc := 50) (i := 0) d_X12_runs_50 rfl rfl ?_
      refine Tr.getf (pc := 51) d_X12_runs_51 f_12_186 (by decide) (by decide) (ty_120 hF) ?_
      refine Tr.tp 159 (fx_120_57 hF) ?_
      refine Tr.iload_n (pc := 54) (i := 3) d_X12_runs_54 rfl rfl ?_
      refine Tr.iconst (pc := 55) d_X12_runs_55 (by decide) ?_
      refine Tr.iastX (pc := 56) d_X12_runs_56 (ty_159 hF) (by decide) (by decide) hF (by decide +kernel) (fun hF => ?_)
      refine Tr.iinc (pc := 57) (ls2 := [(3, (0, 5)), (0, (2, 120)), (1, (1, _))]) d_X12_runs_57 rfl (by decide) rfl ?_
      refine Tr.goto (pc := 60) (tgt := 23) d_X12_runs_60 rfl ?_
      refine Tr.iload_n (pc := 23) (i := 3) d_X12_runs_23 rfl rfl ?_
      refine Tr.bipush (pc := 24) d_X12_runs_24 rfl (by decide) ?_
      refine Tr.icmp_ge (pc := 26) (tgt := 63) d_X12_runs_26 rfl (fun hc => absurd hc (by decide)) (fun _ => ?_)
      refine Tr.aload_n (pc := 29) (i := 0) d_X12_runs_29 rfl rfl ?_
      refine Tr.getf (pc := 30) d_X12_runs_30 f_12_177 (by decide) (by decide) (ty_120 hF) ?_
      refine Tr.tp 156 (fx_120_54 hF) ?_
      refine Tr.iload_n (pc := 33) (i := 3) d_X12_runs_33 rfl rfl ?_
      refine Tr.iconst (pc := 34) d_X12_runs_34 (by decide) ?_
      refine Tr.zastX (pc := 35) d_X12_runs_35 (ty_156 hF) (by decide) (by decide) (by decide) hF (by decide +kernel) (fun hF => ?_)
      refine Tr.aload_n (pc := 36) (i := 0) d_X12_runs_36 rfl rfl ?_
      refine Tr.getf (pc := 37) d_X12_runs_37 f_12_180 (by decide) (by decide) (ty_120 hF) ?_
      refine Tr.tp 157 (fx_120_55 hF) ?_
      refine Tr.iload_n (pc := 40) (i := 3) d_X12_runs_40 rfl rfl ?_
      refine Tr.iconst (pc := 41) d_X12_runs_41 (by decide) ?_
      refine Tr.iastX (pc := 42) d_X12_runs_42 (ty_157 hF) (by decide) (by decide) hF (by decide +kernel) (fun hF => ?_)
      refine Tr.aload_n (pc := 43) (i := 0) d_X12_runs_43 rfl rfl ?_
      refine Tr.getf (pc := 44) d_X12_runs_44 f_12_183 (by decide) (by decide) (ty_120 hF) ?_
      refine Tr.tp 158 (fx_120_56 hF) ?_
      refine Tr.iload_n (pc := 47) (i := 3) d_X12_runs_47 rfl rfl ?_
      refine Tr.iconst (pc := 48) d_X12_runs_48 (by decide) ?_
      refine Tr.iastX (pc := 49) d_X12_runs_49 (ty_158 hF) (by decide) (by decide) hF (by decide +kernel) (fun hF => ?_)
      refine Tr.aload_n (pc := 50) (i := 0) d_X12_runs_50 rfl rfl ?_
      refine Tr.getf (pc := 51) d_X12_runs_51 f_12_186 (by decide) (by decide) (ty_120 hF) ?_
      refine Tr.tp 159 (fx_120_57 hF) ?_
      refine Tr.iload_n (pc := 54) (i := 3) d_X12_runs_54 rfl rfl ?_
      refine Tr.iconst (pc := 55) d_X12_runs_55 (by decide) ?_
      refine Tr.iastX (pc := 56) d_X12_runs_56 (ty_159 hF) (by decide) (by decide) hF (by decide +kernel) (fun hF => ?_)
      refine Tr.iinc (pc := 57) (ls2 := [(3, (0, 6)), (0, (2, 120)), (1, (1, _))]) d_X12_runs_57 rfl (by decide) rfl ?_
      refine Tr.goto (pc := 60) (tgt := 23) d_X12_runs_60 rfl ?_
      refine Tr.iload_n (pc := 23) (i := 3) d_X12_runs_23 rfl rfl ?_
      refine Tr.bipush (pc := 24) d_X12_runs_24 rfl (by decide) ?_
      refine Tr.icmp_ge (pc := 26) (tgt := 63) d_X12_runs_26 rfl (fun _ => ?_) (fun hc => absurd (by decide) hc)
      refine Tr.iconst (pc := 63) d_X12_runs_63 (by decide) ?_
      refine Tr.istore_n (pc := 64) (i := 3) (ls2 := [(3, (0, 0)), (0, (2, 120)), (1, (1, _))]) d_X12_runs_64 rfl (by decide) rfl ?_
      refine Tr.iload_n (pc := 65) (i := 3) d_X12_runs_65 rfl rfl ?_
      refine Tr.bipush (pc := 66) d_X12_runs_66 rfl (by decide) ?_
      refine Tr.icmp_ge (pc := 68) (tgt := 84) d_X12_runs_68 rfl (fun hc => absurd hc (by decide)) (fun _ => ?_)
      refine Tr.aload_n (pc := 71) (i := 0) d_X12_runs_71 rfl rfl ?_
      refine Tr.getf (pc := 72) d_X12_runs_72 f_12_189 (by decide) (by decide) (ty_120 hF) ?_
      refine Tr.tp 160 (fx_120_58 hF) ?_
      refine Tr.iload_n (pc := 75) (i := 3) d_X12_runs_75 rfl rfl ?_
      refine Tr.iconst (pc := 76) d_X12_runs_76 (by decide) ?_
      refine Tr.iastX (pc := 77) d_X12_runs_77 (ty_160 hF) (by decide) (by decide) hF (by decide +kernel) (fun hF => ?_)
      refine Tr.iinc (pc := 78) (ls2 := [(3, (0, 1)), (0, (2, 120)), (1, (1, _))]) d_X12_runs_78 rfl (by decide) rfl ?_
      refine Tr.goto (pc := 81) (tgt := 65) d_X12_runs_81 rfl ?_
      refine Tr.iload_n (pc := 65) (i := 3) d_X12_runs_65 rfl rfl ?_
      refine Tr.bipush (pc := 66) d_X12_runs_66 rfl (by decide) ?_
      refine Tr.icmp_ge (pc := 68) (tgt := 84) d_X12_runs_68 rfl (fun hc => absurd hc (by decide)) (fun _ => ?_)
      refine Tr.aload_n (pc := 71) (i := 0) d_X12_runs_71 rfl rfl ?_
      refine Tr.getf (pc := 72) d_X12_runs_72 f_12_189 (by decide) (by decide) (ty_120 hF) ?_
      refine Tr.tp 160 (fx_120_58 hF) ?_
      refine Tr.iload_n (pc := 75) (i := 3) d_X12_runs_75 rfl rfl ?_
      refine Tr.iconst (pc := 76) d_X12_runs_76 (by decide) ?_
      refine Tr.iastX (pc := 77) d_X12_runs_77 (ty_160 hF) (by decide) (by decide) hF (by decide +kernel) (fun hF => ?_)
      refine Tr.iinc (pc := 78) (ls2 := [(3, (0, 2)), (0, (2, 120)), (1, (1, _))]) d_X12_runs_78 rfl (by decide) rfl ?_
      refine Tr.goto (pc := 81) (tgt := 65) d_X12_runs_81 rfl ?_
      refine Tr.iload_n (pc := 65) (i := 3) d_X12_runs_65 rfl rfl ?_
      refine Tr.bipush (pc := 66) d_X12_runs_66 rfl (by decide) ?_
      refine Tr.icmp_ge (pc := 68) (tgt := 84) d_X12_runs_68 rfl (fun hc => absurd hc (by decide)) (fun _ => ?_)
      refine Tr.aload_n (pc := 71) (i := 0) d_X12_runs_71 rfl rfl ?_
      refine Tr.getf (pc := 72) d_X12_runs_72 f_12_189 (by decide) (by decide) (ty_120 hF) ?_
      refine Tr.tp 160 (fx_120_58 hF) ?_
      refine Tr.iload_n (pc := 75) (i := 3) d_X12_runs_75 rfl rfl ?_
      refine Tr.iconst (pc := 76) d_X12_runs_76 (by decide) ?_
      refine Tr.iastX (pc := 77) d_X12_runs_77 (ty_160 hF) (by decide) (by decide) hF (by decide +kernel) (fun hF => ?_)
      refine Tr.iinc (pc := 78) (ls2 := [(3, (0, 3)), (0, (2, 120)), (1, (1, _))]) d_X12_runs_78 rfl (by decide) rfl ?_
      refine Tr.goto (pc := 81) (tgt := 65) d_X12_runs_81 rfl ?_
      refine Tr.iload_n (pc := 65) (i := 3) d_X12_runs_65 rfl rfl ?_
      refine Tr.bipush (pc := 66) d_X12_runs_66 rfl (by decide) ?_
      refine Tr.icmp_ge (pc := 68) (tgt := 84) d_X12_runs_68 rfl (fun hc => absurd hc (by decide)) (fun _ => ?_)
      refine Tr.aload_n (pc := 71) (i := 0) d_X12_runs_71 rfl rfl ?_
      refine Tr.getf (pc := 72) d_X12_runs_72 f_12_189 (by decide) (by decide) (ty_120 hF) ?_
      refine Tr.tp 160 (fx_120_58 hF) ?_
      refine Tr.iload_n (pc := 75) (i := 3) d_X12_runs_75 rfl rfl ?_
      refine Tr.iconst (pc := 76) d_X12_runs_76 (by decide) ?_
      refine Tr.iastX (pc := 77) d_X12_runs_77 (ty_160 hF) (by decide) (by decide) hF (by decide +kernel) (fun hF => ?_)
      refine Tr.iinc (pc := 78) (ls2 := [(3, (0, 4)), (0, (2, 120)), (1, (1, _))]) d_X12_runs_78 rfl (by decide) rfl ?_
      refine Tr.goto (pc := 81) (tgt := 65) d_X12_runs_81 rfl ?_
      refine Tr.iload_n (pc := 65) (i := 3) d_X12_runs_65 rfl rfl ?_
      refine Tr.bipush (pc := 66) d_X12_runs_66 rfl (by decide) ?_
      refine Tr.icmp_ge (pc := 68) (tgt := 84) d_X12_runs_68 rfl (fun hc => absurd hc (by decide)) (fun _ => ?_)
      refine Tr.aload_n (pc := 71) (i := 0) d_X12_runs_71 rfl rfl ?_
      refine Tr.getf (pc := 72) d_X12_runs_72 f_12_189 (by decide) (by decide) (ty_120 hF) ?_
      refine Tr.tp 160 (fx_120_58 hF) ?_
      refine Tr.iload_n (pc := 75) (i := 3) d_X12_runs_75 rfl rfl ?_
      refine Tr.iconst (pc := 76) d_X12_runs_76 (by decide) ?_
      refine Tr.iastX (pc := 77) d_X12_runs_77 (ty_160 hF) (by decide) (by decide) hF (by decide +kernel) (fun hF => ?_)
      refine Tr.iinc (pc := 78) (ls2 := [(3, (0, 5)), (0, (2, 120)), (1, (1, _))]) d_X12_runs_78 rfl (by decide) rfl ?_
      refine Tr.goto (pc := 81) (tgt := 65) d_X12_runs_81 rfl ?_
      refine Tr.iload_n (pc := 65) (i := 3) d_X12_runs_65 rfl rfl ?_
      refine Tr.bipush (pc := 66) d_X12_runs_66 rfl (by decide) ?_
      refine Tr.icmp_ge (pc := 68) (tgt := 84) d_X12_runs_68 rfl (fun hc => absurd hc (by decide)) (fun _ => ?_)
      refine Tr.aload_n (pc := 71) (i := 0) d_X12_runs_71 rfl rfl ?_
      refine Tr.getf (pc := 72) d_X12_runs_72 f_12_189 (by decide) (by decide) (ty_120 hF) ?_
      refine Tr.tp 160 (fx_120_58 hF) ?_
      refine Tr.iload_n (pc := 75) (i := 3) d_X12_runs_75 rfl rfl ?_
      refine Tr.iconst (pc := 76) d_X12_runs_76 (by decide) ?_
      refine Tr.iastX (pc := 77) d_X12_runs_77 (ty_160 hF) (by decide) (by decide) hF (by decide +kernel) (fun hF => ?_)
      refine Tr.iinc (pc := 78) (ls2 := [(3, (0, 6)), (0, (2, 120)), (1, (1, _))]) d_X12_runs_78 rfl (by decide) rfl ?_
      refine Tr.goto (pc := 81) (tgt := 65) d_X12_runs_81 rfl ?_
      refine Tr.iload_n (pc := 65) (i := 3) d_X12_runs_65 rfl rfl ?_
      refine Tr.bipush (pc := 66) d_X12_runs_66 rfl (by decide) ?_
      refine Tr.icmp_ge (pc := 68) (tgt := 84) d_X12_runs_68 rfl (fun hc => absurd hc (by decide)) (fun _ => ?_)
      refine Tr.aload_n (pc := 71) (i := 0) d_X12_runs_71 rfl rfl ?_
      refine Tr.getf (pc := 72) d_X12_runs_72 f_12_189 (by decide) (by decide) (ty_120 hF) ?_
      refine Tr.tp 160 (fx_120_58 hF) ?_
      refine Tr.iload_n (pc := 75) (i := 3) d_X12_runs_75 rfl rfl ?_
      refine Tr.iconst (pc := 76) d_X12_runs_76 (by decide) ?_
      refine Tr.iastX (pc := 77) d_X12_runs_77 (ty_160 hF) (by decide) (by decide) hF (by decide +kernel) (fun hF => ?_)
      refine Tr.iinc (pc := 78) (ls2 := [(3, (0, 7)), (0, (2, 120)), (1, (1, _))]) d_X12_runs_78 rfl (by decide) rfl ?_
      refine Tr.goto (pc := 81) (tgt := 65) d_X12_runs_81 rfl ?_
      refine Tr.iload_n (pc := 65) (i := 3) d_X12_runs_65 rfl rfl ?_
      refine Tr.bipush (pc := 66) d_X12_runs_66 rfl (by decide) ?_
      refine Tr.icmp_ge (pc := 68) (tgt := 84) d_X12_runs_68 rfl (fun hc => absurd hc (by decide)) (fun _ => ?_)
      refine Tr.aload_n (pc := 71) (i := 0) d_X12_runs_71 rfl rfl ?_
      refine Tr.getf (pc := 72) d_X12_runs_72 f_12_189 (by decide) (by decide) (ty_120 hF) ?_
      refine Tr.tp 160 (fx_120_58 hF) ?_
      refine Tr.iload_n (pc := 75) (i := 3) d_X12_runs_75 rfl rfl ?_
      refine Tr.iconst (pc := 76) d_X12_runs_76 (by decide) ?_
      refine Tr.iastX (pc := 77) d_X12_runs_77 (ty_160 hF) (by decide) (by decide) hF (by decide +kernel) (fun hF => ?_)
      refine Tr.iinc (pc := 78) (ls2 := [(3, (0, 8)), (0, (2, 120)), (1, (1, _))]) d_X12_runs_78 rfl (by decide) rfl ?_
      refine Tr.goto (pc := 81) (tgt := 65) d_X12_runs_81 rfl ?_
      refine Tr.iload_n (pc := 65) (i := 3) d_X12_runs_65 rfl rfl ?_
      refine Tr.bipush (pc := 66) d_X12_runs_66 rfl (by decide) ?_
      refine Tr.icmp_ge (pc := 68) (tgt := 84) d_X12_runs_68 rfl (fun _ => ?_) (fun hc => absurd (by decide) hc)
      refine Tr.iconst (pc := 84) d_X12_runs_84 (by decide) ?_
      refine Tr.istore_n (pc := 85) (i := 3) (ls2 := [(3, (0, 0)), (0, (2, 120)), (1, (1, _))]) d_X12_runs_85 rfl (by decide) rfl ?_
      refine Tr.iload_n (pc := 86) (i := 3) d_X12_runs_86 rfl rfl ?_
      refine Tr.bipush (pc := 87) d_X12_runs_87 rfl (by decide) ?_
      refine Tr.icmp_ge (pc := 89) (tgt := 105) d_X12_runs_89 rfl (fun hc => absurd hc (by decide)) (fun _ => ?_)
      refine Tr.aload_n (pc := 92) (i := 0) d_X12_runs_92 rfl rfl ?_
      refine Tr.getf (pc := 93) d_X12_runs_93 f_12_222 (by decide) (by decide) (ty_120 hF) ?_
      refine Tr.tp 161 (fx_120_69 hF) ?_
      refine Tr.iload_n (pc := 96) (i := 3) d_X12_runs_96 rfl rfl ?_
      refine Tr.iconst (pc := 97) d_X12_runs_97 (by decide) ?_
      refine Tr.iastX (pc := 98) d_X12_runs_98 (ty_161 hF) (by decide) (by decide) hF (by decide +kernel) (fun hF => ?_)
      refine Tr.iinc (pc := 99) (ls2 := [(3, (0, 1)), (0, (2, 120)), (1, (1, _))]) d_X12_runs_99 rfl (by decide) rfl ?_
      refine Tr.goto (pc := 102) (tgt := 86) d_X12_runs_102 rfl ?_
      refine Tr.iload_n (pc := 86) (i := 3) d_X12_runs_86 rfl rfl ?_
      refine Tr.bipush (pc := 87) d_X12_runs_87 rfl (by decide) ?_
      refine Tr.icmp_ge (pc := 89) (tgt := 105) d_X12_runs_89 rfl (fun hc => absurd hc (by decide)) (fun _ => ?_)
      refine Tr.aload_n (pc := 92) (i := 0) d_X12_runs_92 rfl rfl ?_
      refine Tr.getf (pc := 93) d_X12_runs_93 f_12_222 (by decide) (by decide) (ty_120 hF) ?_
      refine Tr.tp 161 (fx_120_69 hF) ?_
      refine Tr.iload_n (pc := 96) (i := 3) d_X12_runs_96 rfl rfl ?_
      refine Tr.iconst (pc := 97) d_X12_runs_97 (by decide) ?_
      refine Tr.iastX (pc := 98) d_X12_runs_98 (ty_161 hF) (by decide) (by decide) hF (by decide +kernel) (fun hF => ?_)
      refine Tr.iinc (pc := 99) (ls2 := [(3, (0, 2)), (0, (2, 120)), (1, (1, _))]) d_X12_runs_99 rfl (by decide) rfl ?_
      refine Tr.goto (pc := 102) (tgt := 86) d_X12_runs_102 rfl ?_
      refine Tr.iload_n (pc := 86) (i := 3) d_X12_runs_86 rfl rfl ?_
      refine Tr.bipush (pc := 87) d_X12_runs_87 rfl (by decide) ?_
      refine Tr.icmp_ge (pc := 89) (tgt := 105) d_X12_runs_89 rfl (fun hc => absurd hc (by decide)) (fun _ => ?_)
      refine Tr.aload_n (pc := 92) (i := 0) d_X12_runs_92 rfl rfl ?_
      refine Tr.getf (pc := 93) d_X12_runs_93 f_12_222 (by decide) (by decide) (ty_120 hF) ?_
      refine Tr.tp 161 (fx_120_69 hF) ?_
      refine Tr.iload_n (pc := 96) (i := 3) d_X12_runs_96 rfl rfl ?_
      refine Tr.iconst (pc := 97) d_X12_runs_97 (by decide) ?_
      refine Tr.iastX (pc := 98) d_X12_runs_98 (ty_161 hF) (by decide) (by decide) hF (by decide +kernel) (fun hF => ?_)
      refine Tr.iinc (pc := 99) (ls2 := [(3, (0, 3)), (0, (2, 120)), (1, (1, _))]) d_X12_runs_99 rfl (by decide) rfl ?_
      refine Tr.goto (pc := 102) (tgt := 86) d_X12_runs_102 rfl ?_
      refine Tr.iload_n (pc := 86) (i := 3) d_X12_runs_86 rfl rfl ?_
      refine Tr.bipush (pc := 87) d_X12_runs_87 rfl (by decide) ?_
      refine Tr.icmp_ge (pc := 89) (tgt := 105) d_X12_runs_89 rfl (fun hc => absurd hc (by decide)) (fun _ => ?_)
      refine Tr.aload_n (pc := 92) (i := 0) d_X12_runs_92 rfl rfl ?_
      refine Tr.getf (pc := 93) d_X12_runs_93 f_12_222 (by decide) (by decide) (ty_120 hF) ?_
      refine Tr.tp 161 (fx_120_69 hF) ?_
      refine Tr.iload_n (pc := 96) (i := 3) d_X12_runs_96 rfl rfl ?_
      refine Tr.iconst (pc := 97) d_X12_runs_97 (by decide) ?_
      refine Tr.iastX (pc := 98) d_X12_runs_98 (ty_161 hF) (by decide) (by decide) hF (by decide +kernel) (fun hF => ?_)
      refine Tr.iinc (pc := 99) (ls2 := [(3, (0, 4)), (0, (2, 120)), (1, (1, _))]) d_X12_runs_99 rfl (by decide) rfl ?_
      refine Tr.goto (pc := 102) (tgt := 86) d_X12_runs_102 rfl ?_
      refine Tr.iload_n (pc := 86) (i := 3) d_X12_runs_86 rfl rfl ?_
      refine Tr.bipush (pc := 87) d_X12_runs_87 rfl (by decide) ?_
      refine Tr.icmp_ge (pc := 89) (tgt := 105) d_X12_runs_89 rfl (fun hc => absurd hc (by decide)) (fun _ => ?_)
      refine Tr.aload_n (pc := 92) (i := 0) d_X12_runs_92 rfl rfl ?_
      refine Tr.getf (pc := 93) d_X12_runs_93 f_12_222 (by decide) (by decide) (ty_120 hF) ?_
      refine Tr.tp 161 (fx_120_69 hF) ?_
      refine Tr.iload_n (pc := 96) (i := 3) d_X12_runs_96 rfl rfl ?_
      refine Tr.iconst (pc := 97) d_X12_runs_97 (by decide) ?_
      refine Tr.iastX (pc := 98) d_X12_runs_98 (ty_161 hF) (by decide) (by decide) hF (by decide +kernel) (fun hF => ?_)
      refine Tr.iinc (pc := 99) (ls2 := [(3, (0, 5)), (0, (2, 120)), (1, (1, _))]) d_X12_runs_99 rfl (by decide) rfl ?_
      refine Tr.goto (pc := 102) (tgt := 86) d_X12_runs_102 rfl ?_
      refine Tr.iload_n (pc := 86) (i := 3) d_X12_runs_86 rfl rfl ?_
      refine Tr.bipush (pc := 87) d_X12_runs_87 rfl (by decide) ?_
      refine Tr.icmp_ge (pc := 89) (tgt := 105) d_X12_runs_89 rfl (fun hc => absurd hc (by decide)) (fun _ => ?_)
      refine Tr.aload_n (pc := 92) (i := 0) d_X12_runs_92 rfl rfl ?_
      refine Tr.getf (pc := 93) d_X12_runs_93 f_12_222 (by decide) (by decide) (ty_120 hF) ?_
      refine Tr.tp 161 (fx_120_69 hF) ?_
      refine Tr.iload_n (pc := 96) (i := 3) d_X12_runs_96 rfl rfl ?_
      refine Tr.iconst (pc := 97) d_X12_runs_97 (by decide) ?_
      refine Tr.iastX (pc := 98) d_X12_runs_98 (ty_161 hF) (by decide) (by decide) hF (by decide +kernel) (fun hF => ?_)
      refine Tr.iinc (pc := 99) (ls2 := [(3, (0, 6)), (0, (2, 120)), (1, (1, _))]) d_X12_runs_99 rfl (by decide) rfl ?_
      refine Tr.goto (pc := 102) (tgt := 86) d_X12_runs_102 rfl ?_
      refine Tr.iload_n (pc := 86) (i := 3) d_X12_runs_86 rfl rfl ?_
      refine Tr.bipush (pc := 87) d_X12_runs_87 rfl (by decide) ?_
      refine Tr.icmp_ge (pc := 89) (tgt := 105) d_X12_runs_89 rfl (fun hc => absurd hc (by decide)) (fun _ => ?_)
      refine Tr.aload_n (pc := 92) (i := 0) d_X12_runs_92 rfl rfl ?_
      refine Tr.getf (pc := 93) d_X12_runs_93 f_12_222 (by decide) (by decide) (ty_120 hF) ?_
      refine Tr.tp 161 (fx_120_69 hF) ?_
      refine Tr.iload_n (pc := 96) (i := 3) d_X12_runs_96 rfl rfl ?_
      refine Tr.iconst (pc := 97) d_X12_runs_97 (by decide) ?_
      refine Tr.iastX (pc := 98) d_X12_runs_98 (ty_161 hF) (by decide) (by decide) hF (by decide +kernel) (fun hF => ?_)
      refine Tr.iinc (pc := 99) (ls2 := [(3, (0, 7)), (0, (2, 120)), (1, (1, _))]) d_X12_runs_99 rfl (by decide) rfl ?_
      refine Tr.goto (pc := 102) (tgt := 86) d_X12_runs_102 rfl ?_
      refine Tr.iload_n (pc := 86) (i := 3) d_X12_runs_86 rfl rfl ?_
      refine Tr.bipush (pc := 87) d_X12_runs_87 rfl (by decide) ?_
      refine Tr.icmp_ge (pc := 89) (tgt := 105) d_X12_runs_89 rfl (fun hc => absurd hc (by decide)) (fun _ => ?_)
      refine Tr.aload_n (pc := 92) (i := 0) d_X12_runs_92 rfl rfl ?_
      refine Tr.getf (pc := 93) d_X12_runs_93 f_12_222 (by decide) (by decide) (ty_120 hF) ?_
      refine Tr.tp 161 (fx_120_69 hF) ?_
      refine Tr.iload_n (pc := 96) (i := 3) d_X12_runs_96 rfl rfl ?_
      refine Tr.iconst (pc := 97) d_X12_runs_97 (by decide) ?_
      refine Tr.iastX (pc := 98) d_X12_runs_98 (ty_161 hF) (by decide) (by decide) hF (by decide +kernel) (fun hF => ?_)
      refine Tr.iinc (pc := 99) (ls2 := [(3, (0, 8)), (0, (2, 120)), (1, (1, _))]) d_X12_runs_99 rfl (by decide) rfl ?_
      refine Tr.goto (pc := 102) (tgt := 86) d_X12_runs_102 rfl ?_
      refine Tr.iload_n (pc := 86) (i := 3) d_X12_runs_86 rfl rfl ?_
      refine Tr.bipush (pc := 87) d_X12_runs_87 rfl (by decide) ?_
      refine Tr.icmp_ge (pc := 89) (tgt := 105) d_X12_runs_89 rfl (fun hc => absurd hc (by decide)) (fun _ => ?_)
      refine Tr.aload_n (pc := 92) (i := 0) d_X12_runs_92 rfl rfl ?_
      refine Tr.getf (pc := 93) d_X12_runs_93 f_12_222 (by decide) (by decide) (ty_120 hF) ?_
      refine Tr.tp 161 (fx_120_69 hF) ?_
      refine Tr.iload_n (pc := 96) (i := 3) d_X12_runs_96 rfl rfl ?_
      refine Tr.iconst (pc := 97) d_X12_runs_97 (by decide) ?_
      refine Tr.iastX (pc := 98) d_X12_runs_98 (ty_161 hF) (by decide) (by decide) hF (by decide +kernel) (fun hF => ?_)
      refine Tr.iinc (pc := 99) (ls2 := [(3, (0, 9)), (0, (2, 120)), (1, (1, _))]) d_X12_runs_99 rfl (by decide) rfl ?_
      refine Tr.goto (pc := 102) (tgt := 86) d_X12_runs_102 rfl ?_
      refine Tr.iload_n (pc := 86) (i := 3) d_X12_runs_86 rfl rfl ?_
      refine Tr.bipush (pc := 87) d_X12_runs_87 rfl (by decide) ?_
      refine Tr.icmp_ge (pc := 89) (tgt := 105) d_X12_runs_89 rfl (fun hc => absurd hc (by decide)) (fun _ => ?_)
      refine Tr.aload_n (pc := 92) (i := 0) d_X12_runs_92 rfl rfl ?_
      refine Tr.getf (pc := 93) d_X12_runs_93 f_12_222 (by decide) (by decide) (ty_120 hF) ?_
      refine Tr.tp 161 (fx_120_69 hF) ?_
      refine Tr.iload_n (pc := 96) (i := 3) d_X12_runs_96 rfl rfl ?_
      refine Tr.iconst (pc := 97) d_X12_runs_97 (by decide) ?_
      refine Tr.iastX (pc := 98) d_X12_runs_98 (ty_161 hF) (by decide) (by decide) hF (by decide +kernel) (fun hF => ?_)
      refine Tr.iinc (pc := 99) (ls2 := [(3, (0, 10)), (0, (2, 120)), (1, (1, _))]) d_X12_runs_99 rfl (by decide) rfl ?_
      refine Tr.goto (pc := 102) (tgt := 86) d_X12_runs_102 rfl ?_
      refine Tr.iload_n (pc := 86) (i := 3) d_X12_runs_86 rfl rfl ?_
      refine Tr.bipush (pc := 87) d_X12_runs_87 rfl (by decide) ?_
      refine Tr.icmp_ge (pc := 89) (tgt := 105) d_X12_runs_89 rfl (fun hc => absurd hc (by decide)) (fun _ => ?_)
      refine Tr.aload_n (pc := 92) (i := 0) d_X12_runs_92 rfl rfl ?_
      refine Tr.getf (pc := 93) d_X12_runs_93 f_12_222 (by decide) (by decide) (ty_120 hF) ?_
      refine Tr.tp 161 (fx_120_69 hF) ?_
      refine Tr.iload_n (pc := 96) (i := 3) d_X12_runs_96 rfl rfl ?_
      refine Tr.iconst (pc := 97) d_X12_runs_97 (by decide) ?_
      refine Tr.iastX (pc := 98) d_X12_runs_98 (ty_161 hF) (by decide) (by decide) hF (by decide +kernel) (fun hF => ?_)
      refine Tr.iinc (pc := 99) (ls2 := [(3, (0, 11)), (0, (2, 120)), (1, (1, _))]) d_X12_runs_99 rfl (by decide) rfl ?_
      refine Tr.goto (pc := 102) (tgt := 86) d_X12_runs_102 rfl ?_
      refine Tr.iload_n (pc := 86) (i := 3) d_X12_runs_86 rfl rfl ?_
      refine Tr.bipush (pc := 87) d_X12_runs_87 rfl (by decide) ?_
      refine Tr.icmp_ge (pc := 89) (tgt := 105) d_X12_runs_89 rfl (fun hc => absurd hc (by decide)) (fun _ => ?_)
      refine Tr.aload_n (pc := 92) (i := 0) d_X12_runs_92 rfl rfl ?_
      refine Tr.getf (pc := 93) d_X12_runs_93 f_12_222 (by decide) (by decide) (ty_120 hF) ?_
      refine Tr.tp 161 (fx_120_69 hF) ?_
      refine Tr.iload_n (pc := 96) (i := 3) d_X12_runs_96 rfl rfl ?_
      refine Tr.iconst (pc := 97) d_X12_runs_97 (by decide) ?_
      refine Tr.iastX (pc := 98) d_X12_runs_98 (ty_161 hF) (by decide) (by decide) hF (by decide +kernel) (fun hF => ?_)
      refine Tr.iinc (pc := 99) (ls2 := [(3, (0, 12)), (0, (2, 120)), (1, (1, _))]) d_X12_runs_99 rfl (by decide) rfl ?_
      refine Tr.goto (pc := 102) (tgt := 86) d_X12_runs_102 rfl ?_
      refine Tr.iload_n (pc := 86) (i := 3) d_X12_runs_86 rfl rfl ?_
      refine Tr.bipush (pc := 87) d_X12_runs_87 rfl (by decide) ?_
      refine Tr.icmp_ge (pc := 89) (tgt := 105) d_X12_runs_89 rfl (fun hc => absurd hc (by decide)) (fun _ => ?_)
      refine Tr.aload_n (pc := 92) (i := 0) d_X12_runs_92 rfl rfl ?_
      refine Tr.getf (pc := 93) d_X12_runs_93 f_12_222 (by decide) (by decide) (ty_120 hF) ?_
      refine Tr.tp 161 (fx_120_69 hF) ?_
      refine Tr.iload_n (pc := 96) (i := 3) d_X12_runs_96 rfl rfl ?_
      refine Tr.iconst (pc := 97) d_X12_runs_97 (by decide) ?_
      refine Tr.iastX (pc := 98) d_X12_runs_98 (ty_161 hF) (by decide) (by decide) hF (by decide +kernel) (fun hF => ?_)
      refine Tr.iinc (pc := 99) (ls2 := [(3, (0, 13)), (0, (2, 120)), (1, (1, _))]) d_X12_runs_99 rfl (by decide) rfl ?_
      refine Tr.goto (pc := 102) (tgt := 86) d_X12_runs_102 rfl ?_
      refine Tr.iload_n (pc := 86) (i := 3) d_X12_runs_86 rfl rfl ?_
      refine Tr.bipush (pc := 87) d_X12_runs_87 rfl (by decide) ?_
      refine Tr.icmp_ge (pc := 89) (tgt := 105) d_X12_runs_89 rfl (fun hc => absurd hc (by decide)) (fun _ => ?_)
      refine Tr.aload_n (pc := 92) (i := 0) d_X12_runs_92 rfl rfl ?_
      refine Tr.getf (pc := 93) d_X12_runs_93 f_12_222 (by decide) (by decide) (ty_120 hF) ?_
      refine Tr.tp 161 (fx_120_69 hF) ?_
      refine Tr.iload_n (pc := 96) (i := 3) d_X12_runs_96 rfl rfl ?_
      refine Tr.iconst (pc := 97) d_X12_runs_97 (by decide) ?_
      refine Tr.iastX (pc := 98) d_X12_runs_98 (ty_161 hF) (by decide) (by decide) hF (by decide +kernel) (fun hF => ?_)
      refine Tr.iinc (pc := 99) (ls2 := [(3, (0, 14)), (0, (2, 120)), (1, (1, _))]) d_X12_runs_99 rfl (by decide) rfl ?_
      refine Tr.goto (pc := 102) (tgt := 86) d_X12_runs_102 rfl ?_
      refine Tr.iload_n (pc := 86) (i := 3) d_X12_runs_86 rfl rfl ?_
      refine Tr.bipush (pc := 87) d_X12_runs_87 rfl (by decide) ?_
      refine Tr.icmp_ge (pc := 89) (tgt := 105) d_X12_runs_89 rfl (fun hc => absurd hc (by decide)) (fun _ => ?_)
      refine Tr.aload_n (pc := 92) (i := 0) d_X12_runs_92 rfl rfl ?_
      refine Tr.getf (pc := 93) d_X12_runs_93 f_12_222 (by decide) (by decide) (ty_120 hF) ?_
      refine Tr.tp 161 (fx_120_69 hF) ?_
      refine Tr.iload_n (pc := 96) (i := 3) d_X12_runs_96 rfl rfl ?_
      refine Tr.iconst (pc := 97) d_X12_runs_97 (by decide) ?_
      refine Tr.iastX (pc := 98) d_X12_runs_98 (ty_161 hF) (by decide) (by decide) hF (by decide +kernel) (fun hF => ?_)
      refine Tr.iinc (pc := 99) (ls2 := [(3, (0, 15)), (0, (2, 120)), (1, (1, _))]) d_X12_runs_99 rfl (by decide) rfl ?_
      refine Tr.goto (pc := 102) (tgt := 86) d_X12_runs_102 rfl ?_
      refine Tr.iload_n (pc := 86) (i := 3) d_X12_runs_86 rfl rfl ?_
      refine Tr.bipush (pc := 87) d_X12_runs_87 rfl (by decide) ?_
      refine Tr.icmp_ge (pc := 89) (tgt := 105) d_X12_runs_89 rfl (fun hc => absurd hc (by decide)) (fun _ => ?_)
      refine Tr.aload_n (pc := 92) (i := 0) d_X12_runs_92 rfl rfl ?_
      refine Tr.getf (pc := 93) d_X12_runs_93 f_12_222 (by decide) (by decide) (ty_120 hF) ?_
      refine Tr.tp 161 (fx_120_69 hF) ?_
      refine Tr.iload_n (pc := 96) (i := 3) d_X12_runs_96 rfl rfl ?_
      refine Tr.iconst (pc := 97) d_X12_runs_97 (by decide) ?_
      refine Tr.iastX (pc := 98) d_X12_runs_98 (ty_161 hF) (by decide) (by decide) hF (by decide +kernel) (fun hF => ?_)
      refine Tr.iinc (pc := 99) (ls2 := [(3, (0, 16)), (0, (2, 120)), (1, (1, _))]) d_X12_runs_99 rfl (by decide) rfl ?_
      refine Tr.goto (pc := 102) (tgt := 86) d_X12_runs_102 rfl ?_
      refine Tr.iload_n (pc := 86) (i := 3) d_X12_runs_86 rfl rfl ?_
      refine Tr.bipush (pc := 87) d_X12_runs_87 rfl (by decide) ?_
      refine Tr.icmp_ge (pc := 89) (tgt := 105) d_X12_runs_89 rfl (fun hc => absurd hc (by decide)) (fun _ => ?_)
      refine Tr.aload_n (pc := 92) (i := 0) d_X12_runs_92 rfl rfl ?_
      refine Tr.getf (pc := 93) d_X12_runs_93 f_12_222 (by decide) (by decide) (ty_120 hF) ?_
      refine Tr.tp 161 (fx_120_69 hF) ?_
      refine Tr.iload_n (pc := 96) (i := 3) d_X12_runs_96 rfl rfl ?_
      refine Tr.iconst (pc := 97) d_X12_runs_97 (by decide) ?_
      refine Tr.iastX (pc := 98) d_X12_runs_98 (ty_161 hF) (by decide) (by decide) hF (by decide +kernel) (fun hF => ?_)
      refine Tr.iinc (pc := 99) (ls2 := [(3, (0, 17)), (0, (2, 120)), (1, (1, _))]) d_X12_runs_99 rfl (by decide) rfl ?_
      refine Tr.goto (pc := 102) (tgt := 86) d_X12_runs_102 rfl ?_
      refine Tr.iload_n (pc := 86) (i := 3) d_X12_runs_86 rfl rfl ?_
      refine Tr.bipush (pc := 87) d_X12_runs_87 rfl (by decide) ?_
      refine Tr.icmp_ge (pc := 89) (tgt := 105) d_X12_runs_89 rfl (fun hc => absurd hc (by decide)) (fun _ => ?_)
      refine Tr.aload_n (pc := 92) (i := 0) d_X12_runs_92 rfl rfl ?_
      refine Tr.getf (pc := 93) d_X12_runs_93 f_12_222 (by decide) (by decide) (ty_120 hF) ?_
      refine Tr.tp 161 (fx_120_69 hF) ?_
      refine Tr.iload_n (pc := 96) (i := 3) d_X12_runs_96 rfl rfl ?_
      refine Tr.iconst (pc := 97) d_X12_runs_97 (by decide) ?_
      refine Tr.iastX (pc := 98) d_X12_runs_98 (ty_161 hF) (by decide) (by decide) hF (by decide +kernel) (fun hF => ?_)
      refine Tr.iinc (pc := 99) (ls2 := [(3, (0, 18)), (0, (2, 120)), (1, (1, _))]) d_X12_runs_99 rfl (by decide) rfl ?_
      refine Tr.goto (pc := 102) (tgt := 86) d_X12_runs_102 rfl ?_
      refine Tr.iload_n (pc := 86) (i := 3) d_X12_runs_86 rfl rfl ?_
      refine Tr.bipush (pc := 87) d_X12_runs_87 rfl (by decide) ?_
      refine Tr.icmp_ge (pc := 89) (tgt := 105) d_X12_runs_89 rfl (fun hc => absurd hc (by decide)) (fun _ => ?_)
      refine Tr.aload_n (pc := 92) (i := 0) d_X12_runs_92 rfl rfl ?_
      refine Tr.getf (pc := 93) d_X12_runs_93 f_12_222 (by decide) (by decide) (ty_120 hF) ?_
      refine Tr.tp 161 (fx_120_69 hF) ?_
      refine Tr.iload_n (pc := 96) (i := 3) d_X12_runs_96 rfl rfl ?_
      refine Tr.iconst (pc := 97) d_X12_runs_97 (by decide) ?_
      refine Tr.iastX (pc := 98) d_X12_runs_98 (ty_161 hF) (by decide) (by decide) hF (by decide +kernel) (fun hF => ?_)
      refine Tr.iinc (pc := 99) (ls2 := [(3, (0, 19)), (0, (2, 120)), (1, (1, _))]) d_X12_runs_99 rfl (by decide) rfl ?_
      refine Tr.goto (pc := 102) (tgt := 86) d_X12_runs_102 rfl ?_
      refine Tr.iload_n (pc := 86) (i := 3) d_X12_runs_86 rfl rfl ?_
      refine Tr.bipush (pc := 87) d_X12_runs_87 rfl (by decide) ?_
      refine Tr.icmp_ge (pc := 89) (tgt := 105) d_X12_runs_89 rfl (fun hc => absurd hc (by decide)) (fun _ => ?_)
      refine Tr.aload_n (pc := 92) (i := 0) d_X12_runs_92 rfl rfl ?_
      refine Tr.getf (pc := 93) d_X12_runs_93 f_12_222 (by decide) (by decide) (ty_120 hF) ?_
      refine Tr.tp 161 (fx_120_69 hF) ?_
      refine Tr.iload_n (pc := 96) (i := 3) d_X12_runs_96 rfl rfl ?_
      refine Tr.iconst (pc := 97) d_X12_runs_97 (by decide) ?_
      refine Tr.iastX (pc := 98) d_X12_runs_98 (ty_161 hF) (by decide) (by decide) hF (by decide +kernel) (fun hF => ?_)
      refine Tr.iinc (pc := 99) (ls2 := [(3, (0, 20)), (0, (2, 120)), (1, (1, _))]) d_X12_runs_99 rfl (by decide) rfl ?_
      refine Tr.goto (pc := 102) (tgt := 86) d_X12_runs_102 rfl ?_
      refine Tr.iload_n (pc := 86) (i := 3) d_X12_runs_86 rfl rfl ?_
      refine Tr.bipush (pc := 87) d_X12_runs_87 rfl (by decide) ?_
      refine Tr.icmp_ge (pc := 89) (tgt := 105) d_X12_runs_89 rfl (fun hc => absurd hc (by decide)) (fun _ => ?_)
      refine Tr.aload_n (pc := 92) (i := 0) d_X12_runs_92 rfl rfl ?_
      refine Tr.getf (pc := 93) d_X12_runs_93 f_12_222 (by decide) (by decide) (ty_120 hF) ?_
      refine Tr.tp 161 (fx_120_69 hF) ?_
      refine Tr.iload_n (pc := 96) (i := 3) d_X12_runs_96 rfl rfl ?_
      refine Tr.iconst (pc := 97) d_X12_runs_97 (by decide) ?_
      refine Tr.iastX (pc := 98) d_X12_runs_98 (ty_161 hF) (by decide) (by decide) hF (by decide +kernel) (fun hF => ?_)
      refine Tr.iinc (pc := 99) (ls2 := [(3, (0, 21)), (0, (2, 120)), (1, (1, _))]) d_X12_runs_99 rfl (by decide) rfl ?_
      refine Tr.goto (pc := 102) (tgt := 86) d_X12_runs_102 rfl ?_
      refine Tr.iload_n (pc := 86) (i := 3) d_X12_runs_86 rfl rfl ?_
      refine Tr.bipush (pc := 87) d_X12_runs_87 rfl (by decide) ?_
      refine Tr.icmp_ge (pc := 89) (tgt := 105) d_X12_runs_89 rfl (fun hc => absurd hc (by decide)) (fun _ => ?_)
      refine Tr.aload_n (pc := 92) (i := 0) d_X12_runs_92 rfl rfl ?_
      refine Tr.getf (pc := 93) d_X12_runs_93 f_12_222 (by decide) (by decide) (ty_120 hF) ?_
      refine Tr.tp 161 (fx_120_69 hF) ?_
      refine Tr.iload_n (pc := 96) (i := 3) d_X12_runs_96 rfl rfl ?_
      refine Tr.iconst (pc := 97) d_X12_runs_97 (by decide) ?_
      refine Tr.iastX (pc := 98) d_X12_runs_98 (ty_161 hF) (by decide) (by decide) hF (by decide +kernel) (fun hF => ?_)
      refine Tr.iinc (pc := 99) (ls2 := [(3, (0, 22)), (0, (2, 120)), (1, (1, _))]) d_X12_runs_99 rfl (by decide) rfl ?_
      refine Tr.goto (pc := 102) (tgt := 86) d_X12_runs_102 rfl ?_
      refine Tr.iload_n (pc := 86) (i := 3) d_X12_runs_86 rfl rfl ?_
      refine Tr.bipush (pc := 87) d_X12_runs_87 rfl (by decide) ?_
      refine Tr.icmp_ge (pc := 89) (tgt := 105) d_X12_runs_89 rfl (fun hc => absurd hc (by decide)) (fun _ => ?_)
      refine Tr.aload_n (pc := 92) (i := 0) d_X12_runs_92 rfl rfl ?_
      refine Tr.getf (pc := 93) d_X12_runs_93 f_12_222 (by decide) (by decide) (ty_120 hF) ?_
      refine Tr.tp 161 (fx_120_69 hF) ?_
      refine Tr.iload_n (pc := 96) (i := 3) d_X12_runs_96 rfl rfl ?_
      refine Tr.iconst (pc := 97) d_X12_runs_97 (by decide) ?_
      refine Tr.iastX (pc := 98) d_X12_runs_98 (ty_161 hF) (by decide) (by decide) hF (by decide +kernel) (fun hF => ?_)
      refine Tr.iinc (pc := 99) (ls2 := [(3, (0, 23)), (0, (2, 120)), (1, (1, _))]) d_X12_runs_99 rfl (by decide) rfl ?_
      refine Tr.goto (pc := 102) (tgt := 86) d_X12_runs_102 rfl ?_
      refine Tr.iload_n (pc := 86) (i := 3) d_X12_runs_86 rfl rfl ?_
      refine Tr.bipush (pc := 87) d_X12_runs_87 rfl (by decide) ?_
      refine Tr.icmp_ge (pc := 89) (tgt := 105) d_X12_runs_89 rfl (fun hc => absurd hc (by decide)) (fun _ => ?_)
      refine Tr.aload_n (pc := 92) (i := 0) d_X12_runs_92 rfl rfl ?_
      refine Tr.getf (pc := 93) d_X12_runs_93 f_12_222 (by decide) (by decide) (ty_120 hF) ?_
      refine Tr.tp 161 (fx_120_69 hF) ?_
      refine Tr.iload_n (pc := 96) (i := 3) d_X12_runs_96 rfl rfl ?_
      refine Tr.iconst (pc := 97) d_X12_runs_97 (by decide) ?_
      refine Tr.iastX (pc := 98) d_X12_runs_98 (ty_161 hF) (by decide) (by decide) hF (by decide +kernel) (fun hF => ?_)
      refine Tr.iinc (pc := 99) (ls2 := [(3, (0, 24)), (0, (2, 120)), (1, (1, _))]) d_X12_runs_99 rfl (by decide) rfl ?_
      refine Tr.goto (pc := 102) (tgt := 86) d_X12_runs_102 rfl ?_
      refine Tr.iload_n (pc := 86) (i := 3) d_X12_runs_86 rfl rfl ?_
      refine Tr.bipush (pc := 87) d_X12_runs_87 rfl (by decide) ?_
      refine Tr.icmp_ge (pc := 89) (tgt := 105) d_X12_runs_89 rfl (fun _ => ?_) (fun hc => absurd (by decide) hc)
      refine Tr.aload_n (pc := 105) (i := 0) d_X12_runs_105 rfl rfl ?_
      refine Tr.iconst (pc := 106) d_X12_runs_106 (by decide) ?_
      refine Tr.putfX (pc := 107) d_X12_runs_107 f_12_201 (by decide) (by decide) (ty_120 hF) hF (by decide +kernel) (fun hF => ?_)
      refine Tr.aload_n (pc := 110) (i := 0) d_X12_runs_110 rfl rfl ?_
      refine Tr.lconst (pc := 111) (v := 0) d_X12_runs_111 rfl (by decide) ?_
      refine Tr.putfX (pc := 112) d_X12_runs_112 f_12_204 (by decide) (by decide) (ty_120 hF) hF (by decide +kernel) (fun hF => ?_)
      refine Tr.aload_n (pc := 115) (i := 0) d_X12_runs_115 rfl rfl ?_
      refine Tr.lload_n (pc := 116) (i := 1) d_X12_runs_116 rfl rfl ?_
      refine Tr.putfX (pc := 117) d_X12_runs_117 f_12_207 (by decide) (by decide) (ty_120 hF) hF (by decide +kernel) (fun hF => ?_)
      refine Tr.aload_n (pc := 120) (i := 0) d_X12_runs_120 rfl rfl ?_
      refine Tr.iconst (pc := 121) d_X12_runs_121 (by decide) ?_
      refine Tr.putfX (pc := 122) d_X12_runs_122 f_12_210 (by decide) (by decide) (ty_120 hF) hF (by decide +kernel) (fun hF => ?_)
      refine Tr.aload_n (pc := 125) (i := 0) d_X12_runs_125 rfl rfl ?_
      refine Tr.iconst (pc := 126) d_X12_runs_126 (by decide) ?_
      refine Tr.putfX (pc := 127) d_X12_runs_127 f_12_213 (by decide) (by decide) (ty_120 hF) hF (by decide +kernel) (fun hF => ?_)
      refine Tr.aload_n (pc := 130) (i := 0) d_X12_runs_130 rfl rfl ?_
      refine Tr.iconst (pc := 131) d_X12_runs_131 (by decide) ?_
      refine Tr.putfX (pc := 132) d_X12_runs_132 f_12_216 (by decide) (by decide) (ty_120 hF) hF (by decide +kernel) (fun hF => ?_)
      refine Tr.aload_n (pc := 135) (i := 0) d_X12_runs_135 rfl rfl ?_
      refine Tr.iconst (pc := 136) d_X12_runs_136 (by decide) ?_
      refine Tr.putfX (pc := 137) d_X12_runs_137 f_12_219 (by decide) (by decide) (ty_120 hF) hF (by decide +kernel) (fun hF => ?_)
      refine Tr.aload_n (pc := 140) (i := 0) d_X12_runs_140 rfl rfl ?_
      refine Tr.iconst (pc := 141) d_X12_runs_141 (by decide) ?_
      refine Tr.putfX (pc := 142) d_X12_runs_142 f_12_267 (by decide) (by decide) (ty_120 hF) hF (by decide +kernel) (fun hF => ?_)
      refine Tr.aload_n (pc := 145) (i := 0) d_X12_runs_145 rfl rfl ?_
      refine Tr.iconst (pc := 146) d_X12_runs_146 (by decide) ?_
      refine Tr.putfX (pc := 147) d_X12_runs_147 f_12_195 (by decide) (by decide) (ty_120 hF) hF (by decide +kernel) (fun hF => ?_)
      refine Tr.aload_n (pc := 150) (i := 0) d_X12_runs_150 rfl rfl ?_
      refine Tr.iconst (pc := 151) d_X12_runs_151 (by decide) ?_
      refine Tr.putfX (pc := 152) d_X12_runs_152 f_12_240 (by decide) (by decide) (ty_120 hF) hF (by decide +kernel) (fun hF => ?_)
      refine Tr.aload_n (pc := 155) (i := 0) d_X12_runs_155 rfl rfl ?_
      refine Tr.iconst (pc := 156) d_X12_runs_156 (by decide) ?_
      refine Tr.putfX (pc := 157) d_X12_runs_157 f_12_252 (by decide) (by decide) (ty_120 hF) hF (by decide +kernel) (fun hF => ?_)
      refine Tr.iconst (pc := 160) d_X12_runs_160 (by decide) ?_
      refine Tr.istore_n (pc := 161) (i := 3) (ls2 := [(3, (0, 0)), (0, (2, 120)), (1, (1, _))]) d_X12_runs_161 rfl (by decide) rfl ?_
      refine Tr.iload_n (pc := 162) (i := 3) d_X12_runs_162 rfl rfl ?_
      refine Tr.aload_n (pc := 163) (i := 0) d_X12_runs_163 rfl rfl ?_
      refine Tr.getf (pc := 164) d_X12_runs_164 f_12_94 (by decide) (by decide) (ty_120 hF) ?_
      refine Tr.tp 136 (fx_120_27 hF) ?_
      refine Tr.aload_n (pc := 167) (i := 0) d_X12_runs_167 rfl rfl ?_
      refine Tr.getf (pc := 168) d_X12_runs_168 f_12_48 (by decide) (by decide) (ty_120 hF) ?_
      refine Tr.tp 0 ((rd_wb _ rfl).trans ((rd_wb _ rfl).trans ((rd_wb _ rfl).trans ((rd_wb _ rfl).trans ((rd_wb _ rfl).trans ((rd_wb _ rfl).trans ((rd_wb _ rfl).trans ((rd_wb _ rfl).trans ((rd_wb _ rfl).trans ((rd_wb _ rfl).trans ((rd_wb _ rfl).trans ((rd_wb _ rfl).trans ((rd_wb _ rfl).trans ((rd_wb _ rfl).trans ((rd_wb _ rfl).trans ((rd_wb _ rfl).trans ((rd_wb _ rfl).trans ((rd_wb _ rfl).trans ((rd_wb _ rfl).trans ((rd_wb _ rfl).trans ((rd_wb _ rfl).trans ((rd_wb _ rfl).trans ((rd_wb _ rfl).trans ((rd_wb _ rfl).trans ((rd_wb _ rfl).trans ((rd_wb _ rfl).trans ((rd_wb _ rfl).trans ((rd_wb _ rfl).trans ((rd_wb _ rfl).trans ((rd_wb _ rfl).trans ((rd_wb _ rfl).trans ((rd_wb _ rfl).trans ((rd_wb _ rfl).trans ((rd_wb _ rfl).trans ((rd_wb _ rfl).trans ((rd_wb _ rfl).trans ((rd_wb _ rfl).trans ((rd_wb _ rfl).trans ((rd_wb _ rfl).trans ((rd_wb _ rfl).trans ((rd_wb _ rfl).trans ((rd_wb _ rfl).trans ((rd_wb _ rfl).trans ((rd_wb _ rfl).trans ((rd_wb _ rfl).trans ((rd_wb _ rfl).trans ((rd_wb _ rfl).trans ((rd_wb _ rfl).trans ((rd_wb _ rfl).trans ((rd_wb _ rfl).trans ((rd_wb _ rfl).trans ((rd_wb _ rfl).trans ((rd_wb _ rfl).trans ((rd_wb _ rfl).trans ((rd_wb _ rfl).trans ((rd_wb _ rfl).trans ((rd_wb _ rfl).trans ((rd_wb _ rfl).trans ((rd_wb _ rfl).trans ((rd_wb _ rfl).trans ((rd_wb _ rfl).trans ((rd_wb _ rfl).trans ((rd_wb _ rfl).trans ((rd_wb _ rfl).trans ((rd_wb _ rfl).trans ((rd_wb _ rfl).trans ((rd_wb _ rfl).trans ((rd_wb _ rfl).trans ((rd_wb _ rfl).trans ((rd_wb _ rfl).trans ((rd_wb _ rfl).trans ((rd_wb _ rfl).trans ((rd_wb _ rfl).trans ((rd_wb _ rfl).trans ((rd_wb _ rfl).trans ((rd_wb _ rfl).trans ((rd_wb _ rfl).trans ((rd_wb _ rfl).trans ((rd_wb _ rfl).trans ((rd_wb _ rfl).trans ((rd_fb _ rfl).trans ((rd_wb _ rfl).trans ((rd_wb _ rfl).trans ((rd_fb _ rfl).trans ((rd_fb _ rfl).trans ((rd_fb _ rfl).trans ((rd_fb _ rfl).trans ((rd_fb _ rfl).trans ((rd_fb _ rfl).trans ((rd_wb _ rfl).trans ((rd_wb _ rfl).trans ((rd_wb _ rfl).trans ((rd_wb _ rfl).trans ((rd_wb _ rfl).trans ((rd_wb _ rfl).trans ((rd_wb _ rfl).trans ((rd_wb _ rfl).trans ((rd_wb _ rfl).trans ((rd_fb _ rfl).trans ((rd_fb _ rfl).trans ((rd_fb _ rfl).trans ((rd_fb _ rfl).trans ((rd_fb _ rfl).trans ((rd_cb _ rfl).trans ((rd_wb _ rfl).trans (b_120_12)))))))))))))))))))))))))))))))))))))))))))))))))))))))))))))))))))))))))))))))))))))))))))))))))))))))))) ?_
      refine Tr.iald (pc := 171) d_X12_runs_171 (ty_136 hF) (by decide) (by decide) ?_
      refine Tr.tp 0 ((rd_wb _ rfl).trans ((rd_wb _ rfl).trans ((rd_wb _ rfl).trans ((rd_wb _ rfl).trans ((rd_wb _ rfl).trans ((rd_wb _ rfl).trans ((rd_wb _ rfl).trans ((rd_wb _ rfl).trans ((rd_wb _ rfl).trans ((rd_wb _ rfl).trans ((rd_wb _ rfl).trans ((rd_wb _ rfl).trans ((rd_wb _ rfl).trans ((rd_wb _ rfl).trans ((rd_wb _ rfl).trans ((rd_wb _ rfl).trans ((rd_wb _ rfl).trans ((rd_wb _ rfl).trans ((rd_wb _ rfl).trans ((rd_wb _ rfl).trans ((rd_wb _ rfl).trans ((rd_wb _ rfl).trans ((rd_wb _ rfl).trans ((rd_wb _ rfl).trans ((rd_wb _ rfl).trans ((rd_wb _ rfl).trans ((rd_wb _ rfl).trans ((rd_wb _ rfl).trans ((rd_wb _ rfl).trans ((rd_wb _ rfl).trans ((rd_wb _ rfl).trans ((rd_wb _ rfl).trans ((rd_wb _ rfl).trans ((rd_wb _ rfl).trans ((rd_wb _ rfl).trans ((rd_wb _ rfl).trans ((rd_wb _ rfl).trans ((rd_wb _ rfl).trans ((rd_wb _ rfl).trans ((rd_wb _ rfl).trans ((rd_wb _ rfl).trans ((rd_wb _ rfl).trans ((rd_wb _ rfl).trans ((rd_wb _ rfl).trans ((rd_wb _ rfl).trans ((rd_wb _ rfl).trans ((rd_wb _ rfl).trans ((rd_wb _ rfl).trans ((rd_wb _ rfl).trans ((rd_wb _ rfl).trans ((rd_wb _ rfl).trans ((rd_wb _ rfl).trans ((rd_wb _ rfl).trans ((rd_wb _ rfl).trans ((rd_wb _ rfl).trans ((rd_wb _ rfl).trans ((rd_wb _ rfl).trans ((rd_wb _ rfl).trans ((rd_wb _ rfl).trans ((rd_wb _ rfl).trans ((rd_wb _ rfl).trans ((rd_wb _ rfl).trans ((rd_wb _ rfl).trans ((rd_wb _ rfl).trans ((rd_wb _ rfl).trans ((rd_wb _ rfl).trans ((rd_wb _ rfl).trans ((rd_wb _ rfl).trans ((rd_wb _ rfl).trans ((rd_wb _ rfl).trans ((rd_wb _ rfl).trans ((rd_wb _ rfl).trans ((rd_wb _ rfl).trans ((rd_wb _ rfl).trans ((rd_wb _ rfl).trans ((rd_wb _ rfl).trans ((rd_wb _ rfl).trans ((rd_wb _ rfl).trans ((rd_wb _ rfl).trans ((rd_wb _ rfl).trans ((rd_fb _ rfl).trans ((rd_wb _ rfl).trans ((rd_wb _ rfl).trans ((rd_fb _ rfl).trans ((rd_fb _ rfl).trans ((rd_fb _ rfl).trans ((rd_fb _ rfl).trans ((rd_fb _ rfl).trans ((rd_fb _ rfl).trans ((rd_wb _ rfl).trans ((rd_wb _ rfl).trans ((rd_wb _ rfl).trans ((rd_wb _ rfl).trans ((rd_wb _ rfl).trans ((rd_wb _ rfl).trans ((rd_wb _ rfl).trans ((rd_wb _ rfl).trans ((rd_wb _ rfl).trans ((rd_fb _ rfl).trans ((rd_fb _ rfl).trans ((rd_fb _ rfl).trans ((rd_fb _ rfl).trans ((rd_fb _ rfl).trans ((rd_cb _ rfl).trans ((rd_wb _ rfl).trans (b_136_0)))))))))))))))))))))))))))))))))))))))))))))))))))))))))))))))))))))))))))))))))))))))))))))))))))))))))) ?_
      refine Tr.icmp_ge (pc := 172) (tgt := 317) d_X12_runs_172 rfl (fun _ => ?_) (fun hc => absurd (by decide) hc)
      refine Tr.aload_n (pc := 317) (i := 0) d_X12_runs_317 rfl rfl ?_
      refine Tr.getf (pc := 318) d_X12_runs_318 f_12_219 (by decide) (by decide) (ty_120 hF) ?_
      refine Tr.tp 0 ((rd_wb _ rfl).trans ((rd_wb _ rfl).trans ((rd_wb _ rfl).trans ((rd_wb _ rfl).trans (rd_ws _ _ _ _))))) ?_
      refine Tr.if_le (pc := 321) (tgt := 329) d_X12_runs_321 rfl (fun _ => ?_) (fun hc => absurd (by decide) hc)
      refine Tr.iconst (pc := 329) d_X12_runs_329 (by decide) ?_
      refine Tr.istore (pc := 330) (i := 4) (ls2 := [(4, (0, 1)), (3, (0, 0)), (0, (2, 120)), (1, (1, _))]) d_X12_runs_330 (by decide) rfl ?_
      refine Tr.iload (pc := 332) (i := 4) d_X12_runs_332 rfl ?_
      refine Tr.if_eq (pc := 334) (tgt := 409) d_X12_runs_334 rfl (fun hc => absurd hc (by decide)) (fun _ => ?_)
      refine Tr.iconst (pc := 337) d_X12_runs_337 (by decide) ?_
      refine Tr.istore (pc := 338) (i := 4) (ls2 := [(4, (0, 0)), (3, (0, 0)), (0, (2, 120)), (1, (1, _))]) d_X12_runs_338 (by decide) rfl ?_
      refine Tr.iconst (pc := 340) d_X12_runs_340 (by decide) ?_
      refine Tr.istore (pc := 341) (i := 5) (ls2 := [(5, (0, 0)), (4, (0, 0)), (3, (0, 0)), (0, (2, 120)), (1, (1, _))]) d_X12_runs_341 (by decide) rfl ?_
      refine Tr.iload (pc := 343) (i := 5) d_X12_runs_343 rfl ?_
      refine Tr.aload_n (pc := 345) (i := 0) d_X12_runs_345 rfl rfl ?_
      refine Tr.getf (pc := 346) d_X12_runs_346 f_12_63 (by decide) (by decide) (ty_120 hF) ?_
      refine Tr.tp 126 (fx_120_17 hF) ?_
      refine Tr.aload_n (pc := 349) (i := 0) d_X12_runs_349 rfl rfl ?_
      refine Tr.getf (pc := 350) d_X12_runs_350 f_12_48 (by decide) (by decide) (ty_120 hF) ?_
      refine Tr.tp 0 ((rd_wb _ rfl).trans ((rd_wb _ rfl).trans ((rd_wb _ rfl).trans ((rd_wb _ rfl).trans ((rd_wb _ rfl).trans ((rd_wb _ rfl).trans ((rd_wb _ rfl).trans ((rd_wb _ rfl).trans ((rd_wb _ rfl).trans ((rd_wb _ rfl).trans ((rd_wb _ rfl).trans ((rd_wb _ rfl).trans ((rd_wb _ rfl).trans ((rd_wb _ rfl).trans ((rd_wb _ rfl).trans ((rd_wb _ rfl).trans ((rd_wb _ rfl).trans ((rd_wb _ rfl).trans ((rd_wb _ rfl).trans ((rd_wb _ rfl).trans ((rd_wb _ rfl).trans ((rd_wb _ rfl).trans ((rd_wb _ rfl).trans ((rd_wb _ rfl).trans ((rd_wb _ rfl).trans ((rd_wb _ rfl).trans ((rd_wb _ rfl).trans ((rd_wb _ rfl).trans ((rd_wb _ rfl).trans ((rd_wb _ rfl).trans ((rd_wb _ rfl).trans ((rd_wb _ rfl).trans ((rd_wb _ rfl).trans ((rd_wb _ rfl).trans ((rd_wb _ rfl).trans ((rd_wb _ rfl).trans ((rd_wb _ rfl).trans ((rd_wb _ rfl).trans ((rd_wb _ rfl).trans ((rd_wb _ rfl).trans ((rd_wb _ rfl).trans ((rd_wb _ rfl).trans ((rd_wb _ rfl).trans ((rd_wb _ rfl).trans ((rd_wb _ rfl).trans ((rd_wb _ rfl).trans ((rd_wb _ rfl).trans ((rd_wb _ rfl).trans ((rd_wb _ rfl).trans ((rd_wb _ rfl).trans ((rd_wb _ rfl).trans ((rd_wb _ rfl).trans ((rd_wb _ rfl).trans ((rd_wb _ rfl).trans ((rd_wb _ rfl).trans ((rd_wb _ rfl).trans ((rd_wb _ rfl).trans ((rd_wb _ rfl).trans ((rd_wb _ rfl).trans ((rd_wb _ rfl).trans ((rd_wb _ rfl).trans ((rd_wb _ rfl).trans ((rd_wb _ rfl).trans ((rd_wb _ rfl).trans ((rd_wb _ rfl).trans ((rd_wb _ rfl).trans ((rd_wb _ rfl).trans ((rd_wb _ rfl).trans ((rd_wb _ rfl).trans ((rd_wb _ rfl).trans ((rd_wb _ rfl).trans ((rd_wb _ rfl).trans ((rd_wb _ rfl).trans ((rd_wb _ rfl).trans ((rd_wb _ rfl).trans ((rd_wb _ rfl).trans ((rd_wb _ rfl).trans ((rd_wb _ rfl).trans ((rd_wb _ rfl).trans ((rd_wb _ rfl).trans ((rd_fb _ rfl).trans ((rd_wb _ rfl).trans ((rd_wb _ rfl).trans ((rd_fb _ rfl).trans ((rd_fb _ rfl).trans ((rd_fb _ rfl).trans ((rd_fb _ rfl).trans ((rd_fb _ rfl).trans ((rd_fb _ rfl).trans ((rd_wb _ rfl).trans ((rd_wb _ rfl).trans ((rd_wb _ rfl).trans ((rd_wb _ rfl).trans ((rd_wb _ rfl).trans ((rd_wb _ rfl).trans ((rd_wb _ rfl).trans ((rd_wb _ rfl).trans ((rd_wb _ rfl).trans ((rd_fb _ rfl).trans ((rd_fb _ rfl).trans ((rd_fb _ rfl).trans ((rd_fb _ rfl).trans ((rd_fb _ rfl).trans ((rd_cb _ rfl).trans ((rd_wb _ rfl).trans (b_120_12)))))))))))))))))))))))))))))))))))))))))))))))))))))))))))))))))))))))))))))))))))))))))))))))))))))))))) ?_
      refine Tr.iald (pc := 353) d_X12_runs_353 (ty_126 hF) (by decide) (by decide) ?_
      refine Tr.tp 0 ((rd_wb _ rfl).trans ((rd_wb _ rfl).trans ((rd_wb _ rfl).trans ((rd_wb _ rfl).trans ((rd_wb _ rfl).trans ((rd_wb _ rfl).trans ((rd_wb _ rfl).trans ((rd_wb _ rfl).trans ((rd_wb _ rfl).trans ((rd_wb _ rfl).trans ((rd_wb _ rfl).trans ((rd_wb _ rfl).trans ((rd_wb _ rfl).trans ((rd_wb _ rfl).trans ((rd_wb _ rfl).trans ((rd_wb _ rfl).trans ((rd_wb _ rfl).trans ((rd_wb _ rfl).trans ((rd_wb _ rfl).trans ((rd_wb _ rfl).trans ((rd_wb _ rfl).trans ((rd_wb _ rfl).trans ((rd_wb _ rfl).trans ((rd_wb _ rfl).trans ((rd_wb _ rfl).trans ((rd_wb _ rfl).trans ((rd_wb _ rfl).trans ((rd_wb _ rfl).trans ((rd_wb _ rfl).trans ((rd_wb _ rfl).trans ((rd_wb _ rfl).trans ((rd_wb _ rfl).trans ((rd_wb _ rfl).trans ((rd_wb _ rfl).trans ((rd_wb _ rfl).trans ((rd_wb _ rfl).trans ((rd_wb _ rfl).trans ((rd_wb _ rfl).trans ((rd_wb _ rfl).trans ((rd_wb _ rfl).trans ((rd_wb _ rfl).trans ((rd_wb _ rfl).trans ((rd_wb _ rfl).trans ((rd_wb _ rfl).trans ((rd_wb _ rfl).trans ((rd_wb _ rfl).trans ((rd_wb _ rfl).trans ((rd_wb _ rfl).trans ((rd_wb _ rfl).trans ((rd_wb _ rfl).trans ((rd_wb _ rfl).trans ((rd_wb _ rfl).trans ((rd_wb _ rfl).trans ((rd_wb _ rfl).trans ((rd_wb _ rfl).trans ((rd_wb _ rfl).trans ((rd_wb _ rfl).trans ((rd_wb _ rfl).trans ((rd_wb _ rfl).trans ((rd_wb _ rfl).trans ((rd_wb _ rfl).trans ((rd_wb _ rfl).trans ((rd_wb _ rfl).trans ((rd_wb _ rfl).trans ((rd_wb _ rfl).trans ((rd_wb _ rfl).trans ((rd_wb _ rfl).trans ((rd_wb _ rfl).trans ((rd_wb _ rfl).trans ((rd_wb _ rfl).trans ((rd_wb _ rfl).trans ((rd_wb _ rfl).trans ((rd_wb _ rfl).trans ((rd_wb _ rfl).trans ((rd_wb _ rfl).trans ((rd_wb _ rfl).trans ((rd_wb _ rfl).trans ((rd_wb _ rfl).trans ((rd_wb _ rfl).trans ((rd_wb _ rfl).trans ((rd_fb _ rfl).trans ((rd_wb _ rfl).trans ((rd_wb _ rfl).trans ((rd_fb _ rfl).trans ((rd_fb _ rfl).trans ((rd_fb _ rfl).trans ((rd_fb _ rfl).trans ((rd_fb _ rfl).trans ((rd_fb _ rfl).trans ((rd_wb _ rfl).trans ((rd_wb _ rfl).trans ((rd_wb _ rfl).trans ((rd_wb _ rfl).trans ((rd_wb _ rfl).trans ((rd_wb _ rfl).trans ((rd_wb _ rfl).trans ((rd_wb _ rfl).trans ((rd_wb _ rfl).trans ((rd_fb _ rfl).trans ((rd_fb _ rfl).trans ((rd_fb _ rfl).trans ((rd_fb _ rfl).trans ((rd_fb _ rfl).trans ((rd_cb _ rfl).trans ((rd_wb _ rfl).trans (b_126_0)))))))))))))))))))))))))))))))))))))))))))))))))))))))))))))))))))))))))))))))))))))))))))))))))))))))))) ?_
      refine Tr.icmp_ge (pc := 354) (tgt := 395) d_X12_runs_354 rfl (fun _ => ?_) (fun hc => absurd (by decide) hc)
      refine Tr.iload (pc := 395) (i := 4) d_X12_runs_395 rfl ?_
      refine Tr.if_eq (pc := 397) (tgt := 332) d_X12_runs_397 rfl (fun _ => ?_) (fun hc => absurd (by decide) hc)
      refine Tr.iload (pc := 332) (i := 4) d_X12_runs_332 rfl ?_
      refine Tr.if_eq (pc := 334) (tgt := 409) d_X12_runs_334 rfl (fun _ => ?_) (fun hc => absurd (by decide) hc)
      refine Tr.iconst (pc := 409) d_X12_runs_409 (by decide) ?_
      refine Tr.iret (pc := 410) d_X12_runs_410 rfl ?_
      refine Tr.sc [_] rfl ?_
      refine Tr.istore_n (pc := 44) (i := 2) (ls2 := [(2, (0, 0)), (0, (2, 120)), (1, (0, _))]) d_X12_run_44 rfl (by decide) rfl ?_
      refine Tr.aload_n (pc := 45) (i := 0) d_X12_run_45 rfl rfl ?_
      refine Tr.iconst (pc := 46) d_X12_run_46 (by decide) ?_
      refine Tr.putzX (pc := 47) d_X12_run_47 f_12_225 (by decide) (ty_120 hF) (by decide) hF (by decide +kernel) (fun hF => ?_)
      refine Tr.aload_n (pc := 50) (i := 0) d_X12_run_50 rfl rfl ?_
      refine Tr.iconst (pc := 51) d_X12_run_51 (by decide) ?_
      refine Tr.putzX (pc := 52) d_X12_run_52 f_12_270 (by decide) (ty_120 hF) (by decide) hF (by decide +kernel) (fun hF => ?_)
      refine Tr.aload_n (pc := 55) (i := 0) d_X12_run_55 rfl rfl ?_
      refine Tr.aload_n (pc := 56) (i := 0) d_X12_run_56 rfl rfl ?_
      refine Tr.getf (pc := 57) d_X12_run_57 f_12_201 (by decide) (by decide) (ty_120 hF) ?_
      refine Tr.tp 0 ((rd_wb _ rfl).trans ((rd_wb _ rfl).trans ((rd_wb _ rfl).trans ((rd_wb _ rfl).trans ((rd_wb _ rfl).trans ((rd_wb _ rfl).trans ((rd_wb _ rfl).trans ((rd_wb _ rfl).trans ((rd_wb _ rfl).trans ((rd_wb _ rfl).trans ((rd_wb _ rfl).trans ((rd_wb _ rfl).trans (rd_ws _ _ _ _))))))))))))) ?_
      refine Tr.putfX (pc := 60) d_X12_run_60 f_12_273 (by decide) (by decide) (ty_120 hF) hF (by decide +kernel) (fun hF => ?_)
      refine Tr.aload_n (pc := 63) (i := 0) d_X12_run_63 rfl rfl ?_
      refine Tr.aload_n (pc := 64) (i := 0) d_X12_run_64 rfl rfl ?_
      refine Tr.getf (pc := 65) d_X12_run_65 f_12_204 (by decide) (by decide) (ty_120 hF) ?_
      refine Tr.tp 0 ((rd_wb _ rfl).trans ((rd_wb _ rfl).trans ((rd_wb _ rfl).trans ((rd_wb _ rfl).trans ((rd_wb _ rfl).trans ((rd_wb _ rfl).trans ((rd_wb _ rfl).trans ((rd_wb _ rfl).trans ((rd_wb _ rfl).trans ((rd_wb _ rfl).trans ((rd_wb _ rfl).trans ((rd_wb _ rfl).trans (rd_ws _ _ _ _))))))))))))) ?_
      refine Tr.putfX (pc := 68) d_X12_run_68 f_12_276 (by decide) (by decide) (ty_120 hF) hF (by decide +kernel) (fun hF => ?_)
      refine Tr.aload_n (pc := 71) (i := 0) d_X12_run_71 rfl rfl ?_
      refine Tr.aload_n (pc := 72) (i := 0) d_X12_run_72 rfl rfl ?_
      refine Tr.getf (pc := 73) d_X12_run_73 f_12_210 (by decide) (by decide) (ty_120 hF) ?_
      refine Tr.tp 0 ((rd_wb _ rfl).trans ((rd_wb _ rfl).trans ((rd_wb _ rfl).trans ((rd_wb _ rfl).trans ((rd_wb _ rfl).trans ((rd_wb _ rfl).trans ((rd_wb _ rfl).trans ((rd_wb _ rfl).trans ((rd_wb _ rfl).trans ((rd_wb _ rfl).trans ((rd_wb _ rfl).trans (rd_ws _ _ _ _)))))))))))) ?_
      refine Tr.putfX (pc := 76) d_X12_run_76 f_12_279 (by decide) (by decide) (ty_120 hF) hF (by decide +kernel) (fun hF => ?_)
      refine Tr.aload_n (pc := 79) (i := 0) d_X12_run_79 rfl rfl ?_
      refine Tr.aload_n (pc := 80) (i := 0) d_X12_run_80 rfl rfl ?_
      refine Tr.getf (pc := 81) d_X12_run_81 f_12_213 (by decide) (by decide) (ty_120 hF) ?_
      refine Tr.tp 0 ((rd_wb _ rfl).trans ((rd_wb _ rfl).trans ((rd_wb _ rfl).trans ((rd_wb _ rfl).trans ((rd_wb _ rfl).trans ((rd_wb _ rfl).trans ((rd_wb _ rfl).trans ((rd_wb _ rfl).trans ((rd_wb _ rfl).trans ((rd_wb _ rfl).trans ((rd_wb _ rfl).trans (rd_ws _ _ _ _)))))))))))) ?_
      refine Tr.putfX (pc := 84) d_X12_run_84 f_12_282 (by decide) (by decide) (ty_120 hF) hF (by decide +kernel) (fun hF => ?_)
      refine Tr.aload_n (pc := 87) (i := 0) d_X12_run_87 rfl rfl ?_
      refine Tr.aload_n (pc := 88) (i := 0) d_X12_run_88 rfl rfl ?_
      refine Tr.getf (pc := 89) d_X12_run_89 f_12_216 (by decide) (by decide) (ty_120 hF) ?_
      refine Tr.tp 0 ((rd_wb _ rfl).trans ((rd_wb _ rfl).trans ((rd_wb _ rfl).trans ((rd_wb _ rfl).trans ((rd_wb _ rfl).trans ((rd_wb _ rfl).trans ((rd_wb _ rfl).trans ((rd_wb _ rfl).trans ((rd_wb _ rfl).trans ((rd_wb _ rfl).trans ((rd_wb _ rfl).trans (rd_ws _ _ _ _)))))))))))) ?_
      refine Tr.putfX (pc := 92) d_X12_run_92 f_12_285 (by decide) (by decide) (ty_120 hF) hF (by decide +kernel) (fun hF => ?_)
      refine Tr.aload_n (pc := 95) (i := 0) d_X12_run_95 rfl rfl ?_
      refine Tr.aload_n (pc := 96) (i := 0) d_X12_run_96 rfl rfl ?_
      refine Tr.getf (pc := 97) d_X12_run_97 f_12_267 (by decide) (by decide) (ty_120 hF) ?_
      refine Tr.tp (-1) ((rd_wb _ rfl).trans ((rd_wb _ rfl).trans ((rd_wb _ rfl).trans ((rd_wb _ rfl).trans ((rd_wb _ rfl).trans ((rd_wb _ rfl).trans ((rd_wb _ rfl).trans ((rd_wb _ rfl).trans ((rd_wb _ rfl).trans ((rd_wb _ rfl).trans (rd_ws _ _ _ _))))))))))) ?_
      refine Tr.putfX (pc := 100) d_X12_run_100 f_12_288 (by decide) (by decide) (ty_120 hF) hF (by decide +kernel) (fun hF => ?_)
      refine Tr.aload_n (pc := 103) (i := 0) d_X12_run_103 rfl rfl ?_
      refine Tr.aload_n (pc := 104) (i := 0) d_X12_run_104 rfl rfl ?_
      refine Tr.getf (pc := 105) d_X12_run_105 f_12_240 (by decide) (by decide) (ty_120 hF) ?_
      refine Tr.tp 0 ((rd_wb _ rfl).trans ((rd_wb _ rfl).trans ((rd_wb _ rfl).trans ((rd_wb _ rfl).trans ((rd_wb _ rfl).trans ((rd_wb _ rfl).trans ((rd_wb _ rfl).trans ((rd_wb _ rfl).trans ((rd_wb _ rfl).trans (rd_ws _ _ _ _)))))))))) ?_
      refine Tr.putfX (pc := 108) d_X12_run_108 f_12_300 (by decide) (by decide) (ty_120 hF) hF (by decide +kernel) (fun hF => ?_)
      refine Tr.aload_n (pc := 111) (i := 0) d_X12_run_111 rfl rfl ?_
      refine Tr.aload_n (pc := 112) (i := 0) d_X12_run_112 rfl rfl ?_
      refine Tr.getf (pc := 113) d_X12_run_113 f_12_252 (by decide) (by decide) (ty_120 hF) ?_
      refine Tr.tp 0 ((rd_wb _ rfl).trans ((rd_wb _ rfl).trans ((rd_wb _ rfl).trans ((rd_wb _ rfl).trans ((rd_wb _ rfl).trans ((rd_wb _ rfl).trans ((rd_wb _ rfl).trans ((rd_wb _ rfl).trans ((rd_wb _ rfl).trans (rd_ws _ _ _ _)))))))))) ?_
      refine Tr.putfX (pc := 116) d_X12_run_116 f_12_303 (by decide) (by decide) (ty_120 hF) hF (by decide +kernel) (fun hF => ?_)
      refine Tr.iconst (pc := 119) d_X12_run_119 (by decide) ?_
      refine Tr.istore_n (pc := 120) (i := 3) (ls2 := [(3, (0, 0)), (2, (0, 0)), (0, (2, 120)), (1, (0, _))]) d_X12_run_120 rfl (by decide) rfl ?_
      refine Tr.iload_n (pc := 121) (i := 3) d_X12_run_121 rfl rfl ?_
      refine Tr.bipush (pc := 122) d_X12_run_122 rfl (by decide) ?_
      refine Tr.icmp_ge (pc := 124) (tgt := 145) d_X12_run_124 rfl (fun hc => absurd hc (by decide)) (fun _ => ?_)
      refine Tr.aload_n (pc := 127) (i := 0) d_X12_run_127 rfl rfl ?_
      refine Tr.getf (pc := 128) d_X12_run_128 f_12_291 (by decide) (by decide) (ty_120 hF) ?_
      refine Tr.tp 173 (fx_120_92 hF) ?_
      refine Tr.iload_n (pc := 131) (i := 3) d_X12_run_131 rfl rfl ?_
      refine Tr.aload_n (pc := 132) (i := 0) d_X12_run_132 rfl rfl ?_
      refine Tr.getf (pc := 133) d_X12_run_133 f_12_174 (by decide) (by decide) (ty_120 hF) ?_
      refine Tr.tp 155 (fx_120_53 hF) ?_
      refine Tr.iload_n (pc := 136) (i := 3) d_X12_run_136 rfl rfl ?_
      refine Tr.iald (pc := 137) d_X12_run_137 (ty_155 hF) (by decide) (by decide) ?_
      refine Tr.tp 0 ((rd_wb _ rfl).trans ((rd_wb _ rfl).trans ((rd_wb _ rfl).trans ((rd_wb _ rfl).trans ((rd_wb _ rfl).trans ((rd_wb _ rfl).trans ((rd_wb _ rfl).trans ((rd_wb _ rfl).trans ((rd_wb _ rfl).trans ((rd_wb _ rfl).trans ((rd_wb _ rfl).trans ((rd_wb _ rfl).trans ((rd_wb _ rfl).trans ((rd_wb _ rfl).trans ((rd_wb _ rfl).trans ((rd_wb _ rfl).trans ((rd_wb _ rfl).trans ((rd_wb _ rfl).trans ((rd_wb _ rfl).trans ((rd_wb _ rfl).trans ((rd_wb _ rfl).trans ((rd_wb _ rfl).trans ((rd_wb _ rfl).trans ((rd_wb _ rfl).trans ((rd_wb _ rfl).trans ((rd_wb _ rfl).trans ((rd_wb _ rfl).trans ((rd_wb _ rfl).trans ((rd_wb _ rfl).trans ((rd_wb _ rfl).trans ((rd_wb _ rfl).trans ((rd_wb _ rfl).trans ((rd_wb _ rfl).trans ((rd_wb _ rfl).trans ((rd_wb _ rfl).trans ((rd_wb _ rfl).trans ((rd_wb _ rfl).trans ((rd_wb _ rfl).trans ((rd_wb _ rfl).trans ((rd_wb _ rfl).trans ((rd_wb _ rfl).trans ((rd_wb _ rfl).trans ((rd_wb _ rfl).trans ((rd_wb _ rfl).trans ((rd_wb _ rfl).trans ((rd_wb _ rfl).trans ((rd_wb _ rfl).trans ((rd_wb _ rfl).trans ((rd_wb _ rfl).trans ((rd_wb _ rfl).trans ((rd_wb _ rfl).trans ((rd_wb _ rfl).trans ((rd_wb _ rfl).trans ((rd_wb _ rfl).trans ((rd_wb _ rfl).trans ((rd_wb _ rfl).trans ((rd_wb _ rfl).trans ((rd_wb _ rfl).trans ((rd_wb _ rfl).trans ((rd_wb _ rfl).trans ((rd_wb _ rfl).trans ((rd_wb _ rfl).trans ((rd_wb _ rfl).trans ((rd_wb _ rfl).trans ((rd_wb _ rfl).trans ((rd_wb _ rfl).trans ((rd_wb _ rfl).trans ((rd_wb _ rfl).trans ((rd_wb _ rfl).trans ((rd_wb _ rfl).trans ((rd_wb _ rfl).trans ((rd_wb _ rfl).trans ((rd_wb _ rfl).trans ((rd_wb _ rfl).trans ((rd_wb _ rfl).trans ((rd_wb _ rfl).trans ((rd_wb _ rfl).trans ((rd_wb _ rfl).trans ((rd_wb _ rfl).trans ((rd_wb _ rfl).trans ((rd_wb _ rfl).trans ((rd_wb _ rfl).trans (rd_ws _ _ _ _))))))))))))))))))))))))))))))))))))))))))))))))))))))))))))))))))))))))))))))))))) ?_
      refine Tr.iastX (pc := 138) d_X12_run_138 (ty_173 hF) (by decide) (by decide) hF (by decide +kernel) (fun hF => ?_)
      refine Tr.iinc (pc := 139) (ls2 := [(3, (0, 1)), (2, (0, 0)), (0, (2, 120)), (1, (0, _))]) d_X12_run_139 rfl (by decide) rfl ?_
      refine Tr.goto (pc := 142) (tgt := 121) d_X12_run_142 rfl ?_
      refine Tr.iload_n (pc := 121) (i := 3) d_X12_run_121 rfl rfl ?_
      refine Tr.bipush (pc := 122) d_X12_run_122 rfl (by decide) ?_
      refine Tr.icmp_ge (pc := 124) (tgt := 145) d_X12_run_124 rfl (fun hc => absurd hc (by decide)) (fun _ => ?_)
      refine Tr.aload_n (pc := 127) (i := 0) d_X12_run_127 rfl rfl ?_
      refine Tr.getf (pc := 128) d_X12_run_128 f_12_291 (by decide) (by decide) (ty_120 hF) ?_
      refine Tr.tp 173 (fx_120_92 hF) ?_
      refine Tr.iload_n (pc := 131) (i := 3) d_X12_run_131 rfl rfl ?_
      refine Tr.aload_n (pc := 132) (i := 0) d_X12_run_132 rfl rfl ?_
      refine Tr.getf (pc := 133) d_X12_run_133 f_12_174 (by decide) (by decide) (ty_120 hF) ?_
      refine Tr.tp 155 (fx_120_53 hF) ?_
      refine Tr.iload_n (pc := 136) (i := 3) d_X12_run_136 rfl rfl ?_
      refine Tr.iald (pc := 137) d_X12_run_137 (ty_155 hF) (by decide) (by decide) ?_
      refine Tr.tp 0 ((rd_wb _ rfl).trans ((rd_wb _ rfl).trans ((rd_wb _ rfl).trans ((rd_wb _ rfl).trans ((rd_wb _ rfl).trans ((rd_wb _ rfl).trans ((rd_wb _ rfl).trans ((rd_wb _ rfl).trans ((rd_wb _ rfl).trans ((rd_wb _ rfl).trans ((rd_wb _ rfl).trans ((rd_wb _ rfl).trans ((rd_wb _ rfl).trans ((rd_wb _ rfl).trans ((rd_wb _ rfl).trans ((rd_wb _ rfl).trans ((rd_wb _ rfl).trans ((rd_wb _ rfl).trans ((rd_wb _ rfl).trans ((rd_wb _ rfl).trans ((rd_wb _ rfl).trans ((rd_wb _ rfl).trans ((rd_wb _ rfl).trans ((rd_wb _ rfl).trans ((rd_wb _ rfl).trans ((rd_wb _ rfl).trans ((rd_wb _ rfl).trans ((rd_wb _ rfl).trans ((rd_wb _ rfl).trans ((rd_wb _ rfl).trans ((rd_wb _ rfl).trans ((rd_wb _ rfl).trans ((rd_wb _ rfl).trans ((rd_wb _ rfl).trans ((rd_wb _ rfl).trans ((rd_wb _ rfl).trans ((rd_wb _ rfl).trans ((rd_wb _ rfl).trans ((rd_wb _ rfl).trans ((rd_wb _ rfl).trans ((rd_wb _ rfl).trans ((rd_wb _ rfl).trans ((rd_wb _ rfl).trans ((rd_wb _ rfl).trans ((rd_wb _ rfl).trans ((rd_wb _ rfl).trans ((rd_wb _ rfl).trans ((rd_wb _ rfl).trans ((rd_wb _ rfl).trans ((rd_wb _ rfl).trans ((rd_wb _ rfl).trans ((rd_wb _ rfl).trans ((rd_wb _ rfl).trans ((rd_wb _ rfl).trans ((rd_wb _ rfl).trans ((rd_wb _ rfl).trans ((rd_wb _ rfl).trans ((rd_wb _ rfl).trans ((rd_wb _ rfl).trans ((rd_wb _ rfl).trans ((rd_wb _ rfl).trans ((rd_wb _ rfl).trans ((rd_wb _ rfl).trans ((rd_wb _ rfl).trans ((rd_wb _ rfl).trans ((rd_wb _ rfl).trans ((rd_wb _ rfl).trans ((rd_wb _ rfl).trans ((rd_wb _ rfl).trans ((rd_wb _ rfl).trans ((rd_wb _ rfl).trans ((rd_wb _ rfl).trans ((rd_wb _ rfl).trans ((rd_wb _ rfl).trans ((rd_wb _ rfl).trans ((rd_wb _ rfl).trans ((rd_wb _ rfl).trans ((rd_wb _ rfl).trans ((rd_wb _ rfl).trans ((rd_wb _ rfl).trans ((rd_wb _ rfl).trans ((rd_wb _ rfl).trans (rd_ws _ _ _ _))))))))))))))))))))))))))))))))))))))))))))))))))))))))))))))))))))))))))))))))))) ?_
      refine Tr.iastX (pc := 138) d_X12_run_138 (ty_173 hF) (by decide) (by decide) hF (by decide +kernel) (fun hF => ?_)
      refine Tr.iinc (pc := 139) (ls2 := [(3, (0, 2)), (2, (0, 0)), (0, (2, 120)), (1, (0, _))]) d_X12_run_139 rfl (by decide) rfl ?_
      refine Tr.goto (pc := 142) (tgt := 121) d_X12_run_142 rfl ?_
      refine Tr.iload_n (pc := 121) (i := 3) d_X12_run_121 rfl rfl ?_
      refine Tr.bipush (pc := 122) d_X12_run_122 rfl (by decide) ?_
      refine Tr.icmp_ge (pc := 124) (tgt := 145) d_X12_run_124 rfl (fun hc => absurd hc (by decide)) (fun _ => ?_)
      refine Tr.aload_n (pc := 127) (i := 0) d_X12_run_127 rfl rfl ?_
      refine Tr.getf (pc := 128) d_X12_run_128 f_12_291 (by decide) (by decide) (ty_120 hF) ?_
      refine Tr.tp 173 (fx_120_92 hF) ?_
      refine Tr.iload_n (pc := 131) (i := 3) d_X12_run_131 rfl rfl ?_
      refine Tr.aload_n (pc := 132) (i := 0) d_X12_run_132 rfl rfl ?_
      refine Tr.getf (pc := 133) d_X12_run_133 f_12_174 (by decide) (by decide) (ty_120 hF) ?_
      refine Tr.tp 155 (fx_120_53 hF) ?_
      refine Tr.iload_n (pc := 136) (i := 3) d_X12_run_136 rfl rfl ?_
      refine Tr.iald (pc := 137) d_X12_run_137 (ty_155 hF) (by decide) (by decide) ?_
      refine Tr.tp 0 ((rd_wb _ rfl).trans ((rd_wb _ rfl).trans ((rd_wb _ rfl).trans ((rd_wb _ rfl).trans ((rd_wb _ rfl).trans ((rd_wb _ rfl).trans ((rd_wb _ rfl).trans ((rd_wb _ rfl).trans ((rd_wb _ rfl).trans ((rd_wb _ rfl).trans ((rd_wb _ rfl).trans ((rd_wb _ rfl).trans ((rd_wb _ rfl).trans ((rd_wb _ rfl).trans ((rd_wb _ rfl).trans ((rd_wb _ rfl).trans ((rd_wb _ rfl).trans ((rd_wb _ rfl).trans ((rd_wb _ rfl).trans ((rd_wb _ rfl).trans ((rd_wb _ rfl).trans ((rd_wb _ rfl).trans ((rd_wb _ rfl).trans ((rd_wb _ rfl).trans ((rd_wb _ rfl).trans ((rd_wb _ rfl).trans ((rd_wb _ rfl).trans ((rd_wb _ rfl).trans ((rd_wb _ rfl).trans ((rd_wb _ rfl).trans ((rd_wb _ rfl).trans ((rd_wb _ rfl).trans ((rd_wb _ rfl).trans ((rd_wb _ rfl).trans ((rd_wb _ rfl).trans ((rd_wb _ rfl).trans ((rd_wb _ rfl).trans ((rd_wb _ rfl).trans ((rd_wb _ rfl).trans ((rd_wb _ rfl).trans ((rd_wb _ rfl).trans ((rd_wb _ rfl).trans ((rd_wb _ rfl).trans ((rd_wb _ rfl).trans ((rd_wb _ rfl).trans ((rd_wb _ rfl).trans ((rd_wb _ rfl).trans ((rd_wb _ rfl).trans ((rd_wb _ rfl).trans ((rd_wb _ rfl).trans ((rd_wb _ rfl).trans ((rd_wb _ rfl).trans ((rd_wb _ rfl).trans ((rd_wb _ rfl).trans ((rd_wb _ rfl).trans ((rd_wb _ rfl).trans ((rd_wb _ rfl).trans ((rd_wb _ rfl).trans ((rd_wb _ rfl).trans ((rd_wb _ rfl).trans ((rd_wb _ rfl).trans ((rd_wb _ rfl).trans ((rd_wb _ rfl).trans ((rd_wb _ rfl).trans ((rd_wb _ rfl).trans ((rd_wb _ rfl).trans ((rd_wb _ rfl).trans ((rd_wb _ rfl).trans ((rd_wb _ rfl).trans ((rd_wb _ rfl).trans ((rd_wb _ rfl).trans ((rd_wb _ rfl).trans ((rd_wb _ rfl).trans ((rd_wb _ rfl).trans ((rd_wb _ rfl).trans ((rd_wb _ rfl).trans ((rd_wb _ rfl).trans ((rd_wb _ rfl).trans ((rd_wb _ rfl).trans ((rd_wb _ rfl).trans ((rd_wb _ rfl).trans ((rd_wb _ rfl).trans (rd_ws _ _ _ _))))))))))))))))))))))))))))))))))))))))))))))))))))))))))))))))))))))))))))))))))) ?_
      refine Tr.iastX (pc := 138) d_X12_run_138 (ty_173 hF) (by decide) (by decide) hF (by decide +kernel) (fun hF => ?_)
      refine Tr.iinc (pc := 139) (ls2 := [(3, (0, 3)), (2, (0, 0)), (0, (2, 120)), (1, (0, _))]) d_X12_run_139 rfl (by decide) rfl ?_
      refine Tr.goto (pc := 142) (tgt := 121) d_X12_run_142 rfl ?_
      refine Tr.iload_n (pc := 121) (i := 3) d_X12_run_121 rfl rfl ?_
      refine Tr.bipush (pc := 122) d_X12_run_122 rfl (by decide) ?_
      refine Tr.icmp_ge (pc := 124) (tgt := 145) d_X12_run_124 rfl (fun hc => absurd hc (by decide)) (fun _ => ?_)
      refine Tr.aload_n (pc := 127) (i := 0) d_X12_run_127 rfl rfl ?_
      refine Tr.getf (pc := 128) d_X12_run_128 f_12_291 (by decide) (by decide) (ty_120 hF) ?_
      refine Tr.tp 173 (fx_120_92 hF) ?_
      refine Tr.iload_n (pc := 131) (i := 3) d_X12_run_131 rfl rfl ?_
      refine Tr.aload_n (pc := 132) (i := 0) d_X12_run_132 rfl rfl ?_
      refine Tr.getf (pc := 133) d_X12_run_133 f_12_174 (by decide) (by decide) (ty_120 hF) ?_
      refine Tr.tp 155 (fx_120_53 hF) ?_
      refine Tr.iload_n (pc := 136) (i := 3) d_X12_run_136 rfl rfl ?_
      refine Tr.iald (pc := 137) d_X12_run_137 (ty_155 hF) (by decide) (by decide) ?_
      refine Tr.tp 0 ((rd_wb _ rfl).trans ((rd_wb _ rfl).trans ((rd_wb _ rfl).trans ((rd_wb _ rfl).trans ((rd_wb _ rfl).trans ((rd_wb _ rfl).trans ((rd_wb _ rfl).trans ((rd_wb _ rfl).trans ((rd_wb _ rfl).trans ((rd_wb _ rfl).trans ((rd_wb _ rfl).trans ((rd_wb _ rfl).trans ((rd_wb _ rfl).trans ((rd_wb _ rfl).trans ((rd_wb _ rfl).trans ((rd_wb _ rfl).trans ((rd_wb _ rfl).trans ((rd_wb _ rfl).trans ((rd_wb _ rfl).trans ((rd_wb _ rfl).trans ((rd_wb _ rfl).trans ((rd_wb _ rfl).trans ((rd_wb _ rfl).trans ((rd_wb _ rfl).trans ((rd_wb _ rfl).trans ((rd_wb _ rfl).trans ((rd_wb _ rfl).trans ((rd_wb _ rfl).trans ((rd_wb _ rfl).trans ((rd_wb _ rfl).trans ((rd_wb _ rfl).trans ((rd_wb _ rfl).trans ((rd_wb _ rfl).trans ((rd_wb _ rfl).trans ((rd_wb _ rfl).trans ((rd_wb _ rfl).trans ((rd_wb _ rfl).trans ((rd_wb _ rfl).trans ((rd_wb _ rfl).trans ((rd_wb _ rfl).trans ((rd_wb _ rfl).trans ((rd_wb _ rfl).trans ((rd_wb _ rfl).trans ((rd_wb _ rfl).trans ((rd_wb _ rfl).trans ((rd_wb _ rfl).trans ((rd_wb _ rfl).trans ((rd_wb _ rfl).trans ((rd_wb _ rfl).trans ((rd_wb _ rfl).trans ((rd_wb _ rfl).trans ((rd_wb _ rfl).trans ((rd_wb _ rfl).trans ((rd_wb _ rfl).trans ((rd_wb _ rfl).trans ((rd_wb _ rfl).trans ((rd_wb _ rfl).trans ((rd_wb _ rfl).trans ((rd_wb _ rfl).trans ((rd_wb _ rfl).trans ((rd_wb _ rfl).trans ((rd_wb _ rfl).trans ((rd_wb _ rfl).trans ((rd_wb _ rfl).trans ((rd_wb _ rfl).trans ((rd_wb _ rfl).trans ((rd_wb _ rfl).trans ((rd_wb _ rfl).trans ((rd_wb _ rfl).trans ((rd_wb _ rfl).trans ((rd_wb _ rfl).trans ((rd_wb _ rfl).trans ((rd_wb _ rfl).trans ((rd_wb _ rfl).trans ((rd_wb _ rfl).trans ((rd_wb _ rfl).trans ((rd_wb _ rfl).trans ((rd_wb _ rfl).trans ((rd_wb _ rfl).trans ((rd_wb _ rfl).trans ((rd_wb _ rfl).trans ((rd_wb _ rfl).trans (rd_ws _ _ _ _))))))))))))))))))))))))))))))))))))))))))))))))))))))))))))))))))))))))))))))))))) ?_
      refine Tr.iastX (pc := 138) d_X12_run_138 (ty_173 hF) (by decide) (by decide) hF (by decide +kernel) (fun hF => ?_)
      refine Tr.iinc (pc := 139) (ls2 := [(3, (0, 4)), (2, (0, 0)), (0, (2, 120)), (1, (0, _))]) d_X12_run_139 rfl (by decide) rfl ?_
      refine Tr.goto (pc := 142) (tgt := 121) d_X12_run_142 rfl ?_
      refine Tr.iload_n (pc := 121) (i := 3) d_X12_run_121 rfl rfl ?_
      refine Tr.bipush (pc := 122) d_X12_run_122 rfl (by decide) ?_
      refine Tr.icmp_ge (pc := 124) (tgt := 145) d_X12_run_124 rfl (fun hc => absurd hc (by decide)) (fun _ => ?_)
      refine Tr.aload_n (pc := 127) (i := 0) d_X12_run_127 rfl rfl ?_
      refine Tr.getf (pc := 128) d_X12_run_128 f_12_291 (by decide) (by decide) (ty_120 hF) ?_
      refine Tr.tp 173 (fx_120_92 hF) ?_
      refine Tr.iload_n (pc := 131) (i := 3) d_X12_run_131 rfl rfl ?_
      refine Tr.aload_n (pc := 132) (i := 0) d_X12_run_132 rfl rfl ?_
      refine Tr.getf (pc := 133) d_X12_run_133 f_12_174 (by decide) (by decide) (ty_120 hF) ?_
      refine Tr.tp 155 (fx_120_53 hF) ?_
      refine Tr.iload_n (pc := 136) (i := 3) d_X12_run_136 rfl rfl ?_
      refine Tr.iald (pc := 137) d_X12_run_137 (ty_155 hF) (by decide) (by decide) ?_
      refine Tr.tp 0 ((rd_wb _ rfl).trans ((rd_wb _ rfl).trans ((rd_wb _ rfl).trans ((rd_wb _ rfl).trans ((rd_wb _ rfl).trans ((rd_wb _ rfl).trans ((rd_wb _ rfl).trans ((rd_wb _ rfl).trans ((rd_wb _ rfl).trans ((rd_wb _ rfl).trans ((rd_wb _ rfl).trans ((rd_wb _ rfl).trans ((rd_wb _ rfl).trans ((rd_wb _ rfl).trans ((rd_wb _ rfl).trans ((rd_wb _ rfl).trans ((rd_wb _ rfl).trans ((rd_wb _ rfl).trans ((rd_wb _ rfl).trans ((rd_wb _ rfl).trans ((rd_wb _ rfl).trans ((rd_wb _ rfl).trans ((rd_wb _ rfl).trans ((rd_wb _ rfl).trans ((rd_wb _ rfl).trans ((rd_wb _ rfl).trans ((rd_wb _ rfl).trans ((rd_wb _ rfl).trans ((rd_wb _ rfl).trans ((rd_wb _ rfl).trans ((rd_wb _ rfl).trans ((rd_wb _ rfl).trans ((rd_wb _ rfl).trans ((rd_wb _ rfl).trans ((rd_wb _ rfl).trans ((rd_wb _ rfl).trans ((rd_wb _ rfl).trans ((rd_wb _ rfl).trans ((rd_wb _ rfl).trans ((rd_wb _ rfl).trans ((rd_wb _ rfl).trans ((rd_wb _ rfl).trans ((rd_wb _ rfl).trans ((rd_wb _ rfl).trans ((rd_wb _ rfl).trans ((rd_wb _ rfl).trans ((rd_wb _ rfl).trans ((rd_wb _ rfl).trans ((rd_wb _ rfl).trans ((rd_wb _ rfl).trans ((rd_wb _ rfl).trans ((rd_wb _ rfl).trans ((rd_wb _ rfl).trans ((rd_wb _ rfl).trans ((rd_wb _ rfl).trans ((rd_wb _ rfl).trans ((rd_wb _ rfl).trans ((rd_wb _ rfl).trans ((rd_wb _ rfl).trans ((rd_wb _ rfl).trans ((rd_wb _ rfl).trans ((rd_wb _ rfl).trans ((rd_wb _ rfl).trans ((rd_wb _ rfl).trans ((rd_wb _ rfl).trans ((rd_wb _ rfl).trans ((rd_wb _ rfl).trans ((rd_wb _ rfl).trans ((rd_wb _ rfl).trans ((rd_wb _ rfl).trans ((rd_wb _ rfl).trans ((rd_wb _ rfl).trans ((rd_wb _ rfl).trans ((rd_wb _ rfl).trans ((rd_wb _ rfl).trans ((rd_wb _ rfl).trans ((rd_wb _ rfl).trans ((rd_wb _ rfl).trans ((rd_wb _ rfl).trans ((rd_wb _ rfl).trans ((rd_wb _ rfl).trans ((rd_wb _ rfl).trans (rd_ws _ _ _ _))))))))))))))))))))))))))))))))))))))))))))))))))))))))))))))))))))))))))))))))))) ?_
      refine Tr.iastX (pc := 138) d_X12_run_138 (ty_173 hF) (by decide) (by decide) hF (by decide +kernel) (fun hF => ?_)
      refine Tr.iinc (pc := 139) (ls2 := [(3, (0, 5)), (2, (0, 0)), (0, (2, 120)), (1, (0, _))]) d_X12_run_139 rfl (by decide) rfl ?_
      refine Tr.goto (pc := 142) (tgt := 121) d_X12_run_142 rfl ?_
      refine Tr.iload_n (pc := 121) (i := 3) d_X12_run_121 rfl rfl ?_
      refine Tr.bipush (pc := 122) d_X12_run_122 rfl (by decide) ?_
      refine Tr.icmp_ge (pc := 124) (tgt := 145) d_X12_run_124 rfl (fun hc => absurd hc (by decide)) (fun _ => ?_)
      refine Tr.aload_n (pc := 127) (i := 0) d_X12_run_127 rfl rfl ?_
      refine Tr.getf (pc := 128) d_X12_run_128 f_12_291 (by decide) (by decide) (ty_120 hF) ?_
      refine Tr.tp 173 (fx_120_92 hF) ?_
      refine Tr.iload_n (pc := 131) (i := 3) d_X12_run_131 rfl rfl ?_
      refine Tr.aload_n (pc := 132) (i := 0) d_X12_run_132 rfl rfl ?_
      refine Tr.getf (pc := 133) d_X12_run_133 f_12_174 (by decide) (by decide) (ty_120 hF) ?_
      refine Tr.tp 155 (fx_120_53 hF) ?_
      refine Tr.iload_n (pc := 136) (i := 3) d_X12_run_136 rfl rfl ?_
      refine Tr.iald (pc := 137) d_X12_run_137 (ty_155 hF) (by decide) (by decide) ?_
      refine Tr.tp 0 ((rd_wb _ rfl).trans ((rd_wb _ rfl).trans ((rd_wb _ rfl).trans ((rd_wb _ rfl).trans ((rd_wb _ rfl).trans ((rd_wb _ rfl).trans ((rd_wb _ rfl).trans ((rd_wb _ rfl).trans ((rd_wb _ rfl).trans ((rd_wb _ rfl).trans ((rd_wb _ rfl).trans ((rd_wb _ rfl).trans ((rd_wb _ rfl).trans ((rd_wb _ rfl).trans ((rd_wb _ rfl).trans ((rd_wb _ rfl).trans ((rd_wb _ rfl).trans ((rd_wb _ rfl).trans ((rd_wb _ rfl).trans ((rd_wb _ rfl).trans ((rd_wb _ rfl).trans ((rd_wb _ rfl).trans ((rd_wb _ rfl).trans ((rd_wb _ rfl).trans ((rd_wb _ rfl).trans ((rd_wb _ rfl).trans ((rd_wb _ rfl).trans ((rd_wb _ rfl).trans ((rd_wb _ rfl).trans ((rd_wb _ rfl).trans ((rd_wb _ rfl).trans ((rd_wb _ rfl).trans ((rd_wb _ rfl).trans ((rd_wb _ rfl).trans ((rd_wb _ rfl).trans ((rd_wb _ rfl).trans ((rd_wb _ rfl).trans ((rd_wb _ rfl).trans ((rd_wb _ rfl).trans ((rd_wb _ rfl).trans ((rd_wb _ rfl).trans ((rd_wb _ rfl).trans ((rd_wb _ rfl).trans ((rd_wb _ rfl).trans ((rd_wb _ rfl).trans ((rd_wb _ rfl).trans ((rd_wb _ rfl).trans ((rd_wb _ rfl).trans ((rd_wb _ rfl).trans ((rd_wb _ rfl).trans ((rd_wb _ rfl).trans ((rd_wb _ rfl).trans ((rd_wb _ rfl).trans ((rd_wb _ rfl).trans ((rd_wb _ rfl).trans ((rd_wb _ rfl).trans ((rd_wb _ rfl).trans ((rd_wb _ rfl).trans ((rd_wb _ rfl).trans ((rd_wb _ rfl).trans ((rd_wb _ rfl).trans ((rd_wb _ rfl).trans ((rd_wb _ rfl).trans ((rd_wb _ rfl).trans ((rd_wb _ rfl).trans ((rd_wb _ rfl).trans ((rd_wb _ rfl).trans ((rd_wb _ rfl).trans ((rd_wb _ rfl).trans ((rd_wb _ rfl).trans ((rd_wb _ rfl).trans ((rd_wb _ rfl).trans ((rd_wb _ rfl).trans ((rd_wb _ rfl).trans ((rd_wb _ rfl).trans ((rd_wb _ rfl).trans ((rd_wb _ rfl).trans ((rd_wb _ rfl).trans ((rd_wb _ rfl).trans ((rd_wb _ rfl).trans ((rd_wb _ rfl).trans ((rd_wb _ rfl).trans (rd_ws _ _ _ _))))))))))))))))))))))))))))))))))))))))))))))))))))))))))))))))))))))))))))))))))) ?_
      refine Tr.iastX (pc := 138) d_X12_run_138 (ty_173 hF) (by decide) (by decide) hF (by decide +kernel) (fun hF => ?_)
      refine Tr.iinc (pc := 139) (ls2 := [(3, (0, 6)), (2, (0, 0)), (0, (2, 120)), (1, (0, _))]) d_X12_run_139 rfl (by decide) rfl ?_
      refine Tr.goto (pc := 142) (tgt := 121) d_X12_run_142 rfl ?_
      refine Tr.iload_n (pc := 121) (i := 3) d_X12_run_121 rfl rfl ?_
      refine Tr.bipush (pc := 122) d_X12_run_122 rfl (by decide) ?_
      refine Tr.icmp_ge (pc := 124) (tgt := 145) d_X12_run_124 rfl (fun _ => ?_) (fun hc => absurd (by decide) hc)
      refine Tr.iconst (pc := 145) d_X12_run_145 (by decide) ?_
      refine Tr.istore_n (pc := 146) (i := 3) (ls2 := [(3, (0, 0)), (2, (0, 0)), (0, (2, 120)), (1, (0, _))]) d_X12_run_146 rfl (by decide) rfl ?_
      refine Tr.iload_n (pc := 147) (i := 3) d_X12_run_147 rfl rfl ?_
      refine Tr.bipush (pc := 148) d_X12_run_148 rfl (by decide) ?_
      refine Tr.icmp_ge (pc := 150) (tgt := 171) d_X12_run_150 rfl (fun hc => absurd hc (by decide)) (fun _ => ?_)
      refine Tr.aload_n (pc := 153) (i := 0) d_X12_run_153 rfl rfl ?_
      refine Tr.getf (pc := 154) d_X12_run_154 f_12_294 (by decide) (by decide) (ty_120 hF) ?_
      refine Tr.tp 174 (fx_120_93 hF) ?_
      refine Tr.iload_n (pc := 157) (i := 3) d_X12_run_157 rfl rfl ?_
      refine Tr.aload_n (pc := 158) (i := 0) d_X12_run_158 rfl rfl ?_
      refine Tr.getf (pc := 159) d_X12_run_159 f_12_222 (by decide) (by decide) (ty_120 hF) ?_
      refine Tr.tp 161 (fx_120_69 hF) ?_
      refine Tr.iload_n (pc := 162) (i := 3) d_X12_run_162 rfl rfl ?_
      refine Tr.iald (pc := 163) d_X12_run_163 (ty_161 hF) (by decide) (by decide) ?_
      refine Tr.tp 0 ((rd_wb _ rfl).trans ((rd_wb _ rfl).trans ((rd_wb _ rfl).trans ((rd_wb _ rfl).trans ((rd_wb _ rfl).trans ((rd_wb _ rfl).trans ((rd_wb _ rfl).trans ((rd_wb _ rfl).trans ((rd_wb _ rfl).trans ((rd_wb _ rfl).trans ((rd_wb _ rfl).trans ((rd_wb _ rfl).trans ((rd_wb _ rfl).trans ((rd_wb _ rfl).trans ((rd_wb _ rfl).trans ((rd_wb _ rfl).trans ((rd_wb _ rfl).trans ((rd_wb _ rfl).trans ((rd_wb _ rfl).trans ((rd_wb _ rfl).trans ((rd_wb _ rfl).trans ((rd_wb _ rfl).trans ((rd_wb _ rfl).trans ((rd_wb _ rfl).trans ((rd_wb _ rfl).trans ((rd_wb _ rfl).trans ((rd_wb _ rfl).trans ((rd_wb _ rfl).trans ((rd_wb _ rfl).trans ((rd_wb _ rfl).trans ((rd_wb _ rfl).trans ((rd_wb _ rfl).trans ((rd_wb _ rfl).trans ((rd_wb _ rfl).trans ((rd_wb _ rfl).trans ((rd_wb _ rfl).trans ((rd_wb _ rfl).trans ((rd_wb _ rfl).trans ((rd_wb _ rfl).trans ((rd_wb _ rfl).trans ((rd_wb _ rfl).trans ((rd_wb _ rfl).trans ((rd_wb _ rfl).trans ((rd_wb _ rfl).trans ((rd_wb _ rfl).trans ((rd_wb _ rfl).trans ((rd_wb _ rfl).trans ((rd_wb _ rfl).trans ((rd_wb _ rfl).trans ((rd_wb _ rfl).trans (rd_ws _ _ _ _))))))))))))))))))))))))))))))))))))))))))))))))))) ?_
      refine Tr.iastX (pc := 164) d_X12_run_164 (ty_174 hF) (by decide) (by decide) hF (by decide +kernel) (fun hF => ?_)
      refine Tr.iinc (pc := 165) (ls2 := [(3, (0, 1)), (2, (0, 0)), (0, (2, 120)), (1, (0, _))]) d_X12_run_165 rfl (by decide) rfl ?_
      refine Tr.goto (pc := 168) (tgt := 147) d_X12_run_168 rfl ?_
      refine Tr.iload_n (pc := 147) (i := 3) d_X12_run_147 rfl rfl ?_
      refine Tr.bipush (pc := 148) d_X12_run_148 rfl (by decide) ?_
      refine Tr.icmp_ge (pc := 150) (tgt := 171) d_X12_run_150 rfl (fun hc => absurd hc (by decide)) (fun _ => ?_)
      refine Tr.aload_n (pc := 153) (i := 0) d_X12_run_153 rfl rfl ?_
      refine Tr.getf (pc := 154) d_X12_run_154 f_12_294 (by decide) (by decide) (ty_120 hF) ?_
      refine Tr.tp 174 (fx_120_93 hF) ?_
      refine Tr.iload_n (pc := 157) (i := 3) d_X12_run_157 rfl rfl ?_
      refine Tr.aload_n (pc := 158) (i := 0) d_X12_run_158 rfl rfl ?_
      refine Tr.getf (pc := 159) d_X12_run_159 f_12_222 (by decide) (by decide) (ty_120 hF) ?_
      refine Tr.tp 161 (fx_120_69 hF) ?_
      refine Tr.iload_n (pc := 162) (i := 3) d_X12_run_162 rfl rfl ?_
      refine Tr.iald (pc := 163) d_X12_run_163 (ty_161 hF) (by decide) (by decide) ?_
      refine Tr.tp 0 ((rd_wb _ rfl).trans ((rd_wb _ rfl).trans ((rd_wb _ rfl).trans ((rd_wb _ rfl).trans ((rd_wb _ rfl).trans ((rd_wb _ rfl).trans ((rd_wb _ rfl).trans ((rd_wb _ rfl).trans ((rd_wb _ rfl).trans ((rd_wb _ rfl).trans ((rd_wb _ rfl).trans ((rd_wb _ rfl).trans ((rd_wb _ rfl).trans ((rd_wb _ rfl).trans ((rd_wb _ rfl).trans ((rd_wb _ rfl).trans ((rd_wb _ rfl).trans ((rd_wb _ rfl).trans ((rd_wb _ rfl).trans ((rd_wb _ rfl).trans ((rd_wb _ rfl).trans ((rd_wb _ rfl).trans ((rd_wb _ rfl).trans ((rd_wb _ rfl).trans ((rd_wb _ rfl).trans ((rd_wb _ rfl).trans ((rd_wb _ rfl).trans ((rd_wb _ rfl).trans ((rd_wb _ rfl).trans ((rd_wb _ rfl).trans ((rd_wb _ rfl).trans ((rd_wb _ rfl).trans ((rd_wb _ rfl).trans ((rd_wb _ rfl).trans ((rd_wb _ rfl).trans ((rd_wb _ rfl).trans ((rd_wb _ rfl).trans ((rd_wb _ rfl).trans ((rd_wb _ rfl).trans ((rd_wb _ rfl).trans ((rd_wb _ rfl).trans ((rd_wb _ rfl).trans ((rd_wb _ rfl).trans ((rd_wb _ rfl).trans ((rd_wb _ rfl).trans ((rd_wb _ rfl).trans ((rd_wb _ rfl).trans ((rd_wb _ rfl).trans ((rd_wb _ rfl).trans ((rd_wb _ rfl).trans (rd_ws _ _ _ _))))))))))))))))))))))))))))))))))))))))))))))))))) ?_
      refine Tr.iastX (pc := 164) d_X12_run_164 (ty_174 hF) (by decide) (by decide) hF (by decide +kernel) (fun hF => ?_)
      refine Tr.iinc (pc := 165) (ls2 := [(3, (0, 2)), (2, (0, 0)), (0, (2, 120)), (1, (0, _))]) d_X12_run_165 rfl (by decide) rfl ?_
      refine Tr.goto (pc := 168) (tgt := 147) d_X12_run_168 rfl ?_
      refine Tr.iload_n (pc := 147) (i := 3) d_X12_run_147 rfl rfl ?_
      refine Tr.bipush (pc := 148) d_X12_run_148 rfl (by decide) ?_
      refine Tr.icmp_ge (pc := 150) (tgt := 171) d_X12_run_150 rfl (fun hc => absurd hc (by decide)) (fun _ => ?_)
      refine Tr.aload_n (pc := 153) (i := 0) d_X12_run_153 rfl rfl ?_
      refine Tr.getf (pc := 154) d_X12_run_154 f_12_294 (by decide) (by decide) (ty_120 hF) ?_
      refine Tr.tp 174 (fx_120_93 hF) ?_
      refine Tr.iload_n (pc := 157) (i := 3) d_X12_run_157 rfl rfl ?_
      refine Tr.aload_n (pc := 158) (i := 0) d_X12_run_158 rfl rfl ?_
      refine Tr.getf (pc := 159) d_X12_run_159 f_12_222 (by decide) (by decide) (ty_120 hF) ?_
      refine Tr.tp 161 (fx_120_69 hF) ?_
      refine Tr.iload_n (pc := 162) (i := 3) d_X12_run_162 rfl rfl ?_
      refine Tr.iald (pc := 163) d_X12_run_163 (ty_161 hF) (by decide) (by decide) ?_
      refine Tr.tp 0 ((rd_wb _ rfl).trans ((rd_wb _ rfl).trans ((rd_wb _ rfl).trans ((rd_wb _ rfl).trans ((rd_wb _ rfl).trans ((rd_wb _ rfl).trans ((rd_wb _ rfl).trans ((rd_wb _ rfl).trans ((rd_wb _ rfl).trans ((rd_wb _ rfl).trans ((rd_wb _ rfl).trans ((rd_wb _ rfl).trans ((rd_wb _ rfl).trans ((rd_wb _ rfl).trans ((rd_wb _ rfl).trans ((rd_wb _ rfl).trans ((rd_wb _ rfl).trans ((rd_wb _ rfl).trans ((rd_wb _ rfl).trans ((rd_wb _ rfl).trans ((rd_wb _ rfl).trans ((rd_wb _ rfl).trans ((rd_wb _ rfl).trans ((rd_wb _ rfl).trans ((rd_wb _ rfl).trans ((rd_wb _ rfl).trans ((rd_wb _ rfl).trans ((rd_wb _ rfl).trans ((rd_wb _ rfl).trans ((rd_wb _ rfl).trans ((rd_wb _ rfl).trans ((rd_wb _ rfl).trans ((rd_wb _ rfl).trans ((rd_wb _ rfl).trans ((rd_wb _ rfl).trans ((rd_wb _ rfl).trans ((rd_wb _ rfl).trans ((rd_wb _ rfl).trans ((rd_wb _ rfl).trans ((rd_wb _ rfl).trans ((rd_wb _ rfl).trans ((rd_wb _ rfl).trans ((rd_wb _ rfl).trans ((rd_wb _ rfl).trans ((rd_wb _ rfl).trans ((rd_wb _ rfl).trans ((rd_wb _ rfl).trans ((rd_wb _ rfl).trans ((rd_wb _ rfl).trans ((rd_wb _ rfl).trans (rd_ws _ _ _ _))))))))))))))))))))))))))))))))))))))))))))))))))) ?_
      refine Tr.iastX (pc := 164) d_X12_run_164 (ty_174 hF) (by decide) (by decide) hF (by decide +kernel) (fun hF => ?_)
      refine Tr.iinc (pc := 165) (ls2 := [(3, (0, 3)), (2, (0, 0)), (0, (2, 120)), (1, (0, _))]) d_X12_run_165 rfl (by decide) rfl ?_
      refine Tr.goto (pc := 168) (tgt := 147) d_X12_run_168 rfl ?_
      refine Tr.iload_n (pc := 147) (i := 3) d_X12_run_147 rfl rfl ?_
      refine Tr.bipush (pc := 148) d_X12_run_148 rfl (by decide) ?_
      refine Tr.icmp_ge (pc := 150) (tgt := 171) d_X12_run_150 rfl (fun hc => absurd hc (by decide)) (fun _ => ?_)
      refine Tr.aload_n (pc := 153) (i := 0) d_X12_run_153 rfl rfl ?_
      refine Tr.getf (pc := 154) d_X12_run_154 f_12_294 (by decide) (by decide) (ty_120 hF) ?_
      refine Tr.tp 174 (fx_120_93 hF) ?_
      refine Tr.iload_n (pc := 157) (i := 3) d_X12_run_157 rfl rfl ?_
      refine Tr.aload_n (pc := 158) (i := 0) d_X12_run_158 rfl rfl ?_
      refine Tr.getf (pc := 159) d_X12_run_159 f_12_222 (by decide) (by decide) (ty_120 hF) ?_
      refine Tr.tp 161 (fx_120_69 hF) ?_
      refine Tr.iload_n (pc := 162) (i := 3) d_X12_run_162 rfl rfl ?_
      refine Tr.iald (pc := 163) d_X12_run_163 (ty_161 hF) (by decide) (by decide) ?_
      refine Tr.tp 0 ((rd_wb _ rfl).trans ((rd_wb _ rfl).trans ((rd_wb _ rfl).trans ((rd_wb _ rfl).trans ((rd_wb _ rfl).trans ((rd_wb _ rfl).trans ((rd_wb _ rfl).trans ((rd_wb _ rfl).trans ((rd_wb _ rfl).trans ((rd_wb _ rfl).trans ((rd_wb _ rfl).trans ((rd_wb _ rfl).trans ((rd_wb _ rfl).trans ((rd_wb _ rfl).trans ((rd_wb _ rfl).trans ((rd_wb _ rfl).trans ((rd_wb _ rfl).trans ((rd_wb _ rfl).trans ((rd_wb _ rfl).trans ((rd_wb _ rfl).trans ((rd_wb _ rfl).trans ((rd_wb _ rfl).trans ((rd_wb _ rfl).trans ((rd_wb _ rfl).trans ((rd_wb _ rfl).trans ((rd_wb _ rfl).trans ((rd_wb _ rfl).trans ((rd_wb _ rfl).trans ((rd_wb _ rfl).trans ((rd_wb _ rfl).trans ((rd_wb _ rfl).trans ((rd_wb _ rfl).trans ((rd_wb _ rfl).trans ((rd_wb _ rfl).trans ((rd_wb _ rfl).trans ((rd_wb _ rfl).trans ((rd_wb _ rfl).trans ((rd_wb _ rfl).trans ((rd_wb _ rfl).trans ((rd_wb _ rfl).trans ((rd_wb _ rfl).trans ((rd_wb _ rfl).trans ((rd_wb _ rfl).trans ((rd_wb _ rfl).trans ((rd_wb _ rfl).trans ((rd_wb _ rfl).trans ((rd_wb _ rfl).trans ((rd_wb _ rfl).trans ((rd_wb _ rfl).trans ((rd_wb _ rfl).trans (rd_ws _ _ _ _))))))))))))))))))))))))))))))))))))))))))))))))))) ?_
      refine Tr.iastX (pc := 164) d_X12_run_164 (ty_174 hF) (by decide) (by decide) hF (by decide +kernel) (fun hF => ?_)
      refine Tr.iinc (pc := 165) (ls2 := [(3, (0, 4)), (2, (0, 0)), (0, (2, 120)), (1, (0, _))]) d_X12_run_165 rfl (by decide) rfl ?_
      refine Tr.goto (pc := 168) (tgt := 147) d_X12_run_168 rfl ?_
      refine Tr.iload_n (pc := 147) (i := 3) d_X12_run_147 rfl rfl ?_
      refine Tr.bipush (pc := 148) d_X12_run_148 rfl (by decide) ?_
      refine Tr.icmp_ge (pc := 150) (tgt := 171) d_X12_run_150 rfl (fun hc => absurd hc (by decide)) (fun _ => ?_)
      refine Tr.aload_n (pc := 153) (i := 0) d_X12_run_153 rfl rfl ?_
      refine Tr.getf (pc := 154) d_X12_run_154 f_12_294 (by decide) (by decide) (ty_120 hF) ?_
      refine Tr.tp 174 (fx_120_93 hF) ?_
      refine Tr.iload_n (pc := 157) (i := 3) d_X12_run_157 rfl rfl ?_
      refine Tr.aload_n (pc := 158) (i := 0) d_X12_run_158 rfl rfl ?_
      refine Tr.getf (pc := 159) d_X12_run_159 f_12_222 (by decide) (by decide) (ty_120 hF) ?_
      refine Tr.tp 161 (fx_120_69 hF) ?_
      refine Tr.iload_n (pc := 162) (i := 3) d_X12_run_162 rfl rfl ?_
      refine Tr.iald (pc := 163) d_X12_run_163 (ty_161 hF) (by decide) (by decide) ?_
      refine Tr.tp 0 ((rd_wb _ rfl).trans ((rd_wb _ rfl).trans ((rd_wb _ rfl).trans ((rd_wb _ rfl).trans ((rd_wb _ rfl).trans ((rd_wb _ rfl).trans ((rd_wb _ rfl).trans ((rd_wb _ rfl).trans ((rd_wb _ rfl).trans ((rd_wb _ rfl).trans ((rd_wb _ rfl).trans ((rd_wb _ rfl).trans ((rd_wb _ rfl).trans ((rd_wb _ rfl).trans ((rd_wb _ rfl).trans ((rd_wb _ rfl).trans ((rd_wb _ rfl).trans ((rd_wb _ rfl).trans ((rd_wb _ rfl).trans ((rd_wb _ rfl).trans ((rd_wb _ rfl).trans ((rd_wb _ rfl).trans ((rd_wb _ rfl).trans ((rd_wb _ rfl).trans ((rd_wb _ rfl).trans ((rd_wb _ rfl).trans ((rd_wb _ rfl).trans ((rd_wb _ rfl).trans ((rd_wb _ rfl).trans ((rd_wb _ rfl).trans ((rd_wb _ rfl).trans ((rd_wb _ rfl).trans ((rd_wb _ rfl).trans ((rd_wb _ rfl).trans ((rd_wb _ rfl).trans ((rd_wb _ rfl).trans ((rd_wb _ rfl).trans ((rd_wb _ rfl).trans ((rd_wb _ rfl).trans ((rd_wb _ rfl).trans ((rd_wb _ rfl).trans ((rd_wb _ rfl).trans ((rd_wb _ rfl).trans ((rd_wb _ rfl).trans ((rd_wb _ rfl).trans ((rd_wb _ rfl).trans ((rd_wb _ rfl).trans ((rd_wb _ rfl).trans ((rd_wb _ rfl).trans ((rd_wb _ rfl).trans (rd_ws _ _ _ _))))))))))))))))))))))))))))))))))))))))))))))))))) ?_
      refine Tr.iastX (pc := 164) d_X12_run_164 (ty_174 hF) (by decide) (by decide) hF (by decide +kernel) (fun hF => ?_)
      refine Tr.iinc (pc := 165) (ls2 := [(3, (0, 5)), (2, (0, 0)), (0, (2, 120)), (1, (0, _))]) d_X12_run_165 rfl (by decide) rfl ?_
      refine Tr.goto (pc := 168) (tgt := 147) d_X12_run_168 rfl ?_
      refine Tr.iload_n (pc := 147) (i := 3) d_X12_run_147 rfl rfl ?_
      refine Tr.bipush (pc := 148) d_X12_run_148 rfl (by decide) ?_
      refine Tr.icmp_ge (pc := 150) (tgt := 171) d_X12_run_150 rfl (fun hc => absurd hc (by decide)) (fun _ => ?_)
      refine Tr.aload_n (pc := 153) (i := 0) d_X12_run_153 rfl rfl ?_
      refine Tr.getf (pc := 154) d_X12_run_154 f_12_294 (by decide) (by decide) (ty_120 hF) ?_
      refine Tr.tp 174 (fx_120_93 hF) ?_
      refine Tr.iload_n (pc := 157) (i := 3) d_X12_run_157 rfl rfl ?_
      refine Tr.aload_n (pc := 158) (i := 0) d_X12_run_158 rfl rfl ?_
      refine Tr.getf (pc := 159) d_X12_run_159 f_12_222 (by decide) (by decide) (ty_120 hF) ?_
      refine Tr.tp 161 (fx_120_69 hF) ?_
      refine Tr.iload_n (pc := 162) (i := 3) d_X12_run_162 rfl rfl ?_
      refine Tr.iald (pc := 163) d_X12_run_163 (ty_161 hF) (by decide) (by decide) ?_
      refine Tr.tp 0 ((rd_wb _ rfl).trans ((rd_wb _ rfl).trans ((rd_wb _ rfl).trans ((rd_wb _ rfl).trans ((rd_wb _ rfl).trans ((rd_wb _ rfl).trans ((rd_wb _ rfl).trans ((rd_wb _ rfl).trans ((rd_wb _ rfl).trans ((rd_wb _ rfl).trans ((rd_wb _ rfl).trans ((rd_wb _ rfl).trans ((rd_wb _ rfl).trans ((rd_wb _ rfl).trans ((rd_wb _ rfl).trans ((rd_wb _ rfl).trans ((rd_wb _ rfl).trans ((rd_wb _ rfl).trans ((rd_wb _ rfl).trans ((rd_wb _ rfl).trans ((rd_wb _ rfl).trans ((rd_wb _ rfl).trans ((rd_wb _ rfl).trans ((rd_wb _ rfl).trans ((rd_wb _ rfl).trans ((rd_wb _ rfl).trans ((rd_wb _ rfl).trans ((rd_wb _ rfl).trans ((rd_wb _ rfl).trans ((rd_wb _ rfl).trans ((rd_wb _ rfl).trans ((rd_wb _ rfl).trans ((rd_wb _ rfl).trans ((rd_wb _ rfl).trans ((rd_wb _ rfl).trans ((rd_wb _ rfl).trans ((rd_wb _ rfl).trans ((rd_wb _ rfl).trans ((rd_wb _ rfl).trans ((rd_wb _ rfl).trans ((rd_wb _ rfl).trans ((rd_wb _ rfl).trans ((rd_wb _ rfl).trans ((rd_wb _ rfl).trans ((rd_wb _ rfl).trans ((rd_wb _ rfl).trans ((rd_wb _ rfl).trans ((rd_wb _ rfl).trans ((rd_wb _ rfl).trans ((rd_wb _ rfl).trans (rd_ws _ _ _ _))))))))))))))))))))))))))))))))))))))))))))))))))) ?_
      refine Tr.iastX (pc := 164) d_X12_run_164 (ty_174 hF) (by decide) (by decide) hF (by decide +kernel) (fun hF => ?_)
      refine Tr.iinc (pc := 165) (ls2 := [(3, (0, 6)), (2, (0, 0)), (0, (2, 120)), (1, (0, _))]) d_X12_run_165 rfl (by decide) rfl ?_
      refine Tr.goto (pc := 168) (tgt := 147) d_X12_run_168 rfl ?_
      refine Tr.iload_n (pc := 147) (i := 3) d_X12_run_147 rfl rfl ?_
      refine Tr.bipush (pc := 148) d_X12_run_148 rfl (by decide) ?_
      refine Tr.icmp_ge (pc := 150) (tgt := 171) d_X12_run_150 rfl (fun hc => absurd hc (by decide)) (fun _ => ?_)
      refine Tr.aload_n (pc := 153) (i := 0) d_X12_run_153 rfl rfl ?_
      refine Tr.getf (pc := 154) d_X12_run_154 f_12_294 (by decide) (by decide) (ty_120 hF) ?_
      refine Tr.tp 174 (fx_120_93 hF) ?_
      refine Tr.iload_n (pc := 157) (i := 3) d_X12_run_157 rfl rfl ?_
      refine Tr.aload_n (pc := 158) (i := 0) d_X12_run_158 rfl rfl ?_
      refine Tr.getf (pc := 159) d_X12_run_159 f_12_222 (by decide) (by decide) (ty_120 hF) ?_
      refine Tr.tp 161 (fx_120_69 hF) ?_
      refine Tr.iload_n (pc := 162) (i := 3) d_X12_run_162 rfl rfl ?_
      refine Tr.iald (pc := 163) d_X12_run_163 (ty_161 hF) (by decide) (by decide) ?_
      refine Tr.tp 0 ((rd_wb _ rfl).trans ((rd_wb _ rfl).trans ((rd_wb _ rfl).trans ((rd_wb _ rfl).trans ((rd_wb _ rfl).trans ((rd_wb _ rfl).trans ((rd_wb _ rfl).trans ((rd_wb _ rfl).trans ((rd_wb _ rfl).trans ((rd_wb _ rfl).trans ((rd_wb _ rfl).trans ((rd_wb _ rfl).trans ((rd_wb _ rfl).trans ((rd_wb _ rfl).trans ((rd_wb _ rfl).trans ((rd_wb _ rfl).trans ((rd_wb _ rfl).trans ((rd_wb _ rfl).trans ((rd_wb _ rfl).trans ((rd_wb _ rfl).trans ((rd_wb _ rfl).trans ((rd_wb _ rfl).trans ((rd_wb _ rfl).trans ((rd_wb _ rfl).trans ((rd_wb _ rfl).trans ((rd_wb _ rfl).trans ((rd_wb _ rfl).trans ((rd_wb _ rfl).trans ((rd_wb _ rfl).trans ((rd_wb _ rfl).trans ((rd_wb _ rfl).trans ((rd_wb _ rfl).trans ((rd_wb _ rfl).trans ((rd_wb _ rfl).trans ((rd_wb _ rfl).trans ((rd_wb _ rfl).trans ((rd_wb _ rfl).trans ((rd_wb _ rfl).trans ((rd_wb _ rfl).trans ((rd_wb _ rfl).trans ((rd_wb _ rfl).trans ((rd_wb _ rfl).trans ((rd_wb _ rfl).trans ((rd_wb _ rfl).trans ((rd_wb _ rfl).trans ((rd_wb _ rfl).trans ((rd_wb _ rfl).trans ((rd_wb _ rfl).trans ((rd_wb _ rfl).trans ((rd_wb _ rfl).trans (rd_ws _ _ _ _))))))))))))))))))))))))))))))))))))))))))))))))))) ?_
      refine Tr.iastX (pc := 164) d_X12_run_164 (ty_174 hF) (by decide) (by decide) hF (by decide +kernel) (fun hF => ?_)
      refine Tr.iinc (pc := 165) (ls2 := [(3, (0, 7)), (2, (0, 0)), (0, (2, 120)), (1, (0, _))]) d_X12_run_165 rfl (by decide) rfl ?_
      refine Tr.goto (pc := 168) (tgt := 147) d_X12_run_168 rfl ?_
      refine Tr.iload_n (pc := 147) (i := 3) d_X12_run_147 rfl rfl ?_
      refine Tr.bipush (pc := 148) d_X12_run_148 rfl (by decide) ?_
      refine Tr.icmp_ge (pc := 150) (tgt := 171) d_X12_run_150 rfl (fun hc => absurd hc (by decide)) (fun _ => ?_)
      refine Tr.aload_n (pc := 153) (i := 0) d_X12_run_153 rfl rfl ?_
      refine Tr.getf (pc := 154) d_X12_run_154 f_12_294 (by decide) (by decide) (ty_120 hF) ?_
      refine Tr.tp 174 (fx_120_93 hF) ?_
      refine Tr.iload_n (pc := 157) (i := 3) d_X12_run_157 rfl rfl ?_
      refine Tr.aload_n (pc := 158) (i := 0) d_X12_run_158 rfl rfl ?_
      refine Tr.getf (pc := 159) d_X12_run_159 f_12_222 (by decide) (by decide) (ty_120 hF) ?_
      refine Tr.tp 161 (fx_120_69 hF) ?_
      refine Tr.iload_n (pc := 162) (i := 3) d_X12_run_162 rfl rfl ?_
      refine Tr.iald (pc := 163) d_X12_run_163 (ty_161 hF) (by decide) (by decide) ?_
      refine Tr.tp 0 ((rd_wb _ rfl).trans ((rd_wb _ rfl).trans ((rd_wb _ rfl).trans ((rd_wb _ rfl).trans ((rd_wb _ rfl).trans ((rd_wb _ rfl).trans ((rd_wb _ rfl).trans ((rd_wb _ rfl).trans ((rd_wb _ rfl).trans ((rd_wb _ rfl).trans ((rd_wb _ rfl).trans ((rd_wb _ rfl).trans ((rd_wb _ rfl).trans ((rd_wb _ rfl).trans ((rd_wb _ rfl).trans ((rd_wb _ rfl).trans ((rd_wb _ rfl).trans ((rd_wb _ rfl).trans ((rd_wb _ rfl).trans ((rd_wb _ rfl).trans ((rd_wb _ rfl).trans ((rd_wb _ rfl).trans ((rd_wb _ rfl).trans ((rd_wb _ rfl).trans ((rd_wb _ rfl).trans ((rd_wb _ rfl).trans ((rd_wb _ rfl).trans ((rd_wb _ rfl).trans ((rd_wb _ rfl).trans ((rd_wb _ rfl).trans ((rd_wb _ rfl).trans ((rd_wb _ rfl).trans ((rd_wb _ rfl).trans ((rd_wb _ rfl).trans ((rd_wb _ rfl).trans ((rd_wb _ rfl).trans ((rd_wb _ rfl).trans ((rd_wb _ rfl).trans ((rd_wb _ rfl).trans ((rd_wb _ rfl).trans ((rd_wb _ rfl).trans ((rd_wb _ rfl).trans ((rd_wb _ rfl).trans ((rd_wb _ rfl).trans ((rd_wb _ rfl).trans ((rd_wb _ rfl).trans ((rd_wb _ rfl).trans ((rd_wb _ rfl).trans ((rd_wb _ rfl).trans ((rd_wb _ rfl).trans (rd_ws _ _ _ _))))))))))))))))))))))))))))))))))))))))))))))))))) ?_
      refine Tr.iastX (pc := 164) d_X12_run_164 (ty_174 hF) (by decide) (by decide) hF (by decide +kernel) (fun hF => ?_)
      refine Tr.iinc (pc := 165) (ls2 := [(3, (0, 8)), (2, (0, 0)), (0, (2, 120)), (1, (0, _))]) d_X12_run_165 rfl (by decide) rfl ?_
      refine Tr.goto (pc := 168) (tgt := 147) d_X12_run_168 rfl ?_
      refine Tr.iload_n (pc := 147) (i := 3) d_X12_run_147 rfl rfl ?_
      refine Tr.bipush (pc := 148) d_X12_run_148 rfl (by decide) ?_
      refine Tr.icmp_ge (pc := 150) (tgt := 171) d_X12_run_150 rfl (fun hc => absurd hc (by decide)) (fun _ => ?_)
      refine Tr.aload_n (pc := 153) (i := 0) d_X12_run_153 rfl rfl ?_
      refine Tr.getf (pc := 154) d_X12_run_154 f_12_294 (by decide) (by decide) (ty_120 hF) ?_
      refine Tr.tp 174 (fx_120_93 hF) ?_
      refine Tr.iload_n (pc := 157) (i := 3) d_X12_run_157 rfl rfl ?_
      refine Tr.aload_n (pc := 158) (i := 0) d_X12_run_158 rfl rfl ?_
      refine Tr.getf (pc := 159) d_X12_run_159 f_12_222 (by decide) (by decide) (ty_120 hF) ?_
      refine Tr.tp 161 (fx_120_69 hF) ?_
      refine Tr.iload_n (pc := 162) (i := 3) d_X12_run_162 rfl rfl ?_
      refine Tr.iald (pc := 163) d_X12_run_163 (ty_161 hF) (by decide) (by decide) ?_
      refine Tr.tp 0 ((rd_wb _ rfl).trans ((rd_wb _ rfl).trans ((rd_wb _ rfl).trans ((rd_wb _ rfl).trans ((rd_wb _ rfl).trans ((rd_wb _ rfl).trans ((rd_wb _ rfl).trans ((rd_wb _ rfl).trans ((rd_wb _ rfl).trans ((rd_wb _ rfl).trans ((rd_wb _ rfl).trans ((rd_wb _ rfl).trans ((rd_wb _ rfl).trans ((rd_wb _ rfl).trans ((rd_wb _ rfl).trans ((rd_wb _ rfl).trans ((rd_wb _ rfl).trans ((rd_wb _ rfl).trans ((rd_wb _ rfl).trans ((rd_wb _ rfl).trans ((rd_wb _ rfl).trans ((rd_wb _ rfl).trans ((rd_wb _ rfl).trans ((rd_wb _ rfl).trans ((rd_wb _ rfl).trans ((rd_wb _ rfl).trans ((rd_wb _ rfl).trans ((rd_wb _ rfl).trans ((rd_wb _ rfl).trans ((rd_wb _ rfl).trans ((rd_wb _ rfl).trans ((rd_wb _ rfl).trans ((rd_wb _ rfl).trans ((rd_wb _ rfl).trans ((rd_wb _ rfl).trans ((rd_wb _ rfl).trans ((rd_wb _ rfl).trans ((rd_wb _ rfl).trans ((rd_wb _ rfl).trans ((rd_wb _ rfl).trans ((rd_wb _ rfl).trans ((rd_wb _ rfl).trans ((rd_wb _ rfl).trans ((rd_wb _ rfl).trans ((rd_wb _ rfl).trans ((rd_wb _ rfl).trans ((rd_wb _ rfl).trans ((rd_wb _ rfl).trans ((rd_wb _ rfl).trans ((rd_wb _ rfl).trans (rd_ws _ _ _ _))))))))))))))))))))))))))))))))))))))))))))))))))) ?_
      refine Tr.iastX (pc := 164) d_X12_run_164 (ty_174 hF) (by decide) (by decide) hF (by decide +kernel) (fun hF => ?_)
      refine Tr.iinc (pc := 165) (ls2 := [(3, (0, 9)), (2, (0, 0)), (0, (2, 120)), (1, (0, _))]) d_X12_run_165 rfl (by decide) rfl ?_
      refine Tr.goto (pc := 168) (tgt := 147) d_X12_run_168 rfl ?_
      refine Tr.iload_n (pc := 147) (i := 3) d_X12_run_147 rfl rfl ?_
      refine Tr.bipush (pc := 148) d_X12_run_148 rfl (by decide) ?_
      refine Tr.icmp_ge (pc := 150) (tgt := 171) d_X12_run_150 rfl (fun hc => absurd hc (by decide)) (fun _ => ?_)
      refine Tr.aload_n (pc := 153) (i := 0) d_X12_run_153 rfl rfl ?_
      refine Tr.getf (pc := 154) d_X12_run_154 f_12_294 (by decide) (by decide) (ty_120 hF) ?_
      refine Tr.tp 174 (fx_120_93 hF) ?_
      refine Tr.iload_n (pc := 157) (i := 3) d_X12_run_157 rfl rfl ?_
      refine Tr.aload_n (pc := 158) (i := 0) d_X12_run_158 rfl rfl ?_
      refine Tr.getf (pc := 159) d_X12_run_159 f_12_222 (by decide) (by decide) (ty_120 hF) ?_
      refine Tr.tp 161 (fx_120_69 hF) ?_
      refine Tr.iload_n (pc := 162) (i := 3) d_X12_run_162 rfl rfl ?_
      refine Tr.iald (pc := 163) d_X12_run_163 (ty_161 hF) (by decide) (by decide) ?_
      refine Tr.tp 0 ((rd_wb _ rfl).trans ((rd_wb _ rfl).trans ((rd_wb _ rfl).trans ((rd_wb _ rfl).trans ((rd_wb _ rfl).trans ((rd_wb _ rfl).trans ((rd_wb _ rfl).trans ((rd_wb _ rfl).trans ((rd_wb _ rfl).trans ((rd_wb _ rfl).trans ((rd_wb _ rfl).trans ((rd_wb _ rfl).trans ((rd_wb _ rfl).trans ((rd_wb _ rfl).trans ((rd_wb _ rfl).trans ((rd_wb _ rfl).trans ((rd_wb _ rfl).trans ((rd_wb _ rfl).trans ((rd_wb _ rfl).trans ((rd_wb _ rfl).trans ((rd_wb _ rfl).trans ((rd_wb _ rfl).trans ((rd_wb _ rfl).trans ((rd_wb _ rfl).trans ((rd_wb _ rfl).trans ((rd_wb _ rfl).trans ((rd_wb _ rfl).trans ((rd_wb _ rfl).trans ((rd_wb _ rfl).trans ((rd_wb _ rfl).trans ((rd_wb _ rfl).trans ((rd_wb _ rfl).trans ((rd_wb _ rfl).trans ((rd_wb _ rfl).trans ((rd_wb _ rfl).trans ((rd_wb _ rfl).trans ((rd_wb _ rfl).trans ((rd_wb _ rfl).trans ((rd_wb _ rfl).trans ((rd_wb _ rfl).trans ((rd_wb _ rfl).trans ((rd_wb _ rfl).trans ((rd_wb _ rfl).trans ((rd_wb _ rfl).trans ((rd_wb _ rfl).trans ((rd_wb _ rfl).trans ((rd_wb _ rfl).trans ((rd_wb _ rfl).trans ((rd_wb _ rfl).trans ((rd_wb _ rfl).trans (rd_ws _ _ _ _))))))))))))))))))))))))))))))))))))))))))))))))))) ?_
      refine Tr.iastX (pc := 164) d_X12_run_164 (ty_174 hF) (by decide) (by decide) hF (by decide +kernel) (fun hF => ?_)
      refine Tr.iinc (pc := 165) (ls2 := [(3, (0, 10)), (2, (0, 0)), (0, (2, 120)), (1, (0, _))]) d_X12_run_165 rfl (by decide) rfl ?_
      refine Tr.goto (pc := 168) (tgt := 147) d_X12_run_168 rfl ?_
      refine Tr.iload_n (pc := 147) (i := 3) d_X12_run_147 rfl rfl ?_
      refine Tr.bipush (pc := 148) d_X12_run_148 rfl (by decide) ?_
      refine Tr.icmp_ge (pc := 150) (tgt := 171) d_X12_run_150 rfl (fun hc => absurd hc (by decide)) (fun _ => ?_)
      refine Tr.aload_n (pc := 153) (i := 0) d_X12_run_153 rfl rfl ?_
      refine Tr.getf (pc := 154) d_X12_run_154 f_12_294 (by decide) (by decide) (ty_120 hF) ?_
      refine Tr.tp 174 (fx_120_93 hF) ?_
      refine Tr.iload_n (pc := 157) (i := 3) d_X12_run_157 rfl rfl ?_
      refine Tr.aload_n (pc := 158) (i := 0) d_X12_run_158 rfl rfl ?_
      refine Tr.getf (pc := 159) d_X12_run_159 f_12_222 (by decide) (by decide) (ty_120 hF) ?_
      refine Tr.tp 161 (fx_120_69 hF) ?_
      refine Tr.iload_n (pc := 162) (i := 3) d_X12_run_162 rfl rfl ?_
      refine Tr.iald (pc := 163) d_X12_run_163 (ty_161 hF) (by decide) (by decide) ?_
      refine Tr.tp 0 ((rd_wb _ rfl).trans ((rd_wb _ rfl).trans ((rd_wb _ rfl).trans ((rd_wb _ rfl).trans ((rd_wb _ rfl).trans ((rd_wb _ rfl).trans ((rd_wb _ rfl).trans ((rd_wb _ rfl).trans ((rd_wb _ rfl).trans ((rd_wb _ rfl).trans ((rd_wb _ rfl).trans ((rd_wb _ rfl).trans ((rd_wb _ rfl).trans ((rd_wb _ rfl).trans ((rd_wb _ rfl).trans ((rd_wb _ rfl).trans ((rd_wb _ rfl).trans ((rd_wb _ rfl).trans ((rd_wb _ rfl).trans ((rd_wb _ rfl).trans ((rd_wb _ rfl).trans ((rd_wb _ rfl).trans ((rd_wb _ rfl).trans ((rd_wb _ rfl).trans ((rd_wb _ rfl).trans ((rd_wb _ rfl).trans ((rd_wb _ rfl).trans ((rd_wb _ rfl).trans ((rd_wb _ rfl).trans ((rd_wb _ rfl).trans ((rd_wb _ rfl).trans ((rd_wb _ rfl).trans ((rd_wb _ rfl).trans ((rd_wb _ rfl).trans ((rd_wb _ rfl).trans ((rd_wb _ rfl).trans ((rd_wb _ rfl).trans ((rd_wb _ rfl).trans ((rd_wb _ rfl).trans ((rd_wb _ rfl).trans ((rd_wb _ rfl).trans ((rd_wb _ rfl).trans ((rd_wb _ rfl).trans ((rd_wb _ rfl).trans ((rd_wb _ rfl).trans ((rd_wb _ rfl).trans ((rd_wb _ rfl).trans ((rd_wb _ rfl).trans ((rd_wb _ rfl).trans ((rd_wb _ rfl).trans (rd_ws _ _ _ _))))))))))))))))))))))))))))))))))))))))))))))))))) ?_
      refine Tr.iastX (pc := 164) d_X12_run_164 (ty_174 hF) (by decide) (by decide) hF (by decide +kernel) (fun hF => ?_)
      refine Tr.iinc (pc := 165) (ls2 := [(3, (0, 11)), (2, (0, 0)), (0, (2, 120)), (1, (0, _))]) d_X12_run_165 rfl (by decide) rfl ?_
      refine Tr.goto (pc := 168) (tgt := 147) d_X12_run_168 rfl ?_
      refine Tr.iload_n (pc := 147) (i := 3) d_X12_run_147 rfl rfl ?_
      refine Tr.bipush (pc := 148) d_X12_run_148 rfl (by decide) ?_
      refine Tr.icmp_ge (pc := 150) (tgt := 171) d_X12_run_150 rfl (fun hc => absurd hc (by decide)) (fun _ => ?_)
      refine Tr.aload_n (pc := 153) (i := 0) d_X12_run_153 rfl rfl ?_
      refine Tr.getf (pc := 154) d_X12_run_154 f_12_294 (by decide) (by decide) (ty_120 hF) ?_
      refine Tr.tp 174 (fx_120_93 hF) ?_
      refine Tr.iload_n (pc := 157) (i := 3) d_X12_run_157 rfl rfl ?_
      refine Tr.aload_n (pc := 158) (i := 0) d_X12_run_158 rfl rfl ?_
      refine Tr.getf (pc := 159) d_X12_run_159 f_12_222 (by decide) (by decide) (ty_120 hF) ?_
      refine Tr.tp 161 (fx_120_69 hF) ?_
      refine Tr.iload_n (pc := 162) (i := 3) d_X12_run_162 rfl rfl ?_
      refine Tr.iald (pc := 163) d_X12_run_163 (ty_161 hF) (by decide) (by decide) ?_
      refine Tr.tp 0 ((rd_wb _ rfl).trans ((rd_wb _ rfl).trans ((rd_wb _ rfl).trans ((rd_wb _ rfl).trans ((rd_wb _ rfl).trans ((rd_wb _ rfl).trans ((rd_wb _ rfl).trans ((rd_wb _ rfl).trans ((rd_wb _ rfl).trans ((rd_wb _ rfl).trans ((rd_wb _ rfl).trans ((rd_wb _ rfl).trans ((rd_wb _ rfl).trans ((rd_wb _ rfl).trans ((rd_wb _ rfl).trans ((rd_wb _ rfl).trans ((rd_wb _ rfl).trans ((rd_wb _ rfl).trans ((rd_wb _ rfl).trans ((rd_wb _ rfl).trans ((rd_wb _ rfl).trans ((rd_wb _ rfl).trans ((rd_wb _ rfl).trans ((rd_wb _ rfl).trans ((rd_wb _ rfl).trans ((rd_wb _ rfl).trans ((rd_wb _ rfl).trans ((rd_wb _ rfl).trans ((rd_wb _ rfl).trans ((rd_wb _ rfl).trans ((rd_wb _ rfl).trans ((rd_wb _ rfl).trans ((rd_wb _ rfl).trans ((rd_wb _ rfl).trans ((rd_wb _ rfl).trans ((rd_wb _ rfl).trans ((rd_wb _ rfl).trans ((rd_wb _ rfl).trans ((rd_wb _ rfl).trans ((rd_wb _ rfl).trans ((rd_wb _ rfl).trans ((rd_wb _ rfl).trans ((rd_wb _ rfl).trans ((rd_wb _ rfl).trans ((rd_wb _ rfl).trans ((rd_wb _ rfl).trans ((rd_wb _ rfl).trans ((rd_wb _ rfl).trans ((rd_wb _ rfl).trans ((rd_wb _ rfl).trans (rd_ws _ _ _ _))))))))))))))))))))))))))))))))))))))))))))))))))) ?_
      refine Tr.iastX (pc := 164) d_X12_run_164 (ty_174 hF) (by decide) (by decide) hF (by decide +kernel) (fun hF => ?_)
      refine Tr.iinc (pc := 165) (ls2 := [(3, (0, 12)), (2, (0, 0)), (0, (2, 120)), (1, (0, _))]) d_X12_run_165 rfl (by decide) rfl ?_
      refine Tr.goto (pc := 168) (tgt := 147) d_X12_run_168 rfl ?_
      refine Tr.iload_n (pc := 147) (i := 3) d_X12_run_147 rfl rfl ?_
      refine Tr.bipush (pc := 148) d_X12_run_148 rfl (by decide) ?_
      refine Tr.icmp_ge (pc := 150) (tgt := 171) d_X12_run_150 rfl (fun hc => absurd hc (by decide)) (fun _ => ?_)
      refine Tr.aload_n (pc := 153) (i := 0) d_X12_run_153 rfl rfl ?_
      refine Tr.getf (pc := 154) d_X12_run_154 f_12_294 (by decide) (by decide) (ty_120 hF) ?_
      refine Tr.tp 174 (fx_120_93 hF) ?_
      refine Tr.iload_n (pc := 157) (i := 3) d_X12_run_157 rfl rfl ?_
      refine Tr.aload_n (pc := 158) (i := 0) d_X12_run_158 rfl rfl ?_
      refine Tr.getf (pc := 159) d_X12_run_159 f_12_222 (by decide) (by decide) (ty_120 hF) ?_
      refine Tr.tp 161 (fx_120_69 hF) ?_
      refine Tr.iload_n (pc := 162) (i := 3) d_X12_run_162 rfl rfl ?_
      refine Tr.iald (pc := 163) d_X12_run_163 (ty_161 hF) (by decide) (by decide) ?_
      refine Tr.tp 0 ((rd_wb _ rfl).trans ((rd_wb _ rfl).trans ((rd_wb _ rfl).trans ((rd_wb _ rfl).trans ((rd_wb _ rfl).trans ((rd_wb _ rfl).trans ((rd_wb _ rfl).trans ((rd_wb _ rfl).trans ((rd_wb _ rfl).trans ((rd_wb _ rfl).trans ((rd_wb _ rfl).trans ((rd_wb _ rfl).trans ((rd_wb _ rfl).trans ((rd_wb _ rfl).trans ((rd_wb _ rfl).trans ((rd_wb _ rfl).trans ((rd_wb _ rfl).trans ((rd_wb _ rfl).trans ((rd_wb _ rfl).trans ((rd_wb _ rfl).trans ((rd_wb _ rfl).trans ((rd_wb _ rfl).trans ((rd_wb _ rfl).trans ((rd_wb _ rfl).trans ((rd_wb _ rfl).trans ((rd_wb _ rfl).trans ((rd_wb _ rfl).trans ((rd_wb _ rfl).trans ((rd_wb _ rfl).trans ((rd_wb _ rfl).trans ((rd_wb _ rfl).trans ((rd_wb _ rfl).trans ((rd_wb _ rfl).trans ((rd_wb _ rfl).trans ((rd_wb _ rfl).trans ((rd_wb _ rfl).trans ((rd_wb _ rfl).trans ((rd_wb _ rfl).trans ((rd_wb _ rfl).trans ((rd_wb _ rfl).trans ((rd_wb _ rfl).trans ((rd_wb _ rfl).trans ((rd_wb _ rfl).trans ((rd_wb _ rfl).trans ((rd_wb _ rfl).trans ((rd_wb _ rfl).trans ((rd_wb _ rfl).trans ((rd_wb _ rfl).trans ((rd_wb _ rfl).trans ((rd_wb _ rfl).trans (rd_ws _ _ _ _))))))))))))))))))))))))))))))))))))))))))))))))))) ?_
      refine Tr.iastX (pc := 164) d_X12_run_164 (ty_174 hF) (by decide) (by decide) hF (by decide +kernel) (fun hF => ?_)
      refine Tr.iinc (pc := 165) (ls2 := [(3, (0, 13)), (2, (0, 0)), (0, (2, 120)), (1, (0, _))]) d_X12_run_165 rfl (by decide) rfl ?_
      refine Tr.goto (pc := 168) (tgt := 147) d_X12_run_168 rfl ?_
      refine Tr.iload_n (pc := 147) (i := 3) d_X12_run_147 rfl rfl ?_
      refine Tr.bipush (pc := 148) d_X12_run_148 rfl (by decide) ?_
      refine Tr.icmp_ge (pc := 150) (tgt := 171) d_X12_run_150 rfl (fun hc => absurd hc (by decide)) (fun _ => ?_)
      refine Tr.aload_n (pc := 153) (i := 0) d_X12_run_153 rfl rfl ?_
      refine Tr.getf (pc := 154) d_X12_run_154 f_12_294 (by decide) (by decide) (ty_120 hF) ?_
      refine Tr.tp 174 (fx_120_93 hF) ?_
      refine Tr.iload_n (pc := 157) (i := 3) d_X12_run_157 rfl rfl ?_
      refine Tr.aload_n (pc := 158) (i := 0) d_X12_run_158 rfl rfl ?_
      refine Tr.getf (pc := 159) d_X12_run_159 f_12_222 (by decide) (by decide) (ty_120 hF) ?_
      refine Tr.tp 161 (fx_120_69 hF) ?_
      refine Tr.iload_n (pc := 162) (i := 3) d_X12_run_162 rfl rfl ?_
      refine Tr.iald (pc := 163) d_X12_run_163 (ty_161 hF) (by decide) (by decide) ?_
      refine Tr.tp 0 ((rd_wb _ rfl).trans ((rd_wb _ rfl).trans ((rd_wb _ rfl).trans ((rd_wb _ rfl).trans ((rd_wb _ rfl).trans ((rd_wb _ rfl).trans ((rd_wb _ rfl).trans ((rd_wb _ rfl).trans ((rd_wb _ rfl).trans ((rd_wb _ rfl).trans ((rd_wb _ rfl).trans ((rd_wb _ rfl).trans ((rd_wb _ rfl).trans ((rd_wb _ rfl).trans ((rd_wb _ rfl).trans ((rd_wb _ rfl).trans ((rd_wb _ rfl).trans ((rd_wb _ rfl).trans ((rd_wb _ rfl).trans ((rd_wb _ rfl).trans ((rd_wb _ rfl).trans ((rd_wb _ rfl).trans ((rd_wb _ rfl).trans ((rd_wb _ rfl).trans ((rd_wb _ rfl).trans ((rd_wb _ rfl).trans ((rd_wb _ rfl).trans ((rd_wb _ rfl).trans ((rd_wb _ rfl).trans ((rd_wb _ rfl).trans ((rd_wb _ rfl).trans ((rd_wb _ rfl).trans ((rd_wb _ rfl).trans ((rd_wb _ rfl).trans ((rd_wb _ rfl).trans ((rd_wb _ rfl).trans ((rd_wb _ rfl).trans ((rd_wb _ rfl).trans ((rd_wb _ rfl).trans ((rd_wb _ rfl).trans ((rd_wb _ rfl).trans ((rd_wb _ rfl).trans ((rd_wb _ rfl).trans ((rd_wb _ rfl).trans ((rd_wb _ rfl).trans ((rd_wb _ rfl).trans ((rd_wb _ rfl).trans ((rd_wb _ rfl).trans ((rd_wb _ rfl).trans ((rd_wb _ rfl).trans (rd_ws _ _ _ _))))))))))))))))))))))))))))))))))))))))))))))))))) ?_
      refine Tr.iastX (pc := 164) d_X12_run_164 (ty_174 hF) (by decide) (by decide) hF (by decide +kernel) (fun hF => ?_)
      refine Tr.iinc (pc := 165) (ls2 := [(3, (0, 14)), (2, (0, 0)), (0, (2, 120)), (1, (0, _))]) d_X12_run_165 rfl (by decide) rfl ?_
      refine Tr.goto (pc := 168) (tgt := 147) d_X12_run_168 rfl ?_
      refine Tr.iload_n (pc := 147) (i := 3) d_X12_run_147 rfl rfl ?_
      refine Tr.bipush (pc := 148) d_X12_run_148 rfl (by decide) ?_
      refine Tr.icmp_ge (pc := 150) (tgt := 171) d_X12_run_150 rfl (fun hc => absurd hc (by decide)) (fun _ => ?_)
      refine Tr.aload_n (pc := 153) (i := 0) d_X12_run_153 rfl rfl ?_
      refine Tr.getf (pc := 154) d_X12_run_154 f_12_294 (by decide) (by decide) (ty_120 hF) ?_
      refine Tr.tp 174 (fx_120_93 hF) ?_
      refine Tr.iload_n (pc := 157) (i := 3) d_X12_run_157 rfl rfl ?_
      refine Tr.aload_n (pc := 158) (i := 0) d_X12_run_158 rfl rfl ?_
      refine Tr.getf (pc := 159) d_X12_run_159 f_12_222 (by decide) (by decide) (ty_120 hF) ?_
      refine Tr.tp 161 (fx_120_69 hF) ?_
      refine Tr.iload_n (pc := 162) (i := 3) d_X12_run_162 rfl rfl ?_
      refine Tr.iald (pc := 163) d_X12_run_163 (ty_161 hF) (by decide) (by decide) ?_
      refine Tr.tp 0 ((rd_wb _ rfl).trans ((rd_wb _ rfl).trans ((rd_wb _ rfl).trans ((rd_wb _ rfl).trans ((rd_wb _ rfl).trans ((rd_wb _ rfl).trans ((rd_wb _ rfl).trans ((rd_wb _ rfl).trans ((rd_wb _ rfl).trans ((rd_wb _ rfl).trans ((rd_wb _ rfl).trans ((rd_wb _ rfl).trans ((rd_wb _ rfl).trans ((rd_wb _ rfl).trans ((rd_wb _ rfl).trans ((rd_wb _ rfl).trans ((rd_wb _ rfl).trans ((rd_wb _ rfl).trans ((rd_wb _ rfl).trans ((rd_wb _ rfl).trans ((rd_wb _ rfl).trans ((rd_wb _ rfl).trans ((rd_wb _ rfl).trans ((rd_wb _ rfl).trans ((rd_wb _ rfl).trans ((rd_wb _ rfl).trans ((rd_wb _ rfl).trans ((rd_wb _ rfl).trans ((rd_wb _ rfl).trans ((rd_wb _ rfl).trans ((rd_wb _ rfl).trans ((rd_wb _ rfl).trans ((rd_wb _ rfl).trans ((rd_wb _ rfl).trans ((rd_wb _ rfl).trans ((rd_wb _ rfl).trans ((rd_wb _ rfl).trans ((rd_wb _ rfl).trans ((rd_wb _ rfl).trans ((rd_wb _ rfl).trans ((rd_wb _ rfl).trans ((rd_wb _ rfl).trans ((rd_wb _ rfl).trans ((rd_wb _ rfl).trans ((rd_wb _ rfl).trans ((rd_wb _ rfl).trans ((rd_wb _ rfl).trans ((rd_wb _ rfl).trans ((rd_wb _ rfl).trans ((rd_wb _ rfl).trans (rd_ws _ _ _ _))))))))))))))))))))))))))))))))))))))))))))))))))) ?_
      refine Tr.iastX (pc := 164) d_X12_run_164 (ty_174 hF) (by decide) (by decide) hF (by decide +kernel) (fun hF => ?_)
      refine Tr.iinc (pc := 165) (ls2 := [(3, (0, 15)), (2, (0, 0)), (0, (2, 120)), (1, (0, _))]) d_X12_run_165 rfl (by decide) rfl ?_
      refine Tr.goto (pc := 168) (tgt := 147) d_X12_run_168 rfl ?_
      refine Tr.iload_n (pc := 147) (i := 3) d_X12_run_147 rfl rfl ?_
      refine Tr.bipush (pc := 148) d_X12_run_148 rfl (by decide) ?_
      refine Tr.icmp_ge (pc := 150) (tgt := 171) d_X12_run_150 rfl (fun hc => absurd hc (by decide)) (fun _ => ?_)
      refine Tr.aload_n (pc := 153) (i := 0) d_X12_run_153 rfl rfl ?_
      refine Tr.getf (pc := 154) d_X12_run_154 f_12_294 (by decide) (by decide) (ty_120 hF) ?_
      refine Tr.tp 174 (fx_120_93 hF) ?_
      refine Tr.iload_n (pc := 157) (i := 3) d_X12_run_157 rfl rfl ?_
      refine Tr.aload_n (pc := 158) (i := 0) d_X12_run_158 rfl rfl ?_
      refine Tr.getf (pc := 159) d_X12_run_159 f_12_222 (by decide) (by decide) (ty_120 hF) ?_
      refine Tr.tp 161 (fx_120_69 hF) ?_
      refine Tr.iload_n (pc := 162) (i := 3) d_X12_run_162 rfl rfl ?_
      refine Tr.iald (pc := 163) d_X12_run_163 (ty_161 hF) (by decide) (by decide) ?_
      refine Tr.tp 0 ((rd_wb _ rfl).trans ((rd_wb _ rfl).trans ((rd_wb _ rfl).trans ((rd_wb _ rfl).trans ((rd_wb _ rfl).trans ((rd_wb _ rfl).trans ((rd_wb _ rfl).trans ((rd_wb _ rfl).trans ((rd_wb _ rfl).trans ((rd_wb _ rfl).trans ((rd_wb _ rfl).trans ((rd_wb _ rfl).trans ((rd_wb _ rfl).trans ((rd_wb _ rfl).trans ((rd_wb _ rfl).trans ((rd_wb _ rfl).trans ((rd_wb _ rfl).trans ((rd_wb _ rfl).trans ((rd_wb _ rfl).trans ((rd_wb _ rfl).trans ((rd_wb _ rfl).trans ((rd_wb _ rfl).trans ((rd_wb _ rfl).trans ((rd_wb _ rfl).trans ((rd_wb _ rfl).trans ((rd_wb _ rfl).trans ((rd_wb _ rfl).trans ((rd_wb _ rfl).trans ((rd_wb _ rfl).trans ((rd_wb _ rfl).trans ((rd_wb _ rfl).trans ((rd_wb _ rfl).trans ((rd_wb _ rfl).trans ((rd_wb _ rfl).trans ((rd_wb _ rfl).trans ((rd_wb _ rfl).trans ((rd_wb _ rfl).trans ((rd_wb _ rfl).trans ((rd_wb _ rfl).trans ((rd_wb _ rfl).trans ((rd_wb _ rfl).trans ((rd_wb _ rfl).trans ((rd_wb _ rfl).trans ((rd_wb _ rfl).trans ((rd_wb _ rfl).trans ((rd_wb _ rfl).trans ((rd_wb _ rfl).trans ((rd_wb _ rfl).trans ((rd_wb _ rfl).trans ((rd_wb _ rfl).trans (rd_ws _ _ _ _))))))))))))))))))))))))))))))))))))))))))))))))))) ?_
      refine Tr.iastX (pc := 164) d_X12_run_164 (ty_174 hF) (by decide) (by decide) hF (by decide +kernel) (fun hF => ?_)
      refine Tr.iinc (pc := 165) (ls2 := [(3, (0, 16)), (2, (0, 0)), (0, (2, 120)), (1, (0, _))]) d_X12_run_165 rfl (by decide) rfl ?_
      refine Tr.goto (pc := 168) (tgt := 147) d_X12_run_168 rfl ?_
      refine Tr.iload_n (pc := 147) (i := 3) d_X12_run_147 rfl rfl ?_
      refine Tr.bipush (pc := 148) d_X12_run_148 rfl (by decide) ?_
      refine Tr.icmp_ge (pc := 150) (tgt := 171) d_X12_run_150 rfl (fun hc => absurd hc (by decide)) (fun _ => ?_)
      refine Tr.aload_n (pc := 153) (i := 0) d_X12_run_153 rfl rfl ?_
      refine Tr.getf (pc := 154) d_X12_run_154 f_12_294 (by decide) (by decide) (ty_120 hF) ?_
      refine Tr.tp 174 (fx_120_93 hF) ?_
      refine Tr.iload_n (pc := 157) (i := 3) d_X12_run_157 rfl rfl ?_
      refine Tr.aload_n (pc := 158) (i := 0) d_X12_run_158 rfl rfl ?_
      refine Tr.getf (pc := 159) d_X12_run_159 f_12_222 (by decide) (by decide) (ty_120 hF) ?_
      refine Tr.tp 161 (fx_120_69 hF) ?_
      refine Tr.iload_n (pc := 162) (i := 3) d_X12_run_162 rfl rfl ?_
      refine Tr.iald (pc := 163) d_X12_run_163 (ty_161 hF) (by decide) (by decide) ?_
      refine Tr.tp 0 ((rd_wb _ rfl).trans ((rd_wb _ rfl).trans ((rd_wb _ rfl).trans ((rd_wb _ rfl).trans ((rd_wb _ rfl).trans ((rd_wb _ rfl).trans ((rd_wb _ rfl).trans ((rd_wb _ rfl).trans ((rd_wb _ rfl).trans ((rd_wb _ rfl).trans ((rd_wb _ rfl).trans ((rd_wb _ rfl).trans ((rd_wb _ rfl).trans ((rd_wb _ rfl).trans ((rd_wb _ rfl).trans ((rd_wb _ rfl).trans ((rd_wb _ rfl).trans ((rd_wb _ rfl).trans ((rd_wb _ rfl).trans ((rd_wb _ rfl).trans ((rd_wb _ rfl).trans ((rd_wb _ rfl).trans ((rd_wb _ rfl).trans ((rd_wb _ rfl).trans ((rd_wb _ rfl).trans ((rd_wb _ rfl).trans ((rd_wb _ rfl).trans ((rd_wb _ rfl).trans ((rd_wb _ rfl).trans ((rd_wb _ rfl).trans ((rd_wb _ rfl).trans ((rd_wb _ rfl).trans ((rd_wb _ rfl).trans ((rd_wb _ rfl).trans ((rd_wb _ rfl).trans ((rd_wb _ rfl).trans ((rd_wb _ rfl).trans ((rd_wb _ rfl).trans ((rd_wb _ rfl).trans ((rd_wb _ rfl).trans ((rd_wb _ rfl).trans ((rd_wb _ rfl).trans ((rd_wb _ rfl).trans ((rd_wb _ rfl).trans ((rd_wb _ rfl).trans ((rd_wb _ rfl).trans ((rd_wb _ rfl).trans ((rd_wb _ rfl).trans ((rd_wb _ rfl).trans ((rd_wb _ rfl).trans (rd_ws _ _ _ _))))))))))))))))))))))))))))))))))))))))))))))))))) ?_
      refine Tr.iastX (pc := 164) d_X12_run_164 (ty_174 hF) (by decide) (by decide) hF (by decide +kernel) (fun hF => ?_)
      refine Tr.iinc (pc := 165) (ls2 := [(3, (0, 17)), (2, (0, 0)), (0, (2, 120)), (1, (0, _))]) d_X12_run_165 rfl (by decide) rfl ?_
      refine Tr.goto (pc := 168) (tgt := 147) d_X12_run_168 rfl ?_
      refine Tr.iload_n (pc := 147) (i := 3) d_X12_run_147 rfl rfl ?_
      refine Tr.bipush (pc := 148) d_X12_run_148 rfl (by decide) ?_
      refine Tr.icmp_ge (pc := 150) (tgt := 171) d_X12_run_150 rfl (fun hc => absurd hc (by decide)) (fun _ => ?_)
      refine Tr.aload_n (pc := 153) (i := 0) d_X12_run_153 rfl rfl ?_
      refine Tr.getf (pc := 154) d_X12_run_154 f_12_294 (by decide) (by decide) (ty_120 hF) ?_
      refine Tr.tp 174 (fx_120_93 hF) ?_
      refine Tr.iload_n (pc := 157) (i := 3) d_X12_run_157 rfl rfl ?_
      refine Tr.aload_n (pc := 158) (i := 0) d_X12_run_158 rfl rfl ?_
      refine Tr.getf (pc := 159) d_X12_run_159 f_12_222 (by decide) (by decide) (ty_120 hF) ?_
      refine Tr.tp 161 (fx_120_69 hF) ?_
      refine Tr.iload_n (pc := 162) (i := 3) d_X12_run_162 rfl rfl ?_
      refine Tr.iald (pc := 163) d_X12_run_163 (ty_161 hF) (by decide) (by decide) ?_
      refine Tr.tp 0 ((rd_wb _ rfl).trans ((rd_wb _ rfl).trans ((rd_wb _ rfl).trans ((rd_wb _ rfl).trans ((rd_wb _ rfl).trans ((rd_wb _ rfl).trans ((rd_wb _ rfl).trans ((rd_wb _ rfl).trans ((rd_wb _ rfl).trans ((rd_wb _ rfl).trans ((rd_wb _ rfl).trans ((rd_wb _ rfl).trans ((rd_wb _ rfl).trans ((rd_wb _ rfl).trans ((rd_wb _ rfl).trans ((rd_wb _ rfl).trans ((rd_wb _ rfl).trans ((rd_wb _ rfl).trans ((rd_wb _ rfl).trans ((rd_wb _ rfl).trans ((rd_wb _ rfl).trans ((rd_wb _ rfl).trans ((rd_wb _ rfl).trans ((rd_wb _ rfl).trans ((rd_wb _ rfl).trans ((rd_wb _ rfl).trans ((rd_wb _ rfl).trans ((rd_wb _ rfl).trans ((rd_wb _ rfl).trans ((rd_wb _ rfl).trans ((rd_wb _ rfl).trans ((rd_wb _ rfl).trans ((rd_wb _ rfl).trans ((rd_wb _ rfl).trans ((rd_wb _ rfl).trans ((rd_wb _ rfl).trans ((rd_wb _ rfl).trans ((rd_wb _ rfl).trans ((rd_wb _ rfl).trans ((rd_wb _ rfl).trans ((rd_wb _ rfl).trans ((rd_wb _ rfl).trans ((rd_wb _ rfl).trans ((rd_wb _ rfl).trans ((rd_wb _ rfl).trans ((rd_wb _ rfl).trans ((rd_wb _ rfl).trans ((rd_wb _ rfl).trans ((rd_wb _ rfl).trans ((rd_wb _ rfl).trans (rd_ws _ _ _ _))))))))))))))))))))))))))))))))))))))))))))))))))) ?_
      refine Tr.iastX (pc := 164) d_X12_run_164 (ty_174 hF) (by decide) (by decide) hF (by decide +kernel) (fun hF => ?_)
      refine Tr.iinc (pc := 165) (ls2 := [(3, (0, 18)), (2, (0, 0)), (0, (2, 120)), (1, (0, _))]) d_X12_run_165 rfl (by decide) rfl ?_
      refine Tr.goto (pc := 168) (tgt := 147) d_X12_run_168 rfl ?_
      refine Tr.iload_n (pc := 147) (i := 3) d_X12_run_147 rfl rfl ?_
      refine Tr.bipush (pc := 148) d_X12_run_148 rfl (by decide) ?_
      refine Tr.icmp_ge (pc := 150) (tgt := 171) d_X12_run_150 rfl (fun hc => absurd hc (by decide)) (fun _ => ?_)
      refine Tr.aload_n (pc := 153) (i := 0) d_X12_run_153 rfl rfl ?_
      refine Tr.getf (pc := 154) d_X12_run_154 f_12_294 (by decide) (by decide) (ty_120 hF) ?_
      refine Tr.tp 174 (fx_120_93 hF) ?_
      refine Tr.iload_n (pc := 157) (i := 3) d_X12_run_157 rfl rfl ?_
      refine Tr.aload_n (pc := 158) (i := 0) d_X12_run_158 rfl rfl ?_
      refine Tr.getf (pc := 159) d_X12_run_159 f_12_222 (by decide) (by decide) (ty_120 hF) ?_
      refine Tr.tp 161 (fx_120_69 hF) ?_
      refine Tr.iload_n (pc := 162) (i := 3) d_X12_run_162 rfl rfl ?_
      refine Tr.iald (pc := 163) d_X12_run_163 (ty_161 hF) (by decide) (by decide) ?_
      refine Tr.tp 0 ((rd_wb _ rfl).trans ((rd_wb _ rfl).trans ((rd_wb _ rfl).trans ((rd_wb _ rfl).trans ((rd_wb _ rfl).trans ((rd_wb _ rfl).trans ((rd_wb _ rfl).trans ((rd_wb _ rfl).trans ((rd_wb _ rfl).trans ((rd_wb _ rfl).trans ((rd_wb _ rfl).trans ((rd_wb _ rfl).trans ((rd_wb _ rfl).trans ((rd_wb _ rfl).trans ((rd_wb _ rfl).trans ((rd_wb _ rfl).trans ((rd_wb _ rfl).trans ((rd_wb _ rfl).trans ((rd_wb _ rfl).trans ((rd_wb _ rfl).trans ((rd_wb _ rfl).trans ((rd_wb _ rfl).trans ((rd_wb _ rfl).trans ((rd_wb _ rfl).trans ((rd_wb _ rfl).trans ((rd_wb _ rfl).trans ((rd_wb _ rfl).trans ((rd_wb _ rfl).trans ((rd_wb _ rfl).trans ((rd_wb _ rfl).trans ((rd_wb _ rfl).trans ((rd_wb _ rfl).trans ((rd_wb _ rfl).trans ((rd_wb _ rfl).trans ((rd_wb _ rfl).trans ((rd_wb _ rfl).trans ((rd_wb _ rfl).trans ((rd_wb _ rfl).trans ((rd_wb _ rfl).trans ((rd_wb _ rfl).trans ((rd_wb _ rfl).trans ((rd_wb _ rfl).trans ((rd_wb _ rfl).trans ((rd_wb _ rfl).trans ((rd_wb _ rfl).trans ((rd_wb _ rfl).trans ((rd_wb _ rfl).trans ((rd_wb _ rfl).trans ((rd_wb _ rfl).trans ((rd_wb _ rfl).trans (rd_ws _ _ _ _))))))))))))))))))))))))))))))))))))))))))))))))))) ?_
      refine Tr.iastX (pc := 164) d_X12_run_164 (ty_174 hF) (by decide) (by decide) hF (by decide +kernel) (fun hF => ?_)
      refine Tr.iinc (pc := 165) (ls2 := [(3, (0, 19)), (2, (0, 0)), (0, (2, 120)), (1, (0, _))]) d_X12_run_165 rfl (by decide) rfl ?_
      refine Tr.goto (pc := 168) (tgt := 147) d_X12_run_168 rfl ?_
      refine Tr.iload_n (pc := 147) (i := 3) d_X12_run_147 rfl rfl ?_
      refine Tr.bipush (pc := 148) d_X12_run_148 rfl (by decide) ?_
      refine Tr.icmp_ge (pc := 150) (tgt := 171) d_X12_run_150 rfl (fun hc => absurd hc (by decide)) (fun _ => ?_)
      refine Tr.aload_n (pc := 153) (i := 0) d_X12_run_153 rfl rfl ?_
      refine Tr.getf (pc := 154) d_X12_run_154 f_12_294 (by decide) (by decide) (ty_120 hF) ?_
      refine Tr.tp 174 (fx_120_93 hF) ?_
      refine Tr.iload_n (pc := 157) (i := 3) d_X12_run_157 rfl rfl ?_
      refine Tr.aload_n (pc := 158) (i := 0) d_X12_run_158 rfl rfl ?_
      refine Tr.getf (pc := 159) d_X12_run_159 f_12_222 (by decide) (by decide) (ty_120 hF) ?_
      refine Tr.tp 161 (fx_120_69 hF) ?_
      refine Tr.iload_n (pc := 162) (i := 3) d_X12_run_162 rfl rfl ?_
      refine Tr.iald (pc := 163) d_X12_run_163 (ty_161 hF) (by decide) (by decide) ?_
      refine Tr.tp 0 ((rd_wb _ rfl).trans ((rd_wb _ rfl).trans ((rd_wb _ rfl).trans ((rd_wb _ rfl).trans ((rd_wb _ rfl).trans ((rd_wb _ rfl).trans ((rd_wb _ rfl).trans ((rd_wb _ rfl).trans ((rd_wb _ rfl).trans ((rd_wb _ rfl).trans ((rd_wb _ rfl).trans ((rd_wb _ rfl).trans ((rd_wb _ rfl).trans ((rd_wb _ rfl).trans ((rd_wb _ rfl).trans ((rd_wb _ rfl).trans ((rd_wb _ rfl).trans ((rd_wb _ rfl).trans ((rd_wb _ rfl).trans ((rd_wb _ rfl).trans ((rd_wb _ rfl).trans ((rd_wb _ rfl).trans ((rd_wb _ rfl).trans ((rd_wb _ rfl).trans ((rd_wb _ rfl).trans ((rd_wb _ rfl).trans ((rd_wb _ rfl).trans ((rd_wb _ rfl).trans ((rd_wb _ rfl).trans ((rd_wb _ rfl).trans ((rd_wb _ rfl).trans ((rd_wb _ rfl).trans ((rd_wb _ rfl).trans ((rd_wb _ rfl).trans ((rd_wb _ rfl).trans ((rd_wb _ rfl).trans ((rd_wb _ rfl).trans ((rd_wb _ rfl).trans ((rd_wb _ rfl).trans ((rd_wb _ rfl).trans ((rd_wb _ rfl).trans ((rd_wb _ rfl).trans ((rd_wb _ rfl).trans ((rd_wb _ rfl).trans ((rd_wb _ rfl).trans ((rd_wb _ rfl).trans ((rd_wb _ rfl).trans ((rd_wb _ rfl).trans ((rd_wb _ rfl).trans ((rd_wb _ rfl).trans (rd_ws _ _ _ _))))))))))))))))))))))))))))))))))))))))))))))))))) ?_
      refine Tr.iastX (pc := 164) d_X12_run_164 (ty_174 hF) (by decide) (by decide) hF (by decide +kernel) (fun hF => ?_)
      refine Tr.iinc (pc := 165) (ls2 := [(3, (0, 20)), (2, (0, 0)), (0, (2, 120)), (1, (0, _))]) d_X12_run_165 rfl (by decide) rfl ?_
      refine Tr.goto (pc := 168) (tgt := 147) d_X12_run_168 rfl ?_
      refine Tr.iload_n (pc := 147) (i := 3) d_X12_run_147 rfl rfl ?_
      refine Tr.bipush (pc := 148) d_X12_run_148 rfl (by decide) ?_
      refine Tr.icmp_ge (pc := 150) (tgt := 171) d_X12_run_150 rfl (fun hc => absurd hc (by decide)) (fun _ => ?_)
      refine Tr.aload_n (pc := 153) (i := 0) d_X12_run_153 rfl rfl ?_
      refine Tr.getf (pc := 154) d_X12_run_154 f_12_294 (by decide) (by decide) (ty_120 hF) ?_
      refine Tr.tp 174 (fx_120_93 hF) ?_
      refine Tr.iload_n (pc := 157) (i := 3) d_X12_run_157 rfl rfl ?_
      refine Tr.aload_n (pc := 158) (i := 0) d_X12_run_158 rfl rfl ?_
      refine Tr.getf (pc := 159) d_X12_run_159 f_12_222 (by decide) (by decide) (ty_120 hF) ?_
      refine Tr.tp 161 (fx_120_69 hF) ?_
      refine Tr.iload_n (pc := 162) (i := 3) d_X12_run_162 rfl rfl ?_
      refine Tr.iald (pc := 163) d_X12_run_163 (ty_161 hF) (by decide) (by decide) ?_
      refine Tr.tp 0 ((rd_wb _ rfl).trans ((rd_wb _ rfl).trans ((rd_wb _ rfl).trans ((rd_wb _ rfl).trans ((rd_wb _ rfl).trans ((rd_wb _ rfl).trans ((rd_wb _ rfl).trans ((rd_wb _ rfl).trans ((rd_wb _ rfl).trans ((rd_wb _ rfl).trans ((rd_wb _ rfl).trans ((rd_wb _ rfl).trans ((rd_wb _ rfl).trans ((rd_wb _ rfl).trans ((rd_wb _ rfl).trans ((rd_wb _ rfl).trans ((rd_wb _ rfl).trans ((rd_wb _ rfl).trans ((rd_wb _ rfl).trans ((rd_wb _ rfl).trans ((rd_wb _ rfl).trans ((rd_wb _ rfl).trans ((rd_wb _ rfl).trans ((rd_wb _ rfl).trans ((rd_wb _ rfl).trans ((rd_wb _ rfl).trans ((rd_wb _ rfl).trans ((rd_wb _ rfl).trans ((rd_wb _ rfl).trans ((rd_wb _ rfl).trans ((rd_wb _ rfl).trans ((rd_wb _ rfl).trans ((rd_wb _ rfl).trans ((rd_wb _ rfl).trans ((rd_wb _ rfl).trans ((rd_wb _ rfl).trans ((rd_wb _ rfl).trans ((rd_wb _ rfl).trans ((rd_wb _ rfl).trans ((rd_wb _ rfl).trans ((rd_wb _ rfl).trans ((rd_wb _ rfl).trans ((rd_wb _ rfl).trans ((rd_wb _ rfl).trans ((rd_wb _ rfl).trans ((rd_wb _ rfl).trans ((rd_wb _ rfl).trans ((rd_wb _ rfl).trans ((rd_wb _ rfl).trans ((rd_wb _ rfl).trans (rd_ws _ _ _ _))))))))))))))))))))))))))))))))))))))))))))))))))) ?_
      refine Tr.iastX (pc := 164) d_X12_run_164 (ty_174 hF) (by decide) (by decide) hF (by decide +kernel) (fun hF => ?_)
      refine Tr.iinc (pc := 165) (ls2 := [(3, (0, 21)), (2, (0, 0)), (0, (2, 120)), (1, (0, _))]) d_X12_run_165 rfl (by decide) rfl ?_
      refine Tr.goto (pc := 168) (tgt := 147) d_X12_run_168 rfl ?_
      refine Tr.iload_n (pc := 147) (i := 3) d_X12_run_147 rfl rfl ?_
      refine Tr.bipush (pc := 148) d_X12_run_148 rfl (by decide) ?_
      refine Tr.icmp_ge (pc := 150) (tgt := 171) d_X12_run_150 rfl (fun hc => absurd hc (by decide)) (fun _ => ?_)
      refine Tr.aload_n (pc := 153) (i := 0) d_X12_run_153 rfl rfl ?_
      refine Tr.getf (pc := 154) d_X12_run_154 f_12_294 (by decide) (by decide) (ty_120 hF) ?_
      refine Tr.tp 174 (fx_120_93 hF) ?_
      refine Tr.iload_n (pc := 157) (i := 3) d_X12_run_157 rfl rfl ?_
      refine Tr.aload_n (pc := 158) (i := 0) d_X12_run_158 rfl rfl ?_
      refine Tr.getf (pc := 159) d_X12_run_159 f_12_222 (by decide) (by decide) (ty_120 hF) ?_
      refine Tr.tp 161 (fx_120_69 hF) ?_
      refine Tr.iload_n (pc := 162) (i := 3) d_X12_run_162 rfl rfl ?_
      refine Tr.iald (pc := 163) d_X12_run_163 (ty_161 hF) (by decide) (by decide) ?_
      refine Tr.tp 0 ((rd_wb _ rfl).trans ((rd_wb _ rfl).trans ((rd_wb _ rfl).trans ((rd_wb _ rfl).trans ((rd_wb _ rfl).trans ((rd_wb _ rfl).trans ((rd_wb _ rfl).trans ((rd_wb _ rfl).trans ((rd_wb _ rfl).trans ((rd_wb _ rfl).trans ((rd_wb _ rfl).trans ((rd_wb _ rfl).trans ((rd_wb _ rfl).trans ((rd_wb _ rfl).trans ((rd_wb _ rfl).trans ((rd_wb _ rfl).trans ((rd_wb _ rfl).trans ((rd_wb _ rfl).trans ((rd_wb _ rfl).trans ((rd_wb _ rfl).trans ((rd_wb _ rfl).trans ((rd_wb _ rfl).trans ((rd_wb _ rfl).trans ((rd_wb _ rfl).trans ((rd_wb _ rfl).trans ((rd_wb _ rfl).trans ((rd_wb _ rfl).trans ((rd_wb _ rfl).trans ((rd_wb _ rfl).trans ((rd_wb _ rfl).trans ((rd_wb _ rfl).trans ((rd_wb _ rfl).trans ((rd_wb _ rfl).trans ((rd_wb _ rfl).trans ((rd_wb _ rfl).trans ((rd_wb _ rfl).trans ((rd_wb _ rfl).trans ((rd_wb _ rfl).trans ((rd_wb _ rfl).trans ((rd_wb _ rfl).trans ((rd_wb _ rfl).trans ((rd_wb _ rfl).trans ((rd_wb _ rfl).trans ((rd_wb _ rfl).trans ((rd_wb _ rfl).trans ((rd_wb _ rfl).trans ((rd_wb _ rfl).trans ((rd_wb _ rfl).trans ((rd_wb _ rfl).trans ((rd_wb _ rfl).trans (rd_ws _ _ _ _))))))))))))))))))))))))))))))))))))))))))))))))))) ?_
      refine Tr.iastX (pc := 164) d_X12_run_164 (ty_174 hF) (by decide) (by decide) hF (by decide +kernel) (fun hF => ?_)
      refine Tr.iinc (pc := 165) (ls2 := [(3, (0, 22)), (2, (0, 0)), (0, (2, 120)), (1, (0, _))]) d_X12_run_165 rfl (by decide) rfl ?_
      refine Tr.goto (pc := 168) (tgt := 147) d_X12_run_168 rfl ?_
      refine Tr.iload_n (pc := 147) (i := 3) d_X12_run_147 rfl rfl ?_
      refine Tr.bipush (pc := 148) d_X12_run_148 rfl (by decide) ?_
      refine Tr.icmp_ge (pc := 150) (tgt := 171) d_X12_run_150 rfl (fun hc => absurd hc (by decide)) (fun _ => ?_)
      refine Tr.aload_n (pc := 153) (i := 0) d_X12_run_153 rfl rfl ?_
      refine Tr.getf (pc := 154) d_X12_run_154 f_12_294 (by decide) (by decide) (ty_120 hF) ?_
      refine Tr.tp 174 (fx_120_93 hF) ?_
      refine Tr.iload_n (pc := 157) (i := 3) d_X12_run_157 rfl rfl ?_
      refine Tr.aload_n (pc := 158) (i := 0) d_X12_run_158 rfl rfl ?_
      refine Tr.getf (pc := 159) d_X12_run_159 f_12_222 (by decide) (by decide) (ty_120 hF) ?_
      refine Tr.tp 161 (fx_120_69 hF) ?_
      refine Tr.iload_n (pc := 162) (i := 3) d_X12_run_162 rfl rfl ?_
      refine Tr.iald (pc := 163) d_X12_run_163 (ty_161 hF) (by decide) (by decide) ?_
      refine Tr.tp 0 ((rd_wb _ rfl).trans ((rd_wb _ rfl).trans ((rd_wb _ rfl).trans ((rd_wb _ rfl).trans ((rd_wb _ rfl).trans ((rd_wb _ rfl).trans ((rd_wb _ rfl).trans ((rd_wb _ rfl).trans ((rd_wb _ rfl).trans ((rd_wb _ rfl).trans ((rd_wb _ rfl).trans ((rd_wb _ rfl).trans ((rd_wb _ rfl).trans ((rd_wb _ rfl).trans ((rd_wb _ rfl).trans ((rd_wb _ rfl).trans ((rd_wb _ rfl).trans ((rd_wb _ rfl).trans ((rd_wb _ rfl).trans ((rd_wb _ rfl).trans ((rd_wb _ rfl).trans ((rd_wb _ rfl).trans ((rd_wb _ rfl).trans ((rd_wb _ rfl).trans ((rd_wb _ rfl).trans ((rd_wb _ rfl).trans ((rd_wb _ rfl).trans ((rd_wb _ rfl).trans ((rd_wb _ rfl).trans ((rd_wb _ rfl).trans ((rd_wb _ rfl).trans ((rd_wb _ rfl).trans ((rd_wb _ rfl).trans ((rd_wb _ rfl).trans ((rd_wb _ rfl).trans ((rd_wb _ rfl).trans ((rd_wb _ rfl).trans ((rd_wb _ rfl).trans ((rd_wb _ rfl).trans ((rd_wb _ rfl).trans ((rd_wb _ rfl).trans ((rd_wb _ rfl).trans ((rd_wb _ rfl).trans ((rd_wb _ rfl).trans ((rd_wb _ rfl).trans ((rd_wb _ rfl).trans ((rd_wb _ rfl).trans ((rd_wb _ rfl).trans ((rd_wb _ rfl).trans ((rd_wb _ rfl).trans (rd_ws _ _ _ _))))))))))))))))))))))))))))))))))))))))))))))))))) ?_
      refine Tr.iastX (pc := 164) d_X12_run_164 (ty_174 hF) (by decide) (by decide) hF (by decide +kernel) (fun hF => ?_)
      refine Tr.iinc (pc := 165) (ls2 := [(3, (0, 23)), (2, (0, 0)), (0, (2, 120)), (1, (0, _))]) d_X12_run_165 rfl (by decide) rfl ?_
      refine Tr.goto (pc := 168) (tgt := 147) d_X12_run_168 rfl ?_
      refine Tr.iload_n (pc := 147) (i := 3) d_X12_run_147 rfl rfl ?_
      refine Tr.bipush (pc := 148) d_X12_run_148 rfl (by decide) ?_
      refine Tr.icmp_ge (pc := 150) (tgt := 171) d_X12_run_150 rfl (fun hc => absurd hc (by decide)) (fun _ => ?_)
      refine Tr.aload_n (pc := 153) (i := 0) d_X12_run_153 rfl rfl ?_
      refine Tr.getf (pc := 154) d_X12_run_154 f_12_294 (by decide) (by decide) (ty_120 hF) ?_
      refine Tr.tp 174 (fx_120_93 hF) ?_
      refine Tr.iload_n (pc := 157) (i := 3) d_X12_run_157 rfl rfl ?_
      refine Tr.aload_n (pc := 158) (i := 0) d_X12_run_158 rfl rfl ?_
      refine Tr.getf (pc := 159) d_X12_run_159 f_12_222 (by decide) (by decide) (ty_120 hF) ?_
      refine Tr.tp 161 (fx_120_69 hF) ?_
      refine Tr.iload_n (pc := 162) (i := 3) d_X12_run_162 rfl rfl ?_
      refine Tr.iald (pc := 163) d_X12_run_163 (ty_161 hF) (by decide) (by decide) ?_
      refine Tr.tp 0 ((rd_wb _ rfl).trans ((rd_wb _ rfl).trans ((rd_wb _ rfl).trans ((rd_wb _ rfl).trans ((rd_wb _ rfl).trans ((rd_wb _ rfl).trans ((rd_wb _ rfl).trans ((rd_wb _ rfl).trans ((rd_wb _ rfl).trans ((rd_wb _ rfl).trans ((rd_wb _ rfl).trans ((rd_wb _ rfl).trans ((rd_wb _ rfl).trans ((rd_wb _ rfl).trans ((rd_wb _ rfl).trans ((rd_wb _ rfl).trans ((rd_wb _ rfl).trans ((rd_wb _ rfl).trans ((rd_wb _ rfl).trans ((rd_wb _ rfl).trans ((rd_wb _ rfl).trans ((rd_wb _ rfl).trans ((rd_wb _ rfl).trans ((rd_wb _ rfl).trans ((rd_wb _ rfl).trans ((rd_wb _ rfl).trans ((rd_wb _ rfl).trans ((rd_wb _ rfl).trans ((rd_wb _ rfl).trans ((rd_wb _ rfl).trans ((rd_wb _ rfl).trans ((rd_wb _ rfl).trans ((rd_wb _ rfl).trans ((rd_wb _ rfl).trans ((rd_wb _ rfl).trans ((rd_wb _ rfl).trans ((rd_wb _ rfl).trans ((rd_wb _ rfl).trans ((rd_wb _ rfl).trans ((rd_wb _ rfl).trans ((rd_wb _ rfl).trans ((rd_wb _ rfl).trans ((rd_wb _ rfl).trans ((rd_wb _ rfl).trans ((rd_wb _ rfl).trans ((rd_wb _ rfl).trans ((rd_wb _ rfl).trans ((rd_wb _ rfl).trans ((rd_wb _ rfl).trans ((rd_wb _ rfl).trans (rd_ws _ _ _ _))))))))))))))))))))))))))))))))))))))))))))))))))) ?_
      refine Tr.iastX (pc := 164) d_X12_run_164 (ty_174 hF) (by decide) (by decide) hF (by decide +kernel) (fun hF => ?_)
      refine Tr.iinc (pc := 165) (ls2 := [(3, (0, 24)), (2, (0, 0)), (0, (2, 120)), (1, (0, _))]) d_X12_run_165 rfl (by decide) rfl ?_
      refine Tr.goto (pc := 168) (tgt := 147) d_X12_run_168 rfl ?_
      refine Tr.iload_n (pc := 147) (i := 3) d_X12_run_147 rfl rfl ?_
      refine Tr.bipush (pc := 148) d_X12_run_148 rfl (by decide) ?_
      refine Tr.icmp_ge (pc := 150) (tgt := 171) d_X12_run_150 rfl (fun _ => ?_) (fun hc => absurd (by decide) hc)
      refine Tr.iconst (pc := 171) d_X12_run_171 (by decide) ?_
      refine Tr.istore_n (pc := 172) (i := 3) (ls2 := [(3, (0, 0)), (2, (0, 0)), (0, (2, 120)), (1, (0, _))]) d_X12_run_172 rfl (by decide) rfl ?_
      refine Tr.iload_n (pc := 173) (i := 3) d_X12_run_173 rfl rfl ?_
      refine Tr.bipush (pc := 174) d_X12_run_174 rfl (by decide) ?_
      refine Tr.icmp_ge (pc := 176) (tgt := 222) d_X12_run_176 rfl (fun hc => absurd hc (by decide)) (fun _ => ?_)
      refine Tr.aload_n (pc := 179) (i := 0) d_X12_run_179 rfl rfl ?_
      refine Tr.getf (pc := 180) d_X12_run_180 f_12_297 (by decide) (by decide) (ty_120 hF) ?_
      refine Tr.tp 175 (fx_120_94 hF) ?_
      refine Tr.iload_n (pc := 183) (i := 3) d_X12_run_183 rfl rfl ?_
      refine Tr.aload_n (pc := 184) (i := 0) d_X12_run_184 rfl rfl ?_
      refine Tr.getf (pc := 185) d_X12_run_185 f_12_177 (by decide) (by decide) (ty_120 hF) ?_
      refine Tr.tp 156 (fx_120_54 hF) ?_
      refine Tr.iload_n (pc := 188) (i := 3) d_X12_run_188 rfl rfl ?_
      refine Tr.zald (pc := 189) d_X12_run_189 (ty_156 hF) (by decide) (by decide) ?_
      refine Tr.tp 0 ((rd_wb _ rfl).trans ((rd_wb _ rfl).trans ((rd_wb _ rfl).trans ((rd_wb _ rfl).trans ((rd_wb _ rfl).trans ((rd_wb _ rfl).trans ((rd_wb _ rfl).trans ((rd_wb _ rfl).trans ((rd_wb _ rfl).trans ((rd_wb _ rfl).trans ((rd_wb _ rfl).trans ((rd_wb _ rfl).trans ((rd_wb _ rfl).trans ((rd_wb _ rfl).trans ((rd_wb _ rfl).trans ((rd_wb _ rfl).trans ((rd_wb _ rfl).trans ((rd_wb _ rfl).trans ((rd_wb _ rfl).trans ((rd_wb _ rfl).trans ((rd_wb _ rfl).trans ((rd_wb _ rfl).trans ((rd_wb _ rfl).trans ((rd_wb _ rfl).trans ((rd_wb _ rfl).trans ((rd_wb _ rfl).trans ((rd_wb _ rfl).trans ((rd_wb _ rfl).trans ((rd_wb _ rfl).trans ((rd_wb _ rfl).trans ((rd_wb _ rfl).trans ((rd_wb _ rfl).trans ((rd_wb _ rfl).trans ((rd_wb _ rfl).trans ((rd_wb _ rfl).trans ((rd_wb _ rfl).trans ((rd_wb _ rfl).trans ((rd_wb _ rfl).trans ((rd_wb _ rfl).trans ((rd_wb _ rfl).trans ((rd_wb _ rfl).trans ((rd_wb _ rfl).trans ((rd_wb _ rfl).trans ((rd_wb _ rfl).trans ((rd_wb _ rfl).trans ((rd_wb _ rfl).trans ((rd_wb _ rfl).trans ((rd_wb _ rfl).trans ((rd_wb _ rfl).trans ((rd_wb _ rfl).trans ((rd_wb _ rfl).trans ((rd_wb _ rfl).trans ((rd_wb _ rfl).trans ((rd_wb _ rfl).trans ((rd_wb _ rfl).trans ((rd_wb _ rfl).trans ((rd_wb _ rfl).trans ((rd_wb _ rfl).trans ((rd_wb _ rfl).trans ((rd_wb _ rfl).trans ((rd_wb _ rfl).trans ((rd_wb _ rfl).trans ((rd_wb _ rfl).trans ((rd_wb _ rfl).trans ((rd_wb _ rfl).trans ((rd_wb _ rfl).trans ((rd_wb _ rfl).trans ((rd_wb _ rfl).trans ((rd_wb _ rfl).trans ((rd_wb _ rfl).trans ((rd_wb _ rfl).trans ((rd_wb _ rfl).trans ((rd_wb _ rfl).trans ((rd_wb _ rfl).trans ((rd_wb _ rfl).trans ((rd_wb _ rfl).trans ((rd_wb _ rfl).trans ((rd_wb _ rfl).trans ((rd_wb _ rfl).trans ((rd_wb _ rfl).trans ((rd_wb _ rfl).trans ((rd_wb _ rfl).trans ((rd_wb _ rfl).trans ((rd_wb _ rfl).trans ((rd_wb _ rfl).trans ((rd_wb _ rfl).trans ((rd_wb _ rfl).trans ((rd_wb _ rfl).trans ((rd_wb _ rfl).trans ((rd_wb _ rfl).trans ((rd_wb _ rfl).trans ((rd_wb _ rfl).trans ((rd_wb _ rfl).trans ((rd_wb _ rfl).trans ((rd_wb _ rfl).trans ((rd_wb _ rfl).trans ((rd_wb _ rfl).trans ((rd_wb _ rfl).trans ((rd_wb _ rfl).trans ((rd_wb _ rfl).trans ((rd_wb _ rfl).trans ((rd_wb _ rfl).trans ((rd_wb _ rfl).trans ((rd_wb _ rfl).trans ((rd_wb _ rfl).trans ((rd_wb _ rfl).trans (rd_ws _ _ _ _))))))))))))))))))))))))))))))))))))))))))))))))))))))))))))))))))))))))))))))))))))))))))))))))))))))))))) ?_
      refine Tr.if_ne (pc := 190) (tgt := 214) d_X12_run_190 rfl (fun hc => absurd (by decide) hc) (fun _ => ?_)
      refine Tr.aload_n (pc := 193) (i := 0) d_X12_run_193 rfl rfl ?_
      refine Tr.getf (pc := 194) d_X12_run_194 f_12_183 (by decide) (by decide) (ty_120 hF) ?_
      refine Tr.tp 158 (fx_120_56 hF) ?_
      refine Tr.iload_n (pc := 197) (i := 3) d_X12_run_197 rfl rfl ?_
      refine Tr.iald (pc := 198) d_X12_run_198 (ty_158 hF) (by decide) (by decide) ?_
      refine Tr.tp 0 ((rd_wb _ rfl).trans ((rd_wb _ rfl).trans ((rd_wb _ rfl).trans ((rd_wb _ rfl).trans ((rd_wb _ rfl).trans ((rd_wb _ rfl).trans ((rd_wb _ rfl).trans ((rd_wb _ rfl).trans ((rd_wb _ rfl).trans ((rd_wb _ rfl).trans ((rd_wb _ rfl).trans ((rd_wb _ rfl).trans ((rd_wb _ rfl).trans ((rd_wb _ rfl).trans ((rd_wb _ rfl).trans ((rd_wb _ rfl).trans ((rd_wb _ rfl).trans ((rd_wb _ rfl).trans ((rd_wb _ rfl).trans ((rd_wb _ rfl).trans ((rd_wb _ rfl).trans ((rd_wb _ rfl).trans ((rd_wb _ rfl).trans ((rd_wb _ rfl).trans ((rd_wb _ rfl).trans ((rd_wb _ rfl).trans ((rd_wb _ rfl).trans ((rd_wb _ rfl).trans ((rd_wb _ rfl).trans ((rd_wb _ rfl).trans ((rd_wb _ rfl).trans ((rd_wb _ rfl).trans ((rd_wb _ rfl).trans ((rd_wb _ rfl).trans ((rd_wb _ rfl).trans ((rd_wb _ rfl).trans ((rd_wb _ rfl).trans ((rd_wb _ rfl).trans ((rd_wb _ rfl).trans ((rd_wb _ rfl).trans ((rd_wb _ rfl).trans ((rd_wb _ rfl).trans ((rd_wb _ rfl).trans ((rd_wb _ rfl).trans ((rd_wb _ rfl).trans ((rd_wb _ rfl).trans ((rd_wb _ rfl).trans ((rd_wb _ rfl).trans ((rd_wb _ rfl).trans ((rd_wb _ rfl).trans ((rd_wb _ rfl).trans ((rd_wb _ rfl).trans ((rd_wb _ rfl).trans ((rd_wb _ rfl).trans ((rd_wb _ rfl).trans ((rd_wb _ rfl).trans ((rd_wb _ rfl).trans ((rd_wb _ rfl).trans ((rd_wb _ rfl).trans ((rd_wb _ rfl).trans ((rd_wb _ rfl).trans ((rd_wb _ rfl).trans ((rd_wb _ rfl).trans ((rd_wb _ rfl).trans ((rd_wb _ rfl).trans ((rd_wb _ rfl).trans ((rd_wb _ rfl).trans ((rd_wb _ rfl).trans ((rd_wb _ rfl).trans ((rd_wb _ rfl).trans ((rd_wb _ rfl).trans ((rd_wb _ rfl).trans ((rd_wb _ rfl).trans ((rd_wb _ rfl).trans ((rd_wb _ rfl).trans ((rd_wb _ rfl).trans ((rd_wb _ rfl).trans ((rd_wb _ rfl).trans ((rd_wb _ rfl).trans ((rd_wb _ rfl).trans ((rd_wb _ rfl).trans ((rd_wb _ rfl).trans ((rd_wb _ rfl).trans ((rd_wb _ rfl).trans ((rd_wb _ rfl).trans ((rd_wb _ rfl).trans ((rd_wb _ rfl).trans ((rd_wb _ rfl).trans ((rd_wb _ rfl).trans ((rd_wb _ rfl).trans ((rd_wb _ rfl).trans ((rd_wb _ rfl).trans ((rd_wb _ rfl).trans ((rd_wb _ rfl).trans ((rd_wb _ rfl).trans ((rd_wb _ rfl).trans ((rd_wb _ rfl).trans ((rd_wb _ rfl).trans ((rd_wb _ rfl).trans ((rd_wb _ rfl).trans ((rd_wb _ rfl).trans ((rd_wb _ rfl).trans ((rd_wb _ rfl).trans ((rd_wb _ rfl).trans (rd_ws _ _ _ _))))))))))))))))))))))))))))))))))))))))))))))))))))))))))))))))))))))))))))))))))))))))))))))))))))))))) ?_
      refine Tr.if_ne (pc := 199) (tgt := 214) d_X12_run_199 rfl (fun hc => absurd (by decide) hc) (fun _ => ?_)
      refine Tr.iload_n (pc := 202) (i := 3) d_X12_run_202 rfl rfl ?_
      refine Tr.aload_n (pc := 203) (i := 0) d_X12_run_203 rfl rfl ?_
      refine Tr.getf (pc := 204) d_X12_run_204 f_12_195 (by decide) (by decide) (ty_120 hF) ?_
      refine Tr.tp (-1) ((rd_wb _ rfl).trans ((rd_wb _ rfl).trans ((rd_wb _ rfl).trans ((rd_wb _ rfl).trans ((rd_wb _ rfl).trans ((rd_wb _ rfl).trans ((rd_wb _ rfl).trans ((rd_wb _ rfl).trans ((rd_wb _ rfl).trans ((rd_wb _ rfl).trans ((rd_wb _ rfl).trans ((rd_wb _ rfl).trans ((rd_wb _ rfl).trans ((rd_wb _ rfl).trans ((rd_wb _ rfl).trans ((rd_wb _ rfl).trans ((rd_wb _ rfl).trans ((rd_wb _ rfl).trans ((rd_wb _ rfl).trans ((rd_wb _ rfl).trans ((rd_wb _ rfl).trans ((rd_wb _ rfl).trans ((rd_wb _ rfl).trans ((rd_wb _ rfl).trans ((rd_wb _ rfl).trans ((rd_wb _ rfl).trans ((rd_wb _ rfl).trans ((rd_wb _ rfl).trans ((rd_wb _ rfl).trans ((rd_wb _ rfl).trans ((rd_wb _ rfl).trans ((rd_wb _ rfl).trans ((rd_wb _ rfl).trans ((rd_wb _ rfl).trans ((rd_wb _ rfl).trans ((rd_wb _ rfl).trans ((rd_wb _ rfl).trans ((rd_wb _ rfl).trans ((rd_wb _ rfl).trans ((rd_wb _ rfl).trans ((rd_wb _ rfl).trans ((rd_wb _ rfl).trans (rd_ws _ _ _ _))))))))))))))))))))))))))))))))))))))))))) ?_
      refine Tr.icmp_eq (pc := 207) (tgt := 214) d_X12_run_207 rfl (fun hc => absurd hc (by decide)) (fun _ => ?_)
      refine Tr.iconst (pc := 210) d_X12_run_210 (by decide) ?_
      refine Tr.goto (pc := 211) (tgt := 215) d_X12_run_211 rfl ?_
      refine Tr.zastX (pc := 215) d_X12_run_215 (ty_175 hF) (by decide) (by decide) (by decide) hF (by decide +kernel) (fun hF => ?_)
      refine Tr.iinc (pc := 216) (ls2 := [(3, (0, 1)), (2, (0, 0)), (0, (2, 120)), (1, (0, _))]) d_X12_run_216 rfl (by decide) rfl ?_
      refine Tr.goto (pc := 219) (tgt := 173) d_X12_run_219 rfl ?_
      refine Tr.iload_n (pc := 173) (i := 3) d_X12_run_173 rfl rfl ?_
      refine Tr.bipush (pc := 174) d_X12_run_174 rfl (by decide) ?_
      refine Tr.icmp_ge (pc := 176) (tgt := 222) d_X12_run_176 rfl (fun hc => absurd hc (by decide)) (fun _ => ?_)
      refine Tr.aload_n (pc := 179) (i := 0) d_X12_run_179 rfl rfl ?_
      refine Tr.getf (pc := 180) d_X12_run_180 f_12_297 (by decide) (by decide) (ty_120 hF) ?_
      refine Tr.tp 175 (fx_120_94 hF) ?_
      refine Tr.iload_n (pc := 183) (i := 3) d_X12_run_183 rfl rfl ?_
      refine Tr.aload_n (pc := 184) (i := 0) d_X12_run_184 rfl rfl ?_
      refine Tr.getf (pc := 185) d_X12_run_185 f_12_177 (by decide) (by decide) (ty_120 hF) ?_
      refine Tr.tp 156 (fx_120_54 hF) ?_
      refine Tr.iload_n (pc := 188) (i := 3) d_X12_run_188 rfl rfl ?_
      refine Tr.zald (pc := 189) d_X12_run_189 (ty_156 hF) (by decide) (by decide) ?_
      refine Tr.tp 0 ((rd_wb _ rfl).trans ((rd_wb _ rfl).trans ((rd_wb _ rfl).trans ((rd_wb _ rfl).trans ((rd_wb _ rfl).trans ((rd_wb _ rfl).trans ((rd_wb _ rfl).trans ((rd_wb _ rfl).trans ((rd_wb _ rfl).trans ((rd_wb _ rfl).trans ((rd_wb _ rfl).trans ((rd_wb _ rfl).trans ((rd_wb _ rfl).trans ((rd_wb _ rfl).trans ((rd_wb _ rfl).trans ((rd_wb _ rfl).trans ((rd_wb _ rfl).trans ((rd_wb _ rfl).trans ((rd_wb _ rfl).trans ((rd_wb _ rfl).trans ((rd_wb _ rfl).trans ((rd_wb _ rfl).trans ((rd_wb _ rfl).trans ((rd_wb _ rfl).trans ((rd_wb _ rfl).trans ((rd_wb _ rfl).trans ((rd_wb _ rfl).trans ((rd_wb _ rfl).trans ((rd_wb _ rfl).trans ((rd_wb _ rfl).trans ((rd_wb _ rfl).trans ((rd_wb _ rfl).trans ((rd_wb _ rfl).trans ((rd_wb _ rfl).trans ((rd_wb _ rfl).trans ((rd_wb _ rfl).trans ((rd_wb _ rfl).trans ((rd_wb _ rfl).trans ((rd_wb _ rfl).trans ((rd_wb _ rfl).trans ((rd_wb _ rfl).trans ((rd_wb _ rfl).trans ((rd_wb _ rfl).trans ((rd_wb _ rfl).trans ((rd_wb _ rfl).trans ((rd_wb _ rfl).trans ((rd_wb _ rfl).trans ((rd_wb _ rfl).trans ((rd_wb _ rfl).trans ((rd_wb _ rfl).trans ((rd_wb _ rfl).trans ((rd_wb _ rfl).trans ((rd_wb _ rfl).trans ((rd_wb _ rfl).trans ((rd_wb _ rfl).trans ((rd_wb _ rfl).trans ((rd_wb _ rfl).trans ((rd_wb _ rfl).trans ((rd_wb _ rfl).trans ((rd_wb _ rfl).trans ((rd_wb _ rfl).trans ((rd_wb _ rfl).trans ((rd_wb _ rfl).trans ((rd_wb _ rfl).trans ((rd_wb _ rfl).trans ((rd_wb _ rfl).trans ((rd_wb _ rfl).trans ((rd_wb _ rfl).trans ((rd_wb _ rfl).trans ((rd_wb _ rfl).trans ((rd_wb _ rfl).trans ((rd_wb _ rfl).trans ((rd_wb _ rfl).trans ((rd_wb _ rfl).trans ((rd_wb _ rfl).trans ((rd_wb _ rfl).trans ((rd_wb _ rfl).trans ((rd_wb _ rfl).trans ((rd_wb _ rfl).trans ((rd_wb _ rfl).trans ((rd_wb _ rfl).trans ((rd_wb _ rfl).trans ((rd_wb _ rfl).trans ((rd_wb _ rfl).trans ((rd_wb _ rfl).trans ((rd_wb _ rfl).trans ((rd_wb _ rfl).trans ((rd_wb _ rfl).trans ((rd_wb _ rfl).trans ((rd_wb _ rfl).trans ((rd_wb _ rfl).trans ((rd_wb _ rfl).trans ((rd_wb _ rfl).trans ((rd_wb _ rfl).trans ((rd_wb _ rfl).trans ((rd_wb _ rfl).trans ((rd_wb _ rfl).trans ((rd_wb _ rfl).trans ((rd_wb _ rfl).trans ((rd_wb _ rfl).trans ((rd_wb _ rfl).trans ((rd_wb _ rfl).trans ((rd_wb _ rfl).trans (rd_ws _ _ _ _)))))))))))))))))))))))))))))))))))))))))))))))))))))))))))))))))))))))))))))))))))))))))))))))))))))))) ?_
      refine Tr.if_ne (pc := 190) (tgt := 214) d_X12_run_190 rfl (fun hc => absurd (by decide) hc) (fun _ => ?_)
      refine Tr.aload_n (pc := 193) (i := 0) d_X12_run_193 rfl rfl ?_
      refine Tr.getf (pc := 194) d_X12_run_194 f_12_183 (by decide) (by decide) (ty_120 hF) ?_
      refine Tr.tp 158 (fx_120_56 hF) ?_
      refine Tr.iload_n (pc := 197) (i := 3) d_X12_run_197 rfl rfl ?_
      refine Tr.iald (pc := 198) d_X12_run_198 (ty_158 hF) (by decide) (by decide) ?_
      refine Tr.tp 0 ((rd_wb _ rfl).trans ((rd_wb _ rfl).trans ((rd_wb _ rfl).trans ((rd_wb _ rfl).trans ((rd_wb _ rfl).trans ((rd_wb _ rfl).trans ((rd_wb _ rfl).trans ((rd_wb _ rfl).trans ((rd_wb _ rfl).trans ((rd_wb _ rfl).trans ((rd_wb _ rfl).trans ((rd_wb _ rfl).trans ((rd_wb _ rfl).trans ((rd_wb _ rfl).trans ((rd_wb _ rfl).trans ((rd_wb _ rfl).trans ((rd_wb _ rfl).trans ((rd_wb _ rfl).trans ((rd_wb _ rfl).trans ((rd_wb _ rfl).trans ((rd_wb _ rfl).trans ((rd_wb _ rfl).trans ((rd_wb _ rfl).trans ((rd_wb _ rfl).trans ((rd_wb _ rfl).trans ((rd_wb _ rfl).trans ((rd_wb _ rfl).trans ((rd_wb _ rfl).trans ((rd_wb _ rfl).trans ((rd_wb _ rfl).trans ((rd_wb _ rfl).trans ((rd_wb _ rfl).trans ((rd_wb _ rfl).trans ((rd_wb _ rfl).trans ((rd_wb _ rfl).trans ((rd_wb _ rfl).trans ((rd_wb _ rfl).trans ((rd_wb _ rfl).trans ((rd_wb _ rfl).trans ((rd_wb _ rfl).trans ((rd_wb _ rfl).trans ((rd_wb _ rfl).trans ((rd_wb _ rfl).trans ((rd_wb _ rfl).trans ((rd_wb _ rfl).trans ((rd_wb _ rfl).trans ((rd_wb _ rfl).trans ((rd_wb _ rfl).trans ((rd_wb _ rfl).trans ((rd_wb _ rfl).trans ((rd_wb _ rfl).trans ((rd_wb _ rfl).trans ((rd_wb _ rfl).trans ((rd_wb _ rfl).trans ((rd_wb _ rfl).trans ((rd_wb _ rfl).trans ((rd_wb _ rfl).trans ((rd_wb _ rfl).trans ((rd_wb _ rfl).trans ((rd_wb _ rfl).trans ((rd_wb _ rfl).trans ((rd_wb _ rfl).trans ((rd_wb _ rfl).trans ((rd_wb _ rfl).trans ((rd_wb _ rfl).trans ((rd_wb _ rfl).trans ((rd_wb _ rfl).trans ((rd_wb _ rfl).trans ((rd_wb _ rfl).trans ((rd_wb _ rfl).trans ((rd_wb _ rfl).trans ((rd_wb _ rfl).trans ((rd_wb _ rfl).trans ((rd_wb _ rfl).trans ((rd_wb _ rfl).trans ((rd_wb _ rfl).trans ((rd_wb _ rfl).trans ((rd_wb _ rfl).trans ((rd_wb _ rfl).trans ((rd_wb _ rfl).trans ((rd_wb _ rfl).trans ((rd_wb _ rfl).trans ((rd_wb _ rfl).trans ((rd_wb _ rfl).trans ((rd_wb _ rfl).trans ((rd_wb _ rfl).trans ((rd_wb _ rfl).trans ((rd_wb _ rfl).trans ((rd_wb _ rfl).trans ((rd_wb _ rfl).trans ((rd_wb _ rfl).trans ((rd_wb _ rfl).trans ((rd_wb _ rfl).trans ((rd_wb _ rfl).trans ((rd_wb _ rfl).trans ((rd_wb _ rfl).trans ((rd_wb _ rfl).trans ((rd_wb _ rfl).trans ((rd_wb _ rfl).trans ((rd_wb _ rfl).trans ((rd_wb _ rfl).trans (rd_ws _ _ _ _)))))))))))))))))))))))))))))))))))))))))))))))))))))))))))))))))))))))))))))))))))))))))))))))))))))) ?_
      refine Tr.if_ne (pc := 199) (tgt := 214) d_X12_run_199 rfl (fun hc => absurd (by decide) hc) (fun _ => ?_)
      refine Tr.iload_n (pc := 202) (i := 3) d_X12_run_202 rfl rfl ?_
      refine Tr.aload_n (pc := 203) (i := 0) d_X12_run_203 rfl rfl ?_
      refine Tr.getf (pc := 204) d_X12_run_204 f_12_195 (by decide) (by decide) (ty_120 hF) ?_
      refine Tr.tp (-1) ((rd_wb _ rfl).trans ((rd_wb _ rfl).trans ((rd_wb _ rfl).trans ((rd_wb _ rfl).trans ((rd_wb _ rfl).trans ((rd_wb _ rfl).trans ((rd_wb _ rfl).trans ((rd_wb _ rfl).trans ((rd_wb _ rfl).trans ((rd_wb _ rfl).trans ((rd_wb _ rfl).trans ((rd_wb _ rfl).trans ((rd_wb _ rfl).trans ((rd_wb _ rfl).trans ((rd_wb _ rfl).trans ((rd_wb _ rfl).trans ((rd_wb _ rfl).trans ((rd_wb _ rfl).trans ((rd_wb _ rfl).trans ((rd_wb _ rfl).trans ((rd_wb _ rfl).trans ((rd_wb _ rfl).trans ((rd_wb _ rfl).trans ((rd_wb _ rfl).trans ((rd_wb _ rfl).trans ((rd_wb _ rfl).trans ((rd_wb _ rfl).trans ((rd_wb _ rfl).trans ((rd_wb _ rfl).trans ((rd_wb _ rfl).trans ((rd_wb _ rfl).trans ((rd_wb _ rfl).trans ((rd_wb _ rfl).trans ((rd_wb _ rfl).trans ((rd_wb _ rfl).trans ((rd_wb _ rfl).trans ((rd_wb _ rfl).trans ((rd_wb _ rfl).trans ((rd_wb _ rfl).trans ((rd_wb _ rfl).trans ((rd_wb _ rfl).trans ((rd_wb _ rfl).trans ((rd_wb _ rfl).trans (rd_ws _ _ _ _)))))))))))))))))))))))))))))))))))))))))))) ?_
      refine Tr.icmp_eq (pc := 207) (tgt := 214) d_X12_run_207 rfl (fun hc => absurd hc (by decide)) (fun _ => ?_)
      refine Tr.iconst (pc := 210) d_X12_run_210 (by decide) ?_
      refine Tr.goto (pc := 211) (tgt := 215) d_X12_run_211 rfl ?_
      refine Tr.zastX (pc := 215) d_X12_run_215 (ty_175 hF) (by decide) (by decide) (by decide) hF (by decide +kernel) (fun hF => ?_)
      refine Tr.iinc (pc := 216) (ls2 := [(3, (0, 2)), (2, (0, 0)), (0, (2, 120)), (1, (0, _))]) d_X12_run_216 rfl (by decide) rfl ?_
      refine Tr.goto (pc := 219) (tgt := 173) d_X12_run_219 rfl ?_
      refine Tr.iload_n (pc := 173) (i := 3) d_X12_run_173 rfl rfl ?_
      refine Tr.bipush (pc := 174) d_X12_run_174 rfl (by decide) ?_
      refine Tr.icmp_ge (pc := 176) (tgt := 222) d_X12_run_176 rfl (fun hc => absurd hc (by decide)) (fun _ => ?_)
      refine Tr.aload_n (pc := 179) (i := 0) d_X12_run_179 rfl rfl ?_
      refine Tr.getf (pc := 180) d_X12_run_180 f_12_297 (by decide) (by decide) (ty_120 hF) ?_
      refine Tr.tp 175 (fx_120_94 hF) ?_
      refine Tr.iload_n (pc := 183) (i := 3) d_X12_run_183 rfl rfl ?_
      refine Tr.aload_n (pc := 184) (i := 0) d_X12_run_184 rfl rfl ?_
      refine Tr.getf (pc := 185) d_X12_run_185 f_12_177 (by decide) (by decide) (ty_120 hF) ?_
      refine Tr.tp 156 (fx_120_54 hF) ?_
      refine Tr.iload_n (pc := 188) (i := 3) d_X12_run_188 rfl rfl ?_
      refine Tr.zald (pc := 189) d_X12_run_189 (ty_156 hF) (by decide) (by decide) ?_
      refine Tr.tp 0 ((rd_wb _ rfl).trans ((rd_wb _ rfl).trans ((rd_wb _ rfl).trans ((rd_wb _ rfl).trans ((rd_wb _ rfl).trans ((rd_wb _ rfl).trans ((rd_wb _ rfl).trans ((rd_wb _ rfl).trans ((rd_wb _ rfl).trans ((rd_wb _ rfl).trans ((rd_wb _ rfl).trans ((rd_wb _ rfl).trans ((rd_wb _ rfl).trans ((rd_wb _ rfl).trans ((rd_wb _ rfl).trans ((rd_wb _ rfl).trans ((rd_wb _ rfl).trans ((rd_wb _ rfl).trans ((rd_wb _ rfl).trans ((rd_wb _ rfl).trans ((rd_wb _ rfl).trans ((rd_wb _ rfl).trans ((rd_wb _ rfl).trans ((rd_wb _ rfl).trans ((rd_wb _ rfl).trans ((rd_wb _ rfl).trans ((rd_wb _ rfl).trans ((rd_wb _ rfl).trans ((rd_wb _ rfl).trans ((rd_wb _ rfl).trans ((rd_wb _ rfl).trans ((rd_wb _ rfl).trans ((rd_wb _ rfl).trans ((rd_wb _ rfl).trans ((rd_wb _ rfl).trans ((rd_wb _ rfl).trans ((rd_wb _ rfl).trans ((rd_wb _ rfl).trans ((rd_wb _ rfl).trans ((rd_wb _ rfl).trans ((rd_wb _ rfl).trans ((rd_wb _ rfl).trans ((rd_wb _ rfl).trans ((rd_wb _ rfl).trans ((rd_wb _ rfl).trans ((rd_wb _ rfl).trans ((rd_wb _ rfl).trans ((rd_wb _ rfl).trans ((rd_wb _ rfl).trans ((rd_wb _ rfl).trans ((rd_wb _ rfl).trans ((rd_wb _ rfl).trans ((rd_wb _ rfl).trans ((rd_wb _ rfl).trans ((rd_wb _ rfl).trans ((rd_wb _ rfl).trans ((rd_wb _ rfl).trans ((rd_wb _ rfl).trans ((rd_wb _ rfl).trans ((rd_wb _ rfl).trans ((rd_wb _ rfl).trans ((rd_wb _ rfl).trans ((rd_wb _ rfl).trans ((rd_wb _ rfl).trans ((rd_wb _ rfl).trans ((rd_wb _ rfl).trans ((rd_wb _ rfl).trans ((rd_wb _ rfl).trans ((rd_wb _ rfl).trans ((rd_wb _ rfl).trans ((rd_wb _ rfl).trans ((rd_wb _ rfl).trans ((rd_wb _ rfl).trans ((rd_wb _ rfl).trans ((rd_wb _ rfl).trans ((rd_wb _ rfl).trans ((rd_wb _ rfl).trans ((rd_wb _ rfl).trans ((rd_wb _ rfl).trans ((rd_wb _ rfl).trans ((rd_wb _ rfl).trans ((rd_wb _ rfl).trans ((rd_wb _ rfl).trans ((rd_wb _ rfl).trans ((rd_wb _ rfl).trans ((rd_wb _ rfl).trans ((rd_wb _ rfl).trans ((rd_wb _ rfl).trans ((rd_wb _ rfl).trans ((rd_wb _ rfl).trans ((rd_wb _ rfl).trans ((rd_wb _ rfl).trans ((rd_wb _ rfl).trans ((rd_wb _ rfl).trans ((rd_wb _ rfl).trans ((rd_wb _ rfl).trans ((rd_wb _ rfl).trans ((rd_wb _ rfl).trans ((rd_wb _ rfl).trans ((rd_wb _ rfl).trans (rd_ws _ _ _ _))))))))))))))))))))))))))))))))))))))))))))))))))))))))))))))))))))))))))))))))))))))))))))))))))))) ?_
      refine Tr.if_ne (pc := 190) (tgt := 214) d_X12_run_190 rfl (fun hc => absurd (by decide) hc) (fun _ => ?_)
      refine Tr.aload_n (pc := 193) (i := 0) d_X12_run_193 rfl rfl ?_
      refine Tr.getf (pc := 194) d_X12_run_194 f_12_183 (by decide) (by decide) (ty_120 hF) ?_
      refine Tr.tp 158 (fx_120_56 hF) ?_
      refine Tr.iload_n (pc := 197) (i := 3) d_X12_run_197 rfl rfl ?_
      refine Tr.iald (pc := 198) d_X12_run_198 (ty_158 hF) (by decide) (by decide) ?_
      refine Tr.tp 0 ((rd_wb _ rfl).trans ((rd_wb _ rfl).trans ((rd_wb _ rfl).trans ((rd_wb _ rfl).trans ((rd_wb _ rfl).trans ((rd_wb _ rfl).trans ((rd_wb _ rfl).trans ((rd_wb _ rfl).trans ((rd_wb _ rfl).trans ((rd_wb _ rfl).trans ((rd_wb _ rfl).trans ((rd_wb _ rfl).trans ((rd_wb _ rfl).trans ((rd_wb _ rfl).trans ((rd_wb _ rfl).trans ((rd_wb _ rfl).trans ((rd_wb _ rfl).trans ((rd_wb _ rfl).trans ((rd_wb _ rfl).trans ((rd_wb _ rfl).trans ((rd_wb _ rfl).trans ((rd_wb _ rfl).trans ((rd_wb _ rfl).trans ((rd_wb _ rfl).trans ((rd_wb _ rfl).trans ((rd_wb _ rfl).trans ((rd_wb _ rfl).trans ((rd_wb _ rfl).trans ((rd_wb _ rfl).trans ((rd_wb _ rfl).trans ((rd_wb _ rfl).trans ((rd_wb _ rfl).trans ((rd_wb _ rfl).trans ((rd_wb _ rfl).trans ((rd_wb _ rfl).trans ((rd_wb _ rfl).trans ((rd_wb _ rfl).trans ((rd_wb _ rfl).trans ((rd_wb _ rfl).trans ((rd_wb _ rfl).trans ((rd_wb _ rfl).trans ((rd_wb _ rfl).trans ((rd_wb _ rfl).trans ((rd_wb _ rfl).trans ((rd_wb _ rfl).trans ((rd_wb _ rfl).trans ((rd_wb _ rfl).trans ((rd_wb _ rfl).trans ((rd_wb _ rfl).trans ((rd_wb _ rfl).trans ((rd_wb _ rfl).trans ((rd_wb _ rfl).trans ((rd_wb _ rfl).trans ((rd_wb _ rfl).trans ((rd_wb _ rfl).trans ((rd_wb _ rfl).trans ((rd_wb _ rfl).trans ((rd_wb _ rfl).trans ((rd_wb _ rfl).trans ((rd_wb _ rfl).trans ((rd_wb _ rfl).trans ((rd_wb _ rfl).trans ((rd_wb _ rfl).trans ((rd_wb _ rfl).trans ((rd_wb _ rfl).trans ((rd_wb _ rfl).trans ((rd_wb _ rfl).trans ((rd_wb _ rfl).trans ((rd_wb _ rfl).trans ((rd_wb _ rfl).trans ((rd_wb _ rfl).trans ((rd_wb _ rfl).trans ((rd_wb _ rfl).trans ((rd_wb _ rfl).trans ((rd_wb _ rfl).trans ((rd_wb _ rfl).trans ((rd_wb _ rfl).trans ((rd_wb _ rfl).trans ((rd_wb _ rfl).trans ((rd_wb _ rfl).trans ((rd_wb _ rfl).trans ((rd_wb _ rfl).trans ((rd_wb _ rfl).trans ((rd_wb _ rfl).trans ((rd_wb _ rfl).trans ((rd_wb _ rfl).trans ((rd_wb _ rfl).trans ((rd_wb _ rfl).trans ((rd_wb _ rfl).trans ((rd_wb _ rfl).trans ((rd_wb _ rfl).trans ((rd_wb _ rfl).trans ((rd_wb _ rfl).trans ((rd_wb _ rfl).trans ((rd_wb _ rfl).trans ((rd_wb _ rfl).trans ((rd_wb _ rfl).trans ((rd_wb _ rfl).trans (rd_ws _ _ _ _))))))))))))))))))))))))))))))))))))))))))))))))))))))))))))))))))))))))))))))))))))))))))))))))))) ?_
      refine Tr.if_ne (pc := 199) (tgt := 214) d_X12_run_199 rfl (fun hc => absurd (by decide) hc) (fun _ => ?_)
      refine Tr.iload_n (pc := 202) (i := 3) d_X12_run_202 rfl rfl ?_
      refine Tr.aload_n (pc := 203) (i := 0) d_X12_run_203 rfl rfl ?_
      refine Tr.getf (pc := 204) d_X12_run_204 f_12_195 (by decide) (by decide) (ty_120 hF) ?_
      refine Tr.tp (-1) ((rd_wb _ rfl).trans ((rd_wb _ rfl).trans ((rd_wb _ rfl).trans ((rd_wb _ rfl).trans ((rd_wb _ rfl).trans ((rd_wb _ rfl).trans ((rd_wb _ rfl).trans ((rd_wb _ rfl).trans ((rd_wb _ rfl).trans ((rd_wb _ rfl).trans ((rd_wb _ rfl).trans ((rd_wb _ rfl).trans ((rd_wb _ rfl).trans ((rd_wb _ rfl).trans ((rd_wb _ rfl).trans ((rd_wb _ rfl).trans ((rd_wb _ rfl).trans ((rd_wb _ rfl).trans ((rd_wb _ rfl).trans ((rd_wb _ rfl).trans ((rd_wb _ rfl).trans ((rd_wb _ rfl).trans ((rd_wb _ rfl).trans ((rd_wb _ rfl).trans ((rd_wb _ rfl).trans ((rd_wb _ rfl).trans ((rd_wb _ rfl).trans ((rd_wb _ rfl).trans ((rd_wb _ rfl).trans ((rd_wb _ rfl).trans ((rd_wb _ rfl).trans ((rd_wb _ rfl).trans ((rd_wb _ rfl).trans ((rd_wb _ rfl).trans ((rd_wb _ rfl).trans ((rd_wb _ rfl).trans ((rd_wb _ rfl).trans ((rd_wb _ rfl).trans ((rd_wb _ rfl).trans ((rd_wb _ rfl).trans ((rd_wb _ rfl).trans ((rd_wb _ rfl).trans ((rd_wb _ rfl).trans ((rd_wb _ rfl).trans (rd_ws _ _ _ _))))))))))))))))))))))))))))))))))))))))))))) ?_
      refine Tr.icmp_eq (pc := 207) (tgt := 214) d_X12_run_207 rfl (fun hc => absurd hc (by decide)) (fun _ => ?_)
      refine Tr.iconst (pc := 210) d_X12_run_210 (by decide) ?_
      refine Tr.goto (pc := 211) (tgt := 215) d_X12_run_211 rfl ?_
      refine Tr.zastX (pc := 215) d_X12_run_215 (ty_175 hF) (by decide) (by decide) (by decide) hF (by decide +kernel) (fun hF => ?_)
      refine Tr.iinc (pc := 216) (ls2 := [(3, (0, 3)), (2, (0, 0)), (0, (2, 120)), (1, (0, _))]) d_X12_run_216 rfl (by decide) rfl ?_
      refine Tr.goto (pc := 219) (tgt := 173) d_X12_run_219 rfl ?_
      refine Tr.iload_n (pc := 173) (i := 3) d_X12_run_173 rfl rfl ?_
      refine Tr.bipush (pc := 174) d_X12_run_174 rfl (by decide) ?_
      refine Tr.icmp_ge (pc := 176) (tgt := 222) d_X12_run_176 rfl (fun hc => absurd hc (by decide)) (fun _ => ?_)
      refine Tr.aload_n (pc := 179) (i := 0) d_X12_run_179 rfl rfl ?_
      refine Tr.getf (pc := 180) d_X12_run_180 f_12_297 (by decide) (by decide) (ty_120 hF) ?_
      refine Tr.tp 175 (fx_120_94 hF) ?_
      refine Tr.iload_n (pc := 183) (i := 3) d_X12_run_183 rfl rfl ?_
      refine Tr.aload_n (pc := 184) (i := 0) d_X12_run_184 rfl rfl ?_
      refine Tr.getf (pc := 185) d_X12_run_185 f_12_177 (by decide) (by decide) (ty_120 hF) ?_
      refine Tr.tp 156 (fx_120_54 hF) ?_
      refine Tr.iload_n (pc := 188) (i := 3) d_X12_run_188 rfl rfl ?_
      refine Tr.zald (pc := 189) d_X12_run_189 (ty_156 hF) (by decide) (by decide) ?_
      refine Tr.tp 0 ((rd_wb _ rfl).trans ((rd_wb _ rfl).trans ((rd_wb _ rfl).trans ((rd_wb _ rfl).trans ((rd_wb _ rfl).trans ((rd_wb _ rfl).trans ((rd_wb _ rfl).trans ((rd_wb _ rfl).trans ((rd_wb _ rfl).trans ((rd_wb _ rfl).trans ((rd_wb _ rfl).trans ((rd_wb _ rfl).trans ((rd_wb _ rfl).trans ((rd_wb _ rfl).trans ((rd_wb _ rfl).trans ((rd_wb _ rfl).trans ((rd_wb _ rfl).trans ((rd_wb _ rfl).trans ((rd_wb _ rfl).trans ((rd_wb _ rfl).trans ((rd_wb _ rfl).trans ((rd_wb _ rfl).trans ((rd_wb _ rfl).trans ((rd_wb _ rfl).trans ((rd_wb _ rfl).trans ((rd_wb _ rfl).trans ((rd_wb _ rfl).trans ((rd_wb _ rfl).trans ((rd_wb _ rfl).trans ((rd_wb _ rfl).trans ((rd_wb _ rfl).trans ((rd_wb _ rfl).trans ((rd_wb _ rfl).trans ((rd_wb _ rfl).trans ((rd_wb _ rfl).trans ((rd_wb _ rfl).trans ((rd_wb _ rfl).trans ((rd_wb _ rfl).trans ((rd_wb _ rfl).trans ((rd_wb _ rfl).trans ((rd_wb _ rfl).trans ((rd_wb _ rfl).trans ((rd_wb _ rfl).trans ((rd_wb _ rfl).trans ((rd_wb _ rfl).trans ((rd_wb _ rfl).trans ((rd_wb _ rfl).trans ((rd_wb _ rfl).trans ((rd_wb _ rfl).trans ((rd_wb _ rfl).trans ((rd_wb _ rfl).trans ((rd_wb _ rfl).trans ((rd_wb _ rfl).trans ((rd_wb _ rfl).trans ((rd_wb _ rfl).trans ((rd_wb _ rfl).trans ((rd_wb _ rfl).trans ((rd_wb _ rfl).trans ((rd_wb _ rfl).trans ((rd_wb _ rfl).trans ((rd_wb _ rfl).trans ((rd_wb _ rfl).trans ((rd_wb _ rfl).trans ((rd_wb _ rfl).trans ((rd_wb _ rfl).trans ((rd_wb _ rfl).trans ((rd_wb _ rfl).trans ((rd_wb _ rfl).trans ((rd_wb _ rfl).trans ((rd_wb _ rfl).trans ((rd_wb _ rfl).trans ((rd_wb _ rfl).trans ((rd_wb _ rfl).trans ((rd_wb _ rfl).trans ((rd_wb _ rfl).trans ((rd_wb _ rfl).trans ((rd_wb _ rfl).trans ((rd_wb _ rfl).trans ((rd_wb _ rfl).trans ((rd_wb _ rfl).trans ((rd_wb _ rfl).trans ((rd_wb _ rfl).trans ((rd_wb _ rfl).trans ((rd_wb _ rfl).trans ((rd_wb _ rfl).trans ((rd_wb _ rfl).trans ((rd_wb _ rfl).trans ((rd_wb _ rfl).trans ((rd_wb _ rfl).trans ((rd_wb _ rfl).trans ((rd_wb _ rfl).trans ((rd_wb _ rfl).trans ((rd_wb _ rfl).trans ((rd_wb _ rfl).trans ((rd_wb _ rfl).trans ((rd_wb _ rfl).trans ((rd_wb _ rfl).trans (rd_ws _ _ _ _)))))))))))))))))))))))))))))))))))))))))))))))))))))))))))))))))))))))))))))))))))))))))))))))))) ?_
      refine Tr.if_ne (pc := 190) (tgt := 214) d_X12_run_190 rfl (fun hc => absurd (by decide) hc) (fun _ => ?_)
      refine Tr.aload_n (pc := 193) (i := 0) d_X12_run_193 rfl rfl ?_
      refine Tr.getf (pc := 194) d_X12_run_194 f_12_183 (by decide) (by decide) (ty_120 hF) ?_
      refine Tr.tp 158 (fx_120_56 hF) ?_
      refine Tr.iload_n (pc := 197) (i := 3) d_X12_run_197 rfl rfl ?_
      refine Tr.iald (pc := 198) d_X12_run_198 (ty_158 hF) (by decide) (by decide) ?_
      refine Tr.tp 0 ((rd_wb _ rfl).trans ((rd_wb _ rfl).trans ((rd_wb _ rfl).trans ((rd_wb _ rfl).trans ((rd_wb _ rfl).trans ((rd_wb _ rfl).trans ((rd_wb _ rfl).trans ((rd_wb _ rfl).trans ((rd_wb _ rfl).trans ((rd_wb _ rfl).trans ((rd_wb _ rfl).trans ((rd_wb _ rfl).trans ((rd_wb _ rfl).trans ((rd_wb _ rfl).trans ((rd_wb _ rfl).trans ((rd_wb _ rfl).trans ((rd_wb _ rfl).trans ((rd_wb _ rfl).trans ((rd_wb _ rfl).trans ((rd_wb _ rfl).trans ((rd_wb _ rfl).trans ((rd_wb _ rfl).trans ((rd_wb _ rfl).trans ((rd_wb _ rfl).trans ((rd_wb _ rfl).trans ((rd_wb _ rfl).trans ((rd_wb _ rfl).trans ((rd_wb _ rfl).trans ((rd_wb _ rfl).trans ((rd_wb _ rfl).trans ((rd_wb _ rfl).trans ((rd_wb _ rfl).trans ((rd_wb _ rfl).trans ((rd_wb _ rfl).trans ((rd_wb _ rfl).trans ((rd_wb _ rfl).trans ((rd_wb _ rfl).trans ((rd_wb _ rfl).trans ((rd_wb _ rfl).trans ((rd_wb _ rfl).trans ((rd_wb _ rfl).trans ((rd_wb _ rfl).trans ((rd_wb _ rfl).trans ((rd_wb _ rfl).trans ((rd_wb _ rfl).trans ((rd_wb _ rfl).trans ((rd_wb _ rfl).trans ((rd_wb _ rfl).trans ((rd_wb _ rfl).trans ((rd_wb _ rfl).trans ((rd_wb _ rfl).trans ((rd_wb _ rfl).trans ((rd_wb _ rfl).trans ((rd_wb _ rfl).trans ((rd_wb _ rfl).trans ((rd_wb _ rfl).trans ((rd_wb _ rfl).trans ((rd_wb _ rfl).trans ((rd_wb _ rfl).trans ((rd_wb _ rfl).trans ((rd_wb _ rfl).trans ((rd_wb _ rfl).trans ((rd_wb _ rfl).trans ((rd_wb _ rfl).trans ((rd_wb _ rfl).trans ((rd_wb _ rfl).trans ((rd_wb _ rfl).trans ((rd_wb _ rfl).trans ((rd_wb _ rfl).trans ((rd_wb _ rfl).trans ((rd_wb _ rfl).trans ((rd_wb _ rfl).trans ((rd_wb _ rfl).trans ((rd_wb _ rfl).trans ((rd_wb _ rfl).trans ((rd_wb _ rfl).trans ((rd_wb _ rfl).trans ((rd_wb _ rfl).trans ((rd_wb _ rfl).trans ((rd_wb _ rfl).trans ((rd_wb _ rfl).trans ((rd_wb _ rfl).trans ((rd_wb _ rfl).trans ((rd_wb _ rfl).trans ((rd_wb _ rfl).trans ((rd_wb _ rfl).trans ((rd_wb _ rfl).trans ((rd_wb _ rfl).trans ((rd_wb _ rfl).trans ((rd_wb _ rfl).trans ((rd_wb _ rfl).trans ((rd_wb _ rfl).trans ((rd_wb _ rfl).trans ((rd_wb _ rfl).trans ((rd_wb _ rfl).trans (rd_ws _ _ _ _)))))))))))))))))))))))))))))))))))))))))))))))))))))))))))))))))))))))))))))))))))))))))))))))) ?_
      refine Tr.if_ne (pc := 199) (tgt := 214) d_X12_run_199 rfl (fun hc => absurd (by decide) hc) (fun _ => ?_)
      refine Tr.iload_n (pc := 202) (i := 3) d_X12_run_202 rfl rfl ?_
      refine Tr.aload_n (pc := 203) (i := 0) d_X12_run_203 rfl rfl ?_
      refine Tr.getf (pc := 204) d_X12_run_204 f_12_195 (by decide) (by decide) (ty_120 hF) ?_
      refine Tr.tp (-1) ((rd_wb _ rfl).trans ((rd_wb _ rfl).trans ((rd_wb _ rfl).trans ((rd_wb _ rfl).trans ((rd_wb _ rfl).trans ((rd_wb _ rfl).trans ((rd_wb _ rfl).trans ((rd_wb _ rfl).trans ((rd_wb _ rfl).trans ((rd_wb _ rfl).trans ((rd_wb _ rfl).trans ((rd_wb _ rfl).trans ((rd_wb _ rfl).trans ((rd_wb _ rfl).trans ((rd_wb _ rfl).trans ((rd_wb _ rfl).trans ((rd_wb _ rfl).trans ((rd_wb _ rfl).trans ((rd_wb _ rfl).trans ((rd_wb _ rfl).trans ((rd_wb _ rfl).trans ((rd_wb _ rfl).trans ((rd_wb _ rfl).trans ((rd_wb _ rfl).trans ((rd_wb _ rfl).trans ((rd_wb _ rfl).trans ((rd_wb _ rfl).trans ((rd_wb _ rfl).trans ((rd_wb _ rfl).trans ((rd_wb _ rfl).trans ((rd_wb _ rfl).trans ((rd_wb _ rfl).trans ((rd_wb _ rfl).trans ((rd_wb _ rfl).trans ((rd_wb _ rfl).trans ((rd_wb _ rfl).trans ((rd_wb _ rfl).trans ((rd_wb _ rfl).trans ((rd_wb _ rfl).trans ((rd_wb _ rfl).trans ((rd_wb _ rfl).trans ((rd_wb _ rfl).trans ((rd_wb _ rfl).trans ((rd_wb _ rfl).trans ((rd_wb _ rfl).trans (rd_ws _ _ _ _)))))))))))))))))))))))))))))))))))))))))))))) ?_
      refine Tr.icmp_eq (pc := 207) (tgt := 214) d_X12_run_207 rfl (fun hc => absurd hc (by decide)) (fun _ => ?_)
      refine Tr.iconst (pc := 210) d_X12_run_210 (by decide) ?_
      refine Tr.goto (pc := 211) (tgt := 215) d_X12_run_211 rfl ?_
      refine Tr.zastX (pc := 215) d_X12_run_215 (ty_175 hF) (by decide) (by decide) (by decide) hF (by decide +kernel) (fun hF => ?_)
      refine Tr.iinc (pc := 216) (ls2 := [(3, (0, 4)), (2, (0, 0)), (0, (2, 120)), (1, (0, _))]) d_X12_run_216 rfl (by decide) rfl ?_
      refine Tr.goto (pc := 219) (tgt := 173) d_X12_run_219 rfl ?_
      refine Tr.iload_n (pc := 173) (i := 3) d_X12_run_173 rfl rfl ?_
      refine Tr.bipush (pc := 174) d_X12_run_174 rfl (by decide) ?_
      refine Tr.icmp_ge (pc := 176) (tgt := 222) d_X12_run_176 rfl (fun hc => absurd hc (by decide)) (fun _ => ?_)
      refine Tr.aload_n (pc := 179) (i := 0) d_X12_run_179 rfl rfl ?_
      refine Tr.getf (pc := 180) d_X12_run_180 f_12_297 (by decide) (by decide) (ty_120 hF) ?_
      refine Tr.tp 175 (fx_120_94 hF) ?_
      refine Tr.iload_n (pc := 183) (i := 3) d_X12_run_183 rfl rfl ?_
      refine Tr.aload_n (pc := 184) (i := 0) d_X12_run_184 rfl rfl ?_
      refine Tr.getf (pc := 185) d_X12_run_185 f_12_177 (by decide) (by decide) (ty_120 hF) ?_
      refine Tr.tp 156 (fx_120_54 hF) ?_
      refine Tr.iload_n (pc := 188) (i := 3) d_X12_run_188 rfl rfl ?_
      refine Tr.zald (pc := 189) d_X12_run_189 (ty_156 hF) (by decide) (by decide) ?_
      refine Tr.tp 0 ((rd_wb _ rfl).trans ((rd_wb _ rfl).trans ((rd_wb _ rfl).trans ((rd_wb _ rfl).trans ((rd_wb _ rfl).trans ((rd_wb _ rfl).trans ((rd_wb _ rfl).trans ((rd_wb _ rfl).trans ((rd_wb _ rfl).trans ((rd_wb _ rfl).trans ((rd_wb _ rfl).trans ((rd_wb _ rfl).trans ((rd_wb _ rfl).trans ((rd_wb _ rfl).trans ((rd_wb _ rfl).trans ((rd_wb _ rfl).trans ((rd_wb _ rfl).trans ((rd_wb _ rfl).trans ((rd_wb _ rfl).trans ((rd_wb _ rfl).trans ((rd_wb _ rfl).trans ((rd_wb _ rfl).trans ((rd_wb _ rfl).trans ((rd_wb _ rfl).trans ((rd_wb _ rfl).trans ((rd_wb _ rfl).trans ((rd_wb _ rfl).trans ((rd_wb _ rfl).trans ((rd_wb _ rfl).trans ((rd_wb _ rfl).trans ((rd_wb _ rfl).trans ((rd_wb _ rfl).trans ((rd_wb _ rfl).trans ((rd_wb _ rfl).trans ((rd_wb _ rfl).trans ((rd_wb _ rfl).trans ((rd_wb _ rfl).trans ((rd_wb _ rfl).trans ((rd_wb _ rfl).trans ((rd_wb _ rfl).trans ((rd_wb _ rfl).trans ((rd_wb _ rfl).trans ((rd_wb _ rfl).trans ((rd_wb _ rfl).trans ((rd_wb _ rfl).trans ((rd_wb _ rfl).trans ((rd_wb _ rfl).trans ((rd_wb _ rfl).trans ((rd_wb _ rfl).trans ((rd_wb _ rfl).trans ((rd_wb _ rfl).trans ((rd_wb _ rfl).trans ((rd_wb _ rfl).trans ((rd_wb _ rfl).trans ((rd_wb _ rfl).trans ((rd_wb _ rfl).trans ((rd_wb _ rfl).trans ((rd_wb _ rfl).trans ((rd_wb _ rfl).trans ((rd_wb _ rfl).trans ((rd_wb _ rfl).trans ((rd_wb _ rfl).trans ((rd_wb _ rfl).trans ((rd_wb _ rfl).trans ((rd_wb _ rfl).trans ((rd_wb _ rfl).trans ((rd_wb _ rfl).trans ((rd_wb _ rfl).trans ((rd_wb _ rfl).trans ((rd_wb _ rfl).trans ((rd_wb _ rfl).trans ((rd_wb _ rfl).trans ((rd_wb _ rfl).trans ((rd_wb _ rfl).trans ((rd_wb _ rfl).trans ((rd_wb _ rfl).trans ((rd_wb _ rfl).trans ((rd_wb _ rfl).trans ((rd_wb _ rfl).trans ((rd_wb _ rfl).trans ((rd_wb _ rfl).trans ((rd_wb _ rfl).trans ((rd_wb _ rfl).trans ((rd_wb _ rfl).trans ((rd_wb _ rfl).trans ((rd_wb _ rfl).trans ((rd_wb _ rfl).trans ((rd_wb _ rfl).trans ((rd_wb _ rfl).trans ((rd_wb _ rfl).trans ((rd_wb _ rfl).trans ((rd_wb _ rfl).trans ((rd_wb _ rfl).trans ((rd_wb _ rfl).trans (rd_ws _ _ _ _))))))))))))))))))))))))))))))))))))))))))))))))))))))))))))))))))))))))))))))))))))))))))))))) ?_
      refine Tr.if_ne (pc := 190) (tgt := 214) d_X12_run_190 rfl (fun hc => absurd (by decide) hc) (fun _ => ?_)
      refine Tr.aload_n (pc := 193) (i := 0) d_X12_run_193 rfl rfl ?_
      refine Tr.getf (pc := 194) d_X12_run_194 f_12_183 (by decide) (by decide) (ty_120 hF) ?_
      refine Tr.tp 158 (fx_120_56 hF) ?_
      refine Tr.iload_n (pc := 197) (i := 3) d_X12_run_197 rfl rfl ?_
      refine Tr.iald (pc := 198) d_X12_run_198 (ty_158 hF) (by decide) (by decide) ?_
      refine Tr.tp 0 ((rd_wb _ rfl).trans ((rd_wb _ rfl).trans ((rd_wb _ rfl).trans ((rd_wb _ rfl).trans ((rd_wb _ rfl).trans ((rd_wb _ rfl).trans ((rd_wb _ rfl).trans ((rd_wb _ rfl).trans ((rd_wb _ rfl).trans ((rd_wb _ rfl).trans ((rd_wb _ rfl).trans ((rd_wb _ rfl).trans ((rd_wb _ rfl).trans ((rd_wb _ rfl).trans ((rd_wb _ rfl).trans ((rd_wb _ rfl).trans ((rd_wb _ rfl).trans ((rd_wb _ rfl).trans ((rd_wb _ rfl).trans ((rd_wb _ rfl).trans ((rd_wb _ rfl).trans ((rd_wb _ rfl).trans ((rd_wb _ rfl).trans ((rd_wb _ rfl).trans ((rd_wb _ rfl).trans ((rd_wb _ rfl).trans ((rd_wb _ rfl).trans ((rd_wb _ rfl).trans ((rd_wb _ rfl).trans ((rd_wb _ rfl).trans ((rd_wb _ rfl).trans ((rd_wb _ rfl).trans ((rd_wb _ rfl).trans ((rd_wb _ rfl).trans ((rd_wb _ rfl).trans ((rd_wb _ rfl).trans ((rd_wb _ rfl).trans ((rd_wb _ rfl).trans ((rd_wb _ rfl).trans ((rd_wb _ rfl).trans ((rd_wb _ rfl).trans ((rd_wb _ rfl).trans ((rd_wb _ rfl).trans ((rd_wb _ rfl).trans ((rd_wb _ rfl).trans ((rd_wb _ rfl).trans ((rd_wb _ rfl).trans ((rd_wb _ rfl).trans ((rd_wb _ rfl).trans ((rd_wb _ rfl).trans ((rd_wb _ rfl).trans ((rd_wb _ rfl).trans ((rd_wb _ rfl).trans ((rd_wb _ rfl).trans ((rd_wb _ rfl).trans ((rd_wb _ rfl).trans ((rd_wb _ rfl).trans ((rd_wb _ rfl).trans ((rd_wb _ rfl).trans ((rd_wb _ rfl).trans ((rd_wb _ rfl).trans ((rd_wb _ rfl).trans ((rd_wb _ rfl).trans ((rd_wb _ rfl).trans ((rd_wb _ rfl).trans ((rd_wb _ rfl).trans ((rd_wb _ rfl).trans ((rd_wb _ rfl).trans ((rd_wb _ rfl).trans ((rd_wb _ rfl).trans ((rd_wb _ rfl).trans ((rd_wb _ rfl).trans ((rd_wb _ rfl).trans ((rd_wb _ rfl).trans ((rd_wb _ rfl).trans ((rd_wb _ rfl).trans ((rd_wb _ rfl).trans ((rd_wb _ rfl).trans ((rd_wb _ rfl).trans ((rd_wb _ rfl).trans ((rd_wb _ rfl).trans ((rd_wb _ rfl).trans ((rd_wb _ rfl).trans ((rd_wb _ rfl).trans ((rd_wb _ rfl).trans ((rd_wb _ rfl).trans ((rd_wb _ rfl).trans ((rd_wb _ rfl).trans ((rd_wb _ rfl).trans ((rd_wb _ rfl).trans ((rd_wb _ rfl).trans ((rd_wb _ rfl).trans (rd_ws _ _ _ _))))))))))))))))))))))))))))))))))))))))))))))))))))))))))))))))))))))))))))))))))))))))))))) ?_
      refine Tr.if_ne (pc := 199) (tgt := 214) d_X12_run_199 rfl (fun hc => absurd (by decide) hc) (fun _ => ?_)
      refine Tr.iload_n (pc := 202) (i := 3) d_X12_run_202 rfl rfl ?_
      refine Tr.aload_n (pc := 203) (i := 0) d_X12_run_203 rfl rfl ?_
      refine Tr.getf (pc := 204) d_X12_run_204 f_12_195 (by decide) (by decide) (ty_120 hF) ?_
      refine Tr.tp (-1) ((rd_wb _ rfl).trans ((rd_wb _ rfl).trans ((rd_wb _ rfl).trans ((rd_wb _ rfl).trans ((rd_wb _ rfl).trans ((rd_wb _ rfl).trans ((rd_wb _ rfl).trans ((rd_wb _ rfl).trans ((rd_wb _ rfl).trans ((rd_wb _ rfl).trans ((rd_wb _ rfl).trans ((rd_wb _ rfl).trans ((rd_wb _ rfl).trans ((rd_wb _ rfl).trans ((rd_wb _ rfl).trans ((rd_wb _ rfl).trans ((rd_wb _ rfl).trans ((rd_wb _ rfl).trans ((rd_wb _ rfl).trans ((rd_wb _ rfl).trans ((rd_wb _ rfl).trans ((rd_wb _ rfl).trans ((rd_wb _ rfl).trans ((rd_wb _ rfl).trans ((rd_wb _ rfl).trans ((rd_wb _ rfl).trans ((rd_wb _ rfl).trans ((rd_wb _ rfl).trans ((rd_wb _ rfl).trans ((rd_wb _ rfl).trans ((rd_wb _ rfl).trans ((rd_wb _ rfl).trans ((rd_wb _ rfl).trans ((rd_wb _ rfl).trans ((rd_wb _ rfl).trans ((rd_wb _ rfl).trans ((rd_wb _ rfl).trans ((rd_wb _ rfl).trans ((rd_wb _ rfl).trans ((rd_wb _ rfl).trans ((rd_wb _ rfl).trans ((rd_wb _ rfl).trans ((rd_wb _ rfl).trans ((rd_wb _ rfl).trans ((rd_wb _ rfl).trans ((rd_wb _ rfl).trans (rd_ws _ _ _ _))))))))))))))))))))))))))))))))))))))))))))))) ?_
      refine Tr.icmp_eq (pc := 207) (tgt := 214) d_X12_run_207 rfl (fun hc => absurd hc (by decide)) (fun _ => ?_)
      refine Tr.iconst (pc := 210) d_X12_run_210 (by decide) ?_
      refine Tr.goto (pc := 211) (tgt := 215) d_X12_run_211 rfl ?_
      refine Tr.zastX (pc := 215) d_X12_run_215 (ty_175 hF) (by decide) (by decide) (by decide) hF (by decide +kernel) (fun hF => ?_)
      refine Tr.iinc (pc := 216) (ls2 := [(3, (0, 5)), (2, (0, 0)), (0, (2, 120)), (1, (0, _))]) d_X12_run_216 rfl (by decide) rfl ?_
      refine Tr.goto (pc := 219) (tgt := 173) d_X12_run_219 rfl ?_
      refine Tr.iload_n (pc := 173) (i := 3) d_X12_run_173 rfl rfl ?_
      refine Tr.bipush (pc := 174) d_X12_run_174 rfl (by decide) ?_
      refine Tr.icmp_ge (pc := 176) (tgt := 222) d_X12_run_176 rfl (fun hc => absurd hc (by decide)) (fun _ => ?_)
      refine Tr.aload_n (pc := 179) (i := 0) d_X12_run_179 rfl rfl ?_
      refine Tr.getf (pc := 180) d_X12_run_180 f_12_297 (by decide) (by decide) (ty_120 hF) ?_
      refine Tr.tp 175 (fx_120_94 hF) ?_
      refine Tr.iload_n (pc := 183) (i := 3) d_X12_run_183 rfl rfl ?_
      refine Tr.aload_n (pc := 184) (i := 0) d_X12_run_184 rfl rfl ?_
      refine Tr.getf (pc := 185) d_X12_run_185 f_12_177 (by decide) (by decide) (ty_120 hF) ?_
      refine Tr.tp 156 (fx_120_54 hF) ?_
      refine Tr.iload_n (pc := 188) (i := 3) d_X12_run_188 rfl rfl ?_
      refine Tr.zald (pc := 189) d_X12_run_189 (ty_156 hF) (by decide) (by decide) ?_
      refine Tr.tp 0 ((rd_wb _ rfl).trans ((rd_wb _ rfl).trans ((rd_wb _ rfl).trans ((rd_wb _ rfl).trans ((rd_wb _ rfl).trans ((rd_wb _ rfl).trans ((rd_wb _ rfl).trans ((rd_wb _ rfl).trans ((rd_wb _ rfl).trans ((rd_wb _ rfl).trans ((rd_wb _ rfl).trans ((rd_wb _ rfl).trans ((rd_wb _ rfl).trans ((rd_wb _ rfl).trans ((rd_wb _ rfl).trans ((rd_wb _ rfl).trans ((rd_wb _ rfl).trans ((rd_wb _ rfl).trans ((rd_wb _ rfl).trans ((rd_wb _ rfl).trans ((rd_wb _ rfl).trans ((rd_wb _ rfl).trans ((rd_wb _ rfl).trans ((rd_wb _ rfl).trans ((rd_wb _ rfl).trans ((rd_wb _ rfl).trans ((rd_wb _ rfl).trans ((rd_wb _ rfl).trans ((rd_wb _ rfl).trans ((rd_wb _ rfl).trans ((rd_wb _ rfl).trans ((rd_wb _ rfl).trans ((rd_wb _ rfl).trans ((rd_wb _ rfl).trans ((rd_wb _ rfl).trans ((rd_wb _ rfl).trans ((rd_wb _ rfl).trans ((rd_wb _ rfl).trans ((rd_wb _ rfl).trans ((rd_wb _ rfl).trans ((rd_wb _ rfl).trans ((rd_wb _ rfl).trans ((rd_wb _ rfl).trans ((rd_wb _ rfl).trans ((rd_wb _ rfl).trans ((rd_wb _ rfl).trans ((rd_wb _ rfl).trans ((rd_wb _ rfl).trans ((rd_wb _ rfl).trans ((rd_wb _ rfl).trans ((rd_wb _ rfl).trans ((rd_wb _ rfl).trans ((rd_wb _ rfl).trans ((rd_wb _ rfl).trans ((rd_wb _ rfl).trans ((rd_wb _ rfl).trans ((rd_wb _ rfl).trans ((rd_wb _ rfl).trans ((rd_wb _ rfl).trans ((rd_wb _ rfl).trans ((rd_wb _ rfl).trans ((rd_wb _ rfl).trans ((rd_wb _ rfl).trans ((rd_wb _ rfl).trans ((rd_wb _ rfl).trans ((rd_wb _ rfl).trans ((rd_wb _ rfl).trans ((rd_wb _ rfl).trans ((rd_wb _ rfl).trans ((rd_wb _ rfl).trans ((rd_wb _ rfl).trans ((rd_wb _ rfl).trans ((rd_wb _ rfl).trans ((rd_wb _ rfl).trans ((rd_wb _ rfl).trans ((rd_wb _ rfl).trans ((rd_wb _ rfl).trans ((rd_wb _ rfl).trans ((rd_wb _ rfl).trans ((rd_wb _ rfl).trans ((rd_wb _ rfl).trans ((rd_wb _ rfl).trans ((rd_wb _ rfl).trans ((rd_wb _ rfl).trans ((rd_wb _ rfl).trans ((rd_wb _ rfl).trans ((rd_wb _ rfl).trans ((rd_wb _ rfl).trans ((rd_wb _ rfl).trans ((rd_wb _ rfl).trans ((rd_wb _ rfl).trans (rd_ws _ _ _ _)))))))))))))))))))))))))))))))))))))))))))))))))))))))))))))))))))))))))))))))))))))))))))) ?_
      refine Tr.if_ne (pc := 190) (tgt := 214) d_X12_run_190 rfl (fun hc => absurd (by decide) hc) (fun _ => ?_)
      refine Tr.aload_n (pc := 193) (i := 0) d_X12_run_193 rfl rfl ?_
      refine Tr.getf (pc := 194) d_X12_run_194 f_12_183 (by decide) (by decide) (ty_120 hF) ?_
      refine Tr.tp 158 (fx_120_56 hF) ?_
      refine Tr.iload_n (pc := 197) (i := 3) d_X12_run_197 rfl rfl ?_
      refine Tr.iald (pc := 198) d_X12_run_198 (ty_158 hF) (by decide) (by decide) ?_
      refine Tr.tp 0 ((rd_wb _ rfl).trans ((rd_wb _ rfl).trans ((rd_wb _ rfl).trans ((rd_wb _ rfl).trans ((rd_wb _ rfl).trans ((rd_wb _ rfl).trans ((rd_wb _ rfl).trans ((rd_wb _ rfl).trans ((rd_wb _ rfl).trans ((rd_wb _ rfl).trans ((rd_wb _ rfl).trans ((rd_wb _ rfl).trans ((rd_wb _ rfl).trans ((rd_wb _ rfl).trans ((rd_wb _ rfl).trans ((rd_wb _ rfl).trans ((rd_wb _ rfl).trans ((rd_wb _ rfl).trans ((rd_wb _ rfl).trans ((rd_wb _ rfl).trans ((rd_wb _ rfl).trans ((rd_wb _ rfl).trans ((rd_wb _ rfl).trans ((rd_wb _ rfl).trans ((rd_wb _ rfl).trans ((rd_wb _ rfl).trans ((rd_wb _ rfl).trans ((rd_wb _ rfl).trans ((rd_wb _ rfl).trans ((rd_wb _ rfl).trans ((rd_wb _ rfl).trans ((rd_wb _ rfl).trans ((rd_wb _ rfl).trans ((rd_wb _ rfl).trans ((rd_wb _ rfl).trans ((rd_wb _ rfl).trans ((rd_wb _ rfl).trans ((rd_wb _ rfl).trans ((rd_wb _ rfl).trans ((rd_wb _ rfl).trans ((rd_wb _ rfl).trans ((rd_wb _ rfl).trans ((rd_wb _ rfl).trans ((rd_wb _ rfl).trans ((rd_wb _ rfl).trans ((rd_wb _ rfl).trans ((rd_wb _ rfl).trans ((rd_wb _ rfl).trans ((rd_wb _ rfl).trans ((rd_wb _ rfl).trans ((rd_wb _ rfl).trans ((rd_wb _ rfl).trans ((rd_wb _ rfl).trans ((rd_wb _ rfl).trans ((rd_wb _ rfl).trans ((rd_wb _ rfl).trans ((rd_wb _ rfl).trans ((rd_wb _ rfl).trans ((rd_wb _ rfl).trans ((rd_wb _ rfl).trans ((rd_wb _ rfl).trans ((rd_wb _ rfl).trans ((rd_wb _ rfl).trans ((rd_wb _ rfl).trans ((rd_wb _ rfl).trans ((rd_wb _ rfl).trans ((rd_wb _ rfl).trans ((rd_wb _ rfl).trans ((rd_wb _ rfl).trans ((rd_wb _ rfl).trans ((rd_wb _ rfl).trans ((rd_wb _ rfl).trans ((rd_wb _ rfl).trans ((rd_wb _ rfl).trans ((rd_wb _ rfl).trans ((rd_wb _ rfl).trans ((rd_wb _ rfl).trans ((rd_wb _ rfl).trans ((rd_wb _ rfl).trans ((rd_wb _ rfl).trans ((rd_wb _ rfl).trans ((rd_wb _ rfl).trans ((rd_wb _ rfl).trans ((rd_wb _ rfl).trans ((rd_wb _ rfl).trans ((rd_wb _ rfl).trans ((rd_wb _ rfl).trans ((rd_wb _ rfl).trans ((rd_wb _ rfl).trans (rd_ws _ _ _ _)))))))))))))))))))))))))))))))))))))))))))))))))))))))))))))))))))))))))))))))))))))))))) ?_
      refine Tr.if_ne (pc := 199) (tgt := 214) d_X12_run_199 rfl (fun hc => absurd (by decide) hc) (fun _ => ?_)
      refine Tr.iload_n (pc := 202) (i := 3) d_X12_run_202 rfl rfl ?_
      refine Tr.aload_n (pc := 203) (i := 0) d_X12_run_203 rfl rfl ?_
      refine Tr.getf (pc := 204) d_X12_run_204 f_12_195 (by decide) (by decide) (ty_120 hF) ?_
      refine Tr.tp (-1) ((rd_wb _ rfl).trans ((rd_wb _ rfl).trans ((rd_wb _ rfl).trans ((rd_wb _ rfl).trans ((rd_wb _ rfl).trans ((rd_wb _ rfl).trans ((rd_wb _ rfl).trans ((rd_wb _ rfl).trans ((rd_wb _ rfl).trans ((rd_wb _ rfl).trans ((rd_wb _ rfl).trans ((rd_wb _ rfl).trans ((rd_wb _ rfl).trans ((rd_wb _ rfl).trans ((rd_wb _ rfl).trans ((rd_wb _ rfl).trans ((rd_wb _ rfl).trans ((rd_wb _ rfl).trans ((rd_wb _ rfl).trans ((rd_wb _ rfl).trans ((rd_wb _ rfl).trans ((rd_wb _ rfl).trans ((rd_wb _ rfl).trans ((rd_wb _ rfl).trans ((rd_wb _ rfl).trans ((rd_wb _ rfl).trans ((rd_wb _ rfl).trans ((rd_wb _ rfl).trans ((rd_wb _ rfl).trans ((rd_wb _ rfl).trans ((rd_wb _ rfl).trans ((rd_wb _ rfl).trans ((rd_wb _ rfl).trans ((rd_wb _ rfl).trans ((rd_wb _ rfl).trans ((rd_wb _ rfl).trans ((rd_wb _ rfl).trans ((rd_wb _ rfl).trans ((rd_wb _ rfl).trans ((rd_wb _ rfl).trans ((rd_wb _ rfl).trans ((rd_wb _ rfl).trans ((rd_wb _ rfl).trans ((rd_wb _ rfl).trans ((rd_wb _ rfl).trans ((rd_wb _ rfl).trans ((rd_wb _ rfl).trans (rd_ws _ _ _ _)))))))))))))))))))))))))))))))))))))))))))))))) ?_
      refine Tr.icmp_eq (pc := 207) (tgt := 214) d_X12_run_207 rfl (fun hc => absurd hc (by decide)) (fun _ => ?_)
      refine Tr.iconst (pc := 210) d_X12_run_210 (by decide) ?_
      refine Tr.goto (pc := 211) (tgt := 215) d_X12_run_211 rfl ?_
      refine Tr.zastX (pc := 215) d_X12_run_215 (ty_175 hF) (by decide) (by decide) (by decide) hF (by decide +kernel) (fun hF => ?_)
      refine Tr.iinc (pc := 216) (ls2 := [(3, (0, 6)), (2, (0, 0)), (0, (2, 120)), (1, (0, _))]) d_X12_run_216 rfl (by decide) rfl ?_
      refine Tr.goto (pc := 219) (tgt := 173) d_X12_run_219 rfl ?_
      refine Tr.iload_n (pc := 173) (i := 3) d_X12_run_173 rfl rfl ?_
      refine Tr.bipush (pc := 174) d_X12_run_174 rfl (by decide) ?_
      refine Tr.icmp_ge (pc := 176) (tgt := 222) d_X12_run_176 rfl (fun _ => ?_) (fun hc => absurd (by decide) hc)
      refine Tr.iload_n (pc := 222) (i := 2) d_X12_run_222 rfl rfl ?_
      refine Tr.iret (pc := 223) d_X12_run_223 rfl ?_
      refine Tr.sc [_, _] rfl ?_
      refine Tr.icmp_eq (pc := 399) (tgt := 998) d_L_law_399 rfl (fun _ => ?_) (fun hc => absurd (by decide) hc)
      refine Tr.iinc (pc := 998) (ls2 := [(3, (0, 6)), (2, (2, 120)), (1, (2, 0)), (0, (2, (-2)))]) d_L_law_998 rfl (by decide) rfl ?_
      refine Tr.goto (pc := 1001) (tgt := 18) d_L_law_1001 rfl ?_
      refine Tr.iload_n (pc := 18) (i := 3) d_L_law_18 rfl rfl ?_
      refine Tr.aload_n (pc := 19) (i := 0) d_L_law_19 rfl rfl ?_
      refine Tr.xlen (pc := 20) (i := 0) d_L_law_20 rfl he (by decide) ?_
      refine Tr.tp 6 rfl ?_
      refine Tr.bipush (pc := 21) d_L_law_21 rfl (by decide) ?_
      refine Tr.isub (pc := 23) d_L_law_23 ?_
      refine Tr.tp 0 rfl ?_
      refine Tr.icmp_gt (pc := 24) (tgt := 1004) d_L_law_24 rfl (fun _ => ?_) (fun hc => absurd (by decide) hc)
      refine Tr.iconst (pc := 1004) d_L_law_1004 (by decide) ?_
      exact Tr.zret (pc := 1005) d_L_law_1005 rfl (by decide) ⟨rfl, Fx_room hF⟩
    · refine Tr.iconst (pc := 91) d_X6_begin_91 (by decide) ?_
      refine Tr.goto (pc := 92) (tgt := 96) d_X6_begin_92 rfl ?_
      refine Tr.putzX (pc := 96) d_X6_begin_96 f_6_106 (by decide) (ty_48 hF) (by decide) hF (by decide +kernel) (fun hF => ?_)
      refine Tr.aload_n (pc := 99) (i := 0) d_X6_begin_99 rfl rfl ?_
      refine Tr.iload_n (pc := 100) (i := 3) d_X6_begin_100 rfl rfl ?_
      refine Tr.putfX (pc := 101) d_X6_begin_101 f_6_110 (by decide) (by decide) (ty_48 hF) hF (by decide +kernel) (fun hF => ?_)
      refine Tr.aload_n (pc := 104) (i := 0) d_X6_begin_104 rfl rfl ?_
      refine Tr.getf (pc := 105) d_X6_begin_105 f_6_38 (by decide) (by decide) (ty_48 hF) ?_
      refine Tr.tp 56 (fx_48_0 hF) ?_
      refine Tr.aload_n (pc := 108) (i := 1) d_X6_begin_108 rfl rfl ?_
      refine Tr.callV (pc := 109) (as := [_]) d_X6_begin_109 s_6_113 ok_X1_begin rfl rfl (Nat.le_of_ble_eq_true rfl) (Nat.le_of_ble_eq_true rfl) (by decide) (ty_56 hF) ?_
      refine Tr.lc [(0, (2, 56)), (1, (2, 7))] rfl ?_
      refine Tr.aload_n (pc := 0) (i := 0) d_X1_begin_0 rfl rfl ?_
      refine Tr.aload_n (pc := 1) (i := 1) d_X1_begin_1 rfl rfl ?_
      refine Tr.putfX (pc := 2) d_X1_begin_2 f_1_41 (by decide) (by decide) (ty_56 hF) hF (by decide +kernel) (fun hF => ?_)
      refine Tr.aload_n (pc := 5) (i := 0) d_X1_begin_5 rfl rfl ?_
      refine Tr.getf (pc := 6) d_X1_begin_6 f_1_9 (by decide) (by decide) (ty_56 hF) ?_
      refine Tr.tp 57 (fx_56_2 hF) ?_
      refine Tr.iconst (pc := 9) d_X1_begin_9 (by decide) ?_
      refine Tr.callS (pc := 10) (as := [_, _]) d_X1_begin_10 s_1_45 ok_J7_fill_53178 rfl rfl (Nat.le_of_ble_eq_true rfl) (Nat.le_of_ble_eq_true rfl) ?_
      refine Tr.imp (sp_fillX (N := 24) (ty_57 hF) (by decide) hF (by decide +kernel)) ?_
      rintro _ _ ⟨rfl, rfl, hF⟩
      refine Tr.sc [] rfl ?_
      refine Tr.aload_n (pc := 13) (i := 0) d_X1_begin_13 rfl rfl ?_
      refine Tr.getz (pc := 14) d_X1_begin_14 f_1_37 (by decide) (ty_56 hF) ?_
      refine Tr.tp 1 ((rd_fb _ rfl).trans ((rd_wb _ rfl).trans ((rd_wb _ rfl).trans ((rd_wb _ rfl).trans ((rd_wb _ rfl).trans ((rd_wb _ rfl).trans ((rd_wb _ rfl).trans ((rd_wb _ rfl).trans ((rd_wb _ rfl).trans ((rd_wb _ rfl).trans ((rd_fb _ rfl).trans ((rd_fb _ rfl).trans ((rd_fb _ rfl).trans ((rd_fb _ rfl).trans ((rd_fb _ rfl).trans ((rd_cb _ rfl).trans ((rd_wb _ rfl).trans (b_56_0)))))))))))))))))) ?_
      refine Tr.if_eq (pc := 17) (tgt := 67) d_X1_begin_17 rfl (fun hc => absurd hc (by decide)) (fun _ => ?_)
      refine Tr.aload_n (pc := 20) (i := 0) d_X1_begin_20 rfl rfl ?_
      refine Tr.getf (pc := 21) d_X1_begin_21 f_1_15 (by decide) (by decide) (ty_56 hF) ?_
      refine Tr.tp 58 (fx_56_3 hF) ?_
      refine Tr.iconst (pc := 24) d_X1_begin_24 (by decide) ?_
      refine Tr.callS (pc := 25) (as := [_, _]) d_X1_begin_25 s_1_45 ok_J7_fill_53178 rfl rfl (Nat.le_of_ble_eq_true rfl) (Nat.le_of_ble_eq_true rfl) ?_
      refine Tr.imp (sp_fillX (N := 6) (ty_58 hF) (by decide) hF (by decide +kernel)) ?_
      rintro _ _ ⟨rfl, rfl, hF⟩
      refine Tr.sc [] rfl ?_
      refine Tr.aload_n (pc := 28) (i := 0) d_X1_begin_28 rfl rfl ?_
      refine Tr.getf (pc := 29) d_X1_begin_29 f_1_18 (by decide) (by decide) (ty_56 hF) ?_
      refine Tr.tp 59 (fx_56_4 hF) ?_
      refine Tr.iconst (pc := 32) d_X1_begin_32 (by decide) ?_
      refine Tr.callS (pc := 33) (as := [_, _]) d_X1_begin_33 s_1_45 ok_J7_fill_53178 rfl rfl (Nat.le_of_ble_eq_true rfl) (Nat.le_of_ble_eq_true rfl) ?_
      refine Tr.imp (sp_fillX (N := 6) (ty_59 hF) (by decide) hF (by decide +kernel)) ?_
      rintro _ _ ⟨rfl, rfl, hF⟩
      refine Tr.sc [] rfl ?_
      refine Tr.aload_n (pc := 36) (i := 0) d_X1_begin_36 rfl rfl ?_
      refine Tr.getf (pc := 37) d_X1_begin_37 f_1_21 (by decide) (by decide) (ty_56 hF) ?_
      refine Tr.tp 60 (fx_56_5 hF) ?_
      refine Tr.iconst (pc := 40) d_X1_begin_40 (by decide) ?_
      refine Tr.callS (pc := 41) (as := [_, _]) d_X1_begin_41 s_1_45 ok_J7_fill_53178 rfl rfl (Nat.le_of_ble_eq_true rfl) (Nat.le_of_ble_eq_true rfl) ?_
      refine Tr.imp (sp_fillX (N := 60) (ty_60 hF) (by decide) hF (by decide +kernel)) ?_
      rintro _ _ ⟨rfl, rfl, hF⟩
      refine Tr.sc [] rfl ?_
      refine Tr.aload_n (pc := 44) (i := 0) d_X1_begin_44 rfl rfl ?_
      refine Tr.getf (pc := 45) d_X1_begin_45 f_1_24 (by decide) (by decide) (ty_56 hF) ?_
      refine Tr.tp 61 (fx_56_6 hF) ?_
      refine Tr.iconst (pc := 48) d_X1_begin_48 (by decide) ?_
      refine Tr.callS (pc := 49) (as := [_, _]) d_X1_begin_49 s_1_45 ok_J7_fill_53178 rfl rfl (Nat.le_of_ble_eq_true rfl) (Nat.le_of_ble_eq_true rfl) ?_
      refine Tr.imp (sp_fillX (N := 60) (ty_61 hF) (by decide) hF (by decide +kernel)) ?_
      rintro _ _ ⟨rfl, rfl, hF⟩
      refine Tr.sc [] rfl ?_
      refine Tr.aload_n (pc := 52) (i := 0) d_X1_begin_52 rfl rfl ?_
      refine Tr.getf (pc := 53) d_X1_begin_53 f_1_27 (by decide) (by decide) (ty_56 hF) ?_
      refine Tr.tp 62 (fx_56_7 hF) ?_
      refine Tr.iconst (pc := 56) d_X1_begin_56 (by decide) ?_
      refine Tr.callS (pc := 57) (as := [_, _]) d_X1_begin_57 s_1_45 ok_J7_fill_53178 rfl rfl (Nat.le_of_ble_eq_true rfl) (Nat.le_of_ble_eq_true rfl) ?_
      refine Tr.imp (sp_fillX (N := 60) (ty_62 hF) (by decide) hF (by decide +kernel)) ?_
      rintro _ _ ⟨rfl, rfl, hF⟩
      refine Tr.sc [] rfl ?_
      refine Tr.aload_n (pc := 60) (i := 0) d_X1_begin_60 rfl rfl ?_
      refine Tr.getf (pc := 61) d_X1_begin_61 f_1_33 (by decide) (by decide) (ty_56 hF) ?_
      refine Tr.tp 63 (fx_56_8 hF) ?_
      refine Tr.callV (pc := 64) (as := []) d_X1_begin_64 s_1_51 ok_X8_clear rfl rfl (Nat.le_of_ble_eq_true rfl) (Nat.le_of_ble_eq_true rfl) (by decide) (ty_63 hF) ?_
      refine Tr.lc [(0, (2, 63))] rfl ?_
      refine Tr.aload_n (pc := 0) (i := 0) d_X8_clear_0 rfl rfl ?_
      refine Tr.iconst (pc := 1) d_X8_clear_1 (by decide) ?_
      refine Tr.putfX (pc := 2) d_X8_clear_2 f_8_43 (by decide) (by decide) (ty_63 hF) hF (by decide +kernel) (fun hF => ?_)
      refine Tr.aload_n (pc := 5) (i := 0) d_X8_clear_5 rfl rfl ?_
      refine Tr.iconst (pc := 6) d_X8_clear_6 (by decide) ?_
      refine Tr.putfX (pc := 7) d_X8_clear_7 f_8_47 (by decide) (by decide) (ty_63 hF) hF (by decide +kernel) (fun hF => ?_)
      refine Tr.aload_n (pc := 10) (i := 0) d_X8_clear_10 rfl rfl ?_
      refine Tr.getf (pc := 11) d_X8_clear_11 f_8_28 (by decide) (by decide) (ty_63 hF) ?_
      refine Tr.tp 69 (fx_63_6 hF) ?_
      refine Tr.iconst (pc := 14) d_X8_clear_14 (by decide) ?_
      refine Tr.callS (pc := 15) (as := [_, _]) d_X8_clear_15 s_8_50 ok_J7_fill_53178 rfl rfl (Nat.le_of_ble_eq_true rfl) (Nat.le_of_ble_eq_true rfl) ?_
      refine Tr.imp (sp_fillX (N := 6) (ty_69 hF) (by decide) hF (by decide +kernel)) ?_
      rintro _ _ ⟨rfl, rfl, hF⟩
      refine Tr.sc [] rfl ?_
      refine Tr.vret (pc := 18) d_X8_clear_18 rfl ?_
      refine Tr.sc [] rfl ?_
      refine Tr.vret (pc := 67) d_X1_begin_67 rfl ?_
      refine Tr.sc [] rfl ?_
      refine Tr.vret (pc := 112) d_X6_begin_112 rfl ?_
      refine Tr.sc [] rfl ?_
      refine Tr.iconst (pc := 7) d_X6_go_7 (by decide) ?_
      refine Tr.istore (pc := 8) (i := 4) (ls2 := [(4, (0, 0)), (0, (2, 48)), (1, (2, 7)), (2, (2, 47)), (3, (0, _))]) d_X6_go_8 (by decide) rfl ?_
      refine Tr.iconst (pc := 10) d_X6_go_10 (by decide) ?_
      refine Tr.istore (pc := 11) (i := 5) (ls2 := [(5, (0, 0)), (4, (0, 0)), (0, (2, 48)), (1, (2, 7)), (2, (2, 47)), (3, (0, _))]) d_X6_go_11 (by decide) rfl ?_
      refine Tr.iload (pc := 13) (i := 5) d_X6_go_13 rfl ?_
      refine Tr.sipush (pc := 15) d_X6_go_15 rfl (by decide) ?_
      refine Tr.icmp_gt (pc := 18) (tgt := 103) d_X6_go_18 rfl (fun hc => absurd hc (by decide)) (fun _ => ?_)
      refine Tr.iload (pc := 21) (i := 4) d_X6_go_21 rfl ?_
      refine Tr.aload_n (pc := 23) (i := 0) d_X6_go_23 rfl rfl ?_
      refine Tr.getf (pc := 24) d_X6_go_24 f_6_46 (by decide) (by decide) (ty_48 hF) ?_
      refine Tr.tp 7 ((rd_fb _ rfl).trans ((rd_wb _ rfl).trans ((rd_wb _ rfl).trans ((rd_fb _ rfl).trans ((rd_fb _ rfl).trans ((rd_fb _ rfl).trans ((rd_fb _ rfl).trans ((rd_fb _ rfl).trans ((rd_fb _ rfl).trans ((rd_wb _ rfl).trans ((rd_wb _ rfl).trans ((rd_wb _ rfl).trans ((rd_wb _ rfl).trans ((rd_wb _ rfl).trans ((rd_wb _ rfl).trans ((rd_wb _ rfl).trans ((rd_wb _ rfl).trans ((rd_wb _ rfl).trans ((rd_fb _ rfl).trans ((rd_fb _ rfl).trans ((rd_fb _ rfl).trans ((rd_fb _ rfl).trans ((rd_fb _ rfl).trans ((rd_cb _ rfl).trans (rd_ws _ _ _ _))))))))))))))))))))))))) ?_
      refine Tr.getf (pc := 27) d_X6_go_27 f_6_50 (by decide) (by decide) (ty_7 hF) ?_
      refine Tr.tp 15 (fx_7_11 hF) ?_
      refine Tr.getf (pc := 30) d_X6_go_30 f_6_56 (by decide) (by decide) (ty_15 hF) ?_
      refine Tr.tp 0 ((rd_fb _ rfl).trans ((rd_wb _ rfl).trans ((rd_wb _ rfl).trans ((rd_fb _ rfl).trans ((rd_fb _ rfl).trans ((rd_fb _ rfl).trans ((rd_fb _ rfl).trans ((rd_fb _ rfl).trans ((rd_fb _ rfl).trans ((rd_wb _ rfl).trans ((rd_wb _ rfl).trans ((rd_wb _ rfl).trans ((rd_wb _ rfl).trans ((rd_wb _ rfl).trans ((rd_wb _ rfl).trans ((rd_wb _ rfl).trans ((rd_wb _ rfl).trans ((rd_wb _ rfl).trans ((rd_fb _ rfl).trans ((rd_fb _ rfl).trans ((rd_fb _ rfl).trans ((rd_fb _ rfl).trans ((rd_fb _ rfl).trans ((rd_cb _ rfl).trans ((rd_wb _ rfl).trans (b_15_0)))))))))))))))))))))))))) ?_
      refine Tr.icmp_ge (pc := 33) (tgt := 103) d_X6_go_33 rfl (fun _ => ?_) (fun hc => absurd (by decide) hc)
      refine Tr.aload_n (pc := 103) (i := 0) d_X6_go_103 rfl rfl ?_
      refine Tr.callV (pc := 104) (as := []) d_X6_go_104 s_6_82 ok_X6_finish rfl rfl (Nat.le_of_ble_eq_true rfl) (Nat.le_of_ble_eq_true rfl) (by decide) (ty_48 hF) ?_
      refine Tr.lc [(0, (2, 48))] rfl ?_
      refine Tr.aload_n (pc := 0) (i := 0) d_X6_finish_0 rfl rfl ?_
      refine Tr.getf (pc := 1) d_X6_finish_1 f_6_68 (by decide) (by decide) (ty_48 hF) ?_
      refine Tr.tp 0 ((rd_fb _ rfl).trans ((rd_wb _ rfl).trans ((rd_wb _ rfl).trans ((rd_fb _ rfl).trans ((rd_fb _ rfl).trans ((rd_fb _ rfl).trans ((rd_fb _ rfl).trans ((rd_fb _ rfl).trans ((rd_fb _ rfl).trans ((rd_wb _ rfl).trans ((rd_wb _ rfl).trans ((rd_wb _ rfl).trans ((rd_wb _ rfl).trans ((rd_wb _ rfl).trans ((rd_wb _ rfl).trans ((rd_wb _ rfl).trans ((rd_wb _ rfl).trans (rd_ws _ _ _ _)))))))))))))))))) ?_
      refine Tr.istore_n (pc := 4) (i := 1) (ls2 := [(1, (0, 0)), (0, (2, 48))]) d_X6_finish_4 rfl (by decide) rfl ?_
      refine Tr.aload_n (pc := 5) (i := 0) d_X6_finish_5 rfl rfl ?_
      refine Tr.getf (pc := 6) d_X6_finish_6 f_6_46 (by decide) (by decide) (ty_48 hF) ?_
      refine Tr.tp 7 ((rd_fb _ rfl).trans ((rd_wb _ rfl).trans ((rd_wb _ rfl).trans ((rd_fb _ rfl).trans ((rd_fb _ rfl).trans ((rd_fb _ rfl).trans ((rd_fb _ rfl).trans ((rd_fb _ rfl).trans ((rd_fb _ rfl).trans ((rd_wb _ rfl).trans ((rd_wb _ rfl).trans ((rd_wb _ rfl).trans ((rd_wb _ rfl).trans ((rd_wb _ rfl).trans ((rd_wb _ rfl).trans ((rd_wb _ rfl).trans ((rd_wb _ rfl).trans ((rd_wb _ rfl).trans ((rd_fb _ rfl).trans ((rd_fb _ rfl).trans ((rd_fb _ rfl).trans ((rd_fb _ rfl).trans ((rd_fb _ rfl).trans ((rd_cb _ rfl).trans (rd_ws _ _ _ _))))))))))))))))))))))))) ?_
      refine Tr.getf (pc := 9) d_X6_finish_9 f_6_116 (by decide) (by decide) (ty_7 hF) ?_
      refine Tr.tp 8 (fx_7_4 hF) ?_
      refine Tr.iconst (pc := 12) d_X6_finish_12 (by decide) ?_
      refine Tr.iald (pc := 13) d_X6_finish_13 (ty_8 hF) (by decide) (by decide) ?_
      refine Tr.tp 0 ((rd_fb _ rfl).trans ((rd_wb _ rfl).trans ((rd_wb _ rfl).trans ((rd_fb _ rfl).trans ((rd_fb _ rfl).trans ((rd_fb _ rfl).trans ((rd_fb _ rfl).trans ((rd_fb _ rfl).trans ((rd_fb _ rfl).trans ((rd_wb _ rfl).trans ((rd_wb _ rfl).trans ((rd_wb _ rfl).trans ((rd_wb _ rfl).trans ((rd_wb _ rfl).trans ((rd_wb _ rfl).trans ((rd_wb _ rfl).trans ((rd_wb _ rfl).trans ((rd_wb _ rfl).trans ((rd_fb _ rfl).trans ((rd_fb _ rfl).trans ((rd_fb _ rfl).trans ((rd_fb _ rfl).trans ((rd_fb _ rfl).trans ((rd_cb _ rfl).trans ((rd_wb _ rfl).trans (b_8_0)))))))))))))))))))))))))) ?_
      refine Tr.istore_n (pc := 14) (i := 2) (ls2 := [(2, (0, 0)), (1, (0, 0)), (0, (2, 48))]) d_X6_finish_14 rfl (by decide) rfl ?_
      refine Tr.iconst (pc := 15) d_X6_finish_15 (by decide) ?_
      refine Tr.istore_n (pc := 16) (i := 3) (ls2 := [(3, (0, 0)), (2, (0, 0)), (1, (0, 0)), (0, (2, 48))]) d_X6_finish_16 rfl (by decide) rfl ?_
      refine Tr.iload_n (pc := 17) (i := 3) d_X6_finish_17 rfl rfl ?_
      refine Tr.iload_n (pc := 18) (i := 2) d_X6_finish_18 rfl rfl ?_
      refine Tr.icmp_ge (pc := 19) (tgt := 61) d_X6_finish_19 rfl (fun _ => ?_) (fun hc => absurd (by decide) hc)
      refine Tr.iconst (pc := 61) d_X6_finish_61 (by decide) ?_
      refine Tr.istore_n (pc := 62) (i := 3) (ls2 := [(3, (0, 0)), (2, (0, 0)), (1, (0, 0)), (0, (2, 48))]) d_X6_finish_62 rfl (by decide) rfl ?_
      refine Tr.iload_n (pc := 63) (i := 3) d_X6_finish_63 rfl rfl ?_
      refine Tr.iload_n (pc := 64) (i := 2) d_X6_finish_64 rfl rfl ?_
      refine Tr.icmp_ge (pc := 65) (tgt := 129) d_X6_finish_65 rfl (fun _ => ?_) (fun hc => absurd (by decide) hc)
      refine Tr.aload_n (pc := 129) (i := 0) d_X6_finish_129 rfl rfl ?_
      refine Tr.iload_n (pc := 130) (i := 1) d_X6_finish_130 rfl rfl ?_
      refine Tr.aload_n (pc := 131) (i := 0) d_X6_finish_131 rfl rfl ?_
      refine Tr.getf (pc := 132) d_X6_finish_132 f_6_46 (by decide) (by decide) (ty_48 hF) ?_
      refine Tr.tp 7 ((rd_fb _ rfl).trans ((rd_wb _ rfl).trans ((rd_wb _ rfl).trans ((rd_fb _ rfl).trans ((rd_fb _ rfl).trans ((rd_fb _ rfl).trans ((rd_fb _ rfl).trans ((rd_fb _ rfl).trans ((rd_fb _ rfl).trans ((rd_wb _ rfl).trans ((rd_wb _ rfl).trans ((rd_wb _ rfl).trans ((rd_wb _ rfl).trans ((rd_wb _ rfl).trans ((rd_wb _ rfl).trans ((rd_wb _ rfl).trans ((rd_wb _ rfl).trans ((rd_wb _ rfl).trans ((rd_fb _ rfl).trans ((rd_fb _ rfl).trans ((rd_fb _ rfl).trans ((rd_fb _ rfl).trans ((rd_fb _ rfl).trans ((rd_cb _ rfl).trans (rd_ws _ _ _ _))))))))))))))))))))))))) ?_
      refine Tr.getf (pc := 135) d_X6_finish_135 f_6_135 (by decide) (by decide) (ty_7 hF) ?_
      refine Tr.tp 1 ((rd_fb _ rfl).trans ((rd_wb _ rfl).trans ((rd_wb _ rfl).trans ((rd_fb _ rfl).trans ((rd_fb _ rfl).trans ((rd_fb _ rfl).trans ((rd_fb _ rfl).trans ((rd_fb _ rfl).trans ((rd_fb _ rfl).trans ((rd_wb _ rfl).trans ((rd_wb _ rfl).trans ((rd_wb _ rfl).trans ((rd_wb _ rfl).trans ((rd_wb _ rfl).trans ((rd_wb _ rfl).trans ((rd_wb _ rfl).trans ((rd_wb _ rfl).trans ((rd_wb _ rfl).trans ((rd_fb _ rfl).trans ((rd_fb _ rfl).trans ((rd_fb _ rfl).trans ((rd_fb _ rfl).trans ((rd_fb _ rfl).trans ((rd_cb _ rfl).trans ((rd_wb _ rfl).trans (b_7_0)))))))))))))))))))))))))) ?_
      refine Tr.imul (pc := 138) d_X6_finish_138 ?_
      refine Tr.tp 0 rfl ?_
      refine Tr.aload_n (pc := 139) (i := 0) d_X6_finish_139 rfl rfl ?_
      refine Tr.getf (pc := 140) d_X6_finish_140 f_6_38 (by decide) (by decide) (ty_48 hF) ?_
      refine Tr.tp 56 (fx_48_0 hF) ?_
      refine Tr.callV (pc := 143) (as := []) d_X6_finish_143 s_6_138 ok_X1_sippedByParts rfl rfl (Nat.le_of_ble_eq_true rfl) (Nat.le_of_ble_eq_true rfl) (by decide) (ty_56 hF) ?_
      refine Tr.lc [(0, (2, 56))] rfl ?_
      refine Tr.iconst (pc := 0) d_X1_sippedByParts_0 (by decide) ?_
      refine Tr.istore_n (pc := 1) (i := 1) (ls2 := [(1, (0, 0)), (0, (2, 56))]) d_X1_sippedByParts_1 rfl (by decide) rfl ?_
      refine Tr.iconst (pc := 2) d_X1_sippedByParts_2 (by decide) ?_
      refine Tr.istore_n (pc := 3) (i := 2) (ls2 := [(2, (0, 0)), (1, (0, 0)), (0, (2, 56))]) d_X1_sippedByParts_3 rfl (by decide) rfl ?_
      refine Tr.iload_n (pc := 4) (i := 2) d_X1_sippedByParts_4 rfl rfl ?_
      refine Tr.aload_n (pc := 5) (i := 0) d_X1_sippedByParts_5 rfl rfl ?_
      refine Tr.getf (pc := 6) d_X1_sippedByParts_6 f_1_41 (by decide) (by decide) (ty_56 hF) ?_
      refine Tr.tp 7 ((rd_fb _ rfl).trans ((rd_wb _ rfl).trans ((rd_wb _ rfl).trans ((rd_fb _ rfl).trans ((rd_fb _ rfl).trans ((rd_fb _ rfl).trans ((rd_fb _ rfl).trans ((rd_fb _ rfl).trans ((rd_fb _ rfl).trans (rd_ws _ _ _ _)))))))))) ?_
      refine Tr.getf (pc := 9) d_X1_sippedByParts_9 f_1_91 (by decide) (by decide) (ty_7 hF) ?_
      refine Tr.tp 8 (fx_7_4 hF) ?_
      refine Tr.iconst (pc := 12) d_X1_sippedByParts_12 (by decide) ?_
      refine Tr.iald (pc := 13) d_X1_sippedByParts_13 (ty_8 hF) (by decide) (by decide) ?_
      refine Tr.tp 0 ((rd_fb _ rfl).trans ((rd_wb _ rfl).trans ((rd_wb _ rfl).trans ((rd_fb _ rfl).trans ((rd_fb _ rfl).trans ((rd_fb _ rfl).trans ((rd_fb _ rfl).trans ((rd_fb _ rfl).trans ((rd_fb _ rfl).trans ((rd_wb _ rfl).trans ((rd_wb _ rfl).trans ((rd_wb _ rfl).trans ((rd_wb _ rfl).trans ((rd_wb _ rfl).trans ((rd_wb _ rfl).trans ((rd_wb _ rfl).trans ((rd_wb _ rfl).trans ((rd_wb _ rfl).trans ((rd_fb _ rfl).trans ((rd_fb _ rfl).trans ((rd_fb _ rfl).trans ((rd_fb _ rfl).trans ((rd_fb _ rfl).trans ((rd_cb _ rfl).trans ((rd_wb _ rfl).trans (b_8_0)))))))))))))))))))))))))) ?_
      refine Tr.iconst (pc := 14) d_X1_sippedByParts_14 (by decide) ?_
      refine Tr.imul (pc := 15) d_X1_sippedByParts_15 ?_
      refine Tr.tp 0 rfl ?_
      refine Tr.icmp_ge (pc := 16) (tgt := 44) d_X1_sippedByParts_16 rfl (fun _ => ?_) (fun hc => absurd (by decide) hc)
      refine Tr.iload_n (pc := 44) (i := 1) d_X1_sippedByParts_44 rfl rfl ?_
      refine Tr.iret (pc := 45) d_X1_sippedByParts_45 rfl ?_
      refine Tr.sc [_, _, _] rfl ?_
      refine Tr.iadd (pc := 146) d_X6_finish_146 ?_
      refine Tr.tp 0 rfl ?_
      refine Tr.putfX (pc := 147) d_X6_finish_147 f_6_142 (by decide) (by decide) (ty_48 hF) hF (by decide +kernel) (fun hF => ?_)
      refine Tr.vret (pc := 150) d_X6_finish_150 rfl ?_
      refine Tr.sc [] rfl ?_
      refine Tr.vret (pc := 107) d_X6_go_107 rfl ?_
      refine Tr.sc [] rfl ?_
      refine Tr.aload_n (pc := 24) (i := 0) d_X11_run_24 rfl rfl ?_
      refine Tr.getf (pc := 25) d_X11_run_25 f_11_56 (by decide) (by decide) (ty_0 hF) ?_
      refine Tr.tp 100 (fx_0_10 hF) ?_
      refine Tr.callV (pc := 28) (as := []) d_X11_run_28 s_11_148 ok_X9_clear rfl rfl (Nat.le_of_ble_eq_true rfl) (Nat.le_of_ble_eq_true rfl) (by decide) (ty_100 hF) ?_
      refine Tr.lc [(0, (2, 100))] rfl ?_
      refine Tr.aload_n (pc := 0) (i := 0) d_X9_clear_0 rfl rfl ?_
      refine Tr.iconst (pc := 1) d_X9_clear_1 (by decide) ?_
      refine Tr.putfX (pc := 2) d_X9_clear_2 f_9_19 (by decide) (by decide) (ty_100 hF) hF (by decide +kernel) (fun hF => ?_)
      refine Tr.vret (pc := 5) d_X9_clear_5 rfl ?_
      refine Tr.sc [] rfl ?_
      refine Tr.aload_n (pc := 31) (i := 0) d_X11_run_31 rfl rfl ?_
      refine Tr.iconst (pc := 32) d_X11_run_32 (by decide) ?_
      refine Tr.putzX (pc := 33) d_X11_run_33 f_11_109 (by decide) (ty_0 hF) (by decide) hF (by decide +kernel) (fun hF => ?_)
      refine Tr.aload_n (pc := 36) (i := 0) d_X11_run_36 rfl rfl ?_
      refine Tr.getf (pc := 37) d_X11_run_37 f_11_46 (by decide) (by decide) (ty_0 hF) ?_
      refine Tr.tp 48 (fx_0_7 hF) ?_
      refine Tr.getf (pc := 40) d_X11_run_40 f_11_149 (by decide) (by decide) (ty_48 hF) ?_
      refine Tr.tp 0 ((rd_wb _ rfl).trans ((rd_wb _ rfl).trans ((rd_wb _ rfl).trans ((rd_fb _ rfl).trans ((rd_wb _ rfl).trans ((rd_wb _ rfl).trans ((rd_fb _ rfl).trans ((rd_fb _ rfl).trans ((rd_fb _ rfl).trans ((rd_fb _ rfl).trans ((rd_fb _ rfl).trans ((rd_fb _ rfl).trans ((rd_wb _ rfl).trans ((rd_wb _ rfl).trans ((rd_wb _ rfl).trans ((rd_wb _ rfl).trans (rd_ws _ _ _ _))))))))))))))))) ?_
      refine Tr.iret (pc := 43) d_X11_run_43 rfl ?_
      refine Tr.sc [_] rfl ?_
      refine Tr.aload_n (pc := 390) (i := 2) d_L_law_390 rfl rfl ?_
      refine Tr.aload_n (pc := 391) (i := 0) d_L_law_391 rfl rfl ?_
      refine Tr.iload_n (pc := 392) (i := 3) d_L_law_392 rfl rfl ?_
      refine Tr.iconst (pc := 393) d_L_law_393 (by decide) ?_
      refine Tr.iadd (pc := 394) d_L_law_394 ?_
      refine Tr.tp 1 rfl ?_
      refine Tr.xld (pc := 395) (i := 0) d_L_law_395 rfl he (by decide) (by decide) ?_
      refine Tr.tp a1 g1 ?_
      refine Tr.callV (pc := 396) (as := [_]) d_L_law_396 s_13_50 ok_X12_run rfl rfl (Nat.le_of_ble_eq_true rfl) (Nat.le_of_ble_eq_true rfl) (by decide) (ty_120 hF) ?_
      refine Tr.lc [(0, (2, 120)), (1, (0, _))] rfl ?_
      refine Tr.iload_n (pc := 0) (i := 1) d_X12_run_0 rfl rfl ?_
      refine Tr.iconst (pc := 1) d_X12_run_1 (by decide) ?_
      refine Tr.icmp_ge (pc := 2) (tgt := 8) d_X12_run_2 rfl (fun _ => ?_) (fun hc => absurd (by omega) hc)
      refine Tr.iconst (pc := 8) d_X12_run_8 (by decide) ?_
      refine Tr.istore_n (pc := 9) (i := 2) (ls2 := [(2, (0, 0)), (0, (2, 120)), (1, (0, _))]) d_X12_run_9 rfl (by decide) rfl ?_
      refine Tr.iload_n (pc := 10) (i := 2) d_X12_run_10 rfl rfl ?_
      refine Tr.iconst (pc := 11) d_X12_run_11 (by decide) ?_
      refine Tr.icmp_ge (pc := 12) (tgt := 33) d_X12_run_12 rfl (fun hc => absurd hc (by decide)) (fun _ => ?_)
      refine Tr.aload_n (pc := 15) (i := 0) d_X12_run_15 rfl rfl ?_
      refine Tr.getf (pc := 16) d_X12_run_16 f_12_171 (by decide) (by decide) (ty_120 hF) ?_
      refine Tr.tp 154 (fx_120_52 hF) ?_
      refine Tr.iload_n (pc := 19) (i := 2) d_X12_run_19 rfl rfl ?_
      refine Tr.aload_n (pc := 20) (i := 0) d_X12_run_20 rfl rfl ?_
      refine Tr.getf (pc := 21) d_X12_run_21 f_12_168 (by decide) (by decide) (ty_120 hF) ?_
      refine Tr.tp 153 (fx_120_51 hF) ?_
      refine Tr.iload_n (pc := 24) (i := 2) d_X12_run_24 rfl rfl ?_
      refine Tr.iald (pc := 25) d_X12_run_25 (ty_153 hF) (by decide) (by decide) ?_
      refine Tr.tp 0 ((rd_wb _ rfl).trans ((rd_wb _ rfl).trans ((rd_wb _ rfl).trans ((rd_fb _ rfl).trans ((rd_wb _ rfl).trans ((rd_wb _ rfl).trans ((rd_fb _ rfl).trans ((rd_fb _ rfl).trans ((rd_fb _ rfl).trans ((rd_fb _ rfl).trans ((rd_fb _ rfl).trans ((rd_fb _ rfl).trans ((rd_wb _ rfl).trans ((rd_wb _ rfl).trans ((rd_wb _ rfl).trans ((rd_wb _ rfl).trans ((rd_wb _ rfl).trans ((rd_wb _ rfl).trans ((rd_wb _ rfl).trans ((rd_wb _ rfl).trans ((rd_wb _ rfl).trans ((rd_fb _ rfl).trans ((rd_fb _ rfl).trans ((rd_fb _ rfl).trans ((rd_fb _ rfl).trans ((rd_fb _ rfl).trans ((rd_cb _ rfl).trans ((rd_wb _ rfl).trans (b_153_0))))))))))))))))))))))))))))) ?_
      refine Tr.iastX (pc := 26) d_X12_run_26 (ty_154 hF) (by decide) (by decide) hF (by decide +kernel) (fun hF => ?_)
      refine Tr.iinc (pc := 27) (ls2 := [(2, (0, 1)), (0, (2, 120)), (1, (0, _))]) d_X12_run_27 rfl (by decide) rfl ?_
      refine Tr.goto (pc := 30) (tgt := 10) d_X12_run_30 rfl ?_
      refine Tr.iload_n (pc := 10) (i := 2) d_X12_run_10 rfl rfl ?_
      refine Tr.iconst (pc := 11) d_X12_run_11 (by decide) ?_
      refine Tr.icmp_ge (pc := 12) (tgt := 33) d_X12_run_12 rfl (fun hc => absurd hc (by decide)) (fun _ => ?_)
      refine Tr.aload_n (pc := 15) (i := 0) d_X12_run_15 rfl rfl ?_
      refine Tr.getf (pc := 16) d_X12_run_16 f_12_171 (by decide) (by decide) (ty_120 hF) ?_
      refine Tr.tp 154 (fx_120_52 hF) ?_
      refine Tr.iload_n (pc := 19) (i := 2) d_X12_run_19 rfl rfl ?_
      refine Tr.aload_n (pc := 20) (i := 0) d_X12_run_20 rfl rfl ?_
      refine Tr.getf (pc := 21) d_X12_run_21 f_12_168 (by decide) (by decide) (ty_120 hF) ?_
      refine Tr.tp 153 (fx_120_51 hF) ?_
      refine Tr.iload_n (pc := 24) (i := 2) d_X12_run_24 rfl rfl ?_
      refine Tr.iald (pc := 25) d_X12_run_25 (ty_153 hF) (by decide) (by decide) ?_
      refine Tr.tp 0 ((rd_wb _ rfl).trans ((rd_wb _ rfl).trans ((rd_wb _ rfl).trans ((rd_wb _ rfl).trans ((rd_fb _ rfl).trans ((rd_wb _ rfl).trans ((rd_wb _ rfl).trans ((rd_fb _ rfl).trans ((rd_fb _ rfl).trans ((rd_fb _ rfl).trans ((rd_fb _ rfl).trans ((rd_fb _ rfl).trans ((rd_fb _ rfl).trans ((rd_wb _ rfl).trans ((rd_wb _ rfl).trans ((rd_wb _ rfl).trans ((rd_wb _ rfl).trans ((rd_wb _ rfl).trans ((rd_wb _ rfl).trans ((rd_wb _ rfl).trans ((rd_wb _ rfl).trans ((rd_wb _ rfl).trans ((rd_fb _ rfl).trans ((rd_fb _ rfl).trans ((rd_fb _ rfl).trans ((rd_fb _ rfl).trans ((rd_fb _ rfl).trans ((rd_cb _ rfl).trans ((rd_wb _ rfl).trans (b_153_1)))))))))))))))))))))))))))))) ?_
      refine Tr.iastX (pc := 26) d_X12_run_26 (ty_154 hF) (by decide) (by decide) hF (by decide +kernel) (fun hF => ?_)
      refine Tr.iinc (pc := 27) (ls2 := [(2, (0, 2)), (0, (2, 120)), (1, (0, _))]) d_X12_run_27 rfl (by decide) rfl ?_
      refine Tr.goto (pc := 30) (tgt := 10) d_X12_run_30 rfl ?_
      refine Tr.iload_n (pc := 10) (i := 2) d_X12_run_10 rfl rfl ?_
      refine Tr.iconst (pc := 11) d_X12_run_11 (by decide) ?_
      refine Tr.icmp_ge (pc := 12) (tgt := 33) d_X12_run_12 rfl (fun hc => absurd hc (by decide)) (fun _ => ?_)
      refine Tr.aload_n (pc := 15) (i := 0) d_X12_run_15 rfl rfl ?_
      refine Tr.getf (pc := 16) d_X12_run_16 f_12_171 (by decide) (by decide) (ty_120 hF) ?_
      refine Tr.tp 154 (fx_120_52 hF) ?_
      refine Tr.iload_n (pc := 19) (i := 2) d_X12_run_19 rfl rfl ?_
      refine Tr.aload_n (pc := 20) (i := 0) d_X12_run_20 rfl rfl ?_
      refine Tr.getf (pc := 21) d_X12_run_21 f_12_168 (by decide) (by decide) (ty_120 hF) ?_
      refine Tr.tp 153 (fx_120_51 hF) ?_
      refine Tr.iload_n (pc := 24) (i := 2) d_X12_run_24 rfl rfl ?_
      refine Tr.iald (pc := 25) d_X12_run_25 (ty_153 hF) (by decide) (by decide) ?_
      refine Tr.tp 0 ((rd_wb _ rfl).trans ((rd_wb _ rfl).trans ((rd_wb _ rfl).trans ((rd_wb _ rfl).trans ((rd_wb _ rfl).trans ((rd_fb _ rfl).trans ((rd_wb _ rfl).trans ((rd_wb _ rfl).trans ((rd_fb _ rfl).trans ((rd_fb _ rfl).trans ((rd_fb _ rfl).trans ((rd_fb _ rfl).trans ((rd_fb _ rfl).trans ((rd_fb _ rfl).trans ((rd_wb _ rfl).trans ((rd_wb _ rfl).trans ((rd_wb _ rfl).trans ((rd_wb _ rfl).trans ((rd_wb _ rfl).trans ((rd_wb _ rfl).trans ((rd_wb _ rfl).trans ((rd_wb _ rfl).trans ((rd_wb _ rfl).trans ((rd_fb _ rfl).trans ((rd_fb _ rfl).trans ((rd_fb _ rfl).trans ((rd_fb _ rfl).trans ((rd_fb _ rfl).trans ((rd_cb _ rfl).trans ((rd_wb _ rfl).trans (b_153_2))))))))))))))))))))))))))))))) ?_
      refine Tr.iastX (pc := 26) d_X12_run_26 (ty_154 hF) (by decide) (by decide) hF (by decide +kernel) (fun hF => ?_)
      refine Tr.iinc (pc := 27) (ls2 := [(2, (0, 3)), (0, (2, 120)), (1, (0, _))]) d_X12_run_27 rfl (by decide) rfl ?_
      refine Tr.goto (pc := 30) (tgt := 10) d_X12_run_30 rfl ?_
      refine Tr.iload_n (pc := 10) (i := 2) d_X12_run_10 rfl rfl ?_
      refine Tr.iconst (pc := 11) d_X12_run_11 (by decide) ?_
      refine Tr.icmp_ge (pc := 12) (tgt := 33) d_X12_run_12 rfl (fun _ => ?_) (fun hc => absurd (by decide) hc)
      refine Tr.aload_n (pc := 33) (i := 0) d_X12_run_33 rfl rfl ?_
      refine Tr.iconst (pc := 34) d_X12_run_34 (by decide) ?_
      refine Tr.putzX (pc := 35) d_X12_run_35 f_12_225 (by decide) (ty_120 hF) (by decide) hF (by decide +kernel) (fun hF => ?_)
      refine Tr.aload_n (pc := 38) (i := 0) d_X12_run_38 rfl rfl ?_
      refine Tr.iload_n (pc := 39) (i := 1) d_X12_run_39 rfl rfl ?_
      refine Tr.i2l (pc := 40) d_X12_run_40 ?_
      refine Tr.callV (pc := 41) (as := [_]) d_X12_run_41 s_12_637 ok_X12_runs rfl rfl (Nat.le_of_ble_eq_true rfl) (Nat.le_of_ble_eq_true rfl) (by decide) (ty_120 hF) ?_
      refine Tr.lc [(0, (2, 120)), (1, (1, _))] rfl ?_
      refine Tr.iconst (pc := 0) d_X12_runs_0 (by decide) ?_
      refine Tr.istore_n (pc := 1) (i := 3) (ls2 := [(3, (0, 0)), (0, (2, 120)), (1, (1, _))]) d_X12_runs_1 rfl (by decide) rfl ?_
      refine Tr.iload_n (pc := 2) (i := 3) d_X12_runs_2 rfl rfl ?_
      refine Tr.bipush (pc := 3) d_X12_runs_3 rfl (by decide) ?_
      refine Tr.icmp_ge (pc := 5) (tgt := 21) d_X12_runs_5 rfl (fun hc => absurd hc (by decide)) (fun _ => ?_)
      refine Tr.aload_n (pc := 8) (i := 0) d_X12_runs_8 rfl rfl ?_
      refine Tr.getf (pc := 9) d_X12_runs_9 f_12_174 (by decide) (by decide) (ty_120 hF) ?_
      refine Tr.tp 155 (fx_120_53 hF) ?_
      refine Tr.iload_n (pc := 12) (i := 3) d_X12_runs_12 rfl rfl ?_
      refine Tr.iconst (pc := 13) d_X12_runs_13 (by decide) ?_
      refine Tr.iastX (pc := 14) d_X12_runs_14 (ty_155 hF) (by decide) (by decide) hF (by decide +kernel) (fun hF => ?_)
      refine Tr.iinc (pc := 15) (ls2 := [(3, (0, 1)), (0, (2, 120)), (1, (1, _))]) d_X12_runs_15 rfl (by decide) rfl ?_
      refine Tr.goto (pc := 18) (tgt := 2) d_X12_runs_18 rfl ?_
      refine Tr.iload_n (pc := 2) (i := 3) d_X12_runs_2 rfl rfl ?_
      refine Tr.bipush (pc := 3) d_X12_runs_3 rfl (by decide) ?_
      refine Tr.icmp_ge (pc := 5) (tgt := 21) d_X12_runs_5 rfl (fun hc => absurd hc (by decide)) (fun _ => ?_)
      refine Tr.aload_n (pc := 8) (i := 0) d_X12_runs_8 rfl rfl ?_
      refine Tr.getf (pc := 9) d_X12_runs_9 f_12_174 (by decide) (by decide) (ty_120 hF) ?_
      refine Tr.tp 155 (fx_120_53 hF) ?_
      refine Tr.iload_n (pc := 12) (i := 3) d_X12_runs_12 rfl rfl ?_
      refine Tr.iconst (pc := 13) d_X12_runs_13 (by decide) ?_
      refine Tr.iastX (pc := 14) d_X12_runs_14 (ty_155 hF) (by decide) (by decide) hF (by decide +kernel) (fun hF => ?_)
      refine Tr.iinc (pc := 15) (ls2 := [(3, (0, 2)), (0, (2, 120)), (1, (1, _))]) d_X12_runs_15 rfl (by decide) rfl ?_
      refine Tr.goto (pc := 18) (tgt := 2) d_X12_runs_18 rfl ?_
      refine Tr.iload_n (pc := 2) (i := 3) d_X12_runs_2 rfl rfl ?_
      refine Tr.bipush (pc := 3) d_X12_runs_3 rfl (by decide) ?_
      refine Tr.icmp_ge (pc := 5) (tgt := 21) d_X12_runs_5 rfl (fun hc => absurd hc (by decide)) (fun _ => ?_)
      refine Tr.aload_n (pc := 8) (i := 0) d_X12_runs_8 rfl rfl ?_
      refine Tr.getf (pc := 9) d_X12_runs_9 f_12_174 (by decide) (by decide) (ty_120 hF) ?_
      refine Tr.tp 155 (fx_120_53 hF) ?_
      refine Tr.iload_n (pc := 12) (i := 3) d_X12_runs_12 rfl rfl ?_
      refine Tr.iconst (pc := 13) d_X12_runs_13 (by decide) ?_
      refine Tr.iastX (pc := 14) d_X12_runs_14 (ty_155 hF) (by decide) (by decide) hF (by decide +kernel) (fun hF => ?_)
      refine Tr.iinc (pc := 15) (ls2 := [(3, (0, 3)), (0, (2, 120)), (1, (1, _))]) d_X12_runs_15 rfl (by decide) rfl ?_
      refine Tr.goto (pc := 18) (tgt := 2) d_X12_runs_18 rfl ?_
      refine Tr.iload_n (pc := 2) (i := 3) d_X12_runs_2 rfl rfl ?_
      refine Tr.bipush (pc := 3) d_X12_runs_3 rfl (by decide) ?_
      refine Tr.icmp_ge (pc := 5) (tgt := 21) d_X12_runs_5 rfl (fun hc => absurd hc (by decide)) (fun _ => ?_)
      refine Tr.aload_n (pc := 8) (i := 0) d_X12_runs_8 rfl rfl ?_
      refine Tr.getf (pc := 9) d_X12_runs_9 f_12_174 (by decide) (by decide) (ty_120 hF) ?_
      refine Tr.tp 155 (fx_120_53 hF) ?_
      refine Tr.iload_n (pc := 12) (i := 3) d_X12_runs_12 rfl rfl ?_
      refine Tr.iconst (pc := 13) d_X12_runs_13 (by decide) ?_
      refine Tr.iastX (pc := 14) d_X12_runs_14 (ty_155 hF) (by decide) (by decide) hF (by decide +kernel) (fun hF => ?_)
      refine Tr.iinc (pc := 15) (ls2 := [(3, (0, 4)), (0, (2, 120)), (1, (1, _))]) d_X12_runs_15 rfl (by decide) rfl ?_
      refine Tr.goto (pc := 18) (tgt := 2) d_X12_runs_18 rfl ?_
      refine Tr.iload_n (pc := 2) (i := 3) d_X12_runs_2 rfl rfl ?_
      refine Tr.bipush (pc := 3) d_X12_runs_3 rfl (by decide) ?_
      refine Tr.icmp_ge (pc := 5) (tgt := 21) d_X12_runs_5 rfl (fun hc => absurd hc (by decide)) (fun _ => ?_)
      refine Tr.aload_n (pc := 8) (i := 0) d_X12_runs_8 rfl rfl ?_
      refine Tr.getf (pc := 9) d_X12_runs_9 f_12_174 (by decide) (by decide) (ty_120 hF) ?_
      refine Tr.tp 155 (fx_120_53 hF) ?_
      refine Tr.iload_n (pc := 12) (i := 3) d_X12_runs_12 rfl rfl ?_
      refine Tr.iconst (pc := 13) d_X12_runs_13 (by decide) ?_
      refine Tr.iastX (pc := 14) d_X12_runs_14 (ty_155 hF) (by decide) (by decide) hF (by decide +kernel) (fun hF => ?_)
      refine Tr.iinc (pc := 15) (ls2 := [(3, (0, 5)), (0, (2, 120)), (1, (1, _))]) d_X12_runs_15 rfl (by decide) rfl ?_
      refine Tr.goto (pc := 18) (tgt := 2) d_X12_runs_18 rfl ?_
      refine Tr.iload_n (pc := 2) (i := 3) d_X12_runs_2 rfl rfl ?_
      refine Tr.bipush (pc := 3) d_X12_runs_3 rfl (by decide) ?_
      refine Tr.icmp_ge (pc := 5) (tgt := 21) d_X12_runs_5 rfl (fun hc => absurd hc (by decide)) (fun _ => ?_)
      refine Tr.aload_n (pc := 8) (i := 0) d_X12_runs_8 rfl rfl ?_
      refine Tr.getf (pc := 9) d_X12_runs_9 f_12_174 (by decide) (by decide) (ty_120 hF) ?_
      refine Tr.tp 155 (fx_120_53 hF) ?_
      refine Tr.iload_n (pc := 12) (i := 3) d_X12_runs_12 rfl rfl ?_
      refine Tr.iconst (pc := 13) d_X12_runs_13 (by decide) ?_
      refine Tr.iastX (pc := 14) d_X12_runs_14 (ty_155 hF) (by decide) (by decide) hF (by decide +kernel) (fun hF => ?_)
      refine Tr.iinc (pc := 15) (ls2 := [(3, (0, 6)), (0, (2, 120)), (1, (1, _))]) d_X12_runs_15 rfl (by decide) rfl ?_
      refine Tr.goto (pc := 18) (tgt := 2) d_X12_runs_18 rfl ?_
      refine Tr.iload_n (pc := 2) (i := 3) d_X12_runs_2 rfl rfl ?_
      refine Tr.bipush (pc := 3) d_X12_runs_3 rfl (by decide) ?_
      refine Tr.icmp_ge (pc := 5) (tgt := 21) d_X12_runs_5 rfl (fun _ => ?_) (fun hc => absurd (by decide) hc)
      refine Tr.iconst (pc := 21) d_X12_runs_21 (by decide) ?_
      refine Tr.istore_n (pc := 22) (i := 3) (ls2 := [(3, (0, 0)), (0, (2, 120)), (1, (1, _))]) d_X12_runs_22 rfl (by decide) rfl ?_
      refine Tr.iload_n (pc := 23) (i := 3) d_X12_runs_23 rfl rfl ?_
      refine Tr.bipush (pc := 24) d_X12_runs_24 rfl (by decide) ?_
      refine Tr.icmp_ge (pc := 26) (tgt := 63) d_X12_runs_26 rfl (fun hc => absurd hc (by decide)) (fun _ => ?_)
      refine Tr.aload_n (pc := 29) (i := 0) d_X12_runs_29 rfl rfl ?_
      refine Tr.getf (pc := 30) d_X12_runs_30 f_12_177 (by decide) (by decide) (ty_120 hF) ?_
      refine Tr.tp 156 (fx_120_54 hF) ?_
      refine Tr.iload_n (pc := 33) (i := 3) d_X12_runs_33 rfl rfl ?_
      refine Tr.iconst (pc := 34) d_X12_runs_34 (by decide) ?_
      refine Tr.zastX (pc := 35) d_X12_runs_35 (ty_156 hF) (by decide) (by decide) (by decide) hF (by decide +kernel) (fun hF => ?_)
      refine Tr.aload_n (pc := 36) (i := 0) d_X12_runs_36 rfl rfl ?_
      refine Tr.getf (pc := 37) d_X12_runs_37 f_12_180 (by decide) (by decide) (ty_120 hF) ?_
      refine Tr.tp 157 (fx_120_55 hF) ?_
      refine Tr.iload_n (pc := 40) (i := 3) d_X12_runs_40 rfl rfl ?_
      refine Tr.iconst (pc := 41) d_X12_runs_41 (by decide) ?_
      refine Tr.iastX (pc := 42) d_X12_runs_42 (ty_157 hF) (by decide) (by decide) hF (by decide +kernel) (fun hF => ?_)
      refine Tr.aload_n (pc := 43) (i := 0) d_X12_runs_43 rfl rfl ?_
      refine Tr.getf (pc := 44) d_X12_runs_44 f_12_183 (by decide) (by decide) (ty_120 hF) ?_
      refine Tr.tp 158 (fx_120_56 hF) ?_
      refine Tr.iload_n (pc := 47) (i := 3) d_X12_runs_47 rfl rfl ?_
      refine Tr.iconst (pc := 48) d_X12_runs_48 (by decide) ?_
      refine Tr.iastX (pc := 49) d_X12_runs_49 (ty_158 hF) (by decide) (by decide) hF (by decide +kernel) (fun hF => ?_)
      refine Tr.aload_n (pc := 50) (i := 0) d_X12_runs_50 rfl rfl ?_
      refine Tr.getf (pc := 51) d_X12_runs_51 f_12_186 (by decide) (by decide) (ty_120 hF) ?_
      refine Tr.tp 159 (fx_120_57 hF) ?_
      refine Tr.iload_n (pc := 54) (i := 3) d_X12_runs_54 rfl rfl ?_
      refine Tr.iconst (pc := 55) d_X12_runs_55 (by decide) ?_
      refine Tr.iastX (pc := 56) d_X12_runs_56 (ty_159 hF) (by decide) (by decide) hF (by decide +kernel) (fun hF => ?_)
      refine Tr.iinc (pc := 57) (ls2 := [(3, (0, 1)), (0, (2, 120)), (1, (1, _))]) d_X12_runs_57 rfl (by decide) rfl ?_
      refine Tr.goto (pc := 60) (tgt := 23) d_X12_runs_60 rfl ?_
      refine Tr.iload_n (pc := 23) (i := 3) d_X12_runs_23 rfl rfl ?_
      refine Tr.bipush (pc := 24) d_X12_runs_24 rfl (by decide) ?_
      refine Tr.icmp_ge (pc := 26) (tgt := 63) d_X12_runs_26 rfl (fun hc => absurd hc (by decide)) (fun _ => ?_)
      refine Tr.aload_n (pc := 29) (i := 0) d_X12_runs_29 rfl rfl ?_
      refine Tr.getf (pc := 30) d_X12_runs_30 f_12_177 (by decide) (by decide) (ty_120 hF) ?_
      refine Tr.tp 156 (fx_120_54 hF) ?_
      refine Tr.iload_n (pc := 33) (i := 3) d_X12_runs_33 rfl rfl ?_
      refine Tr.iconst (pc := 34) d_X12_runs_34 (by decide) ?_
      refine Tr.zastX (pc := 35) d_X12_runs_35 (ty_156 hF) (by decide) (by decide) (by decide) hF (by decide +kernel) (fun hF => ?_)
      refine Tr.aload_n (pc := 36) (i := 0) d_X12_runs_36 rfl rfl ?_
      refine Tr.getf (pc := 37) d_X12_runs_37 f_12_180 (by decide) (by decide) (ty_120 hF) ?_
      refine Tr.tp 157 (fx_120_55 hF) ?_
      refine Tr.iload_n (pc := 40) (i := 3) d_X12_runs_40 rfl rfl ?_
      refine Tr.iconst (pc := 41) d_X12_runs_41 (by decide) ?_
      refine Tr.iastX (pc := 42) d_X12_runs_42 (ty_157 hF) (by decide) (by decide) hF (by decide +kernel) (fun hF => ?_)
      refine Tr.aload_n (pc := 43) (i := 0) d_X12_runs_43 rfl rfl ?_
      refine Tr.getf (pc := 44) d_X12_runs_44 f_12_183 (by decide) (by decide) (ty_120 hF) ?_
      refine Tr.tp 158 (fx_120_56 hF) ?_
      refine Tr.iload_n (pc := 47) (i := 3) d_X12_runs_47 rfl rfl ?_
      refine Tr.iconst (pc := 48) d_X12_runs_48 (by decide) ?_
      refine Tr.iastX (pc := 49) d_X12_runs_49 (ty_158 hF) (by decide) (by decide) hF (by decide +kernel) (fun hF => ?_)
      refine Tr.aload_n (pc := 50) (i := 0) d_X12_runs_50 rfl rfl ?_
      refine Tr.getf (pc := 51) d_X12_runs_51 f_12_186 (by decide) (by decide) (ty_120 hF) ?_
      refine Tr.tp 159 (fx_120_57 hF) ?_
      refine Tr.iload_n (pc := 54) (i := 3) d_X12_runs_54 rfl rfl ?_
      refine Tr.iconst (pc := 55) d_X12_runs_55 (by decide) ?_
      refine Tr.iastX (pc := 56) d_X12_runs_56 (ty_159 hF) (by decide) (by decide) hF (by decide +kernel) (fun hF => ?_)
      refine Tr.iinc (pc := 57) (ls2 := [(3, (0, 2)), (0, (2, 120)), (1, (1, _))]) d_X12_runs_57 rfl (by decide) rfl ?_
      refine Tr.goto (pc := 60) (tgt := 23) d_X12_runs_60 rfl ?_
      refine Tr.iload_n (pc := 23) (i := 3) d_X12_runs_23 rfl rfl ?_
      refine Tr.bipush (pc := 24) d_X12_runs_24 rfl (by decide) ?_
      refine Tr.icmp_ge (pc := 26) (tgt := 63) d_X12_runs_26 rfl (fun hc => absurd hc (by decide)) (fun _ => ?_)
      refine Tr.aload_n (pc := 29) (i := 0) d_X12_runs_29 rfl rfl ?_
      refine Tr.getf (pc := 30) d_X12_runs_30 f_12_177 (by decide) (by decide) (ty_120 hF) ?_
      refine Tr.tp 156 (fx_120_54 hF) ?_
      refine Tr.iload_n (pc := 33) (i := 3) d_X12_runs_33 rfl rfl ?_
      refine Tr.iconst (pc := 34) d_X12_runs_34 (by decide) ?_
      refine Tr.zastX (pc := 35) d_X12_runs_35 (ty_156 hF) (by decide) (by decide) (by decide) hF (by decide +kernel) (fun hF => ?_)
      refine Tr.aload_n (pc := 36) (i := 0) d_X12_runs_36 rfl rfl ?_
      refine Tr.getf (pc := 37) d_X12_runs_37 f_12_180 (by decide) (by decide) (ty_120 hF) ?_
      refine Tr.tp 157 (fx_120_55 hF) ?_
      refine Tr.iload_n (pc := 40) (i := 3) d_X12_runs_40 rfl rfl ?_
      refine Tr.iconst (pc := 41) d_X12_runs_41 (by decide) ?_
      refine Tr.iastX (pc := 42) d_X12_runs_42 (ty_157 hF) (by decide) (by decide) hF (by decide +kernel) (fun hF => ?_)
      refine Tr.aload_n (pc := 43) (i := 0) d_X12_runs_43 rfl rfl ?_
      refine Tr.getf (pc := 44) d_X12_runs_44 f_12_183 (by decide) (by decide) (ty_120 hF) ?_
      refine Tr.tp 158 (fx_120_56 hF) ?_
      refine Tr.iload_n (pc := 47) (i := 3) d_X12_runs_47 rfl rfl ?_
      refine Tr.iconst (pc := 48) d_X12_runs_48 (by decide) ?_
      refine Tr.iastX (pc := 49) d_X12_runs_49 (ty_158 hF) (by decide) (by decide) hF (by decide +kernel) (fun hF => ?_)
      refine Tr.aload_n (pc := 50) (i := 0) d_X12_runs_50 rfl rfl ?_
      refine Tr.getf (pc := 51) d_X12_runs_51 f_12_186 (by decide) (by decide) (ty_120 hF) ?_
      refine Tr.tp 159 (fx_120_57 hF) ?_
      refine Tr.iload_n (pc := 54) (i := 3) d_X12_runs_54 rfl rfl ?_
      refine Tr.iconst (pc := 55) d_X12_runs_55 (by decide) ?_
      refine Tr.iastX (pc := 56) d_X12_runs_56 (ty_159 hF) (by decide) (by decide) hF (by decide +kernel) (fun hF => ?_)
      refine Tr.iinc (pc := 57) (ls2 := [(3, (0, 3)), (0, (2, 120)), (1, (1, _))]) d_X12_runs_57 rfl (by decide) rfl ?_
      refine Tr.goto (pc := 60) (tgt := 23) d_X12_runs_60 rfl ?_
      refine Tr.iload_n (pc := 23) (i := 3) d_X12_runs_23 rfl rfl ?_
      refine Tr.bipush (pc := 24) d_X12_runs_24 rfl (by decide) ?_
      refine Tr.icmp_ge (pc := 26) (tgt := 63) d_X12_runs_26 rfl (fun hc => absurd hc (by decide)) (fun _ => ?_)
      refine Tr.aload_n (pc := 29) (i := 0) d_X12_runs_29 rfl rfl ?_
      refine Tr.getf (pc := 30) d_X12_runs_30 f_12_177 (by decide) (by decide) (ty_120 hF) ?_
      refine Tr.tp 156 (fx_120_54 hF) ?_
      refine Tr.iload_n (pc := 33) (i := 3) d_X12_runs_33 rfl rfl ?_
      refine Tr.iconst (pc := 34) d_X12_runs_34 (by decide) ?_
      refine Tr.zastX (pc := 35) d_X12_runs_35 (ty_156 hF) (by decide) (by decide) (by decide) hF (by decide +kernel) (fun hF => ?_)
      refine Tr.aload_n (pc := 36) (i := 0) d_X12_runs_36 rfl rfl ?_
      refine Tr.getf (pc := 37) d_X12_runs_37 f_12_180 (by decide) (by decide) (ty_120 hF) ?_
      refine Tr.tp 157 (fx_120_55 hF) ?_
      refine Tr.iload_n (pc := 40) (i := 3) d_X12_runs_40 rfl rfl ?_
      refine Tr.iconst (pc := 41) d_X12_runs_41 (by decide) ?_
      refine Tr.iastX (pc := 42) d_X12_runs_42 (ty_157 hF) (by decide) (by decide) hF (by decide +kernel) (fun hF => ?_)
      refine Tr.aload_n (pc := 43) (i := 0) d_X12_runs_43 rfl rfl ?_
      refine Tr.getf (pc := 44) d_X12_runs_44 f_12_183 (by decide) (by decide) (ty_120 hF) ?_
      refine Tr.tp 158 (fx_120_56 hF) ?_
      refine Tr.iload_n (pc := 47) (i := 3) d_X12_runs_47 rfl rfl ?_
      refine Tr.iconst (pc := 48) d_X12_runs_48 (by decide) ?_
      refine Tr.iastX (pc := 49) d_X12_runs_49 (ty_158 hF) (by decide) (by decide) hF (by decide +kernel) (fun hF => ?_)
      refine Tr.aload_n (pc := 50) (i := 0) d_X12_runs_50 rfl rfl ?_
      refine Tr.getf (pc := 51) d_X12_runs_51 f_12_186 (by decide) (by decide) (ty_120 hF) ?_
      refine Tr.tp 159 (fx_120_57 hF) ?_
      refine Tr.iload_n (pc := 54) (i := 3) d_X12_runs_54 rfl rfl ?_
      refine Tr.iconst (pc := 55) d_X12_runs_55 (by decide) ?_
      refine Tr.iastX (pc := 56) d_X12_runs_56 (ty_159 hF) (by decide) (by decide) hF (by decide +kernel) (fun hF => ?_)
      refine Tr.iinc (pc := 57) (ls2 := [(3, (0, 4)), (0, (2, 120)), (1, (1, _))]) d_X12_runs_57 rfl (by decide) rfl ?_
      refine Tr.goto (pc := 60) (tgt := 23) d_X12_runs_60 rfl ?_
      refine Tr.iload_n (pc := 23) (i := 3) d_X12_runs_23 rfl rfl ?_
      refine Tr.bipush (pc := 24) d_X12_runs_24 rfl (by decide) ?_
      refine Tr.icmp_ge (pc := 26) (tgt := 63) d_X12_runs_26 rfl (fun hc => absurd hc (by decide)) (fun _ => ?_)
      refine Tr.aload_n (pc := 29) (i := 0) d_X12_runs_29 rfl rfl ?_
      refine Tr.getf (pc := 30) d_X12_runs_30 f_12_177 (by decide) (by decide) (ty_120 hF) ?_
      refine Tr.tp 156 (fx_120_54 hF) ?_
      refine Tr.iload_n (pc := 33) (i := 3) d_X12_runs_33 rfl rfl ?_
      refine Tr.iconst (pc := 34) d_X12_runs_34 (by decide) ?_
      refine Tr.zastX (pc := 35) d_X12_runs_35 (ty_156 hF) (by decide) (by decide) (by decide) hF (by decide +kernel) (fun hF => ?_)
      refine Tr.aload_n (pc := 36) (i := 0) d_X12_runs_36 rfl rfl ?_
      refine Tr.getf (pc := 37) d_X12_runs_37 f_12_180 (by decide) (by decide) (ty_120 hF) ?_
      refine Tr.tp 157 (fx_120_55 hF) ?_
      refine Tr.iload_n (pc := 40) (i := 3) d_X12_runs_40 rfl rfl ?_
      refine Tr.iconst (pc := 41) d_X12_runs_41 (by decide) ?_
      refine Tr.iastX (pc := 42) d_X12_runs_42 (ty_157 hF) (by decide) (by decide) hF (by decide +kernel) (fun hF => ?_)
      refine Tr.aload_n (pc := 43) (i := 0) d_X12_runs_43 rfl rfl ?_
      refine Tr.getf (pc := 44) d_X12_runs_44 f_12_183 (by decide) (by decide) (ty_120 hF) ?_
      refine Tr.tp 158 (fx_120_56 hF) ?_
      refine Tr.iload_n (pc := 47) (i := 3) d_X12_runs_47 rfl rfl ?_
      refine Tr.iconst (pc := 48) d_X12_runs_48 (by decide) ?_
      refine Tr.iastX (pc := 49) d_X12_runs_49 (ty_158 hF) (by decide) (by decide) hF (by decide +kernel) (fun hF => ?_)
      refine Tr.aload_n (pc := 50) (i := 0) d_X12_runs_50 rfl rfl ?_
      refine Tr.getf (pc := 51) d_X12_runs_51 f_12_186 (by decide) (by decide) (ty_120 hF) ?_
      refine Tr.tp 159 (fx_120_57 hF) ?_
      refine Tr.iload_n (pc := 54) (i := 3) d_X12_runs_54 rfl rfl ?_
      refine Tr.iconst (pc := 55) d_X12_runs_55 (by decide) ?_
      refine Tr.iastX (pc := 56) d_X12_runs_56 (ty_159 hF) (by decide) (by decide) hF (by decide +kernel) (fun hF => ?_)
      refine Tr.iinc (pc := 57) (ls2 := [(3, (0, 5)), (0, (2, 120)), (1, (1, _))]) d_X12_runs_57 rfl (by decide) rfl ?_
      refine Tr.goto (pc := 60) (tgt := 23) d_X12_runs_60 rfl ?_
      refine Tr.iload_n (pc := 23) (i := 3) d_X12_runs_23 rfl rfl ?_
      refine Tr.bipush (pc := 24) d_X12_runs_24 rfl (by decide) ?_
      refine Tr.icmp_ge (pc := 26) (tgt := 63) d_X12_runs_26 rfl (fun hc => absurd hc (by decide)) (fun _ => ?_)
      refine Tr.aload_n (pc := 29) (i := 0) d_X12_runs_29 rfl rfl ?_
      refine Tr.getf (pc := 30) d_X12_runs_30 f_12_177 (by decide) (by decide) (ty_120 hF) ?_
      refine Tr.tp 156 (fx_120_54 hF) ?_
      refine Tr.iload_n (pc := 33) (i := 3) d_X12_runs_33 rfl rfl ?_
      refine Tr.iconst (pc := 34) d_X12_runs_34 (by decide) ?_
      refine Tr.zastX (pc := 35) d_X12_runs_35 (ty_156 hF) (by decide) (by decide) (by decide) hF (by decide +kernel) (fun hF => ?_)
      refine Tr.aload_n (pc := 36) (i := 0) d_X12_runs_36 rfl rfl ?_
      refine Tr.getf (pc := 37) d_X12_runs_37 f_12_180 (by decide) (by decide) (ty_120 hF) ?_
      refine Tr.tp 157 (fx_120_55 hF) ?_
      refine Tr.iload_n (pc := 40) (i := 3) d_X12_runs_40 rfl rfl ?_
      refine Tr.iconst (pc := 41) d_X12_runs_41 (by decide) ?_
      refine Tr.iastX (pc := 42) d_X12_runs_42 (ty_157 hF) (by decide) (by decide) hF (by decide +kernel) (fun hF => ?_)
      refine Tr.aload_n (pc := 43) (i := 0) d_X12_runs_43 rfl rfl ?_
      refine Tr.getf (pc := 44) d_X12_runs_44 f_12_183 (by decide) (by decide) (ty_120 hF) ?_
      refine Tr.tp 158 (fx_120_56 hF) ?_
      refine Tr.iload_n (pc := 47) (i := 3) d_X12_runs_47 rfl rfl ?_
      refine Tr.iconst (pc := 48) d_X12_runs_48 (by decide) ?_
      refine Tr.iastX (pc := 49) d_X12_runs_49 (ty_158 hF) (by decide) (by decide) hF (by decide +kernel) (fun hF => ?_)
      refine Tr.aload_n (pc := 50) (i := 0) d_X12_runs_50 rfl rfl ?_
      refine Tr.getf (pc := 51) d_X12_runs_51 f_12_186 (by decide) (by decide) (ty_120 hF) ?_
      refine Tr.tp 159 (fx_120_57 hF) ?_
      refine Tr.iload_n (pc := 54) (i := 3) d_X12_runs_54 rfl rfl ?_
      refine Tr.iconst (pc := 55) d_X12_runs_55 (by decide) ?_
      refine Tr.iastX (pc := 56) d_X12_runs_56 (ty_159 hF) (by decide) (by decide) hF (by decide +kernel) (fun hF => ?_)
      refine Tr.iinc (pc := 57) (ls2 := [(3, (0, 6)), (0, (2, 120)), (1, (1, _))]) d_X12_runs_57 rfl (by decide) rfl ?_
      refine Tr.goto (pc := 60) (tgt := 23) d_X12_runs_60 rfl ?_
      refine Tr.iload_n (pc := 23) (i := 3) d_X12_runs_23 rfl rfl ?_
      refine Tr.bipush (pc := 24) d_X12_runs_24 rfl (by decide) ?_
      refine Tr.icmp_ge (pc := 26) (tgt := 63) d_X12_runs_26 rfl (fun _ => ?_) (fun hc => absurd (by decide) hc)
      refine Tr.iconst (pc := 63) d_X12_runs_63 (by decide) ?_
      refine Tr.istore_n (pc := 64) (i := 3) (ls2 := [(3, (0, 0)), (0, (2, 120)), (1, (1, _))]) d_X12_runs_64 rfl (by decide) rfl ?_
      refine Tr.iload_n (pc := 65) (i := 3) d_X12_runs_65 rfl rfl ?_
      refine Tr.bipush (pc := 66) d_X12_runs_66 rfl (by decide) ?_
      refine Tr.icmp_ge (pc := 68) (tgt := 84) d_X12_runs_68 rfl (fun hc => absurd hc (by decide)) (fun _ => ?_)
      refine Tr.aload_n (pc := 71) (i := 0) d_X12_runs_71 rfl rfl ?_
      refine Tr.getf (pc := 72) d_X12_runs_72 f_12_189 (by decide) (by decide) (ty_120 hF) ?_
      refine Tr.tp 160 (fx_120_58 hF) ?_
      refine Tr.iload_n (pc := 75) (i := 3) d_X12_runs_75 rfl rfl ?_
      refine Tr.iconst (pc := 76) d_X12_runs_76 (by decide) ?_
      refine Tr.iastX (pc := 77) d_X12_runs_77 (ty_160 hF) (by decide) (by decide) hF (by decide +kernel) (fun hF => ?_)
      refine Tr.iinc (pc := 78) (ls2 := [(3, (0, 1)), (0, (2, 120)), (1, (1, _))]) d_X12_runs_78 rfl (by decide) rfl ?_
      refine Tr.goto (pc := 81) (tgt := 65) d_X12_runs_81 rfl ?_
      refine Tr.iload_n (pc := 65) (i := 3) d_X12_runs_65 rfl rfl ?_
      refine Tr.bipush (pc := 66) d_X12_runs_66 rfl (by decide) ?_
      refine Tr.icmp_ge (pc := 68) (tgt := 84) d_X12_runs_68 rfl (fun hc => absurd hc (by decide)) (fun _ => ?_)
      refine Tr.aload_n (pc := 71) (i := 0) d_X12_runs_71 rfl rfl ?_
      refine Tr.getf (pc := 72) d_X12_runs_72 f_12_189 (by decide) (by decide) (ty_120 hF) ?_
      refine Tr.tp 160 (fx_120_58 hF) ?_
      refine Tr.iload_n (pc := 75) (i := 3) d_X12_runs_75 rfl rfl ?_
      refine Tr.iconst (pc := 76) d_X12_runs_76 (by decide) ?_
      refine Tr.iastX (pc := 77) d_X12_runs_77 (ty_160 hF) (by decide) (by decide) hF (by decide +kernel) (fun hF => ?_)
      refine Tr.iinc (pc := 78) (ls2 := [(3, (0, 2)), (0, (2, 120)), (1, (1, _))]) d_X12_runs_78 rfl (by decide) rfl ?_
      refine Tr.goto (pc := 81) (tgt := 65) d_X12_runs_81 rfl ?_
      refine Tr.iload_n (pc := 65) (i := 3) d_X12_runs_65 rfl rfl ?_
      refine Tr.bipush (pc := 66) d_X12_runs_66 rfl (by decide) ?_
      refine Tr.icmp_ge (pc := 68) (tgt := 84) d_X12_runs_68 rfl (fun hc => absurd hc (by decide)) (fun _ => ?_)
      refine Tr.aload_n (pc := 71) (i := 0) d_X12_runs_71 rfl rfl ?_
      refine Tr.getf (pc := 72) d_X12_runs_72 f_12_189 (by decide) (by decide) (ty_120 hF) ?_
      refine Tr.tp 160 (fx_120_58 hF) ?_
      refine Tr.iload_n (pc := 75) (i := 3) d_X12_runs_75 rfl rfl ?_
      refine Tr.iconst (pc := 76) d_X12_runs_76 (by decide) ?_
      refine Tr.iastX (pc := 77) d_X12_runs_77 (ty_160 hF) (by decide) (by decide) hF (by decide +kernel) (fun hF => ?_)
      refine Tr.iinc (pc := 78) (ls2 := [(3, (0, 3)), (0, (2, 120)), (1, (1, _))]) d_X12_runs_78 rfl (by decide) rfl ?_
      refine Tr.goto (pc := 81) (tgt := 65) d_X12_runs_81 rfl ?_
      refine Tr.iload_n (pc := 65) (i := 3) d_X12_runs_65 rfl rfl ?_
      refine Tr.bipush (pc := 66) d_X12_runs_66 rfl (by decide) ?_
      refine Tr.icmp_ge (pc := 68) (tgt := 84) d_X12_runs_68 rfl (fun hc => absurd hc (by decide)) (fun _ => ?_)
      refine Tr.aload_n (pc := 71) (i := 0) d_X12_runs_71 rfl rfl ?_
      refine Tr.getf (pc := 72) d_X12_runs_72 f_12_189 (by decide) (by decide) (ty_120 hF) ?_
      refine Tr.tp 160 (fx_120_58 hF) ?_
      refine Tr.iload_n (pc := 75) (i := 3) d_X12_runs_75 rfl rfl ?_
      refine Tr.iconst (pc := 76) d_X12_runs_76 (by decide) ?_
      refine Tr.iastX (pc := 77) d_X12_runs_77 (ty_160 hF) (by decide) (by decide) hF (by decide +kernel) (fun hF => ?_)
      refine Tr.iinc (pc := 78) (ls2 := [(3, (0, 4)), (0, (2, 120)), (1, (1, _))]) d_X12_runs_78 rfl (by decide) rfl ?_
      refine Tr.goto (pc := 81) (tgt := 65) d_X12_runs_81 rfl ?_
      refine Tr.iload_n (pc := 65) (i := 3) d_X12_runs_65 rfl rfl ?_
      refine Tr.bipush (pc := 66) d_X12_runs_66 rfl (by decide) ?_
      refine Tr.icmp_ge (pc := 68) (tgt := 84) d_X12_runs_68 rfl (fun hc => absurd hc (by decide)) (fun _ => ?_)
      refine Tr.aload_n (pc := 71) (i := 0) d_X12_runs_71 rfl rfl ?_
      refine Tr.getf (pc := 72) d_X12_runs_72 f_12_189 (by decide) (by decide) (ty_120 hF) ?_
      refine Tr.tp 160 (fx_120_58 hF) ?_
      refine Tr.iload_n (pc := 75) (i := 3) d_X12_runs_75 rfl rfl ?_
      refine Tr.iconst (pc := 76) d_X12_runs_76 (by decide) ?_
      refine Tr.iastX (pc := 77) d_X12_runs_77 (ty_160 hF) (by decide) (by decide) hF (by decide +kernel) (fun hF => ?_)
      refine Tr.iinc (pc := 78) (ls2 := [(3, (0, 5)), (0, (2, 120)), (1, (1, _))]) d_X12_runs_78 rfl (by decide) rfl ?_
      refine Tr.goto (pc := 81) (tgt := 65) d_X12_runs_81 rfl ?_
      refine Tr.iload_n (pc := 65) (i := 3) d_X12_runs_65 rfl rfl ?_
      refine Tr.bipush (pc := 66) d_X12_runs_66 rfl (by decide) ?_
      refine Tr.icmp_ge (pc := 68) (tgt := 84) d_X12_runs_68 rfl (fun hc => absurd hc (by decide)) (fun _ => ?_)
      refine Tr.aload_n (pc := 71) (i := 0) d_X12_runs_71 rfl rfl ?_
      refine Tr.getf (pc := 72) d_X12_runs_72 f_12_189 (by decide) (by decide) (ty_120 hF) ?_
      refine Tr.tp 160 (fx_120_58 hF) ?_
      refine Tr.iload_n (pc := 75) (i := 3) d_X12_runs_75 rfl rfl ?_
      refine Tr.iconst (pc := 76) d_X12_runs_76 (by decide) ?_
      refine Tr.iastX (pc := 77) d_X12_runs_77 (ty_160 hF) (by decide) (by decide) hF (by decide +kernel) (fun hF => ?_)
      refine Tr.iinc (pc := 78) (ls2 := [(3, (0, 6)), (0, (2, 120)), (1, (1, _))]) d_X12_runs_78 rfl (by decide) rfl ?_
      refine Tr.goto (pc := 81) (tgt := 65) d_X12_runs_81 rfl ?_
      refine Tr.iload_n (pc := 65) (i := 3) d_X12_runs_65 rfl rfl ?_
      refine Tr.bipush (pc := 66) d_X12_runs_66 rfl (by decide) ?_
      refine Tr.icmp_ge (pc := 68) (tgt := 84) d_X12_runs_68 rfl (fun hc => absurd hc (by decide)) (fun _ => ?_)
      refine Tr.aload_n (pc := 71) (i := 0) d_X12_runs_71 rfl rfl ?_
      refine Tr.getf (pc := 72) d_X12_runs_72 f_12_189 (by decide) (by decide) (ty_120 hF) ?_
      refine Tr.tp 160 (fx_120_58 hF) ?_
      refine Tr.iload_n (pc := 75) (i := 3) d_X12_runs_75 rfl rfl ?_
      refine Tr.iconst (pc := 76) d_X12_runs_76 (by decide) ?_
      refine Tr.iastX (pc := 77) d_X12_runs_77 (ty_160 hF) (by decide) (by decide) hF (by decide +kernel) (fun hF => ?_)
      refine Tr.iinc (pc := 78) (ls2 := [(3, (0, 7)), (0, (2, 120)), (1, (1, _))]) d_X12_runs_78 rfl (by decide) rfl ?_
      refine Tr.goto (pc := 81) (tgt := 65) d_X12_runs_81 rfl ?_
      refine Tr.iload_n (pc := 65) (i := 3) d_X12_runs_65 rfl rfl ?_
      refine Tr.bipush (pc := 66) d_X12_runs_66 rfl (by decide) ?_
      refine Tr.icmp_ge (pc := 68) (tgt := 84) d_X12_runs_68 rfl (fun hc => absurd hc (by decide)) (fun _ => ?_)
      refine Tr.aload_n (pc := 71) (i := 0) d_X12_runs_71 rfl rfl ?_
      refine Tr.getf (pc := 72) d_X12_runs_72 f_12_189 (by decide) (by decide) (ty_120 hF) ?_
      refine Tr.tp 160 (fx_120_58 hF) ?_
      refine Tr.iload_n (pc := 75) (i := 3) d_X12_runs_75 rfl rfl ?_
      refine Tr.iconst (pc := 76) d_X12_runs_76 (by decide) ?_
      refine Tr.iastX (pc := 77) d_X12_runs_77 (ty_160 hF) (by decide) (by decide) hF (by decide +kernel) (fun hF => ?_)
      refine Tr.iinc (pc := 78) (ls2 := [(3, (0, 8)), (0, (2, 120)), (1, (1, _))]) d_X12_runs_78 rfl (by decide) rfl ?_
      refine Tr.goto (pc := 81) (tgt := 65) d_X12_runs_81 rfl ?_
      refine Tr.iload_n (pc := 65) (i := 3) d_X12_runs_65 rfl rfl ?_
      refine Tr.bipush (pc := 66) d_X12_runs_66 rfl (by decide) ?_
      refine Tr.icmp_ge (pc := 68) (tgt := 84) d_X12_runs_68 rfl (fun _ => ?_) (fun hc => absurd (by decide) hc)
      refine Tr.iconst (pc := 84) d_X12_runs_84 (by decide) ?_
      refine Tr.istore_n (pc := 85) (i := 3) (ls2 := [(3, (0, 0)), (0, (2, 120)), (1, (1, _))]) d_X12_runs_85 rfl (by decide) rfl ?_
      refine Tr.iload_n (pc := 86) (i := 3) d_X12_runs_86 rfl rfl ?_
      refine Tr.bipush (pc := 87) d_X12_runs_87 rfl (by decide) ?_
      refine Tr.icmp_ge (pc := 89) (tgt := 105) d_X12_runs_89 rfl (fun hc => absurd hc (by decide)) (fun _ => ?_)
      refine Tr.aload_n (pc := 92) (i := 0) d_X12_runs_92 rfl rfl ?_
      refine Tr.getf (pc := 93) d_X12_runs_93 f_12_222 (by decide) (by decide) (ty_120 hF) ?_
      refine Tr.tp 161 (fx_120_69 hF) ?_
      refine Tr.iload_n (pc := 96) (i := 3) d_X12_runs_96 rfl rfl ?_
      refine Tr.iconst (pc := 97) d_X12_runs_97 (by decide) ?_
      refine Tr.iastX (pc := 98) d_X12_runs_98 (ty_161 hF) (by decide) (by decide) hF (by decide +kernel) (fun hF => ?_)
      refine Tr.iinc (pc := 99) (ls2 := [(3, (0, 1)), (0, (2, 120)), (1, (1, _))]) d_X12_runs_99 rfl (by decide) rfl ?_
      refine Tr.goto (pc := 102) (tgt := 86) d_X12_runs_102 rfl ?_
      refine Tr.iload_n (pc := 86) (i := 3) d_X12_runs_86 rfl rfl ?_
      refine Tr.bipush (pc := 87) d_X12_runs_87 rfl (by decide) ?_
      refine Tr.icmp_ge (pc := 89) (tgt := 105) d_X12_runs_89 rfl (fun hc => absurd hc (by decide)) (fun _ => ?_)
      refine Tr.aload_n (pc := 92) (i := 0) d_X12_runs_92 rfl rfl ?_
      refine Tr.getf (pc := 93) d_X12_runs_93 f_12_222 (by decide) (by decide) (ty_120 hF) ?_
      refine Tr.tp 161 (fx_120_69 hF) ?_
      refine Tr.iload_n (pc := 96) (i := 3) d_X12_runs_96 rfl rfl ?_
      refine Tr.iconst (pc := 97) d_X12_runs_97 (by decide) ?_
      refine Tr.iastX (pc := 98) d_X12_runs_98 (ty_161 hF) (by decide) (by decide) hF (by decide +kernel) (fun hF => ?_)
      refine Tr.iinc (pc := 99) (ls2 := [(3, (0, 2)), (0, (2, 120)), (1, (1, _))]) d_X12_runs_99 rfl (by decide) rfl ?_
      refine Tr.goto (pc := 102) (tgt := 86) d_X12_runs_102 rfl ?_
      refine Tr.iload_n (pc := 86) (i := 3) d_X12_runs_86 rfl rfl ?_
      refine Tr.bipush (pc := 87) d_X12_runs_87 rfl (by decide) ?_
      refine Tr.icmp_ge (pc := 89) (tgt := 105) d_X12_runs_89 rfl (fun hc => absurd hc (by decide)) (fun _ => ?_)
      refine Tr.aload_n (pc := 92) (i := 0) d_X12_runs_92 rfl rfl ?_
      refine Tr.getf (pc := 93) d_X12_runs_93 f_12_222 (by decide) (by decide) (ty_120 hF) ?_
      refine Tr.tp 161 (fx_120_69 hF) ?_
      refine Tr.iload_n (pc := 96) (i := 3) d_X12_runs_96 rfl rfl ?_
      refine Tr.iconst (pc := 97) d_X12_runs_97 (by decide) ?_
      refine Tr.iastX (pc := 98) d_X12_runs_98 (ty_161 hF) (by decide) (by decide) hF (by decide +kernel) (fun hF => ?_)
      refine Tr.iinc (pc := 99) (ls2 := [(3, (0, 3)), (0, (2, 120)), (1, (1, _))]) d_X12_runs_99 rfl (by decide) rfl ?_
      refine Tr.goto (pc := 102) (tgt := 86) d_X12_runs_102 rfl ?_
      refine Tr.iload_n (pc := 86) (i := 3) d_X12_runs_86 rfl rfl ?_
      refine Tr.bipush (pc := 87) d_X12_runs_87 rfl (by decide) ?_
      refine Tr.icmp_ge (pc := 89) (tgt := 105) d_X12_runs_89 rfl (fun hc => absurd hc (by decide)) (fun _ => ?_)
      refine Tr.aload_n (pc := 92) (i := 0) d_X12_runs_92 rfl rfl ?_
      refine Tr.getf (pc := 93) d_X12_runs_93 f_12_222 (by decide) (by decide) (ty_120 hF) ?_
      refine Tr.tp 161 (fx_120_69 hF) ?_
      refine Tr.iload_n (pc := 96) (i := 3) d_X12_runs_96 rfl rfl ?_
      refine Tr.iconst (pc := 97) d_X12_runs_97 (by decide) ?_
      refine Tr.iastX (pc := 98) d_X12_runs_98 (ty_161 hF) (by decide) (by decide) hF (by decide +kernel) (fun hF => ?_)
      refine Tr.iinc (pc := 99) (ls2 := [(3, (0, 4)), (0, (2, 120)), (1, (1, _))]) d_X12_runs_99 rfl (by decide) rfl ?_
      refine Tr.goto (pc := 102) (tgt := 86) d_X12_runs_102 rfl ?_
      refine Tr.iload_n (pc := 86) (i := 3) d_X12_runs_86 rfl rfl ?_
      refine Tr.bipush (pc := 87) d_X12_runs_87 rfl (by decide) ?_
      refine Tr.icmp_ge (pc := 89) (tgt := 105) d_X12_runs_89 rfl (fun hc => absurd hc (by decide)) (fun _ => ?_)
      refine Tr.aload_n (pc := 92) (i := 0) d_X12_runs_92 rfl rfl ?_
      refine Tr.getf (pc := 93) d_X12_runs_93 f_12_222 (by decide) (by decide) (ty_120 hF) ?_
      refine Tr.tp 161 (fx_120_69 hF) ?_
      refine Tr.iload_n (pc := 96) (i := 3) d_X12_runs_96 rfl rfl ?_
      refine Tr.iconst (pc := 97) d_X12_runs_97 (by decide) ?_
      refine Tr.iastX (pc := 98) d_X12_runs_98 (ty_161 hF) (by decide) (by decide) hF (by decide +kernel) (fun hF => ?_)
      refine Tr.iinc (pc := 99) (ls2 := [(3, (0, 5)), (0, (2, 120)), (1, (1, _))]) d_X12_runs_99 rfl (by decide) rfl ?_
      refine Tr.goto (pc := 102) (tgt := 86) d_X12_runs_102 rfl ?_
      refine Tr.iload_n (pc := 86) (i := 3) d_X12_runs_86 rfl rfl ?_
      refine Tr.bipush (pc := 87) d_X12_runs_87 rfl (by decide) ?_
      refine Tr.icmp_ge (pc := 89) (tgt := 105) d_X12_runs_89 rfl (fun hc => absurd hc (by decide)) (fun _ => ?_)
      refine Tr.aload_n (pc := 92) (i := 0) d_X12_runs_92 rfl rfl ?_
      refine Tr.getf (pc := 93) d_X12_runs_93 f_12_222 (by decide) (by decide) (ty_120 hF) ?_
      refine Tr.tp 161 (fx_120_69 hF) ?_
      refine Tr.iload_n (pc := 96) (i := 3) d_X12_runs_96 rfl rfl ?_
      refine Tr.iconst (pc := 97) d_X12_runs_97 (by decide) ?_
      refine Tr.iastX (pc := 98) d_X12_runs_98 (ty_161 hF) (by decide) (by decide) hF (by decide +kernel) (fun hF => ?_)
      refine Tr.iinc (pc := 99) (ls2 := [(3, (0, 6)), (0, (2, 120)), (1, (1, _))]) d_X12_runs_99 rfl (by decide) rfl ?_
      refine Tr.goto (pc := 102) (tgt := 86) d_X12_runs_102 rfl ?_
      refine Tr.iload_n (pc := 86) (i := 3) d_X12_runs_86 rfl rfl ?_
      refine Tr.bipush (pc := 87) d_X12_runs_87 rfl (by decide) ?_
      refine Tr.icmp_ge (pc := 89) (tgt := 105) d_X12_runs_89 rfl (fun hc => absurd hc (by decide)) (fun _ => ?_)
      refine Tr.aload_n (pc := 92) (i := 0) d_X12_runs_92 rfl rfl ?_
      refine Tr.getf (pc := 93) d_X12_runs_93 f_12_222 (by decide) (by decide) (ty_120 hF) ?_
      refine Tr.tp 161 (fx_120_69 hF) ?_
      refine Tr.iload_n (pc := 96) (i := 3) d_X12_runs_96 rfl rfl ?_
      refine Tr.iconst (pc := 97) d_X12_runs_97 (by decide) ?_
      refine Tr.iastX (pc := 98) d_X12_runs_98 (ty_161 hF) (by decide) (by decide) hF (by decide +kernel) (fun hF => ?_)
      refine Tr.iinc (pc := 99) (ls2 := [(3, (0, 7)), (0, (2, 120)), (1, (1, _))]) d_X12_runs_99 rfl (by decide) rfl ?_
      refine Tr.goto (pc := 102) (tgt := 86) d_X12_runs_102 rfl ?_
      refine Tr.iload_n (pc := 86) (i := 3) d_X12_runs_86 rfl rfl ?_
      refine Tr.bipush (pc := 87) d_X12_runs_87 rfl (by decide) ?_
      refine Tr.icmp_ge (pc := 89) (tgt := 105) d_X12_runs_89 rfl (fun hc => absurd hc (by decide)) (fun _ => ?_)
      refine Tr.aload_n (pc := 92) (i := 0) d_X12_runs_92 rfl rfl ?_
      refine Tr.getf (pc := 93) d_X12_runs_93 f_12_222 (by decide) (by decide) (ty_120 hF) ?_
      refine Tr.tp 161 (fx_120_69 hF) ?_
      refine Tr.iload_n (pc := 96) (i := 3) d_X12_runs_96 rfl rfl ?_
      refine Tr.iconst (pc := 97) d_X12_runs_97 (by decide) ?_
      refine Tr.iastX (pc := 98) d_X12_runs_98 (ty_161 hF) (by decide) (by decide) hF (by decide +kernel) (fun hF => ?_)
      refine Tr.iinc (pc := 99) (ls2 := [(3, (0, 8)), (0, (2, 120)), (1, (1, _))]) d_X12_runs_99 rfl (by decide) rfl ?_
      refine Tr.goto (pc := 102) (tgt := 86) d_X12_runs_102 rfl ?_
      refine Tr.iload_n (pc := 86) (i := 3) d_X12_runs_86 rfl rfl ?_
      refine Tr.bipush (pc := 87) d_X12_runs_87 rfl (by decide) ?_
      refine Tr.icmp_ge (pc := 89) (tgt := 105) d_X12_runs_89 rfl (fun hc => absurd hc (by decide)) (fun _ => ?_)
      refine Tr.aload_n (pc := 92) (i := 0) d_X12_runs_92 rfl rfl ?_
      refine Tr.getf (pc := 93) d_X12_runs_93 f_12_222 (by decide) (by decide) (ty_120 hF) ?_
      refine Tr.tp 161 (fx_120_69 hF) ?_
      refine Tr.iload_n (pc := 96) (i := 3) d_X12_runs_96 rfl rfl ?_
      refine Tr.iconst (pc := 97) d_X12_runs_97 (by decide) ?_
      refine Tr.iastX (pc := 98) d_X12_runs_98 (ty_161 hF) (by decide) (by decide) hF (by decide +kernel) (fun hF => ?_)
      refine Tr.iinc (pc := 99) (ls2 := [(3, (0, 9)), (0, (2, 120)), (1, (1, _))]) d_X12_runs_99 rfl (by decide) rfl ?_
      refine Tr.goto (pc := 102) (tgt := 86) d_X12_runs_102 rfl ?_
      refine Tr.iload_n (pc := 86) (i := 3) d_X12_runs_86 rfl rfl ?_
      refine Tr.bipush (pc := 87) d_X12_runs_87 rfl (by decide) ?_
      refine Tr.icmp_ge (pc := 89) (tgt := 105) d_X12_runs_89 rfl (fun hc => absurd hc (by decide)) (fun _ => ?_)
      refine Tr.aload_n (pc := 92) (i := 0) d_X12_runs_92 rfl rfl ?_
      refine Tr.getf (pc := 93) d_X12_runs_93 f_12_222 (by decide) (by decide) (ty_120 hF) ?_
      refine Tr.tp 161 (fx_120_69 hF) ?_
      refine Tr.iload_n (pc := 96) (i := 3) d_X12_runs_96 rfl rfl ?_
      refine Tr.iconst (pc := 97) d_X12_runs_97 (by decide) ?_
      refine Tr.iastX (pc := 98) d_X12_runs_98 (ty_161 hF) (by decide) (by decide) hF (by decide +kernel) (fun hF => ?_)
      refine Tr.iinc (pc := 99) (ls2 := [(3, (0, 10)), (0, (2, 120)), (1, (1, _))]) d_X12_runs_99 rfl (by decide) rfl ?_
      refine Tr.goto (pc := 102) (tgt := 86) d_X12_runs_102 rfl ?_
      refine Tr.iload_n (pc := 86) (i := 3) d_X12_runs_86 rfl rfl ?_
      refine Tr.bipush (pc := 87) d_X12_runs_87 rfl (by decide) ?_
      refine Tr.icmp_ge (pc := 89) (tgt := 105) d_X12_runs_89 rfl (fun hc => absurd hc (by decide)) (fun _ => ?_)
      refine Tr.aload_n (pc := 92) (i := 0) d_X12_runs_92 rfl rfl ?_
      refine Tr.getf (pc := 93) d_X12_runs_93 f_12_222 (by decide) (by decide) (ty_120 hF) ?_
      refine Tr.tp 161 (fx_120_69 hF) ?_
      refine Tr.iload_n (pc := 96) (i := 3) d_X12_runs_96 rfl rfl ?_
      refine Tr.iconst (pc := 97) d_X12_runs_97 (by decide) ?_
      refine Tr.iastX (pc := 98) d_X12_runs_98 (ty_161 hF) (by decide) (by decide) hF (by decide +kernel) (fun hF => ?_)
      refine Tr.iinc (pc := 99) (ls2 := [(3, (0, 11)), (0, (2, 120)), (1, (1, _))]) d_X12_runs_99 rfl (by decide) rfl ?_
      refine Tr.goto (pc := 102) (tgt := 86) d_X12_runs_102 rfl ?_
      refine Tr.iload_n (pc := 86) (i := 3) d_X12_runs_86 rfl rfl ?_
      refine Tr.bipush (pc := 87) d_X12_runs_87 rfl (by decide) ?_
      refine Tr.icmp_ge (pc := 89) (tgt := 105) d_X12_runs_89 rfl (fun hc => absurd hc (by decide)) (fun _ => ?_)
      refine Tr.aload_n (pc := 92) (i := 0) d_X12_runs_92 rfl rfl ?_
      refine Tr.getf (pc := 93) d_X12_runs_93 f_12_222 (by decide) (by decide) (ty_120 hF) ?_
      refine Tr.tp 161 (fx_120_69 hF) ?_
      refine Tr.iload_n (pc := 96) (i := 3) d_X12_runs_96 rfl rfl ?_
      refine Tr.iconst (pc := 97) d_X12_runs_97 (by decide) ?_
      refine Tr.iastX (pc := 98) d_X12_runs_98 (ty_161 hF) (by decide) (by decide) hF (by decide +kernel) (fun hF => ?_)
      refine Tr.iinc (pc := 99) (ls2 := [(3, (0, 12)), (0, (2, 120)), (1, (1, _))]) d_X12_runs_99 rfl (by decide) rfl ?_
      refine Tr.goto (pc := 102) (tgt := 86) d_X12_runs_102 rfl ?_
      refine Tr.iload_n (pc := 86) (i := 3) d_X12_runs_86 rfl rfl ?_
      refine Tr.bipush (pc := 87) d_X12_runs_87 rfl (by decide) ?_
      refine Tr.icmp_ge (pc := 89) (tgt := 105) d_X12_runs_89 rfl (fun hc => absurd hc (by decide)) (fun _ => ?_)
      refine Tr.aload_n (pc := 92) (i := 0) d_X12_runs_92 rfl rfl ?_
      refine Tr.getf (pc := 93) d_X12_runs_93 f_12_222 (by decide) (by decide) (ty_120 hF) ?_
      refine Tr.tp 161 (fx_120_69 hF) ?_
      refine Tr.iload_n (pc := 96) (i := 3) d_X12_runs_96 rfl rfl ?_
      refine Tr.iconst (pc := 97) d_X12_runs_97 (by decide) ?_
      refine Tr.iastX (pc := 98) d_X12_runs_98 (ty_161 hF) (by decide) (by decide) hF (by decide +kernel) (fun hF => ?_)
      refine Tr.iinc (pc := 99) (ls2 := [(3, (0, 13)), (0, (2, 120)), (1, (1, _))]) d_X12_runs_99 rfl (by decide) rfl ?_
      refine Tr.goto (pc := 102) (tgt := 86) d_X12_runs_102 rfl ?_
      refine Tr.iload_n (pc := 86) (i := 3) d_X12_runs_86 rfl rfl ?_
      refine Tr.bipush (pc := 87) d_X12_runs_87 rfl (by decide) ?_
      refine Tr.icmp_ge (pc := 89) (tgt := 105) d_X12_runs_89 rfl (fun hc => absurd hc (by decide)) (fun _ => ?_)
      refine Tr.aload_n (pc := 92) (i := 0) d_X12_runs_92 rfl rfl ?_
      refine Tr.getf (pc := 93) d_X12_runs_93 f_12_222 (by decide) (by decide) (ty_120 hF) ?_
      refine Tr.tp 161 (fx_120_69 hF) ?_
      refine Tr.iload_n (pc := 96) (i := 3) d_X12_runs_96 rfl rfl ?_
      refine Tr.iconst (pc := 97) d_X12_runs_97 (by decide) ?_
      refine Tr.iastX (pc := 98) d_X12_runs_98 (ty_161 hF) (by decide) (by decide) hF (by decide +kernel) (fun hF => ?_)
      refine Tr.iinc (pc := 99) (ls2 := [(3, (0, 14)), (0, (2, 120)), (1, (1, _))]) d_X12_runs_99 rfl (by decide) rfl ?_
      refine Tr.goto (pc := 102) (tgt := 86) d_X12_runs_102 rfl ?_
      refine Tr.iload_n (pc := 86) (i := 3) d_X12_runs_86 rfl rfl ?_
      refine Tr.bipush (pc := 87) d_X12_runs_87 rfl (by decide) ?_
      refine Tr.icmp_ge (pc := 89) (tgt := 105) d_X12_runs_89 rfl (fun hc => absurd hc (by decide)) (fun _ => ?_)
      refine Tr.aload_n (pc := 92) (i := 0) d_X12_runs_92 rfl rfl ?_
      refine Tr.getf (pc := 93) d_X12_runs_93 f_12_222 (by decide) (by decide) (ty_120 hF) ?_
      refine Tr.tp 161 (fx_120_69 hF) ?_
      refine Tr.iload_n (pc := 96) (i := 3) d_X12_runs_96 rfl rfl ?_
      refine Tr.iconst (pc := 97) d_X12_runs_97 (by decide) ?_
      refine Tr.iastX (pc := 98) d_X12_runs_98 (ty_161 hF) (by decide) (by decide) hF (by decide +kernel) (fun hF => ?_)
      refine Tr.iinc (pc := 99) (ls2 := [(3, (0, 15)), (0, (2, 120)), (1, (1, _))]) d_X12_runs_99 rfl (by decide) rfl ?_
      refine Tr.goto (pc := 102) (tgt := 86) d_X12_runs_102 rfl ?_
      refine Tr.iload_n (pc := 86) (i := 3) d_X12_runs_86 rfl rfl ?_
      refine Tr.bipush (pc := 87) d_X12_runs_87 rfl (by decide) ?_
      refine Tr.icmp_ge (pc := 89) (tgt := 105) d_X12_runs_89 rfl (fun hc => absurd hc (by decide)) (fun _ => ?_)
      refine Tr.aload_n (pc := 92) (i := 0) d_X12_runs_92 rfl rfl ?_
      refine Tr.getf (pc := 93) d_X12_runs_93 f_12_222 (by decide) (by decide) (ty_120 hF) ?_
      refine Tr.tp 161 (fx_120_69 hF) ?_
      refine Tr.iload_n (pc := 96) (i := 3) d_X12_runs_96 rfl rfl ?_
      refine Tr.iconst (pc := 97) d_X12_runs_97 (by decide) ?_
      refine Tr.iastX (pc := 98) d_X12_runs_98 (ty_161 hF) (by decide) (by decide) hF (by decide +kernel) (fun hF => ?_)
      refine Tr.iinc (pc := 99) (ls2 := [(3, (0, 16)), (0, (2, 120)), (1, (1, _))]) d_X12_runs_99 rfl (by decide) rfl ?_
      refine Tr.goto (pc := 102) (tgt := 86) d_X12_runs_102 rfl ?_
      refine Tr.iload_n (pc := 86) (i := 3) d_X12_runs_86 rfl rfl ?_
      refine Tr.bipush (pc := 87) d_X12_runs_87 rfl (by decide) ?_
      refine Tr.icmp_ge (pc := 89) (tgt := 105) d_X12_runs_89 rfl (fun hc => absurd hc (by decide)) (fun _ => ?_)
      refine Tr.aload_n (pc := 92) (i := 0) d_X12_runs_92 rfl rfl ?_
      refine Tr.getf (pc := 93) d_X12_runs_93 f_12_222 (by decide) (by decide) (ty_120 hF) ?_
      refine Tr.tp 161 (fx_120_69 hF) ?_
      refine Tr.iload_n (pc := 96) (i := 3) d_X12_runs_96 rfl rfl ?_
      refine Tr.iconst (pc := 97) d_X12_runs_97 (by decide) ?_
      refine Tr.iastX (pc := 98) d_X12_runs_98 (ty_161 hF) (by decide) (by decide) hF (by decide +kernel) (fun hF => ?_)
      refine Tr.iinc (pc := 99) (ls2 := [(3, (0, 17)), (0, (2, 120)), (1, (1, _))]) d_X12_runs_99 rfl (by decide) rfl ?_
      refine Tr.goto (pc := 102) (tgt := 86) d_X12_runs_102 rfl ?_
      refine Tr.iload_n (pc := 86) (i := 3) d_X12_runs_86 rfl rfl ?_
      refine Tr.bipush (pc := 87) d_X12_runs_87 rfl (by decide) ?_
      refine Tr.icmp_ge (pc := 89) (tgt := 105) d_X12_runs_89 rfl (fun hc => absurd hc (by decide)) (fun _ => ?_)
      refine Tr.aload_n (pc := 92) (i := 0) d_X12_runs_92 rfl rfl ?_
      refine Tr.getf (pc := 93) d_X12_runs_93 f_12_222 (by decide) (by decide) (ty_120 hF) ?_
      refine Tr.tp 161 (fx_120_69 hF) ?_
      refine Tr.iload_n (pc := 96) (i := 3) d_X12_runs_96 rfl rfl ?_
      refine Tr.iconst (pc := 97) d_X12_runs_97 (by decide) ?_
      refine Tr.iastX (pc := 98) d_X12_runs_98 (ty_161 hF) (by decide) (by decide) hF (by decide +kernel) (fun hF => ?_)
      refine Tr.iinc (pc := 99) (ls2 := [(3, (0, 18)), (0, (2, 120)), (1, (1, _))]) d_X12_runs_99 rfl (by decide) rfl ?_
      refine Tr.goto (pc := 102) (tgt := 86) d_X12_runs_102 rfl ?_
      refine Tr.iload_n (pc := 86) (i := 3) d_X12_runs_86 rfl rfl ?_
      refine Tr.bipush (pc := 87) d_X12_runs_87 rfl (by decide) ?_
      refine Tr.icmp_ge (pc := 89) (tgt := 105) d_X12_runs_89 rfl (fun hc => absurd hc (by decide)) (fun _ => ?_)
      refine Tr.aload_n (pc := 92) (i := 0) d_X12_runs_92 rfl rfl ?_
      refine Tr.getf (pc := 93) d_X12_runs_93 f_12_222 (by decide) (by decide) (ty_120 hF) ?_
      refine Tr.tp 161 (fx_120_69 hF) ?_
      refine Tr.iload_n (pc := 96) (i := 3) d_X12_runs_96 rfl rfl ?_
      refine Tr.iconst (pc := 97) d_X12_runs_97 (by decide) ?_
      refine Tr.iastX (pc := 98) d_X12_runs_98 (ty_161 hF) (by decide) (by decide) hF (by decide +kernel) (fun hF => ?_)
      refine Tr.iinc (pc := 99) (ls2 := [(3, (0, 19)), (0, (2, 120)), (1, (1, _))]) d_X12_runs_99 rfl (by decide) rfl ?_
      refine Tr.goto (pc := 102) (tgt := 86) d_X12_runs_102 rfl ?_
      refine Tr.iload_n (pc := 86) (i := 3) d_X12_runs_86 rfl rfl ?_
      refine Tr.bipush (pc := 87) d_X12_runs_87 rfl (by decide) ?_
      refine Tr.icmp_ge (pc := 89) (tgt := 105) d_X12_runs_89 rfl (fun hc => absurd hc (by decide)) (fun _ => ?_)
      refine Tr.aload_n (pc := 92) (i := 0) d_X12_runs_92 rfl rfl ?_
      refine Tr.getf (pc := 93) d_X12_runs_93 f_12_222 (by decide) (by decide) (ty_120 hF) ?_
      refine Tr.tp 161 (fx_120_69 hF) ?_
      refine Tr.iload_n (pc := 96) (i := 3) d_X12_runs_96 rfl rfl ?_
      refine Tr.iconst (pc := 97) d_X12_runs_97 (by decide) ?_
      refine Tr.iastX (pc := 98) d_X12_runs_98 (ty_161 hF) (by decide) (by decide) hF (by decide +kernel) (fun hF => ?_)
      refine Tr.iinc (pc := 99) (ls2 := [(3, (0, 20)), (0, (2, 120)), (1, (1, _))]) d_X12_runs_99 rfl (by decide) rfl ?_
      refine Tr.goto (pc := 102) (tgt := 86) d_X12_runs_102 rfl ?_
      refine Tr.iload_n (pc := 86) (i := 3) d_X12_runs_86 rfl rfl ?_
      refine Tr.bipush (pc := 87) d_X12_runs_87 rfl (by decide) ?_
      refine Tr.icmp_ge (pc := 89) (tgt := 105) d_X12_runs_89 rfl (fun hc => absurd hc (by decide)) (fun _ => ?_)
      refine Tr.aload_n (pc := 92) (i := 0) d_X12_runs_92 rfl rfl ?_
      refine Tr.getf (pc := 93) d_X12_runs_93 f_12_222 (by decide) (by decide) (ty_120 hF) ?_
      refine Tr.tp 161 (fx_120_69 hF) ?_
      refine Tr.iload_n (pc := 96) (i := 3) d_X12_runs_96 rfl rfl ?_
      refine Tr.iconst (pc := 97) d_X12_runs_97 (by decide) ?_
      refine Tr.iastX (pc := 98) d_X12_runs_98 (ty_161 hF) (by decide) (by decide) hF (by decide +kernel) (fun hF => ?_)
      refine Tr.iinc (pc := 99) (ls2 := [(3, (0, 21)), (0, (2, 120)), (1, (1, _))]) d_X12_runs_99 rfl (by decide) rfl ?_
      refine Tr.goto (pc := 102) (tgt := 86) d_X12_runs_102 rfl ?_
      refine Tr.iload_n (pc := 86) (i := 3) d_X12_runs_86 rfl rfl ?_
      refine Tr.bipush (pc := 87) d_X12_runs_87 rfl (by decide) ?_
      refine Tr.icmp_ge (pc := 89) (tgt := 105) d_X12_runs_89 rfl (fun hc => absurd hc (by decide)) (fun _ => ?_)
      refine Tr.aload_n (pc := 92) (i := 0) d_X12_runs_92 rfl rfl ?_
      refine Tr.getf (pc := 93) d_X12_runs_93 f_12_222 (by decide) (by decide) (ty_120 hF) ?_
      refine Tr.tp 161 (fx_120_69 hF) ?_
      refine Tr.iload_n (pc := 96) (i := 3) d_X12_runs_96 rfl rfl ?_
      refine Tr.iconst (pc := 97) d_X12_runs_97 (by decide) ?_
      refine Tr.iastX (pc := 98) d_X12_runs_98 (ty_161 hF) (by decide) (by decide) hF (by decide +kernel) (fun hF => ?_)
      refine Tr.iinc (pc := 99) (ls2 := [(3, (0, 22)), (0, (2, 120)), (1, (1, _))]) d_X12_runs_99 rfl (by decide) rfl ?_
      refine Tr.goto (pc := 102) (tgt := 86) d_X12_runs_102 rfl ?_
      refine Tr.iload_n (pc := 86) (i := 3) d_X12_runs_86 rfl rfl ?_
      refine Tr.bipush (pc := 87) d_X12_runs_87 rfl (by decide) ?_
      refine Tr.icmp_ge (pc := 89) (tgt := 105) d_X12_runs_89 rfl (fun hc => absurd hc (by decide)) (fun _ => ?_)
      refine Tr.aload_n (pc := 92) (i := 0) d_X12_runs_92 rfl rfl ?_
      refine Tr.getf (pc := 93) d_X12_runs_93 f_12_222 (by decide) (by decide) (ty_120 hF) ?_
      refine Tr.tp 161 (fx_120_69 hF) ?_
      refine Tr.iload_n (pc := 96) (i := 3) d_X12_runs_96 rfl rfl ?_
      refine Tr.iconst (pc := 97) d_X12_runs_97 (by decide) ?_
      refine Tr.iastX (pc := 98) d_X12_runs_98 (ty_161 hF) (by decide) (by decide) hF (by decide +kernel) (fun hF => ?_)
      refine Tr.iinc (pc := 99) (ls2 := [(3, (0, 23)), (0, (2, 120)), (1, (1, _))]) d_X12_runs_99 rfl (by decide) rfl ?_
      refine Tr.goto (pc := 102) (tgt := 86) d_X12_runs_102 rfl ?_
      refine Tr.iload_n (pc := 86) (i := 3) d_X12_runs_86 rfl rfl ?_
      refine Tr.bipush (pc := 87) d_X12_runs_87 rfl (by decide) ?_
      refine Tr.icmp_ge (pc := 89) (tgt := 105) d_X12_runs_89 rfl (fun hc => absurd hc (by decide)) (fun _ => ?_)
      refine Tr.aload_n (pc := 92) (i := 0) d_X12_runs_92 rfl rfl ?_
      refine Tr.getf (pc := 93) d_X12_runs_93 f_12_222 (by decide) (by decide) (ty_120 hF) ?_
      refine Tr.tp 161 (fx_120_69 hF) ?_
      refine Tr.iload_n (pc := 96) (i := 3) d_X12_runs_96 rfl rfl ?_
      refine Tr.iconst (pc := 97) d_X12_runs_97 (by decide) ?_
      refine Tr.iastX (pc := 98) d_X12_runs_98 (ty_161 hF) (by decide) (by decide) hF (by decide +kernel) (fun hF => ?_)
      refine Tr.iinc (pc := 99) (ls2 := [(3, (0, 24)), (0, (2, 120)), (1, (1, _))]) d_X12_runs_99 rfl (by decide) rfl ?_
      refine Tr.goto (pc := 102) (tgt := 86) d_X12_runs_102 rfl ?_
      refine Tr.iload_n (pc := 86) (i := 3) d_X12_runs_86 rfl rfl ?_
      refine Tr.bipush (pc := 87) d_X12_runs_87 rfl (by decide) ?_
      refine Tr.icmp_ge (pc := 89) (tgt := 105) d_X12_runs_89 rfl (fun _ => ?_) (fun hc => absurd (by decide) hc)
      refine Tr.aload_n (pc := 105) (i := 0) d_X12_runs_105 rfl rfl ?_
      refine Tr.iconst (pc := 106) d_X12_runs_106 (by decide) ?_
      refine Tr.putfX (pc := 107) d_X12_runs_107 f_12_201 (by decide) (by decide) (ty_120 hF) hF (by decide +kernel) (fun hF => ?_)
      refine Tr.aload_n (pc := 110) (i := 0) d_X12_runs_110 rfl rfl ?_
      refine Tr.lconst (pc := 111) (v := 0) d_X12_runs_111 rfl (by decide) ?_
      refine Tr.putfX (pc := 112) d_X12_runs_112 f_12_204 (by decide) (by decide) (ty_120 hF) hF (by decide +kernel) (fun hF => ?_)
      refine Tr.aload_n (pc := 115) (i := 0) d_X12_runs_115 rfl rfl ?_
      refine Tr.lload_n (pc := 116) (i := 1) d_X12_runs_116 rfl rfl ?_
      refine Tr.putfX (pc := 117) d_X12_runs_117 f_12_207 (by decide) (by decide) (ty_120 hF) hF (by decide +kernel) (fun hF => ?_)
      refine Tr.aload_n (pc := 120) (i := 0) d_X12_runs_120 rfl rfl ?_
      refine Tr.iconst (pc := 121) d_X12_runs_121 (by decide) ?_
      refine Tr.putfX (pc := 122) d_X12_runs_122 f_12_210 (by decide) (by decide) (ty_120 hF) hF (by decide +kernel) (fun hF => ?_)
      refine Tr.aload_n (pc := 125) (i := 0) d_X12_runs_125 rfl rfl ?_
      refine Tr.iconst (pc := 126) d_X12_runs_126 (by decide) ?_
      refine Tr.putfX (pc := 127) d_X12_runs_127 f_12_213 (by decide) (by decide) (ty_120 hF) hF (by decide +kernel) (fun hF => ?_)
      refine Tr.aload_n (pc := 130) (i := 0) d_X12_runs_130 rfl rfl ?_
      refine Tr.iconst (pc := 131) d_X12_runs_131 (by decide) ?_
      refine Tr.putfX (pc := 132) d_X12_runs_132 f_12_216 (by decide) (by decide) (ty_120 hF) hF (by decide +kernel) (fun hF => ?_)
      refine Tr.aload_n (pc := 135) (i := 0) d_X12_runs_135 rfl rfl ?_
      refine Tr.iconst (pc := 136) d_X12_runs_136 (by decide) ?_
      refine Tr.putfX (pc := 137) d_X12_runs_137 f_12_219 (by decide) (by decide) (ty_120 hF) hF (by decide +kernel) (fun hF => ?_)
      refine Tr.aload_n (pc := 140) (i := 0) d_X12_runs_140 rfl rfl ?_
      refine Tr.iconst (pc := 141) d_X12_runs_141 (by decide) ?_
      refine Tr.putfX (pc := 142) d_X12_runs_142 f_12_267 (by decide) (by decide) (ty_120 hF) hF (by decide +kernel) (fun hF => ?_)
      refine Tr.aload_n (pc := 145) (i := 0) d_X12_runs_145 rfl rfl ?_
      refine Tr.iconst (pc := 146) d_X12_runs_146 (by decide) ?_
      refine Tr.putfX (pc := 147) d_X12_runs_147 f_12_195 (by decide) (by decide) (ty_120 hF) hF (by decide +kernel) (fun hF => ?_)
      refine Tr.aload_n (pc := 150) (i := 0) d_X12_runs_150 rfl rfl ?_
      refine Tr.iconst (pc := 151) d_X12_runs_151 (by decide) ?_
      refine Tr.putfX (pc := 152) d_X12_runs_152 f_12_240 (by decide) (by decide) (ty_120 hF) hF (by decide +kernel) (fun hF => ?_)
      refine Tr.aload_n (pc := 155) (i := 0) d_X12_runs_155 rfl rfl ?_
      refine Tr.iconst (pc := 156) d_X12_runs_156 (by decide) ?_
      refine Tr.putfX (pc := 157) d_X12_runs_157 f_12_252 (by decide) (by decide) (ty_120 hF) hF (by decide +kernel) (fun hF => ?_)
      refine Tr.iconst (pc := 160) d_X12_runs_160 (by decide) ?_
      refine Tr.istore_n (pc := 161) (i := 3) (ls2 := [(3, (0, 0)), (0, (2, 120)), (1, (1, _))]) d_X12_runs_161 rfl (by decide) rfl ?_
      refine Tr.iload_n (pc := 162) (i := 3) d_X12_runs_162 rfl rfl ?_
      refine Tr.aload_n (pc := 163) (i := 0) d_X12_runs_163 rfl rfl ?_
      refine Tr.getf (pc := 164) d_X12_runs_164 f_12_94 (by decide) (by decide) (ty_120 hF) ?_
      refine Tr.tp 136 (fx_120_27 hF) ?_
      refine Tr.aload_n (pc := 167) (i := 0) d_X12_runs_167 rfl rfl ?_
      refine Tr.getf (pc := 168) d_X12_runs_168 f_12_48 (by decide) (by decide) (ty_120 hF) ?_
      refine Tr.tp 0 ((rd_wb _ rfl).trans ((rd_wb _ rfl).trans ((rd_wb _ rfl).trans ((rd_wb _ rfl).trans ((rd_wb _ rfl).trans ((rd_wb _ rfl).trans ((rd_wb _ rfl).trans ((rd_wb _ rfl).trans ((rd_wb _ rfl).trans ((rd_wb _ rfl).trans ((rd_wb _ rfl).trans ((rd_wb _ rfl).trans ((rd_wb _ rfl).trans ((rd_wb _ rfl).trans ((rd_wb _ rfl).trans ((rd_wb _ rfl).trans ((rd_wb _ rfl).trans ((rd_wb _ rfl).trans ((rd_wb _ rfl).trans ((rd_wb _ rfl).trans ((rd_wb _ rfl).trans ((rd_wb _ rfl).trans ((rd_wb _ rfl).trans ((rd_wb _ rfl).trans ((rd_wb _ rfl).trans ((rd_wb _ rfl).trans ((rd_wb _ rfl).trans ((rd_wb _ rfl).trans ((rd_wb _ rfl).trans ((rd_wb _ rfl).trans ((rd_wb _ rfl).trans ((rd_wb _ rfl).trans ((rd_wb _ rfl).trans ((rd_wb _ rfl).trans ((rd_wb _ rfl).trans ((rd_wb _ rfl).trans ((rd_wb _ rfl).trans ((rd_wb _ rfl).trans ((rd_wb _ rfl).trans ((rd_wb _ rfl).trans ((rd_wb _ rfl).trans ((rd_wb _ rfl).trans ((rd_wb _ rfl).trans ((rd_wb _ rfl).trans ((rd_wb _ rfl).trans ((rd_wb _ rfl).trans ((rd_wb _ rfl).trans ((rd_wb _ rfl).trans ((rd_wb _ rfl).trans ((rd_wb _ rfl).trans ((rd_wb _ rfl).trans ((rd_wb _ rfl).trans ((rd_wb _ rfl).trans ((rd_wb _ rfl).trans ((rd_wb _ rfl).trans ((rd_wb _ rfl).trans ((rd_wb _ rfl).trans ((rd_wb _ rfl).trans ((rd_wb _ rfl).trans ((rd_wb _ rfl).trans ((rd_wb _ rfl).trans ((rd_wb _ rfl).trans ((rd_wb _ rfl).trans ((rd_wb _ rfl).trans ((rd_wb _ rfl).trans ((rd_wb _ rfl).trans ((rd_wb _ rfl).trans ((rd_wb _ rfl).trans ((rd_wb _ rfl).trans ((rd_wb _ rfl).trans ((rd_wb _ rfl).trans ((rd_wb _ rfl).trans ((rd_wb _ rfl).trans ((rd_wb _ rfl).trans ((rd_wb _ rfl).trans ((rd_wb _ rfl).trans ((rd_wb _ rfl).trans ((rd_wb _ rfl).trans ((rd_wb _ rfl).trans ((rd_wb _ rfl).trans ((rd_fb _ rfl).trans ((rd_wb _ rfl).trans ((rd_wb _ rfl).trans ((rd_fb _ rfl).trans ((rd_fb _ rfl).trans ((rd_fb _ rfl).trans ((rd_fb _ rfl).trans ((rd_fb _ rfl).trans ((rd_fb _ rfl).trans ((rd_wb _ rfl).trans ((rd_wb _ rfl).trans ((rd_wb _ rfl).trans ((rd_wb _ rfl).trans ((rd_wb _ rfl).trans ((rd_wb _ rfl).trans ((rd_wb _ rfl).trans ((rd_wb _ rfl).trans ((rd_wb _ rfl).trans ((rd_fb _ rfl).trans ((rd_fb _ rfl).trans ((rd_fb _ rfl).trans ((rd_fb _ rfl).trans ((rd_fb _ rfl).trans ((rd_cb _ rfl).trans ((rd_wb _ rfl).trans (b_120_12)))))))))))))))))))))))))))))))))))))))))))))))))))))))))))))))))))))))))))))))))))))))))))))))))))))))))) ?_
      refine Tr.iald (pc := 171) d_X12_runs_171 (ty_136 hF) (by decide) (by decide) ?_
      refine Tr.tp 0 ((rd_wb _ rfl).trans ((rd_wb _ rfl).trans ((rd_wb _ rfl).trans ((rd_wb _ rfl).trans ((rd_wb _ rfl).trans ((rd_wb _ rfl).trans ((rd_wb _ rfl).trans ((rd_wb _ rfl).trans ((rd_wb _ rfl).trans ((rd_wb _ rfl).trans ((rd_wb _ rfl).trans ((rd_wb _ rfl).trans ((rd_wb _ rfl).trans ((rd_wb _ rfl).trans ((rd_wb _ rfl).trans ((rd_wb _ rfl).trans ((rd_wb _ rfl).trans ((rd_wb _ rfl).trans ((rd_wb _ rfl).trans ((rd_wb _ rfl).trans ((rd_wb _ rfl).trans ((rd_wb _ rfl).trans ((rd_wb _ rfl).trans ((rd_wb _ rfl).trans ((rd_wb _ rfl).trans ((rd_wb _ rfl).trans ((rd_wb _ rfl).trans ((rd_wb _ rfl).trans ((rd_wb _ rfl).trans ((rd_wb _ rfl).trans ((rd_wb _ rfl).trans ((rd_wb _ rfl).trans ((rd_wb _ rfl).trans ((rd_wb _ rfl).trans ((rd_wb _ rfl).trans ((rd_wb _ rfl).trans ((rd_wb _ rfl).trans ((rd_wb _ rfl).trans ((rd_wb _ rfl).trans ((rd_wb _ rfl).trans ((rd_wb _ rfl).trans ((rd_wb _ rfl).trans ((rd_wb _ rfl).trans ((rd_wb _ rfl).trans ((rd_wb _ rfl).trans ((rd_wb _ rfl).trans ((rd_wb _ rfl).trans ((rd_wb _ rfl).trans ((rd_wb _ rfl).trans ((rd_wb _ rfl).trans ((rd_wb _ rfl).trans ((rd_wb _ rfl).trans ((rd_wb _ rfl).trans ((rd_wb _ rfl).trans ((rd_wb _ rfl).trans ((rd_wb _ rfl).trans ((rd_wb _ rfl).trans ((rd_wb _ rfl).trans ((rd_wb _ rfl).trans ((rd_wb _ rfl).trans ((rd_wb _ rfl).trans ((rd_wb _ rfl).trans ((rd_wb _ rfl).trans ((rd_wb _ rfl).trans ((rd_wb _ rfl).trans ((rd_wb _ rfl).trans ((rd_wb _ rfl).trans ((rd_wb _ rfl).trans ((rd_wb _ rfl).trans ((rd_wb _ rfl).trans ((rd_wb _ rfl).trans ((rd_wb _ rfl).trans ((rd_wb _ rfl).trans ((rd_wb _ rfl).trans ((rd_wb _ rfl).trans ((rd_wb _ rfl).trans ((rd_wb _ rfl).trans ((rd_wb _ rfl).trans ((rd_wb _ rfl).trans ((rd_wb _ rfl).trans ((rd_fb _ rfl).trans ((rd_wb _ rfl).trans ((rd_wb _ rfl).trans ((rd_fb _ rfl).trans ((rd_fb _ rfl).trans ((rd_fb _ rfl).trans ((rd_fb _ rfl).trans ((rd_fb _ rfl).trans ((rd_fb _ rfl).trans ((rd_wb _ rfl).trans ((rd_wb _ rfl).trans ((rd_wb _ rfl).trans ((rd_wb _ rfl).trans ((rd_wb _ rfl).trans ((rd_wb _ rfl).trans ((rd_wb _ rfl).trans ((rd_wb _ rfl).trans ((rd_wb _ rfl).trans ((rd_fb _ rfl).trans ((rd_fb _ rfl).trans ((rd_fb _ rfl).trans ((rd_fb _ rfl).trans ((rd_fb _ rfl).trans ((rd_cb _ rfl).trans ((rd_wb _ rfl).trans (b_136_0)))))))))))))))))))))))))))))))))))))))))))))))))))))))))))))))))))))))))))))))))))))))))))))))))))))))))) ?_
      refine Tr.icmp_ge (pc := 172) (tgt := 317) d_X12_runs_172 rfl (fun _ => ?_) (fun hc => absurd (by decide) hc)
      refine Tr.aload_n (pc := 317) (i := 0) d_X12_runs_317 rfl rfl ?_
      refine Tr.getf (pc := 318) d_X12_runs_318 f_12_219 (by decide) (by decide) (ty_120 hF) ?_
      refine Tr.tp 0 ((rd_wb _ rfl).trans ((rd_wb _ rfl).trans ((rd_wb _ rfl).trans ((rd_wb _ rfl).trans (rd_ws _ _ _ _))))) ?_
      refine Tr.if_le (pc := 321) (tgt := 329) d_X12_runs_321 rfl (fun _ => ?_) (fun hc => absurd (by decide) hc)
      refine Tr.iconst (pc := 329) d_X12_runs_329 (by decide) ?_
      refine Tr.istore (pc := 330) (i := 4) (ls2 := [(4, (0, 1)), (3, (0, 0)), (0, (2, 120)), (1, (1, _))]) d_X12_runs_330 (by decide) rfl ?_
      refine Tr.iload (pc := 332) (i := 4) d_X12_runs_332 rfl ?_
      refine Tr.if_eq (pc := 334) (tgt := 409) d_X12_runs_334 rfl (fun hc => absurd hc (by decide)) (fun _ => ?_)
      refine Tr.iconst (pc := 337) d_X12_runs_337 (by decide) ?_
      refine Tr.istore (pc := 338) (i := 4) (ls2 := [(4, (0, 0)), (3, (0, 0)), (0, (2, 120)), (1, (1, _))]) d_X12_runs_338 (by decide) rfl ?_
      refine Tr.iconst (pc := 340) d_X12_runs_340 (by decide) ?_
      refine Tr.istore (pc := 341) (i := 5) (ls2 := [(5, (0, 0)), (4, (0, 0)), (3, (0, 0)), (0, (2, 120)), (1, (1, _))]) d_X12_runs_341 (by decide) rfl ?_
      refine Tr.iload (pc := 343) (i := 5) d_X12_runs_343 rfl ?_
      refine Tr.aload_n (pc := 345) (i := 0) d_X12_runs_345 rfl rfl ?_
      refine Tr.getf (pc := 346) d_X12_runs_346 f_12_63 (by decide) (by decide) (ty_120 hF) ?_
      refine Tr.tp 126 (fx_120_17 hF) ?_
      refine Tr.aload_n (pc := 349) (i := 0) d_X12_runs_349 rfl rfl ?_
      refine Tr.getf (pc := 350) d_X12_runs_350 f_12_48 (by decide) (by decide) (ty_120 hF) ?_
      refine Tr.tp 0 ((rd_wb _ rfl).trans ((rd_wb _ rfl).trans ((rd_wb _ rfl).trans ((rd_wb _ rfl).trans ((rd_wb _ rfl).trans ((rd_wb _ rfl).trans ((rd_wb _ rfl).trans ((rd_wb _ rfl).trans ((rd_wb _ rfl).trans ((rd_wb _ rfl).trans ((rd_wb _ rfl).trans ((rd_wb _ rfl).trans ((rd_wb _ rfl).trans ((rd_wb _ rfl).trans ((rd_wb _ rfl).trans ((rd_wb _ rfl).trans ((rd_wb _ rfl).trans ((rd_wb _ rfl).trans ((rd_wb _ rfl).trans ((rd_wb _ rfl).trans ((rd_wb _ rfl).trans ((rd_wb _ rfl).trans ((rd_wb _ rfl).trans ((rd_wb _ rfl).trans ((rd_wb _ rfl).trans ((rd_wb _ rfl).trans ((rd_wb _ rfl).trans ((rd_wb _ rfl).trans ((rd_wb _ rfl).trans ((rd_wb _ rfl).trans ((rd_wb _ rfl).trans ((rd_wb _ rfl).trans ((rd_wb _ rfl).trans ((rd_wb _ rfl).trans ((rd_wb _ rfl).trans ((rd_wb _ rfl).trans ((rd_wb _ rfl).trans ((rd_wb _ rfl).trans ((rd_wb _ rfl).trans ((rd_wb _ rfl).trans ((rd_wb _ rfl).trans ((rd_wb _ rfl).trans ((rd_wb _ rfl).trans ((rd_wb _ rfl).trans ((rd_wb _ rfl).trans ((rd_wb _ rfl).trans ((rd_wb _ rfl).trans ((rd_wb _ rfl).trans ((rd_wb _ rfl).trans ((rd_wb _ rfl).trans ((rd_wb _ rfl).trans ((rd_wb _ rfl).trans ((rd_wb _ rfl).trans ((rd_wb _ rfl).trans ((rd_wb _ rfl).trans ((rd_wb _ rfl).trans ((rd_wb _ rfl).trans ((rd_wb _ rfl).trans ((rd_wb _ rfl).trans ((rd_wb _ rfl).trans ((rd_wb _ rfl).trans ((rd_wb _ rfl).trans ((rd_wb _ rfl).trans ((rd_wb _ rfl).trans ((rd_wb _ rfl).trans ((rd_wb _ rfl).trans ((rd_wb _ rfl).trans ((rd_wb _ rfl).trans ((rd_wb _ rfl).trans ((rd_wb _ rfl).trans ((rd_wb _ rfl).trans ((rd_wb _ rfl).trans ((rd_wb _ rfl).trans ((rd_wb _ rfl).trans ((rd_wb _ rfl).trans ((rd_wb _ rfl).trans ((rd_wb _ rfl).trans ((rd_wb _ rfl).trans ((rd_wb _ rfl).trans ((rd_wb _ rfl).trans ((rd_fb _ rfl).trans ((rd_wb _ rfl).trans ((rd_wb _ rfl).trans ((rd_fb _ rfl).trans ((rd_fb _ rfl).trans ((rd_fb _ rfl).trans ((rd_fb _ rfl).trans ((rd_fb _ rfl).trans ((rd_fb _ rfl).trans ((rd_wb _ rfl).trans ((rd_wb _ rfl).trans ((rd_wb _ rfl).trans ((rd_wb _ rfl).trans ((rd_wb _ rfl).trans ((rd_wb _ rfl).trans ((rd_wb _ rfl).trans ((rd_wb _ rfl).trans ((rd_wb _ rfl).trans ((rd_fb _ rfl).trans ((rd_fb _ rfl).trans ((rd_fb _ rfl).trans ((rd_fb _ rfl).trans ((rd_fb _ rfl).trans ((rd_cb _ rfl).trans ((rd_wb _ rfl).trans (b_120_12)))))))))))))))))))))))))))))))))))))))))))))))))))))))))))))))))))))))))))))))))))))))))))))))))))))))))) ?_
      refine Tr.iald (pc := 353) d_X12_runs_353 (ty_126 hF) (by decide) (by decide) ?_
      refine Tr.tp 0 ((rd_wb _ rfl).trans ((rd_wb _ rfl).trans ((rd_wb _ rfl).trans ((rd_wb _ rfl).trans ((rd_wb _ rfl).trans ((rd_wb _ rfl).trans ((rd_wb _ rfl).trans ((rd_wb _ rfl).trans ((rd_wb _ rfl).trans ((rd_wb _ rfl).trans ((rd_wb _ rfl).trans ((rd_wb _ rfl).trans ((rd_wb _ rfl).trans ((rd_wb _ rfl).trans ((rd_wb _ rfl).trans ((rd_wb _ rfl).trans ((rd_wb _ rfl).trans ((rd_wb _ rfl).trans ((rd_wb _ rfl).trans ((rd_wb _ rfl).trans ((rd_wb _ rfl).trans ((rd_wb _ rfl).trans ((rd_wb _ rfl).trans ((rd_wb _ rfl).trans ((rd_wb _ rfl).trans ((rd_wb _ rfl).trans ((rd_wb _ rfl).trans ((rd_wb _ rfl).trans ((rd_wb _ rfl).trans ((rd_wb _ rfl).trans ((rd_wb _ rfl).trans ((rd_wb _ rfl).trans ((rd_wb _ rfl).trans ((rd_wb _ rfl).trans ((rd_wb _ rfl).trans ((rd_wb _ rfl).trans ((rd_wb _ rfl).trans ((rd_wb _ rfl).trans ((rd_wb _ rfl).trans ((rd_wb _ rfl).trans ((rd_wb _ rfl).trans ((rd_wb _ rfl).trans ((rd_wb _ rfl).trans ((rd_wb _ rfl).trans ((rd_wb _ rfl).trans ((rd_wb _ rfl).trans ((rd_wb _ rfl).trans ((rd_wb _ rfl).trans ((rd_wb _ rfl).trans ((rd_wb _ rfl).trans ((rd_wb _ rfl).trans ((rd_wb _ rfl).trans ((rd_wb _ rfl).trans ((rd_wb _ rfl).trans ((rd_wb _ rfl).trans ((rd_wb _ rfl).trans ((rd_wb _ rfl).trans ((rd_wb _ rfl).trans ((rd_wb _ rfl).trans ((rd_wb _ rfl).trans ((rd_wb _ rfl).trans ((rd_wb _ rfl).trans ((rd_wb _ rfl).trans ((rd_wb _ rfl).trans ((rd_wb _ rfl).trans ((rd_wb _ rfl).trans ((rd_wb _ rfl).trans ((rd_wb _ rfl).trans ((rd_wb _ rfl).trans ((rd_wb _ rfl).trans ((rd_wb _ rfl).trans ((rd_wb _ rfl).trans ((rd_wb _ rfl).trans ((rd_wb _ rfl).trans ((rd_wb _ rfl).trans ((rd_wb _ rfl).trans ((rd_wb _ rfl).trans ((rd_wb _ rfl).trans ((rd_wb _ rfl).trans ((rd_wb _ rfl).trans ((rd_fb _ rfl).trans ((rd_wb _ rfl).trans ((rd_wb _ rfl).trans ((rd_fb _ rfl).trans ((rd_fb _ rfl).trans ((rd_fb _ rfl).trans ((rd_fb _ rfl).trans ((rd_fb _ rfl).trans ((rd_fb _ rfl).trans ((rd_wb _ rfl).trans ((rd_wb _ rfl).trans ((rd_wb _ rfl).trans ((rd_wb _ rfl).trans ((rd_wb _ rfl).trans ((rd_wb _ rfl).trans ((rd_wb _ rfl).trans ((rd_wb _ rfl).trans ((rd_wb _ rfl).trans ((rd_fb _ rfl).trans ((rd_fb _ rfl).trans ((rd_fb _ rfl).trans ((rd_fb _ rfl).trans ((rd_fb _ rfl).trans ((rd_cb _ rfl).trans ((rd_wb _ rfl).trans (b_126_0)))))))))))))))))))))))))))))))))))))))))))))))))))))))))))))))))))))))))))))))))))))))))))))))))))))))))) ?_
      refine Tr.icmp_ge (pc := 354) (tgt := 395) d_X12_runs_354 rfl (fun _ => ?_) (fun hc => absurd (by decide) hc)
      refine Tr.iload (pc := 395) (i := 4) d_X12_runs_395 rfl ?_
      refine Tr.if_eq (pc := 397) (tgt := 332) d_X12_runs_397 rfl (fun _ => ?_) (fun hc => absurd (by decide) hc)
      refine Tr.iload (pc := 332) (i := 4) d_X12_runs_332 rfl ?_
      refine Tr.if_eq (pc := 334) (tgt := 409) d_X12_runs_334 rfl (fun _ => ?_) (fun hc => absurd (by decide) hc)
      refine Tr.iconst (pc := 409) d_X12_runs_409 (by decide) ?_
      refine Tr.iret (pc := 410) d_X12_runs_410 rfl ?_
      refine Tr.sc [_] rfl ?_
      refine Tr.istore_n (pc := 44) (i := 2) (ls2 := [(2, (0, 0)), (0, (2, 120)), (1, (0, _))]) d_X12_run_44 rfl (by decide) rfl ?_
      refine Tr.aload_n (pc := 45) (i := 0) d_X12_run_45 rfl rfl ?_
      refine Tr.iconst (pc := 46) d_X12_run_46 (by decide) ?_
      refine Tr.putzX (pc := 47) d_X12_run_47 f_12_225 (by decide) (ty_120 hF) (by decide) hF (by decide +kernel) (fun hF => ?_)
      refine Tr.aload_n (pc := 50) (i := 0) d_X12_run_50 rfl rfl ?_
      refine Tr.iconst (pc := 51) d_X12_run_51 (by decide) ?_
      refine Tr.putzX (pc := 52) d_X12_run_52 f_12_270 (by decide) (ty_120 hF) (by decide) hF (by decide +kernel) (fun hF => ?_)
      refine Tr.aload_n (pc := 55) (i := 0) d_X12_run_55 rfl rfl ?_
      refine Tr.aload_n (pc := 56) (i := 0) d_X12_run_56 rfl rfl ?_
      refine Tr.getf (pc := 57) d_X12_run_57 f_12_201 (by decide) (by decide) (ty_120 hF) ?_
      refine Tr.tp 0 ((rd_wb _ rfl).trans ((rd_wb _ rfl).trans ((rd_wb _ rfl).trans ((rd_wb _ rfl).trans ((rd_wb _ rfl).trans ((rd_wb _ rfl).trans ((rd_wb _ rfl).trans ((rd_wb _ rfl).trans ((rd_wb _ rfl).trans ((rd_wb _ rfl).trans ((rd_wb _ rfl).trans ((rd_wb _ rfl).trans (rd_ws _ _ _ _))))))))))))) ?_
      refine Tr.putfX (pc := 60) d_X12_run_60 f_12_273 (by decide) (by decide) (ty_120 hF) hF (by decide +kernel) (fun hF => ?_)
      refine Tr.aload_n (pc := 63) (i := 0) d_X12_run_63 rfl rfl ?_
      refine Tr.aload_n (pc := 64) (i := 0) d_X12_run_64 rfl rfl ?_
      refine Tr.getf (pc := 65) d_X12_run_65 f_12_204 (by decide) (by decide) (ty_120 hF) ?_
      refine Tr.tp 0 ((rd_wb _ rfl).trans ((rd_wb _ rfl).trans ((rd_wb _ rfl).trans ((rd_wb _ rfl).trans ((rd_wb _ rfl).trans ((rd_wb _ rfl).trans ((rd_wb _ rfl).trans ((rd_wb _ rfl).trans ((rd_wb _ rfl).trans ((rd_wb _ rfl).trans ((rd_wb _ rfl).trans ((rd_wb _ rfl).trans (rd_ws _ _ _ _))))))))))))) ?_
      refine Tr.putfX (pc := 68) d_X12_run_68 f_12_276 (by decide) (by decide) (ty_120 hF) hF (by decide +kernel) (fun hF => ?_)
      refine Tr.aload_n (pc := 71) (i := 0) d_X12_run_71 rfl rfl ?_
      refine Tr.aload_n (pc := 72) (i := 0) d_X12_run_72 rfl rfl ?_
      refine Tr.getf (pc := 73) d_X12_run_73 f_12_210 (by decide) (by decide) (ty_120 hF) ?_
      refine Tr.tp 0 ((rd_wb _ rfl).trans ((rd_wb _ rfl).trans ((rd_wb _ rfl).trans ((rd_wb _ rfl).trans ((rd_wb _ rfl).trans ((rd_wb _ rfl).trans ((rd_wb _ rfl).trans ((rd_wb _ rfl).trans ((rd_wb _ rfl).trans ((rd_wb _ rfl).trans ((rd_wb _ rfl).trans (rd_ws _ _ _ _)))))))))))) ?_
      refine Tr.putfX (pc := 76) d_X12_run_76 f_12_279 (by decide) (by decide) (ty_120 hF) hF (by decide +kernel) (fun hF => ?_)
      refine Tr.aload_n (pc := 79) (i := 0) d_X12_run_79 rfl rfl ?_
      refine Tr.aload_n (pc := 80) (i := 0) d_X12_run_80 rfl rfl ?_
      refine Tr.getf (pc := 81) d_X12_run_81 f_12_213 (by decide) (by decide) (ty_120 hF) ?_
      refine Tr.tp 0 ((rd_wb _ rfl).trans ((rd_wb _ rfl).trans ((rd_wb _ rfl).trans ((rd_wb _ rfl).trans ((rd_wb _ rfl).trans ((rd_wb _ rfl).trans ((rd_wb _ rfl).trans ((rd_wb _ rfl).trans ((rd_wb _ rfl).trans ((rd_wb _ rfl).trans ((rd_wb _ rfl).trans (rd_ws _ _ _ _)))))))))))) ?_
      refine Tr.putfX (pc := 84) d_X12_run_84 f_12_282 (by decide) (by decide) (ty_120 hF) hF (by decide +kernel) (fun hF => ?_)
      refine Tr.aload_n (pc := 87) (i := 0) d_X12_run_87 rfl rfl ?_
      refine Tr.aload_n (pc := 88) (i := 0) d_X12_run_88 rfl rfl ?_
      refine Tr.getf (pc := 89) d_X12_run_89 f_12_216 (by decide) (by decide) (ty_120 hF) ?_
      refine Tr.tp 0 ((rd_wb _ rfl).trans ((rd_wb _ rfl).trans ((rd_wb _ rfl).trans ((rd_wb _ rfl).trans ((rd_wb _ rfl).trans ((rd_wb _ rfl).trans ((rd_wb _ rfl).trans ((rd_wb _ rfl).trans ((rd_wb _ rfl).trans ((rd_wb _ rfl).trans ((rd_wb _ rfl).trans (rd_ws _ _ _ _)))))))))))) ?_
      refine Tr.putfX (pc := 92) d_X12_run_92 f_12_285 (by decide) (by decide) (ty_120 hF) hF (by decide +kernel) (fun hF => ?_)
      refine Tr.aload_n (pc := 95) (i := 0) d_X12_run_95 rfl rfl ?_
      refine Tr.aload_n (pc := 96) (i := 0) d_X12_run_96 rfl rfl ?_
      refine Tr.getf (pc := 97) d_X12_run_97 f_12_267 (by decide) (by decide) (ty_120 hF) ?_
      refine Tr.tp (-1) ((rd_wb _ rfl).trans ((rd_wb _ rfl).trans ((rd_wb _ rfl).trans ((rd_wb _ rfl).trans ((rd_wb _ rfl).trans ((rd_wb _ rfl).trans ((rd_wb _ rfl).trans ((rd_wb _ rfl).trans ((rd_wb _ rfl).trans ((rd_wb _ rfl).trans (rd_ws _ _ _ _))))))))))) ?_
      refine Tr.putfX (pc := 100) d_X12_run_100 f_12_288 (by decide) (by decide) (ty_120 hF) hF (by decide +kernel) (fun hF => ?_)
      refine Tr.aload_n (pc := 103) (i := 0) d_X12_run_103 rfl rfl ?_
      refine Tr.aload_n (pc := 104) (i := 0) d_X12_run_104 rfl rfl ?_
      refine Tr.getf (pc := 105) d_X12_run_105 f_12_240 (by decide) (by decide) (ty_120 hF) ?_
      refine Tr.tp 0 ((rd_wb _ rfl).trans ((rd_wb _ rfl).trans ((rd_wb _ rfl).trans ((rd_wb _ rfl).trans ((rd_wb _ rfl).trans ((rd_wb _ rfl).trans ((rd_wb _ rfl).trans ((rd_wb _ rfl).trans ((rd_wb _ rfl).trans (rd_ws _ _ _ _)))))))))) ?_
      refine Tr.putfX (pc := 108) d_X12_run_108 f_12_300 (by decide) (by decide) (ty_120 hF) hF (by decide +kernel) (fun hF => ?_)
      refine Tr.aload_n (pc := 111) (i := 0) d_X12_run_111 rfl rfl ?_
      refine Tr.aload_n (pc := 112) (i := 0) d_X12_run_112 rfl rfl ?_
      refine Tr.getf (pc := 113) d_X12_run_113 f_12_252 (by decide) (by decide) (ty_120 hF) ?_
      refine Tr.tp 0 ((rd_wb _ rfl).trans ((rd_wb _ rfl).trans ((rd_wb _ rfl).trans ((rd_wb _ rfl).trans ((rd_wb _ rfl).trans ((rd_wb _ rfl).trans ((rd_wb _ rfl).trans ((rd_wb _ rfl).trans ((rd_wb _ rfl).trans (rd_ws _ _ _ _)))))))))) ?_
      refine Tr.putfX (pc := 116) d_X12_run_116 f_12_303 (by decide) (by decide) (ty_120 hF) hF (by decide +kernel) (fun hF => ?_)
      refine Tr.iconst (pc := 119) d_X12_run_119 (by decide) ?_
      refine Tr.istore_n (pc := 120) (i := 3) (ls2 := [(3, (0, 0)), (2, (0, 0)), (0, (2, 120)), (1, (0, _))]) d_X12_run_120 rfl (by decide) rfl ?_
      refine Tr.iload_n (pc := 121) (i := 3) d_X12_run_121 rfl rfl ?_
      refine Tr.bipush (pc := 122) d_X12_run_122 rfl (by decide) ?_
      refine Tr.icmp_ge (pc := 124) (tgt := 145) d_X12_run_124 rfl (fun hc => absurd hc (by decide)) (fun _ => ?_)
      refine Tr.aload_n (pc := 127) (i := 0) d_X12_run_127 rfl rfl ?_
      refine Tr.getf (pc := 128) d_X12_run_128 f_12_291 (by decide) (by decide) (ty_120 hF) ?_
      refine Tr.tp 173 (fx_120_92 hF) ?_
      refine Tr.iload_n (pc := 131) (i := 3) d_X12_run_131 rfl rfl ?_
      refine Tr.aload_n (pc := 132) (i := 0) d_X12_run_132 rfl rfl ?_
      refine Tr.getf (pc := 133) d_X12_run_133 f_12_174 (by decide) (by decide) (ty_120 hF) ?_
      refine Tr.tp 155 (fx_120_53 hF) ?_
      refine Tr.iload_n (pc := 136) (i := 3) d_X12_run_136 rfl rfl ?_
      refine Tr.iald (pc := 137) d_X12_run_137 (ty_155 hF) (by decide) (by decide) ?_
      refine Tr.tp 0 ((rd_wb _ rfl).trans ((rd_wb _ rfl).trans ((rd_wb _ rfl).trans ((rd_wb _ rfl).trans ((rd_wb _ rfl).trans ((rd_wb _ rfl).trans ((rd_wb _ rfl).trans ((rd_wb _ rfl).trans ((rd_wb _ rfl).trans ((rd_wb _ rfl).trans ((rd_wb _ rfl).trans ((rd_wb _ rfl).trans ((rd_wb _ rfl).trans ((rd_wb _ rfl).trans ((rd_wb _ rfl).trans ((rd_wb _ rfl).trans ((rd_wb _ rfl).trans ((rd_wb _ rfl).trans ((rd_wb _ rfl).trans ((rd_wb _ rfl).trans ((rd_wb _ rfl).trans ((rd_wb _ rfl).trans ((rd_wb _ rfl).trans ((rd_wb _ rfl).trans ((rd_wb _ rfl).trans ((rd_wb _ rfl).trans ((rd_wb _ rfl).trans ((rd_wb _ rfl).trans ((rd_wb _ rfl).trans ((rd_wb _ rfl).trans ((rd_wb _ rfl).trans ((rd_wb _ rfl).trans ((rd_wb _ rfl).trans ((rd_wb _ rfl).trans ((rd_wb _ rfl).trans ((rd_wb _ rfl).trans ((rd_wb _ rfl).trans ((rd_wb _ rfl).trans ((rd_wb _ rfl).trans ((rd_wb _ rfl).trans ((rd_wb _ rfl).trans ((rd_wb _ rfl).trans ((rd_wb _ rfl).trans ((rd_wb _ rfl).trans ((rd_wb _ rfl).trans ((rd_wb _ rfl).trans ((rd_wb _ rfl).trans ((rd_wb _ rfl).trans ((rd_wb _ rfl).trans ((rd_wb _ rfl).trans ((rd_wb _ rfl).trans ((rd_wb _ rfl).trans ((rd_wb _ rfl).trans ((rd_wb _ rfl).trans ((rd_wb _ rfl).trans ((rd_wb _ rfl).trans ((rd_wb _ rfl).trans ((rd_wb _ rfl).trans ((rd_wb _ rfl).trans ((rd_wb _ rfl).trans ((rd_wb _ rfl).trans ((rd_wb _ rfl).trans ((rd_wb _ rfl).trans ((rd_wb _ rfl).trans ((rd_wb _ rfl).trans ((rd_wb _ rfl).trans ((rd_wb _ rfl).trans ((rd_wb _ rfl).trans ((rd_wb _ rfl).trans ((rd_wb _ rfl).trans ((rd_wb _ rfl).trans ((rd_wb _ rfl).trans ((rd_wb _ rfl).trans ((rd_wb _ rfl).trans ((rd_wb _ rfl).trans ((rd_wb _ rfl).trans ((rd_wb _ rfl).trans ((rd_wb _ rfl).trans ((rd_wb _ rfl).trans ((rd_wb _ rfl).trans ((rd_wb _ rfl).trans ((rd_wb _ rfl).trans (rd_ws _ _ _ _))))))))))))))))))))))))))))))))))))))))))))))))))))))))))))))))))))))))))))))))))) ?_
      refine Tr.iastX (pc := 138) d_X12_run_138 (ty_173 hF) (by decide) (by decide) hF (by decide +kernel) (fun hF => ?_)
      refine Tr.iinc (pc := 139) (ls2 := [(3, (0, 1)), (2, (0, 0)), (0, (2, 120)), (1, (0, _))]) d_X12_run_139 rfl (by decide) rfl ?_
      refine Tr.goto (pc := 142) (tgt := 121) d_X12_run_142 rfl ?_
      refine Tr.iload_n (pc := 121) (i := 3) d_X12_run_121 rfl rfl ?_
      refine Tr.bipush (pc := 122) d_X12_run_122 rfl (by decide) ?_
      refine Tr.icmp_ge (pc := 124) (tgt := 145) d_X12_run_124 rfl (fun hc => absurd hc (by decide)) (fun _ => ?_)
      refine Tr.aload_n (pc := 127) (i := 0) d_X12_run_127 rfl rfl ?_
      refine Tr.getf (pc := 128) d_X12_run_128 f_12_291 (by decide) (by decide) (ty_120 hF) ?_
      refine Tr.tp 173 (fx_120_92 hF) ?_
      refine Tr.iload_n (pc := 131) (i := 3) d_X12_run_131 rfl rfl ?_
      refine Tr.aload_n (pc := 132) (i := 0) d_X12_run_132 rfl rfl ?_
      refine Tr.getf (pc := 133) d_X12_run_133 f_12_174 (by decide) (by decide) (ty_120 hF) ?_
      refine Tr.tp 155 (fx_120_53 hF) ?_
      refine Tr.iload_n (pc := 136) (i := 3) d_X12_run_136 rfl rfl ?_
      refine Tr.iald (pc := 137) d_X12_run_137 (ty_155 hF) (by decide) (by decide) ?_
      refine Tr.tp 0 ((rd_wb _ rfl).trans ((rd_wb _ rfl).trans ((rd_wb _ rfl).trans ((rd_wb _ rfl).trans ((rd_wb _ rfl).trans ((rd_wb _ rfl).trans ((rd_wb _ rfl).trans ((rd_wb _ rfl).trans ((rd_wb _ rfl).trans ((rd_wb _ rfl).trans ((rd_wb _ rfl).trans ((rd_wb _ rfl).trans ((rd_wb _ rfl).trans ((rd_wb _ rfl).trans ((rd_wb _ rfl).trans ((rd_wb _ rfl).trans ((rd_wb _ rfl).trans ((rd_wb _ rfl).trans ((rd_wb _ rfl).trans ((rd_wb _ rfl).trans ((rd_wb _ rfl).trans ((rd_wb _ rfl).trans ((rd_wb _ rfl).trans ((rd_wb _ rfl).trans ((rd_wb _ rfl).trans ((rd_wb _ rfl).trans ((rd_wb _ rfl).trans ((rd_wb _ rfl).trans ((rd_wb _ rfl).trans ((rd_wb _ rfl).trans ((rd_wb _ rfl).trans ((rd_wb _ rfl).trans ((rd_wb _ rfl).trans ((rd_wb _ rfl).trans ((rd_wb _ rfl).trans ((rd_wb _ rfl).trans ((rd_wb _ rfl).trans ((rd_wb _ rfl).trans ((rd_wb _ rfl).trans ((rd_wb _ rfl).trans ((rd_wb _ rfl).trans ((rd_wb _ rfl).trans ((rd_wb _ rfl).trans ((rd_wb _ rfl).trans ((rd_wb _ rfl).trans ((rd_wb _ rfl).trans ((rd_wb _ rfl).trans ((rd_wb _ rfl).trans ((rd_wb _ rfl).trans ((rd_wb _ rfl).trans ((rd_wb _ rfl).trans ((rd_wb _ rfl).trans ((rd_wb _ rfl).trans ((rd_wb _ rfl).trans ((rd_wb _ rfl).trans ((rd_wb _ rfl).trans ((rd_wb _ rfl).trans ((rd_wb _ rfl).trans ((rd_wb _ rfl).trans ((rd_wb _ rfl).trans ((rd_wb _ rfl).trans ((rd_wb _ rfl).trans ((rd_wb _ rfl).trans ((rd_wb _ rfl).trans ((rd_wb _ rfl).trans ((rd_wb _ rfl).trans ((rd_wb _ rfl).trans ((rd_wb _ rfl).trans ((rd_wb _ rfl).trans ((rd_wb _ rfl).trans ((rd_wb _ rfl).trans ((rd_wb _ rfl).trans ((rd_wb _ rfl).trans ((rd_wb _ rfl).trans ((rd_wb _ rfl).trans ((rd_wb _ rfl).trans ((rd_wb _ rfl).trans ((rd_wb _ rfl).trans ((rd_wb _ rfl).trans ((rd_wb _ rfl).trans ((rd_wb _ rfl).trans ((rd_wb _ rfl).trans (rd_ws _ _ _ _))))))))))))))))))))))))))))))))))))))))))))))))))))))))))))))))))))))))))))))))))) ?_
      refine Tr.iastX (pc := 138) d_X12_run_138 (ty_173 hF) (by decide) (by decide) hF (by decide +kernel) (fun hF => ?_)
      refine Tr.iinc (pc := 139) (ls2 := [(3, (0, 2)), (2, (0, 0)), (0, (2, 120)), (1, (0, _))]) d_X12_run_139 rfl (by decide) rfl ?_
      refine Tr.goto (pc := 142) (tgt := 121) d_X12_run_142 rfl ?_
      refine Tr.iload_n (pc := 121) (i := 3) d_X12_run_121 rfl rfl ?_
      refine Tr.bipush (pc := 122) d_X12_run_122 rfl (by decide) ?_
      refine Tr.icmp_ge (pc := 124) (tgt := 145) d_X12_run_124 rfl (fun hc => absurd hc (by decide)) (fun _ => ?_)
      refine Tr.aload_n (pc := 127) (i := 0) d_X12_run_127 rfl rfl ?_
      refine Tr.getf (pc := 128) d_X12_run_128 f_12_291 (by decide) (by decide) (ty_120 hF) ?_
      refine Tr.tp 173 (fx_120_92 hF) ?_
      refine Tr.iload_n (pc := 131) (i := 3) d_X12_run_131 rfl rfl ?_
      refine Tr.aload_n (pc := 132) (i := 0) d_X12_run_132 rfl rfl ?_
      refine Tr.getf (pc := 133) d_X12_run_133 f_12_174 (by decide) (by decide) (ty_120 hF) ?_
      refine Tr.tp 155 (fx_120_53 hF) ?_
      refine Tr.iload_n (pc := 136) (i := 3) d_X12_run_136 rfl rfl ?_
      refine Tr.iald (pc := 137) d_X12_run_137 (ty_155 hF) (by decide) (by decide) ?_
      refine Tr.tp 0 ((rd_wb _ rfl).trans ((rd_wb _ rfl).trans ((rd_wb _ rfl).trans ((rd_wb _ rfl).trans ((rd_wb _ rfl).trans ((rd_wb _ rfl).trans ((rd_wb _ rfl).trans ((rd_wb _ rfl).trans ((rd_wb _ rfl).trans ((rd_wb _ rfl).trans ((rd_wb _ rfl).trans ((rd_wb _ rfl).trans ((rd_wb _ rfl).trans ((rd_wb _ rfl).trans ((rd_wb _ rfl).trans ((rd_wb _ rfl).trans ((rd_wb _ rfl).trans ((rd_wb _ rfl).trans ((rd_wb _ rfl).trans ((rd_wb _ rfl).trans ((rd_wb _ rfl).trans ((rd_wb _ rfl).trans ((rd_wb _ rfl).trans ((rd_wb _ rfl).trans ((rd_wb _ rfl).trans ((rd_wb _ rfl).trans ((rd_wb _ rfl).trans ((rd_wb _ rfl).trans ((rd_wb _ rfl).trans ((rd_wb _ rfl).trans ((rd_wb _ rfl).trans ((rd_wb _ rfl).trans ((rd_wb _ rfl).trans ((rd_wb _ rfl).trans ((rd_wb _ rfl).trans ((rd_wb _ rfl).trans ((rd_wb _ rfl).trans ((rd_wb _ rfl).trans ((rd_wb _ rfl).trans ((rd_wb _ rfl).trans ((rd_wb _ rfl).trans ((rd_wb _ rfl).trans ((rd_wb _ rfl).trans ((rd_wb _ rfl).trans ((rd_wb _ rfl).trans ((rd_wb _ rfl).trans ((rd_wb _ rfl).trans ((rd_wb _ rfl).trans ((rd_wb _ rfl).trans ((rd_wb _ rfl).trans ((rd_wb _ rfl).trans ((rd_wb _ rfl).trans ((rd_wb _ rfl).trans ((rd_wb _ rfl).trans ((rd_wb _ rfl).trans ((rd_wb _ rfl).trans ((rd_wb _ rfl).trans ((rd_wb _ rfl).trans ((rd_wb _ rfl).trans ((rd_wb _ rfl).trans ((rd_wb _ rfl).trans ((rd_wb _ rfl).trans ((rd_wb _ rfl).trans ((rd_wb _ rfl).trans ((rd_wb _ rfl).trans ((rd_wb _ rfl).trans ((rd_wb _ rfl).trans ((rd_wb _ rfl).trans ((rd_wb _ rfl).trans ((rd_wb _ rfl).trans ((rd_wb _ rfl).trans ((rd_wb _ rfl).trans ((rd_wb _ rfl).trans ((rd_wb _ rfl).trans ((rd_wb _ rfl).trans ((rd_wb _ rfl).trans ((rd_wb _ rfl).trans ((rd_wb _ rfl).trans ((rd_wb _ rfl).trans ((rd_wb _ rfl).trans ((rd_wb _ rfl).trans ((rd_wb _ rfl).trans (rd_ws _ _ _ _))))))))))))))))))))))))))))))))))))))))))))))))))))))))))))))))))))))))))))))))))) ?_
      refine Tr.iastX (pc := 138) d_X12_run_138 (ty_173 hF) (by decide) (by decide) hF (by decide +kernel) (fun hF => ?_)
      refine Tr.iinc (pc := 139) (ls2 := [(3, (0, 3)), (2, (0, 0)), (0, (2, 120)), (1, (0, _))]) d_X12_run_139 rfl (by decide) rfl ?_
      refine Tr.goto (pc := 142) (tgt := 121) d_X12_run_142 rfl ?_
      refine Tr.iload_n (pc := 121) (i := 3) d_X12_run_121 rfl rfl ?_
      refine Tr.bipush (pc := 122) d_X12_run_122 rfl (by decide) ?_
      refine Tr.icmp_ge (pc := 124) (tgt := 145) d_X12_run_124 rfl (fun hc => absurd hc (by decide)) (fun _ => ?_)
      refine Tr.aload_n (pc := 127) (i := 0) d_X12_run_127 rfl rfl ?_
      refine Tr.getf (pc := 128) d_X12_run_128 f_12_291 (by decide) (by decide) (ty_120 hF) ?_
      refine Tr.tp 173 (fx_120_92 hF) ?_
      refine Tr.iload_n (pc := 131) (i := 3) d_X12_run_131 rfl rfl ?_
      refine Tr.aload_n (pc := 132) (i := 0) d_X12_run_132 rfl rfl ?_
      refine Tr.getf (pc := 133) d_X12_run_133 f_12_174 (by decide) (by decide) (ty_120 hF) ?_
      refine Tr.tp 155 (fx_120_53 hF) ?_
      refine Tr.iload_n (pc := 136) (i := 3) d_X12_run_136 rfl rfl ?_
      refine Tr.iald (pc := 137) d_X12_run_137 (ty_155 hF) (by decide) (by decide) ?_
      refine Tr.tp 0 ((rd_wb _ rfl).trans ((rd_wb _ rfl).trans ((rd_wb _ rfl).trans ((rd_wb _ rfl).trans ((rd_wb _ rfl).trans ((rd_wb _ rfl).trans ((rd_wb _ rfl).trans ((rd_wb _ rfl).trans ((rd_wb _ rfl).trans ((rd_wb _ rfl).trans ((rd_wb _ rfl).trans ((rd_wb _ rfl).trans ((rd_wb _ rfl).trans ((rd_wb _ rfl).trans ((rd_wb _ rfl).trans ((rd_wb _ rfl).trans ((rd_wb _ rfl).trans ((rd_wb _ rfl).trans ((rd_wb _ rfl).trans ((rd_wb _ rfl).trans ((rd_wb _ rfl).trans ((rd_wb _ rfl).trans ((rd_wb _ rfl).trans ((rd_wb _ rfl).trans ((rd_wb _ rfl).trans ((rd_wb _ rfl).trans ((rd_wb _ rfl).trans ((rd_wb _ rfl).trans ((rd_wb _ rfl).trans ((rd_wb _ rfl).trans ((rd_wb _ rfl).trans ((rd_wb _ rfl).trans ((rd_wb _ rfl).trans ((rd_wb _ rfl).trans ((rd_wb _ rfl).trans ((rd_wb _ rfl).trans ((rd_wb _ rfl).trans ((rd_wb _ rfl).trans ((rd_wb _ rfl).trans ((rd_wb _ rfl).trans ((rd_wb _ rfl).trans ((rd_wb _ rfl).trans ((rd_wb _ rfl).trans ((rd_wb _ rfl).trans ((rd_wb _ rfl).trans ((rd_wb _ rfl).trans ((rd_wb _ rfl).trans ((rd_wb _ rfl).trans ((rd_wb _ rfl).trans ((rd_wb _ rfl).trans ((rd_wb _ rfl).trans ((rd_wb _ rfl).trans ((rd_wb _ rfl).trans ((rd_wb _ rfl).trans ((rd_wb _ rfl).trans ((rd_wb _ rfl).trans ((rd_wb _ rfl).trans ((rd_wb _ rfl).trans ((rd_wb _ rfl).trans ((rd_wb _ rfl).trans ((rd_wb _ rfl).trans ((rd_wb _ rfl).trans ((rd_wb _ rfl).trans ((rd_wb _ rfl).trans ((rd_wb _ rfl).trans ((rd_wb _ rfl).trans ((rd_wb _ rfl).trans ((rd_wb _ rfl).trans ((rd_wb _ rfl).trans ((rd_wb _ rfl).trans ((rd_wb _ rfl).trans ((rd_wb _ rfl).trans ((rd_wb _ rfl).trans ((rd_wb _ rfl).trans ((rd_wb _ rfl).trans ((rd_wb _ rfl).trans ((rd_wb _ rfl).trans ((rd_wb _ rfl).trans ((rd_wb _ rfl).trans ((rd_wb _ rfl).trans ((rd_wb _ rfl).trans ((rd_wb _ rfl).trans (rd_ws _ _ _ _))))))))))))))))))))))))))))))))))))))))))))))))))))))))))))))))))))))))))))))))))) ?_
      refine Tr.iastX (pc := 138) d_X12_run_138 (ty_173 hF) (by decide) (by decide) hF (by decide +kernel) (fun hF => ?_)
      refine Tr.iinc (pc := 139) (ls2 := [(3, (0, 4)), (2, (0, 0)), (0, (2, 120)), (1, (0, _))]) d_X12_run_139 rfl (by decide) rfl ?_
      refine Tr.goto (pc := 142) (tgt := 121) d_X12_run_142 rfl ?_
      refine Tr.iload_n (pc := 121) (i := 3) d_X12_run_121 rfl rfl ?_
      refine Tr.bipush (pc := 122) d_X12_run_122 rfl (by decide) ?_
      refine Tr.icmp_ge (pc := 124) (tgt := 145) d_X12_run_124 rfl (fun hc => absurd hc (by decide)) (fun _ => ?_)
      refine Tr.aload_n (pc := 127) (i := 0) d_X12_run_127 rfl rfl ?_
      refine Tr.getf (pc := 128) d_X12_run_128 f_12_291 (by decide) (by decide) (ty_120 hF) ?_
      refine Tr.tp 173 (fx_120_92 hF) ?_
      refine Tr.iload_n (pc := 131) (i := 3) d_X12_run_131 rfl rfl ?_
      refine Tr.aload_n (pc := 132) (i := 0) d_X12_run_132 rfl rfl ?_
      refine Tr.getf (pc := 133) d_X12_run_133 f_12_174 (by decide) (by decide) (ty_120 hF) ?_
      refine Tr.tp 155 (fx_120_53 hF) ?_
      refine Tr.iload_n (pc := 136) (i := 3) d_X12_run_136 rfl rfl ?_
      refine Tr.iald (pc := 137) d_X12_run_137 (ty_155 hF) (by decide) (by decide) ?_
      refine Tr.tp 0 ((rd_wb _ rfl).trans ((rd_wb _ rfl).trans ((rd_wb _ rfl).trans ((rd_wb _ rfl).trans ((rd_wb _ rfl).trans ((rd_wb _ rfl).trans ((rd_wb _ rfl).trans ((rd_wb _ rfl).trans ((rd_wb _ rfl).trans ((rd_wb _ rfl).trans ((rd_wb _ rfl).trans ((rd_wb _ rfl).trans ((rd_wb _ rfl).trans ((rd_wb _ rfl).trans ((rd_wb _ rfl).trans ((rd_wb _ rfl).trans ((rd_wb _ rfl).trans ((rd_wb _ rfl).trans ((rd_wb _ rfl).trans ((rd_wb _ rfl).trans ((rd_wb _ rfl).trans ((rd_wb _ rfl).trans ((rd_wb _ rfl).trans ((rd_wb _ rfl).trans ((rd_wb _ rfl).trans ((rd_wb _ rfl).trans ((rd_wb _ rfl).trans ((rd_wb _ rfl).trans ((rd_wb _ rfl).trans ((rd_wb _ rfl).trans ((rd_wb _ rfl).trans ((rd_wb _ rfl).trans ((rd_wb _ rfl).trans ((rd_wb _ rfl).trans ((rd_wb _ rfl).trans ((rd_wb _ rfl).trans ((rd_wb _ rfl).trans ((rd_wb _ rfl).trans ((rd_wb _ rfl).trans ((rd_wb _ rfl).trans ((rd_wb _ rfl).trans ((rd_wb _ rfl).trans ((rd_wb _ rfl).trans ((rd_wb _ rfl).trans ((rd_wb _ rfl).trans ((rd_wb _ rfl).trans ((rd_wb _ rfl).trans ((rd_wb _ rfl).trans ((rd_wb _ rfl).trans ((rd_wb _ rfl).trans ((rd_wb _ rfl).trans ((rd_wb _ rfl).trans ((rd_wb _ rfl).trans ((rd_wb _ rfl).trans ((rd_wb _ rfl).trans ((rd_wb _ rfl).trans ((rd_wb _ rfl).trans ((rd_wb _ rfl).trans ((rd_wb _ rfl).trans ((rd_wb _ rfl).trans ((rd_wb _ rfl).trans ((rd_wb _ rfl).trans ((rd_wb _ rfl).trans ((rd_wb _ rfl).trans ((rd_wb _ rfl).trans ((rd_wb _ rfl).trans ((rd_wb _ rfl).trans ((rd_wb _ rfl).trans ((rd_wb _ rfl).trans ((rd_wb _ rfl).trans ((rd_wb _ rfl).trans ((rd_wb _ rfl).trans ((rd_wb _ rfl).trans ((rd_wb _ rfl).trans ((rd_wb _ rfl).trans ((rd_wb _ rfl).trans ((rd_wb _ rfl).trans ((rd_wb _ rfl).trans ((rd_wb _ rfl).trans ((rd_wb _ rfl).trans ((rd_wb _ rfl).trans ((rd_wb _ rfl).trans (rd_ws _ _ _ _))))))))))))))))))))))))))))))))))))))))))))))))))))))))))))))))))))))))))))))))))) ?_
      refine Tr.iastX (pc := 138) d_X12_run_138 (ty_173 hF) (by decide) (by decide) hF (by decide +kernel) (fun hF => ?_)
      refine Tr.iinc (pc := 139) (ls2 := [(3, (0, 5)), (2, (0, 0)), (0, (2, 120)), (1, (0, _))]) d_X12_run_139 rfl (by decide) rfl ?_
      refine Tr.goto (pc := 142) (tgt := 121) d_X12_run_142 rfl ?_
      refine Tr.iload_n (pc := 121) (i := 3) d_X12_run_121 rfl rfl ?_
      refine Tr.bipush (pc := 122) d_X12_run_122 rfl (by decide) ?_
      refine Tr.icmp_ge (pc := 124) (tgt := 145) d_X12_run_124 rfl (fun hc => absurd hc (by decide)) (fun _ => ?_)
      refine Tr.aload_n (pc := 127) (i := 0) d_X12_run_127 rfl rfl ?_
      refine Tr.getf (pc := 128) d_X12_run_128 f_12_291 (by decide) (by decide) (ty_120 hF) ?_
      refine Tr.tp 173 (fx_120_92 hF) ?_
      refine Tr.iload_n (pc := 131) (i := 3) d_X12_run_131 rfl rfl ?_
      refine Tr.aload_n (pc := 132) (i := 0) d_X12_run_132 rfl rfl ?_
      refine Tr.getf (pc := 133) d_X12_run_133 f_12_174 (by decide) (by decide) (ty_120 hF) ?_
      refine Tr.tp 155 (fx_120_53 hF) ?_
      refine Tr.iload_n (pc := 136) (i := 3) d_X12_run_136 rfl rfl ?_
      refine Tr.iald (pc := 137) d_X12_run_137 (ty_155 hF) (by decide) (by decide) ?_
      refine Tr.tp 0 ((rd_wb _ rfl).trans ((rd_wb _ rfl).trans ((rd_wb _ rfl).trans ((rd_wb _ rfl).trans ((rd_wb _ rfl).trans ((rd_wb _ rfl).trans ((rd_wb _ rfl).trans ((rd_wb _ rfl).trans ((rd_wb _ rfl).trans ((rd_wb _ rfl).trans ((rd_wb _ rfl).trans ((rd_wb _ rfl).trans ((rd_wb _ rfl).trans ((rd_wb _ rfl).trans ((rd_wb _ rfl).trans ((rd_wb _ rfl).trans ((rd_wb _ rfl).trans ((rd_wb _ rfl).trans ((rd_wb _ rfl).trans ((rd_wb _ rfl).trans ((rd_wb _ rfl).trans ((rd_wb _ rfl).trans ((rd_wb _ rfl).trans ((rd_wb _ rfl).trans ((rd_wb _ rfl).trans ((rd_wb _ rfl).trans ((rd_wb _ rfl).trans ((rd_wb _ rfl).trans ((rd_wb _ rfl).trans ((rd_wb _ rfl).trans ((rd_wb _ rfl).trans ((rd_wb _ rfl).trans ((rd_wb _ rfl).trans ((rd_wb _ rfl).trans ((rd_wb _ rfl).trans ((rd_wb _ rfl).trans ((rd_wb _ rfl).trans ((rd_wb _ rfl).trans ((rd_wb _ rfl).trans ((rd_wb _ rfl).trans ((rd_wb _ rfl).trans ((rd_wb _ rfl).trans ((rd_wb _ rfl).trans ((rd_wb _ rfl).trans ((rd_wb _ rfl).trans ((rd_wb _ rfl).trans ((rd_wb _ rfl).trans ((rd_wb _ rfl).trans ((rd_wb _ rfl).trans ((rd_wb _ rfl).trans ((rd_wb _ rfl).trans ((rd_wb _ rfl).trans ((rd_wb _ rfl).trans ((rd_wb _ rfl).trans ((rd_wb _ rfl).trans ((rd_wb _ rfl).trans ((rd_wb _ rfl).trans ((rd_wb _ rfl).trans ((rd_wb _ rfl).trans ((rd_wb _ rfl).trans ((rd_wb _ rfl).trans ((rd_wb _ rfl).trans ((rd_wb _ rfl).trans ((rd_wb _ rfl).trans ((rd_wb _ rfl).trans ((rd_wb _ rfl).trans ((rd_wb _ rfl).trans ((rd_wb _ rfl).trans ((rd_wb _ rfl).trans ((rd_wb _ rfl).trans ((rd_wb _ rfl).trans ((rd_wb _ rfl).trans ((rd_wb _ rfl).trans ((rd_wb _ rfl).trans ((rd_wb _ rfl).trans ((rd_wb _ rfl).trans ((rd_wb _ rfl).trans ((rd_wb _ rfl).trans ((rd_wb _ rfl).trans ((rd_wb _ rfl).trans ((rd_wb _ rfl).trans ((rd_wb _ rfl).trans (rd_ws _ _ _ _))))))))))))))))))))))))))))))))))))))))))))))))))))))))))))))))))))))))))))))))))) ?_
      refine Tr.iastX (pc := 138) d_X12_run_138 (ty_173 hF) (by decide) (by decide) hF (by decide +kernel) (fun hF => ?_)
      refine Tr.iinc (pc := 139) (ls2 := [(3, (0, 6)), (2, (0, 0)), (0, (2, 120)), (1, (0, _))]) d_X12_run_139 rfl (by decide) rfl ?_
      refine Tr.goto (pc := 142) (tgt := 121) d_X12_run_142 rfl ?_
      refine Tr.iload_n (pc := 121) (i := 3) d_X12_run_121 rfl rfl ?_
      refine Tr.bipush (pc := 122) d_X12_run_122 rfl (by decide) ?_
      refine Tr.icmp_ge (pc := 124) (tgt := 145) d_X12_run_124 rfl (fun _ => ?_) (fun hc => absurd (by decide) hc)
      refine Tr.iconst (pc := 145) d_X12_run_145 (by decide) ?_
      refine Tr.istore_n (pc := 146) (i := 3) (ls2 := [(3, (0, 0)), (2, (0, 0)), (0, (2, 120)), (1, (0, _))]) d_X12_run_146 rfl (by decide) rfl ?_
      refine Tr.iload_n (pc := 147) (i := 3) d_X12_run_147 rfl rfl ?_
      refine Tr.bipush (pc := 148) d_X12_run_148 rfl (by decide) ?_
      refine Tr.icmp_ge (pc := 150) (tgt := 171) d_X12_run_150 rfl (fun hc => absurd hc (by decide)) (fun _ => ?_)
      refine Tr.aload_n (pc := 153) (i := 0) d_X12_run_153 rfl rfl ?_
      refine Tr.getf (pc := 154) d_X12_run_154 f_12_294 (by decide) (by decide) (ty_120 hF) ?_
      refine Tr.tp 174 (fx_120_93 hF) ?_
      refine Tr.iload_n (pc := 157) (i := 3) d_X12_run_157 rfl rfl ?_
      refine Tr.aload_n (pc := 158) (i := 0) d_X12_run_158 rfl rfl ?_
      refine Tr.getf (pc := 159) d_X12_run_159 f_12_222 (by decide) (by decide) (ty_120 hF) ?_
      refine Tr.tp 161 (fx_120_69 hF) ?_
      refine Tr.iload_n (pc := 162) (i := 3) d_X12_run_162 rfl rfl ?_
      refine Tr.iald (pc := 163) d_X12_run_163 (ty_161 hF) (by decide) (by decide) ?_
      refine Tr.tp 0 ((rd_wb _ rfl).trans ((rd_wb _ rfl).trans ((rd_wb _ rfl).trans ((rd_wb _ rfl).trans ((rd_wb _ rfl).trans ((rd_wb _ rfl).trans ((rd_wb _ rfl).trans ((rd_wb _ rfl).trans ((rd_wb _ rfl).trans ((rd_wb _ rfl).trans ((rd_wb _ rfl).trans ((rd_wb _ rfl).trans ((rd_wb _ rfl).trans ((rd_wb _ rfl).trans ((rd_wb _ rfl).trans ((rd_wb _ rfl).trans ((rd_wb _ rfl).trans ((rd_wb _ rfl).trans ((rd_wb _ rfl).trans ((rd_wb _ rfl).trans ((rd_wb _ rfl).trans ((rd_wb _ rfl).trans ((rd_wb _ rfl).trans ((rd_wb _ rfl).trans ((rd_wb _ rfl).trans ((rd_wb _ rfl).trans ((rd_wb _ rfl).trans ((rd_wb _ rfl).trans ((rd_wb _ rfl).trans ((rd_wb _ rfl).trans ((rd_wb _ rfl).trans ((rd_wb _ rfl).trans ((rd_wb _ rfl).trans ((rd_wb _ rfl).trans ((rd_wb _ rfl).trans ((rd_wb _ rfl).trans ((rd_wb _ rfl).trans ((rd_wb _ rfl).trans ((rd_wb _ rfl).trans ((rd_wb _ rfl).trans ((rd_wb _ rfl).trans ((rd_wb _ rfl).trans ((rd_wb _ rfl).trans ((rd_wb _ rfl).trans ((rd_wb _ rfl).trans ((rd_wb _ rfl).trans ((rd_wb _ rfl).trans ((rd_wb _ rfl).trans ((rd_wb _ rfl).trans ((rd_wb _ rfl).trans (rd_ws _ _ _ _))))))))))))))))))))))))))))))))))))))))))))))))))) ?_
      refine Tr.iastX (pc := 164) d_X12_run_164 (ty_174 hF) (by decide) (by decide) hF (by decide +kernel) (fun hF => ?_)
      refine Tr.iinc (pc := 165) (ls2 := [(3, (0, 1)), (2, (0, 0)), (0, (2, 120)), (1, (0, _))]) d_X12_run_165 rfl (by decide) rfl ?_
      refine Tr.goto (pc := 168) (tgt := 147) d_X12_run_168 rfl ?_
      refine Tr.iload_n (pc := 147) (i := 3) d_X12_run_147 rfl rfl ?_
      refine Tr.bipush (pc := 148) d_X12_run_148 rfl (by decide) ?_
      refine Tr.icmp_ge (pc := 150) (tgt := 171) d_X12_run_150 rfl (fun hc => absurd hc (by decide)) (fun _ => ?_)
      refine Tr.aload_n (pc := 153) (i := 0) d_X12_run_153 rfl rfl ?_
      refine Tr.getf (pc := 154) d_X12_run_154 f_12_294 (by decide) (by decide) (ty_120 hF) ?_
      refine Tr.tp 174 (fx_120_93 hF) ?_
      refine Tr.iload_n (pc := 157) (i := 3) d_X12_run_157 rfl rfl ?_
      refine Tr.aload_n (pc := 158) (i := 0) d_X12_run_158 rfl rfl ?_
      refine Tr.getf (pc := 159) d_X12_run_159 f_12_222 (by decide) (by decide) (ty_120 hF) ?_
      refine Tr.tp 161 (fx_120_69 hF) ?_
      refine Tr.iload_n (pc := 162) (i := 3) d_X12_run_162 rfl rfl ?_
      refine Tr.iald (pc := 163) d_X12_run_163 (ty_161 hF) (by decide) (by decide) ?_
      refine Tr.tp 0 ((rd_wb _ rfl).trans ((rd_wb _ rfl).trans ((rd_wb _ rfl).trans ((rd_wb _ rfl).trans ((rd_wb _ rfl).trans ((rd_wb _ rfl).trans ((rd_wb _ rfl).trans ((rd_wb _ rfl).trans ((rd_wb _ rfl).trans ((rd_wb _ rfl).trans ((rd_wb _ rfl).trans ((rd_wb _ rfl).trans ((rd_wb _ rfl).trans ((rd_wb _ rfl).trans ((rd_wb _ rfl).trans ((rd_wb _ rfl).trans ((rd_wb _ rfl).trans ((rd_wb _ rfl).trans ((rd_wb _ rfl).trans ((rd_wb _ rfl).trans ((rd_wb _ rfl).trans ((rd_wb _ rfl).trans ((rd_wb _ rfl).trans ((rd_wb _ rfl).trans ((rd_wb _ rfl).trans ((rd_wb _ rfl).trans ((rd_wb _ rfl).trans ((rd_wb _ rfl).trans ((rd_wb _ rfl).trans ((rd_wb _ rfl).trans ((rd_wb _ rfl).trans ((rd_wb _ rfl).trans ((rd_wb _ rfl).trans ((rd_wb _ rfl).trans ((rd_wb _ rfl).trans ((rd_wb _ rfl).trans ((rd_wb _ rfl).trans ((rd_wb _ rfl).trans ((rd_wb _ rfl).trans ((rd_wb _ rfl).trans ((rd_wb _ rfl).trans ((rd_wb _ rfl).trans ((rd_wb _ rfl).trans ((rd_wb _ rfl).trans ((rd_wb _ rfl).trans ((rd_wb _ rfl).trans ((rd_wb _ rfl).trans ((rd_wb _ rfl).trans ((rd_wb _ rfl).trans ((rd_wb _ rfl).trans (rd_ws _ _ _ _))))))))))))))))))))))))))))))))))))))))))))))))))) ?_
      refine Tr.iastX (pc := 164) d_X12_run_164 (ty_174 hF) (by decide) (by decide) hF (by decide +kernel) (fun hF => ?_)
      refine Tr.iinc (pc := 165) (ls2 := [(3, (0, 2)), (2, (0, 0)), (0, (2, 120)), (1, (0, _))]) d_X12_run_165 rfl (by decide) rfl ?_
      refine Tr.goto (pc := 168) (tgt := 147) d_X12_run_168 rfl ?_
      refine Tr.iload_n (pc := 147) (i := 3) d_X12_run_147 rfl rfl ?_
      refine Tr.bipush (pc := 148) d_X12_run_148 rfl (by decide) ?_
      refine Tr.icmp_ge (pc := 150) (tgt := 171) d_X12_run_150 rfl (fun hc => absurd hc (by decide)) (fun _ => ?_)
      refine Tr.aload_n (pc := 153) (i := 0) d_X12_run_153 rfl rfl ?_
      refine Tr.getf (pc := 154) d_X12_run_154 f_12_294 (by decide) (by decide) (ty_120 hF) ?_
      refine Tr.tp 174 (fx_120_93 hF) ?_
      refine Tr.iload_n (pc := 157) (i := 3) d_X12_run_157 rfl rfl ?_
      refine Tr.aload_n (pc := 158) (i := 0) d_X12_run_158 rfl rfl ?_
      refine Tr.getf (pc := 159) d_X12_run_159 f_12_222 (by decide) (by decide) (ty_120 hF) ?_
      refine Tr.tp 161 (fx_120_69 hF) ?_
      refine Tr.iload_n (pc := 162) (i := 3) d_X12_run_162 rfl rfl ?_
      refine Tr.iald (pc := 163) d_X12_run_163 (ty_161 hF) (by decide) (by decide) ?_
      refine Tr.tp 0 ((rd_wb _ rfl).trans ((rd_wb _ rfl).trans ((rd_wb _ rfl).trans ((rd_wb _ rfl).trans ((rd_wb _ rfl).trans ((rd_wb _ rfl).trans ((rd_wb _ rfl).trans ((rd_wb _ rfl).trans ((rd_wb _ rfl).trans ((rd_wb _ rfl).trans ((rd_wb _ rfl).trans ((rd_wb _ rfl).trans ((rd_wb _ rfl).trans ((rd_wb _ rfl).trans ((rd_wb _ rfl).trans ((rd_wb _ rfl).trans ((rd_wb _ rfl).trans ((rd_wb _ rfl).trans ((rd_wb _ rfl).trans ((rd_wb _ rfl).trans ((rd_wb _ rfl).trans ((rd_wb _ rfl).trans ((rd_wb _ rfl).trans ((rd_wb _ rfl).trans ((rd_wb _ rfl).trans ((rd_wb _ rfl).trans ((rd_wb _ rfl).trans ((rd_wb _ rfl).trans ((rd_wb _ rfl).trans ((rd_wb _ rfl).trans ((rd_wb _ rfl).trans ((rd_wb _ rfl).trans ((rd_wb _ rfl).trans ((rd_wb _ rfl).trans ((rd_wb _ rfl).trans ((rd_wb _ rfl).trans ((rd_wb _ rfl).trans ((rd_wb _ rfl).trans ((rd_wb _ rfl).trans ((rd_wb _ rfl).trans ((rd_wb _ rfl).trans ((rd_wb _ rfl).trans ((rd_wb _ rfl).trans ((rd_wb _ rfl).trans ((rd_wb _ rfl).trans ((rd_wb _ rfl).trans ((rd_wb _ rfl).trans ((rd_wb _ rfl).trans ((rd_wb _ rfl).trans ((rd_wb _ rfl).trans (rd_ws _ _ _ _))))))))))))))))))))))))))))))))))))))))))))))))))) ?_
      refine Tr.iastX (pc := 164) d_X12_run_164 (ty_174 hF) (by decide) (by decide) hF (by decide +kernel) (fun hF => ?_)
      refine Tr.iinc (pc := 165) (ls2 := [(3, (0, 3)), (2, (0, 0)), (0, (2, 120)), (1, (0, _))]) d_X12_run_165 rfl (by decide) rfl ?_
      refine Tr.goto (pc := 168) (tgt := 147) d_X12_run_168 rfl ?_
      refine Tr.iload_n (pc := 147) (i := 3) d_X12_run_147 rfl rfl ?_
      refine Tr.bipush (pc := 148) d_X12_run_148 rfl (by decide) ?_
      refine Tr.icmp_ge (pc := 150) (tgt := 171) d_X12_run_150 rfl (fun hc => absurd hc (by decide)) (fun _ => ?_)
      refine Tr.aload_n (pc := 153) (i := 0) d_X12_run_153 rfl rfl ?_
      refine Tr.getf (pc := 154) d_X12_run_154 f_12_294 (by decide) (by decide) (ty_120 hF) ?_
      refine Tr.tp 174 (fx_120_93 hF) ?_
      refine Tr.iload_n (pc := 157) (i := 3) d_X12_run_157 rfl rfl ?_
      refine Tr.aload_n (pc := 158) (i := 0) d_X12_run_158 rfl rfl ?_
      refine Tr.getf (pc := 159) d_X12_run_159 f_12_222 (by decide) (by decide) (ty_120 hF) ?_
      refine Tr.tp 161 (fx_120_69 hF) ?_
      refine Tr.iload_n (pc := 162) (i := 3) d_X12_run_162 rfl rfl ?_
      refine Tr.iald (pc := 163) d_X12_run_163 (ty_161 hF) (by decide) (by decide) ?_
      refine Tr.tp 0 ((rd_wb _ rfl).trans ((rd_wb _ rfl).trans ((rd_wb _ rfl).trans ((rd_wb _ rfl).trans ((rd_wb _ rfl).trans ((rd_wb _ rfl).trans ((rd_wb _ rfl).trans ((rd_wb _ rfl).trans ((rd_wb _ rfl).trans ((rd_wb _ rfl).trans ((rd_wb _ rfl).trans ((rd_wb _ rfl).trans ((rd_wb _ rfl).trans ((rd_wb _ rfl).trans ((rd_wb _ rfl).trans ((rd_wb _ rfl).trans ((rd_wb _ rfl).trans ((rd_wb _ rfl).trans ((rd_wb _ rfl).trans ((rd_wb _ rfl).trans ((rd_wb _ rfl).trans ((rd_wb _ rfl).trans ((rd_wb _ rfl).trans ((rd_wb _ rfl).trans ((rd_wb _ rfl).trans ((rd_wb _ rfl).trans ((rd_wb _ rfl).trans ((rd_wb _ rfl).trans ((rd_wb _ rfl).trans ((rd_wb _ rfl).trans ((rd_wb _ rfl).trans ((rd_wb _ rfl).trans ((rd_wb _ rfl).trans ((rd_wb _ rfl).trans ((rd_wb _ rfl).trans ((rd_wb _ rfl).trans ((rd_wb _ rfl).trans ((rd_wb _ rfl).trans ((rd_wb _ rfl).trans ((rd_wb _ rfl).trans ((rd_wb _ rfl).trans ((rd_wb _ rfl).trans ((rd_wb _ rfl).trans ((rd_wb _ rfl).trans ((rd_wb _ rfl).trans ((rd_wb _ rfl).trans ((rd_wb _ rfl).trans ((rd_wb _ rfl).trans ((rd_wb _ rfl).trans ((rd_wb _ rfl).trans (rd_ws _ _ _ _))))))))))))))))))))))))))))))))))))))))))))))))))) ?_
      refine Tr.iastX (pc := 164) d_X12_run_164 (ty_174 hF) (by decide) (by decide) hF (by decide +kernel) (fun hF => ?_)
      refine Tr.iinc (pc := 165) (ls2 := [(3, (0, 4)), (2, (0, 0)), (0, (2, 120)), (1, (0, _))]) d_X12_run_165 rfl (by decide) rfl ?_
      refine Tr.goto (pc := 168) (tgt := 147) d_X12_run_168 rfl ?_
      refine Tr.iload_n (pc := 147) (i := 3) d_X12_run_147 rfl rfl ?_
      refine Tr.bipush (pc := 148) d_X12_run_148 rfl (by decide) ?_
      refine Tr.icmp_ge (pc := 150) (tgt := 171) d_X12_run_150 rfl (fun hc => absurd hc (by decide)) (fun _ => ?_)
      refine Tr.aload_n (pc := 153) (i := 0) d_X12_run_153 rfl rfl ?_
      refine Tr.getf (pc := 154) d_X12_run_154 f_12_294 (by decide) (by decide) (ty_120 hF) ?_
      refine Tr.tp 174 (fx_120_93 hF) ?_
      refine Tr.iload_n (pc := 157) (i := 3) d_X12_run_157 rfl rfl ?_
      refine Tr.aload_n (pc := 158) (i := 0) d_X12_run_158 rfl rfl ?_
      refine Tr.getf (pc := 159) d_X12_run_159 f_12_222 (by decide) (by decide) (ty_120 hF) ?_
      refine Tr.tp 161 (fx_120_69 hF) ?_
      refine Tr.iload_n (pc := 162) (i := 3) d_X12_run_162 rfl rfl ?_
      refine Tr.iald (pc := 163) d_X12_run_163 (ty_161 hF) (by decide) (by decide) ?_
      refine Tr.tp 0 ((rd_wb _ rfl).trans ((rd_wb _ rfl).trans ((rd_wb _ rfl).trans ((rd_wb _ rfl).trans ((rd_wb _ rfl).trans ((rd_wb _ rfl).trans ((rd_wb _ rfl).trans ((rd_wb _ rfl).trans ((rd_wb _ rfl).trans ((rd_wb _ rfl).trans ((rd_wb _ rfl).trans ((rd_wb _ rfl).trans ((rd_wb _ rfl).trans ((rd_wb _ rfl).trans ((rd_wb _ rfl).trans ((rd_wb _ rfl).trans ((rd_wb _ rfl).trans ((rd_wb _ rfl).trans ((rd_wb _ rfl).trans ((rd_wb _ rfl).trans ((rd_wb _ rfl).trans ((rd_wb _ rfl).trans ((rd_wb _ rfl).trans ((rd_wb _ rfl).trans ((rd_wb _ rfl).trans ((rd_wb _ rfl).trans ((rd_wb _ rfl).trans ((rd_wb _ rfl).trans ((rd_wb _ rfl).trans ((rd_wb _ rfl).trans ((rd_wb _ rfl).trans ((rd_wb _ rfl).trans ((rd_wb _ rfl).trans ((rd_wb _ rfl).trans ((rd_wb _ rfl).trans ((rd_wb _ rfl).trans ((rd_wb _ rfl).trans ((rd_wb _ rfl).trans ((rd_wb _ rfl).trans ((rd_wb _ rfl).trans ((rd_wb _ rfl).trans ((rd_wb _ rfl).trans ((rd_wb _ rfl).trans ((rd_wb _ rfl).trans ((rd_wb _ rfl).trans ((rd_wb _ rfl).trans ((rd_wb _ rfl).trans ((rd_wb _ rfl).trans ((rd_wb _ rfl).trans ((rd_wb _ rfl).trans (rd_ws _ _ _ _))))))))))))))))))))))))))))))))))))))))))))))))))) ?_
      refine Tr.iastX (pc := 164) d_X12_run_164 (ty_174 hF) (by decide) (by decide) hF (by decide +kernel) (fun hF => ?_)
      refine Tr.iinc (pc := 165) (ls2 := [(3, (0, 5)), (2, (0, 0)), (0, (2, 120)), (1, (0, _))]) d_X12_run_165 rfl (by decide) rfl ?_
      refine Tr.goto (pc := 168) (tgt := 147) d_X12_run_168 rfl ?_
      refine Tr.iload_n (pc := 147) (i := 3) d_X12_run_147 rfl rfl ?_
      refine Tr.bipush (pc := 148) d_X12_run_148 rfl (by decide) ?_
      refine Tr.icmp_ge (pc := 150) (tgt := 171) d_X12_run_150 rfl (fun hc => absurd hc (by decide)) (fun _ => ?_)
      refine Tr.aload_n (pc := 153) (i := 0) d_X12_run_153 rfl rfl ?_
      refine Tr.getf (pc := 154) d_X12_run_154 f_12_294 (by decide) (by decide) (ty_120 hF) ?_
      refine Tr.tp 174 (fx_120_93 hF) ?_
      refine Tr.iload_n (pc := 157) (i := 3) d_X12_run_157 rfl rfl ?_
      refine Tr.aload_n (pc := 158) (i := 0) d_X12_run_158 rfl rfl ?_
      refine Tr.getf (pc := 159) d_X12_run_159 f_12_222 (by decide) (by decide) (ty_120 hF) ?_
      refine Tr.tp 161 (fx_120_69 hF) ?_
      refine Tr.iload_n (pc := 162) (i := 3) d_X12_run_162 rfl rfl ?_
      refine Tr.iald (pc := 163) d_X12_run_163 (ty_161 hF) (by decide) (by decide) ?_
      refine Tr.tp 0 ((rd_wb _ rfl).trans ((rd_wb _ rfl).trans ((rd_wb _ rfl).trans ((rd_wb _ rfl).trans ((rd_wb _ rfl).trans ((rd_wb _ rfl).trans ((rd_wb _ rfl).trans ((rd_wb _ rfl).trans ((rd_wb _ rfl).trans ((rd_wb _ rfl).trans ((rd_wb _ rfl).trans ((rd_wb _ rfl).trans ((rd_wb _ rfl).trans ((rd_wb _ rfl).trans ((rd_wb _ rfl).trans ((rd_wb _ rfl).trans ((rd_wb _ rfl).trans ((rd_wb _ rfl).trans ((rd_wb _ rfl).trans ((rd_wb _ rfl).trans ((rd_wb _ rfl).trans ((rd_wb _ rfl).trans ((rd_wb _ rfl).trans ((rd_wb _ rfl).trans ((rd_wb _ rfl).trans ((rd_wb _ rfl).trans ((rd_wb _ rfl).trans ((rd_wb _ rfl).trans ((rd_wb _ rfl).trans ((rd_wb _ rfl).trans ((rd_wb _ rfl).trans ((rd_wb _ rfl).trans ((rd_wb _ rfl).trans ((rd_wb _ rfl).trans ((rd_wb _ rfl).trans ((rd_wb _ rfl).trans ((rd_wb _ rfl).trans ((rd_wb _ rfl).trans ((rd_wb _ rfl).trans ((rd_wb _ rfl).trans ((rd_wb _ rfl).trans ((rd_wb _ rfl).trans ((rd_wb _ rfl).trans ((rd_wb _ rfl).trans ((rd_wb _ rfl).trans ((rd_wb _ rfl).trans ((rd_wb _ rfl).trans ((rd_wb _ rfl).trans ((rd_wb _ rfl).trans ((rd_wb _ rfl).trans (rd_ws _ _ _ _))))))))))))))))))))))))))))))))))))))))))))))))))) ?_
      refine Tr.iastX (pc := 164) d_X12_run_164 (ty_174 hF) (by decide) (by decide) hF (by decide +kernel) (fun hF => ?_)
      refine Tr.iinc (pc := 165) (ls2 := [(3, (0, 6)), (2, (0, 0)), (0, (2, 120)), (1, (0, _))]) d_X12_run_165 rfl (by decide) rfl ?_
      refine Tr.goto (pc := 168) (tgt := 147) d_X12_run_168 rfl ?_
      refine Tr.iload_n (pc := 147) (i := 3) d_X12_run_147 rfl rfl ?_
      refine Tr.bipush (pc := 148) d_X12_run_148 rfl (by decide) ?_
      refine Tr.icmp_ge (pc := 150) (tgt := 171) d_X12_run_150 rfl (fun hc => absurd hc (by decide)) (fun _ => ?_)
      refine Tr.aload_n (pc := 153) (i := 0) d_X12_run_153 rfl rfl ?_
      refine Tr.getf (pc := 154) d_X12_run_154 f_12_294 (by decide) (by decide) (ty_120 hF) ?_
      refine Tr.tp 174 (fx_120_93 hF) ?_
      refine Tr.iload_n (pc := 157) (i := 3) d_X12_run_157 rfl rfl ?_
      refine Tr.aload_n (pc := 158) (i := 0) d_X12_run_158 rfl rfl ?_
      refine Tr.getf (pc := 159) d_X12_run_159 f_12_222 (by decide) (by decide) (ty_120 hF) ?_
      refine Tr.tp 161 (fx_120_69 hF) ?_
      refine Tr.iload_n (pc := 162) (i := 3) d_X12_run_162 rfl rfl ?_
      refine Tr.iald (pc := 163) d_X12_run_163 (ty_161 hF) (by decide) (by decide) ?_
      refine Tr.tp 0 ((rd_wb _ rfl).trans ((rd_wb _ rfl).trans ((rd_wb _ rfl).trans ((rd_wb _ rfl).trans ((rd_wb _ rfl).trans ((rd_wb _ rfl).trans ((rd_wb _ rfl).trans ((rd_wb _ rfl).trans ((rd_wb _ rfl).trans ((rd_wb _ rfl).trans ((rd_wb _ rfl).trans ((rd_wb _ rfl).trans ((rd_wb _ rfl).trans ((rd_wb _ rfl).trans ((rd_wb _ rfl).trans ((rd_wb _ rfl).trans ((rd_wb _ rfl).trans ((rd_wb _ rfl).trans ((rd_wb _ rfl).trans ((rd_wb _ rfl).trans ((rd_wb _ rfl).trans ((rd_wb _ rfl).trans ((rd_wb _ rfl).trans ((rd_wb _ rfl).trans ((rd_wb _ rfl).trans ((rd_wb _ rfl).trans ((rd_wb _ rfl).trans ((rd_wb _ rfl).trans ((rd_wb _ rfl).trans ((rd_wb _ rfl).trans ((rd_wb _ rfl).trans ((rd_wb _ rfl).trans ((rd_wb _ rfl).trans ((rd_wb _ rfl).trans ((rd_wb _ rfl).trans ((rd_wb _ rfl).trans ((rd_wb _ rfl).trans ((rd_wb _ rfl).trans ((rd_wb _ rfl).trans ((rd_wb _ rfl).trans ((rd_wb _ rfl).trans ((rd_wb _ rfl).trans ((rd_wb _ rfl).trans ((rd_wb _ rfl).trans ((rd_wb _ rfl).trans ((rd_wb _ rfl).trans ((rd_wb _ rfl).trans ((rd_wb _ rfl).trans ((rd_wb _ rfl).trans ((rd_wb _ rfl).trans (rd_ws _ _ _ _))))))))))))))))))))))))))))))))))))))))))))))))))) ?_
      refine Tr.iastX (pc := 164) d_X12_run_164 (ty_174 hF) (by decide) (by decide) hF (by decide +kernel) (fun hF => ?_)
      refine Tr.iinc (pc := 165) (ls2 := [(3, (0, 7)), (2, (0, 0)), (0, (2, 120)), (1, (0, _))]) d_X12_run_165 rfl (by decide) rfl ?_
      refine Tr.goto (pc := 168) (tgt := 147) d_X12_run_168 rfl ?_
      refine Tr.iload_n (pc := 147) (i := 3) d_X12_run_147 rfl rfl ?_
      refine Tr.bipush (pc := 148) d_X12_run_148 rfl (by decide) ?_
      refine Tr.icmp_ge (pc := 150) (tgt := 171) d_X12_run_150 rfl (fun hc => absurd hc (by decide)) (fun _ => ?_)
      refine Tr.aload_n (pc := 153) (i := 0) d_X12_run_153 rfl rfl ?_
      refine Tr.getf (pc := 154) d_X12_run_154 f_12_294 (by decide) (by decide) (ty_120 hF) ?_
      refine Tr.tp 174 (fx_120_93 hF) ?_
      refine Tr.iload_n (pc := 157) (i := 3) d_X12_run_157 rfl rfl ?_
      refine Tr.aload_n (pc := 158) (i := 0) d_X12_run_158 rfl rfl ?_
      refine Tr.getf (pc := 159) d_X12_run_159 f_12_222 (by decide) (by decide) (ty_120 hF) ?_
      refine Tr.tp 161 (fx_120_69 hF) ?_
      refine Tr.iload_n (pc := 162) (i := 3) d_X12_run_162 rfl rfl ?_
      refine Tr.iald (pc := 163) d_X12_run_163 (ty_161 hF) (by decide) (by decide) ?_
      refine Tr.tp 0 ((rd_wb _ rfl).trans ((rd_wb _ rfl).trans ((rd_wb _ rfl).trans ((rd_wb _ rfl).trans ((rd_wb _ rfl).trans ((rd_wb _ rfl).trans ((rd_wb _ rfl).trans ((rd_wb _ rfl).trans ((rd_wb _ rfl).trans ((rd_wb _ rfl).trans ((rd_wb _ rfl).trans ((rd_wb _ rfl).trans ((rd_wb _ rfl).trans ((rd_wb _ rfl).trans ((rd_wb _ rfl).trans ((rd_wb _ rfl).trans ((rd_wb _ rfl).trans ((rd_wb _ rfl).trans ((rd_wb _ rfl).trans ((rd_wb _ rfl).trans ((rd_wb _ rfl).trans ((rd_wb _ rfl).trans ((rd_wb _ rfl).trans ((rd_wb _ rfl).trans ((rd_wb _ rfl).trans ((rd_wb _ rfl).trans ((rd_wb _ rfl).trans ((rd_wb _ rfl).trans ((rd_wb _ rfl).trans ((rd_wb _ rfl).trans ((rd_wb _ rfl).trans ((rd_wb _ rfl).trans ((rd_wb _ rfl).trans ((rd_wb _ rfl).trans ((rd_wb _ rfl).trans ((rd_wb _ rfl).trans ((rd_wb _ rfl).trans ((rd_wb _ rfl).trans ((rd_wb _ rfl).trans ((rd_wb _ rfl).trans ((rd_wb _ rfl).trans ((rd_wb _ rfl).trans ((rd_wb _ rfl).trans ((rd_wb _ rfl).trans ((rd_wb _ rfl).trans ((rd_wb _ rfl).trans ((rd_wb _ rfl).trans ((rd_wb _ rfl).trans ((rd_wb _ rfl).trans ((rd_wb _ rfl).trans (rd_ws _ _ _ _))))))))))))))))))))))))))))))))))))))))))))))))))) ?_
      refine Tr.iastX (pc := 164) d_X12_run_164 (ty_174 hF) (by decide) (by decide) hF (by decide +kernel) (fun hF => ?_)
      refine Tr.iinc (pc := 165) (ls2 := [(3, (0, 8)), (2, (0, 0)), (0, (2, 120)), (1, (0, _))]) d_X12_run_165 rfl (by decide) rfl ?_
      refine Tr.goto (pc := 168) (tgt := 147) d_X12_run_168 rfl ?_
      refine Tr.iload_n (pc := 147) (i := 3) d_X12_run_147 rfl rfl ?_
      refine Tr.bipush (pc := 148) d_X12_run_148 rfl (by decide) ?_
      refine Tr.icmp_ge (pc := 150) (tgt := 171) d_X12_run_150 rfl (fun hc => absurd hc (by decide)) (fun _ => ?_)
      refine Tr.aload_n (pc := 153) (i := 0) d_X12_run_153 rfl rfl ?_
      refine Tr.getf (pc := 154) d_X12_run_154 f_12_294 (by decide) (by decide) (ty_120 hF) ?_
      refine Tr.tp 174 (fx_120_93 hF) ?_
      refine Tr.iload_n (pc := 157) (i := 3) d_X12_run_157 rfl rfl ?_
      refine Tr.aload_n (pc := 158) (i := 0) d_X12_run_158 rfl rfl ?_
      refine Tr.getf (pc := 159) d_X12_run_159 f_12_222 (by decide) (by decide) (ty_120 hF) ?_
      refine Tr.tp 161 (fx_120_69 hF) ?_
      refine Tr.iload_n (pc := 162) (i := 3) d_X12_run_162 rfl rfl ?_
      refine Tr.iald (pc := 163) d_X12_run_163 (ty_161 hF) (by decide) (by decide) ?_
      refine Tr.tp 0 ((rd_wb _ rfl).trans ((rd_wb _ rfl).trans ((rd_wb _ rfl).trans ((rd_wb _ rfl).trans ((rd_wb _ rfl).trans ((rd_wb _ rfl).trans ((rd_wb _ rfl).trans ((rd_wb _ rfl).trans ((rd_wb _ rfl).trans ((rd_wb _ rfl).trans ((rd_wb _ rfl).trans ((rd_wb _ rfl).trans ((rd_wb _ rfl).trans ((rd_wb _ rfl).trans ((rd_wb _ rfl).trans ((rd_wb _ rfl).trans ((rd_wb _ rfl).trans ((rd_wb _ rfl).trans ((rd_wb _ rfl).trans ((rd_wb _ rfl).trans ((rd_wb _ rfl).trans ((rd_wb _ rfl).trans ((rd_wb _ rfl).trans ((rd_wb _ rfl).trans ((rd_wb _ rfl).trans ((rd_wb _ rfl).trans ((rd_wb _ rfl).trans ((rd_wb _ rfl).trans ((rd_wb _ rfl).trans ((rd_wb _ rfl).trans ((rd_wb _ rfl).trans ((rd_wb _ rfl).trans ((rd_wb _ rfl).trans ((rd_wb _ rfl).trans ((rd_wb _ rfl).trans ((rd_wb _ rfl).trans ((rd_wb _ rfl).trans ((rd_wb _ rfl).trans ((rd_wb _ rfl).trans ((rd_wb _ rfl).trans ((rd_wb _ rfl).trans ((rd_wb _ rfl).trans ((rd_wb _ rfl).trans ((rd_wb _ rfl).trans ((rd_wb _ rfl).trans ((rd_wb _ rfl).trans ((rd_wb _ rfl).trans ((rd_wb _ rfl).trans ((rd_wb _ rfl).trans ((rd_wb _ rfl).trans (rd_ws _ _ _ _))))))))))))))))))))))))))))))))))))))))))))))))))) ?_
      refine Tr.iastX (pc := 164) d_X12_run_164 (ty_174 hF) (by decide) (by decide) hF (by decide +kernel) (fun hF => ?_)
      refine Tr.iinc (pc := 165) (ls2 := [(3, (0, 9)), (2, (0, 0)), (0, (2, 120)), (1, (0, _))]) d_X12_run_165 rfl (by decide) rfl ?_
      refine Tr.goto (pc := 168) (tgt := 147) d_X12_run_168 rfl ?_
      refine Tr.iload_n (pc := 147) (i := 3) d_X12_run_147 rfl rfl ?_
      refine Tr.bipush (pc := 148) d_X12_run_148 rfl (by decide) ?_
      refine Tr.icmp_ge (pc := 150) (tgt := 171) d_X12_run_150 rfl (fun hc => absurd hc (by decide)) (fun _ => ?_)
      refine Tr.aload_n (pc := 153) (i := 0) d_X12_run_153 rfl rfl ?_
      refine Tr.getf (pc := 154) d_X12_run_154 f_12_294 (by decide) (by decide) (ty_120 hF) ?_
      refine Tr.tp 174 (fx_120_93 hF) ?_
      refine Tr.iload_n (pc := 157) (i := 3) d_X12_run_157 rfl rfl ?_
      refine Tr.aload_n (pc := 158) (i := 0) d_X12_run_158 rfl rfl ?_
      refine Tr.getf (pc := 159) d_X12_run_159 f_12_222 (by decide) (by decide) (ty_120 hF) ?_
      refine Tr.tp 161 (fx_120_69 hF) ?_
      refine Tr.iload_n (pc := 162) (i := 3) d_X12_run_162 rfl rfl ?_
      refine Tr.iald (pc := 163) d_X12_run_163 (ty_161 hF) (by decide) (by decide) ?_
      refine Tr.tp 0 ((rd_wb _ rfl).trans ((rd_wb _ rfl).trans ((rd_wb _ rfl).trans ((rd_wb _ rfl).trans ((rd_wb _ rfl).trans ((rd_wb _ rfl).trans ((rd_wb _ rfl).trans ((rd_wb _ rfl).trans ((rd_wb _ rfl).trans ((rd_wb _ rfl).trans ((rd_wb _ rfl).trans ((rd_wb _ rfl).trans ((rd_wb _ rfl).trans ((rd_wb _ rfl).trans ((rd_wb _ rfl).trans ((rd_wb _ rfl).trans ((rd_wb _ rfl).trans ((rd_wb _ rfl).trans ((rd_wb _ rfl).trans ((rd_wb _ rfl).trans ((rd_wb _ rfl).trans ((rd_wb _ rfl).trans ((rd_wb _ rfl).trans ((rd_wb _ rfl).trans ((rd_wb _ rfl).trans ((rd_wb _ rfl).trans ((rd_wb _ rfl).trans ((rd_wb _ rfl).trans ((rd_wb _ rfl).trans ((rd_wb _ rfl).trans ((rd_wb _ rfl).trans ((rd_wb _ rfl).trans ((rd_wb _ rfl).trans ((rd_wb _ rfl).trans ((rd_wb _ rfl).trans ((rd_wb _ rfl).trans ((rd_wb _ rfl).trans ((rd_wb _ rfl).trans ((rd_wb _ rfl).trans ((rd_wb _ rfl).trans ((rd_wb _ rfl).trans ((rd_wb _ rfl).trans ((rd_wb _ rfl).trans ((rd_wb _ rfl).trans ((rd_wb _ rfl).trans ((rd_wb _ rfl).trans ((rd_wb _ rfl).trans ((rd_wb _ rfl).trans ((rd_wb _ rfl).trans ((rd_wb _ rfl).trans (rd_ws _ _ _ _))))))))))))))))))))))))))))))))))))))))))))))))))) ?_
      refine Tr.iastX (pc := 164) d_X12_run_164 (ty_174 hF) (by decide) (by decide) hF (by decide +kernel) (fun hF => ?_)
      refine Tr.iinc (pc := 165) (ls2 := [(3, (0, 10)), (2, (0, 0)), (0, (2, 120)), (1, (0, _))]) d_X12_run_165 rfl (by decide) rfl ?_
      refine Tr.goto (pc := 168) (tgt := 147) d_X12_run_168 rfl ?_
      refine Tr.iload_n (pc := 147) (i := 3) d_X12_run_147 rfl rfl ?_
      refine Tr.bipush (pc := 148) d_X12_run_148 rfl (by decide) ?_
      refine Tr.icmp_ge (pc := 150) (tgt := 171) d_X12_run_150 rfl (fun hc => absurd hc (by decide)) (fun _ => ?_)
      refine Tr.aload_n (pc := 153) (i := 0) d_X12_run_153 rfl rfl ?_
      refine Tr.getf (pc := 154) d_X12_run_154 f_12_294 (by decide) (by decide) (ty_120 hF) ?_
      refine Tr.tp 174 (fx_120_93 hF) ?_
      refine Tr.iload_n (pc := 157) (i := 3) d_X12_run_157 rfl rfl ?_
      refine Tr.aload_n (pc := 158) (i := 0) d_X12_run_158 rfl rfl ?_
      refine Tr.getf (pc := 159) d_X12_run_159 f_12_222 (by decide) (by decide) (ty_120 hF) ?_
      refine Tr.tp 161 (fx_120_69 hF) ?_
      refine Tr.iload_n (pc := 162) (i := 3) d_X12_run_162 rfl rfl ?_
      refine Tr.iald (pc := 163) d_X12_run_163 (ty_161 hF) (by decide) (by decide) ?_
      refine Tr.tp 0 ((rd_wb _ rfl).trans ((rd_wb _ rfl).trans ((rd_wb _ rfl).trans ((rd_wb _ rfl).trans ((rd_wb _ rfl).trans ((rd_wb _ rfl).trans ((rd_wb _ rfl).trans ((rd_wb _ rfl).trans ((rd_wb _ rfl).trans ((rd_wb _ rfl).trans ((rd_wb _ rfl).trans ((rd_wb _ rfl).trans ((rd_wb _ rfl).trans ((rd_wb _ rfl).trans ((rd_wb _ rfl).trans ((rd_wb _ rfl).trans ((rd_wb _ rfl).trans ((rd_wb _ rfl).trans ((rd_wb _ rfl).trans ((rd_wb _ rfl).trans ((rd_wb _ rfl).trans ((rd_wb _ rfl).trans ((rd_wb _ rfl).trans ((rd_wb _ rfl).trans ((rd_wb _ rfl).trans ((rd_wb _ rfl).trans ((rd_wb _ rfl).trans ((rd_wb _ rfl).trans ((rd_wb _ rfl).trans ((rd_wb _ rfl).trans ((rd_wb _ rfl).trans ((rd_wb _ rfl).trans ((rd_wb _ rfl).trans ((rd_wb _ rfl).trans ((rd_wb _ rfl).trans ((rd_wb _ rfl).trans ((rd_wb _ rfl).trans ((rd_wb _ rfl).trans ((rd_wb _ rfl).trans ((rd_wb _ rfl).trans ((rd_wb _ rfl).trans ((rd_wb _ rfl).trans ((rd_wb _ rfl).trans ((rd_wb _ rfl).trans ((rd_wb _ rfl).trans ((rd_wb _ rfl).trans ((rd_wb _ rfl).trans ((rd_wb _ rfl).trans ((rd_wb _ rfl).trans ((rd_wb _ rfl).trans (rd_ws _ _ _ _))))))))))))))))))))))))))))))))))))))))))))))))))) ?_
      refine Tr.iastX (pc := 164) d_X12_run_164 (ty_174 hF) (by decide) (by decide) hF (by decide +kernel) (fun hF => ?_)
      refine Tr.iinc (pc := 165) (ls2 := [(3, (0, 11)), (2, (0, 0)), (0, (2, 120)), (1, (0, _))]) d_X12_run_165 rfl (by decide) rfl ?_
      refine Tr.goto (pc := 168) (tgt := 147) d_X12_run_168 rfl ?_
      refine Tr.iload_n (pc := 147) (i := 3) d_X12_run_147 rfl rfl ?_
      refine Tr.bipush (pc := 148) d_X12_run_148 rfl (by decide) ?_
      refine Tr.icmp_ge (pc := 150) (tgt := 171) d_X12_run_150 rfl (fun hc => absurd hc (by decide)) (fun _ => ?_)
      refine Tr.aload_n (pc := 153) (i := 0) d_X12_run_153 rfl rfl ?_
      refine Tr.getf (pc := 154) d_X12_run_154 f_12_294 (by decide) (by decide) (ty_120 hF) ?_
      refine Tr.tp 174 (fx_120_93 hF) ?_
      refine Tr.iload_n (pc := 157) (i := 3) d_X12_run_157 rfl rfl ?_
      refine Tr.aload_n (pc := 158) (i := 0) d_X12_run_158 rfl rfl ?_
      refine Tr.getf (pc := 159) d_X12_run_159 f_12_222 (by decide) (by decide) (ty_120 hF) ?_
      refine Tr.tp 161 (fx_120_69 hF) ?_
      refine Tr.iload_n (pc := 162) (i := 3) d_X12_run_162 rfl rfl ?_
      refine Tr.iald (pc := 163) d_X12_run_163 (ty_161 hF) (by decide) (by decide) ?_
      refine Tr.tp 0 ((rd_wb _ rfl).trans ((rd_wb _ rfl).trans ((rd_wb _ rfl).trans ((rd_wb _ rfl).trans ((rd_wb _ rfl).trans ((rd_wb _ rfl).trans ((rd_wb _ rfl).trans ((rd_wb _ rfl).trans ((rd_wb _ rfl).trans ((rd_wb _ rfl).trans ((rd_wb _ rfl).trans ((rd_wb _ rfl).trans ((rd_wb _ rfl).trans ((rd_wb _ rfl).trans ((rd_wb _ rfl).trans ((rd_wb _ rfl).trans ((rd_wb _ rfl).trans ((rd_wb _ rfl).trans ((rd_wb _ rfl).trans ((rd_wb _ rfl).trans ((rd_wb _ rfl).trans ((rd_wb _ rfl).trans ((rd_wb _ rfl).trans ((rd_wb _ rfl).trans ((rd_wb _ rfl).trans ((rd_wb _ rfl).trans ((rd_wb _ rfl).trans ((rd_wb _ rfl).trans ((rd_wb _ rfl).trans ((rd_wb _ rfl).trans ((rd_wb _ rfl).trans ((rd_wb _ rfl).trans ((rd_wb _ rfl).trans ((rd_wb _ rfl).trans ((rd_wb _ rfl).trans ((rd_wb _ rfl).trans ((rd_wb _ rfl).trans ((rd_wb _ rfl).trans ((rd_wb _ rfl).trans ((rd_wb _ rfl).trans ((rd_wb _ rfl).trans ((rd_wb _ rfl).trans ((rd_wb _ rfl).trans ((rd_wb _ rfl).trans ((rd_wb _ rfl).trans ((rd_wb _ rfl).trans ((rd_wb _ rfl).trans ((rd_wb _ rfl).trans ((rd_wb _ rfl).trans ((rd_wb _ rfl).trans (rd_ws _ _ _ _))))))))))))))))))))))))))))))))))))))))))))))))))) ?_
      refine Tr.iastX (pc := 164) d_X12_run_164 (ty_174 hF) (by decide) (by decide) hF (by decide +kernel) (fun hF => ?_)
      refine Tr.iinc (pc := 165) (ls2 := [(3, (0, 12)), (2, (0, 0)), (0, (2, 120)), (1, (0, _))]) d_X12_run_165 rfl (by decide) rfl ?_
      refine Tr.goto (pc := 168) (tgt := 147) d_X12_run_168 rfl ?_
      refine Tr.iload_n (pc := 147) (i := 3) d_X12_run_147 rfl rfl ?_
      refine Tr.bipush (pc := 148) d_X12_run_148 rfl (by decide) ?_
      refine Tr.icmp_ge (pc := 150) (tgt := 171) d_X12_run_150 rfl (fun hc => absurd hc (by decide)) (fun _ => ?_)
      refine Tr.aload_n (pc := 153) (i := 0) d_X12_run_153 rfl rfl ?_
      refine Tr.getf (pc := 154) d_X12_run_154 f_12_294 (by decide) (by decide) (ty_120 hF) ?_
      refine Tr.tp 174 (fx_120_93 hF) ?_
      refine Tr.iload_n (pc := 157) (i := 3) d_X12_run_157 rfl rfl ?_
      refine Tr.aload_n (pc := 158) (i := 0) d_X12_run_158 rfl rfl ?_
      refine Tr.getf (pc := 159) d_X12_run_159 f_12_222 (by decide) (by decide) (ty_120 hF) ?_
      refine Tr.tp 161 (fx_120_69 hF) ?_
      refine Tr.iload_n (pc := 162) (i := 3) d_X12_run_162 rfl rfl ?_
      refine Tr.iald (pc := 163) d_X12_run_163 (ty_161 hF) (by decide) (by decide) ?_
      refine Tr.tp 0 ((rd_wb _ rfl).trans ((rd_wb _ rfl).trans ((rd_wb _ rfl).trans ((rd_wb _ rfl).trans ((rd_wb _ rfl).trans ((rd_wb _ rfl).trans ((rd_wb _ rfl).trans ((rd_wb _ rfl).trans ((rd_wb _ rfl).trans ((rd_wb _ rfl).trans ((rd_wb _ rfl).trans ((rd_wb _ rfl).trans ((rd_wb _ rfl).trans ((rd_wb _ rfl).trans ((rd_wb _ rfl).trans ((rd_wb _ rfl).trans ((rd_wb _ rfl).trans ((rd_wb _ rfl).trans ((rd_wb _ rfl).trans ((rd_wb _ rfl).trans ((rd_wb _ rfl).trans ((rd_wb _ rfl).trans ((rd_wb _ rfl).trans ((rd_wb _ rfl).trans ((rd_wb _ rfl).trans ((rd_wb _ rfl).trans ((rd_wb _ rfl).trans ((rd_wb _ rfl).trans ((rd_wb _ rfl).trans ((rd_wb _ rfl).trans ((rd_wb _ rfl).trans ((rd_wb _ rfl).trans ((rd_wb _ rfl).trans ((rd_wb _ rfl).trans ((rd_wb _ rfl).trans ((rd_wb _ rfl).trans ((rd_wb _ rfl).trans ((rd_wb _ rfl).trans ((rd_wb _ rfl).trans ((rd_wb _ rfl).trans ((rd_wb _ rfl).trans ((rd_wb _ rfl).trans ((rd_wb _ rfl).trans ((rd_wb _ rfl).trans ((rd_wb _ rfl).trans ((rd_wb _ rfl).trans ((rd_wb _ rfl).trans ((rd_wb _ rfl).trans ((rd_wb _ rfl).trans ((rd_wb _ rfl).trans (rd_ws _ _ _ _))))))))))))))))))))))))))))))))))))))))))))))))))) ?_
      refine Tr.iastX (pc := 164) d_X12_run_164 (ty_174 hF) (by decide) (by decide) hF (by decide +kernel) (fun hF => ?_)
      refine Tr.iinc (pc := 165) (ls2 := [(3, (0, 13)), (2, (0, 0)), (0, (2, 120)), (1, (0, _))]) d_X12_run_165 rfl (by decide) rfl ?_
      refine Tr.goto (pc := 168) (tgt := 147) d_X12_run_168 rfl ?_
      refine Tr.iload_n (pc := 147) (i := 3) d_X12_run_147 rfl rfl ?_
      refine Tr.bipush (pc := 148) d_X12_run_148 rfl (by decide) ?_
      refine Tr.icmp_ge (pc := 150) (tgt := 171) d_X12_run_150 rfl (fun hc => absurd hc (by decide)) (fun _ => ?_)
      refine Tr.aload_n (pc := 153) (i := 0) d_X12_run_153 rfl rfl ?_
      refine Tr.getf (pc := 154) d_X12_run_154 f_12_294 (by decide) (by decide) (ty_120 hF) ?_
      refine Tr.tp 174 (fx_120_93 hF) ?_
      refine Tr.iload_n (pc := 157) (i := 3) d_X12_run_157 rfl rfl ?_
      refine Tr.aload_n (pc := 158) (i := 0) d_X12_run_158 rfl rfl ?_
      refine Tr.getf (pc := 159) d_X12_run_159 f_12_222 (by decide) (by decide) (ty_120 hF) ?_
      refine Tr.tp 161 (fx_120_69 hF) ?_
      refine Tr.iload_n (pc := 162) (i := 3) d_X12_run_162 rfl rfl ?_
      refine Tr.iald (pc := 163) d_X12_run_163 (ty_161 hF) (by decide) (by decide) ?_
      refine Tr.tp 0 ((rd_wb _ rfl).trans ((rd_wb _ rfl).trans ((rd_wb _ rfl).trans ((rd_wb _ rfl).trans ((rd_wb _ rfl).trans ((rd_wb _ rfl).trans ((rd_wb _ rfl).trans ((rd_wb _ rfl).trans ((rd_wb _ rfl).trans ((rd_wb _ rfl).trans ((rd_wb _ rfl).trans ((rd_wb _ rfl).trans ((rd_wb _ rfl).trans ((rd_wb _ rfl).trans ((rd_wb _ rfl).trans ((rd_wb _ rfl).trans ((rd_wb _ rfl).trans ((rd_wb _ rfl).trans ((rd_wb _ rfl).trans ((rd_wb _ rfl).trans ((rd_wb _ rfl).trans ((rd_wb _ rfl).trans ((rd_wb _ rfl).trans ((rd_wb _ rfl).trans ((rd_wb _ rfl).trans ((rd_wb _ rfl).trans ((rd_wb _ rfl).trans ((rd_wb _ rfl).trans ((rd_wb _ rfl).trans ((rd_wb _ rfl).trans ((rd_wb _ rfl).trans ((rd_wb _ rfl).trans ((rd_wb _ rfl).trans ((rd_wb _ rfl).trans ((rd_wb _ rfl).trans ((rd_wb _ rfl).trans ((rd_wb _ rfl).trans ((rd_wb _ rfl).trans ((rd_wb _ rfl).trans ((rd_wb _ rfl).trans ((rd_wb _ rfl).trans ((rd_wb _ rfl).trans ((rd_wb _ rfl).trans ((rd_wb _ rfl).trans ((rd_wb _ rfl).trans ((rd_wb _ rfl).trans ((rd_wb _ rfl).trans ((rd_wb _ rfl).trans ((rd_wb _ rfl).trans ((rd_wb _ rfl).trans (rd_ws _ _ _ _))))))))))))))))))))))))))))))))))))))))))))))))))) ?_
      refine Tr.iastX (pc := 164) d_X12_run_164 (ty_174 hF) (by decide) (by decide) hF (by decide +kernel) (fun hF => ?_)
      refine Tr.iinc (pc := 165) (ls2 := [(3, (0, 14)), (2, (0, 0)), (0, (2, 120)), (1, (0, _))]) d_X12_run_165 rfl (by decide) rfl ?_
      refine Tr.goto (pc := 168) (tgt := 147) d_X12_run_168 rfl ?_
      refine Tr.iload_n (pc := 147) (i := 3) d_X12_run_147 rfl rfl ?_
      refine Tr.bipush (pc := 148) d_X12_run_148 rfl (by decide) ?_
      refine Tr.icmp_ge (pc := 150) (tgt := 171) d_X12_run_150 rfl (fun hc => absurd hc (by decide)) (fun _ => ?_)
      refine Tr.aload_n (pc := 153) (i := 0) d_X12_run_153 rfl rfl ?_
      refine Tr.getf (pc := 154) d_X12_run_154 f_12_294 (by decide) (by decide) (ty_120 hF) ?_
      refine Tr.tp 174 (fx_120_93 hF) ?_
      refine Tr.iload_n (pc := 157) (i := 3) d_X12_run_157 rfl rfl ?_
      refine Tr.aload_n (pc := 158) (i := 0) d_X12_run_158 rfl rfl ?_
      refine Tr.getf (pc := 159) d_X12_run_159 f_12_222 (by decide) (by decide) (ty_120 hF) ?_
      refine Tr.tp 161 (fx_120_69 hF) ?_
      refine Tr.iload_n (pc := 162) (i := 3) d_X12_run_162 rfl rfl ?_
      refine Tr.iald (pc := 163) d_X12_run_163 (ty_161 hF) (by decide) (by decide) ?_
      refine Tr.tp 0 ((rd_wb _ rfl).trans ((rd_wb _ rfl).trans ((rd_wb _ rfl).trans ((rd_wb _ rfl).trans ((rd_wb _ rfl).trans ((rd_wb _ rfl).trans ((rd_wb _ rfl).trans ((rd_wb _ rfl).trans ((rd_wb _ rfl).trans ((rd_wb _ rfl).trans ((rd_wb _ rfl).trans ((rd_wb _ rfl).trans ((rd_wb _ rfl).trans ((rd_wb _ rfl).trans ((rd_wb _ rfl).trans ((rd_wb _ rfl).trans ((rd_wb _ rfl).trans ((rd_wb _ rfl).trans ((rd_wb _ rfl).trans ((rd_wb _ rfl).trans ((rd_wb _ rfl).trans ((rd_wb _ rfl).trans ((rd_wb _ rfl).trans ((rd_wb _ rfl).trans ((rd_wb _ rfl).trans ((rd_wb _ rfl).trans ((rd_wb _ rfl).trans ((rd_wb _ rfl).trans ((rd_wb _ rfl).trans ((rd_wb _ rfl).trans ((rd_wb _ rfl).trans ((rd_wb _ rfl).trans ((rd_wb _ rfl).trans ((rd_wb _ rfl).trans ((rd_wb _ rfl).trans ((rd_wb _ rfl).trans ((rd_wb _ rfl).trans ((rd_wb _ rfl).trans ((rd_wb _ rfl).trans ((rd_wb _ rfl).trans ((rd_wb _ rfl).trans ((rd_wb _ rfl).trans ((rd_wb _ rfl).trans ((rd_wb _ rfl).trans ((rd_wb _ rfl).trans ((rd_wb _ rfl).trans ((rd_wb _ rfl).trans ((rd_wb _ rfl).trans ((rd_wb _ rfl).trans ((rd_wb _ rfl).trans (rd_ws _ _ _ _))))))))))))))))))))))))))))))))))))))))))))))))))) ?_
      refine Tr.iastX (pc := 164) d_X12_run_164 (ty_174 hF) (by decide) (by decide) hF (by decide +kernel) (fun hF => ?_)
      refine Tr.iinc (pc := 165) (ls2 := [(3, (0, 15)), (2, (0, 0)), (0, (2, 120)), (1, (0, _))]) d_X12_run_165 rfl (by decide) rfl ?_
      refine Tr.goto (pc := 168) (tgt := 147) d_X12_run_168 rfl ?_
      refine Tr.iload_n (pc := 147) (i := 3) d_X12_run_147 rfl rfl ?_
      refine Tr.bipush (pc := 148) d_X12_run_148 rfl (by decide) ?_
      refine Tr.icmp_ge (pc := 150) (tgt := 171) d_X12_run_150 rfl (fun hc => absurd hc (by decide)) (fun _ => ?_)
      refine Tr.aload_n (pc := 153) (i := 0) d_X12_run_153 rfl rfl ?_
      refine Tr.getf (pc := 154) d_X12_run_154 f_12_294 (by decide) (by decide) (ty_120 hF) ?_
      refine Tr.tp 174 (fx_120_93 hF) ?_
      refine Tr.iload_n (pc := 157) (i := 3) d_X12_run_157 rfl rfl ?_
      refine Tr.aload_n (pc := 158) (i := 0) d_X12_run_158 rfl rfl ?_
      refine Tr.getf (pc := 159) d_X12_run_159 f_12_222 (by decide) (by decide) (ty_120 hF) ?_
      refine Tr.tp 161 (fx_120_69 hF) ?_
      refine Tr.iload_n (pc := 162) (i := 3) d_X12_run_162 rfl rfl ?_
      refine Tr.iald (pc := 163) d_X12_run_163 (ty_161 hF) (by decide) (by decide) ?_
      refine Tr.tp 0 ((rd_wb _ rfl).trans ((rd_wb _ rfl).trans ((rd_wb _ rfl).trans ((rd_wb _ rfl).trans ((rd_wb _ rfl).trans ((rd_wb _ rfl).trans ((rd_wb _ rfl).trans ((rd_wb _ rfl).trans ((rd_wb _ rfl).trans ((rd_wb _ rfl).trans ((rd_wb _ rfl).trans ((rd_wb _ rfl).trans ((rd_wb _ rfl).trans ((rd_wb _ rfl).trans ((rd_wb _ rfl).trans ((rd_wb _ rfl).trans ((rd_wb _ rfl).trans ((rd_wb _ rfl).trans ((rd_wb _ rfl).trans ((rd_wb _ rfl).trans ((rd_wb _ rfl).trans ((rd_wb _ rfl).trans ((rd_wb _ rfl).trans ((rd_wb _ rfl).trans ((rd_wb _ rfl).trans ((rd_wb _ rfl).trans ((rd_wb _ rfl).trans ((rd_wb _ rfl).trans ((rd_wb _ rfl).trans ((rd_wb _ rfl).trans ((rd_wb _ rfl).trans ((rd_wb _ rfl).trans ((rd_wb _ rfl).trans ((rd_wb _ rfl).trans ((rd_wb _ rfl).trans ((rd_wb _ rfl).trans ((rd_wb _ rfl).trans ((rd_wb _ rfl).trans ((rd_wb _ rfl).trans ((rd_wb _ rfl).trans ((rd_wb _ rfl).trans ((rd_wb _ rfl).trans ((rd_wb _ rfl).trans ((rd_wb _ rfl).trans ((rd_wb _ rfl).trans ((rd_wb _ rfl).trans ((rd_wb _ rfl).trans ((rd_wb _ rfl).trans ((rd_wb _ rfl).trans ((rd_wb _ rfl).trans (rd_ws _ _ _ _))))))))))))))))))))))))))))))))))))))))))))))))))) ?_
      refine Tr.iastX (pc := 164) d_X12_run_164 (ty_174 hF) (by decide) (by decide) hF (by decide +kernel) (fun hF => ?_)
      refine Tr.iinc (pc := 165) (ls2 := [(3, (0, 16)), (2, (0, 0)), (0, (2, 120)), (1, (0, _))]) d_X12_run_165 rfl (by decide) rfl ?_
      refine Tr.goto (pc := 168) (tgt := 147) d_X12_run_168 rfl ?_
      refine Tr.iload_n (pc := 147) (i := 3) d_X12_run_147 rfl rfl ?_
      refine Tr.bipush (pc := 148) d_X12_run_148 rfl (by decide) ?_
      refine Tr.icmp_ge (pc := 150) (tgt := 171) d_X12_run_150 rfl (fun hc => absurd hc (by decide)) (fun _ => ?_)
      refine Tr.aload_n (pc := 153) (i := 0) d_X12_run_153 rfl rfl ?_
      refine Tr.getf (pc := 154) d_X12_run_154 f_12_294 (by decide) (by decide) (ty_120 hF) ?_
      refine Tr.tp 174 (fx_120_93 hF) ?_
      refine Tr.iload_n (pc := 157) (i := 3) d_X12_run_157 rfl rfl ?_
      refine Tr.aload_n (pc := 158) (i := 0) d_X12_run_158 rfl rfl ?_
      refine Tr.getf (pc := 159) d_X12_run_159 f_12_222 (by decide) (by decide) (ty_120 hF) ?_
      refine Tr.tp 161 (fx_120_69 hF) ?_
      refine Tr.iload_n (pc := 162) (i := 3) d_X12_run_162 rfl rfl ?_
      refine Tr.iald (pc := 163) d_X12_run_163 (ty_161 hF) (by decide) (by decide) ?_
      refine Tr.tp 0 ((rd_wb _ rfl).trans ((rd_wb _ rfl).trans ((rd_wb _ rfl).trans ((rd_wb _ rfl).trans ((rd_wb _ rfl).trans ((rd_wb _ rfl).trans ((rd_wb _ rfl).trans ((rd_wb _ rfl).trans ((rd_wb _ rfl).trans ((rd_wb _ rfl).trans ((rd_wb _ rfl).trans ((rd_wb _ rfl).trans ((rd_wb _ rfl).trans ((rd_wb _ rfl).trans ((rd_wb _ rfl).trans ((rd_wb _ rfl).trans ((rd_wb _ rfl).trans ((rd_wb _ rfl).trans ((rd_wb _ rfl).trans ((rd_wb _ rfl).trans ((rd_wb _ rfl).trans ((rd_wb _ rfl).trans ((rd_wb _ rfl).trans ((rd_wb _ rfl).trans ((rd_wb _ rfl).trans ((rd_wb _ rfl).trans ((rd_wb _ rfl).trans ((rd_wb _ rfl).trans ((rd_wb _ rfl).trans ((rd_wb _ rfl).trans ((rd_wb _ rfl).trans ((rd_wb _ rfl).trans ((rd_wb _ rfl).trans ((rd_wb _ rfl).trans ((rd_wb _ rfl).trans ((rd_wb _ rfl).trans ((rd_wb _ rfl).trans ((rd_wb _ rfl).trans ((rd_wb _ rfl).trans ((rd_wb _ rfl).trans ((rd_wb _ rfl).trans ((rd_wb _ rfl).trans ((rd_wb _ rfl).trans ((rd_wb _ rfl).trans ((rd_wb _ rfl).trans ((rd_wb _ rfl).trans ((rd_wb _ rfl).trans ((rd_wb _ rfl).trans ((rd_wb _ rfl).trans ((rd_wb _ rfl).trans (rd_ws _ _ _ _))))))))))))))))))))))))))))))))))))))))))))))))))) ?_
      refine Tr.iastX (pc := 164) d_X12_run_164 (ty_174 hF) (by decide) (by decide) hF (by decide +kernel) (fun hF => ?_)
      refine Tr.iinc (pc := 165) (ls2 := [(3, (0, 17)), (2, (0, 0)), (0, (2, 120)), (1, (0, _))]) d_X12_run_165 rfl (by decide) rfl ?_
      refine Tr.goto (pc := 168) (tgt := 147) d_X12_run_168 rfl ?_
      refine Tr.iload_n (pc := 147) (i := 3) d_X12_run_147 rfl rfl ?_
      refine Tr.bipush (pc := 148) d_X12_run_148 rfl (by decide) ?_
      refine Tr.icmp_ge (pc := 150) (tgt := 171) d_X12_run_150 rfl (fun hc => absurd hc (by decide)) (fun _ => ?_)
      refine Tr.aload_n (pc := 153) (i := 0) d_X12_run_153 rfl rfl ?_
      refine Tr.getf (pc := 154) d_X12_run_154 f_12_294 (by decide) (by decide) (ty_120 hF) ?_
      refine Tr.tp 174 (fx_120_93 hF) ?_
      refine Tr.iload_n (pc := 157) (i := 3) d_X12_run_157 rfl rfl ?_
      refine Tr.aload_n (pc := 158) (i := 0) d_X12_run_158 rfl rfl ?_
      refine Tr.getf (pc := 159) d_X12_run_159 f_12_222 (by decide) (by decide) (ty_120 hF) ?_
      refine Tr.tp 161 (fx_120_69 hF) ?_
      refine Tr.iload_n (pc := 162) (i := 3) d_X12_run_162 rfl rfl ?_
      refine Tr.iald (pc := 163) d_X12_run_163 (ty_161 hF) (by decide) (by decide) ?_
      refine Tr.tp 0 ((rd_wb _ rfl).trans ((rd_wb _ rfl).trans ((rd_wb _ rfl).trans ((rd_wb _ rfl).trans ((rd_wb _ rfl).trans ((rd_wb _ rfl).trans ((rd_wb _ rfl).trans ((rd_wb _ rfl).trans ((rd_wb _ rfl).trans ((rd_wb _ rfl).trans ((rd_wb _ rfl).trans ((rd_wb _ rfl).trans ((rd_wb _ rfl).trans ((rd_wb _ rfl).trans ((rd_wb _ rfl).trans ((rd_wb _ rfl).trans ((rd_wb _ rfl).trans ((rd_wb _ rfl).trans ((rd_wb _ rfl).trans ((rd_wb _ rfl).trans ((rd_wb _ rfl).trans ((rd_wb _ rfl).trans ((rd_wb _ rfl).trans ((rd_wb _ rfl).trans ((rd_wb _ rfl).trans ((rd_wb _ rfl).trans ((rd_wb _ rfl).trans ((rd_wb _ rfl).trans ((rd_wb _ rfl).trans ((rd_wb _ rfl).trans ((rd_wb _ rfl).trans ((rd_wb _ rfl).trans ((rd_wb _ rfl).trans ((rd_wb _ rfl).trans ((rd_wb _ rfl).trans ((rd_wb _ rfl).trans ((rd_wb _ rfl).trans ((rd_wb _ rfl).trans ((rd_wb _ rfl).trans ((rd_wb _ rfl).trans ((rd_wb _ rfl).trans ((rd_wb _ rfl).trans ((rd_wb _ rfl).trans ((rd_wb _ rfl).trans ((rd_wb _ rfl).trans ((rd_wb _ rfl).trans ((rd_wb _ rfl).trans ((rd_wb _ rfl).trans ((rd_wb _ rfl).trans ((rd_wb _ rfl).trans (rd_ws _ _ _ _))))))))))))))))))))))))))))))))))))))))))))))))))) ?_
      refine Tr.iastX (pc := 164) d_X12_run_164 (ty_174 hF) (by decide) (by decide) hF (by decide +kernel) (fun hF => ?_)
      refine Tr.iinc (pc := 165) (ls2 := [(3, (0, 18)), (2, (0, 0)), (0, (2, 120)), (1, (0, _))]) d_X12_run_165 rfl (by decide) rfl ?_
      refine Tr.goto (pc := 168) (tgt := 147) d_X12_run_168 rfl ?_
      refine Tr.iload_n (pc := 147) (i := 3) d_X12_run_147 rfl rfl ?_
      refine Tr.bipush (pc := 148) d_X12_run_148 rfl (by decide) ?_
      refine Tr.icmp_ge (pc := 150) (tgt := 171) d_X12_run_150 rfl (fun hc => absurd hc (by decide)) (fun _ => ?_)
      refine Tr.aload_n (pc := 153) (i := 0) d_X12_run_153 rfl rfl ?_
      refine Tr.getf (pc := 154) d_X12_run_154 f_12_294 (by decide) (by decide) (ty_120 hF) ?_
      refine Tr.tp 174 (fx_120_93 hF) ?_
      refine Tr.iload_n (pc := 157) (i := 3) d_X12_run_157 rfl rfl ?_
      refine Tr.aload_n (pc := 158) (i := 0) d_X12_run_158 rfl rfl ?_
      refine Tr.getf (pc := 159) d_X12_run_159 f_12_222 (by decide) (by decide) (ty_120 hF) ?_
      refine Tr.tp 161 (fx_120_69 hF) ?_
      refine Tr.iload_n (pc := 162) (i := 3) d_X12_run_162 rfl rfl ?_
      refine Tr.iald (pc := 163) d_X12_run_163 (ty_161 hF) (by decide) (by decide) ?_
      refine Tr.tp 0 ((rd_wb _ rfl).trans ((rd_wb _ rfl).trans ((rd_wb _ rfl).trans ((rd_wb _ rfl).trans ((rd_wb _ rfl).trans ((rd_wb _ rfl).trans ((rd_wb _ rfl).trans ((rd_wb _ rfl).trans ((rd_wb _ rfl).trans ((rd_wb _ rfl).trans ((rd_wb _ rfl).trans ((rd_wb _ rfl).trans ((rd_wb _ rfl).trans ((rd_wb _ rfl).trans ((rd_wb _ rfl).trans ((rd_wb _ rfl).trans ((rd_wb _ rfl).trans ((rd_wb _ rfl).trans ((rd_wb _ rfl).trans ((rd_wb _ rfl).trans ((rd_wb _ rfl).trans ((rd_wb _ rfl).trans ((rd_wb _ rfl).trans ((rd_wb _ rfl).trans ((rd_wb _ rfl).trans ((rd_wb _ rfl).trans ((rd_wb _ rfl).trans ((rd_wb _ rfl).trans ((rd_wb _ rfl).trans ((rd_wb _ rfl).trans ((rd_wb _ rfl).trans ((rd_wb _ rfl).trans ((rd_wb _ rfl).trans ((rd_wb _ rfl).trans ((rd_wb _ rfl).trans ((rd_wb _ rfl).trans ((rd_wb _ rfl).trans ((rd_wb _ rfl).trans ((rd_wb _ rfl).trans ((rd_wb _ rfl).trans ((rd_wb _ rfl).trans ((rd_wb _ rfl).trans ((rd_wb _ rfl).trans ((rd_wb _ rfl).trans ((rd_wb _ rfl).trans ((rd_wb _ rfl).trans ((rd_wb _ rfl).trans ((rd_wb _ rfl).trans ((rd_wb _ rfl).trans ((rd_wb _ rfl).trans (rd_ws _ _ _ _))))))))))))))))))))))))))))))))))))))))))))))))))) ?_
      refine Tr.iastX (pc := 164) d_X12_run_164 (ty_174 hF) (by decide) (by decide) hF (by decide +kernel) (fun hF => ?_)
      refine Tr.iinc (pc := 165) (ls2 := [(3, (0, 19)), (2, (0, 0)), (0, (2, 120)), (1, (0, _))]) d_X12_run_165 rfl (by decide) rfl ?_
      refine Tr.goto (pc := 168) (tgt := 147) d_X12_run_168 rfl ?_
      refine Tr.iload_n (pc := 147) (i := 3) d_X12_run_147 rfl rfl ?_
      refine Tr.bipush (pc := 148) d_X12_run_148 rfl (by decide) ?_
      refine Tr.icmp_ge (pc := 150) (tgt := 171) d_X12_run_150 rfl (fun hc => absurd hc (by decide)) (fun _ => ?_)
      refine Tr.aload_n (pc := 153) (i := 0) d_X12_run_153 rfl rfl ?_
      refine Tr.getf (pc := 154) d_X12_run_154 f_12_294 (by decide) (by decide) (ty_120 hF) ?_
      refine Tr.tp 174 (fx_120_93 hF) ?_
      refine Tr.iload_n (pc := 157) (i := 3) d_X12_run_157 rfl rfl ?_
      refine Tr.aload_n (pc := 158) (i := 0) d_X12_run_158 rfl rfl ?_
      refine Tr.getf (pc := 159) d_X12_run_159 f_12_222 (by decide) (by decide) (ty_120 hF) ?_
      refine Tr.tp 161 (fx_120_69 hF) ?_
      refine Tr.iload_n (pc := 162) (i := 3) d_X12_run_162 rfl rfl ?_
      refine Tr.iald (pc := 163) d_X12_run_163 (ty_161 hF) (by decide) (by decide) ?_
      refine Tr.tp 0 ((rd_wb _ rfl).trans ((rd_wb _ rfl).trans ((rd_wb _ rfl).trans ((rd_wb _ rfl).trans ((rd_wb _ rfl).trans ((rd_wb _ rfl).trans ((rd_wb _ rfl).trans ((rd_wb _ rfl).trans ((rd_wb _ rfl).trans ((rd_wb _ rfl).trans ((rd_wb _ rfl).trans ((rd_wb _ rfl).trans ((rd_wb _ rfl).trans ((rd_wb _ rfl).trans ((rd_wb _ rfl).trans ((rd_wb _ rfl).trans ((rd_wb _ rfl).trans ((rd_wb _ rfl).trans ((rd_wb _ rfl).trans ((rd_wb _ rfl).trans ((rd_wb _ rfl).trans ((rd_wb _ rfl).trans ((rd_wb _ rfl).trans ((rd_wb _ rfl).trans ((rd_wb _ rfl).trans ((rd_wb _ rfl).trans ((rd_wb _ rfl).trans ((rd_wb _ rfl).trans ((rd_wb _ rfl).trans ((rd_wb _ rfl).trans ((rd_wb _ rfl).trans ((rd_wb _ rfl).trans ((rd_wb _ rfl).trans ((rd_wb _ rfl).trans ((rd_wb _ rfl).trans ((rd_wb _ rfl).trans ((rd_wb _ rfl).trans ((rd_wb _ rfl).trans ((rd_wb _ rfl).trans ((rd_wb _ rfl).trans ((rd_wb _ rfl).trans ((rd_wb _ rfl).trans ((rd_wb _ rfl).trans ((rd_wb _ rfl).trans ((rd_wb _ rfl).trans ((rd_wb _ rfl).trans ((rd_wb _ rfl).trans ((rd_wb _ rfl).trans ((rd_wb _ rfl).trans ((rd_wb _ rfl).trans (rd_ws _ _ _ _))))))))))))))))))))))))))))))))))))))))))))))))))) ?_
      refine Tr.iastX (pc := 164) d_X12_run_164 (ty_174 hF) (by decide) (by decide) hF (by decide +kernel) (fun hF => ?_)
      refine Tr.iinc (pc := 165) (ls2 := [(3, (0, 20)), (2, (0, 0)), (0, (2, 120)), (1, (0, _))]) d_X12_run_165 rfl (by decide) rfl ?_
      refine Tr.goto (pc := 168) (tgt := 147) d_X12_run_168 rfl ?_
      refine Tr.iload_n (pc := 147) (i := 3) d_X12_run_147 rfl rfl ?_
      refine Tr.bipush (pc := 148) d_X12_run_148 rfl (by decide) ?_
      refine Tr.icmp_ge (pc := 150) (tgt := 171) d_X12_run_150 rfl (fun hc => absurd hc (by decide)) (fun _ => ?_)
      refine Tr.aload_n (pc := 153) (i := 0) d_X12_run_153 rfl rfl ?_
      refine Tr.getf (pc := 154) d_X12_run_154 f_12_294 (by decide) (by decide) (ty_120 hF) ?_
      refine Tr.tp 174 (fx_120_93 hF) ?_
      refine Tr.iload_n (pc := 157) (i := 3) d_X12_run_157 rfl rfl ?_
      refine Tr.aload_n (pc := 158) (i := 0) d_X12_run_158 rfl rfl ?_
      refine Tr.getf (pc := 159) d_X12_run_159 f_12_222 (by decide) (by decide) (ty_120 hF) ?_
      refine Tr.tp 161 (fx_120_69 hF) ?_
      refine Tr.iload_n (pc := 162) (i := 3) d_X12_run_162 rfl rfl ?_
      refine Tr.iald (pc := 163) d_X12_run_163 (ty_161 hF) (by decide) (by decide) ?_
      refine Tr.tp 0 ((rd_wb _ rfl).trans ((rd_wb _ rfl).trans ((rd_wb _ rfl).trans ((rd_wb _ rfl).trans ((rd_wb _ rfl).trans ((rd_wb _ rfl).trans ((rd_wb _ rfl).trans ((rd_wb _ rfl).trans ((rd_wb _ rfl).trans ((rd_wb _ rfl).trans ((rd_wb _ rfl).trans ((rd_wb _ rfl).trans ((rd_wb _ rfl).trans ((rd_wb _ rfl).trans ((rd_wb _ rfl).trans ((rd_wb _ rfl).trans ((rd_wb _ rfl).trans ((rd_wb _ rfl).trans ((rd_wb _ rfl).trans ((rd_wb _ rfl).trans ((rd_wb _ rfl).trans ((rd_wb _ rfl).trans ((rd_wb _ rfl).trans ((rd_wb _ rfl).trans ((rd_wb _ rfl).trans ((rd_wb _ rfl).trans ((rd_wb _ rfl).trans ((rd_wb _ rfl).trans ((rd_wb _ rfl).trans ((rd_wb _ rfl).trans ((rd_wb _ rfl).trans ((rd_wb _ rfl).trans ((rd_wb _ rfl).trans ((rd_wb _ rfl).trans ((rd_wb _ rfl).trans ((rd_wb _ rfl).trans ((rd_wb _ rfl).trans ((rd_wb _ rfl).trans ((rd_wb _ rfl).trans ((rd_wb _ rfl).trans ((rd_wb _ rfl).trans ((rd_wb _ rfl).trans ((rd_wb _ rfl).trans ((rd_wb _ rfl).trans ((rd_wb _ rfl).trans ((rd_wb _ rfl).trans ((rd_wb _ rfl).trans ((rd_wb _ rfl).trans ((rd_wb _ rfl).trans ((rd_wb _ rfl).trans (rd_ws _ _ _ _))))))))))))))))))))))))))))))))))))))))))))))))))) ?_
      refine Tr.iastX (pc := 164) d_X12_run_164 (ty_174 hF) (by decide) (by decide) hF (by decide +kernel) (fun hF => ?_)
      refine Tr.iinc (pc := 165) (ls2 := [(3, (0, 21)), (2, (0, 0)), (0, (2, 120)), (1, (0, _))]) d_X12_run_165 rfl (by decide) rfl ?_
      refine Tr.goto (pc := 168) (tgt := 147) d_X12_run_168 rfl ?_
      refine Tr.iload_n (pc := 147) (i := 3) d_X12_run_147 rfl rfl ?_
      refine Tr.bipush (pc := 148) d_X12_run_148 rfl (by decide) ?_
      refine Tr.icmp_ge (pc := 150) (tgt := 171) d_X12_run_150 rfl (fun hc => absurd hc (by decide)) (fun _ => ?_)
      refine Tr.aload_n (pc := 153) (i := 0) d_X12_run_153 rfl rfl ?_
      refine Tr.getf (pc := 154) d_X12_run_154 f_12_294 (by decide) (by decide) (ty_120 hF) ?_
      refine Tr.tp 174 (fx_120_93 hF) ?_
      refine Tr.iload_n (pc := 157) (i := 3) d_X12_run_157 rfl rfl ?_
      refine Tr.aload_n (pc := 158) (i := 0) d_X12_run_158 rfl rfl ?_
      refine Tr.getf (pc := 159) d_X12_run_159 f_12_222 (by decide) (by decide) (ty_120 hF) ?_
      refine Tr.tp 161 (fx_120_69 hF) ?_
      refine Tr.iload_n (pc := 162) (i := 3) d_X12_run_162 rfl rfl ?_
      refine Tr.iald (pc := 163) d_X12_run_163 (ty_161 hF) (by decide) (by decide) ?_
      refine Tr.tp 0 ((rd_wb _ rfl).trans ((rd_wb _ rfl).trans ((rd_wb _ rfl).trans ((rd_wb _ rfl).trans ((rd_wb _ rfl).trans ((rd_wb _ rfl).trans ((rd_wb _ rfl).trans ((rd_wb _ rfl).trans ((rd_wb _ rfl).trans ((rd_wb _ rfl).trans ((rd_wb _ rfl).trans ((rd_wb _ rfl).trans ((rd_wb _ rfl).trans ((rd_wb _ rfl).trans ((rd_wb _ rfl).trans ((rd_wb _ rfl).trans ((rd_wb _ rfl).trans ((rd_wb _ rfl).trans ((rd_wb _ rfl).trans ((rd_wb _ rfl).trans ((rd_wb _ rfl).trans ((rd_wb _ rfl).trans ((rd_wb _ rfl).trans ((rd_wb _ rfl).trans ((rd_wb _ rfl).trans ((rd_wb _ rfl).trans ((rd_wb _ rfl).trans ((rd_wb _ rfl).trans ((rd_wb _ rfl).trans ((rd_wb _ rfl).trans ((rd_wb _ rfl).trans ((rd_wb _ rfl).trans ((rd_wb _ rfl).trans ((rd_wb _ rfl).trans ((rd_wb _ rfl).trans ((rd_wb _ rfl).trans ((rd_wb _ rfl).trans ((rd_wb _ rfl).trans ((rd_wb _ rfl).trans ((rd_wb _ rfl).trans ((rd_wb _ rfl).trans ((rd_wb _ rfl).trans ((rd_wb _ rfl).trans ((rd_wb _ rfl).trans ((rd_wb _ rfl).trans ((rd_wb _ rfl).trans ((rd_wb _ rfl).trans ((rd_wb _ rfl).trans ((rd_wb _ rfl).trans ((rd_wb _ rfl).trans (rd_ws _ _ _ _))))))))))))))))))))))))))))))))))))))))))))))))))) ?_
      refine Tr.iastX (pc := 164) d_X12_run_164 (ty_174 hF) (by decide) (by decide) hF (by decide +kernel) (fun hF => ?_)
      refine Tr.iinc (pc := 165) (ls2 := [(3, (0, 22)), (2, (0, 0)), (0, (2, 120)), (1, (0, _))]) d_X12_run_165 rfl (by decide) rfl ?_
      refine Tr.goto (pc := 168) (tgt := 147) d_X12_run_168 rfl ?_
      refine Tr.iload_n (pc := 147) (i := 3) d_X12_run_147 rfl rfl ?_
      refine Tr.bipush (pc := 148) d_X12_run_148 rfl (by decide) ?_
      refine Tr.icmp_ge (pc := 150) (tgt := 171) d_X12_run_150 rfl (fun hc => absurd hc (by decide)) (fun _ => ?_)
      refine Tr.aload_n (pc := 153) (i := 0) d_X12_run_153 rfl rfl ?_
      refine Tr.getf (pc := 154) d_X12_run_154 f_12_294 (by decide) (by decide) (ty_120 hF) ?_
      refine Tr.tp 174 (fx_120_93 hF) ?_
      refine Tr.iload_n (pc := 157) (i := 3) d_X12_run_157 rfl rfl ?_
      refine Tr.aload_n (pc := 158) (i := 0) d_X12_run_158 rfl rfl ?_
      refine Tr.getf (pc := 159) d_X12_run_159 f_12_222 (by decide) (by decide) (ty_120 hF) ?_
      refine Tr.tp 161 (fx_120_69 hF) ?_
      refine Tr.iload_n (pc := 162) (i := 3) d_X12_run_162 rfl rfl ?_
      refine Tr.iald (pc := 163) d_X12_run_163 (ty_161 hF) (by decide) (by decide) ?_
      refine Tr.tp 0 ((rd_wb _ rfl).trans ((rd_wb _ rfl).trans ((rd_wb _ rfl).trans ((rd_wb _ rfl).trans ((rd_wb _ rfl).trans ((rd_wb _ rfl).trans ((rd_wb _ rfl).trans ((rd_wb _ rfl).trans ((rd_wb _ rfl).trans ((rd_wb _ rfl).trans ((rd_wb _ rfl).trans ((rd_wb _ rfl).trans ((rd_wb _ rfl).trans ((rd_wb _ rfl).trans ((rd_wb _ rfl).trans ((rd_wb _ rfl).trans ((rd_wb _ rfl).trans ((rd_wb _ rfl).trans ((rd_wb _ rfl).trans ((rd_wb _ rfl).trans ((rd_wb _ rfl).trans ((rd_wb _ rfl).trans ((rd_wb _ rfl).trans ((rd_wb _ rfl).trans ((rd_wb _ rfl).trans ((rd_wb _ rfl).trans ((rd_wb _ rfl).trans ((rd_wb _ rfl).trans ((rd_wb _ rfl).trans ((rd_wb _ rfl).trans ((rd_wb _ rfl).trans ((rd_wb _ rfl).trans ((rd_wb _ rfl).trans ((rd_wb _ rfl).trans ((rd_wb _ rfl).trans ((rd_wb _ rfl).trans ((rd_wb _ rfl).trans ((rd_wb _ rfl).trans ((rd_wb _ rfl).trans ((rd_wb _ rfl).trans ((rd_wb _ rfl).trans ((rd_wb _ rfl).trans ((rd_wb _ rfl).trans ((rd_wb _ rfl).trans ((rd_wb _ rfl).trans ((rd_wb _ rfl).trans ((rd_wb _ rfl).trans ((rd_wb _ rfl).trans ((rd_wb _ rfl).trans ((rd_wb _ rfl).trans (rd_ws _ _ _ _))))))))))))))))))))))))))))))))))))))))))))))))))) ?_
      refine Tr.iastX (pc := 164) d_X12_run_164 (ty_174 hF) (by decide) (by decide) hF (by decide +kernel) (fun hF => ?_)
      refine Tr.iinc (pc := 165) (ls2 := [(3, (0, 23)), (2, (0, 0)), (0, (2, 120)), (1, (0, _))]) d_X12_run_165 rfl (by decide) rfl ?_
      refine Tr.goto (pc := 168) (tgt := 147) d_X12_run_168 rfl ?_
      refine Tr.iload_n (pc := 147) (i := 3) d_X12_run_147 rfl rfl ?_
      refine Tr.bipush (pc := 148) d_X12_run_148 rfl (by decide) ?_
      refine Tr.icmp_ge (pc := 150) (tgt := 171) d_X12_run_150 rfl (fun hc => absurd hc (by decide)) (fun _ => ?_)
      refine Tr.aload_n (pc := 153) (i := 0) d_X12_run_153 rfl rfl ?_
      refine Tr.getf (pc := 154) d_X12_run_154 f_12_294 (by decide) (by decide) (ty_120 hF) ?_
      refine Tr.tp 174 (fx_120_93 hF) ?_
      refine Tr.iload_n (pc := 157) (i := 3) d_X12_run_157 rfl rfl ?_
      refine Tr.aload_n (pc := 158) (i := 0) d_X12_run_158 rfl rfl ?_
      refine Tr.getf (pc := 159) d_X12_run_159 f_12_222 (by decide) (by decide) (ty_120 hF) ?_
      refine Tr.tp 161 (fx_120_69 hF) ?_
      refine Tr.iload_n (pc := 162) (i := 3) d_X12_run_162 rfl rfl ?_
      refine Tr.iald (pc := 163) d_X12_run_163 (ty_161 hF) (by decide) (by decide) ?_
      refine Tr.tp 0 ((rd_wb _ rfl).trans ((rd_wb _ rfl).trans ((rd_wb _ rfl).trans ((rd_wb _ rfl).trans ((rd_wb _ rfl).trans ((rd_wb _ rfl).trans ((rd_wb _ rfl).trans ((rd_wb _ rfl).trans ((rd_wb _ rfl).trans ((rd_wb _ rfl).trans ((rd_wb _ rfl).trans ((rd_wb _ rfl).trans ((rd_wb _ rfl).trans ((rd_wb _ rfl).trans ((rd_wb _ rfl).trans ((rd_wb _ rfl).trans ((rd_wb _ rfl).trans ((rd_wb _ rfl).trans ((rd_wb _ rfl).trans ((rd_wb _ rfl).trans ((rd_wb _ rfl).trans ((rd_wb _ rfl).trans ((rd_wb _ rfl).trans ((rd_wb _ rfl).trans ((rd_wb _ rfl).trans ((rd_wb _ rfl).trans ((rd_wb _ rfl).trans ((rd_wb _ rfl).trans ((rd_wb _ rfl).trans ((rd_wb _ rfl).trans ((rd_wb _ rfl).trans ((rd_wb _ rfl).trans ((rd_wb _ rfl).trans ((rd_wb _ rfl).trans ((rd_wb _ rfl).trans ((rd_wb _ rfl).trans ((rd_wb _ rfl).trans ((rd_wb _ rfl).trans ((rd_wb _ rfl).trans ((rd_wb _ rfl).trans ((rd_wb _ rfl).trans ((rd_wb _ rfl).trans ((rd_wb _ rfl).trans ((rd_wb _ rfl).trans ((rd_wb _ rfl).trans ((rd_wb _ rfl).trans ((rd_wb _ rfl).trans ((rd_wb _ rfl).trans ((rd_wb _ rfl).trans ((rd_wb _ rfl).trans (rd_ws _ _ _ _))))))))))))))))))))))))))))))))))))))))))))))))))) ?_
      refine Tr.iastX (pc := 164) d_X12_run_164 (ty_174 hF) (by decide) (by decide) hF (by decide +kernel) (fun hF => ?_)
      refine Tr.iinc (pc := 165) (ls2 := [(3, (0, 24)), (2, (0, 0)), (0, (2, 120)), (1, (0, _))]) d_X12_run_165 rfl (by decide) rfl ?_
      refine Tr.goto (pc := 168) (tgt := 147) d_X12_run_168 rfl ?_
      refine Tr.iload_n (pc := 147) (i := 3) d_X12_run_147 rfl rfl ?_
      refine Tr.bipush (pc := 148) d_X12_run_148 rfl (by decide) ?_
      refine Tr.icmp_ge (pc := 150) (tgt := 171) d_X12_run_150 rfl (fun _ => ?_) (fun hc => absurd (by decide) hc)
      refine Tr.iconst (pc := 171) d_X12_run_171 (by decide) ?_
      refine Tr.istore_n (pc := 172) (i := 3) (ls2 := [(3, (0, 0)), (2, (0, 0)), (0, (2, 120)), (1, (0, _))]) d_X12_run_172 rfl (by decide) rfl ?_
      refine Tr.iload_n (pc := 173) (i := 3) d_X12_run_173 rfl rfl ?_
      refine Tr.bipush (pc := 174) d_X12_run_174 rfl (by decide) ?_
      refine Tr.icmp_ge (pc := 176) (tgt := 222) d_X12_run_176 rfl (fun hc => absurd hc (by decide)) (fun _ => ?_)
      refine Tr.aload_n (pc := 179) (i := 0) d_X12_run_179 rfl rfl ?_
      refine Tr.getf (pc := 180) d_X12_run_180 f_12_297 (by decide) (by decide) (ty_120 hF) ?_
      refine Tr.tp 175 (fx_120_94 hF) ?_
      refine Tr.iload_n (pc := 183) (i := 3) d_X12_run_183 rfl rfl ?_
      refine Tr.aload_n (pc := 184) (i := 0) d_X12_run_184 rfl rfl ?_
      refine Tr.getf (pc := 185) d_X12_run_185 f_12_177 (by decide) (by decide) (ty_120 hF) ?_
      refine Tr.tp 156 (fx_120_54 hF) ?_
      refine Tr.iload_n (pc := 188) (i := 3) d_X12_run_188 rfl rfl ?_
      refine Tr.zald (pc := 189) d_X12_run_189 (ty_156 hF) (by decide) (by decide) ?_
      refine Tr.tp 0 ((rd_wb _ rfl).trans ((rd_wb _ rfl).trans ((rd_wb _ rfl).trans ((rd_wb _ rfl).trans ((rd_wb _ rfl).trans ((rd_wb _ rfl).trans ((rd_wb _ rfl).trans ((rd_wb _ rfl).trans ((rd_wb _ rfl).trans ((rd_wb _ rfl).trans ((rd_wb _ rfl).trans ((rd_wb _ rfl).trans ((rd_wb _ rfl).trans ((rd_wb _ rfl).trans ((rd_wb _ rfl).trans ((rd_wb _ rfl).trans ((rd_wb _ rfl).trans ((rd_wb _ rfl).trans ((rd_wb _ rfl).trans ((rd_wb _ rfl).trans ((rd_wb _ rfl).trans ((rd_wb _ rfl).trans ((rd_wb _ rfl).trans ((rd_wb _ rfl).trans ((rd_wb _ rfl).trans ((rd_wb _ rfl).trans ((rd_wb _ rfl).trans ((rd_wb _ rfl).trans ((rd_wb _ rfl).trans ((rd_wb _ rfl).trans ((rd_wb _ rfl).trans ((rd_wb _ rfl).trans ((rd_wb _ rfl).trans ((rd_wb _ rfl).trans ((rd_wb _ rfl).trans ((rd_wb _ rfl).trans ((rd_wb _ rfl).trans ((rd_wb _ rfl).trans ((rd_wb _ rfl).trans ((rd_wb _ rfl).trans ((rd_wb _ rfl).trans ((rd_wb _ rfl).trans ((rd_wb _ rfl).trans ((rd_wb _ rfl).trans ((rd_wb _ rfl).trans ((rd_wb _ rfl).trans ((rd_wb _ rfl).trans ((rd_wb _ rfl).trans ((rd_wb _ rfl).trans ((rd_wb _ rfl).trans ((rd_wb _ rfl).trans ((rd_wb _ rfl).trans ((rd_wb _ rfl).trans ((rd_wb _ rfl).trans ((rd_wb _ rfl).trans ((rd_wb _ rfl).trans ((rd_wb _ rfl).trans ((rd_wb _ rfl).trans ((rd_wb _ rfl).trans ((rd_wb _ rfl).trans ((rd_wb _ rfl).trans ((rd_wb _ rfl).trans ((rd_wb _ rfl).trans ((rd_wb _ rfl).trans ((rd_wb _ rfl).trans ((rd_wb _ rfl).trans ((rd_wb _ rfl).trans ((rd_wb _ rfl).trans ((rd_wb _ rfl).trans ((rd_wb _ rfl).trans ((rd_wb _ rfl).trans ((rd_wb _ rfl).trans ((rd_wb _ rfl).trans ((rd_wb _ rfl).trans ((rd_wb _ rfl).trans ((rd_wb _ rfl).trans ((rd_wb _ rfl).trans ((rd_wb _ rfl).trans ((rd_wb _ rfl).trans ((rd_wb _ rfl).trans ((rd_wb _ rfl).trans ((rd_wb _ rfl).trans ((rd_wb _ rfl).trans ((rd_wb _ rfl).trans ((rd_wb _ rfl).trans ((rd_wb _ rfl).trans ((rd_wb _ rfl).trans ((rd_wb _ rfl).trans ((rd_wb _ rfl).trans ((rd_wb _ rfl).trans ((rd_wb _ rfl).trans ((rd_wb _ rfl).trans ((rd_wb _ rfl).trans ((rd_wb _ rfl).trans ((rd_wb _ rfl).trans ((rd_wb _ rfl).trans ((rd_wb _ rfl).trans ((rd_wb _ rfl).trans ((rd_wb _ rfl).trans ((rd_wb _ rfl).trans ((rd_wb _ rfl).trans ((rd_wb _ rfl).trans ((rd_wb _ rfl).trans ((rd_wb _ rfl).trans ((rd_wb _ rfl).trans ((rd_wb _ rfl).trans (rd_ws _ _ _ _))))))))))))))))))))))))))))))))))))))))))))))))))))))))))))))))))))))))))))))))))))))))))))))))))))))))))) ?_
      refine Tr.if_ne (pc := 190) (tgt := 214) d_X12_run_190 rfl (fun hc => absurd (by decide) hc) (fun _ => ?_)
      refine Tr.aload_n (pc := 193) (i := 0) d_X12_run_193 rfl rfl ?_
      refine Tr.getf (pc := 194) d_X12_run_194 f_12_183 (by decide) (by decide) (ty_120 hF) ?_
      refine Tr.tp 158 (fx_120_56 hF) ?_
      refine Tr.iload_n (pc := 197) (i := 3) d_X12_run_197 rfl rfl ?_
      refine Tr.iald (pc := 198) d_X12_run_198 (ty_158 hF) (by decide) (by decide) ?_
      refine Tr.tp 0 ((rd_wb _ rfl).trans ((rd_wb _ rfl).trans ((rd_wb _ rfl).trans ((rd_wb _ rfl).trans ((rd_wb _ rfl).trans ((rd_wb _ rfl).trans ((rd_wb _ rfl).trans ((rd_wb _ rfl).trans ((rd_wb _ rfl).trans ((rd_wb _ rfl).trans ((rd_wb _ rfl).trans ((rd_wb _ rfl).trans ((rd_wb _ rfl).trans ((rd_wb _ rfl).trans ((rd_wb _ rfl).trans ((rd_wb _ rfl).trans ((rd_wb _ rfl).trans ((rd_wb _ rfl).trans ((rd_wb _ rfl).trans ((rd_wb _ rfl).trans ((rd_wb _ rfl).trans ((rd_wb _ rfl).trans ((rd_wb _ rfl).trans ((rd_wb _ rfl).trans ((rd_wb _ rfl).trans ((rd_wb _ rfl).trans ((rd_wb _ rfl).trans ((rd_wb _ rfl).trans ((rd_wb _ rfl).trans ((rd_wb _ rfl).trans ((rd_wb _ rfl).trans ((rd_wb _ rfl).trans ((rd_wb _ rfl).trans ((rd_wb _ rfl).trans ((rd_wb _ rfl).trans ((rd_wb _ rfl).trans ((rd_wb _ rfl).trans ((rd_wb _ rfl).trans ((rd_wb _ rfl).trans ((rd_wb _ rfl).trans ((rd_wb _ rfl).trans ((rd_wb _ rfl).trans ((rd_wb _ rfl).trans ((rd_wb _ rfl).trans ((rd_wb _ rfl).trans ((rd_wb _ rfl).trans ((rd_wb _ rfl).trans ((rd_wb _ rfl).trans ((rd_wb _ rfl).trans ((rd_wb _ rfl).trans ((rd_wb _ rfl).trans ((rd_wb _ rfl).trans ((rd_wb _ rfl).trans ((rd_wb _ rfl).trans ((rd_wb _ rfl).trans ((rd_wb _ rfl).trans ((rd_wb _ rfl).trans ((rd_wb _ rfl).trans ((rd_wb _ rfl).trans ((rd_wb _ rfl).trans ((rd_wb _ rfl).trans ((rd_wb _ rfl).trans ((rd_wb _ rfl).trans ((rd_wb _ rfl).trans ((rd_wb _ rfl).trans ((rd_wb _ rfl).trans ((rd_wb _ rfl).trans ((rd_wb _ rfl).trans ((rd_wb _ rfl).trans ((rd_wb _ rfl).trans ((rd_wb _ rfl).trans ((rd_wb _ rfl).trans ((rd_wb _ rfl).trans ((rd_wb _ rfl).trans ((rd_wb _ rfl).trans ((rd_wb _ rfl).trans ((rd_wb _ rfl).trans ((rd_wb _ rfl).trans ((rd_wb _ rfl).trans ((rd_wb _ rfl).trans ((rd_wb _ rfl).trans ((rd_wb _ rfl).trans ((rd_wb _ rfl).trans ((rd_wb _ rfl).trans ((rd_wb _ rfl).trans ((rd_wb _ rfl).trans ((rd_wb _ rfl).trans ((rd_wb _ rfl).trans ((rd_wb _ rfl).trans ((rd_wb _ rfl).trans ((rd_wb _ rfl).trans ((rd_wb _ rfl).trans ((rd_wb _ rfl).trans ((rd_wb _ rfl).trans ((rd_wb _ rfl).trans ((rd_wb _ rfl).trans ((rd_wb _ rfl).trans ((rd_wb _ rfl).trans ((rd_wb _ rfl).trans ((rd_wb _ rfl).trans ((rd_wb _ rfl).trans ((rd_wb _ rfl).trans ((rd_wb _ rfl).trans ((rd_wb _ rfl).trans (rd_ws _ _ _ _))))))))))))))))))))))))))))))))))))))))))))))))))))))))))))))))))))))))))))))))))))))))))))))))))))))))) ?_
      refine Tr.if_ne (pc := 199) (tgt := 214) d_X12_run_199 rfl (fun hc => absurd (by decide) hc) (fun _ => ?_)
      refine Tr.iload_n (pc := 202) (i := 3) d_X12_run_202 rfl rfl ?_
      refine Tr.aload_n (pc := 203) (i := 0) d_X12_run_203 rfl rfl ?_
      refine Tr.getf (pc := 204) d_X12_run_204 f_12_195 (by decide) (by decide) (ty_120 hF) ?_
      refine Tr.tp (-1) ((rd_wb _ rfl).trans ((rd_wb _ rfl).trans ((rd_wb _ rfl).trans ((rd_wb _ rfl).trans ((rd_wb _ rfl).trans ((rd_wb _ rfl).trans ((rd_wb _ rfl).trans ((rd_wb _ rfl).trans ((rd_wb _ rfl).trans ((rd_wb _ rfl).trans ((rd_wb _ rfl).trans ((rd_wb _ rfl).trans ((rd_wb _ rfl).trans ((rd_wb _ rfl).trans ((rd_wb _ rfl).trans ((rd_wb _ rfl).trans ((rd_wb _ rfl).trans ((rd_wb _ rfl).trans ((rd_wb _ rfl).trans ((rd_wb _ rfl).trans ((rd_wb _ rfl).trans ((rd_wb _ rfl).trans ((rd_wb _ rfl).trans ((rd_wb _ rfl).trans ((rd_wb _ rfl).trans ((rd_wb _ rfl).trans ((rd_wb _ rfl).trans ((rd_wb _ rfl).trans ((rd_wb _ rfl).trans ((rd_wb _ rfl).trans ((rd_wb _ rfl).trans ((rd_wb _ rfl).trans ((rd_wb _ rfl).trans ((rd_wb _ rfl).trans ((rd_wb _ rfl).trans ((rd_wb _ rfl).trans ((rd_wb _ rfl).trans ((rd_wb _ rfl).trans ((rd_wb _ rfl).trans ((rd_wb _ rfl).trans ((rd_wb _ rfl).trans ((rd_wb _ rfl).trans (rd_ws _ _ _ _))))))))))))))))))))))))))))))))))))))))))) ?_
      refine Tr.icmp_eq (pc := 207) (tgt := 214) d_X12_run_207 rfl (fun hc => absurd hc (by decide)) (fun _ => ?_)
      refine Tr.iconst (pc := 210) d_X12_run_210 (by decide) ?_
      refine Tr.goto (pc := 211) (tgt := 215) d_X12_run_211 rfl ?_
      refine Tr.zastX (pc := 215) d_X12_run_215 (ty_175 hF) (by decide) (by decide) (by decide) hF (by decide +kernel) (fun hF => ?_)
      refine Tr.iinc (pc := 216) (ls2 := [(3, (0, 1)), (2, (0, 0)), (0, (2, 120)), (1, (0, _))]) d_X12_run_216 rfl (by decide) rfl ?_
      refine Tr.goto (pc := 219) (tgt := 173) d_X12_run_219 rfl ?_
      refine Tr.iload_n (pc := 173) (i := 3) d_X12_run_173 rfl rfl ?_
      refine Tr.bipush (pc := 174) d_X12_run_174 rfl (by decide) ?_
      refine Tr.icmp_ge (pc := 176) (tgt := 222) d_X12_run_176 rfl (fun hc => absurd hc (by decide)) (fun _ => ?_)
      refine Tr.aload_n (pc := 179) (i := 0) d_X12_run_179 rfl rfl ?_
      refine Tr.getf (pc := 180) d_X12_run_180 f_12_297 (by decide) (by decide) (ty_120 hF) ?_
      refine Tr.tp 175 (fx_120_94 hF) ?_
      refine Tr.iload_n (pc := 183) (i := 3) d_X12_run_183 rfl rfl ?_
      refine Tr.aload_n (pc := 184) (i := 0) d_X12_run_184 rfl rfl ?_
      refine Tr.getf (pc := 185) d_X12_run_185 f_12_177 (by decide) (by decide) (ty_120 hF) ?_
      refine Tr.tp 156 (fx_120_54 hF) ?_
      refine Tr.iload_n (pc := 188) (i := 3) d_X12_run_188 rfl rfl ?_
      refine Tr.zald (pc := 189) d_X12_run_189 (ty_156 hF) (by decide) (by decide) ?_
      refine Tr.tp 0 ((rd_wb _ rfl).trans ((rd_wb _ rfl).trans ((rd_wb _ rfl).trans ((rd_wb _ rfl).trans ((rd_wb _ rfl).trans ((rd_wb _ rfl).trans ((rd_wb _ rfl).trans ((rd_wb _ rfl).trans ((rd_wb _ rfl).trans ((rd_wb _ rfl).trans ((rd_wb _ rfl).trans ((rd_wb _ rfl).trans ((rd_wb _ rfl).trans ((rd_wb _ rfl).trans ((rd_wb _ rfl).trans ((rd_wb _ rfl).trans ((rd_wb _ rfl).trans ((rd_wb _ rfl).trans ((rd_wb _ rfl).trans ((rd_wb _ rfl).trans ((rd_wb _ rfl).trans ((rd_wb _ rfl).trans ((rd_wb _ rfl).trans ((rd_wb _ rfl).trans ((rd_wb _ rfl).trans ((rd_wb _ rfl).trans ((rd_wb _ rfl).trans ((rd_wb _ rfl).trans ((rd_wb _ rfl).trans ((rd_wb _ rfl).trans ((rd_wb _ rfl).trans ((rd_wb _ rfl).trans ((rd_wb _ rfl).trans ((rd_wb _ rfl).trans ((rd_wb _ rfl).trans ((rd_wb _ rfl).trans ((rd_wb _ rfl).trans ((rd_wb _ rfl).trans ((rd_wb _ rfl).trans ((rd_wb _ rfl).trans ((rd_wb _ rfl).trans ((rd_wb _ rfl).trans ((rd_wb _ rfl).trans ((rd_wb _ rfl).trans ((rd_wb _ rfl).trans ((rd_wb _ rfl).trans ((rd_wb _ rfl).trans ((rd_wb _ rfl).trans ((rd_wb _ rfl).trans ((rd_wb _ rfl).trans ((rd_wb _ rfl).trans ((rd_wb _ rfl).trans ((rd_wb _ rfl).trans ((rd_wb _ rfl).trans ((rd_wb _ rfl).trans ((rd_wb _ rfl).trans ((rd_wb _ rfl).trans ((rd_wb _ rfl).trans ((rd_wb _ rfl).trans ((rd_wb _ rfl).trans ((rd_wb _ rfl).trans ((rd_wb _ rfl).trans ((rd_wb _ rfl).trans ((rd_wb _ rfl).trans ((rd_wb _ rfl).trans ((rd_wb _ rfl).trans ((rd_wb _ rfl).trans ((rd_wb _ rfl).trans ((rd_wb _ rfl).trans ((rd_wb _ rfl).trans ((rd_wb _ rfl).trans ((rd_wb _ rfl).trans ((rd_wb _ rfl).trans ((rd_wb _ rfl).trans ((rd_wb _ rfl).trans ((rd_wb _ rfl).trans ((rd_wb _ rfl).trans ((rd_wb _ rfl).trans ((rd_wb _ rfl).trans ((rd_wb _ rfl).trans ((rd_wb _ rfl).trans ((rd_wb _ rfl).trans ((rd_wb _ rfl).trans ((rd_wb _ rfl).trans ((rd_wb _ rfl).trans ((rd_wb _ rfl).trans ((rd_wb _ rfl).trans ((rd_wb _ rfl).trans ((rd_wb _ rfl).trans ((rd_wb _ rfl).trans ((rd_wb _ rfl).trans ((rd_wb _ rfl).trans ((rd_wb _ rfl).trans ((rd_wb _ rfl).trans ((rd_wb _ rfl).trans ((rd_wb _ rfl).trans ((rd_wb _ rfl).trans ((rd_wb _ rfl).trans ((rd_wb _ rfl).trans ((rd_wb _ rfl).trans ((rd_wb _ rfl).trans ((rd_wb _ rfl).trans ((rd_wb _ rfl).trans (rd_ws _ _ _ _)))))))))))))))))))))))))))))))))))))))))))))))))))))))))))))))))))))))))))))))))))))))))))))))))))))))) ?_
      refine Tr.if_ne (pc := 190) (tgt := 214) d_X12_run_190 rfl (fun hc => absurd (by decide) hc) (fun _ => ?_)
      refine Tr.aload_n (pc := 193) (i := 0) d_X12_run_193 rfl rfl ?_
      refine Tr.getf (pc := 194) d_X12_run_194 f_12_183 (by decide) (by decide) (ty_120 hF) ?_
      refine Tr.tp 158 (fx_120_56 hF) ?_
      refine Tr.iload_n (pc := 197) (i := 3) d_X12_run_197 rfl rfl ?_
      refine Tr.iald (pc := 198) d_X12_run_198 (ty_158 hF) (by decide) (by decide) ?_
      refine Tr.tp 0 ((rd_wb _ rfl).trans ((rd_wb _ rfl).trans ((rd_wb _ rfl).trans ((rd_wb _ rfl).trans ((rd_wb _ rfl).trans ((rd_wb _ rfl).trans ((rd_wb _ rfl).trans ((rd_wb _ rfl).trans ((rd_wb _ rfl).trans ((rd_wb _ rfl).trans ((rd_wb _ rfl).trans ((rd_wb _ rfl).trans ((rd_wb _ rfl).trans ((rd_wb _ rfl).trans ((rd_wb _ rfl).trans ((rd_wb _ rfl).trans ((rd_wb _ rfl).trans ((rd_wb _ rfl).trans ((rd_wb _ rfl).trans ((rd_wb _ rfl).trans ((rd_wb _ rfl).trans ((rd_wb _ rfl).trans ((rd_wb _ rfl).trans ((rd_wb _ rfl).trans ((rd_wb _ rfl).trans ((rd_wb _ rfl).trans ((rd_wb _ rfl).trans ((rd_wb _ rfl).trans ((rd_wb _ rfl).trans ((rd_wb _ rfl).trans ((rd_wb _ rfl).trans ((rd_wb _ rfl).trans ((rd_wb _ rfl).trans ((rd_wb _ rfl).trans ((rd_wb _ rfl).trans ((rd_wb _ rfl).trans ((rd_wb _ rfl).trans ((rd_wb _ rfl).trans ((rd_wb _ rfl).trans ((rd_wb _ rfl).trans ((rd_wb _ rfl).trans ((rd_wb _ rfl).trans ((rd_wb _ rfl).trans ((rd_wb _ rfl).trans ((rd_wb _ rfl).trans ((rd_wb _ rfl).trans ((rd_wb _ rfl).trans ((rd_wb _ rfl).trans ((rd_wb _ rfl).trans ((rd_wb _ rfl).trans ((rd_wb _ rfl).trans ((rd_wb _ rfl).trans ((rd_wb _ rfl).trans ((rd_wb _ rfl).trans ((rd_wb _ rfl).trans ((rd_wb _ rfl).trans ((rd_wb _ rfl).trans ((rd_wb _ rfl).trans ((rd_wb _ rfl).trans ((rd_wb _ rfl).trans ((rd_wb _ rfl).trans ((rd_wb _ rfl).trans ((rd_wb _ rfl).trans ((rd_wb _ rfl).trans ((rd_wb _ rfl).trans ((rd_wb _ rfl).trans ((rd_wb _ rfl).trans ((rd_wb _ rfl).trans ((rd_wb _ rfl).trans ((rd_wb _ rfl).trans ((rd_wb _ rfl).trans ((rd_wb _ rfl).trans ((rd_wb _ rfl).trans ((rd_wb _ rfl).trans ((rd_wb _ rfl).trans ((rd_wb _ rfl).trans ((rd_wb _ rfl).trans ((rd_wb _ rfl).trans ((rd_wb _ rfl).trans ((rd_wb _ rfl).trans ((rd_wb _ rfl).trans ((rd_wb _ rfl).trans ((rd_wb _ rfl).trans ((rd_wb _ rfl).trans ((rd_wb _ rfl).trans ((rd_wb _ rfl).trans ((rd_wb _ rfl).trans ((rd_wb _ rfl).trans ((rd_wb _ rfl).trans ((rd_wb _ rfl).trans ((rd_wb _ rfl).trans ((rd_wb _ rfl).trans ((rd_wb _ rfl).trans ((rd_wb _ rfl).trans ((rd_wb _ rfl).trans ((rd_wb _ rfl).trans ((rd_wb _ rfl).trans ((rd_wb _ rfl).trans ((rd_wb _ rfl).trans ((rd_wb _ rfl).trans ((rd_wb _ rfl).trans (rd_ws _ _ _ _)))))))))))))))))))))))))))))))))))))))))))))))))))))))))))))))))))))))))))))))))))))))))))))))))))))) ?_
      refine Tr.if_ne (pc := 199) (tgt := 214) d_X12_run_199 rfl (fun hc => absurd (by decide) hc) (fun _ => ?_)
      refine Tr.iload_n (pc := 202) (i := 3) d_X12_run_202 rfl rfl ?_
      refine Tr.aload_n (pc := 203) (i := 0) d_X12_run_203 rfl rfl ?_
      refine Tr.getf (pc := 204) d_X12_run_204 f_12_195 (by decide) (by decide) (ty_120 hF) ?_
      refine Tr.tp (-1) ((rd_wb _ rfl).trans ((rd_wb _ rfl).trans ((rd_wb _ rfl).trans ((rd_wb _ rfl).trans ((rd_wb _ rfl).trans ((rd_wb _ rfl).trans ((rd_wb _ rfl).trans ((rd_wb _ rfl).trans ((rd_wb _ rfl).trans ((rd_wb _ rfl).trans ((rd_wb _ rfl).trans ((rd_wb _ rfl).trans ((rd_wb _ rfl).trans ((rd_wb _ rfl).trans ((rd_wb _ rfl).trans ((rd_wb _ rfl).trans ((rd_wb _ rfl).trans ((rd_wb _ rfl).trans ((rd_wb _ rfl).trans ((rd_wb _ rfl).trans ((rd_wb _ rfl).trans ((rd_wb _ rfl).trans ((rd_wb _ rfl).trans ((rd_wb _ rfl).trans ((rd_wb _ rfl).trans ((rd_wb _ rfl).trans ((rd_wb _ rfl).trans ((rd_wb _ rfl).trans ((rd_wb _ rfl).trans ((rd_wb _ rfl).trans ((rd_wb _ rfl).trans ((rd_wb _ rfl).trans ((rd_wb _ rfl).trans ((rd_wb _ rfl).trans ((rd_wb _ rfl).trans ((rd_wb _ rfl).trans ((rd_wb _ rfl).trans ((rd_wb _ rfl).trans ((rd_wb _ rfl).trans ((rd_wb _ rfl).trans ((rd_wb _ rfl).trans ((rd_wb _ rfl).trans ((rd_wb _ rfl).trans (rd_ws _ _ _ _)))))))))))))))))))))))))))))))))))))))))))) ?_
      refine Tr.icmp_eq (pc := 207) (tgt := 214) d_X12_run_207 rfl (fun hc => absurd hc (by decide)) (fun _ => ?_)
      refine Tr.iconst (pc := 210) d_X12_run_210 (by decide) ?_
      refine Tr.goto (pc := 211) (tgt := 215) d_X12_run_211 rfl ?_
      refine Tr.zastX (pc := 215) d_X12_run_215 (ty_175 hF) (by decide) (by decide) (by decide) hF (by decide +kernel) (fun hF => ?_)
      refine Tr.iinc (pc := 216) (ls2 := [(3, (0, 2)), (2, (0, 0)), (0, (2, 120)), (1, (0, _))]) d_X12_run_216 rfl (by decide) rfl ?_
      refine Tr.goto (pc := 219) (tgt := 173) d_X12_run_219 rfl ?_
      refine Tr.iload_n (pc := 173) (i := 3) d_X12_run_173 rfl rfl ?_
      refine Tr.bipush (pc := 174) d_X12_run_174 rfl (by decide) ?_
      refine Tr.icmp_ge (pc := 176) (tgt := 222) d_X12_run_176 rfl (fun hc => absurd hc (by decide)) (fun _ => ?_)
      refine Tr.aload_n (pc := 179) (i := 0) d_X12_run_179 rfl rfl ?_
      refine Tr.getf (pc := 180) d_X12_run_180 f_12_297 (by decide) (by decide) (ty_120 hF) ?_
      refine Tr.tp 175 (fx_120_94 hF) ?_
      refine Tr.iload_n (pc := 183) (i := 3) d_X12_run_183 rfl rfl ?_
      refine Tr.aload_n (pc := 184) (i := 0) d_X12_run_184 rfl rfl ?_
      refine Tr.getf (pc := 185) d_X12_run_185 f_12_177 (by decide) (by decide) (ty_120 hF) ?_
      refine Tr.tp 156 (fx_120_54 hF) ?_
      refine Tr.iload_n (pc := 188) (i := 3) d_X12_run_188 rfl rfl ?_
      refine Tr.zald (pc := 189) d_X12_run_189 (ty_156 hF) (by decide) (by decide) ?_
      refine Tr.tp 0 ((rd_wb _ rfl).trans ((rd_wb _ rfl).trans ((rd_wb _ rfl).trans ((rd_wb _ rfl).trans ((rd_wb _ rfl).trans ((rd_wb _ rfl).trans ((rd_wb _ rfl).trans ((rd_wb _ rfl).trans ((rd_wb _ rfl).trans ((rd_wb _ rfl).trans ((rd_wb _ rfl).trans ((rd_wb _ rfl).trans ((rd_wb _ rfl).trans ((rd_wb _ rfl).trans ((rd_wb _ rfl).trans ((rd_wb _ rfl).trans ((rd_wb _ rfl).trans ((rd_wb _ rfl).trans ((rd_wb _ rfl).trans ((rd_wb _ rfl).trans ((rd_wb _ rfl).trans ((rd_wb _ rfl).trans ((rd_wb _ rfl).trans ((rd_wb _ rfl).trans ((rd_wb _ rfl).trans ((rd_wb _ rfl).trans ((rd_wb _ rfl).trans ((rd_wb _ rfl).trans ((rd_wb _ rfl).trans ((rd_wb _ rfl).trans ((rd_wb _ rfl).trans ((rd_wb _ rfl).trans ((rd_wb _ rfl).trans ((rd_wb _ rfl).trans ((rd_wb _ rfl).trans ((rd_wb _ rfl).trans ((rd_wb _ rfl).trans ((rd_wb _ rfl).trans ((rd_wb _ rfl).trans ((rd_wb _ rfl).trans ((rd_wb _ rfl).trans ((rd_wb _ rfl).trans ((rd_wb _ rfl).trans ((rd_wb _ rfl).trans ((rd_wb _ rfl).trans ((rd_wb _ rfl).trans ((rd_wb _ rfl).trans ((rd_wb _ rfl).trans ((rd_wb _ rfl).trans ((rd_wb _ rfl).trans ((rd_wb _ rfl).trans ((rd_wb _ rfl).trans ((rd_wb _ rfl).trans ((rd_wb _ rfl).trans ((rd_wb _ rfl).trans ((rd_wb _ rfl).trans ((rd_wb _ rfl).trans ((rd_wb _ rfl).trans ((rd_wb _ rfl).trans ((rd_wb _ rfl).trans ((rd_wb _ rfl).trans ((rd_wb _ rfl).trans ((rd_wb _ rfl).trans ((rd_wb _ rfl).trans ((rd_wb _ rfl).trans ((rd_wb _ rfl).trans ((rd_wb _ rfl).trans ((rd_wb _ rfl).trans ((rd_wb _ rfl).trans ((rd_wb _ rfl).trans ((rd_wb _ rfl).trans ((rd_wb _ rfl).trans ((rd_wb _ rfl).trans ((rd_wb _ rfl).trans ((rd_wb _ rfl).trans ((rd_wb _ rfl).trans ((rd_wb _ rfl).trans ((rd_wb _ rfl).trans ((rd_wb _ rfl).trans ((rd_wb _ rfl).trans ((rd_wb _ rfl).trans ((rd_wb _ rfl).trans ((rd_wb _ rfl).trans ((rd_wb _ rfl).trans ((rd_wb _ rfl).trans ((rd_wb _ rfl).trans ((rd_wb _ rfl).trans ((rd_wb _ rfl).trans ((rd_wb _ rfl).trans ((rd_wb _ rfl).trans ((rd_wb _ rfl).trans ((rd_wb _ rfl).trans ((rd_wb _ rfl).trans ((rd_wb _ rfl).trans ((rd_wb _ rfl).trans ((rd_wb _ rfl).trans ((rd_wb _ rfl).trans ((rd_wb _ rfl).trans ((rd_wb _ rfl).trans ((rd_wb _ rfl).trans (rd_ws _ _ _ _))))))))))))))))))))))))))))))))))))))))))))))))))))))))))))))))))))))))))))))))))))))))))))))))))))) ?_
      refine Tr.if_ne (pc := 190) (tgt := 214) d_X12_run_190 rfl (fun hc => absurd (by decide) hc) (fun _ => ?_)
      refine Tr.aload_n (pc := 193) (i := 0) d_X12_run_193 rfl rfl ?_
      refine Tr.getf (pc := 194) d_X12_run_194 f_12_183 (by decide) (by decide) (ty_120 hF) ?_
      refine Tr.tp 158 (fx_120_56 hF) ?_
      refine Tr.iload_n (pc := 197) (i := 3) d_X12_run_197 rfl rfl ?_
      refine Tr.iald (pc := 198) d_X12_run_198 (ty_158 hF) (by decide) (by decide) ?_
      refine Tr.tp 0 ((rd_wb _ rfl).trans ((rd_wb _ rfl).trans ((rd_wb _ rfl).trans ((rd_wb _ rfl).trans ((rd_wb _ rfl).trans ((rd_wb _ rfl).trans ((rd_wb _ rfl).trans ((rd_wb _ rfl).trans ((rd_wb _ rfl).trans ((rd_wb _ rfl).trans ((rd_wb _ rfl).trans ((rd_wb _ rfl).trans ((rd_wb _ rfl).trans ((rd_wb _ rfl).trans ((rd_wb _ rfl).trans ((rd_wb _ rfl).trans ((rd_wb _ rfl).trans ((rd_wb _ rfl).trans ((rd_wb _ rfl).trans ((rd_wb _ rfl).trans ((rd_wb _ rfl).trans ((rd_wb _ rfl).trans ((rd_wb _ rfl).trans ((rd_wb _ rfl).trans ((rd_wb _ rfl).trans ((rd_wb _ rfl).trans ((rd_wb _ rfl).trans ((rd_wb _ rfl).trans ((rd_wb _ rfl).trans ((rd_wb _ rfl).trans ((rd_wb _ rfl).trans ((rd_wb _ rfl).trans ((rd_wb _ rfl).trans ((rd_wb _ rfl).trans ((rd_wb _ rfl).trans ((rd_wb _ rfl).trans ((rd_wb _ rfl).trans ((rd_wb _ rfl).trans ((rd_wb _ rfl).trans ((rd_wb _ rfl).trans ((rd_wb _ rfl).trans ((rd_wb _ rfl).trans ((rd_wb _ rfl).trans ((rd_wb _ rfl).trans ((rd_wb _ rfl).trans ((rd_wb _ rfl).trans ((rd_wb _ rfl).trans ((rd_wb _ rfl).trans ((rd_wb _ rfl).trans ((rd_wb _ rfl).trans ((rd_wb _ rfl).trans ((rd_wb _ rfl).trans ((rd_wb _ rfl).trans ((rd_wb _ rfl).trans ((rd_wb _ rfl).trans ((rd_wb _ rfl).trans ((rd_wb _ rfl).trans ((rd_wb _ rfl).trans ((rd_wb _ rfl).trans ((rd_wb _ rfl).trans ((rd_wb _ rfl).trans ((rd_wb _ rfl).trans ((rd_wb _ rfl).trans ((rd_wb _ rfl).trans ((rd_wb _ rfl).trans ((rd_wb _ rfl).trans ((rd_wb _ rfl).trans ((rd_wb _ rfl).trans ((rd_wb _ rfl).trans ((rd_wb _ rfl).trans ((rd_wb _ rfl).trans ((rd_wb _ rfl).trans ((rd_wb _ rfl).trans ((rd_wb _ rfl).trans ((rd_wb _ rfl).trans ((rd_wb _ rfl).trans ((rd_wb _ rfl).trans ((rd_wb _ rfl).trans ((rd_wb _ rfl).trans ((rd_wb _ rfl).trans ((rd_wb _ rfl).trans ((rd_wb _ rfl).trans ((rd_wb _ rfl).trans ((rd_wb _ rfl).trans ((rd_wb _ rfl).trans ((rd_wb _ rfl).trans ((rd_wb _ rfl).trans ((rd_wb _ rfl).trans ((rd_wb _ rfl).trans ((rd_wb _ rfl).trans ((rd_wb _ rfl).trans ((rd_wb _ rfl).trans ((rd_wb _ rfl).trans ((rd_wb _ rfl).trans ((rd_wb _ rfl).trans ((rd_wb _ rfl).trans ((rd_wb _ rfl).trans ((rd_wb _ rfl).trans (rd_ws _ _ _ _))))))))))))))))))))))))))))))))))))))))))))))))))))))))))))))))))))))))))))))))))))))))))))))))))) ?_
      refine Tr.if_ne (pc := 199) (tgt := 214) d_X12_run_199 rfl (fun hc => absurd (by decide) hc) (fun _ => ?_)
      refine Tr.iload_n (pc := 202) (i := 3) d_X12_run_202 rfl rfl ?_
      refine Tr.aload_n (pc := 203) (i := 0) d_X12_run_203 rfl rfl ?_
      refine Tr.getf (pc := 204) d_X12_run_204 f_12_195 (by decide) (by decide) (ty_120 hF) ?_
      refine Tr.tp (-1) ((rd_wb _ rfl).trans ((rd_wb _ rfl).trans ((rd_wb _ rfl).trans ((rd_wb _ rfl).trans ((rd_wb _ rfl).trans ((rd_wb _ rfl).trans ((rd_wb _ rfl).trans ((rd_wb _ rfl).trans ((rd_wb _ rfl).trans ((rd_wb _ rfl).trans ((rd_wb _ rfl).trans ((rd_wb _ rfl).trans ((rd_wb _ rfl).trans ((rd_wb _ rfl).trans ((rd_wb _ rfl).trans ((rd_wb _ rfl).trans ((rd_wb _ rfl).trans ((rd_wb _ rfl).trans ((rd_wb _ rfl).trans ((rd_wb _ rfl).trans ((rd_wb _ rfl).trans ((rd_wb _ rfl).trans ((rd_wb _ rfl).trans ((rd_wb _ rfl).trans ((rd_wb _ rfl).trans ((rd_wb _ rfl).trans ((rd_wb _ rfl).trans ((rd_wb _ rfl).trans ((rd_wb _ rfl).trans ((rd_wb _ rfl).trans ((rd_wb _ rfl).trans ((rd_wb _ rfl).trans ((rd_wb _ rfl).trans ((rd_wb _ rfl).trans ((rd_wb _ rfl).trans ((rd_wb _ rfl).trans ((rd_wb _ rfl).trans ((rd_wb _ rfl).trans ((rd_wb _ rfl).trans ((rd_wb _ rfl).trans ((rd_wb _ rfl).trans ((rd_wb _ rfl).trans ((rd_wb _ rfl).trans ((rd_wb _ rfl).trans (rd_ws _ _ _ _))))))))))))))))))))))))))))))))))))))))))))) ?_
      refine Tr.icmp_eq (pc := 207) (tgt := 214) d_X12_run_207 rfl (fun hc => absurd hc (by decide)) (fun _ => ?_)
      refine Tr.iconst (pc := 210) d_X12_run_210 (by decide) ?_
      refine Tr.goto (pc := 211) (tgt := 215) d_X12_run_211 rfl ?_
      refine Tr.zastX (pc := 215) d_X12_run_215 (ty_175 hF) (by decide) (by decide) (by decide) hF (by decide +kernel) (fun hF => ?_)
      refine Tr.iinc (pc := 216) (ls2 := [(3, (0, 3)), (2, (0, 0)), (0, (2, 120)), (1, (0, _))]) d_X12_run_216 rfl (by decide) rfl ?_
      refine Tr.goto (pc := 219) (tgt := 173) d_X12_run_219 rfl ?_
      refine Tr.iload_n (pc := 173) (i := 3) d_X12_run_173 rfl rfl ?_
      refine Tr.bipush (pc := 174) d_X12_run_174 rfl (by decide) ?_
      refine Tr.icmp_ge (pc := 176) (tgt := 222) d_X12_run_176 rfl (fun hc => absurd hc (by decide)) (fun _ => ?_)
      refine Tr.aload_n (pc := 179) (i := 0) d_X12_run_179 rfl rfl ?_
      refine Tr.getf (pc := 180) d_X12_run_180 f_12_297 (by decide) (by decide) (ty_120 hF) ?_
      refine Tr.tp 175 (fx_120_94 hF) ?_
      refine Tr.iload_n (pc := 183) (i := 3) d_X12_run_183 rfl rfl ?_
      refine Tr.aload_n (pc := 184) (i := 0) d_X12_run_184 rfl rfl ?_
      refine Tr.getf (pc := 185) d_X12_run_185 f_12_177 (by decide) (by decide) (ty_120 hF) ?_
      refine Tr.tp 156 (fx_120_54 hF) ?_
      refine Tr.iload_n (pc := 188) (i := 3) d_X12_run_188 rfl rfl ?_
      refine Tr.zald (pc := 189) d_X12_run_189 (ty_156 hF) (by decide) (by decide) ?_
      refine Tr.tp 0 ((rd_wb _ rfl).trans ((rd_wb _ rfl).trans ((rd_wb _ rfl).trans ((rd_wb _ rfl).trans ((rd_wb _ rfl).trans ((rd_wb _ rfl).trans ((rd_wb _ rfl).trans ((rd_wb _ rfl).trans ((rd_wb _ rfl).trans ((rd_wb _ rfl).trans ((rd_wb _ rfl).trans ((rd_wb _ rfl).trans ((rd_wb _ rfl).trans ((rd_wb _ rfl).trans ((rd_wb _ rfl).trans ((rd_wb _ rfl).trans ((rd_wb _ rfl).trans ((rd_wb _ rfl).trans ((rd_wb _ rfl).trans ((rd_wb _ rfl).trans ((rd_wb _ rfl).trans ((rd_wb _ rfl).trans ((rd_wb _ rfl).trans ((rd_wb _ rfl).trans ((rd_wb _ rfl).trans ((rd_wb _ rfl).trans ((rd_wb _ rfl).trans ((rd_wb _ rfl).trans ((rd_wb _ rfl).trans ((rd_wb _ rfl).trans ((rd_wb _ rfl).trans ((rd_wb _ rfl).trans ((rd_wb _ rfl).trans ((rd_wb _ rfl).trans ((rd_wb _ rfl).trans ((rd_wb _ rfl).trans ((rd_wb _ rfl).trans ((rd_wb _ rfl).trans ((rd_wb _ rfl).trans ((rd_wb _ rfl).trans ((rd_wb _ rfl).trans ((rd_wb _ rfl).trans ((rd_wb _ rfl).trans ((rd_wb _ rfl).trans ((rd_wb _ rfl).trans ((rd_wb _ rfl).trans ((rd_wb _ rfl).trans ((rd_wb _ rfl).trans ((rd_wb _ rfl).trans ((rd_wb _ rfl).trans ((rd_wb _ rfl).trans ((rd_wb _ rfl).trans ((rd_wb _ rfl).trans ((rd_wb _ rfl).trans ((rd_wb _ rfl).trans ((rd_wb _ rfl).trans ((rd_wb _ rfl).trans ((rd_wb _ rfl).trans ((rd_wb _ rfl).trans ((rd_wb _ rfl).trans ((rd_wb _ rfl).trans ((rd_wb _ rfl).trans ((rd_wb _ rfl).trans ((rd_wb _ rfl).trans ((rd_wb _ rfl).trans ((rd_wb _ rfl).trans ((rd_wb _ rfl).trans ((rd_wb _ rfl).trans ((rd_wb _ rfl).trans ((rd_wb _ rfl).trans ((rd_wb _ rfl).trans ((rd_wb _ rfl).trans ((rd_wb _ rfl).trans ((rd_wb _ rfl).trans ((rd_wb _ rfl).trans ((rd_wb _ rfl).trans ((rd_wb _ rfl).trans ((rd_wb _ rfl).trans ((rd_wb _ rfl).trans ((rd_wb _ rfl).trans ((rd_wb _ rfl).trans ((rd_wb _ rfl).trans ((rd_wb _ rfl).trans ((rd_wb _ rfl).trans ((rd_wb _ rfl).trans ((rd_wb _ rfl).trans ((rd_wb _ rfl).trans ((rd_wb _ rfl).trans ((rd_wb _ rfl).trans ((rd_wb _ rfl).trans ((rd_wb _ rfl).trans ((rd_wb _ rfl).trans ((rd_wb _ rfl).trans ((rd_wb _ rfl).trans ((rd_wb _ rfl).trans ((rd_wb _ rfl).trans ((rd_wb _ rfl).trans (rd_ws _ _ _ _)))))))))))))))))))))))))))))))))))))))))))))))))))))))))))))))))))))))))))))))))))))))))))))))))) ?_
      refine Tr.if_ne (pc := 190) (tgt := 214) d_X12_run_190 rfl (fun hc => absurd (by decide) hc) (fun _ => ?_)
      refine Tr.aload_n (pc := 193) (i := 0) d_X12_run_193 rfl rfl ?_
      refine Tr.getf (pc := 194) d_X12_run_194 f_12_183 (by decide) (by decide) (ty_120 hF) ?_
      refine Tr.tp 158 (fx_120_56 hF) ?_
      refine Tr.iload_n (pc := 197) (i := 3) d_X12_run_197 rfl rfl ?_
      refine Tr.iald (pc := 198) d_X12_run_198 (ty_158 hF) (by decide) (by decide) ?_
      refine Tr.tp 0 ((rd_wb _ rfl).trans ((rd_wb _ rfl).trans ((rd_wb _ rfl).trans ((rd_wb _ rfl).trans ((rd_wb _ rfl).trans ((rd_wb _ rfl).trans ((rd_wb _ rfl).trans ((rd_wb _ rfl).trans ((rd_wb _ rfl).trans ((rd_wb _ rfl).trans ((rd_wb _ rfl).trans ((rd_wb _ rfl).trans ((rd_wb _ rfl).trans ((rd_wb _ rfl).trans ((rd_wb _ rfl).trans ((rd_wb _ rfl).trans ((rd_wb _ rfl).trans ((rd_wb _ rfl).trans ((rd_wb _ rfl).trans ((rd_wb _ rfl).trans ((rd_wb _ rfl).trans ((rd_wb _ rfl).trans ((rd_wb _ rfl).trans ((rd_wb _ rfl).trans ((rd_wb _ rfl).trans ((rd_wb _ rfl).trans ((rd_wb _ rfl).trans ((rd_wb _ rfl).trans ((rd_wb _ rfl).trans ((rd_wb _ rfl).trans ((rd_wb _ rfl).trans ((rd_wb _ rfl).trans ((rd_wb _ rfl).trans ((rd_wb _ rfl).trans ((rd_wb _ rfl).trans ((rd_wb _ rfl).trans ((rd_wb _ rfl).trans ((rd_wb _ rfl).trans ((rd_wb _ rfl).trans ((rd_wb _ rfl).trans ((rd_wb _ rfl).trans ((rd_wb _ rfl).trans ((rd_wb _ rfl).trans ((rd_wb _ rfl).trans ((rd_wb _ rfl).trans ((rd_wb _ rfl).trans ((rd_wb _ rfl).trans ((rd_wb _ rfl).trans ((rd_wb _ rfl).trans ((rd_wb _ rfl).trans ((rd_wb _ rfl).trans ((rd_wb _ rfl).trans ((rd_wb _ rfl).trans ((rd_wb _ rfl).trans ((rd_wb _ rfl).trans ((rd_wb _ rfl).trans ((rd_wb _ rfl).trans ((rd_wb _ rfl).trans ((rd_wb _ rfl).trans ((rd_wb _ rfl).trans ((rd_wb _ rfl).trans ((rd_wb _ rfl).trans ((rd_wb _ rfl).trans ((rd_wb _ rfl).trans ((rd_wb _ rfl).trans ((rd_wb _ rfl).trans ((rd_wb _ rfl).trans ((rd_wb _ rfl).trans ((rd_wb _ rfl).trans ((rd_wb _ rfl).trans ((rd_wb _ rfl).trans ((rd_wb _ rfl).trans ((rd_wb _ rfl).trans ((rd_wb _ rfl).trans ((rd_wb _ rfl).trans ((rd_wb _ rfl).trans ((rd_wb _ rfl).trans ((rd_wb _ rfl).trans ((rd_wb _ rfl).trans ((rd_wb _ rfl).trans ((rd_wb _ rfl).trans ((rd_wb _ rfl).trans ((rd_wb _ rfl).trans ((rd_wb _ rfl).trans ((rd_wb _ rfl).trans ((rd_wb _ rfl).trans ((rd_wb _ rfl).trans ((rd_wb _ rfl).trans ((rd_wb _ rfl).trans ((rd_wb _ rfl).trans ((rd_wb _ rfl).trans ((rd_wb _ rfl).trans ((rd_wb _ rfl).trans ((rd_wb _ rfl).trans ((rd_wb _ rfl).trans (rd_ws _ _ _ _)))))))))))))))))))))))))))))))))))))))))))))))))))))))))))))))))))))))))))))))))))))))))))))))) ?_
      refine Tr.if_ne (pc := 199) (tgt := 214) d_X12_run_199 rfl (fun hc => absurd (by decide) hc) (fun _ => ?_)
      refine Tr.iload_n (pc := 202) (i := 3) d_X12_run_202 rfl rfl ?_
      refine Tr.aload_n (pc := 203) (i := 0) d_X12_run_203 rfl rfl ?_
      refine Tr.getf (pc := 204) d_X12_run_204 f_12_195 (by decide) (by decide) (ty_120 hF) ?_
      refine Tr.tp (-1) ((rd_wb _ rfl).trans ((rd_wb _ rfl).trans ((rd_wb _ rfl).trans ((rd_wb _ rfl).trans ((rd_wb _ rfl).trans ((rd_wb _ rfl).trans ((rd_wb _ rfl).trans ((rd_wb _ rfl).trans ((rd_wb _ rfl).trans ((rd_wb _ rfl).trans ((rd_wb _ rfl).trans ((rd_wb _ rfl).trans ((rd_wb _ rfl).trans ((rd_wb _ rfl).trans ((rd_wb _ rfl).trans ((rd_wb _ rfl).trans ((rd_wb _ rfl).trans ((rd_wb _ rfl).trans ((rd_wb _ rfl).trans ((rd_wb _ rfl).trans ((rd_wb _ rfl).trans ((rd_wb _ rfl).trans ((rd_wb _ rfl).trans ((rd_wb _ rfl).trans ((rd_wb _ rfl).trans ((rd_wb _ rfl).trans ((rd_wb _ rfl).trans ((rd_wb _ rfl).trans ((rd_wb _ rfl).trans ((rd_wb _ rfl).trans ((rd_wb _ rfl).trans ((rd_wb _ rfl).trans ((rd_wb _ rfl).trans ((rd_wb _ rfl).trans ((rd_wb _ rfl).trans ((rd_wb _ rfl).trans ((rd_wb _ rfl).trans ((rd_wb _ rfl).trans ((rd_wb _ rfl).trans ((rd_wb _ rfl).trans ((rd_wb _ rfl).trans ((rd_wb _ rfl).trans ((rd_wb _ rfl).trans ((rd_wb _ rfl).trans ((rd_wb _ rfl).trans (rd_ws _ _ _ _)))))))))))))))))))))))))))))))))))))))))))))) ?_
      refine Tr.icmp_eq (pc := 207) (tgt := 214) d_X12_run_207 rfl (fun hc => absurd hc (by decide)) (fun _ => ?_)
      refine Tr.iconst (pc := 210) d_X12_run_210 (by decide) ?_
      refine Tr.goto (pc := 211) (tgt := 215) d_X12_run_211 rfl ?_
      refine Tr.zastX (pc := 215) d_X12_run_215 (ty_175 hF) (by decide) (by decide) (by decide) hF (by decide +kernel) (fun hF => ?_)
      refine Tr.iinc (pc := 216) (ls2 := [(3, (0, 4)), (2, (0, 0)), (0, (2, 120)), (1, (0, _))]) d_X12_run_216 rfl (by decide) rfl ?_
      refine Tr.goto (pc := 219) (tgt := 173) d_X12_run_219 rfl ?_
      refine Tr.iload_n (pc := 173) (i := 3) d_X12_run_173 rfl rfl ?_
      refine Tr.bipush (pc := 174) d_X12_run_174 rfl (by decide) ?_
      refine Tr.icmp_ge (pc := 176) (tgt := 222) d_X12_run_176 rfl (fun hc => absurd hc (by decide)) (fun _ => ?_)
      refine Tr.aload_n (pc := 179) (i := 0) d_X12_run_179 rfl rfl ?_
      refine Tr.getf (pc := 180) d_X12_run_180 f_12_297 (by decide) (by decide) (ty_120 hF) ?_
      refine Tr.tp 175 (fx_120_94 hF) ?_
      refine Tr.iload_n (pc := 183) (i := 3) d_X12_run_183 rfl rfl ?_
      refine Tr.aload_n (pc := 184) (i := 0) d_X12_run_184 rfl rfl ?_
      refine Tr.getf (pc := 185) d_X12_run_185 f_12_177 (by decide) (by decide) (ty_120 hF) ?_
      refine Tr.tp 156 (fx_120_54 hF) ?_
      refine Tr.iload_n (pc := 188) (i := 3) d_X12_run_188 rfl rfl ?_
      refine Tr.zald (pc := 189) d_X12_run_189 (ty_156 hF) (by decide) (by decide) ?_
      refine Tr.tp 0 ((rd_wb _ rfl).trans ((rd_wb _ rfl).trans ((rd_wb _ rfl).trans ((rd_wb _ rfl).trans ((rd_wb _ rfl).trans ((rd_wb _ rfl).trans ((rd_wb _ rfl).trans ((rd_wb _ rfl).trans ((rd_wb _ rfl).trans ((rd_wb _ rfl).trans ((rd_wb _ rfl).trans ((rd_wb _ rfl).trans ((rd_wb _ rfl).trans ((rd_wb _ rfl).trans ((rd_wb _ rfl).trans ((rd_wb _ rfl).trans ((rd_wb _ rfl).trans ((rd_wb _ rfl).trans ((rd_wb _ rfl).trans ((rd_wb _ rfl).trans ((rd_wb _ rfl).trans ((rd_wb _ rfl).trans ((rd_wb _ rfl).trans ((rd_wb _ rfl).trans ((rd_wb _ rfl).trans ((rd_wb _ rfl).trans ((rd_wb _ rfl).trans ((rd_wb _ rfl).trans ((rd_wb _ rfl).trans ((rd_wb _ rfl).trans ((rd_wb _ rfl).trans ((rd_wb _ rfl).trans ((rd_wb _ rfl).trans ((rd_wb _ rfl).trans ((rd_wb _ rfl).trans ((rd_wb _ rfl).trans ((rd_wb _ rfl).trans ((rd_wb _ rfl).trans ((rd_wb _ rfl).trans ((rd_wb _ rfl).trans ((rd_wb _ rfl).trans ((rd_wb _ rfl).trans ((rd_wb _ rfl).trans ((rd_wb _ rfl).trans ((rd_wb _ rfl).trans ((rd_wb _ rfl).trans ((rd_wb _ rfl).trans ((rd_wb _ rfl).trans ((rd_wb _ rfl).trans ((rd_wb _ rfl).trans ((rd_wb _ rfl).trans ((rd_wb _ rfl).trans ((rd_wb _ rfl).trans ((rd_wb _ rfl).trans ((rd_wb _ rfl).trans ((rd_wb _ rfl).trans ((rd_wb _ rfl).trans ((rd_wb _ rfl).trans ((rd_wb _ rfl).trans ((rd_wb _ rfl).trans ((rd_wb _ rfl).trans ((rd_wb _ rfl).trans ((rd_wb _ rfl).trans ((rd_wb _ rfl).trans ((rd_wb _ rfl).trans ((rd_wb _ rfl).trans ((rd_wb _ rfl).trans ((rd_wb _ rfl).trans ((rd_wb _ rfl).trans ((rd_wb _ rfl).trans ((rd_wb _ rfl).trans ((rd_wb _ rfl).trans ((rd_wb _ rfl).trans ((rd_wb _ rfl).trans ((rd_wb _ rfl).trans ((rd_wb _ rfl).trans ((rd_wb _ rfl).trans ((rd_wb _ rfl).trans ((rd_wb _ rfl).trans ((rd_wb _ rfl).trans ((rd_wb _ rfl).trans ((rd_wb _ rfl).trans ((rd_wb _ rfl).trans ((rd_wb _ rfl).trans ((rd_wb _ rfl).trans ((rd_wb _ rfl).trans ((rd_wb _ rfl).trans ((rd_wb _ rfl).trans ((rd_wb _ rfl).trans ((rd_wb _ rfl).trans ((rd_wb _ rfl).trans ((rd_wb _ rfl).trans ((rd_wb _ rfl).trans ((rd_wb _ rfl).trans (rd_ws _ _ _ _))))))))))))))))))))))))))))))))))))))))))))))))))))))))))))))))))))))))))))))))))))))))))))))) ?_
      refine Tr.if_ne (pc := 190) (tgt := 214) d_X12_run_190 rfl (fun hc => absurd (by decide) hc) (fun _ => ?_)
      refine Tr.aload_n (pc := 193) (i := 0) d_X12_run_193 rfl rfl ?_
      refine Tr.getf (pc := 194) d_X12_run_194 f_12_183 (by decide) (by decide) (ty_120 hF) ?_
      refine Tr.tp 158 (fx_120_56 hF) ?_
      refine Tr.iload_n (pc := 197) (i := 3) d_X12_run_197 rfl rfl ?_
      refine Tr.iald (pc := 198) d_X12_run_198 (ty_158 hF) (by decide) (by decide) ?_
      refine Tr.tp 0 ((rd_wb _ rfl).trans ((rd_wb _ rfl).trans ((rd_wb _ rfl).trans ((rd_wb _ rfl).trans ((rd_wb _ rfl).trans ((rd_wb _ rfl).trans ((rd_wb _ rfl).trans ((rd_wb _ rfl).trans ((rd_wb _ rfl).trans ((rd_wb _ rfl).trans ((rd_wb _ rfl).trans ((rd_wb _ rfl).trans ((rd_wb _ rfl).trans ((rd_wb _ rfl).trans ((rd_wb _ rfl).trans ((rd_wb _ rfl).trans ((rd_wb _ rfl).trans ((rd_wb _ rfl).trans ((rd_wb _ rfl).trans ((rd_wb _ rfl).trans ((rd_wb _ rfl).trans ((rd_wb _ rfl).trans ((rd_wb _ rfl).trans ((rd_wb _ rfl).trans ((rd_wb _ rfl).trans ((rd_wb _ rfl).trans ((rd_wb _ rfl).trans ((rd_wb _ rfl).trans ((rd_wb _ rfl).trans ((rd_wb _ rfl).trans ((rd_wb _ rfl).trans ((rd_wb _ rfl).trans ((rd_wb _ rfl).trans ((rd_wb _ rfl).trans ((rd_wb _ rfl).trans ((rd_wb _ rfl).trans ((rd_wb _ rfl).trans ((rd_wb _ rfl).trans ((rd_wb _ rfl).trans ((rd_wb _ rfl).trans ((rd_wb _ rfl).trans ((rd_wb _ rfl).trans ((rd_wb _ rfl).trans ((rd_wb _ rfl).trans ((rd_wb _ rfl).trans ((rd_wb _ rfl).trans ((rd_wb _ rfl).trans ((rd_wb _ rfl).trans ((rd_wb _ rfl).trans ((rd_wb _ rfl).trans ((rd_wb _ rfl).trans ((rd_wb _ rfl).trans ((rd_wb _ rfl).trans ((rd_wb _ rfl).trans ((rd_wb _ rfl).trans ((rd_wb _ rfl).trans ((rd_wb _ rfl).trans ((rd_wb _ rfl).trans ((rd_wb _ rfl).trans ((rd_wb _ rfl).trans ((rd_wb _ rfl).trans ((rd_wb _ rfl).trans ((rd_wb _ rfl).trans ((rd_wb _ rfl).trans ((rd_wb _ rfl).trans ((rd_wb _ rfl).trans ((rd_wb _ rfl).trans ((rd_wb _ rfl).trans ((rd_wb _ rfl).trans ((rd_wb _ rfl).trans ((rd_wb _ rfl).trans ((rd_wb _ rfl).trans ((rd_wb _ rfl).trans ((rd_wb _ rfl).trans ((rd_wb _ rfl).trans ((rd_wb _ rfl).trans ((rd_wb _ rfl).trans ((rd_wb _ rfl).trans ((rd_wb _ rfl).trans ((rd_wb _ rfl).trans ((rd_wb _ rfl).trans ((rd_wb _ rfl).trans ((rd_wb _ rfl).trans ((rd_wb _ rfl).trans ((rd_wb _ rfl).trans ((rd_wb _ rfl).trans ((rd_wb _ rfl).trans ((rd_wb _ rfl).trans ((rd_wb _ rfl).trans ((rd_wb _ rfl).trans ((rd_wb _ rfl).trans ((rd_wb _ rfl).trans (rd_ws _ _ _ _))))))))))))))))))))))))))))))))))))))))))))))))))))))))))))))))))))))))))))))))))))))))))))) ?_
      refine Tr.if_ne (pc := 199) (tgt := 214) d_X12_run_199 rfl (fun hc => absurd (by decide) hc) (fun _ => ?_)
      refine Tr.iload_n (pc := 202) (i := 3) d_X12_run_202 rfl rfl ?_
      refine Tr.aload_n (pc := 203) (i := 0) d_X12_run_203 rfl rfl ?_
      refine Tr.getf (pc := 204) d_X12_run_204 f_12_195 (by decide) (by decide) (ty_120 hF) ?_
      refine Tr.tp (-1) ((rd_wb _ rfl).trans ((rd_wb _ rfl).trans ((rd_wb _ rfl).trans ((rd_wb _ rfl).trans ((rd_wb _ rfl).trans ((rd_wb _ rfl).trans ((rd_wb _ rfl).trans ((rd_wb _ rfl).trans ((rd_wb _ rfl).trans ((rd_wb _ rfl).trans ((rd_wb _ rfl).trans ((rd_wb _ rfl).trans ((rd_wb _ rfl).trans ((rd_wb _ rfl).trans ((rd_wb _ rfl).trans ((rd_wb _ rfl).trans ((rd_wb _ rfl).trans ((rd_wb _ rfl).trans ((rd_wb _ rfl).trans ((rd_wb _ rfl).trans ((rd_wb _ rfl).trans ((rd_wb _ rfl).trans ((rd_wb _ rfl).trans ((rd_wb _ rfl).trans ((rd_wb _ rfl).trans ((rd_wb _ rfl).trans ((rd_wb _ rfl).trans ((rd_wb _ rfl).trans ((rd_wb _ rfl).trans ((rd_wb _ rfl).trans ((rd_wb _ rfl).trans ((rd_wb _ rfl).trans ((rd_wb _ rfl).trans ((rd_wb _ rfl).trans ((rd_wb _ rfl).trans ((rd_wb _ rfl).trans ((rd_wb _ rfl).trans ((rd_wb _ rfl).trans ((rd_wb _ rfl).trans ((rd_wb _ rfl).trans ((rd_wb _ rfl).trans ((rd_wb _ rfl).trans ((rd_wb _ rfl).trans ((rd_wb _ rfl).trans ((rd_wb _ rfl).trans ((rd_wb _ rfl).trans (rd_ws _ _ _ _))))))))))))))))))))))))))))))))))))))))))))))) ?_
      refine Tr.icmp_eq (pc := 207) (tgt := 214) d_X12_run_207 rfl (fun hc => absurd hc (by decide)) (fun _ => ?_)
      refine Tr.iconst (pc := 210) d_X12_run_210 (by decide) ?_
      refine Tr.goto (pc := 211) (tgt := 215) d_X12_run_211 rfl ?_
      refine Tr.zastX (pc := 215) d_X12_run_215 (ty_175 hF) (by decide) (by decide) (by decide) hF (by decide +kernel) (fun hF => ?_)
      refine Tr.iinc (pc := 216) (ls2 := [(3, (0, 5)), (2, (0, 0)), (0, (2, 120)), (1, (0, _))]) d_X12_run_216 rfl (by decide) rfl ?_
      refine Tr.goto (pc := 219) (tgt := 173) d_X12_run_219 rfl ?_
      refine Tr.iload_n (pc := 173) (i := 3) d_X12_run_173 rfl rfl ?_
      refine Tr.bipush (pc := 174) d_X12_run_174 rfl (by decide) ?_
      refine Tr.icmp_ge (pc := 176) (tgt := 222) d_X12_run_176 rfl (fun hc => absurd hc (by decide)) (fun _ => ?_)
      refine Tr.aload_n (pc := 179) (i := 0) d_X12_run_179 rfl rfl ?_
      refine Tr.getf (pc := 180) d_X12_run_180 f_12_297 (by decide) (by decide) (ty_120 hF) ?_
      refine Tr.tp 175 (fx_120_94 hF) ?_
      refine Tr.iload_n (pc := 183) (i := 3) d_X12_run_183 rfl rfl ?_
      refine Tr.aload_n (pc := 184) (i := 0) d_X12_run_184 rfl rfl ?_
      refine Tr.getf (pc := 185) d_X12_run_185 f_12_177 (by decide) (by decide) (ty_120 hF) ?_
      refine Tr.tp 156 (fx_120_54 hF) ?_
      refine Tr.iload_n (pc := 188) (i := 3) d_X12_run_188 rfl rfl ?_
      refine Tr.zald (pc := 189) d_X12_run_189 (ty_156 hF) (by decide) (by decide) ?_
      refine Tr.tp 0 ((rd_wb _ rfl).trans ((rd_wb _ rfl).trans ((rd_wb _ rfl).trans ((rd_wb _ rfl).trans ((rd_wb _ rfl).trans ((rd_wb _ rfl).trans ((rd_wb _ rfl).trans ((rd_wb _ rfl).trans ((rd_wb _ rfl).trans ((rd_wb _ rfl).trans ((rd_wb _ rfl).trans ((rd_wb _ rfl).trans ((rd_wb _ rfl).trans ((rd_wb _ rfl).trans ((rd_wb _ rfl).trans ((rd_wb _ rfl).trans ((rd_wb _ rfl).trans ((rd_wb _ rfl).trans ((rd_wb _ rfl).trans ((rd_wb _ rfl).trans ((rd_wb _ rfl).trans ((rd_wb _ rfl).trans ((rd_wb _ rfl).trans ((rd_wb _ rfl).trans ((rd_wb _ rfl).trans ((rd_wb _ rfl).trans ((rd_wb _ rfl).trans ((rd_wb _ rfl).trans ((rd_wb _ rfl).trans ((rd_wb _ rfl).trans ((rd_wb _ rfl).trans ((rd_wb _ rfl).trans ((rd_wb _ rfl).trans ((rd_wb _ rfl).trans ((rd_wb _ rfl).trans ((rd_wb _ rfl).trans ((rd_wb _ rfl).trans ((rd_wb _ rfl).trans ((rd_wb _ rfl).trans ((rd_wb _ rfl).trans ((rd_wb _ rfl).trans ((rd_wb _ rfl).trans ((rd_wb _ rfl).trans ((rd_wb _ rfl).trans ((rd_wb _ rfl).trans ((rd_wb _ rfl).trans ((rd_wb _ rfl).trans ((rd_wb _ rfl).trans ((rd_wb _ rfl).trans ((rd_wb _ rfl).trans ((rd_wb _ rfl).trans ((rd_wb _ rfl).trans ((rd_wb _ rfl).trans ((rd_wb _ rfl).trans ((rd_wb _ rfl).trans ((rd_wb _ rfl).trans ((rd_wb _ rfl).trans ((rd_wb _ rfl).trans ((rd_wb _ rfl).trans ((rd_wb _ rfl).trans ((rd_wb _ rfl).trans ((rd_wb _ rfl).trans ((rd_wb _ rfl).trans ((rd_wb _ rfl).trans ((rd_wb _ rfl).trans ((rd_wb _ rfl).trans ((rd_wb _ rfl).trans ((rd_wb _ rfl).trans ((rd_wb _ rfl).trans ((rd_wb _ rfl).trans ((rd_wb _ rfl).trans ((rd_wb _ rfl).trans ((rd_wb _ rfl).trans ((rd_wb _ rfl).trans ((rd_wb _ rfl).trans ((rd_wb _ rfl).trans ((rd_wb _ rfl).trans ((rd_wb _ rfl).trans ((rd_wb _ rfl).trans ((rd_wb _ rfl).trans ((rd_wb _ rfl).trans ((rd_wb _ rfl).trans ((rd_wb _ rfl).trans ((rd_wb _ rfl).trans ((rd_wb _ rfl).trans ((rd_wb _ rfl).trans ((rd_wb _ rfl).trans ((rd_wb _ rfl).trans ((rd_wb _ rfl).trans ((rd_wb _ rfl).trans ((rd_wb _ rfl).trans (rd_ws _ _ _ _)))))))))))))))))))))))))))))))))))))))))))))))))))))))))))))))))))))))))))))))))))))))))))) ?_
      refine Tr.if_ne (pc := 190) (tgt := 214) d_X12_run_190 rfl (fun hc => absurd (by decide) hc) (fun _ => ?_)
      refine Tr.aload_n (pc := 193) (i := 0) d_X12_run_193 rfl rfl ?_
      refine Tr.getf (pc := 194) d_X12_run_194 f_12_183 (by decide) (by decide) (ty_120 hF) ?_
      refine Tr.tp 158 (fx_120_56 hF) ?_
      refine Tr.iload_n (pc := 197) (i := 3) d_X12_run_197 rfl rfl ?_
      refine Tr.iald (pc := 198) d_X12_run_198 (ty_158 hF) (by decide) (by decide) ?_
      refine Tr.tp 0 ((rd_wb _ rfl).trans ((rd_wb _ rfl).trans ((rd_wb _ rfl).trans ((rd_wb _ rfl).trans ((rd_wb _ rfl).trans ((rd_wb _ rfl).trans ((rd_wb _ rfl).trans ((rd_wb _ rfl).trans ((rd_wb _ rfl).trans ((rd_wb _ rfl).trans ((rd_wb _ rfl).trans ((rd_wb _ rfl).trans ((rd_wb _ rfl).trans ((rd_wb _ rfl).trans ((rd_wb _ rfl).trans ((rd_wb _ rfl).trans ((rd_wb _ rfl).trans ((rd_wb _ rfl).trans ((rd_wb _ rfl).trans ((rd_wb _ rfl).trans ((rd_wb _ rfl).trans ((rd_wb _ rfl).trans ((rd_wb _ rfl).trans ((rd_wb _ rfl).trans ((rd_wb _ rfl).trans ((rd_wb _ rfl).trans ((rd_wb _ rfl).trans ((rd_wb _ rfl).trans ((rd_wb _ rfl).trans ((rd_wb _ rfl).trans ((rd_wb _ rfl).trans ((rd_wb _ rfl).trans ((rd_wb _ rfl).trans ((rd_wb _ rfl).trans ((rd_wb _ rfl).trans ((rd_wb _ rfl).trans ((rd_wb _ rfl).trans ((rd_wb _ rfl).trans ((rd_wb _ rfl).trans ((rd_wb _ rfl).trans ((rd_wb _ rfl).trans ((rd_wb _ rfl).trans ((rd_wb _ rfl).trans ((rd_wb _ rfl).trans ((rd_wb _ rfl).trans ((rd_wb _ rfl).trans ((rd_wb _ rfl).trans ((rd_wb _ rfl).trans ((rd_wb _ rfl).trans ((rd_wb _ rfl).trans ((rd_wb _ rfl).trans ((rd_wb _ rfl).trans ((rd_wb _ rfl).trans ((rd_wb _ rfl).trans ((rd_wb _ rfl).trans ((rd_wb _ rfl).trans ((rd_wb _ rfl).trans ((rd_wb _ rfl).trans ((rd_wb _ rfl).trans ((rd_wb _ rfl).trans ((rd_wb _ rfl).trans ((rd_wb _ rfl).trans ((rd_wb _ rfl).trans ((rd_wb _ rfl).trans ((rd_wb _ rfl).trans ((rd_wb _ rfl).trans ((rd_wb _ rfl).trans ((rd_wb _ rfl).trans ((rd_wb _ rfl).trans ((rd_wb _ rfl).trans ((rd_wb _ rfl).trans ((rd_wb _ rfl).trans ((rd_wb _ rfl).trans ((rd_wb _ rfl).trans ((rd_wb _ rfl).trans ((rd_wb _ rfl).trans ((rd_wb _ rfl).trans ((rd_wb _ rfl).trans ((rd_wb _ rfl).trans ((rd_wb _ rfl).trans ((rd_wb _ rfl).trans ((rd_wb _ rfl).trans ((rd_wb _ rfl).trans ((rd_wb _ rfl).trans ((rd_wb _ rfl).trans ((rd_wb _ rfl).trans ((rd_wb _ rfl).trans ((rd_wb _ rfl).trans ((rd_wb _ rfl).trans (rd_ws _ _ _ _)))))))))))))))))))))))))))))))))))))))))))))))))))))))))))))))))))))))))))))))))))))))))) ?_
      refine Tr.if_ne (pc := 199) (tgt := 214) d_X12_run_199 rfl (fun hc => absurd (by decide) hc) (fun _ => ?_)
      refine Tr.iload_n (pc := 202) (i := 3) d_X12_run_202 rfl rfl ?_
      refine Tr.aload_n (pc := 203) (i := 0) d_X12_run_203 rfl rfl ?_
      refine Tr.getf (pc := 204) d_X12_run_204 f_12_195 (by decide) (by decide) (ty_120 hF) ?_
      refine Tr.tp (-1) ((rd_wb _ rfl).trans ((rd_wb _ rfl).trans ((rd_wb _ rfl).trans ((rd_wb _ rfl).trans ((rd_wb _ rfl).trans ((rd_wb _ rfl).trans ((rd_wb _ rfl).trans ((rd_wb _ rfl).trans ((rd_wb _ rfl).trans ((rd_wb _ rfl).trans ((rd_wb _ rfl).trans ((rd_wb _ rfl).trans ((rd_wb _ rfl).trans ((rd_wb _ rfl).trans ((rd_wb _ rfl).trans ((rd_wb _ rfl).trans ((rd_wb _ rfl).trans ((rd_wb _ rfl).trans ((rd_wb _ rfl).trans ((rd_wb _ rfl).trans ((rd_wb _ rfl).trans ((rd_wb _ rfl).trans ((rd_wb _ rfl).trans ((rd_wb _ rfl).trans ((rd_wb _ rfl).trans ((rd_wb _ rfl).trans ((rd_wb _ rfl).trans ((rd_wb _ rfl).trans ((rd_wb _ rfl).trans ((rd_wb _ rfl).trans ((rd_wb _ rfl).trans ((rd_wb _ rfl).trans ((rd_wb _ rfl).trans ((rd_wb _ rfl).trans ((rd_wb _ rfl).trans ((rd_wb _ rfl).trans ((rd_wb _ rfl).trans ((rd_wb _ rfl).trans ((rd_wb _ rfl).trans ((rd_wb _ rfl).trans ((rd_wb _ rfl).trans ((rd_wb _ rfl).trans ((rd_wb _ rfl).trans ((rd_wb _ rfl).trans ((rd_wb _ rfl).trans ((rd_wb _ rfl).trans ((rd_wb _ rfl).trans (rd_ws _ _ _ _)))))))))))))))))))))))))))))))))))))))))))))))) ?_
      refine Tr.icmp_eq (pc := 207) (tgt := 214) d_X12_run_207 rfl (fun hc => absurd hc (by decide)) (fun _ => ?_)
      refine Tr.iconst (pc := 210) d_X12_run_210 (by decide) ?_
      refine Tr.goto (pc := 211) (tgt := 215) d_X12_run_211 rfl ?_
      refine Tr.zastX (pc := 215) d_X12_run_215 (ty_175 hF) (by decide) (by decide) (by decide) hF (by decide +kernel) (fun hF => ?_)
      refine Tr.iinc (pc := 216) (ls2 := [(3, (0, 6)), (2, (0, 0)), (0, (2, 120)), (1, (0, _))]) d_X12_run_216 rfl (by decide) rfl ?_
      refine Tr.goto (pc := 219) (tgt := 173) d_X12_run_219 rfl ?_
      refine Tr.iload_n (pc := 173) (i := 3) d_X12_run_173 rfl rfl ?_
      refine Tr.bipush (pc := 174) d_X12_run_174 rfl (by decide) ?_
      refine Tr.icmp_ge (pc := 176) (tgt := 222) d_X12_run_176 rfl (fun _ => ?_) (fun hc => absurd (by decide) hc)
      refine Tr.iload_n (pc := 222) (i := 2) d_X12_run_222 rfl rfl ?_
      refine Tr.iret (pc := 223) d_X12_run_223 rfl ?_
      refine Tr.sc [_, _] rfl ?_
      refine Tr.icmp_eq (pc := 399) (tgt := 998) d_L_law_399 rfl (fun _ => ?_) (fun hc => absurd (by decide) hc)
      refine Tr.iinc (pc := 998) (ls2 := [(3, (0, 6)), (2, (2, 120)), (1, (2, 0)), (0, (2, (-2)))]) d_L_law_998 rfl (by decide) rfl ?_
      refine Tr.goto (pc := 1001) (tgt := 18) d_L_law_1001 rfl ?_
      refine Tr.iload_n (pc := 18) (i := 3) d_L_law_18 rfl rfl ?_
      refine Tr.aload_n (pc := 19) (i := 0) d_L_law_19 rfl rfl ?_
      refine Tr.xlen (pc := 20) (i := 0) d_L_law_20 rfl he (by decide) ?_
      refine Tr.tp 6 rfl ?_
      refine Tr.bipush (pc := 21) d_L_law_21 rfl (by decide) ?_
      refine Tr.isub (pc := 23) d_L_law_23 ?_
      refine Tr.tp 0 rfl ?_
      refine Tr.icmp_gt (pc := 24) (tgt := 1004) d_L_law_24 rfl (fun _ => ?_) (fun hc => absurd (by decide) hc)
      refine Tr.iconst (pc := 1004) d_L_law_1004 (by decide) ?_
      exact Tr.zret (pc := 1005) d_L_law_1005 rfl (by decide) ⟨rfl, Fx_room hF⟩
  · refine Tr.bipush (pc := 5) d_X11_run_5 rfl (by decide) ?_
    refine Tr.iret (pc := 7) d_X11_run_7 rfl ?_
    refine Tr.sc [_] rfl ?_
    refine Tr.aload_n (pc := 390) (i := 2) d_L_law_390 rfl rfl ?_
    refine Tr.aload_n (pc := 391) (i := 0) d_L_law_391 rfl rfl ?_
    refine Tr.iload_n (pc := 392) (i := 3) d_L_law_392 rfl rfl ?_
    refine Tr.iconst (pc := 393) d_L_law_393 (by decide) ?_
    refine Tr.iadd (pc := 394) d_L_law_394 ?_
    refine Tr.tp 1 rfl ?_
    refine Tr.xld (pc := 395) (i := 0) d_L_law_395 rfl he (by decide) (by decide) ?_
    refine Tr.tp a1 g1 ?_
    refine Tr.callV (pc := 396) (as := [_]) d_L_law_396 s_13_50 ok_X12_run rfl rfl (Nat.le_of_ble_eq_true rfl) (Nat.le_of_ble_eq_true rfl) (by decide) (ty_120 hF) ?_
    refine Tr.lc [(0, (2, 120)), (1, (0, _))] rfl ?_
    refine Tr.iload_n (pc := 0) (i := 1) d_X12_run_0 rfl rfl ?_
    refine Tr.iconst (pc := 1) d_X12_run_1 (by decide) ?_
    refine Tr.icmp_ge (pc := 2) (tgt := 8) d_X12_run_2 rfl (fun hc => absurd hc (by omega)) (fun _ => ?_)
    refine Tr.bipush (pc := 5) d_X12_run_5 rfl (by decide) ?_
    refine Tr.iret (pc := 7) d_X12_run_7 rfl ?_
    refine Tr.sc [_, _] rfl ?_
    refine Tr.icmp_eq (pc := 399) (tgt := 998) d_L_law_399 rfl (fun _ => ?_) (fun hc => absurd (by decide) hc)
    refine Tr.iinc (pc := 998) (ls2 := [(3, (0, 6)), (2, (2, 120)), (1, (2, 0)), (0, (2, (-2)))]) d_L_law_998 rfl (by decide) rfl ?_
    refine Tr.goto (pc := 1001) (tgt := 18) d_L_law_1001 rfl ?_
    refine Tr.iload_n (pc := 18) (i := 3) d_L_law_18 rfl rfl ?_
    refine Tr.aload_n (pc := 19) (i := 0) d_L_law_19 rfl rfl ?_
    refine Tr.xlen (pc := 20) (i := 0) d_L_law_20 rfl he (by decide) ?_
    refine Tr.tp 6 rfl ?_
    refine Tr.bipush (pc := 21) d_L_law_21 rfl (by decide) ?_
    refine Tr.isub (pc := 23) d_L_law_23 ?_
    refine Tr.tp 0 rfl ?_
    refine Tr.icmp_gt (pc := 24) (tgt := 1004) d_L_law_24 rfl (fun _ => ?_) (fun hc => absurd (by decide) hc)
    refine Tr.iconst (pc := 1004) d_L_law_1004 (by decide) ?_
    exact Tr.zret (pc := 1005) d_L_law_1005 rfl (by decide) ⟨rfl, Fx_room hF⟩
