/-! calls on a fresh pair -/
set_option maxRecDepth 100000 in
set_option maxHeartbeats 4000000 in
theorem op_text {l : Launch} {K : EC} {f : Int → Int} (he : e_ext K 0 6 f) (hr : ∀ j, -2147483648 ≤ f j ∧ f j ≤ 2147483647) : Tr l K 20 mL_law 246 [(3, (0, 0)), (2, (2, 120)), (1, (2, 0)), (0, (2, -2))] [] C_461 (fun M' r => r = some (0, 1) ∧ M'.1 ≤ 600000 ∧ M'.2.1 ≤ room_1.slots) := by
  obtain ⟨a1, g1⟩ : ∃ a, f 1 = a := ⟨_, rfl⟩
  have r1 := hr 1
  rw [g1] at r1
  obtain ⟨a2, g2⟩ : ∃ a, f 2 = a := ⟨_, rfl⟩
  have r2 := hr 2
  rw [g2] at r2
  obtain ⟨a3, g3⟩ : ∃ a, f 3 = a := ⟨_, rfl⟩
  have r3 := hr 3
  rw [g3] at r3
  obtain ⟨a4, g4⟩ : ∃ a, f 4 = a := ⟨_, rfl⟩
  have r4 := hr 4
  rw [g4] at r4
  obtain ⟨a5, g5⟩ : ∃ a, f 5 = a := ⟨_, rfl⟩
  have r5 := hr 5
  rw [g5] at r5
  have hF := Fx_0
  refine Tr.aload_n (pc := 246) (i := 1) d_L_law_246 rfl rfl ?_
  refine Tr.callV (pc := 247) (as := []) d_L_law_247 s_13_23 ok_X11_text rfl rfl (Nat.le_of_ble_eq_true rfl) (Nat.le_of_ble_eq_true rfl) (by decide) (ty_0 hF) ?_
  refine Tr.lc [(0, (2, 0))] rfl ?_
  refine Tr.aload_n (pc := 0) (i := 0) d_X11_text_0 rfl rfl ?_
  refine Tr.getf (pc := 1) d_X11_text_1 f_11_16 (by decide) (by decide) (ty_0 hF) ?_
  refine Tr.tp 2 (fx_0_2 hF) ?_
  refine Tr.aload_n (pc := 4) (i := 0) d_X11_text_4 rfl rfl ?_
  refine Tr.getf (pc := 5) d_X11_text_5 f_11_9 (by decide) (by decide) (ty_0 hF) ?_
  refine Tr.tp 1 (fx_0_0 hF) ?_
  refine Tr.aload_n (pc := 8) (i := 0) d_X11_text_8 rfl rfl ?_
  refine Tr.getf (pc := 9) d_X11_text_9 f_11_84 (by decide) (by decide) (ty_0 hF) ?_
  refine Tr.tp 0 (b_0_1) ?_
  refine Tr.callV (pc := 12) (as := [_, _]) d_X11_text_12 s_11_92 ok_X7_takeApart rfl rfl (Nat.le_of_ble_eq_true rfl) (Nat.le_of_ble_eq_true rfl) (by decide) (ty_2 hF) ?_
  refine Tr.lc [(0, (2, 2)), (1, (2, 1)), (2, (0, 0))] rfl ?_
  refine Tr.aload_n (pc := 0) (i := 0) d_X7_takeApart_0 rfl rfl ?_
  refine Tr.aload_n (pc := 1) (i := 1) d_X7_takeApart_1 rfl rfl ?_
  refine Tr.putfX (pc := 2) d_X7_takeApart_2 f_7_21 (by decide) (by decide) (ty_2 hF) hF (by decide +kernel) (fun hF => ?_)
  refine Tr.aload_n (pc := 5) (i := 0) d_X7_takeApart_5 rfl rfl ?_
  refine Tr.iload_n (pc := 6) (i := 2) d_X7_takeApart_6 rfl rfl ?_
  refine Tr.putfX (pc := 7) d_X7_takeApart_7 f_7_25 (by decide) (by decide) (ty_2 hF) hF (by decide +kernel) (fun hF => ?_)
  refine Tr.aload_n (pc := 10) (i := 0) d_X7_takeApart_10 rfl rfl ?_
  refine Tr.iconst (pc := 11) d_X7_takeApart_11 (by decide) ?_
  refine Tr.putfX (pc := 12) d_X7_takeApart_12 f_7_29 (by decide) (by decide) (ty_2 hF) hF (by decide +kernel) (fun hF => ?_)
  refine Tr.iconst (pc := 15) d_X7_takeApart_15 (by decide) ?_
  refine Tr.istore_n (pc := 16) (i := 3) (ls2 := [(3, (0, 0)), (0, (2, 2)), (1, (2, 1)), (2, (0, 0))]) d_X7_takeApart_16 rfl (by decide) rfl ?_
  refine Tr.iconst (pc := 17) d_X7_takeApart_17 (by decide) ?_
  refine Tr.istore (pc := 18) (i := 4) (ls2 := [(4, (0, 0)), (3, (0, 0)), (0, (2, 2)), (1, (2, 1)), (2, (0, 0))]) d_X7_takeApart_18 (by decide) rfl ?_
  refine Tr.iconst (pc := 20) d_X7_takeApart_20 (by decide) ?_
  refine Tr.istore (pc := 21) (i := 5) (ls2 := [(5, (0, 0)), (4, (0, 0)), (3, (0, 0)), (0, (2, 2)), (1, (2, 1)), (2, (0, 0))]) d_X7_takeApart_21 (by decide) rfl ?_
  refine Tr.iload (pc := 23) (i := 5) d_X7_takeApart_23 rfl ?_
  refine Tr.sipush (pc := 25) d_X7_takeApart_25 rfl (by decide) ?_
  refine Tr.icmp_gt (pc := 28) (tgt := 104) d_X7_takeApart_28 rfl (fun hc => absurd hc (by decide)) (fun _ => ?_)
  refine Tr.iload_n (pc := 31) (i := 3) d_X7_takeApart_31 rfl rfl ?_
  refine Tr.if_lt (pc := 32) (tgt := 104) d_X7_takeApart_32 rfl (fun hc => absurd hc (by decide)) (fun _ => ?_)
  refine Tr.aload_n (pc := 35) (i := 0) d_X7_takeApart_35 rfl rfl ?_
  refine Tr.iload_n (pc := 36) (i := 3) d_X7_takeApart_36 rfl rfl ?_
  refine Tr.callV (pc := 37) (as := [_]) d_X7_takeApart_37 s_7_32 ok_X7_skipBlanks rfl rfl (Nat.le_of_ble_eq_true rfl) (Nat.le_of_ble_eq_true rfl) (by decide) (ty_2 hF) ?_
  refine Tr.lc [(0, (2, 2)), (1, (0, 0))] rfl ?_
  refine Tr.iload_n (pc := 0) (i := 1) d_X7_skipBlanks_0 rfl rfl ?_
  refine Tr.istore_n (pc := 1) (i := 2) (ls2 := [(2, (0, 0)), (0, (2, 2)), (1, (0, 0))]) d_X7_skipBlanks_1 rfl (by decide) rfl ?_
  refine Tr.iload_n (pc := 2) (i := 2) d_X7_skipBlanks_2 rfl rfl ?_
  refine Tr.aload_n (pc := 3) (i := 0) d_X7_skipBlanks_3 rfl rfl ?_
  refine Tr.getf (pc := 4) d_X7_skipBlanks_4 f_7_25 (by decide) (by decide) (ty_2 hF) ?_
  refine Tr.tp 0 ((rd_wb _ rfl).trans (rd_ws _ _ _ _)) ?_
  refine Tr.icmp_ge (pc := 7) (tgt := 38) d_X7_skipBlanks_7 rfl (fun _ => ?_) (fun hc => absurd (by decide) hc)
  refine Tr.iload_n (pc := 38) (i := 2) d_X7_skipBlanks_38 rfl rfl ?_
  refine Tr.iret (pc := 39) d_X7_skipBlanks_39 rfl ?_
  refine Tr.sc [_] rfl ?_
  refine Tr.istore (pc := 40) (i := 6) (ls2 := [(6, (0, 0)), (5, (0, 0)), (4, (0, 0)), (3, (0, 0)), (0, (2, 2)), (1, (2, 1)), (2, (0, 0))]) d_X7_takeApart_40 (by decide) rfl ?_
  refine Tr.iload (pc := 42) (i := 4) d_X7_takeApart_42 rfl ?_
  refine Tr.if_eq (pc := 44) (tgt := 57) d_X7_takeApart_44 rfl (fun _ => ?_) (fun hc => absurd (by decide) hc)
  refine Tr.iconst (pc := 57) d_X7_takeApart_57 (by decide) ?_
  refine Tr.istore (pc := 58) (i := 7) (ls2 := [(7, (0, 0)), (6, (0, 0)), (5, (0, 0)), (4, (0, 0)), (3, (0, 0)), (0, (2, 2)), (1, (2, 1)), (2, (0, 0))]) d_X7_takeApart_58 (by decide) rfl ?_
  refine Tr.aload_n (pc := 60) (i := 0) d_X7_takeApart_60 rfl rfl ?_
  refine Tr.iload (pc := 61) (i := 6) d_X7_takeApart_61 rfl ?_
  refine Tr.iload (pc := 63) (i := 7) d_X7_takeApart_63 rfl ?_
  refine Tr.callV (pc := 65) (as := [_, _]) d_X7_takeApart_65 s_7_36 ok_X7_takeOne rfl rfl (Nat.le_of_ble_eq_true rfl) (Nat.le_of_ble_eq_true rfl) (by decide) (ty_2 hF) ?_
  refine Tr.lc [(0, (2, 2)), (1, (0, 0)), (2, (0, 0))] rfl ?_
  refine Tr.iload_n (pc := 0) (i := 1) d_X7_takeOne_0 rfl rfl ?_
  refine Tr.aload_n (pc := 1) (i := 0) d_X7_takeOne_1 rfl rfl ?_
  refine Tr.getf (pc := 2) d_X7_takeOne_2 f_7_25 (by decide) (by decide) (ty_2 hF) ?_
  refine Tr.tp 0 ((rd_wb _ rfl).trans (rd_ws _ _ _ _)) ?_
  refine Tr.icmp_lt (pc := 5) (tgt := 17) d_X7_takeOne_5 rfl (fun hc => absurd hc (by decide)) (fun _ => ?_)
  refine Tr.aload_n (pc := 8) (i := 0) d_X7_takeOne_8 rfl rfl ?_
  refine Tr.iconst (pc := 9) d_X7_takeOne_9 (by decide) ?_
  refine Tr.iload_n (pc := 10) (i := 1) d_X7_takeOne_10 rfl rfl ?_
  refine Tr.iconst (pc := 11) d_X7_takeOne_11 (by decide) ?_
  refine Tr.iconst (pc := 12) d_X7_takeOne_12 (by decide) ?_
  refine Tr.callV (pc := 13) (as := [_, _, _, _]) d_X7_takeOne_13 s_7_40 ok_X7_add rfl rfl (Nat.le_of_ble_eq_true rfl) (Nat.le_of_ble_eq_true rfl) (by decide) (ty_2 hF) ?_
  refine Tr.lc [(0, (2, 2)), (1, (0, 0)), (2, (0, 0)), (3, (0, 0)), (4, (0, (-1)))] rfl ?_
  refine Tr.aload_n (pc := 0) (i := 0) d_X7_add_0 rfl rfl ?_
  refine Tr.getf (pc := 1) d_X7_add_1 f_7_29 (by decide) (by decide) (ty_2 hF) ?_
  refine Tr.tp 0 (rd_ws _ _ _ _) ?_
  refine Tr.aload_n (pc := 4) (i := 0) d_X7_add_4 rfl rfl ?_
  refine Tr.getf (pc := 5) d_X7_add_5 f_7_9 (by decide) (by decide) (ty_2 hF) ?_
  refine Tr.tp 3 (fx_2_0 hF) ?_
  refine Tr.alen (pc := 8) d_X7_add_8 (ty_3 hF) (by decide) (by decide) ?_
  refine Tr.tp 901 rfl ?_
  refine Tr.icmp_ge (pc := 9) (tgt := 52) d_X7_add_9 rfl (fun hc => absurd hc (by decide)) (fun _ => ?_)
  refine Tr.aload_n (pc := 12) (i := 0) d_X7_add_12 rfl rfl ?_
  refine Tr.getf (pc := 13) d_X7_add_13 f_7_9 (by decide) (by decide) (ty_2 hF) ?_
  refine Tr.tp 3 (fx_2_0 hF) ?_
  refine Tr.aload_n (pc := 16) (i := 0) d_X7_add_16 rfl rfl ?_
  refine Tr.getf (pc := 17) d_X7_add_17 f_7_29 (by decide) (by decide) (ty_2 hF) ?_
  refine Tr.tp 0 (rd_ws _ _ _ _) ?_
  refine Tr.iload_n (pc := 20) (i := 1) d_X7_add_20 rfl rfl ?_
  refine Tr.iastX (pc := 21) d_X7_add_21 (ty_3 hF) (by decide) (by decide) hF (by decide +kernel) (fun hF => ?_)
  refine Tr.aload_n (pc := 22) (i := 0) d_X7_add_22 rfl rfl ?_
  refine Tr.getf (pc := 23) d_X7_add_23 f_7_15 (by decide) (by decide) (ty_2 hF) ?_
  refine Tr.tp 4 (fx_2_1 hF) ?_
  refine Tr.aload_n (pc := 26) (i := 0) d_X7_add_26 rfl rfl ?_
  refine Tr.getf (pc := 27) d_X7_add_27 f_7_29 (by decide) (by decide) (ty_2 hF) ?_
  refine Tr.tp 0 ((rd_wb _ rfl).trans (rd_ws _ _ _ _)) ?_
  refine Tr.iload_n (pc := 30) (i := 2) d_X7_add_30 rfl rfl ?_
  refine Tr.iastX (pc := 31) d_X7_add_31 (ty_4 hF) (by decide) (by decide) hF (by decide +kernel) (fun hF => ?_)
  refine Tr.aload_n (pc := 32) (i := 0) d_X7_add_32 rfl rfl ?_
  refine Tr.getf (pc := 33) d_X7_add_33 f_7_18 (by decide) (by decide) (ty_2 hF) ?_
  refine Tr.tp 5 (fx_2_2 hF) ?_
  refine Tr.aload_n (pc := 36) (i := 0) d_X7_add_36 rfl rfl ?_
  refine Tr.getf (pc := 37) d_X7_add_37 f_7_29 (by decide) (by decide) (ty_2 hF) ?_
  refine Tr.tp 0 ((rd_wb _ rfl).trans ((rd_wb _ rfl).trans (rd_ws _ _ _ _))) ?_
  refine Tr.iload_n (pc := 40) (i := 3) d_X7_add_40 rfl rfl ?_
  refine Tr.iastX (pc := 41) d_X7_add_41 (ty_5 hF) (by decide) (by decide) hF (by decide +kernel) (fun hF => ?_)
  refine Tr.aload_n (pc := 42) (i := 0) d_X7_add_42 rfl rfl ?_
  refine Tr.dup (pc := 43) d_X7_add_43 ne21 ?_
  refine Tr.getf (pc := 44) d_X7_add_44 f_7_29 (by decide) (by decide) (ty_2 hF) ?_
  refine Tr.tp 0 ((rd_wb _ rfl).trans ((rd_wb _ rfl).trans ((rd_wb _ rfl).trans (rd_ws _ _ _ _)))) ?_
  refine Tr.iconst (pc := 47) d_X7_add_47 (by decide) ?_
  refine Tr.iadd (pc := 48) d_X7_add_48 ?_
  refine Tr.tp 1 rfl ?_
  refine Tr.putfX (pc := 49) d_X7_add_49 f_7_29 (by decide) (by decide) (ty_2 hF) hF (by decide +kernel) (fun hF => ?_)
  refine Tr.iload (pc := 52) (i := 4) d_X7_add_52 rfl ?_
  refine Tr.iret (pc := 54) d_X7_add_54 rfl ?_
  refine Tr.sc [_] rfl ?_
  refine Tr.iret (pc := 16) d_X7_takeOne_16 rfl ?_
  refine Tr.sc [_] rfl ?_
  refine Tr.istore_n (pc := 68) (i := 3) (ls2 := [(3, (0, (-1))), (7, (0, 0)), (6, (0, 0)), (5, (0, 0)), (4, (0, 0)), (0, (2, 2)), (1, (2, 1)), (2, (0, 0))]) d_X7_takeApart_68 rfl (by decide) rfl ?_
  refine Tr.aload_n (pc := 69) (i := 0) d_X7_takeApart_69 rfl rfl ?_
  refine Tr.getf (pc := 70) d_X7_takeApart_70 f_7_29 (by decide) (by decide) (ty_2 hF) ?_
  refine Tr.tp 1 (rd_ws _ _ _ _) ?_
  refine Tr.if_le (pc := 73) (tgt := 95) d_X7_takeApart_73 rfl (fun hc => absurd hc (by decide)) (fun _ => ?_)
  refine Tr.aload_n (pc := 76) (i := 0) d_X7_takeApart_76 rfl rfl ?_
  refine Tr.getf (pc := 77) d_X7_takeApart_77 f_7_9 (by decide) (by decide) (ty_2 hF) ?_
  refine Tr.tp 3 (fx_2_0 hF) ?_
  refine Tr.aload_n (pc := 80) (i := 0) d_X7_takeApart_80 rfl rfl ?_
  refine Tr.getf (pc := 81) d_X7_takeApart_81 f_7_29 (by decide) (by decide) (ty_2 hF) ?_
  refine Tr.tp 1 (rd_ws _ _ _ _) ?_
  refine Tr.iconst (pc := 84) d_X7_takeApart_84 (by decide) ?_
  refine Tr.isub (pc := 85) d_X7_takeApart_85 ?_
  refine Tr.tp 0 rfl ?_
  refine Tr.iald (pc := 86) d_X7_takeApart_86 (ty_3 hF) (by decide) (by decide) ?_
  refine Tr.tp 0 ((rd_wb _ rfl).trans ((rd_wb _ rfl).trans ((rd_wb _ rfl).trans (rd_ws _ _ _ _)))) ?_
  refine Tr.iconst (pc := 87) d_X7_takeApart_87 (by decide) ?_
  refine Tr.icmp_eq (pc := 88) (tgt := 95) d_X7_takeApart_88 rfl (fun hc => absurd hc (by decide)) (fun _ => ?_)
  refine Tr.iconst (pc := 91) d_X7_takeApart_91 (by decide) ?_
  refine Tr.goto (pc := 92) (tgt := 96) d_X7_takeApart_92 rfl ?_
  refine Tr.istore (pc := 96) (i := 4) (ls2 := [(4, (0, 1)), (3, (0, (-1))), (7, (0, 0)), (6, (0, 0)), (5, (0, 0)), (0, (2, 2)), (1, (2, 1)), (2, (0, 0))]) d_X7_takeApart_96 (by decide) rfl ?_
  refine Tr.iinc (pc := 98) (ls2 := [(5, (0, 1)), (4, (0, 1)), (3, (0, (-1))), (7, (0, 0)), (6, (0, 0)), (0, (2, 2)), (1, (2, 1)), (2, (0, 0))]) d_X7_takeApart_98 rfl (by decide) rfl ?_
  refine Tr.goto (pc := 101) (tgt := 23) d_X7_takeApart_101 rfl ?_
  refine Tr.iload (pc := 23) (i := 5) d_X7_takeApart_23 rfl ?_
  refine Tr.sipush (pc := 25) d_X7_takeApart_25 rfl (by decide) ?_
  refine Tr.icmp_gt (pc := 28) (tgt := 104) d_X7_takeApart_28 rfl (fun hc => absurd hc (by decide)) (fun _ => ?_)
  refine Tr.iload_n (pc := 31) (i := 3) d_X7_takeApart_31 rfl rfl ?_
  refine Tr.if_lt (pc := 32) (tgt := 104) d_X7_takeApart_32 rfl (fun _ => ?_) (fun hc => absurd (by decide) hc)
  refine Tr.vret (pc := 104) d_X7_takeApart_104 rfl ?_
  refine Tr.sc [] rfl ?_
  refine Tr.aload_n (pc := 15) (i := 0) d_X11_text_15 rfl rfl ?_
  refine Tr.iconst (pc := 16) d_X11_text_16 (by decide) ?_
  refine Tr.putfX (pc := 17) d_X11_text_17 f_11_84 (by decide) (by decide) (ty_0 hF) hF (by decide +kernel) (fun hF => ?_)
  refine Tr.aload_n (pc := 20) (i := 0) d_X11_text_20 rfl rfl ?_
  refine Tr.getf (pc := 21) d_X11_text_21 f_11_23 (by decide) (by decide) (ty_0 hF) ?_
  refine Tr.tp 6 (fx_0_3 hF) ?_
  refine Tr.aload_n (pc := 24) (i := 0) d_X11_text_24 rfl rfl ?_
  refine Tr.getf (pc := 25) d_X11_text_25 f_11_16 (by decide) (by decide) (ty_0 hF) ?_
  refine Tr.tp 2 (fx_0_2 hF) ?_
  refine Tr.aload_n (pc := 28) (i := 0) d_X11_text_28 rfl rfl ?_
  refine Tr.getf (pc := 29) d_X11_text_29 f_11_34 (by decide) (by decide) (ty_0 hF) ?_
  refine Tr.tp 27 ((rd_wb _ rfl).trans ((rd_wb _ rfl).trans ((rd_wb _ rfl).trans ((rd_wb _ rfl).trans ((rd_wb _ rfl).trans ((rd_wb _ rfl).trans ((rd_wb _ rfl).trans ((rd_wb _ rfl).trans (b_0_5))))))))) ?_
  refine Tr.callV (pc := 32) (as := [_, _]) d_X11_text_32 s_11_96 ok_X5_read rfl rfl (Nat.le_of_ble_eq_true rfl) (Nat.le_of_ble_eq_true rfl) (by decide) (ty_6 hF) ?_
  refine Tr.lc [(0, (2, 6)), (1, (2, 2)), (2, (2, 27))] rfl ?_
  refine Tr.aload_n (pc := 0) (i := 0) d_X5_read_0 rfl rfl ?_
  refine Tr.aload_n (pc := 1) (i := 1) d_X5_read_1 rfl rfl ?_
  refine Tr.putfX (pc := 2) d_X5_read_2 f_5_18 (by decide) (by decide) (ty_6 hF) hF (by decide +kernel) (fun hF => ?_)
  refine Tr.aload_n (pc := 5) (i := 0) d_X5_read_5 rfl rfl ?_
  refine Tr.aload_n (pc := 6) (i := 2) d_X5_read_6 rfl rfl ?_
  refine Tr.putfX (pc := 7) d_X5_read_7 f_5_22 (by decide) (by decide) (ty_6 hF) hF (by decide +kernel) (fun hF => ?_)
  refine Tr.aload_n (pc := 10) (i := 0) d_X5_read_10 rfl rfl ?_
  refine Tr.aload_n (pc := 11) (i := 2) d_X5_read_11 rfl rfl ?_
  refine Tr.getf (pc := 12) d_X5_read_12 f_5_26 (by decide) (by decide) (ty_27 hF) ?_
  refine Tr.tp 35 (fx_27_11 hF) ?_
  refine Tr.putfX (pc := 15) d_X5_read_15 f_5_32 (by decide) (by decide) (ty_6 hF) hF (by decide +kernel) (fun hF => ?_)
  refine Tr.aload_n (pc := 18) (i := 0) d_X5_read_18 rfl rfl ?_
  refine Tr.getf (pc := 19) d_X5_read_19 f_5_22 (by decide) (by decide) (ty_6 hF) ?_
  refine Tr.tp 27 ((rd_wb _ rfl).trans (rd_ws _ _ _ _)) ?_
  refine Tr.callV (pc := 22) (as := []) d_X5_read_22 s_5_33 ok_X3_clear rfl rfl (Nat.le_of_ble_eq_true rfl) (Nat.le_of_ble_eq_true rfl) (by decide) (ty_27 hF) ?_
  refine Tr.lc [(0, (2, 27))] rfl ?_
  refine Tr.aload_n (pc := 0) (i := 0) d_X3_clear_0 rfl rfl ?_
  refine Tr.iconst (pc := 1) d_X3_clear_1 (by decide) ?_
  refine Tr.putfX (pc := 2) d_X3_clear_2 f_3_40 (by decide) (by decide) (ty_27 hF) hF (by decide +kernel) (fun hF => ?_)
  refine Tr.aload_n (pc := 5) (i := 0) d_X3_clear_5 rfl rfl ?_
  refine Tr.iconst (pc := 6) d_X3_clear_6 (by decide) ?_
  refine Tr.putfX (pc := 7) d_X3_clear_7 f_3_44 (by decide) (by decide) (ty_27 hF) hF (by decide +kernel) (fun hF => ?_)
  refine Tr.aload_n (pc := 10) (i := 0) d_X3_clear_10 rfl rfl ?_
  refine Tr.iconst (pc := 11) d_X3_clear_11 (by decide) ?_
  refine Tr.putfX (pc := 12) d_X3_clear_12 f_3_47 (by decide) (by decide) (ty_27 hF) hF (by decide +kernel) (fun hF => ?_)
  refine Tr.aload_n (pc := 15) (i := 0) d_X3_clear_15 rfl rfl ?_
  refine Tr.iconst (pc := 16) d_X3_clear_16 (by decide) ?_
  refine Tr.putfX (pc := 17) d_X3_clear_17 f_3_50 (by decide) (by decide) (ty_27 hF) hF (by decide +kernel) (fun hF => ?_)
  refine Tr.aload_n (pc := 20) (i := 0) d_X3_clear_20 rfl rfl ?_
  refine Tr.getf (pc := 21) d_X3_clear_21 f_3_11 (by decide) (by decide) (ty_27 hF) ?_
  refine Tr.tp 28 (fx_27_4 hF) ?_
  refine Tr.iconst (pc := 24) d_X3_clear_24 (by decide) ?_
  refine Tr.callS (pc := 25) (as := [_, _]) d_X3_clear_25 s_3_53 ok_J7_fill_53178 rfl rfl (Nat.le_of_ble_eq_true rfl) (Nat.le_of_ble_eq_true rfl) ?_
  refine Tr.imp (sp_fillX (N := 3) (ty_28 hF) (by decide) hF (by decide +kernel)) ?_
  rintro _ _ ⟨rfl, rfl, hF⟩
  refine Tr.sc [] rfl ?_
  refine Tr.aload_n (pc := 28) (i := 0) d_X3_clear_28 rfl rfl ?_
  refine Tr.getf (pc := 29) d_X3_clear_29 f_3_15 (by decide) (by decide) (ty_27 hF) ?_
  refine Tr.tp 29 (fx_27_5 hF) ?_
  refine Tr.iconst (pc := 32) d_X3_clear_32 (by decide) ?_
  refine Tr.callS (pc := 33) (as := [_, _]) d_X3_clear_33 s_3_53 ok_J7_fill_53178 rfl rfl (Nat.le_of_ble_eq_true rfl) (Nat.le_of_ble_eq_true rfl) ?_
  refine Tr.imp (sp_fillX (N := 24) (ty_29 hF) (by decide) hF (by decide +kernel)) ?_
  rintro _ _ ⟨rfl, rfl, hF⟩
  refine Tr.sc [] rfl ?_
  refine Tr.aload_n (pc := 36) (i := 0) d_X3_clear_36 rfl rfl ?_
  refine Tr.getf (pc := 37) d_X3_clear_37 f_3_24 (by decide) (by decide) (ty_27 hF) ?_
  refine Tr.tp 32 (fx_27_8 hF) ?_
  refine Tr.iconst (pc := 40) d_X3_clear_40 (by decide) ?_
  refine Tr.callS (pc := 41) (as := [_, _]) d_X3_clear_41 s_3_53 ok_J7_fill_53178 rfl rfl (Nat.le_of_ble_eq_true rfl) (Nat.le_of_ble_eq_true rfl) ?_
  refine Tr.imp (sp_fillX (N := 3) (ty_32 hF) (by decide) hF (by decide +kernel)) ?_
  rintro _ _ ⟨rfl, rfl, hF⟩
  refine Tr.sc [] rfl ?_
  refine Tr.aload_n (pc := 44) (i := 0) d_X3_clear_44 rfl rfl ?_
  refine Tr.getf (pc := 45) d_X3_clear_45 f_3_27 (by decide) (by decide) (ty_27 hF) ?_
  refine Tr.tp 33 (fx_27_9 hF) ?_
  refine Tr.iconst (pc := 48) d_X3_clear_48 (by decide) ?_
  refine Tr.callS (pc := 49) (as := [_, _]) d_X3_clear_49 s_3_53 ok_J7_fill_53178 rfl rfl (Nat.le_of_ble_eq_true rfl) (Nat.le_of_ble_eq_true rfl) ?_
  refine Tr.imp (sp_fillX (N := 3) (ty_33 hF) (by decide) hF (by decide +kernel)) ?_
  rintro _ _ ⟨rfl, rfl, hF⟩
  refine Tr.sc [] rfl ?_
  refine Tr.aload_n (pc := 52) (i := 0) d_X3_clear_52 rfl rfl ?_
  refine Tr.getf (pc := 53) d_X3_clear_53 f_3_30 (by decide) (by decide) (ty_27 hF) ?_
  refine Tr.tp 34 (fx_27_10 hF) ?_
  refine Tr.iconst (pc := 56) d_X3_clear_56 (by decide) ?_
  refine Tr.callS (pc := 57) (as := [_, _]) d_X3_clear_57 s_3_53 ok_J7_fill_53178 rfl rfl (Nat.le_of_ble_eq_true rfl) (Nat.le_of_ble_eq_true rfl) ?_
  refine Tr.imp (sp_fillX (N := 15) (ty_34 hF) (by decide) hF (by decide +kernel)) ?_
  rintro _ _ ⟨rfl, rfl, hF⟩
  refine Tr.sc [] rfl ?_
  refine Tr.aload_n (pc := 60) (i := 0) d_X3_clear_60 rfl rfl ?_
  refine Tr.getf (pc := 61) d_X3_clear_61 f_3_36 (by decide) (by decide) (ty_27 hF) ?_
  refine Tr.tp 35 (fx_27_11 hF) ?_
  refine Tr.callV (pc := 64) (as := []) d_X3_clear_64 s_3_59 ok_X4_clear rfl rfl (Nat.le_of_ble_eq_true rfl) (Nat.le_of_ble_eq_true rfl) (by decide) (ty_35 hF) ?_
  refine Tr.lc [(0, (2, 35))] rfl ?_
  refine Tr.aload_n (pc := 0) (i := 0) d_X4_clear_0 rfl rfl ?_
  refine Tr.iconst (pc := 1) d_X4_clear_1 (by decide) ?_
  refine Tr.putfX (pc := 2) d_X4_clear_2 f_4_45 (by decide) (by decide) (ty_35 hF) hF (by decide +kernel) (fun hF => ?_)
  refine Tr.aload_n (pc := 5) (i := 0) d_X4_clear_5 rfl rfl ?_
  refine Tr.iconst (pc := 6) d_X4_clear_6 (by decide) ?_
  refine Tr.putfX (pc := 7) d_X4_clear_7 f_4_49 (by decide) (by decide) (ty_35 hF) hF (by decide +kernel) (fun hF => ?_)
  refine Tr.vret (pc := 10) d_X4_clear_10 rfl ?_
  refine Tr.sc [] rfl ?_
  refine Tr.vret (pc := 67) d_X3_clear_67 rfl ?_
  refine Tr.sc [] rfl ?_
  refine Tr.aload_n (pc := 25) (i := 0) d_X5_read_25 rfl rfl ?_
  refine Tr.iconst (pc := 26) d_X5_read_26 (by decide) ?_
  refine Tr.putfX (pc := 27) d_X5_read_27 f_5_36 (by decide) (by decide) (ty_6 hF) hF (by decide +kernel) (fun hF => ?_)
  refine Tr.aload_n (pc := 30) (i := 0) d_X5_read_30 rfl rfl ?_
  refine Tr.iconst (pc := 31) d_X5_read_31 (by decide) ?_
  refine Tr.putfX (pc := 32) d_X5_read_32 f_5_39 (by decide) (by decide) (ty_6 hF) hF (by decide +kernel) (fun hF => ?_)
  refine Tr.aload_n (pc := 35) (i := 0) d_X5_read_35 rfl rfl ?_
  refine Tr.iconst (pc := 36) d_X5_read_36 (by decide) ?_
  refine Tr.putfX (pc := 37) d_X5_read_37 f_5_9 (by decide) (by decide) (ty_6 hF) hF (by decide +kernel) (fun hF => ?_)
  refine Tr.aload_n (pc := 40) (i := 0) d_X5_read_40 rfl rfl ?_
  refine Tr.iconst (pc := 41) d_X5_read_41 (by decide) ?_
  refine Tr.putfX (pc := 42) d_X5_read_42 f_5_15 (by decide) (by decide) (ty_6 hF) hF (by decide +kernel) (fun hF => ?_)
  refine Tr.aload_n (pc := 45) (i := 0) d_X5_read_45 rfl rfl ?_
  refine Tr.callV (pc := 46) (as := []) d_X5_read_46 s_5_42 ok_X5_declarations rfl rfl (Nat.le_of_ble_eq_true rfl) (Nat.le_of_ble_eq_true rfl) (by decide) (ty_6 hF) ?_
  refine Tr.lc [(0, (2, 6))] rfl ?_
  refine Tr.iconst (pc := 0) d_X5_declarations_0 (by decide) ?_
  refine Tr.istore_n (pc := 1) (i := 1) (ls2 := [(1, (0, 1)), (0, (2, 6))]) d_X5_declarations_1 rfl (by decide) rfl ?_
  refine Tr.iconst (pc := 2) d_X5_declarations_2 (by decide) ?_
  refine Tr.istore_n (pc := 3) (i := 2) (ls2 := [(2, (0, 0)), (1, (0, 1)), (0, (2, 6))]) d_X5_declarations_3 rfl (by decide) rfl ?_
  refine Tr.iload_n (pc := 4) (i := 2) d_X5_declarations_4 rfl rfl ?_
  refine Tr.sipush (pc := 5) d_X5_declarations_5 rfl (by decide) ?_
  refine Tr.icmp_ge (pc := 8) (tgt := 70) d_X5_declarations_8 rfl (fun hc => absurd hc (by decide)) (fun _ => ?_)
  refine Tr.iload_n (pc := 11) (i := 1) d_X5_declarations_11 rfl rfl ?_
  refine Tr.if_eq (pc := 12) (tgt := 70) d_X5_declarations_12 rfl (fun hc => absurd hc (by decide)) (fun _ => ?_)
  refine Tr.aload_n (pc := 15) (i := 0) d_X5_declarations_15 rfl rfl ?_
  refine Tr.getf (pc := 16) d_X5_declarations_16 f_5_18 (by decide) (by decide) (ty_6 hF) ?_
  refine Tr.tp 2 ((rd_wb _ rfl).trans ((rd_wb _ rfl).trans ((rd_wb _ rfl).trans ((rd_wb _ rfl).trans ((rd_wb _ rfl).trans ((rd_wb _ rfl).trans ((rd_fb _ rfl).trans ((rd_fb _ rfl).trans ((rd_fb _ rfl).trans ((rd_fb _ rfl).trans ((rd_fb _ rfl).trans ((rd_wb _ rfl).trans ((rd_wb _ rfl).trans ((rd_wb _ rfl).trans ((rd_wb _ rfl).trans ((rd_wb _ rfl).trans ((rd_wb _ rfl).trans (rd_ws _ _ _ _)))))))))))))))))) ?_
  refine Tr.getf (pc := 19) d_X5_declarations_19 f_5_50 (by decide) (by decide) (ty_2 hF) ?_
  refine Tr.tp 3 (fx_2_0 hF) ?_
  refine Tr.aload_n (pc := 22) (i := 0) d_X5_declarations_22 rfl rfl ?_
  refine Tr.getf (pc := 23) d_X5_declarations_23 f_5_36 (by decide) (by decide) (ty_6 hF) ?_
  refine Tr.tp 0 ((rd_wb _ rfl).trans ((rd_wb _ rfl).trans ((rd_wb _ rfl).trans (rd_ws _ _ _ _)))) ?_
  refine Tr.iald (pc := 26) d_X5_declarations_26 (ty_3 hF) (by decide) (by decide) ?_
  refine Tr.tp 0 ((rd_wb _ rfl).trans ((rd_wb _ rfl).trans ((rd_wb _ rfl).trans ((rd_wb _ rfl).trans ((rd_wb _ rfl).trans ((rd_wb _ rfl).trans ((rd_fb _ rfl).trans ((rd_fb _ rfl).trans ((rd_fb _ rfl).trans ((rd_fb _ rfl).trans ((rd_fb _ rfl).trans ((rd_wb _ rfl).trans ((rd_wb _ rfl).trans ((rd_wb _ rfl).trans ((rd_wb _ rfl).trans ((rd_wb _ rfl).trans ((rd_wb _ rfl).trans ((rd_wb _ rfl).trans ((rd_wb _ rfl).trans ((rd_wb _ rfl).trans ((rd_wb _ rfl).trans ((rd_wb _ rfl).trans (rd_ws _ _ _ _))))))))))))))))))))))) ?_
  refine Tr.iconst (pc := 27) d_X5_declarations_27 (by decide) ?_
  refine Tr.icmp_ne (pc := 28) (tgt := 70) d_X5_declarations_28 rfl (fun _ => ?_) (fun hc => absurd hc (by decide))
  refine Tr.iload_n (pc := 70) (i := 1) d_X5_declarations_70 rfl rfl ?_
  refine Tr.zret (pc := 71) d_X5_declarations_71 rfl (by decide) ?_
  refine Tr.sc [_] rfl ?_
  refine Tr.if_eq (pc := 49) (tgt := 62) d_X5_read_49 rfl (fun hc => absurd hc (by decide)) (fun _ => ?_)
  refine Tr.aload_n (pc := 52) (i := 0) d_X5_read_52 rfl rfl ?_
  refine Tr.iconst (pc := 53) d_X5_read_53 (by decide) ?_
  refine Tr.callV (pc := 54) (as := [_]) d_X5_read_54 s_5_46 ok_X5_orders rfl rfl (Nat.le_of_ble_eq_true rfl) (Nat.le_of_ble_eq_true rfl) (by decide) (ty_6 hF) ?_
  refine Tr.lc [(0, (2, 6)), (1, (0, (-1)))] rfl ?_
  refine Tr.iconst (pc := 0) d_X5_orders_0 (by decide) ?_
  refine Tr.istore_n (pc := 1) (i := 2) (ls2 := [(2, (0, (-1))), (0, (2, 6)), (1, (0, (-1)))]) d_X5_orders_1 rfl (by decide) rfl ?_
  refine Tr.iconst (pc := 2) d_X5_orders_2 (by decide) ?_
  refine Tr.istore_n (pc := 3) (i := 3) (ls2 := [(3, (0, (-1))), (2, (0, (-1))), (0, (2, 6)), (1, (0, (-1)))]) d_X5_orders_3 rfl (by decide) rfl ?_
  refine Tr.iconst (pc := 4) d_X5_orders_4 (by decide) ?_
  refine Tr.istore (pc := 5) (i := 4) (ls2 := [(4, (0, 0)), (3, (0, (-1))), (2, (0, (-1))), (0, (2, 6)), (1, (0, (-1)))]) d_X5_orders_5 (by decide) rfl ?_
  refine Tr.iload (pc := 7) (i := 4) d_X5_orders_7 rfl ?_
  refine Tr.bipush (pc := 9) d_X5_orders_9 rfl (by decide) ?_
  refine Tr.icmp_gt (pc := 11) (tgt := 111) d_X5_orders_11 rfl (fun hc => absurd hc (by decide)) (fun _ => ?_)
  refine Tr.aload_n (pc := 14) (i := 0) d_X5_orders_14 rfl rfl ?_
  refine Tr.callV (pc := 15) (as := []) d_X5_orders_15 s_5_154 ok_X5_isOrder rfl rfl (Nat.le_of_ble_eq_true rfl) (Nat.le_of_ble_eq_true rfl) (by decide) (ty_6 hF) ?_
  refine Tr.lc [(0, (2, 6))] rfl ?_
  refine Tr.aload_n (pc := 0) (i := 0) d_X5_isOrder_0 rfl rfl ?_
  refine Tr.getf (pc := 1) d_X5_isOrder_1 f_5_18 (by decide) (by decide) (ty_6 hF) ?_
  refine Tr.tp 2 ((rd_wb _ rfl).trans ((rd_wb _ rfl).trans ((rd_wb _ rfl).trans ((rd_wb _ rfl).trans ((rd_wb _ rfl).trans ((rd_wb _ rfl).trans ((rd_fb _ rfl).trans ((rd_fb _ rfl).trans ((rd_fb _ rfl).trans ((rd_fb _ rfl).trans ((rd_fb _ rfl).trans ((rd_wb _ rfl).trans ((rd_wb _ rfl).trans ((rd_wb _ rfl).trans ((rd_wb _ rfl).trans ((rd_wb _ rfl).trans ((rd_wb _ rfl).trans (rd_ws _ _ _ _)))))))))))))))))) ?_
  refine Tr.getf (pc := 4) d_X5_isOrder_4 f_5_68 (by decide) (by decide) (ty_2 hF) ?_
  refine Tr.tp 5 (fx_2_2 hF) ?_
  refine Tr.aload_n (pc := 7) (i := 0) d_X5_isOrder_7 rfl rfl ?_
  refine Tr.getf (pc := 8) d_X5_isOrder_8 f_5_36 (by decide) (by decide) (ty_6 hF) ?_
  refine Tr.tp 0 ((rd_wb _ rfl).trans ((rd_wb _ rfl).trans ((rd_wb _ rfl).trans (rd_ws _ _ _ _)))) ?_
  refine Tr.iald (pc := 11) d_X5_isOrder_11 (ty_5 hF) (by decide) (by decide) ?_
  refine Tr.tp 0 ((rd_wb _ rfl).trans ((rd_wb _ rfl).trans ((rd_wb _ rfl).trans ((rd_wb _ rfl).trans ((rd_wb _ rfl).trans ((rd_wb _ rfl).trans ((rd_fb _ rfl).trans ((rd_fb _ rfl).trans ((rd_fb _ rfl).trans ((rd_fb _ rfl).trans ((rd_fb _ rfl).trans ((rd_wb _ rfl).trans ((rd_wb _ rfl).trans ((rd_wb _ rfl).trans ((rd_wb _ rfl).trans ((rd_wb _ rfl).trans ((rd_wb _ rfl).trans ((rd_wb _ rfl).trans ((rd_wb _ rfl).trans ((rd_wb _ rfl).trans (rd_ws _ _ _ _))))))))))))))))))))) ?_
  refine Tr.istore_n (pc := 12) (i := 1) (ls2 := [(1, (0, 0)), (0, (2, 6))]) d_X5_isOrder_12 rfl (by decide) rfl ?_
  refine Tr.aload_n (pc := 13) (i := 0) d_X5_isOrder_13 rfl rfl ?_
  refine Tr.getf (pc := 14) d_X5_isOrder_14 f_5_18 (by decide) (by decide) (ty_6 hF) ?_
  refine Tr.tp 2 ((rd_wb _ rfl).trans ((rd_wb _ rfl).trans ((rd_wb _ rfl).trans ((rd_wb _ rfl).trans ((rd_wb _ rfl).trans ((rd_wb _ rfl).trans ((rd_fb _ rfl).trans ((rd_fb _ rfl).trans ((rd_fb _ rfl).trans ((rd_fb _ rfl).trans ((rd_fb _ rfl).trans ((rd_wb _ rfl).trans ((rd_wb _ rfl).trans ((rd_wb _ rfl).trans ((rd_wb _ rfl).trans ((rd_wb _ rfl).trans ((rd_wb _ rfl).trans (rd_ws _ _ _ _)))))))))))))))))) ?_
  refine Tr.getf (pc := 17) d_X5_isOrder_17 f_5_50 (by decide) (by decide) (ty_2 hF) ?_
  refine Tr.tp 3 (fx_2_0 hF) ?_
  refine Tr.aload_n (pc := 20) (i := 0) d_X5_isOrder_20 rfl rfl ?_
  refine Tr.getf (pc := 21) d_X5_isOrder_21 f_5_36 (by decide) (by decide) (ty_6 hF) ?_
  refine Tr.tp 0 ((rd_wb _ rfl).trans ((rd_wb _ rfl).trans ((rd_wb _ rfl).trans (rd_ws _ _ _ _)))) ?_
  refine Tr.iald (pc := 24) d_X5_isOrder_24 (ty_3 hF) (by decide) (by decide) ?_
  refine Tr.tp 0 ((rd_wb _ rfl).trans ((rd_wb _ rfl).trans ((rd_wb _ rfl).trans ((rd_wb _ rfl).trans ((rd_wb _ rfl).trans ((rd_wb _ rfl).trans ((rd_fb _ rfl).trans ((rd_fb _ rfl).trans ((rd_fb _ rfl).trans ((rd_fb _ rfl).trans ((rd_fb _ rfl).trans ((rd_wb _ rfl).trans ((rd_wb _ rfl).trans ((rd_wb _ rfl).trans ((rd_wb _ rfl).trans ((rd_wb _ rfl).trans ((rd_wb _ rfl).trans ((rd_wb _ rfl).trans ((rd_wb _ rfl).trans ((rd_wb _ rfl).trans ((rd_wb _ rfl).trans ((rd_wb _ rfl).trans (rd_ws _ _ _ _))))))))))))))))))))))) ?_
  refine Tr.iconst (pc := 25) d_X5_isOrder_25 (by decide) ?_
  refine Tr.icmp_ne (pc := 26) (tgt := 44) d_X5_isOrder_26 rfl (fun _ => ?_) (fun hc => absurd hc (by decide))
  refine Tr.iconst (pc := 44) d_X5_isOrder_44 (by decide) ?_
  refine Tr.zret (pc := 45) d_X5_isOrder_45 rfl (by decide) ?_
  refine Tr.sc [_] rfl ?_
  refine Tr.if_eq (pc := 18) (tgt := 111) d_X5_orders_18 rfl (fun _ => ?_) (fun hc => absurd (by decide) hc)
  refine Tr.iload_n (pc := 111) (i := 2) d_X5_orders_111 rfl rfl ?_
  refine Tr.iret (pc := 112) d_X5_orders_112 rfl ?_
  refine Tr.sc [_] rfl ?_
  refine Tr.bipush (pc := 57) d_X5_read_57 rfl (by decide) ?_
  refine Tr.icmp_ne (pc := 59) (tgt := 64) d_X5_read_59 rfl (fun _ => ?_) (fun hc => absurd hc (by decide))
  refine Tr.aload_n (pc := 64) (i := 0) d_X5_read_64 rfl rfl ?_
  refine Tr.getf (pc := 65) d_X5_read_65 f_5_18 (by decide) (by decide) (ty_6 hF) ?_
  refine Tr.tp 2 ((rd_wb _ rfl).trans ((rd_wb _ rfl).trans ((rd_wb _ rfl).trans ((rd_wb _ rfl).trans ((rd_wb _ rfl).trans ((rd_wb _ rfl).trans ((rd_fb _ rfl).trans ((rd_fb _ rfl).trans ((rd_fb _ rfl).trans ((rd_fb _ rfl).trans ((rd_fb _ rfl).trans ((rd_wb _ rfl).trans ((rd_wb _ rfl).trans ((rd_wb _ rfl).trans ((rd_wb _ rfl).trans ((rd_wb _ rfl).trans ((rd_wb _ rfl).trans (rd_ws _ _ _ _)))))))))))))))))) ?_
  refine Tr.getf (pc := 68) d_X5_read_68 f_5_50 (by decide) (by decide) (ty_2 hF) ?_
  refine Tr.tp 3 (fx_2_0 hF) ?_
  refine Tr.aload_n (pc := 71) (i := 0) d_X5_read_71 rfl rfl ?_
  refine Tr.getf (pc := 72) d_X5_read_72 f_5_36 (by decide) (by decide) (ty_6 hF) ?_
  refine Tr.tp 0 ((rd_wb _ rfl).trans ((rd_wb _ rfl).trans ((rd_wb _ rfl).trans (rd_ws _ _ _ _)))) ?_
  refine Tr.iald (pc := 75) d_X5_read_75 (ty_3 hF) (by decide) (by decide) ?_
  refine Tr.tp 0 ((rd_wb _ rfl).trans ((rd_wb _ rfl).trans ((rd_wb _ rfl).trans ((rd_wb _ rfl).trans ((rd_wb _ rfl).trans ((rd_wb _ rfl).trans ((rd_fb _ rfl).trans ((rd_fb _ rfl).trans ((rd_fb _ rfl).trans ((rd_fb _ rfl).trans ((rd_fb _ rfl).trans ((rd_wb _ rfl).trans ((rd_wb _ rfl).trans ((rd_wb _ rfl).trans ((rd_wb _ rfl).trans ((rd_wb _ rfl).trans ((rd_wb _ rfl).trans ((rd_wb _ rfl).trans ((rd_wb _ rfl).trans ((rd_wb _ rfl).trans ((rd_wb _ rfl).trans ((rd_wb _ rfl).trans (rd_ws _ _ _ _))))))))))))))))))))))) ?_
  refine Tr.if_eq (pc := 76) (tgt := 85) d_X5_read_76 rfl (fun _ => ?_) (fun hc => absurd (by decide) hc)
  refine Tr.aload_n (pc := 85) (i := 0) d_X5_read_85 rfl rfl ?_
  refine Tr.getf (pc := 86) d_X5_read_86 f_5_32 (by decide) (by decide) (ty_6 hF) ?_
  refine Tr.tp 35 ((rd_wb _ rfl).trans ((rd_wb _ rfl).trans ((rd_wb _ rfl).trans ((rd_wb _ rfl).trans ((rd_wb _ rfl).trans ((rd_wb _ rfl).trans ((rd_fb _ rfl).trans ((rd_fb _ rfl).trans ((rd_fb _ rfl).trans ((rd_fb _ rfl).trans ((rd_fb _ rfl).trans ((rd_wb _ rfl).trans ((rd_wb _ rfl).trans ((rd_wb _ rfl).trans ((rd_wb _ rfl).trans (rd_ws _ _ _ _)))))))))))))))) ?_
  refine Tr.callV (pc := 89) (as := []) d_X5_read_89 s_5_60 ok_X4_link rfl rfl (Nat.le_of_ble_eq_true rfl) (Nat.le_of_ble_eq_true rfl) (by decide) (ty_35 hF) ?_
  refine Tr.lc [(0, (2, 35))] rfl ?_
  refine Tr.aload_n (pc := 0) (i := 0) d_X4_link_0 rfl rfl ?_
  refine Tr.getf (pc := 1) d_X4_link_1 f_4_18 (by decide) (by decide) (ty_35 hF) ?_
  refine Tr.tp 38 (fx_35_3 hF) ?_
  refine Tr.aload_n (pc := 4) (i := 0) d_X4_link_4 rfl rfl ?_
  refine Tr.getf (pc := 5) d_X4_link_5 f_4_45 (by decide) (by decide) (ty_35 hF) ?_
  refine Tr.tp 0 ((rd_wb _ rfl).trans ((rd_wb _ rfl).trans ((rd_wb _ rfl).trans ((rd_wb _ rfl).trans ((rd_wb _ rfl).trans (rd_ws _ _ _ _)))))) ?_
  refine Tr.aload_n (pc := 8) (i := 0) d_X4_link_8 rfl rfl ?_
  refine Tr.getf (pc := 9) d_X4_link_9 f_4_49 (by decide) (by decide) (ty_35 hF) ?_
  refine Tr.tp 0 ((rd_wb _ rfl).trans ((rd_wb _ rfl).trans ((rd_wb _ rfl).trans ((rd_wb _ rfl).trans (rd_ws _ _ _ _))))) ?_
  refine Tr.iastX (pc := 12) d_X4_link_12 (ty_38 hF) (by decide) (by decide) hF (by decide +kernel) (fun hF => ?_)
  refine Tr.iconst (pc := 13) d_X4_link_13 (by decide) ?_
  refine Tr.istore_n (pc := 14) (i := 1) (ls2 := [(1, (0, 0)), (0, (2, 35))]) d_X4_link_14 rfl (by decide) rfl ?_
  refine Tr.iload_n (pc := 15) (i := 1) d_X4_link_15 rfl rfl ?_
  refine Tr.aload_n (pc := 16) (i := 0) d_X4_link_16 rfl rfl ?_
  refine Tr.getf (pc := 17) d_X4_link_17 f_4_45 (by decide) (by decide) (ty_35 hF) ?_
  refine Tr.tp 0 ((rd_wb _ rfl).trans ((rd_wb _ rfl).trans ((rd_wb _ rfl).trans ((rd_wb _ rfl).trans ((rd_wb _ rfl).trans ((rd_wb _ rfl).trans (rd_ws _ _ _ _))))))) ?_
  refine Tr.icmp_ge (pc := 20) (tgt := 107) d_X4_link_20 rfl (fun _ => ?_) (fun hc => absurd (by decide) hc)
  refine Tr.vret (pc := 107) d_X4_link_107 rfl ?_
  refine Tr.sc [] rfl ?_
  refine Tr.iconst (pc := 92) d_X5_read_92 (by decide) ?_
  refine Tr.zret (pc := 93) d_X5_read_93 rfl (by decide) ?_
  refine Tr.sc [_] rfl ?_
  refine Tr.if_ne (pc := 35) (tgt := 40) d_X11_text_35 rfl (fun _ => ?_) (fun hc => absurd hc (by decide))
  refine Tr.aload_n (pc := 40) (i := 0) d_X11_text_40 rfl rfl ?_
  refine Tr.getf (pc := 41) d_X11_text_41 f_11_30 (by decide) (by decide) (ty_0 hF) ?_
  refine Tr.tp 7 ((rd_wb _ rfl).trans ((rd_wb _ rfl).trans ((rd_wb _ rfl).trans ((rd_wb _ rfl).trans ((rd_wb _ rfl).trans ((rd_wb _ rfl).trans ((rd_wb _ rfl).trans ((rd_fb _ rfl).trans ((rd_fb _ rfl).trans ((rd_fb _ rfl).trans ((rd_fb _ rfl).trans ((rd_fb _ rfl).trans ((rd_wb _ rfl).trans ((rd_wb _ rfl).trans ((rd_wb _ rfl).trans ((rd_wb _ rfl).trans ((rd_wb _ rfl).trans ((rd_wb _ rfl).trans ((rd_wb _ rfl).trans ((rd_wb _ rfl).trans ((rd_wb _ rfl).trans ((rd_wb _ rfl).trans ((rd_wb _ rfl).trans ((rd_wb _ rfl).trans ((rd_wb _ rfl).trans ((rd_wb _ rfl).trans ((rd_wb _ rfl).trans (b_0_4)))))))))))))))))))))))))))) ?_
  refine Tr.astore_n (pc := 44) (i := 1) (ls2 := [(1, (2, 7)), (0, (2, 0))]) d_X11_text_44 rfl (by decide) rfl ?_
  refine Tr.aload_n (pc := 45) (i := 0) d_X11_text_45 rfl rfl ?_
  refine Tr.aload_n (pc := 46) (i := 0) d_X11_text_46 rfl rfl ?_
  refine Tr.getf (pc := 47) d_X11_text_47 f_11_34 (by decide) (by decide) (ty_0 hF) ?_
  refine Tr.tp 27 ((rd_wb _ rfl).trans ((rd_wb _ rfl).trans ((rd_wb _ rfl).trans ((rd_wb _ rfl).trans ((rd_wb _ rfl).trans ((rd_wb _ rfl).trans ((rd_wb _ rfl).trans ((rd_fb _ rfl).trans ((rd_fb _ rfl).trans ((rd_fb _ rfl).trans ((rd_fb _ rfl).trans ((rd_fb _ rfl).trans ((rd_wb _ rfl).trans ((rd_wb _ rfl).trans ((rd_wb _ rfl).trans ((rd_wb _ rfl).trans ((rd_wb _ rfl).trans ((rd_wb _ rfl).trans ((rd_wb _ rfl).trans ((rd_wb _ rfl).trans ((rd_wb _ rfl).trans ((rd_wb _ rfl).trans ((rd_wb _ rfl).trans ((rd_wb _ rfl).trans ((rd_wb _ rfl).trans ((rd_wb _ rfl).trans ((rd_wb _ rfl).trans (b_0_5)))))))))))))))))))))))))))) ?_
  refine Tr.putfX (pc := 50) d_X11_text_50 f_11_30 (by decide) (by decide) (ty_0 hF) hF (by decide +kernel) (fun hF => ?_)
  refine Tr.aload_n (pc := 53) (i := 0) d_X11_text_53 rfl rfl ?_
  refine Tr.aload_n (pc := 54) (i := 1) d_X11_text_54 rfl rfl ?_
  refine Tr.putfX (pc := 55) d_X11_text_55 f_11_34 (by decide) (by decide) (ty_0 hF) hF (by decide +kernel) (fun hF => ?_)
  refine Tr.aload_n (pc := 58) (i := 0) d_X11_text_58 rfl rfl ?_
  refine Tr.getf (pc := 59) d_X11_text_59 f_11_30 (by decide) (by decide) (ty_0 hF) ?_
  refine Tr.tp 27 ((rd_wb _ rfl).trans (rd_ws _ _ _ _)) ?_
  refine Tr.getf (pc := 62) d_X11_text_62 f_11_100 (by decide) (by decide) (ty_27 hF) ?_
  refine Tr.tp 32 (fx_27_8 hF) ?_
  refine Tr.iconst (pc := 65) d_X11_text_65 (by decide) ?_
  refine Tr.aload_n (pc := 66) (i := 0) d_X11_text_66 rfl rfl ?_
  refine Tr.getf (pc := 67) d_X11_text_67 f_11_37 (by decide) (by decide) (ty_0 hF) ?_
  refine Tr.tp 47 (fx_0_6 hF) ?_
  refine Tr.iconst (pc := 70) d_X11_text_70 (by decide) ?_
  refine Tr.iconst (pc := 71) d_X11_text_71 (by decide) ?_
  refine Tr.acopyX (pc := 72) (x := 32) (y := 47) d_X11_text_72 ac_11_103 acw.1 acw.2.1 acw.2.2 (ty_32 hF) (ty_47 hF) (by decide) (by decide) (by decide) (by decide) (by decide) (Nat.le_of_ble_eq_true rfl) hF (by decide +kernel) (fun hF => ?_)
  refine Tr.aload_n (pc := 75) (i := 0) d_X11_text_75 rfl rfl ?_
  refine Tr.iconst (pc := 76) d_X11_text_76 (by decide) ?_
  refine Tr.putzX (pc := 77) d_X11_text_77 f_11_109 (by decide) (ty_0 hF) (by decide) hF (by decide +kernel) (fun hF => ?_)
  refine Tr.aload_n (pc := 80) (i := 0) d_X11_text_80 rfl rfl ?_
  refine Tr.getf (pc := 81) d_X11_text_81 f_11_63 (by decide) (by decide) (ty_0 hF) ?_
  refine Tr.tp 103 (fx_0_11 hF) ?_
  refine Tr.callV (pc := 84) (as := []) d_X11_text_84 s_11_113 ok_X10_clear rfl rfl (Nat.le_of_ble_eq_true rfl) (Nat.le_of_ble_eq_true rfl) (by decide) (ty_103 hF) ?_
  refine Tr.lc [(0, (2, 103))] rfl ?_
  refine Tr.aload_n (pc := 0) (i := 0) d_X10_clear_0 rfl rfl ?_
  refine Tr.iconst (pc := 1) d_X10_clear_1 (by decide) ?_
  refine Tr.putzX (pc := 2) d_X10_clear_2 f_10_21 (by decide) (ty_103 hF) (by decide) hF (by decide +kernel) (fun hF => ?_)
  refine Tr.vret (pc := 5) d_X10_clear_5 rfl ?_
  refine Tr.sc [] rfl ?_
  refine Tr.aload_n (pc := 87) (i := 0) d_X11_text_87 rfl rfl ?_
  refine Tr.getf (pc := 88) d_X11_text_88 f_11_70 (by decide) (by decide) (ty_0 hF) ?_
  refine Tr.tp 107 (fx_0_12 hF) ?_
  refine Tr.callV (pc := 91) (as := []) d_X11_text_91 s_11_114 ok_X2_clear rfl rfl (Nat.le_of_ble_eq_true rfl) (Nat.le_of_ble_eq_true rfl) (by decide) (ty_107 hF) ?_
  refine Tr.lc [(0, (2, 107))] rfl ?_
  refine Tr.aload_n (pc := 0) (i := 0) d_X2_clear_0 rfl rfl ?_
  refine Tr.iconst (pc := 1) d_X2_clear_1 (by decide) ?_
  refine Tr.putfX (pc := 2) d_X2_clear_2 f_2_27 (by decide) (by decide) (ty_107 hF) hF (by decide +kernel) (fun hF => ?_)
  refine Tr.aload_n (pc := 5) (i := 0) d_X2_clear_5 rfl rfl ?_
  refine Tr.iconst (pc := 6) d_X2_clear_6 (by decide) ?_
  refine Tr.putzX (pc := 7) d_X2_clear_7 f_2_31 (by decide) (ty_107 hF) (by decide) hF (by decide +kernel) (fun hF => ?_)
  refine Tr.vret (pc := 10) d_X2_clear_10 rfl ?_
  refine Tr.sc [] rfl ?_
  refine Tr.aload_n (pc := 94) (i := 0) d_X11_text_94 rfl rfl ?_
  refine Tr.getf (pc := 95) d_X11_text_95 f_11_30 (by decide) (by decide) (ty_0 hF) ?_
  refine Tr.tp 27 ((rd_wb _ rfl).trans ((rd_wb _ rfl).trans ((rd_wb _ rfl).trans ((rd_wb _ rfl).trans ((rd_cb _ rfl).trans ((rd_wb _ rfl).trans (rd_ws _ _ _ _))))))) ?_
  refine Tr.getf (pc := 98) d_X11_text_98 f_11_115 (by decide) (by decide) (ty_27 hF) ?_
  refine Tr.tp 35 (fx_27_11 hF) ?_
  refine Tr.getf (pc := 101) d_X11_text_101 f_11_119 (by decide) (by decide) (ty_35 hF) ?_
  refine Tr.tp 0 ((rd_wb _ rfl).trans ((rd_wb _ rfl).trans ((rd_wb _ rfl).trans ((rd_wb _ rfl).trans ((rd_cb _ rfl).trans ((rd_wb _ rfl).trans ((rd_wb _ rfl).trans ((rd_wb _ rfl).trans ((rd_wb _ rfl).trans ((rd_wb _ rfl).trans ((rd_wb _ rfl).trans ((rd_wb _ rfl).trans ((rd_wb _ rfl).trans (rd_ws _ _ _ _)))))))))))))) ?_
  refine Tr.iret (pc := 104) d_X11_text_104 rfl ?_
  refine Tr.sc [_] rfl ?_
  refine Tr.aload_n (pc := 250) (i := 2) d_L_law_250 rfl rfl ?_
  refine Tr.callV (pc := 251) (as := []) d_L_law_251 s_13_27 ok_X12_text rfl rfl (Nat.le_of_ble_eq_true rfl) (Nat.le_of_ble_eq_true rfl) (by decide) (ty_120 hF) ?_
  refine Tr.lc [(0, (2, 120))] rfl ?_
  refine Tr.aload_n (pc := 0) (i := 0) d_X12_text_0 rfl rfl ?_
  refine Tr.aload_n (pc := 1) (i := 0) d_X12_text_1 rfl rfl ?_
  refine Tr.getf (pc := 2) d_X12_text_2 f_12_13 (by decide) (by decide) (ty_120 hF) ?_
  refine Tr.tp 0 ((rd_wb _ rfl).trans ((rd_wb _ rfl).trans ((rd_wb _ rfl).trans ((rd_wb _ rfl).trans ((rd_cb _ rfl).trans ((rd_wb _ rfl).trans ((rd_wb _ rfl).trans ((rd_wb _ rfl).trans ((rd_wb _ rfl).trans ((rd_wb _ rfl).trans ((rd_wb _ rfl).trans ((rd_wb _ rfl).trans ((rd_wb _ rfl).trans ((rd_wb _ rfl).trans ((rd_fb _ rfl).trans ((rd_fb _ rfl).trans ((rd_fb _ rfl).trans ((rd_fb _ rfl).trans ((rd_fb _ rfl).trans ((rd_wb _ rfl).trans ((rd_wb _ rfl).trans ((rd_wb _ rfl).trans ((rd_wb _ rfl).trans ((rd_wb _ rfl).trans ((rd_wb _ rfl).trans ((rd_wb _ rfl).trans ((rd_wb _ rfl).trans ((rd_wb _ rfl).trans ((rd_wb _ rfl).trans ((rd_wb _ rfl).trans ((rd_wb _ rfl).trans ((rd_wb _ rfl).trans ((rd_wb _ rfl).trans ((rd_wb _ rfl).trans (b_120_1))))))))))))))))))))))))))))))))))) ?_
  refine Tr.putfX (pc := 5) d_X12_text_5 f_12_17 (by decide) (by decide) (ty_120 hF) hF (by decide +kernel) (fun hF => ?_)
  refine Tr.aload_n (pc := 8) (i := 0) d_X12_text_8 rfl rfl ?_
  refine Tr.iconst (pc := 9) d_X12_text_9 (by decide) ?_
  refine Tr.putfX (pc := 10) d_X12_text_10 f_12_13 (by decide) (by decide) (ty_120 hF) hF (by decide +kernel) (fun hF => ?_)
  refine Tr.aload_n (pc := 13) (i := 0) d_X12_text_13 rfl rfl ?_
  refine Tr.iconst (pc := 14) d_X12_text_14 (by decide) ?_
  refine Tr.putfX (pc := 15) d_X12_text_15 f_12_26 (by decide) (by decide) (ty_120 hF) hF (by decide +kernel) (fun hF => ?_)
  refine Tr.aload_n (pc := 18) (i := 0) d_X12_text_18 rfl rfl ?_
  refine Tr.iconst (pc := 19) d_X12_text_19 (by decide) ?_
  refine Tr.putfX (pc := 20) d_X12_text_20 f_12_36 (by decide) (by decide) (ty_120 hF) hF (by decide +kernel) (fun hF => ?_)
  refine Tr.aload_n (pc := 23) (i := 0) d_X12_text_23 rfl rfl ?_
  refine Tr.iconst (pc := 24) d_X12_text_24 (by decide) ?_
  refine Tr.putfX (pc := 25) d_X12_text_25 f_12_39 (by decide) (by decide) (ty_120 hF) hF (by decide +kernel) (fun hF => ?_)
  refine Tr.aload_n (pc := 28) (i := 0) d_X12_text_28 rfl rfl ?_
  refine Tr.iconst (pc := 29) d_X12_text_29 (by decide) ?_
  refine Tr.aload_n (pc := 30) (i := 0) d_X12_text_30 rfl rfl ?_
  refine Tr.getf (pc := 31) d_X12_text_31 f_12_48 (by decide) (by decide) (ty_120 hF) ?_
  refine Tr.tp 0 ((rd_wb _ rfl).trans ((rd_wb _ rfl).trans ((rd_wb _ rfl).trans ((rd_wb _ rfl).trans ((rd_wb _ rfl).trans ((rd_wb _ rfl).trans ((rd_wb _ rfl).trans ((rd_wb _ rfl).trans ((rd_wb _ rfl).trans ((rd_cb _ rfl).trans ((rd_wb _ rfl).trans ((rd_wb _ rfl).trans ((rd_wb _ rfl).trans ((rd_wb _ rfl).trans ((rd_wb _ rfl).trans ((rd_wb _ rfl).trans ((rd_wb _ rfl).trans ((rd_wb _ rfl).trans ((rd_wb _ rfl).trans ((rd_fb _ rfl).trans ((rd_fb _ rfl).trans ((rd_fb _ rfl).trans ((rd_fb _ rfl).trans ((rd_fb _ rfl).trans ((rd_wb _ rfl).trans ((rd_wb _ rfl).trans ((rd_wb _ rfl).trans ((rd_wb _ rfl).trans ((rd_wb _ rfl).trans ((rd_wb _ rfl).trans ((rd_wb _ rfl).trans ((rd_wb _ rfl).trans ((rd_wb _ rfl).trans ((rd_wb _ rfl).trans ((rd_wb _ rfl).trans ((rd_wb _ rfl).trans ((rd_wb _ rfl).trans ((rd_wb _ rfl).trans ((rd_wb _ rfl).trans (b_120_12)))))))))))))))))))))))))))))))))))))))) ?_
  refine Tr.isub (pc := 34) d_X12_text_34 ?_
  refine Tr.tp 1 rfl ?_
  refine Tr.putfX (pc := 35) d_X12_text_35 f_12_124 (by decide) (by decide) (ty_120 hF) hF (by decide +kernel) (fun hF => ?_)
  refine Tr.aload_n (pc := 38) (i := 0) d_X12_text_38 rfl rfl ?_
  refine Tr.getf (pc := 39) d_X12_text_39 f_12_51 (by decide) (by decide) (ty_120 hF) ?_
  refine Tr.tp 122 (fx_120_13 hF) ?_
  refine Tr.aload_n (pc := 42) (i := 0) d_X12_text_42 rfl rfl ?_
  refine Tr.getf (pc := 43) d_X12_text_43 f_12_124 (by decide) (by decide) (ty_120 hF) ?_
  refine Tr.tp 1 (rd_ws _ _ _ _) ?_
  refine Tr.iconst (pc := 46) d_X12_text_46 (by decide) ?_
  refine Tr.iastX (pc := 47) d_X12_text_47 (ty_122 hF) (by decide) (by decide) hF (by decide +kernel) (fun hF => ?_)
  refine Tr.aload_n (pc := 48) (i := 0) d_X12_text_48 rfl rfl ?_
  refine Tr.getf (pc := 49) d_X12_text_49 f_12_54 (by decide) (by decide) (ty_120 hF) ?_
  refine Tr.tp 123 (fx_120_14 hF) ?_
  refine Tr.aload_n (pc := 52) (i := 0) d_X12_text_52 rfl rfl ?_
  refine Tr.getf (pc := 53) d_X12_text_53 f_12_124 (by decide) (by decide) (ty_120 hF) ?_
  refine Tr.tp 1 ((rd_wb _ rfl).trans (rd_ws _ _ _ _)) ?_
  refine Tr.iconst (pc := 56) d_X12_text_56 (by decide) ?_
  refine Tr.iastX (pc := 57) d_X12_text_57 (ty_123 hF) (by decide) (by decide) hF (by decide +kernel) (fun hF => ?_)
  refine Tr.aload_n (pc := 58) (i := 0) d_X12_text_58 rfl rfl ?_
  refine Tr.getf (pc := 59) d_X12_text_59 f_12_57 (by decide) (by decide) (ty_120 hF) ?_
  refine Tr.tp 124 (fx_120_15 hF) ?_
  refine Tr.aload_n (pc := 62) (i := 0) d_X12_text_62 rfl rfl ?_
  refine Tr.getf (pc := 63) d_X12_text_63 f_12_124 (by decide) (by decide) (ty_120 hF) ?_
  refine Tr.tp 1 ((rd_wb _ rfl).trans ((rd_wb _ rfl).trans (rd_ws _ _ _ _))) ?_
  refine Tr.iconst (pc := 66) d_X12_text_66 (by decide) ?_
  refine Tr.iastX (pc := 67) d_X12_text_67 (ty_124 hF) (by decide) (by decide) hF (by decide +kernel) (fun hF => ?_)
  refine Tr.aload_n (pc := 68) (i := 0) d_X12_text_68 rfl rfl ?_
  refine Tr.getf (pc := 69) d_X12_text_69 f_12_60 (by decide) (by decide) (ty_120 hF) ?_
  refine Tr.tp 125 (fx_120_16 hF) ?_
  refine Tr.aload_n (pc := 72) (i := 0) d_X12_text_72 rfl rfl ?_
  refine Tr.getf (pc := 73) d_X12_text_73 f_12_124 (by decide) (by decide) (ty_120 hF) ?_
  refine Tr.tp 1 ((rd_wb _ rfl).trans ((rd_wb _ rfl).trans ((rd_wb _ rfl).trans (rd_ws _ _ _ _)))) ?_
  refine Tr.iconst (pc := 76) d_X12_text_76 (by decide) ?_
  refine Tr.iastX (pc := 77) d_X12_text_77 (ty_125 hF) (by decide) (by decide) hF (by decide +kernel) (fun hF => ?_)
  refine Tr.aload_n (pc := 78) (i := 0) d_X12_text_78 rfl rfl ?_
  refine Tr.getf (pc := 79) d_X12_text_79 f_12_63 (by decide) (by decide) (ty_120 hF) ?_
  refine Tr.tp 126 (fx_120_17 hF) ?_
  refine Tr.aload_n (pc := 82) (i := 0) d_X12_text_82 rfl rfl ?_
  refine Tr.getf (pc := 83) d_X12_text_83 f_12_124 (by decide) (by decide) (ty_120 hF) ?_
  refine Tr.tp 1 ((rd_wb _ rfl).trans ((rd_wb _ rfl).trans ((rd_wb _ rfl).trans ((rd_wb _ rfl).trans (rd_ws _ _ _ _))))) ?_
  refine Tr.iconst (pc := 86) d_X12_text_86 (by decide) ?_
  refine Tr.iastX (pc := 87) d_X12_text_87 (ty_126 hF) (by decide) (by decide) hF (by decide +kernel) (fun hF => ?_)
  refine Tr.aload_n (pc := 88) (i := 0) d_X12_text_88 rfl rfl ?_
  refine Tr.getf (pc := 89) d_X12_text_89 f_12_66 (by decide) (by decide) (ty_120 hF) ?_
  refine Tr.tp 127 (fx_120_18 hF) ?_
  refine Tr.aload_n (pc := 92) (i := 0) d_X12_text_92 rfl rfl ?_
  refine Tr.getf (pc := 93) d_X12_text_93 f_12_124 (by decide) (by decide) (ty_120 hF) ?_
  refine Tr.tp 1 ((rd_wb _ rfl).trans ((rd_wb _ rfl).trans ((rd_wb _ rfl).trans ((rd_wb _ rfl).trans ((rd_wb _ rfl).trans (rd_ws _ _ _ _)))))) ?_
  refine Tr.iconst (pc := 96) d_X12_text_96 (by decide) ?_
  refine Tr.iastX (pc := 97) d_X12_text_97 (ty_127 hF) (by decide) (by decide) hF (by decide +kernel) (fun hF => ?_)
  refine Tr.aload_n (pc := 98) (i := 0) d_X12_text_98 rfl rfl ?_
  refine Tr.getf (pc := 99) d_X12_text_99 f_12_69 (by decide) (by decide) (ty_120 hF) ?_
  refine Tr.tp 128 (fx_120_19 hF) ?_
  refine Tr.aload_n (pc := 102) (i := 0) d_X12_text_102 rfl rfl ?_
  refine Tr.getf (pc := 103) d_X12_text_103 f_12_124 (by decide) (by decide) (ty_120 hF) ?_
  refine Tr.tp 1 ((rd_wb _ rfl).trans ((rd_wb _ rfl).trans ((rd_wb _ rfl).trans ((rd_wb _ rfl).trans ((rd_wb _ rfl).trans ((rd_wb _ rfl).trans (rd_ws _ _ _ _))))))) ?_
  refine Tr.iconst (pc := 106) d_X12_text_106 (by decide) ?_
  refine Tr.iastX (pc := 107) d_X12_text_107 (ty_128 hF) (by decide) (by decide) hF (by decide +kernel) (fun hF => ?_)
  refine Tr.aload_n (pc := 108) (i := 0) d_X12_text_108 rfl rfl ?_
  refine Tr.getf (pc := 109) d_X12_text_109 f_12_72 (by decide) (by decide) (ty_120 hF) ?_
  refine Tr.tp 129 (fx_120_20 hF) ?_
  refine Tr.aload_n (pc := 112) (i := 0) d_X12_text_112 rfl rfl ?_
  refine Tr.getf (pc := 113) d_X12_text_113 f_12_124 (by decide) (by decide) (ty_120 hF) ?_
  refine Tr.tp 1 ((rd_wb _ rfl).trans ((rd_wb _ rfl).trans ((rd_wb _ rfl).trans ((rd_wb _ rfl).trans ((rd_wb _ rfl).trans ((rd_wb _ rfl).trans ((rd_wb _ rfl).trans (rd_ws _ _ _ _)))))))) ?_
  refine Tr.iconst (pc := 116) d_X12_text_116 (by decide) ?_
  refine Tr.iastX (pc := 117) d_X12_text_117 (ty_129 hF) (by decide) (by decide) hF (by decide +kernel) (fun hF => ?_)
  refine Tr.aload_n (pc := 118) (i := 0) d_X12_text_118 rfl rfl ?_
  refine Tr.getf (pc := 119) d_X12_text_119 f_12_94 (by decide) (by decide) (ty_120 hF) ?_
  refine Tr.tp 136 (fx_120_27 hF) ?_
  refine Tr.aload_n (pc := 122) (i := 0) d_X12_text_122 rfl rfl ?_
  refine Tr.getf (pc := 123) d_X12_text_123 f_12_124 (by decide) (by decide) (ty_120 hF) ?_
  refine Tr.tp 1 ((rd_wb _ rfl).trans ((rd_wb _ rfl).trans ((rd_wb _ rfl).trans ((rd_wb _ rfl).trans ((rd_wb _ rfl).trans ((rd_wb _ rfl).trans ((rd_wb _ rfl).trans ((rd_wb _ rfl).trans (rd_ws _ _ _ _))))))))) ?_
  refine Tr.iconst (pc := 126) d_X12_text_126 (by decide) ?_
  refine Tr.iastX (pc := 127) d_X12_text_127 (ty_136 hF) (by decide) (by decide) hF (by decide +kernel) (fun hF => ?_)
  refine Tr.aload_n (pc := 128) (i := 0) d_X12_text_128 rfl rfl ?_
  refine Tr.iconst (pc := 129) d_X12_text_129 (by decide) ?_
  refine Tr.putfX (pc := 130) d_X12_text_130 f_12_121 (by decide) (by decide) (ty_120 hF) hF (by decide +kernel) (fun hF => ?_)
  refine Tr.aload_n (pc := 133) (i := 0) d_X12_text_133 rfl rfl ?_
  refine Tr.iconst (pc := 134) d_X12_text_134 (by decide) ?_
  refine Tr.putfX (pc := 135) d_X12_text_135 f_12_146 (by decide) (by decide) (ty_120 hF) hF (by decide +kernel) (fun hF => ?_)
  refine Tr.aload_n (pc := 138) (i := 0) d_X12_text_138 rfl rfl ?_
  refine Tr.iconst (pc := 139) d_X12_text_139 (by decide) ?_
  refine Tr.putfX (pc := 140) d_X12_text_140 f_12_165 (by decide) (by decide) (ty_120 hF) hF (by decide +kernel) (fun hF => ?_)
  refine Tr.aload_n (pc := 143) (i := 0) d_X12_text_143 rfl rfl ?_
  refine Tr.callV (pc := 144) (as := []) d_X12_text_144 s_12_396 ok_X12_next rfl rfl (Nat.le_of_ble_eq_true rfl) (Nat.le_of_ble_eq_true rfl) (by decide) (ty_120 hF) ?_
  refine Tr.lc [(0, (2, 120))] rfl ?_
  refine Tr.aload_n (pc := 0) (i := 0) d_X12_next_0 rfl rfl ?_
  refine Tr.getf (pc := 1) d_X12_next_1 f_12_26 (by decide) (by decide) (ty_120 hF) ?_
  refine Tr.tp 0 ((rd_wb _ rfl).trans ((rd_wb _ rfl).trans ((rd_wb _ rfl).trans ((rd_wb _ rfl).trans ((rd_wb _ rfl).trans ((rd_wb _ rfl).trans ((rd_wb _ rfl).trans ((rd_wb _ rfl).trans ((rd_wb _ rfl).trans ((rd_wb _ rfl).trans ((rd_wb _ rfl).trans ((rd_wb _ rfl).trans ((rd_wb _ rfl).trans ((rd_wb _ rfl).trans ((rd_wb _ rfl).trans (rd_ws _ _ _ _)))))))))))))))) ?_
  refine Tr.istore_n (pc := 4) (i := 1) (ls2 := [(1, (0, 0)), (0, (2, 120))]) d_X12_next_4 rfl (by decide) rfl ?_
  refine Tr.iload_n (pc := 5) (i := 1) d_X12_next_5 rfl rfl ?_
  refine Tr.aload_n (pc := 6) (i := 0) d_X12_next_6 rfl rfl ?_
  refine Tr.getf (pc := 7) d_X12_next_7 f_12_17 (by decide) (by decide) (ty_120 hF) ?_
  refine Tr.tp 0 ((rd_wb _ rfl).trans ((rd_wb _ rfl).trans ((rd_wb _ rfl).trans ((rd_wb _ rfl).trans ((rd_wb _ rfl).trans ((rd_wb _ rfl).trans ((rd_wb _ rfl).trans ((rd_wb _ rfl).trans ((rd_wb _ rfl).trans ((rd_wb _ rfl).trans ((rd_wb _ rfl).trans ((rd_wb _ rfl).trans ((rd_wb _ rfl).trans ((rd_wb _ rfl).trans ((rd_wb _ rfl).trans ((rd_wb _ rfl).trans ((rd_wb _ rfl).trans (rd_ws _ _ _ _)))))))))))))))))) ?_
  refine Tr.icmp_ge (pc := 10) (tgt := 41) d_X12_next_10 rfl (fun _ => ?_) (fun hc => absurd (by decide) hc)
  refine Tr.aload_n (pc := 41) (i := 0) d_X12_next_41 rfl rfl ?_
  refine Tr.iload_n (pc := 42) (i := 1) d_X12_next_42 rfl rfl ?_
  refine Tr.putfX (pc := 43) d_X12_next_43 f_12_23 (by decide) (by decide) (ty_120 hF) hF (by decide +kernel) (fun hF => ?_)
  refine Tr.aload_n (pc := 46) (i := 0) d_X12_next_46 rfl rfl ?_
  refine Tr.iload_n (pc := 47) (i := 1) d_X12_next_47 rfl rfl ?_
  refine Tr.putfX (pc := 48) d_X12_next_48 f_12_26 (by decide) (by decide) (ty_120 hF) hF (by decide +kernel) (fun hF => ?_)
  refine Tr.aload_n (pc := 51) (i := 0) d_X12_next_51 rfl rfl ?_
  refine Tr.iconst (pc := 52) d_X12_next_52 (by decide) ?_
  refine Tr.putfX (pc := 53) d_X12_next_53 f_12_20 (by decide) (by decide) (ty_120 hF) hF (by decide +kernel) (fun hF => ?_)
  refine Tr.iload_n (pc := 56) (i := 1) d_X12_next_56 rfl rfl ?_
  refine Tr.aload_n (pc := 57) (i := 0) d_X12_next_57 rfl rfl ?_
  refine Tr.getf (pc := 58) d_X12_next_58 f_12_17 (by decide) (by decide) (ty_120 hF) ?_
  refine Tr.tp 0 ((rd_wb _ rfl).trans ((rd_wb _ rfl).trans ((rd_wb _ rfl).trans ((rd_wb _ rfl).trans ((rd_wb _ rfl).trans ((rd_wb _ rfl).trans ((rd_wb _ rfl).trans ((rd_wb _ rfl).trans ((rd_wb _ rfl).trans ((rd_wb _ rfl).trans ((rd_wb _ rfl).trans ((rd_wb _ rfl).trans ((rd_wb _ rfl).trans ((rd_wb _ rfl).trans ((rd_wb _ rfl).trans ((rd_wb _ rfl).trans ((rd_wb _ rfl).trans ((rd_wb _ rfl).trans ((rd_wb _ rfl).trans ((rd_wb _ rfl).trans (rd_ws _ _ _ _))))))))))))))))))))) ?_
  refine Tr.icmp_lt (pc := 61) (tgt := 65) d_X12_next_61 rfl (fun hc => absurd hc (by decide)) (fun _ => ?_)
  refine Tr.vret (pc := 64) d_X12_next_64 rfl ?_
  refine Tr.sc [] rfl ?_
  refine Tr.iconst (pc := 147) d_X12_text_147 (by decide) ?_
  refine Tr.istore_n (pc := 148) (i := 1) (ls2 := [(1, (0, 1)), (0, (2, 120))]) d_X12_text_148 rfl (by decide) rfl ?_
  refine Tr.aload_n (pc := 149) (i := 0) d_X12_text_149 rfl rfl ?_
  refine Tr.getf (pc := 150) d_X12_text_150 f_12_36 (by decide) (by decide) (ty_120 hF) ?_
  refine Tr.tp 0 ((rd_wb _ rfl).trans ((rd_wb _ rfl).trans ((rd_wb _ rfl).trans ((rd_wb _ rfl).trans ((rd_wb _ rfl).trans ((rd_wb _ rfl).trans ((rd_wb _ rfl).trans ((rd_wb _ rfl).trans ((rd_wb _ rfl).trans ((rd_wb _ rfl).trans ((rd_wb _ rfl).trans ((rd_wb _ rfl).trans ((rd_wb _ rfl).trans ((rd_wb _ rfl).trans ((rd_wb _ rfl).trans ((rd_wb _ rfl).trans ((rd_wb _ rfl).trans (rd_ws _ _ _ _)))))))))))))))))) ?_
  refine Tr.if_ne (pc := 153) (tgt := 183) d_X12_text_153 rfl (fun hc => absurd (by decide) hc) (fun _ => ?_)
  refine Tr.iload_n (pc := 156) (i := 1) d_X12_text_156 rfl rfl ?_
  refine Tr.if_eq (pc := 157) (tgt := 183) d_X12_text_157 rfl (fun hc => absurd hc (by decide)) (fun _ => ?_)
  refine Tr.aload_n (pc := 160) (i := 0) d_X12_text_160 rfl rfl ?_
  refine Tr.getf (pc := 161) d_X12_text_161 f_12_20 (by decide) (by decide) (ty_120 hF) ?_
  refine Tr.tp 0 (rd_ws _ _ _ _) ?_
  refine Tr.if_eq (pc := 164) (tgt := 178) d_X12_text_164 rfl (fun _ => ?_) (fun hc => absurd (by decide) hc)
  refine Tr.iconst (pc := 178) d_X12_text_178 (by decide) ?_
  refine Tr.istore_n (pc := 179) (i := 1) (ls2 := [(1, (0, 0)), (0, (2, 120))]) d_X12_text_179 rfl (by decide) rfl ?_
  refine Tr.goto (pc := 180) (tgt := 149) d_X12_text_180 rfl ?_
  refine Tr.aload_n (pc := 149) (i := 0) d_X12_text_149 rfl rfl ?_
  refine Tr.getf (pc := 150) d_X12_text_150 f_12_36 (by decide) (by decide) (ty_120 hF) ?_
  refine Tr.tp 0 ((rd_wb _ rfl).trans ((rd_wb _ rfl).trans ((rd_wb _ rfl).trans ((rd_wb _ rfl).trans ((rd_wb _ rfl).trans ((rd_wb _ rfl).trans ((rd_wb _ rfl).trans ((rd_wb _ rfl).trans ((rd_wb _ rfl).trans ((rd_wb _ rfl).trans ((rd_wb _ rfl).trans ((rd_wb _ rfl).trans ((rd_wb _ rfl).trans ((rd_wb _ rfl).trans ((rd_wb _ rfl).trans ((rd_wb _ rfl).trans ((rd_wb _ rfl).trans (rd_ws _ _ _ _)))))))))))))))))) ?_
  refine Tr.if_ne (pc := 153) (tgt := 183) d_X12_text_153 rfl (fun hc => absurd (by decide) hc) (fun _ => ?_)
  refine Tr.iload_n (pc := 156) (i := 1) d_X12_text_156 rfl rfl ?_
  refine Tr.if_eq (pc := 157) (tgt := 183) d_X12_text_157 rfl (fun _ => ?_) (fun hc => absurd (by decide) hc)
  refine Tr.aload_n (pc := 183) (i := 0) d_X12_text_183 rfl rfl ?_
  refine Tr.getf (pc := 184) d_X12_text_184 f_12_36 (by decide) (by decide) (ty_120 hF) ?_
  refine Tr.tp 0 ((rd_wb _ rfl).trans ((rd_wb _ rfl).trans ((rd_wb _ rfl).trans ((rd_wb _ rfl).trans ((rd_wb _ rfl).trans ((rd_wb _ rfl).trans ((rd_wb _ rfl).trans ((rd_wb _ rfl).trans ((rd_wb _ rfl).trans ((rd_wb _ rfl).trans ((rd_wb _ rfl).trans ((rd_wb _ rfl).trans ((rd_wb _ rfl).trans ((rd_wb _ rfl).trans ((rd_wb _ rfl).trans ((rd_wb _ rfl).trans ((rd_wb _ rfl).trans (rd_ws _ _ _ _)))))))))))))))))) ?_
  refine Tr.if_ne (pc := 187) (tgt := 234) d_X12_text_187 rfl (fun hc => absurd (by decide) hc) (fun _ => ?_)
  refine Tr.aload_n (pc := 190) (i := 0) d_X12_text_190 rfl rfl ?_
  refine Tr.getf (pc := 191) d_X12_text_191 f_12_20 (by decide) (by decide) (ty_120 hF) ?_
  refine Tr.tp 0 (rd_ws _ _ _ _) ?_
  refine Tr.if_ne (pc := 194) (tgt := 204) d_X12_text_194 rfl (fun hc => absurd (by decide) hc) (fun _ => ?_)
  refine Tr.aload_n (pc := 197) (i := 0) d_X12_text_197 rfl rfl ?_
  refine Tr.getf (pc := 198) d_X12_text_198 f_12_165 (by decide) (by decide) (ty_120 hF) ?_
  refine Tr.tp 0 ((rd_wb _ rfl).trans ((rd_wb _ rfl).trans ((rd_wb _ rfl).trans (rd_ws _ _ _ _)))) ?_
  refine Tr.if_le (pc := 201) (tgt := 234) d_X12_text_201 rfl (fun _ => ?_) (fun hc => absurd (by decide) hc)
  refine Tr.aload_n (pc := 234) (i := 0) d_X12_text_234 rfl rfl ?_
  refine Tr.aload_n (pc := 235) (i := 0) d_X12_text_235 rfl rfl ?_
  refine Tr.getf (pc := 236) d_X12_text_236 f_12_36 (by decide) (by decide) (ty_120 hF) ?_
  refine Tr.tp 0 ((rd_wb _ rfl).trans ((rd_wb _ rfl).trans ((rd_wb _ rfl).trans ((rd_wb _ rfl).trans ((rd_wb _ rfl).trans ((rd_wb _ rfl).trans ((rd_wb _ rfl).trans ((rd_wb _ rfl).trans ((rd_wb _ rfl).trans ((rd_wb _ rfl).trans ((rd_wb _ rfl).trans ((rd_wb _ rfl).trans ((rd_wb _ rfl).trans ((rd_wb _ rfl).trans ((rd_wb _ rfl).trans ((rd_wb _ rfl).trans ((rd_wb _ rfl).trans (rd_ws _ _ _ _)))))))))))))))))) ?_
  refine Tr.putfX (pc := 239) d_X12_text_239 f_12_42 (by decide) (by decide) (ty_120 hF) hF (by decide +kernel) (fun hF => ?_)
  refine Tr.aload_n (pc := 242) (i := 0) d_X12_text_242 rfl rfl ?_
  refine Tr.aload_n (pc := 243) (i := 0) d_X12_text_243 rfl rfl ?_
  refine Tr.getf (pc := 244) d_X12_text_244 f_12_39 (by decide) (by decide) (ty_120 hF) ?_
  refine Tr.tp (-1) ((rd_wb _ rfl).trans ((rd_wb _ rfl).trans ((rd_wb _ rfl).trans ((rd_wb _ rfl).trans ((rd_wb _ rfl).trans ((rd_wb _ rfl).trans ((rd_wb _ rfl).trans ((rd_wb _ rfl).trans ((rd_wb _ rfl).trans ((rd_wb _ rfl).trans ((rd_wb _ rfl).trans ((rd_wb _ rfl).trans ((rd_wb _ rfl).trans ((rd_wb _ rfl).trans ((rd_wb _ rfl).trans ((rd_wb _ rfl).trans ((rd_wb _ rfl).trans (rd_ws _ _ _ _)))))))))))))))))) ?_
  refine Tr.putfX (pc := 247) d_X12_text_247 f_12_45 (by decide) (by decide) (ty_120 hF) hF (by decide +kernel) (fun hF => ?_)
  refine Tr.aload_n (pc := 250) (i := 0) d_X12_text_250 rfl rfl ?_
  refine Tr.getf (pc := 251) d_X12_text_251 f_12_36 (by decide) (by decide) (ty_120 hF) ?_
  refine Tr.tp 0 ((rd_wb _ rfl).trans ((rd_wb _ rfl).trans ((rd_wb _ rfl).trans ((rd_wb _ rfl).trans ((rd_wb _ rfl).trans ((rd_wb _ rfl).trans ((rd_wb _ rfl).trans ((rd_wb _ rfl).trans ((rd_wb _ rfl).trans ((rd_wb _ rfl).trans ((rd_wb _ rfl).trans ((rd_wb _ rfl).trans ((rd_wb _ rfl).trans ((rd_wb _ rfl).trans ((rd_wb _ rfl).trans ((rd_wb _ rfl).trans ((rd_wb _ rfl).trans ((rd_wb _ rfl).trans ((rd_wb _ rfl).trans (rd_ws _ _ _ _)))))))))))))))))))) ?_
  refine Tr.if_le (pc := 254) (tgt := 259) d_X12_text_254 rfl (fun _ => ?_) (fun hc => absurd (by decide) hc)
  refine Tr.aload_n (pc := 259) (i := 0) d_X12_text_259 rfl rfl ?_
  refine Tr.aload_n (pc := 260) (i := 0) d_X12_text_260 rfl rfl ?_
  refine Tr.getf (pc := 261) d_X12_text_261 f_12_124 (by decide) (by decide) (ty_120 hF) ?_
  refine Tr.tp 1 ((rd_wb _ rfl).trans ((rd_wb _ rfl).trans ((rd_wb _ rfl).trans ((rd_wb _ rfl).trans ((rd_wb _ rfl).trans ((rd_wb _ rfl).trans ((rd_wb _ rfl).trans ((rd_wb _ rfl).trans ((rd_wb _ rfl).trans ((rd_wb _ rfl).trans ((rd_wb _ rfl).trans ((rd_wb _ rfl).trans ((rd_wb _ rfl).trans ((rd_wb _ rfl).trans ((rd_wb _ rfl).trans ((rd_wb _ rfl).trans ((rd_wb _ rfl).trans (rd_ws _ _ _ _)))))))))))))))))) ?_
  refine Tr.putfX (pc := 264) d_X12_text_264 f_12_48 (by decide) (by decide) (ty_120 hF) hF (by decide +kernel) (fun hF => ?_)
  refine Tr.iconst (pc := 267) d_X12_text_267 (by decide) ?_
  refine Tr.istore_n (pc := 268) (i := 2) (ls2 := [(2, (0, 0)), (1, (0, 0)), (0, (2, 120))]) d_X12_text_268 rfl (by decide) rfl ?_
  refine Tr.iload_n (pc := 269) (i := 2) d_X12_text_269 rfl rfl ?_
  refine Tr.iconst (pc := 270) d_X12_text_270 (by decide) ?_
  refine Tr.icmp_ge (pc := 271) (tgt := 316) d_X12_text_271 rfl (fun hc => absurd hc (by decide)) (fun _ => ?_)
  refine Tr.aload_n (pc := 274) (i := 0) d_X12_text_274 rfl rfl ?_
  refine Tr.getf (pc := 275) d_X12_text_275 f_12_168 (by decide) (by decide) (ty_120 hF) ?_
  refine Tr.tp 153 (fx_120_51 hF) ?_
  refine Tr.iload_n (pc := 278) (i := 2) d_X12_text_278 rfl rfl ?_
  refine Tr.iload_n (pc := 279) (i := 2) d_X12_text_279 rfl rfl ?_
  refine Tr.aload_n (pc := 280) (i := 0) d_X12_text_280 rfl rfl ?_
  refine Tr.getf (pc := 281) d_X12_text_281 f_12_66 (by decide) (by decide) (ty_120 hF) ?_
  refine Tr.tp 127 (fx_120_18 hF) ?_
  refine Tr.aload_n (pc := 284) (i := 0) d_X12_text_284 rfl rfl ?_
  refine Tr.getf (pc := 285) d_X12_text_285 f_12_48 (by decide) (by decide) (ty_120 hF) ?_
  refine Tr.tp 1 (rd_ws _ _ _ _) ?_
  refine Tr.iald (pc := 288) d_X12_text_288 (ty_127 hF) (by decide) (by decide) ?_
  refine Tr.tp 0 ((rd_wb _ rfl).trans ((rd_wb _ rfl).trans ((rd_wb _ rfl).trans ((rd_wb _ rfl).trans ((rd_wb _ rfl).trans ((rd_wb _ rfl).trans ((rd_wb _ rfl).trans ((rd_wb _ rfl).trans ((rd_wb _ rfl).trans ((rd_wb _ rfl).trans ((rd_wb _ rfl).trans ((rd_wb _ rfl).trans (rd_ws _ _ _ _))))))))))))) ?_
  refine Tr.icmp_ge (pc := 289) (tgt := 308) d_X12_text_289 rfl (fun _ => ?_) (fun hc => absurd (by decide) hc)
  refine Tr.iconst (pc := 308) d_X12_text_308 (by decide) ?_
  refine Tr.iastX (pc := 309) d_X12_text_309 (ty_153 hF) (by decide) (by decide) hF (by decide +kernel) (fun hF => ?_)
  refine Tr.iinc (pc := 310) (ls2 := [(2, (0, 1)), (1, (0, 0)), (0, (2, 120))]) d_X12_text_310 rfl (by decide) rfl ?_
  refine Tr.goto (pc := 313) (tgt := 269) d_X12_text_313 rfl ?_
  refine Tr.iload_n (pc := 269) (i := 2) d_X12_text_269 rfl rfl ?_
  refine Tr.iconst (pc := 270) d_X12_text_270 (by decide) ?_
  refine Tr.icmp_ge (pc := 271) (tgt := 316) d_X12_text_271 rfl (fun hc => absurd hc (by decide)) (fun _ => ?_)
  refine Tr.aload_n (pc := 274) (i := 0) d_X12_text_274 rfl rfl ?_
  refine Tr.getf (pc := 275) d_X12_text_275 f_12_168 (by decide) (by decide) (ty_120 hF) ?_
  refine Tr.tp 153 (fx_120_51 hF) ?_
  refine Tr.iload_n (pc := 278) (i := 2) d_X12_text_278 rfl rfl ?_
  refine Tr.iload_n (pc := 279) (i := 2) d_X12_text_279 rfl rfl ?_
  refine Tr.aload_n (pc := 280) (i := 0) d_X12_text_280 rfl rfl ?_
  refine Tr.getf (pc := 281) d_X12_text_281 f_12_66 (by decide) (by decide) (ty_120 hF) ?_
  refine Tr.tp 127 (fx_120_18 hF) ?_
  refine Tr.aload_n (pc := 284) (i := 0) d_X12_text_284 rfl rfl ?_
  refine Tr.getf (pc := 285) d_X12_text_285 f_12_48 (by decide) (by decide) (ty_120 hF) ?_
  refine Tr.tp 1 ((rd_wb _ rfl).trans (rd_ws _ _ _ _)) ?_
  refine Tr.iald (pc := 288) d_X12_text_288 (ty_127 hF) (by decide) (by decide) ?_
  refine Tr.tp 0 ((rd_wb _ rfl).trans ((rd_wb _ rfl).trans ((rd_wb _ rfl).trans ((rd_wb _ rfl).trans ((rd_wb _ rfl).trans ((rd_wb _ rfl).trans ((rd_wb _ rfl).trans ((rd_wb _ rfl).trans ((rd_wb _ rfl).trans ((rd_wb _ rfl).trans ((rd_wb _ rfl).trans ((rd_wb _ rfl).trans ((rd_wb _ rfl).trans (rd_ws _ _ _ _)))))))))))))) ?_
  refine Tr.icmp_ge (pc := 289) (tgt := 308) d_X12_text_289 rfl (fun _ => ?_) (fun hc => absurd (by decide) hc)
  refine Tr.iconst (pc := 308) d_X12_text_308 (by decide) ?_
  refine Tr.iastX (pc := 309) d_X12_text_309 (ty_153 hF) (by decide) (by decide) hF (by decide +kernel) (fun hF => ?_)
  refine Tr.iinc (pc := 310) (ls2 := [(2, (0, 2)), (1, (0, 0)), (0, (2, 120))]) d_X12_text_310 rfl (by decide) rfl ?_
  refine Tr.goto (pc := 313) (tgt := 269) d_X12_text_313 rfl ?_
  refine Tr.iload_n (pc := 269) (i := 2) d_X12_text_269 rfl rfl ?_
  refine Tr.iconst (pc := 270) d_X12_text_270 (by decide) ?_
  refine Tr.icmp_ge (pc := 271) (tgt := 316) d_X12_text_271 rfl (fun hc => absurd hc (by decide)) (fun _ => ?_)
  refine Tr.aload_n (pc := 274) (i := 0) d_X12_text_274 rfl rfl ?_
  refine Tr.getf (pc := 275) d_X12_text_275 f_12_168 (by decide) (by decide) (ty_120 hF) ?_
  refine Tr.tp 153 (fx_120_51 hF) ?_
  refine Tr.iload_n (pc := 278) (i := 2) d_X12_text_278 rfl rfl ?_
  refine Tr.iload_n (pc := 279) (i := 2) d_X12_text_279 rfl rfl ?_
  refine Tr.aload_n (pc := 280) (i := 0) d_X12_text_280 rfl rfl ?_
  refine Tr.getf (pc := 281) d_X12_text_281 f_12_66 (by decide) (by decide) (ty_120 hF) ?_
  refine Tr.tp 127 (fx_120_18 hF) ?_
  refine Tr.aload_n (pc := 284) (i := 0) d_X12_text_284 rfl rfl ?_
  refine Tr.getf (pc := 285) d_X12_text_285 f_12_48 (by decide) (by decide) (ty_120 hF) ?_
  refine Tr.tp 1 ((rd_wb _ rfl).trans ((rd_wb _ rfl).trans (rd_ws _ _ _ _))) ?_
  refine Tr.iald (pc := 288) d_X12_text_288 (ty_127 hF) (by decide) (by decide) ?_
  refine Tr.tp 0 ((rd_wb _ rfl).trans ((rd_wb _ rfl).trans ((rd_wb _ rfl).trans ((rd_wb _ rfl).trans ((rd_wb _ rfl).trans ((rd_wb _ rfl).trans ((rd_wb _ rfl).trans ((rd_wb _ rfl).trans ((rd_wb _ rfl).trans ((rd_wb _ rfl).trans ((rd_wb _ rfl).trans ((rd_wb _ rfl).trans ((rd_wb _ rfl).trans ((rd_wb _ rfl).trans (rd_ws _ _ _ _))))))))))))))) ?_
  refine Tr.icmp_ge (pc := 289) (tgt := 308) d_X12_text_289 rfl (fun _ => ?_) (fun hc => absurd (by decide) hc)
  refine Tr.iconst (pc := 308) d_X12_text_308 (by decide) ?_
  refine Tr.iastX (pc := 309) d_X12_text_309 (ty_153 hF) (by decide) (by decide) hF (by decide +kernel) (fun hF => ?_)
  refine Tr.iinc (pc := 310) (ls2 := [(2, (0, 3)), (1, (0, 0)), (0, (2, 120))]) d_X12_text_310 rfl (by decide) rfl ?_
  refine Tr.goto (pc := 313) (tgt := 269) d_X12_text_313 rfl ?_
  refine Tr.iload_n (pc := 269) (i := 2) d_X12_text_269 rfl rfl ?_
  refine Tr.iconst (pc := 270) d_X12_text_270 (by decide) ?_
  refine Tr.icmp_ge (pc := 271) (tgt := 316) d_X12_text_271 rfl (fun _ => ?_) (fun hc => absurd (by decide) hc)
  refine Tr.aload_n (pc := 316) (i := 0) d_X12_text_316 rfl rfl ?_
  refine Tr.iconst (pc := 317) d_X12_text_317 (by decide) ?_
  refine Tr.putzX (pc := 318) d_X12_text_318 f_12_270 (by decide) (ty_120 hF) (by decide) hF (by decide +kernel) (fun hF => ?_)
  refine Tr.aload_n (pc := 321) (i := 0) d_X12_text_321 rfl rfl ?_
  refine Tr.iconst (pc := 322) d_X12_text_322 (by decide) ?_
  refine Tr.putzX (pc := 323) d_X12_text_323 f_12_327 (by decide) (ty_120 hF) (by decide) hF (by decide +kernel) (fun hF => ?_)
  refine Tr.aload_n (pc := 326) (i := 0) d_X12_text_326 rfl rfl ?_
  refine Tr.iconst (pc := 327) d_X12_text_327 (by decide) ?_
  refine Tr.putfX (pc := 328) d_X12_text_328 f_12_333 (by decide) (by decide) (ty_120 hF) hF (by decide +kernel) (fun hF => ?_)
  refine Tr.aload_n (pc := 331) (i := 0) d_X12_text_331 rfl rfl ?_
  refine Tr.iconst (pc := 332) d_X12_text_332 (by decide) ?_
  refine Tr.putzX (pc := 333) d_X12_text_333 f_12_342 (by decide) (ty_120 hF) (by decide) hF (by decide +kernel) (fun hF => ?_)
  refine Tr.aload_n (pc := 336) (i := 0) d_X12_text_336 rfl rfl ?_
  refine Tr.getf (pc := 337) d_X12_text_337 f_12_72 (by decide) (by decide) (ty_120 hF) ?_
  refine Tr.tp 129 (fx_120_20 hF) ?_
  refine Tr.aload_n (pc := 340) (i := 0) d_X12_text_340 rfl rfl ?_
  refine Tr.getf (pc := 341) d_X12_text_341 f_12_48 (by decide) (by decide) (ty_120 hF) ?_
  refine Tr.tp 1 ((rd_wb _ rfl).trans ((rd_wb _ rfl).trans ((rd_wb _ rfl).trans ((rd_wb _ rfl).trans ((rd_wb _ rfl).trans ((rd_wb _ rfl).trans ((rd_wb _ rfl).trans (rd_ws _ _ _ _)))))))) ?_
  refine Tr.iald (pc := 344) d_X12_text_344 (ty_129 hF) (by decide) (by decide) ?_
  refine Tr.tp 0 ((rd_wb _ rfl).trans ((rd_wb _ rfl).trans ((rd_wb _ rfl).trans ((rd_wb _ rfl).trans ((rd_wb _ rfl).trans ((rd_wb _ rfl).trans ((rd_wb _ rfl).trans ((rd_wb _ rfl).trans ((rd_wb _ rfl).trans ((rd_wb _ rfl).trans ((rd_wb _ rfl).trans ((rd_wb _ rfl).trans ((rd_wb _ rfl).trans ((rd_wb _ rfl).trans ((rd_wb _ rfl).trans ((rd_wb _ rfl).trans ((rd_wb _ rfl).trans (rd_ws _ _ _ _)))))))))))))))))) ?_
  refine Tr.iret (pc := 345) d_X12_text_345 rfl ?_
  refine Tr.sc [_, _] rfl ?_
  refine Tr.icmp_eq (pc := 254) (tgt := 998) d_L_law_254 rfl (fun _ => ?_) (fun hc => absurd (by decide) hc)
  refine Tr.iinc (pc := 998) (ls2 := [(3, (0, 6)), (2, (2, 120)), (1, (2, 0)), (0, (2, (-2)))]) d_L_law_998 rfl (by decide) rfl ?_
  refine Tr.goto (pc := 1001) (tgt := 18) d_L_law_1001 rfl ?_
  refine Tr.iload_n (pc := 18) (i := 3) d_L_law_18 rfl rfl ?_
  refine Tr.aload_n (pc := 19) (i := 0) d_L_law_19 rfl rfl ?_
  refine Tr.xlen (pc := 20) (i := 0) d_L_law_20 rfl he (by decide) ?_
  refine Tr.tp 6 rfl ?_
  refine Tr.bipush (pc := 21) d_L_law_21 rfl (by decide) ?_
  refine Tr.isub (pc := 23) d_L_law_23 ?_
  refine Tr.tp 0 rfl ?_
  refine Tr.icmp_gt (pc := 24) (tgt := 1004) d_L_law_24 rfl (fun _ => ?_) (fun hc => absurd (by decide) hc)
  refine Tr.iconst (pc := 1004) d_L_law_1004 (by decide) ?_
  exact Tr.zret (pc := 1005) d_L_law_1005 rfl (by decide) ⟨rfl, Fx_room hF⟩
