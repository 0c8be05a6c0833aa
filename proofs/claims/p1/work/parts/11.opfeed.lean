/-! calls on a fresh pair -/
set_option maxRecDepth 100000 in
set_option maxHeartbeats 4000000 in
theorem op_feed {l : Launch} {K : EC} {f : Int → Int} (he : e_ext K 0 6 f) (hr : ∀ j, -2147483648 ≤ f j ∧ f j ≤ 2147483647) : Tr l K 20 mL_law 160 [(3, (0, 0)), (2, (2, 120)), (1, (2, 0)), (0, (2, -2))] [] C_461 (fun M' r => r = some (0, 1) ∧ M'.1 ≤ 600000 ∧ M'.2.1 ≤ room_1.slots) := by
  obtain ⟨a1, g1⟩ : ∃ a, f 1 = a := ⟨_, rfl⟩
  have r1 := hr 1
  rw [g1] at r1
  obtain ⟨a2, g2⟩ : ∃ a, f 2 = a := ⟨_, rfl⟩
  have r2 := hr 2
  rw [g2] at r2
  obtain ⟨a3, g3⟩ : ∃ a, f 3 = a := ⟨_, rfl⟩
  have r3 := hr 3
  rw [g3] at r3
  obtain ⟨a4, g4⟩ : ∃ a, f 4 = a := ⟨_, rfl⟩
  have r4 := hr 4
  rw [g4] at r4
  obtain ⟨a5, g5⟩ : ∃ a, f 5 = a := ⟨_, rfl⟩
  have r5 := hr 5
  rw [g5] at r5
  have hF := Fx_0
  refine Tr.aload_n (pc := 160) (i := 1) d_L_law_160 rfl rfl ?_
  refine Tr.aload_n (pc := 161) (i := 0) d_L_law_161 rfl rfl ?_
  refine Tr.iload_n (pc := 162) (i := 3) d_L_law_162 rfl rfl ?_
  refine Tr.iconst (pc := 163) d_L_law_163 (by decide) ?_
  refine Tr.iadd (pc := 164) d_L_law_164 ?_
  refine Tr.tp 1 rfl ?_
  refine Tr.xld (pc := 165) (i := 0) d_L_law_165 rfl he (by decide) (by decide) ?_
  refine Tr.tp a1 g1 ?_
  refine Tr.aload_n (pc := 166) (i := 0) d_L_law_166 rfl rfl ?_
  refine Tr.iload_n (pc := 167) (i := 3) d_L_law_167 rfl rfl ?_
  refine Tr.iconst (pc := 168) d_L_law_168 (by decide) ?_
  refine Tr.iadd (pc := 169) d_L_law_169 ?_
  refine Tr.tp 2 rfl ?_
  refine Tr.xld (pc := 170) (i := 0) d_L_law_170 rfl he (by decide) (by decide) ?_
  refine Tr.tp a2 g2 ?_
  refine Tr.aload_n (pc := 171) (i := 0) d_L_law_171 rfl rfl ?_
  refine Tr.iload_n (pc := 172) (i := 3) d_L_law_172 rfl rfl ?_
  refine Tr.iconst (pc := 173) d_L_law_173 (by decide) ?_
  refine Tr.iadd (pc := 174) d_L_law_174 ?_
  refine Tr.tp 3 rfl ?_
  refine Tr.xld (pc := 175) (i := 0) d_L_law_175 rfl he (by decide) (by decide) ?_
  refine Tr.tp a3 g3 ?_
  refine Tr.aload_n (pc := 176) (i := 0) d_L_law_176 rfl rfl ?_
  refine Tr.iload_n (pc := 177) (i := 3) d_L_law_177 rfl rfl ?_
  refine Tr.iconst (pc := 178) d_L_law_178 (by decide) ?_
  refine Tr.iadd (pc := 179) d_L_law_179 ?_
  refine Tr.tp 4 rfl ?_
  refine Tr.xld (pc := 180) (i := 0) d_L_law_180 rfl he (by decide) (by decide) ?_
  refine Tr.tp a4 g4 ?_
  refine Tr.aload_n (pc := 181) (i := 0) d_L_law_181 rfl rfl ?_
  refine Tr.iload_n (pc := 182) (i := 3) d_L_law_182 rfl rfl ?_
  refine Tr.iconst (pc := 183) d_L_law_183 (by decide) ?_
  refine Tr.iadd (pc := 184) d_L_law_184 ?_
  refine Tr.tp 5 rfl ?_
  refine Tr.xld (pc := 185) (i := 0) d_L_law_185 rfl he (by decide) (by decide) ?_
  refine Tr.tp a5 g5 ?_
  refine Tr.callV (pc := 186) (as := [_, _, _, _, _]) d_L_law_186 s_13_13 ok_X11_feed rfl rfl (Nat.le_of_ble_eq_true rfl) (Nat.le_of_ble_eq_true rfl) (by decide) (ty_0 hF) ?_
  refine Tr.lc [(0, (2, 0)), (1, (0, _)), (2, (0, _)), (3, (0, _)), (4, (0, _)), (5, (0, _))] rfl ?_
  refine Tr.aload_n (pc := 0) (i := 0) d_X11_feed_0 rfl rfl ?_
  refine Tr.getf (pc := 1) d_X11_feed_1 f_11_84 (by decide) (by decide) (ty_0 hF) ?_
  refine Tr.tp 0 (b_0_1) ?_
  refine Tr.bipush (pc := 4) d_X11_feed_4 rfl (by decide) ?_
  refine Tr.iadd (pc := 6) d_X11_feed_6 ?_
  refine Tr.tp 20 rfl ?_
  refine Tr.sipush (pc := 7) d_X11_feed_7 rfl (by decide) ?_
  refine Tr.icmp_le (pc := 10) (tgt := 15) d_X11_feed_10 rfl (fun _ => ?_) (fun hc => absurd (by decide) hc)
  refine Tr.aload_n (pc := 15) (i := 0) d_X11_feed_15 rfl rfl ?_
  refine Tr.iload_n (pc := 16) (i := 1) d_X11_feed_16 rfl rfl ?_
  refine Tr.callV (pc := 17) (as := [_]) d_X11_feed_17 s_11_88 ok_X11_lay rfl rfl (Nat.le_of_ble_eq_true rfl) (Nat.le_of_ble_eq_true rfl) (by decide) (ty_0 hF) ?_
  refine Tr.lc [(0, (2, 0)), (1, (0, _))] rfl ?_
  refine Tr.bipush (pc := 0) d_X11_lay_0 rfl (by decide) ?_
  refine Tr.istore_n (pc := 2) (i := 2) (ls2 := [(2, (0, 24)), (0, (2, 0)), (1, (0, _))]) d_X11_lay_2 rfl (by decide) rfl ?_
  refine Tr.iload_n (pc := 3) (i := 2) d_X11_lay_3 rfl rfl ?_
  refine Tr.if_lt (pc := 4) (tgt := 46) d_X11_lay_4 rfl (fun hc => absurd hc (by decide)) (fun _ => ?_)
  refine Tr.aload_n (pc := 7) (i := 0) d_X11_lay_7 rfl rfl ?_
  refine Tr.getf (pc := 8) d_X11_lay_8 f_11_84 (by decide) (by decide) (ty_0 hF) ?_
  refine Tr.tp 0 (b_0_1) ?_
  refine Tr.sipush (pc := 11) d_X11_lay_11 rfl (by decide) ?_
  refine Tr.icmp_ge (pc := 14) (tgt := 46) d_X11_lay_14 rfl (fun hc => absurd hc (by decide)) (fun _ => ?_)
  refine Tr.aload_n (pc := 17) (i := 0) d_X11_lay_17 rfl rfl ?_
  refine Tr.getf (pc := 18) d_X11_lay_18 f_11_9 (by decide) (by decide) (ty_0 hF) ?_
  refine Tr.tp 1 (fx_0_0 hF) ?_
  refine Tr.aload_n (pc := 21) (i := 0) d_X11_lay_21 rfl rfl ?_
  refine Tr.getf (pc := 22) d_X11_lay_22 f_11_84 (by decide) (by decide) (ty_0 hF) ?_
  refine Tr.tp 0 (b_0_1) ?_
  refine Tr.iload_n (pc := 25) (i := 1) d_X11_lay_25 rfl rfl ?_
  refine Tr.iload_n (pc := 26) (i := 2) d_X11_lay_26 rfl rfl ?_
  refine Tr.ishr (pc := 27) d_X11_lay_27 ?_
  refine Tr.i2b (pc := 28) d_X11_lay_28 ?_
  refine Tr.bastX (pc := 29) d_X11_lay_29 (ty_1 hF) (by decide) (by decide) hF (by decide +kernel) (fun hF => ?_)
  refine Tr.aload_n (pc := 30) (i := 0) d_X11_lay_30 rfl rfl ?_
  refine Tr.dup (pc := 31) d_X11_lay_31 ne21 ?_
  refine Tr.getf (pc := 32) d_X11_lay_32 f_11_84 (by decide) (by decide) (ty_0 hF) ?_
  refine Tr.tp 0 ((rd_wb _ rfl).trans (b_0_1)) ?_
  refine Tr.iconst (pc := 35) d_X11_lay_35 (by decide) ?_
  refine Tr.iadd (pc := 36) d_X11_lay_36 ?_
  refine Tr.tp 1 rfl ?_
  refine Tr.putfX (pc := 37) d_X11_lay_37 f_11_84 (by decide) (by decide) (ty_0 hF) hF (by decide +kernel) (fun hF => ?_)
  refine Tr.iinc (pc := 40) (ls2 := [(2, (0, 16)), (0, (2, 0)), (1, (0, _))]) d_X11_lay_40 rfl (by decide) rfl ?_
  refine Tr.goto (pc := 43) (tgt := 3) d_X11_lay_43 rfl ?_
  refine Tr.iload_n (pc := 3) (i := 2) d_X11_lay_3 rfl rfl ?_
  refine Tr.if_lt (pc := 4) (tgt := 46) d_X11_lay_4 rfl (fun hc => absurd hc (by decide)) (fun _ => ?_)
  refine Tr.aload_n (pc := 7) (i := 0) d_X11_lay_7 rfl rfl ?_
  refine Tr.getf (pc := 8) d_X11_lay_8 f_11_84 (by decide) (by decide) (ty_0 hF) ?_
  refine Tr.tp 1 (rd_ws _ _ _ _) ?_
  refine Tr.sipush (pc := 11) d_X11_lay_11 rfl (by decide) ?_
  refine Tr.icmp_ge (pc := 14) (tgt := 46) d_X11_lay_14 rfl (fun hc => absurd hc (by decide)) (fun _ => ?_)
  refine Tr.aload_n (pc := 17) (i := 0) d_X11_lay_17 rfl rfl ?_
  refine Tr.getf (pc := 18) d_X11_lay_18 f_11_9 (by decide) (by decide) (ty_0 hF) ?_
  refine Tr.tp 1 (fx_0_0 hF) ?_
  refine Tr.aload_n (pc := 21) (i := 0) d_X11_lay_21 rfl rfl ?_
  refine Tr.getf (pc := 22) d_X11_lay_22 f_11_84 (by decide) (by decide) (ty_0 hF) ?_
  refine Tr.tp 1 (rd_ws _ _ _ _) ?_
  refine Tr.iload_n (pc := 25) (i := 1) d_X11_lay_25 rfl rfl ?_
  refine Tr.iload_n (pc := 26) (i := 2) d_X11_lay_26 rfl rfl ?_
  refine Tr.ishr (pc := 27) d_X11_lay_27 ?_
  refine Tr.i2b (pc := 28) d_X11_lay_28 ?_
  refine Tr.bastX (pc := 29) d_X11_lay_29 (ty_1 hF) (by decide) (by decide) hF (by decide +kernel) (fun hF => ?_)
  refine Tr.aload_n (pc := 30) (i := 0) d_X11_lay_30 rfl rfl ?_
  refine Tr.dup (pc := 31) d_X11_lay_31 ne21 ?_
  refine Tr.getf (pc := 32) d_X11_lay_32 f_11_84 (by decide) (by decide) (ty_0 hF) ?_
  refine Tr.tp 1 ((rd_wb _ rfl).trans (rd_ws _ _ _ _)) ?_
  refine Tr.iconst (pc := 35) d_X11_lay_35 (by decide) ?_
  refine Tr.iadd (pc := 36) d_X11_lay_36 ?_
  refine Tr.tp 2 rfl ?_
  refine Tr.putfX (pc := 37) d_X11_lay_37 f_11_84 (by decide) (by decide) (ty_0 hF) hF (by decide +kernel) (fun hF => ?_)
  refine Tr.iinc (pc := 40) (ls2 := [(2, (0, 8)), (0, (2, 0)), (1, (0, _))]) d_X11_lay_40 rfl (by decide) rfl ?_
  refine Tr.goto (pc := 43) (tgt := 3) d_X11_lay_43 rfl ?_
  refine Tr.iload_n (pc := 3) (i := 2) d_X11_lay_3 rfl rfl ?_
  refine Tr.if_lt (pc := 4) (tgt := 46) d_X11_lay_4 rfl (fun hc => absurd hc (by decide)) (fun _ => ?_)
  refine Tr.aload_n (pc := 7) (i := 0) d_X11_lay_7 rfl rfl ?_
  refine Tr.getf (pc := 8) d_X11_lay_8 f_11_84 (by decide) (by decide) (ty_0 hF) ?_
  refine Tr.tp 2 (rd_ws _ _ _ _) ?_
  refine Tr.sipush (pc := 11) d_X11_lay_11 rfl (by decide) ?_
  refine Tr.icmp_ge (pc := 14) (tgt := 46) d_X11_lay_14 rfl (fun hc => absurd hc (by decide)) (fun _ => ?_)
  refine Tr.aload_n (pc := 17) (i := 0) d_X11_lay_17 rfl rfl ?_
  refine Tr.getf (pc := 18) d_X11_lay_18 f_11_9 (by decide) (by decide) (ty_0 hF) ?_
  refine Tr.tp 1 (fx_0_0 hF) ?_
  refine Tr.aload_n (pc := 21) (i := 0) d_X11_lay_21 rfl rfl ?_
  refine Tr.getf (pc := 22) d_X11_lay_22 f_11_84 (by decide) (by decide) (ty_0 hF) ?_
  refine Tr.tp 2 (rd_ws _ _ _ _) ?_
  refine Tr.iload_n (pc := 25) (i := 1) d_X11_lay_25 rfl rfl ?_
  refine Tr.iload_n (pc := 26) (i := 2) d_X11_lay_26 rfl rfl ?_
  refine Tr.ishr (pc := 27) d_X11_lay_27 ?_
  refine Tr.i2b (pc := 28) d_X11_lay_28 ?_
  refine Tr.bastX (pc := 29) d_X11_lay_29 (ty_1 hF) (by decide) (by decide) hF (by decide +kernel) (fun hF => ?_)
  refine Tr.aload_n (pc := 30) (i := 0) d_X11_lay_30 rfl rfl ?_
  refine Tr.dup (pc := 31) d_X11_lay_31 ne21 ?_
  refine Tr.getf (pc := 32) d_X11_lay_32 f_11_84 (by decide) (by decide) (ty_0 hF) ?_
  refine Tr.tp 2 ((rd_wb _ rfl).trans (rd_ws _ _ _ _)) ?_
  refine Tr.iconst (pc := 35) d_X11_lay_35 (by decide) ?_
  refine Tr.iadd (pc := 36) d_X11_lay_36 ?_
  refine Tr.tp 3 rfl ?_
  refine Tr.putfX (pc := 37) d_X11_lay_37 f_11_84 (by decide) (by decide) (ty_0 hF) hF (by decide +kernel) (fun hF => ?_)
  refine Tr.iinc (pc := 40) (ls2 := [(2, (0, 0)), (0, (2, 0)), (1, (0, _))]) d_X11_lay_40 rfl (by decide) rfl ?_
  refine Tr.goto (pc := 43) (tgt := 3) d_X11_lay_43 rfl ?_
  refine Tr.iload_n (pc := 3) (i := 2) d_X11_lay_3 rfl rfl ?_
  refine Tr.if_lt (pc := 4) (tgt := 46) d_X11_lay_4 rfl (fun hc => absurd hc (by decide)) (fun _ => ?_)
  refine Tr.aload_n (pc := 7) (i := 0) d_X11_lay_7 rfl rfl ?_
  refine Tr.getf (pc := 8) d_X11_lay_8 f_11_84 (by decide) (by decide) (ty_0 hF) ?_
  refine Tr.tp 3 (rd_ws _ _ _ _) ?_
  refine Tr.sipush (pc := 11) d_X11_lay_11 rfl (by decide) ?_
  refine Tr.icmp_ge (pc := 14) (tgt := 46) d_X11_lay_14 rfl (fun hc => absurd hc (by decide)) (fun _ => ?_)
  refine Tr.aload_n (pc := 17) (i := 0) d_X11_lay_17 rfl rfl ?_
  refine Tr.getf (pc := 18) d_X11_lay_18 f_11_9 (by decide) (by decide) (ty_0 hF) ?_
  refine Tr.tp 1 (fx_0_0 hF) ?_
  refine Tr.aload_n (pc := 21) (i := 0) d_X11_lay_21 rfl rfl ?_
  refine Tr.getf (pc := 22) d_X11_lay_22 f_11_84 (by decide) (by decide) (ty_0 hF) ?_
  refine Tr.tp 3 (rd_ws _ _ _ _) ?_
  refine Tr.iload_n (pc := 25) (i := 1) d_X11_lay_25 rfl rfl ?_
  refine Tr.iload_n (pc := 26) (i := 2) d_X11_lay_26 rfl rfl ?_
  refine Tr.ishr (pc := 27) d_X11_lay_27 ?_
  refine Tr.i2b (pc := 28) d_X11_lay_28 ?_
  refine Tr.bastX (pc := 29) d_X11_lay_29 (ty_1 hF) (by decide) (by decide) hF (by decide +kernel) (fun hF => ?_)
  refine Tr.aload_n (pc := 30) (i := 0) d_X11_lay_30 rfl rfl ?_
  refine Tr.dup (pc := 31) d_X11_lay_31 ne21 ?_
  refine Tr.getf (pc := 32) d_X11_lay_32 f_11_84 (by decide) (by decide) (ty_0 hF) ?_
  refine Tr.tp 3 ((rd_wb _ rfl).trans (rd_ws _ _ _ _)) ?_
  refine Tr.iconst (pc := 35) d_X11_lay_35 (by decide) ?_
  refine Tr.iadd (pc := 36) d_X11_lay_36 ?_
  refine Tr.tp 4 rfl ?_
  refine Tr.putfX (pc := 37) d_X11_lay_37 f_11_84 (by decide) (by decide) (ty_0 hF) hF (by decide +kernel) (fun hF => ?_)
  refine Tr.iinc (pc := 40) (ls2 := [(2, (0, (-8))), (0, (2, 0)), (1, (0, _))]) d_X11_lay_40 rfl (by decide) rfl ?_
  refine Tr.goto (pc := 43) (tgt := 3) d_X11_lay_43 rfl ?_
  refine Tr.iload_n (pc := 3) (i := 2) d_X11_lay_3 rfl rfl ?_
  refine Tr.if_lt (pc := 4) (tgt := 46) d_X11_lay_4 rfl (fun _ => ?_) (fun hc => absurd (by decide) hc)
  refine Tr.vret (pc := 46) d_X11_lay_46 rfl ?_
  refine Tr.sc [] rfl ?_
  refine Tr.aload_n (pc := 20) (i := 0) d_X11_feed_20 rfl rfl ?_
  refine Tr.iload_n (pc := 21) (i := 2) d_X11_feed_21 rfl rfl ?_
  refine Tr.callV (pc := 22) (as := [_]) d_X11_feed_22 s_11_88 ok_X11_lay rfl rfl (Nat.le_of_ble_eq_true rfl) (Nat.le_of_ble_eq_true rfl) (by decide) (ty_0 hF) ?_
  refine Tr.lc [(0, (2, 0)), (1, (0, _))] rfl ?_
  refine Tr.bipush (pc := 0) d_X11_lay_0 rfl (by decide) ?_
  refine Tr.istore_n (pc := 2) (i := 2) (ls2 := [(2, (0, 24)), (0, (2, 0)), (1, (0, _))]) d_X11_lay_2 rfl (by decide) rfl ?_
  refine Tr.iload_n (pc := 3) (i := 2) d_X11_lay_3 rfl rfl ?_
  refine Tr.if_lt (pc := 4) (tgt := 46) d_X11_lay_4 rfl (fun hc => absurd hc (by decide)) (fun _ => ?_)
  refine Tr.aload_n (pc := 7) (i := 0) d_X11_lay_7 rfl rfl ?_
  refine Tr.getf (pc := 8) d_X11_lay_8 f_11_84 (by decide) (by decide) (ty_0 hF) ?_
  refine Tr.tp 4 (rd_ws _ _ _ _) ?_
  refine Tr.sipush (pc := 11) d_X11_lay_11 rfl (by decide) ?_
  refine Tr.icmp_ge (pc := 14) (tgt := 46) d_X11_lay_14 rfl (fun hc => absurd hc (by decide)) (fun _ => ?_)
  refine Tr.aload_n (pc := 17) (i := 0) d_X11_lay_17 rfl rfl ?_
  refine Tr.getf (pc := 18) d_X11_lay_18 f_11_9 (by decide) (by decide) (ty_0 hF) ?_
  refine Tr.tp 1 (fx_0_0 hF) ?_
  refine Tr.aload_n (pc := 21) (i := 0) d_X11_lay_21 rfl rfl ?_
  refine Tr.getf (pc := 22) d_X11_lay_22 f_11_84 (by decide) (by decide) (ty_0 hF) ?_
  refine Tr.tp 4 (rd_ws _ _ _ _) ?_
  refine Tr.iload_n (pc := 25) (i := 1) d_X11_lay_25 rfl rfl ?_
  refine Tr.iload_n (pc := 26) (i := 2) d_X11_lay_26 rfl rfl ?_
  refine Tr.ishr (pc := 27) d_X11_lay_27 ?_
  refine Tr.i2b (pc := 28) d_X11_lay_28 ?_
  refine Tr.bastX (pc := 29) d_X11_lay_29 (ty_1 hF) (by decide) (by decide) hF (by decide +kernel) (fun hF => ?_)
  refine Tr.aload_n (pc := 30) (i := 0) d_X11_lay_30 rfl rfl ?_
  refine Tr.dup (pc := 31) d_X11_lay_31 ne21 ?_
  refine Tr.getf (pc := 32) d_X11_lay_32 f_11_84 (by decide) (by decide) (ty_0 hF) ?_
  refine Tr.tp 4 ((rd_wb _ rfl).trans (rd_ws _ _ _ _)) ?_
  refine Tr.iconst (pc := 35) d_X11_lay_35 (by decide) ?_
  refine Tr.iadd (pc := 36) d_X11_lay_36 ?_
  refine Tr.tp 5 rfl ?_
  refine Tr.putfX (pc := 37) d_X11_lay_37 f_11_84 (by decide) (by decide) (ty_0 hF) hF (by decide +kernel) (fun hF => ?_)
  refine Tr.iinc (pc := 40) (ls2 := [(2, (0, 16)), (0, (2, 0)), (1, (0, _))]) d_X11_lay_40 rfl (by decide) rfl ?_
  refine Tr.goto (pc := 43) (tgt := 3) d_X11_lay_43 rfl ?_
  refine Tr.iload_n (pc := 3) (i := 2) d_X11_lay_3 rfl rfl ?_
  refine Tr.if_lt (pc := 4) (tgt := 46) d_X11_lay_4 rfl (fun hc => absurd hc (by decide)) (fun _ => ?_)
  refine Tr.aload_n (pc := 7) (i := 0) d_X11_lay_7 rfl rfl ?_
  refine Tr.getf (pc := 8) d_X11_lay_8 f_11_84 (by decide) (by decide) (ty_0 hF) ?_
  refine Tr.tp 5 (rd_ws _ _ _ _) ?_
  refine Tr.sipush (pc := 11) d_X11_lay_11 rfl (by decide) ?_
  refine Tr.icmp_ge (pc := 14) (tgt := 46) d_X11_lay_14 rfl (fun hc => absurd hc (by decide)) (fun _ => ?_)
  refine Tr.aload_n (pc := 17) (i := 0) d_X11_lay_17 rfl rfl ?_
  refine Tr.getf (pc := 18) d_X11_lay_18 f_11_9 (by decide) (by decide) (ty_0 hF) ?_
  refine Tr.tp 1 (fx_0_0 hF) ?_
  refine Tr.aload_n (pc := 21) (i := 0) d_X11_lay_21 rfl rfl ?_
  refine Tr.getf (pc := 22) d_X11_lay_22 f_11_84 (by decide) (by decide) (ty_0 hF) ?_
  refine Tr.tp 5 (rd_ws _ _ _ _) ?_
  refine Tr.iload_n (pc := 25) (i := 1) d_X11_lay_25 rfl rfl ?_
  refine Tr.iload_n (pc := 26) (i := 2) d_X11_lay_26 rfl rfl ?_
  refine Tr.ishr (pc := 27) d_X11_lay_27 ?_
  refine Tr.i2b (pc := 28) d_X11_lay_28 ?_
  refine Tr.bastX (pc := 29) d_X11_lay_29 (ty_1 hF) (by decide) (by decide) hF (by decide +kernel) (fun hF => ?_)
  refine Tr.aload_n (pc := 30) (i := 0) d_X11_lay_30 rfl rfl ?_
  refine Tr.dup (pc := 31) d_X11_lay_31 ne21 ?_
  refine Tr.getf (pc := 32) d_X11_lay_32 f_11_84 (by decide) (by decide) (ty_0 hF) ?_
  refine Tr.tp 5 ((rd_wb _ rfl).trans (rd_ws _ _ _ _)) ?_
  refine Tr.iconst (pc := 35) d_X11_lay_35 (by decide) ?_
  refine Tr.iadd (pc := 36) d_X11_lay_36 ?_
  refine Tr.tp 6 rfl ?_
  refine Tr.putfX (pc := 37) d_X11_lay_37 f_11_84 (by decide) (by decide) (ty_0 hF) hF (by decide +kernel) (fun hF => ?_)
  refine Tr.iinc (pc := 40) (ls2 := [(2, (0, 8)), (0, (2, 0)), (1, (0, _))]) d_X11_lay_40 rfl (by decide) rfl ?_
  refine Tr.goto (pc := 43) (tgt := 3) d_X11_lay_43 rfl ?_
  refine Tr.iload_n (pc := 3) (i := 2) d_X11_lay_3 rfl rfl ?_
  refine Tr.if_lt (pc := 4) (tgt := 46) d_X11_lay_4 rfl (fun hc => absurd hc (by decide)) (fun _ => ?_)
  refine Tr.aload_n (pc := 7) (i := 0) d_X11_lay_7 rfl rfl ?_
  refine Tr.getf (pc := 8) d_X11_lay_8 f_11_84 (by decide) (by decide) (ty_0 hF) ?_
  refine Tr.tp 6 (rd_ws _ _ _ _) ?_
  refine Tr.sipush (pc := 11) d_X11_lay_11 rfl (by decide) ?_
  refine Tr.icmp_ge (pc := 14) (tgt := 46) d_X11_lay_14 rfl (fun hc => absurd hc (by decide)) (fun _ => ?_)
  refine Tr.aload_n (pc := 17) (i := 0) d_X11_lay_17 rfl rfl ?_
  refine Tr.getf (pc := 18) d_X11_lay_18 f_11_9 (by decide) (by decide) (ty_0 hF) ?_
  refine Tr.tp 1 (fx_0_0 hF) ?_
  refine Tr.aload_n (pc := 21) (i := 0) d_X11_lay_21 rfl rfl ?_
  refine Tr.getf (pc := 22) d_X11_lay_22 f_11_84 (by decide) (by decide) (ty_0 hF) ?_
  refine Tr.tp 6 (rd_ws _ _ _ _) ?_
  refine Tr.iload_n (pc := 25) (i := 1) d_X11_lay_25 rfl rfl ?_
  refine Tr.iload_n (pc := 26) (i := 2) d_X11_lay_26 rfl rfl ?_
  refine Tr.ishr (pc := 27) d_X11_lay_27 ?_
  refine Tr.i2b (pc := 28) d_X11_lay_28 ?_
  refine Tr.bastX (pc := 29) d_X11_lay_29 (ty_1 hF) (by decide) (by decide) hF (by decide +kernel) (fun hF => ?_)
  refine Tr.aload_n (pc := 30) (i := 0) d_X11_lay_30 rfl rfl ?_
  refine Tr.dup (pc := 31) d_X11_lay_31 ne21 ?_
  refine Tr.getf (pc := 32) d_X11_lay_32 f_11_84 (by decide) (by decide) (ty_0 hF) ?_
  refine Tr.tp 6 ((rd_wb _ rfl).trans (rd_ws _ _ _ _)) ?_
  refine Tr.iconst (pc := 35) d_X11_lay_35 (by decide) ?_
  refine Tr.iadd (pc := 36) d_X11_lay_36 ?_
  refine Tr.tp 7 rfl ?_
  refine Tr.putfX (pc := 37) d_X11_lay_37 f_11_84 (by decide) (by decide) (ty_0 hF) hF (by decide +kernel) (fun hF => ?_)
  refine Tr.iinc (pc := 40) (ls2 := [(2, (0, 0)), (0, (2, 0)), (1, (0, _))]) d_X11_lay_40 rfl (by decide) rfl ?_
  refine Tr.goto (pc := 43) (tgt := 3) d_X11_lay_43 rfl ?_
  refine Tr.iload_n (pc := 3) (i := 2) d_X11_lay_3 rfl rfl ?_
  refine Tr.if_lt (pc := 4) (tgt := 46) d_X11_lay_4 rfl (fun hc => absurd hc (by decide)) (fun _ => ?_)
  refine Tr.aload_n (pc := 7) (i := 0) d_X11_lay_7 rfl rfl ?_
  refine Tr.getf (pc := 8) d_X11_lay_8 f_11_84 (by decide) (by decide) (ty_0 hF) ?_
  refine Tr.tp 7 (rd_ws _ _ _ _) ?_
  refine Tr.sipush (pc := 11) d_X11_lay_11 rfl (by decide) ?_
  refine Tr.icmp_ge (pc := 14) (tgt := 46) d_X11_lay_14 rfl (fun hc => absurd hc (by decide)) (fun _ => ?_)
  refine Tr.aload_n (pc := 17) (i := 0) d_X11_lay_17 rfl rfl ?_
  refine Tr.getf (pc := 18) d_X11_lay_18 f_11_9 (by decide) (by decide) (ty_0 hF) ?_
  refine Tr.tp 1 (fx_0_0 hF) ?_
  refine Tr.aload_n (pc := 21) (i := 0) d_X11_lay_21 rfl rfl ?_
  refine Tr.getf (pc := 22) d_X11_lay_22 f_11_84 (by decide) (by decide) (ty_0 hF) ?_
  refine Tr.tp 7 (rd_ws _ _ _ _) ?_
  refine Tr.iload_n (pc := 25) (i := 1) d_X11_lay_25 rfl rfl ?_
  refine Tr.iload_n (pc := 26) (i := 2) d_X11_lay_26 rfl rfl ?_
  refine Tr.ishr (pc := 27) d_X11_lay_27 ?_
  refine Tr.i2b (pc := 28) d_X11_lay_28 ?_
  refine Tr.bastX (pc := 29) d_X11_lay_29 (ty_1 hF) (by decide) (by decide) hF (by decide +kernel) (fun hF => ?_)
  refine Tr.aload_n (pc := 30) (i := 0) d_X11_lay_30 rfl rfl ?_
  refine Tr.dup (pc := 31) d_X11_lay_31 ne21 ?_
  refine Tr.getf (pc := 32) d_X11_lay_32 f_11_84 (by decide) (by decide) (ty_0 hF) ?_
  refine Tr.tp 7 ((rd_wb _ rfl).trans (rd_ws _ _ _ _)) ?_
  refine Tr.iconst (pc := 35) d_X11_lay_35 (by decide) ?_
  refine Tr.iadd (pc := 36) d_X11_lay_36 ?_
  refine Tr.tp 8 rfl ?_
  refine Tr.putfX (pc := 37) d_X11_lay_37 f_11_84 (by decide) (by decide) (ty_0 hF) hF (by decide +kernel) (fun hF => ?_)
  refine Tr.iinc (pc := 40) (ls2 := [(2, (0, (-8))), (0, (2, 0)), (1, (0, _))]) d_X11_lay_40 rfl (by decide) rfl ?_
  refine Tr.goto (pc := 43) (tgt := 3) d_X11_lay_43 rfl ?_
  refine Tr.iload_n (pc := 3) (i := 2) d_X11_lay_3 rfl rfl ?_
  refine Tr.if_lt (pc := 4) (tgt := 46) d_X11_lay_4 rfl (fun _ => ?_) (fun hc => absurd (by decide) hc)
  refine Tr.vret (pc := 46) d_X11_lay_46 rfl ?_
  refine Tr.sc [] rfl ?_
  refine Tr.aload_n (pc := 25) (i := 0) d_X11_feed_25 rfl rfl ?_
  refine Tr.iload_n (pc := 26) (i := 3) d_X11_feed_26 rfl rfl ?_
  refine Tr.callV (pc := 27) (as := [_]) d_X11_feed_27 s_11_88 ok_X11_lay rfl rfl (Nat.le_of_ble_eq_true rfl) (Nat.le_of_ble_eq_true rfl) (by decide) (ty_0 hF) ?_
  refine Tr.lc [(0, (2, 0)), (1, (0, _))] rfl ?_
  refine Tr.bipush (pc := 0) d_X11_lay_0 rfl (by decide) ?_
  refine Tr.istore_n (pc := 2) (i := 2) (ls2 := [(2, (0, 24)), (0, (2, 0)), (1, (0, _))]) d_X11_lay_2 rfl (by decide) rfl ?_
  refine Tr.iload_n (pc := 3) (i := 2) d_X11_lay_3 rfl rfl ?_
  refine Tr.if_lt (pc := 4) (tgt := 46) d_X11_lay_4 rfl (fun hc => absurd hc (by decide)) (fun _ => ?_)
  refine Tr.aload_n (pc := 7) (i := 0) d_X11_lay_7 rfl rfl ?_
  refine Tr.getf (pc := 8) d_X11_lay_8 f_11_84 (by decide) (by decide) (ty_0 hF) ?_
  refine Tr.tp 8 (rd_ws _ _ _ _) ?_
  refine Tr.sipush (pc := 11) d_X11_lay_11 rfl (by decide) ?_
  refine Tr.icmp_ge (pc := 14) (tgt := 46) d_X11_lay_14 rfl (fun hc => absurd hc (by decide)) (fun _ => ?_)
  refine Tr.aload_n (pc := 17) (i := 0) d_X11_lay_17 rfl rfl ?_
  refine Tr.getf (pc := 18) d_X11_lay_18 f_11_9 (by decide) (by decide) (ty_0 hF) ?_
  refine Tr.tp 1 (fx_0_0 hF) ?_
  refine Tr.aload_n (pc := 21) (i := 0) d_X11_lay_21 rfl rfl ?_
  refine Tr.getf (pc := 22) d_X11_lay_22 f_11_84 (by decide) (by decide) (ty_0 hF) ?_
  refine Tr.tp 8 (rd_ws _ _ _ _) ?_
  refine Tr.iload_n (pc := 25) (i := 1) d_X11_lay_25 rfl rfl ?_
  refine Tr.iload_n (pc := 26) (i := 2) d_X11_lay_26 rfl rfl ?_
  refine Tr.ishr (pc := 27) d_X11_lay_27 ?_
  refine Tr.i2b (pc := 28) d_X11_lay_28 ?_
  refine Tr.bastX (pc := 29) d_X11_lay_29 (ty_1 hF) (by decide) (by decide) hF (by decide +kernel) (fun hF => ?_)
  refine Tr.aload_n (pc := 30) (i := 0) d_X11_lay_30 rfl rfl ?_
  refine Tr.dup (pc := 31) d_X11_lay_31 ne21 ?_
  refine Tr.getf (pc := 32) d_X11_lay_32 f_11_84 (by decide) (by decide) (ty_0 hF) ?_
  refine Tr.tp 8 ((rd_wb _ rfl).trans (rd_ws _ _ _ _)) ?_
  refine Tr.iconst (pc := 35) d_X11_lay_35 (by decide) ?_
  refine Tr.iadd (pc := 36) d_X11_lay_36 ?_
  refine Tr.tp 9 rfl ?_
  refine Tr.putfX (pc := 37) d_X11_lay_37 f_11_84 (by decide) (by decide) (ty_0 hF) hF (by decide +kernel) (fun hF => ?_)
  refine Tr.iinc (pc := 40) (ls2 := [(2, (0, 16)), (0, (2, 0)), (1, (0, _))]) d_X11_lay_40 rfl (by decide) rfl ?_
  refine Tr.goto (pc := 43) (tgt := 3) d_X11_lay_43 rfl ?_
  refine Tr.iload_n (pc := 3) (i := 2) d_X11_lay_3 rfl rfl ?_
  refine Tr.if_lt (pc := 4) (tgt := 46) d_X11_lay_4 rfl (fun hc => absurd hc (by decide)) (fun _ => ?_)
  refine Tr.aload_n (pc := 7) (i := 0) d_X11_lay_7 rfl rfl ?_
  refine Tr.getf (pc := 8) d_X11_lay_8 f_11_84 (by decide) (by decide) (ty_0 hF) ?_
  refine Tr.tp 9 (rd_ws _ _ _ _) ?_
  refine Tr.sipush (pc := 11) d_X11_lay_11 rfl (by decide) ?_
  refine Tr.icmp_ge (pc := 14) (tgt := 46) d_X11_lay_14 rfl (fun hc => absurd hc (by decide)) (fun _ => ?_)
  refine Tr.aload_n (pc := 17) (i := 0) d_X11_lay_17 rfl rfl ?_
  refine Tr.getf (pc := 18) d_X11_lay_18 f_11_9 (by decide) (by decide) (ty_0 hF) ?_
  refine Tr.tp 1 (fx_0_0 hF) ?_
  refine Tr.aload_n (pc := 21) (i := 0) d_X11_lay_21 rfl rfl ?_
  refine Tr.getf (pc := 22) d_X11_lay_22 f_11_84 (by decide) (by decide) (ty_0 hF) ?_
  refine Tr.tp 9 (rd_ws _ _ _ _) ?_
  refine Tr.iload_n (pc := 25) (i := 1) d_X11_lay_25 rfl rfl ?_
  refine Tr.iload_n (pc := 26) (i := 2) d_X11_lay_26 rfl rfl ?_
  refine Tr.ishr (pc := 27) d_X11_lay_27 ?_
  refine Tr.i2b (pc := 28) d_X11_lay_28 ?_
  refine Tr.bastX (pc := 29) d_X11_lay_29 (ty_1 hF) (by decide) (by decide) hF (by decide +kernel) (fun hF => ?_)
  refine Tr.aload_n (pc := 30) (i := 0) d_X11_lay_30 rfl rfl ?_
  refine Tr.dup (pc := 31) d_X11_lay_31 ne21 ?_
  refine Tr.getf (pc := 32) d_X11_lay_32 f_11_84 (by decide) (by decide) (ty_0 hF) ?_
  refine Tr.tp 9 ((rd_wb _ rfl).trans (rd_ws _ _ _ _)) ?_
  refine Tr.iconst (pc := 35) d_X11_lay_35 (by decide) ?_
  refine Tr.iadd (pc := 36) d_X11_lay_36 ?_
  refine Tr.tp 10 rfl ?_
  refine Tr.putfX (pc := 37) d_X11_lay_37 f_11_84 (by decide) (by decide) (ty_0 hF) hF (by decide +kernel) (fun hF => ?_)
  refine Tr.iinc (pc := 40) (ls2 := [(2, (0, 8)), (0, (2, 0)), (1, (0, _))]) d_X11_lay_40 rfl (by decide) rfl ?_
  refine Tr.goto (pc := 43) (tgt := 3) d_X11_lay_43 rfl ?_
  refine Tr.iload_n (pc := 3) (i := 2) d_X11_lay_3 rfl rfl ?_
  refine Tr.if_lt (pc := 4) (tgt := 46) d_X11_lay_4 rfl (fun hc => absurd hc (by decide)) (fun _ => ?_)
  refine Tr.aload_n (pc := 7) (i := 0) d_X11_lay_7 rfl rfl ?_
  refine Tr.getf (pc := 8) d_X11_lay_8 f_11_84 (by decide) (by decide) (ty_0 hF) ?_
  refine Tr.tp 10 (rd_ws _ _ _ _) ?_
  refine Tr.sipush (pc := 11) d_X11_lay_11 rfl (by decide) ?_
  refine Tr.icmp_ge (pc := 14) (tgt := 46) d_X11_lay_14 rfl (fun hc => absurd hc (by decide)) (fun _ => ?_)
  refine Tr.aload_n (pc := 17) (i := 0) d_X11_lay_17 rfl rfl ?_
  refine Tr.getf (pc := 18) d_X11_lay_18 f_11_9 (by decide) (by decide) (ty_0 hF) ?_
  refine Tr.tp 1 (fx_0_0 hF) ?_
  refine Tr.aload_n (pc := 21) (i := 0) d_X11_lay_21 rfl rfl ?_
  refine Tr.getf (pc := 22) d_X11_lay_22 f_11_84 (by decide) (by decide) (ty_0 hF) ?_
  refine Tr.tp 10 (rd_ws _ _ _ _) ?_
  refine Tr.iload_n (pc := 25) (i := 1) d_X11_lay_25 rfl rfl ?_
  refine Tr.iload_n (pc := 26) (i := 2) d_X11_lay_26 rfl rfl ?_
  refine Tr.ishr (pc := 27) d_X11_lay_27 ?_
  refine Tr.i2b (pc := 28) d_X11_lay_28 ?_
  refine Tr.bastX (pc := 29) d_X11_lay_29 (ty_1 hF) (by decide) (by decide) hF (by decide +kernel) (fun hF => ?_)
  refine Tr.aload_n (pc := 30) (i := 0) d_X11_lay_30 rfl rfl ?_
  refine Tr.dup (pc := 31) d_X11_lay_31 ne21 ?_
  refine Tr.getf (pc := 32) d_X11_lay_32 f_11_84 (by decide) (by decide) (ty_0 hF) ?_
  refine Tr.tp 10 ((rd_wb _ rfl).trans (rd_ws _ _ _ _)) ?_
  refine Tr.iconst (pc := 35) d_X11_lay_35 (by decide) ?_
  refine Tr.iadd (pc := 36) d_X11_lay_36 ?_
  refine Tr.tp 11 rfl ?_
  refine Tr.putfX (pc := 37) d_X11_lay_37 f_11_84 (by decide) (by decide) (ty_0 hF) hF (by decide +kernel) (fun hF => ?_)
  refine Tr.iinc (pc := 40) (ls2 := [(2, (0, 0)), (0, (2, 0)), (1, (0, _))]) d_X11_lay_40 rfl (by decide) rfl ?_
  refine Tr.goto (pc := 43) (tgt := 3) d_X11_lay_43 rfl ?_
  refine Tr.iload_n (pc := 3) (i := 2) d_X11_lay_3 rfl rfl ?_
  refine Tr.if_lt (pc := 4) (tgt := 46) d_X11_lay_4 rfl (fun hc => absurd hc (by decide)) (fun _ => ?_)
  refine Tr.aload_n (pc := 7) (i := 0) d_X11_lay_7 rfl rfl ?_
  refine Tr.getf (pc := 8) d_X11_lay_8 f_11_84 (by decide) (by decide) (ty_0 hF) ?_
  refine Tr.tp 11 (rd_ws _ _ _ _) ?_
  refine Tr.sipush (pc := 11) d_X11_lay_11 rfl (by decide) ?_
  refine Tr.icmp_ge (pc := 14) (tgt := 46) d_X11_lay_14 rfl (fun hc => absurd hc (by decide)) (fun _ => ?_)
  refine Tr.aload_n (pc := 17) (i := 0) d_X11_lay_17 rfl rfl ?_
  refine Tr.getf (pc := 18) d_X11_lay_18 f_11_9 (by decide) (by decide) (ty_0 hF) ?_
  refine Tr.tp 1 (fx_0_0 hF) ?_
  refine Tr.aload_n (pc := 21) (i := 0) d_X11_lay_21 rfl rfl ?_
  refine Tr.getf (pc := 22) d_X11_lay_22 f_11_84 (by decide) (by decide) (ty_0 hF) ?_
  refine Tr.tp 11 (rd_ws _ _ _ _) ?_
  refine Tr.iload_n (pc := 25) (i := 1) d_X11_lay_25 rfl rfl ?_
  refine Tr.iload_n (pc := 26) (i := 2) d_X11_lay_26 rfl rfl ?_
  refine Tr.ishr (pc := 27) d_X11_lay_27 ?_
  refine Tr.i2b (pc := 28) d_X11_lay_28 ?_
  refine Tr.bastX (pc := 29) d_X11_lay_29 (ty_1 hF) (by decide) (by decide) hF (by decide +kernel) (fun hF => ?_)
  refine Tr.aload_n (pc := 30) (i := 0) d_X11_lay_30 rfl rfl ?_
  refine Tr.dup (pc := 31) d_X11_lay_31 ne21 ?_
  refine Tr.getf (pc := 32) d_X11_lay_32 f_11_84 (by decide) (by decide) (ty_0 hF) ?_
  refine Tr.tp 11 ((rd_wb _ rfl).trans (rd_ws _ _ _ _)) ?_
  refine Tr.iconst (pc := 35) d_X11_lay_35 (by decide) ?_
  refine Tr.iadd (pc := 36) d_X11_lay_36 ?_
  refine Tr.tp 12 rfl ?_
  refine Tr.putfX (pc := 37) d_X11_lay_37 f_11_84 (by decide) (by decide) (ty_0 hF) hF (by decide +kernel) (fun hF => ?_)
  refine Tr.iinc (pc := 40) (ls2 := [(2, (0, (-8))), (0, (2, 0)), (1, (0, _))]) d_X11_lay_40 rfl (by decide) rfl ?_
  refine Tr.goto (pc := 43) (tgt := 3) d_X11_lay_43 rfl ?_
  refine Tr.iload_n (pc := 3) (i := 2) d_X11_lay_3 rfl rfl ?_
  refine Tr.if_lt (pc := 4) (tgt := 46) d_X11_lay_4 rfl (fun _ => ?_) (fun hc => absurd (by decide) hc)
  refine Tr.vret (pc := 46) d_X11_lay_46 rfl ?_
  refine Tr.sc [] rfl ?_
  refine Tr.aload_n (pc := 30) (i := 0) d_X11_feed_30 rfl rfl ?_
  refine Tr.iload (pc := 31) (i := 4) d_X11_feed_31 rfl ?_
  refine Tr.callV (pc := 33) (as := [_]) d_X11_feed_33 s_11_88 ok_X11_lay rfl rfl (Nat.le_of_ble_eq_true rfl) (Nat.le_of_ble_eq_true rfl) (by decide) (ty_0 hF) ?_
  refine Tr.lc [(0, (2, 0)), (1, (0, _))] rfl ?_
  refine Tr.bipush (pc := 0) d_X11_lay_0 rfl (by decide) ?_
  refine Tr.istore_n (pc := 2) (i := 2) (ls2 := [(2, (0, 24)), (0, (2, 0)), (1, (0, _))]) d_X11_lay_2 rfl (by decide) rfl ?_
  refine Tr.iload_n (pc := 3) (i := 2) d_X11_lay_3 rfl rfl ?_
  refine Tr.if_lt (pc := 4) (tgt := 46) d_X11_lay_4 rfl (fun hc => absurd hc (by decide)) (fun _ => ?_)
  refine Tr.aload_n (pc := 7) (i := 0) d_X11_lay_7 rfl rfl ?_
  refine Tr.getf (pc := 8) d_X11_lay_8 f_11_84 (by decide) (by decide) (ty_0 hF) ?_
  refine Tr.tp 12 (rd_ws _ _ _ _) ?_
  refine Tr.sipush (pc := 11) d_X11_lay_11 rfl (by decide) ?_
  refine Tr.icmp_ge (pc := 14) (tgt := 46) d_X11_lay_14 rfl (fun hc => absurd hc (by decide)) (fun _ => ?_)
  refine Tr.aload_n (pc := 17) (i := 0) d_X11_lay_17 rfl rfl ?_
  refine Tr.getf (pc := 18) d_X11_lay_18 f_11_9 (by decide) (by decide) (ty_0 hF) ?_
  refine Tr.tp 1 (fx_0_0 hF) ?_
  refine Tr.aload_n (pc := 21) (i := 0) d_X11_lay_21 rfl rfl ?_
  refine Tr.getf (pc := 22) d_X11_lay_22 f_11_84 (by decide) (by decide) (ty_0 hF) ?_
  refine Tr.tp 12 (rd_ws _ _ _ _) ?_
  refine Tr.iload_n (pc := 25) (i := 1) d_X11_lay_25 rfl rfl ?_
  refine Tr.iload_n (pc := 26) (i := 2) d_X11_lay_26 rfl rfl ?_
  refine Tr.ishr (pc := 27) d_X11_lay_27 ?_
  refine Tr.i2b (pc := 28) d_X11_lay_28 ?_
  refine Tr.bastX (pc := 29) d_X11_lay_29 (ty_1 hF) (by decide) (by decide) hF (by decide +kernel) (fun hF => ?_)
  refine Tr.aload_n (pc := 30) (i := 0) d_X11_lay_30 rfl rfl ?_
  refine Tr.dup (pc := 31) d_X11_lay_31 ne21 ?_
  refine Tr.getf (pc := 32) d_X11_lay_32 f_11_84 (by decide) (by decide) (ty_0 hF) ?_
  refine Tr.tp 12 ((rd_wb _ rfl).trans (rd_ws _ _ _ _)) ?_
  refine Tr.iconst (pc := 35) d_X11_lay_35 (by decide) ?_
  refine Tr.iadd (pc := 36) d_X11_lay_36 ?_
  refine Tr.tp 13 rfl ?_
  refine Tr.putfX (pc := 37) d_X11_lay_37 f_11_84 (by decide) (by decide) (ty_0 hF) hF (by decide +kernel) (fun hF => ?_)
  refine Tr.iinc (pc := 40) (ls2 := [(2, (0, 16)), (0, (2, 0)), (1, (0, _))]) d_X11_lay_40 rfl (by decide) rfl ?_
  refine Tr.goto (pc := 43) (tgt := 3) d_X11_lay_43 rfl ?_
  refine Tr.iload_n (pc := 3) (i := 2) d_X11_lay_3 rfl rfl ?_
  refine Tr.if_lt (pc := 4) (tgt := 46) d_X11_lay_4 rfl (fun hc => absurd hc (by decide)) (fun _ => ?_)
  refine Tr.aload_n (pc := 7) (i := 0) d_X11_lay_7 rfl rfl ?_
  refine Tr.getf (pc := 8) d_X11_lay_8 f_11_84 (by decide) (by decide) (ty_0 hF) ?_
  refine Tr.tp 13 (rd_ws _ _ _ _) ?_
  refine Tr.sipush (pc := 11) d_X11_lay_11 rfl (by decide) ?_
  refine Tr.icmp_ge (pc := 14) (tgt := 46) d_X11_lay_14 rfl (fun hc => absurd hc (by decide)) (fun _ => ?_)
  refine Tr.aload_n (pc := 17) (i := 0) d_X11_lay_17 rfl rfl ?_
  refine Tr.getf (pc := 18) d_X11_lay_18 f_11_9 (by decide) (by decide) (ty_0 hF) ?_
  refine Tr.tp 1 (fx_0_0 hF) ?_
  refine Tr.aload_n (pc := 21) (i := 0) d_X11_lay_21 rfl rfl ?_
  refine Tr.getf (pc := 22) d_X11_lay_22 f_11_84 (by decide) (by decide) (ty_0 hF) ?_
  refine Tr.tp 13 (rd_ws _ _ _ _) ?_
  refine Tr.iload_n (pc := 25) (i := 1) d_X11_lay_25 rfl rfl ?_
  refine Tr.iload_n (pc := 26) (i := 2) d_X11_lay_26 rfl rfl ?_
  refine Tr.ishr (pc := 27) d_X11_lay_27 ?_
  refine Tr.i2b (pc := 28) d_X11_lay_28 ?_
  refine Tr.bastX (pc := 29) d_X11_lay_29 (ty_1 hF) (by decide) (by decide) hF (by decide +kernel) (fun hF => ?_)
  refine Tr.aload_n (pc := 30) (i := 0) d_X11_lay_30 rfl rfl ?_
  refine Tr.dup (pc := 31) d_X11_lay_31 ne21 ?_
  refine Tr.getf (pc := 32) d_X11_lay_32 f_11_84 (by decide) (by decide) (ty_0 hF) ?_
  refine Tr.tp 13 ((rd_wb _ rfl).trans (rd_ws _ _ _ _)) ?_
  refine Tr.iconst (pc := 35) d_X11_lay_35 (by decide) ?_
  refine Tr.iadd (pc := 36) d_X11_lay_36 ?_
  refine Tr.tp 14 rfl ?_
  refine Tr.putfX (pc := 37) d_X11_lay_37 f_11_84 (by decide) (by decide) (ty_0 hF) hF (by decide +kernel) (fun hF => ?_)
  refine Tr.iinc (pc := 40) (ls2 := [(2, (0, 8)), (0, (2, 0)), (1, (0, _))]) d_X11_lay_40 rfl (by decide) rfl ?_
  refine Tr.goto (pc := 43) (tgt := 3) d_X11_lay_43 rfl ?_
  refine Tr.iload_n (pc := 3) (i := 2) d_X11_lay_3 rfl rfl ?_
  refine Tr.if_lt (pc := 4) (tgt := 46) d_X11_lay_4 rfl (fun hc => absurd hc (by decide)) (fun _ => ?_)
  refine Tr.aload_n (pc := 7) (i := 0) d_X11_lay_7 rfl rfl ?_
  refine Tr.getf (pc := 8) d_X11_lay_8 f_11_84 (by decide) (by decide) (ty_0 hF) ?_
  refine Tr.tp 14 (rd_ws _ _ _ _) ?_
  refine Tr.sipush (pc := 11) d_X11_lay_11 rfl (by decide) ?_
  refine Tr.icmp_ge (pc := 14) (tgt := 46) d_X11_lay_14 rfl (fun hc => absurd hc (by decide)) (fun _ => ?_)
  refine Tr.aload_n (pc := 17) (i := 0) d_X11_lay_17 rfl rfl ?_
  refine Tr.getf (pc := 18) d_X11_lay_18 f_11_9 (by decide) (by decide) (ty_0 hF) ?_
  refine Tr.tp 1 (fx_0_0 hF) ?_
  refine Tr.aload_n (pc := 21) (i := 0) d_X11_lay_21 rfl rfl ?_
  refine Tr.getf (pc := 22) d_X11_lay_22 f_11_84 (by decide) (by decide) (ty_0 hF) ?_
  refine Tr.tp 14 (rd_ws _ _ _ _) ?_
  refine Tr.iload_n (pc := 25) (i := 1) d_X11_lay_25 rfl rfl ?_
  refine Tr.iload_n (pc := 26) (i := 2) d_X11_lay_26 rfl rfl ?_
  refine Tr.ishr (pc := 27) d_X11_lay_27 ?_
  refine Tr.i2b (pc := 28) d_X11_lay_28 ?_
  refine Tr.bastX (pc := 29) d_X11_lay_29 (ty_1 hF) (by decide) (by decide) hF (by decide +kernel) (fun hF => ?_)
  refine Tr.aload_n (pc := 30) (i := 0) d_X11_lay_30 rfl rfl ?_
  refine Tr.dup (pc := 31) d_X11_lay_31 ne21 ?_
  refine Tr.getf (pc := 32) d_X11_lay_32 f_11_84 (by decide) (by decide) (ty_0 hF) ?_
  refine Tr.tp 14 ((rd_wb _ rfl).trans (rd_ws _ _ _ _)) ?_
  refine Tr.iconst (pc := 35) d_X11_lay_35 (by decide) ?_
  refine Tr.iadd (pc := 36) d_X11_lay_36 ?_
  refine Tr.tp 15 rfl ?_
  refine Tr.putfX (pc := 37) d_X11_lay_37 f_11_84 (by decide) (by decide) (ty_0 hF) hF (by decide +kernel) (fun hF => ?_)
  refine Tr.iinc (pc := 40) (ls2 := [(2, (0, 0)), (0, (2, 0)), (1, (0, _))]) d_X11_lay_40 rfl (by decide) rfl ?_
  refine Tr.goto (pc := 43) (tgt := 3) d_X11_lay_43 rfl ?_
  refine Tr.iload_n (pc := 3) (i := 2) d_X11_lay_3 rfl rfl ?_
  refine Tr.if_lt (pc := 4) (tgt := 46) d_X11_lay_4 rfl (fun hc => absurd hc (by decide)) (fun _ => ?_)
  refine Tr.aload_n (pc := 7) (i := 0) d_X11_lay_7 rfl rfl ?_
  refine Tr.getf (pc := 8) d_X11_lay_8 f_11_84 (by decide) (by decide) (ty_0 hF) ?_
  refine Tr.tp 15 (rd_ws _ _ _ _) ?_
  refine Tr.sipush (pc := 11) d_X11_lay_11 rfl (by decide) ?_
  refine Tr.icmp_ge (pc := 14) (tgt := 46) d_X11_lay_14 rfl (fun hc => absurd hc (by decide)) (fun _ => ?_)
  refine Tr.aload_n (pc := 17) (i := 0) d_X11_lay_17 rfl rfl ?_
  refine Tr.getf (pc := 18) d_X11_lay_18 f_11_9 (by decide) (by decide) (ty_0 hF) ?_
  refine Tr.tp 1 (fx_0_0 hF) ?_
  refine Tr.aload_n (pc := 21) (i := 0) d_X11_lay_21 rfl rfl ?_
  refine Tr.getf (pc := 22) d_X11_lay_22 f_11_84 (by decide) (by decide) (ty_0 hF) ?_
  refine Tr.tp 15 (rd_ws _ _ _ _) ?_
  refine Tr.iload_n (pc := 25) (i := 1) d_X11_lay_25 rfl rfl ?_
  refine Tr.iload_n (pc := 26) (i := 2) d_X11_lay_26 rfl rfl ?_
  refine Tr.ishr (pc := 27) d_X11_lay_27 ?_
  refine Tr.i2b (pc := 28) d_X11_lay_28 ?_
  refine Tr.bastX (pc := 29) d_X11_lay_29 (ty_1 hF) (by decide) (by decide) hF (by decide +kernel) (fun hF => ?_)
  refine Tr.aload_n (pc := 30) (i := 0) d_X11_lay_30 rfl rfl ?_
  refine Tr.dup (pc := 31) d_X11_lay_31 ne21 ?_
  refine Tr.getf (pc := 32) d_X11_lay_32 f_11_84 (by decide) (by decide) (ty_0 hF) ?_
  refine Tr.tp 15 ((rd_wb _ rfl).trans (rd_ws _ _ _ _)) ?_
  refine Tr.iconst (pc := 35) d_X11_lay_35 (by decide) ?_
  refine Tr.iadd (pc := 36) d_X11_lay_36 ?_
  refine Tr.tp 16 rfl ?_
  refine Tr.putfX (pc := 37) d_X11_lay_37 f_11_84 (by decide) (by decide) (ty_0 hF) hF (by decide +kernel) (fun hF => ?_)
  refine Tr.iinc (pc := 40) (ls2 := [(2, (0, (-8))), (0, (2, 0)), (1, (0, _))]) d_X11_lay_40 rfl (by decide) rfl ?_
  refine Tr.goto (pc := 43) (tgt := 3) d_X11_lay_43 rfl ?_
  refine Tr.iload_n (pc := 3) (i := 2) d_X11_lay_3 rfl rfl ?_
  refine Tr.if_lt (pc := 4) (tgt := 46) d_X11_lay_4 rfl (fun _ => ?_) (fun hc => absurd (by decide) hc)
  refine Tr.vret (pc := 46) d_X11_lay_46 rfl ?_
  refine Tr.sc [] rfl ?_
  refine Tr.aload_n (pc := 36) (i := 0) d_X11_feed_36 rfl rfl ?_
  refine Tr.iload (pc := 37) (i := 5) d_X11_feed_37 rfl ?_
  refine Tr.callV (pc := 39) (as := [_]) d_X11_feed_39 s_11_88 ok_X11_lay rfl rfl (Nat.le_of_ble_eq_true rfl) (Nat.le_of_ble_eq_true rfl) (by decide) (ty_0 hF) ?_
  refine Tr.lc [(0, (2, 0)), (1, (0, _))] rfl ?_
  refine Tr.bipush (pc := 0) d_X11_lay_0 rfl (by decide) ?_
  refine Tr.istore_n (pc := 2) (i := 2) (ls2 := [(2, (0, 24)), (0, (2, 0)), (1, (0, _))]) d_X11_lay_2 rfl (by decide) rfl ?_
  refine Tr.iload_n (pc := 3) (i := 2) d_X11_lay_3 rfl rfl ?_
  refine Tr.if_lt (pc := 4) (tgt := 46) d_X11_lay_4 rfl (fun hc => absurd hc (by decide)) (fun _ => ?_)
  refine Tr.aload_n (pc := 7) (i := 0) d_X11_lay_7 rfl rfl ?_
  refine Tr.getf (pc := 8) d_X11_lay_8 f_11_84 (by decide) (by decide) (ty_0 hF) ?_
  refine Tr.tp 16 (rd_ws _ _ _ _) ?_
  refine Tr.sipush (pc := 11) d_X11_lay_11 rfl (by decide) ?_
  refine Tr.icmp_ge (pc := 14) (tgt := 46) d_X11_lay_14 rfl (fun hc => absurd hc (by decide)) (fun _ => ?_)
  refine Tr.aload_n (pc := 17) (i := 0) d_X11_lay_17 rfl rfl ?_
  refine Tr.getf (pc := 18) d_X11_lay_18 f_11_9 (by decide) (by decide) (ty_0 hF) ?_
  refine Tr.tp 1 (fx_0_0 hF) ?_
  refine Tr.aload_n (pc := 21) (i := 0) d_X11_lay_21 rfl rfl ?_
  refine Tr.getf (pc := 22) d_X11_lay_22 f_11_84 (by decide) (by decide) (ty_0 hF) ?_
  refine Tr.tp 16 (rd_ws _ _ _ _) ?_
  refine Tr.iload_n (pc := 25) (i := 1) d_X11_lay_25 rfl rfl ?_
  refine Tr.iload_n (pc := 26) (i := 2) d_X11_lay_26 rfl rfl ?_
  refine Tr.ishr (pc := 27) d_X11_lay_27 ?_
  refine Tr.i2b (pc := 28) d_X11_lay_28 ?_
  refine Tr.bastX (pc := 29) d_X11_lay_29 (ty_1 hF) (by decide) (by decide) hF (by decide +kernel) (fun hF => ?_)
  refine Tr.aload_n (pc := 30) (i := 0) d_X11_lay_30 rfl rfl ?_
  refine Tr.dup (pc := 31) d_X11_lay_31 ne21 ?_
  refine Tr.getf (pc := 32) d_X11_lay_32 f_11_84 (by decide) (by decide) (ty_0 hF) ?_
  refine Tr.tp 16 ((rd_wb _ rfl).trans (rd_ws _ _ _ _)) ?_
  refine Tr.iconst (pc := 35) d_X11_lay_35 (by decide) ?_
  refine Tr.iadd (pc := 36) d_X11_lay_36 ?_
  refine Tr.tp 17 rfl ?_
  refine Tr.putfX (pc := 37) d_X11_lay_37 f_11_84 (by decide) (by decide) (ty_0 hF) hF (by decide +kernel) (fun hF => ?_)
  refine Tr.iinc (pc := 40) (ls2 := [(2, (0, 16)), (0, (2, 0)), (1, (0, _))]) d_X11_lay_40 rfl (by decide) rfl ?_
  refine Tr.goto (pc := 43) (tgt := 3) d_X11_lay_43 rfl ?_
  refine Tr.iload_n (pc := 3) (i := 2) d_X11_lay_3 rfl rfl ?_
  refine Tr.if_lt (pc := 4) (tgt := 46) d_X11_lay_4 rfl (fun hc => absurd hc (by decide)) (fun _ => ?_)
  refine Tr.aload_n (pc := 7) (i := 0) d_X11_lay_7 rfl rfl ?_
  refine Tr.getf (pc := 8) d_X11_lay_8 f_11_84 (by decide) (by decide) (ty_0 hF) ?_
  refine Tr.tp 17 (rd_ws _ _ _ _) ?_
  refine Tr.sipush (pc := 11) d_X11_lay_11 rfl (by decide) ?_
  refine Tr.icmp_ge (pc := 14) (tgt := 46) d_X11_lay_14 rfl (fun hc => absurd hc (by decide)) (fun _ => ?_)
  refine Tr.aload_n (pc := 17) (i := 0) d_X11_lay_17 rfl rfl ?_
  refine Tr.getf (pc := 18) d_X11_lay_18 f_11_9 (by decide) (by decide) (ty_0 hF) ?_
  refine Tr.tp 1 (fx_0_0 hF) ?_
  refine Tr.aload_n (pc := 21) (i := 0) d_X11_lay_21 rfl rfl ?_
  refine Tr.getf (pc := 22) d_X11_lay_22 f_11_84 (by decide) (by decide) (ty_0 hF) ?_
  refine Tr.tp 17 (rd_ws _ _ _ _) ?_
  refine Tr.iload_n (pc := 25) (i := 1) d_X11_lay_25 rfl rfl ?_
  refine Tr.iload_n (pc := 26) (i := 2) d_X11_lay_26 rfl rfl ?_
  refine Tr.ishr (pc := 27) d_X11_lay_27 ?_
  refine Tr.i2b (pc := 28) d_X11_lay_28 ?_
  refine Tr.bastX (pc := 29) d_X11_lay_29 (ty_1 hF) (by decide) (by decide) hF (by decide +kernel) (fun hF => ?_)
  refine Tr.aload_n (pc := 30) (i := 0) d_X11_lay_30 rfl rfl ?_
  refine Tr.dup (pc := 31) d_X11_lay_31 ne21 ?_
  refine Tr.getf (pc := 32) d_X11_lay_32 f_11_84 (by decide) (by decide) (ty_0 hF) ?_
  refine Tr.tp 17 ((rd_wb _ rfl).trans (rd_ws _ _ _ _)) ?_
  refine Tr.iconst (pc := 35) d_X11_lay_35 (by decide) ?_
  refine Tr.iadd (pc := 36) d_X11_lay_36 ?_
  refine Tr.tp 18 rfl ?_
  refine Tr.putfX (pc := 37) d_X11_lay_37 f_11_84 (by decide) (by decide) (ty_0 hF) hF (by decide +kernel) (fun hF => ?_)
  refine Tr.iinc (pc := 40) (ls2 := [(2, (0, 8)), (0, (2, 0)), (1, (0, _))]) d_X11_lay_40 rfl (by decide) rfl ?_
  refine Tr.goto (pc := 43) (tgt := 3) d_X11_lay_43 rfl ?_
  refine Tr.iload_n (pc := 3) (i := 2) d_X11_lay_3 rfl rfl ?_
  refine Tr.if_lt (pc := 4) (tgt := 46) d_X11_lay_4 rfl (fun hc => absurd hc (by decide)) (fun _ => ?_)
  refine Tr.aload_n (pc := 7) (i := 0) d_X11_lay_7 rfl rfl ?_
  refine Tr.getf (pc := 8) d_X11_lay_8 f_11_84 (by decide) (by decide) (ty_0 hF) ?_
  refine Tr.tp 18 (rd_ws _ _ _ _) ?_
  refine Tr.sipush (pc := 11) d_X11_lay_11 rfl (by decide) ?_
  refine Tr.icmp_ge (pc := 14) (tgt := 46) d_X11_lay_14 rfl (fun hc => absurd hc (by decide)) (fun _ => ?_)
  refine Tr.aload_n (pc := 17) (i := 0) d_X11_lay_17 rfl rfl ?_
  refine Tr.getf (pc := 18) d_X11_lay_18 f_11_9 (by decide) (by decide) (ty_0 hF) ?_
  refine Tr.tp 1 (fx_0_0 hF) ?_
  refine Tr.aload_n (pc := 21) (i := 0) d_X11_lay_21 rfl rfl ?_
  refine Tr.getf (pc := 22) d_X11_lay_22 f_11_84 (by decide) (by decide) (ty_0 hF) ?_
  refine Tr.tp 18 (rd_ws _ _ _ _) ?_
  refine Tr.iload_n (pc := 25) (i := 1) d_X11_lay_25 rfl rfl ?_
  refine Tr.iload_n (pc := 26) (i := 2) d_X11_lay_26 rfl rfl ?_
  refine Tr.ishr (pc := 27) d_X11_lay_27 ?_
  refine Tr.i2b (pc := 28) d_X11_lay_28 ?_
  refine Tr.bastX (pc := 29) d_X11_lay_29 (ty_1 hF) (by decide) (by decide) hF (by decide +kernel) (fun hF => ?_)
  refine Tr.aload_n (pc := 30) (i := 0) d_X11_lay_30 rfl rfl ?_
  refine Tr.dup (pc := 31) d_X11_lay_31 ne21 ?_
  refine Tr.getf (pc := 32) d_X11_lay_32 f_11_84 (by decide) (by decide) (ty_0 hF) ?_
  refine Tr.tp 18 ((rd_wb _ rfl).trans (rd_ws _ _ _ _)) ?_
  refine Tr.iconst (pc := 35) d_X11_lay_35 (by decide) ?_
  refine Tr.iadd (pc := 36) d_X11_lay_36 ?_
  refine Tr.tp 19 rfl ?_
  refine Tr.putfX (pc := 37) d_X11_lay_37 f_11_84 (by decide) (by decide) (ty_0 hF) hF (by decide +kernel) (fun hF => ?_)
  refine Tr.iinc (pc := 40) (ls2 := [(2, (0, 0)), (0, (2, 0)), (1, (0, _))]) d_X11_lay_40 rfl (by decide) rfl ?_
  refine Tr.goto (pc := 43) (tgt := 3) d_X11_lay_43 rfl ?_
  refine Tr.iload_n (pc := 3) (i := 2) d_X11_lay_3 rfl rfl ?_
  refine Tr.if_lt (pc := 4) (tgt := 46) d_X11_lay_4 rfl (fun hc => absurd hc (by decide)) (fun _ => ?_)
  refine Tr.aload_n (pc := 7) (i := 0) d_X11_lay_7 rfl rfl ?_
  refine Tr.getf (pc := 8) d_X11_lay_8 f_11_84 (by decide) (by decide) (ty_0 hF) ?_
  refine Tr.tp 19 (rd_ws _ _ _ _) ?_
  refine Tr.sipush (pc := 11) d_X11_lay_11 rfl (by decide) ?_
  refine Tr.icmp_ge (pc := 14) (tgt := 46) d_X11_lay_14 rfl (fun hc => absurd hc (by decide)) (fun _ => ?_)
  refine Tr.aload_n (pc := 17) (i := 0) d_X11_lay_17 rfl rfl ?_
  refine Tr.getf (pc := 18) d_X11_lay_18 f_11_9 (by decide) (by decide) (ty_0 hF) ?_
  refine Tr.tp 1 (fx_0_0 hF) ?_
  refine Tr.aload_n (pc := 21) (i := 0) d_X11_lay_21 rfl rfl ?_
  refine Tr.getf (pc := 22) d_X11_lay_22 f_11_84 (by decide) (by decide) (ty_0 hF) ?_
  refine Tr.tp 19 (rd_ws _ _ _ _) ?_
  refine Tr.iload_n (pc := 25) (i := 1) d_X11_lay_25 rfl rfl ?_
  refine Tr.iload_n (pc := 26) (i := 2) d_X11_lay_26 rfl rfl ?_
  refine Tr.ishr (pc := 27) d_X11_lay_27 ?_
  refine Tr.i2b (pc := 28) d_X11_lay_28 ?_
  refine Tr.bastX (pc := 29) d_X11_lay_29 (ty_1 hF) (by decide) (by decide) hF (by decide +kernel) (fun hF => ?_)
  refine Tr.aload_n (pc := 30) (i := 0) d_X11_lay_30 rfl rfl ?_
  refine Tr.dup (pc := 31) d_X11_lay_31 ne21 ?_
  refine Tr.getf (pc := 32) d_X11_lay_32 f_11_84 (by decide) (by decide) (ty_0 hF) ?_
  refine Tr.tp 19 ((rd_wb _ rfl).trans (rd_ws _ _ _ _)) ?_
  refine Tr.iconst (pc := 35) d_X11_lay_35 (by decide) ?_
  refine Tr.iadd (pc := 36) d_X11_lay_36 ?_
  refine Tr.tp 20 rfl ?_
  refine Tr.putfX (pc := 37) d_X11_lay_37 f_11_84 (by decide) (by decide) (ty_0 hF) hF (by decide +kernel) (fun hF => ?_)
  refine Tr.iinc (pc := 40) (ls2 := [(2, (0, (-8))), (0, (2, 0)), (1, (0, _))]) d_X11_lay_40 rfl (by decide) rfl ?_
  refine Tr.goto (pc := 43) (tgt := 3) d_X11_lay_43 rfl ?_
  refine Tr.iload_n (pc := 3) (i := 2) d_X11_lay_3 rfl rfl ?_
  refine Tr.if_lt (pc := 4) (tgt := 46) d_X11_lay_4 rfl (fun _ => ?_) (fun hc => absurd (by decide) hc)
  refine Tr.vret (pc := 46) d_X11_lay_46 rfl ?_
  refine Tr.sc [] rfl ?_
  refine Tr.aload_n (pc := 42) (i := 0) d_X11_feed_42 rfl rfl ?_
  refine Tr.getf (pc := 43) d_X11_feed_43 f_11_84 (by decide) (by decide) (ty_0 hF) ?_
  refine Tr.tp 20 (rd_ws _ _ _ _) ?_
  refine Tr.iret (pc := 46) d_X11_feed_46 rfl ?_
  refine Tr.sc [_] rfl ?_
  refine Tr.aload_n (pc := 189) (i := 2) d_L_law_189 rfl rfl ?_
  refine Tr.aload_n (pc := 190) (i := 0) d_L_law_190 rfl rfl ?_
  refine Tr.iload_n (pc := 191) (i := 3) d_L_law_191 rfl rfl ?_
  refine Tr.iconst (pc := 192) d_L_law_192 (by decide) ?_
  refine Tr.iadd (pc := 193) d_L_law_193 ?_
  refine Tr.tp 1 rfl ?_
  refine Tr.xld (pc := 194) (i := 0) d_L_law_194 rfl he (by decide) (by decide) ?_
  refine Tr.tp a1 g1 ?_
  refine Tr.aload_n (pc := 195) (i := 0) d_L_law_195 rfl rfl ?_
  refine Tr.iload_n (pc := 196) (i := 3) d_L_law_196 rfl rfl ?_
  refine Tr.iconst (pc := 197) d_L_law_197 (by decide) ?_
  refine Tr.iadd (pc := 198) d_L_law_198 ?_
  refine Tr.tp 2 rfl ?_
  refine Tr.xld (pc := 199) (i := 0) d_L_law_199 rfl he (by decide) (by decide) ?_
  refine Tr.tp a2 g2 ?_
  refine Tr.aload_n (pc := 200) (i := 0) d_L_law_200 rfl rfl ?_
  refine Tr.iload_n (pc := 201) (i := 3) d_L_law_201 rfl rfl ?_
  refine Tr.iconst (pc := 202) d_L_law_202 (by decide) ?_
  refine Tr.iadd (pc := 203) d_L_law_203 ?_
  refine Tr.tp 3 rfl ?_
  refine Tr.xld (pc := 204) (i := 0) d_L_law_204 rfl he (by decide) (by decide) ?_
  refine Tr.tp a3 g3 ?_
  refine Tr.aload_n (pc := 205) (i := 0) d_L_law_205 rfl rfl ?_
  refine Tr.iload_n (pc := 206) (i := 3) d_L_law_206 rfl rfl ?_
  refine Tr.iconst (pc := 207) d_L_law_207 (by decide) ?_
  refine Tr.iadd (pc := 208) d_L_law_208 ?_
  refine Tr.tp 4 rfl ?_
  refine Tr.xld (pc := 209) (i := 0) d_L_law_209 rfl he (by decide) (by decide) ?_
  refine Tr.tp a4 g4 ?_
  refine Tr.aload_n (pc := 210) (i := 0) d_L_law_210 rfl rfl ?_
  refine Tr.iload_n (pc := 211) (i := 3) d_L_law_211 rfl rfl ?_
  refine Tr.iconst (pc := 212) d_L_law_212 (by decide) ?_
  refine Tr.iadd (pc := 213) d_L_law_213 ?_
  refine Tr.tp 5 rfl ?_
  refine Tr.xld (pc := 214) (i := 0) d_L_law_214 rfl he (by decide) (by decide) ?_
  refine Tr.tp a5 g5 ?_
  refine Tr.callV (pc := 215) (as := [_, _, _, _, _]) d_L_law_215 s_13_17 ok_X12_feed rfl rfl (Nat.le_of_ble_eq_true rfl) (Nat.le_of_ble_eq_true rfl) (by decide) (ty_120 hF) ?_
  refine Tr.lc [(0, (2, 120)), (1, (0, _)), (2, (0, _)), (3, (0, _)), (4, (0, _)), (5, (0, _))] rfl ?_
  refine Tr.aload_n (pc := 0) (i := 0) d_X12_feed_0 rfl rfl ?_
  refine Tr.getf (pc := 1) d_X12_feed_1 f_12_13 (by decide) (by decide) (ty_120 hF) ?_
  refine Tr.tp 0 ((rd_wb _ rfl).trans ((rd_wb _ rfl).trans ((rd_wb _ rfl).trans ((rd_wb _ rfl).trans ((rd_wb _ rfl).trans ((rd_wb _ rfl).trans ((rd_wb _ rfl).trans ((rd_wb _ rfl).trans ((rd_wb _ rfl).trans ((rd_wb _ rfl).trans ((rd_wb _ rfl).trans ((rd_wb _ rfl).trans ((rd_wb _ rfl).trans ((rd_wb _ rfl).trans ((rd_wb _ rfl).trans ((rd_wb _ rfl).trans ((rd_wb _ rfl).trans ((rd_wb _ rfl).trans ((rd_wb _ rfl).trans ((rd_wb _ rfl).trans ((rd_wb _ rfl).trans ((rd_wb _ rfl).trans ((rd_wb _ rfl).trans ((rd_wb _ rfl).trans ((rd_wb _ rfl).trans ((rd_wb _ rfl).trans ((rd_wb _ rfl).trans ((rd_wb _ rfl).trans ((rd_wb _ rfl).trans ((rd_wb _ rfl).trans ((rd_wb _ rfl).trans ((rd_wb _ rfl).trans ((rd_wb _ rfl).trans ((rd_wb _ rfl).trans ((rd_wb _ rfl).trans ((rd_wb _ rfl).trans ((rd_wb _ rfl).trans ((rd_wb _ rfl).trans ((rd_wb _ rfl).trans ((rd_wb _ rfl).trans (b_120_1))))))))))))))))))))))))))))))))))))))))) ?_
  refine Tr.bipush (pc := 4) d_X12_feed_4 rfl (by decide) ?_
  refine Tr.iadd (pc := 6) d_X12_feed_6 ?_
  refine Tr.tp 20 rfl ?_
  refine Tr.sipush (pc := 7) d_X12_feed_7 rfl (by decide) ?_
  refine Tr.icmp_le (pc := 10) (tgt := 15) d_X12_feed_10 rfl (fun _ => ?_) (fun hc => absurd (by decide) hc)
  refine Tr.aload_n (pc := 15) (i := 0) d_X12_feed_15 rfl rfl ?_
  refine Tr.iload_n (pc := 16) (i := 1) d_X12_feed_16 rfl rfl ?_
  refine Tr.callV (pc := 17) (as := [_]) d_X12_feed_17 s_12_378 ok_X12_put rfl rfl (Nat.le_of_ble_eq_true rfl) (Nat.le_of_ble_eq_true rfl) (by decide) (ty_120 hF) ?_
  refine Tr.lc [(0, (2, 120)), (1, (0, _))] rfl ?_
  refine Tr.bipush (pc := 0) d_X12_put_0 rfl (by decide) ?_
  refine Tr.istore_n (pc := 2) (i := 2) (ls2 := [(2, (0, 24)), (0, (2, 120)), (1, (0, _))]) d_X12_put_2 rfl (by decide) rfl ?_
  refine Tr.iload_n (pc := 3) (i := 2) d_X12_put_3 rfl rfl ?_
  refine Tr.if_lt (pc := 4) (tgt := 39) d_X12_put_4 rfl (fun hc => absurd hc (by decide)) (fun _ => ?_)
  refine Tr.aload_n (pc := 7) (i := 0) d_X12_put_7 rfl rfl ?_
  refine Tr.getf (pc := 8) d_X12_put_8 f_12_7 (by decide) (by decide) (ty_120 hF) ?_
  refine Tr.tp 121 (fx_120_0 hF) ?_
  refine Tr.aload_n (pc := 11) (i := 0) d_X12_put_11 rfl rfl ?_
  refine Tr.getf (pc := 12) d_X12_put_12 f_12_13 (by decide) (by decide) (ty_120 hF) ?_
  refine Tr.tp 0 ((rd_wb _ rfl).trans ((rd_wb _ rfl).trans ((rd_wb _ rfl).trans ((rd_wb _ rfl).trans ((rd_wb _ rfl).trans ((rd_wb _ rfl).trans ((rd_wb _ rfl).trans ((rd_wb _ rfl).trans ((rd_wb _ rfl).trans ((rd_wb _ rfl).trans ((rd_wb _ rfl).trans ((rd_wb _ rfl).trans ((rd_wb _ rfl).trans ((rd_wb _ rfl).trans ((rd_wb _ rfl).trans ((rd_wb _ rfl).trans ((rd_wb _ rfl).trans ((rd_wb _ rfl).trans ((rd_wb _ rfl).trans ((rd_wb _ rfl).trans ((rd_wb _ rfl).trans ((rd_wb _ rfl).trans ((rd_wb _ rfl).trans ((rd_wb _ rfl).trans ((rd_wb _ rfl).trans ((rd_wb _ rfl).trans ((rd_wb _ rfl).trans ((rd_wb _ rfl).trans ((rd_wb _ rfl).trans ((rd_wb _ rfl).trans ((rd_wb _ rfl).trans ((rd_wb _ rfl).trans ((rd_wb _ rfl).trans ((rd_wb _ rfl).trans ((rd_wb _ rfl).trans ((rd_wb _ rfl).trans ((rd_wb _ rfl).trans ((rd_wb _ rfl).trans ((rd_wb _ rfl).trans ((rd_wb _ rfl).trans (b_120_1))))))))))))))))))))))))))))))))))))))))) ?_
  refine Tr.iload_n (pc := 15) (i := 1) d_X12_put_15 rfl rfl ?_
  refine Tr.iload_n (pc := 16) (i := 2) d_X12_put_16 rfl rfl ?_
  refine Tr.ishr (pc := 17) d_X12_put_17 ?_
  refine Tr.sipush (pc := 18) d_X12_put_18 rfl (by decide) ?_
  refine Tr.iand (pc := 21) d_X12_put_21 ?_
  refine Tr.iastX (pc := 22) d_X12_put_22 (ty_121 hF) (by decide) (by decide) hF (by decide +kernel) (fun hF => ?_)
  refine Tr.aload_n (pc := 23) (i := 0) d_X12_put_23 rfl rfl ?_
  refine Tr.dup (pc := 24) d_X12_put_24 ne21 ?_
  refine Tr.getf (pc := 25) d_X12_put_25 f_12_13 (by decide) (by decide) (ty_120 hF) ?_
  refine Tr.tp 0 ((rd_wb _ rfl).trans ((rd_wb _ rfl).trans ((rd_wb _ rfl).trans ((rd_wb _ rfl).trans ((rd_wb _ rfl).trans ((rd_wb _ rfl).trans ((rd_wb _ rfl).trans ((rd_wb _ rfl).trans ((rd_wb _ rfl).trans ((rd_wb _ rfl).trans ((rd_wb _ rfl).trans ((rd_wb _ rfl).trans ((rd_wb _ rfl).trans ((rd_wb _ rfl).trans ((rd_wb _ rfl).trans ((rd_wb _ rfl).trans ((rd_wb _ rfl).trans ((rd_wb _ rfl).trans ((rd_wb _ rfl).trans ((rd_wb _ rfl).trans ((rd_wb _ rfl).trans ((rd_wb _ rfl).trans ((rd_wb _ rfl).trans ((rd_wb _ rfl).trans ((rd_wb _ rfl).trans ((rd_wb _ rfl).trans ((rd_wb _ rfl).trans ((rd_wb _ rfl).trans ((rd_wb _ rfl).trans ((rd_wb _ rfl).trans ((rd_wb _ rfl).trans ((rd_wb _ rfl).trans ((rd_wb _ rfl).trans ((rd_wb _ rfl).trans ((rd_wb _ rfl).trans ((rd_wb _ rfl).trans ((rd_wb _ rfl).trans ((rd_wb _ rfl).trans ((rd_wb _ rfl).trans ((rd_wb _ rfl).trans ((rd_wb _ rfl).trans (b_120_1)))))))))))))))))))))))))))))))))))))))))) ?_
  refine Tr.iconst (pc := 28) d_X12_put_28 (by decide) ?_
  refine Tr.iadd (pc := 29) d_X12_put_29 ?_
  refine Tr.tp 1 rfl ?_
  refine Tr.putfX (pc := 30) d_X12_put_30 f_12_13 (by decide) (by decide) (ty_120 hF) hF (by decide +kernel) (fun hF => ?_)
  refine Tr.iinc (pc := 33) (ls2 := [(2, (0, 16)), (0, (2, 120)), (1, (0, _))]) d_X12_put_33 rfl (by decide) rfl ?_
  refine Tr.goto (pc := 36) (tgt := 3) d_X12_put_36 rfl ?_
  refine Tr.iload_n (pc := 3) (i := 2) d_X12_put_3 rfl rfl ?_
  refine Tr.if_lt (pc := 4) (tgt := 39) d_X12_put_4 rfl (fun hc => absurd hc (by decide)) (fun _ => ?_)
  refine Tr.aload_n (pc := 7) (i := 0) d_X12_put_7 rfl rfl ?_
  refine Tr.getf (pc := 8) d_X12_put_8 f_12_7 (by decide) (by decide) (ty_120 hF) ?_
  refine Tr.tp 121 (fx_120_0 hF) ?_
  refine Tr.aload_n (pc := 11) (i := 0) d_X12_put_11 rfl rfl ?_
  refine Tr.getf (pc := 12) d_X12_put_12 f_12_13 (by decide) (by decide) (ty_120 hF) ?_
  refine Tr.tp 1 (rd_ws _ _ _ _) ?_
  refine Tr.iload_n (pc := 15) (i := 1) d_X12_put_15 rfl rfl ?_
  refine Tr.iload_n (pc := 16) (i := 2) d_X12_put_16 rfl rfl ?_
  refine Tr.ishr (pc := 17) d_X12_put_17 ?_
  refine Tr.sipush (pc := 18) d_X12_put_18 rfl (by decide) ?_
  refine Tr.iand (pc := 21) d_X12_put_21 ?_
  refine Tr.iastX (pc := 22) d_X12_put_22 (ty_121 hF) (by decide) (by decide) hF (by decide +kernel) (fun hF => ?_)
  refine Tr.aload_n (pc := 23) (i := 0) d_X12_put_23 rfl rfl ?_
  refine Tr.dup (pc := 24) d_X12_put_24 ne21 ?_
  refine Tr.getf (pc := 25) d_X12_put_25 f_12_13 (by decide) (by decide) (ty_120 hF) ?_
  refine Tr.tp 1 ((rd_wb _ rfl).trans (rd_ws _ _ _ _)) ?_
  refine Tr.iconst (pc := 28) d_X12_put_28 (by decide) ?_
  refine Tr.iadd (pc := 29) d_X12_put_29 ?_
  refine Tr.tp 2 rfl ?_
  refine Tr.putfX (pc := 30) d_X12_put_30 f_12_13 (by decide) (by decide) (ty_120 hF) hF (by decide +kernel) (fun hF => ?_)
  refine Tr.iinc (pc := 33) (ls2 := [(2, (0, 8)), (0, (2, 120)), (1, (0, _))]) d_X12_put_33 rfl (by decide) rfl ?_
  refine Tr.goto (pc := 36) (tgt := 3) d_X12_put_36 rfl ?_
  refine Tr.iload_n (pc := 3) (i := 2) d_X12_put_3 rfl rfl ?_
  refine Tr.if_lt (pc := 4) (tgt := 39) d_X12_put_4 rfl (fun hc => absurd hc (by decide)) (fun _ => ?_)
  refine Tr.aload_n (pc := 7) (i := 0) d_X12_put_7 rfl rfl ?_
  refine Tr.getf (pc := 8) d_X12_put_8 f_12_7 (by decide) (by decide) (ty_120 hF) ?_
  refine Tr.tp 121 (fx_120_0 hF) ?_
  refine Tr.aload_n (pc := 11) (i := 0) d_X12_put_11 rfl rfl ?_
  refine Tr.getf (pc := 12) d_X12_put_12 f_12_13 (by decide) (by decide) (ty_120 hF) ?_
  refine Tr.tp 2 (rd_ws _ _ _ _) ?_
  refine Tr.iload_n (pc := 15) (i := 1) d_X12_put_15 rfl rfl ?_
  refine Tr.iload_n (pc := 16) (i := 2) d_X12_put_16 rfl rfl ?_
  refine Tr.ishr (pc := 17) d_X12_put_17 ?_
  refine Tr.sipush (pc := 18) d_X12_put_18 rfl (by decide) ?_
  refine Tr.iand (pc := 21) d_X12_put_21 ?_
  refine Tr.iastX (pc := 22) d_X12_put_22 (ty_121 hF) (by decide) (by decide) hF (by decide +kernel) (fun hF => ?_)
  refine Tr.aload_n (pc := 23) (i := 0) d_X12_put_23 rfl rfl ?_
  refine Tr.dup (pc := 24) d_X12_put_24 ne21 ?_
  refine Tr.getf (pc := 25) d_X12_put_25 f_12_13 (by decide) (by decide) (ty_120 hF) ?_
  refine Tr.tp 2 ((rd_wb _ rfl).trans (rd_ws _ _ _ _)) ?_
  refine Tr.iconst (pc := 28) d_X12_put_28 (by decide) ?_
  refine Tr.iadd (pc := 29) d_X12_put_29 ?_
  refine Tr.tp 3 rfl ?_
  refine Tr.putfX (pc := 30) d_X12_put_30 f_12_13 (by decide) (by decide) (ty_120 hF) hF (by decide +kernel) (fun hF => ?_)
  refine Tr.iinc (pc := 33) (ls2 := [(2, (0, 0)), (0, (2, 120)), (1, (0, _))]) d_X12_put_33 rfl (by decide) rfl ?_
  refine Tr.goto (pc := 36) (tgt := 3) d_X12_put_36 rfl ?_
  refine Tr.iload_n (pc := 3) (i := 2) d_X12_put_3 rfl rfl ?_
  refine Tr.if_lt (pc := 4) (tgt := 39) d_X12_put_4 rfl (fun hc => absurd hc (by decide)) (fun _ => ?_)
  refine Tr.aload_n (pc := 7) (i := 0) d_X12_put_7 rfl rfl ?_
  refine Tr.getf (pc := 8) d_X12_put_8 f_12_7 (by decide) (by decide) (ty_120 hF) ?_
  refine Tr.tp 121 (fx_120_0 hF) ?_
  refine Tr.aload_n (pc := 11) (i := 0) d_X12_put_11 rfl rfl ?_
  refine Tr.getf (pc := 12) d_X12_put_12 f_12_13 (by decide) (by decide) (ty_120 hF) ?_
  refine Tr.tp 3 (rd_ws _ _ _ _) ?_
  refine Tr.iload_n (pc := 15) (i := 1) d_X12_put_15 rfl rfl ?_
  refine Tr.iload_n (pc := 16) (i := 2) d_X12_put_16 rfl rfl ?_
  refine Tr.ishr (pc := 17) d_X12_put_17 ?_
  refine Tr.sipush (pc := 18) d_X12_put_18 rfl (by decide) ?_
  refine Tr.iand (pc := 21) d_X12_put_21 ?_
  refine Tr.iastX (pc := 22) d_X12_put_22 (ty_121 hF) (by decide) (by decide) hF (by decide +kernel) (fun hF => ?_)
  refine Tr.aload_n (pc := 23) (i := 0) d_X12_put_23 rfl rfl ?_
  refine Tr.dup (pc := 24) d_X12_put_24 ne21 ?_
  refine Tr.getf (pc := 25) d_X12_put_25 f_12_13 (by decide) (by decide) (ty_120 hF) ?_
  refine Tr.tp 3 ((rd_wb _ rfl).trans (rd_ws _ _ _ _)) ?_
  refine Tr.iconst (pc := 28) d_X12_put_28 (by decide) ?_
  refine Tr.iadd (pc := 29) d_X12_put_29 ?_
  refine Tr.tp 4 rfl ?_
  refine Tr.putfX (pc := 30) d_X12_put_30 f_12_13 (by decide) (by decide) (ty_120 hF) hF (by decide +kernel) (fun hF => ?_)
  refine Tr.iinc (pc := 33) (ls2 := [(2, (0, (-8))), (0, (2, 120)), (1, (0, _))]) d_X12_put_33 rfl (by decide) rfl ?_
  refine Tr.goto (pc := 36) (tgt := 3) d_X12_put_36 rfl ?_
  refine Tr.iload_n (pc := 3) (i := 2) d_X12_put_3 rfl rfl ?_
  refine Tr.if_lt (pc := 4) (tgt := 39) d_X12_put_4 rfl (fun _ => ?_) (fun hc => absurd (by decide) hc)
  refine Tr.vret (pc := 39) d_X12_put_39 rfl ?_
  refine Tr.sc [] rfl ?_
  refine Tr.aload_n (pc := 20) (i := 0) d_X12_feed_20 rfl rfl ?_
  refine Tr.iload_n (pc := 21) (i := 2) d_X12_feed_21 rfl rfl ?_
  refine Tr.callV (pc := 22) (as := [_]) d_X12_feed_22 s_12_378 ok_X12_put rfl rfl (Nat.le_of_ble_eq_true rfl) (Nat.le_of_ble_eq_true rfl) (by decide) (ty_120 hF) ?_
  refine Tr.lc [(0, (2, 120)), (1, (0, _))] rfl ?_
  refine Tr.bipush (pc := 0) d_X12_put_0 rfl (by decide) ?_
  refine Tr.istore_n (pc := 2) (i := 2) (ls2 := [(2, (0, 24)), (0, (2, 120)), (1, (0, _))]) d_X12_put_2 rfl (by decide) rfl ?_
  refine Tr.iload_n (pc := 3) (i := 2) d_X12_put_3 rfl rfl ?_
  refine Tr.if_lt (pc := 4) (tgt := 39) d_X12_put_4 rfl (fun hc => absurd hc (by decide)) (fun _ => ?_)
  refine Tr.aload_n (pc := 7) (i := 0) d_X12_put_7 rfl rfl ?_
  refine Tr.getf (pc := 8) d_X12_put_8 f_12_7 (by decide) (by decide) (ty_120 hF) ?_
  refine Tr.tp 121 (fx_120_0 hF) ?_
  refine Tr.aload_n (pc := 11) (i := 0) d_X12_put_11 rfl rfl ?_
  refine Tr.getf (pc := 12) d_X12_put_12 f_12_13 (by decide) (by decide) (ty_120 hF) ?_
  refine Tr.tp 4 (rd_ws _ _ _ _) ?_
  refine Tr.iload_n (pc := 15) (i := 1) d_X12_put_15 rfl rfl ?_
  refine Tr.iload_n (pc := 16) (i := 2) d_X12_put_16 rfl rfl ?_
  refine Tr.ishr (pc := 17) d_X12_put_17 ?_
  refine Tr.sipush (pc := 18) d_X12_put_18 rfl (by decide) ?_
  refine Tr.iand (pc := 21) d_X12_put_21 ?_
  refine Tr.iastX (pc := 22) d_X12_put_22 (ty_121 hF) (by decide) (by decide) hF (by decide +kernel) (fun hF => ?_)
  refine Tr.aload_n (pc := 23) (i := 0) d_X12_put_23 rfl rfl ?_
  refine Tr.dup (pc := 24) d_X12_put_24 ne21 ?_
  refine Tr.getf (pc := 25) d_X12_put_25 f_12_13 (by decide) (by decide) (ty_120 hF) ?_
  refine Tr.tp 4 ((rd_wb _ rfl).trans (rd_ws _ _ _ _)) ?_
  refine Tr.iconst (pc := 28) d_X12_put_28 (by decide) ?_
  refine Tr.iadd (pc := 29) d_X12_put_29 ?_
  refine Tr.tp 5 rfl ?_
  refine Tr.putfX (pc := 30) d_X12_put_30 f_12_13 (by decide) (by decide) (ty_120 hF) hF (by decide +kernel) (fun hF => ?_)
  refine Tr.iinc (pc := 33) (ls2 := [(2, (0, 16)), (0, (2, 120)), (1, (0, _))]) d_X12_put_33 rfl (by decide) rfl ?_
  refine Tr.goto (pc := 36) (tgt := 3) d_X12_put_36 rfl ?_
  refine Tr.iload_n (pc := 3) (i := 2) d_X12_put_3 rfl rfl ?_
  refine Tr.if_lt (pc := 4) (tgt := 39) d_X12_put_4 rfl (fun hc => absurd hc (by decide)) (fun _ => ?_)
  refine Tr.aload_n (pc := 7) (i := 0) d_X12_put_7 rfl rfl ?_
  refine Tr.getf (pc := 8) d_X12_put_8 f_12_7 (by decide) (by decide) (ty_120 hF) ?_
  refine Tr.tp 121 (fx_120_0 hF) ?_
  refine Tr.aload_n (pc := 11) (i := 0) d_X12_put_11 rfl rfl ?_
  refine Tr.getf (pc := 12) d_X12_put_12 f_12_13 (by decide) (by decide) (ty_120 hF) ?_
  refine Tr.tp 5 (rd_ws _ _ _ _) ?_
  refine Tr.iload_n (pc := 15) (i := 1) d_X12_put_15 rfl rfl ?_
  refine Tr.iload_n (pc := 16) (i := 2) d_X12_put_16 rfl rfl ?_
  refine Tr.ishr (pc := 17) d_X12_put_17 ?_
  refine Tr.sipush (pc := 18) d_X12_put_18 rfl (by decide) ?_
  refine Tr.iand (pc := 21) d_X12_put_21 ?_
  refine Tr.iastX (pc := 22) d_X12_put_22 (ty_121 hF) (by decide) (by decide) hF (by decide +kernel) (fun hF => ?_)
  refine Tr.aload_n (pc := 23) (i := 0) d_X12_put_23 rfl rfl ?_
  refine Tr.dup (pc := 24) d_X12_put_24 ne21 ?_
  refine Tr.getf (pc := 25) d_X12_put_25 f_12_13 (by decide) (by decide) (ty_120 hF) ?_
  refine Tr.tp 5 ((rd_wb _ rfl).trans (rd_ws _ _ _ _)) ?_
  refine Tr.iconst (pc := 28) d_X12_put_28 (by decide) ?_
  refine Tr.iadd (pc := 29) d_X12_put_29 ?_
  refine Tr.tp 6 rfl ?_
  refine Tr.putfX (pc := 30) d_X12_put_30 f_12_13 (by decide) (by decide) (ty_120 hF) hF (by decide +kernel) (fun hF => ?_)
  refine Tr.iinc (pc := 33) (ls2 := [(2, (0, 8)), (0, (2, 120)), (1, (0, _))]) d_X12_put_33 rfl (by decide) rfl ?_
  refine Tr.goto (pc := 36) (tgt := 3) d_X12_put_36 rfl ?_
  refine Tr.iload_n (pc := 3) (i := 2) d_X12_put_3 rfl rfl ?_
  refine Tr.if_lt (pc := 4) (tgt := 39) d_X12_put_4 rfl (fun hc => absurd hc (by decide)) (fun _ => ?_)
  refine Tr.aload_n (pc := 7) (i := 0) d_X12_put_7 rfl rfl ?_
  refine Tr.getf (pc := 8) d_X12_put_8 f_12_7 (by decide) (by decide) (ty_120 hF) ?_
  refine Tr.tp 121 (fx_120_0 hF) ?_
  refine Tr.aload_n (pc := 11) (i := 0) d_X12_put_11 rfl rfl ?_
  refine Tr.getf (pc := 12) d_X12_put_12 f_12_13 (by decide) (by decide) (ty_120 hF) ?_
  refine Tr.tp 6 (rd_ws _ _ _ _) ?_
  refine Tr.iload_n (pc := 15) (i := 1) d_X12_put_15 rfl rfl ?_
  refine Tr.iload_n (pc := 16) (i := 2) d_X12_put_16 rfl rfl ?_
  refine Tr.ishr (pc := 17) d_X12_put_17 ?_
  refine Tr.sipush (pc := 18) d_X12_put_18 rfl (by decide) ?_
  refine Tr.iand (pc := 21) d_X12_put_21 ?_
  refine Tr.iastX (pc := 22) d_X12_put_22 (ty_121 hF) (by decide) (by decide) hF (by decide +kernel) (fun hF => ?_)
  refine Tr.aload_n (pc := 23) (i := 0) d_X12_put_23 rfl rfl ?_
  refine Tr.dup (pc := 24) d_X12_put_24 ne21 ?_
  refine Tr.getf (pc := 25) d_X12_put_25 f_12_13 (by decide) (by decide) (ty_120 hF) ?_
  refine Tr.tp 6 ((rd_wb _ rfl).trans (rd_ws _ _ _ _)) ?_
  refine Tr.iconst (pc := 28) d_X12_put_28 (by decide) ?_
  refine Tr.iadd (pc := 29) d_X12_put_29 ?_
  refine Tr.tp 7 rfl ?_
  refine Tr.putfX (pc := 30) d_X12_put_30 f_12_13 (by decide) (by decide) (ty_120 hF) hF (by decide +kernel) (fun hF => ?_)
  refine Tr.iinc (pc := 33) (ls2 := [(2, (0, 0)), (0, (2, 120)), (1, (0, _))]) d_X12_put_33 rfl (by decide) rfl ?_
  refine Tr.goto (pc := 36) (tgt := 3) d_X12_put_36 rfl ?_
  refine Tr.iload_n (pc := 3) (i := 2) d_X12_put_3 rfl rfl ?_
  refine Tr.if_lt (pc := 4) (tgt := 39) d_X12_put_4 rfl (fun hc => absurd hc (by decide)) (fun _ => ?_)
  refine Tr.aload_n (pc := 7) (i := 0) d_X12_put_7 rfl rfl ?_
  refine Tr.getf (pc := 8) d_X12_put_8 f_12_7 (by decide) (by decide) (ty_120 hF) ?_
  refine Tr.tp 121 (fx_120_0 hF) ?_
  refine Tr.aload_n (pc := 11) (i := 0) d_X12_put_11 rfl rfl ?_
  refine Tr.getf (pc := 12) d_X12_put_12 f_12_13 (by decide) (by decide) (ty_120 hF) ?_
  refine Tr.tp 7 (rd_ws _ _ _ _) ?_
  refine Tr.iload_n (pc := 15) (i := 1) d_X12_put_15 rfl rfl ?_
  refine Tr.iload_n (pc := 16) (i := 2) d_X12_put_16 rfl rfl ?_
  refine Tr.ishr (pc := 17) d_X12_put_17 ?_
  refine Tr.sipush (pc := 18) d_X12_put_18 rfl (by decide) ?_
  refine Tr.iand (pc := 21) d_X12_put_21 ?_
  refine Tr.iastX (pc := 22) d_X12_put_22 (ty_121 hF) (by decide) (by decide) hF (by decide +kernel) (fun hF => ?_)
  refine Tr.aload_n (pc := 23) (i := 0) d_X12_put_23 rfl rfl ?_
  refine Tr.dup (pc := 24) d_X12_put_24 ne21 ?_
  refine Tr.getf (pc := 25) d_X12_put_25 f_12_13 (by decide) (by decide) (ty_120 hF) ?_
  refine Tr.tp 7 ((rd_wb _ rfl).trans (rd_ws _ _ _ _)) ?_
  refine Tr.iconst (pc := 28) d_X12_put_28 (by decide) ?_
  refine Tr.iadd (pc := 29) d_X12_put_29 ?_
  refine Tr.tp 8 rfl ?_
  refine Tr.putfX (pc := 30) d_X12_put_30 f_12_13 (by decide) (by decide) (ty_120 hF) hF (by decide +kernel) (fun hF => ?_)
  refine Tr.iinc (pc := 33) (ls2 := [(2, (0, (-8))), (0, (2, 120)), (1, (0, _))]) d_X12_put_33 rfl (by decide) rfl ?_
  refine Tr.goto (pc := 36) (tgt := 3) d_X12_put_36 rfl ?_
  refine Tr.iload_n (pc := 3) (i := 2) d_X12_put_3 rfl rfl ?_
  refine Tr.if_lt (pc := 4) (tgt := 39) d_X12_put_4 rfl (fun _ => ?_) (fun hc => absurd (by decide) hc)
  refine Tr.vret (pc := 39) d_X12_put_39 rfl ?_
  refine Tr.sc [] rfl ?_
  refine Tr.aload_n (pc := 25) (i := 0) d_X12_feed_25 rfl rfl ?_
  refine Tr.iload_n (pc := 26) (i := 3) d_X12_feed_26 rfl rfl ?_
  refine Tr.callV (pc := 27) (as := [_]) d_X12_feed_27 s_12_378 ok_X12_put rfl rfl (Nat.le_of_ble_eq_true rfl) (Nat.le_of_ble_eq_true rfl) (by decide) (ty_120 hF) ?_
  refine Tr.lc [(0, (2, 120)), (1, (0, _))] rfl ?_
  refine Tr.bipush (pc := 0) d_X12_put_0 rfl (by decide) ?_
  refine Tr.istore_n (pc := 2) (i := 2) (ls2 := [(2, (0, 24)), (0, (2, 120)), (1, (0, _))]) d_X12_put_2 rfl (by decide) rfl ?_
  refine Tr.iload_n (pc := 3) (i := 2) d_X12_put_3 rfl rfl ?_
  refine Tr.if_lt (pc := 4) (tgt := 39) d_X12_put_4 rfl (fun hc => absurd hc (by decide)) (fun _ => ?_)
  refine Tr.aload_n (pc := 7) (i := 0) d_X12_put_7 rfl rfl ?_
  refine Tr.getf (pc := 8) d_X12_put_8 f_12_7 (by decide) (by decide) (ty_120 hF) ?_
  refine Tr.tp 121 (fx_120_0 hF) ?_
  refine Tr.aload_n (pc := 11) (i := 0) d_X12_put_11 rfl rfl ?_
  refine Tr.getf (pc := 12) d_X12_put_12 f_12_13 (by decide) (by decide) (ty_120 hF) ?_
  refine Tr.tp 8 (rd_ws _ _ _ _) ?_
  refine Tr.iload_n (pc := 15) (i := 1) d_X12_put_15 rfl rfl ?_
  refine Tr.iload_n (pc := 16) (i := 2) d_X12_put_16 rfl rfl ?_
  refine Tr.ishr (pc := 17) d_X12_put_17 ?_
  refine Tr.sipush (pc := 18) d_X12_put_18 rfl (by decide) ?_
  refine Tr.iand (pc := 21) d_X12_put_21 ?_
  refine Tr.iastX (pc := 22) d_X12_put_22 (ty_121 hF) (by decide) (by decide) hF (by decide +kernel) (fun hF => ?_)
  refine Tr.aload_n (pc := 23) (i := 0) d_X12_put_23 rfl rfl ?_
  refine Tr.dup (pc := 24) d_X12_put_24 ne21 ?_
  refine Tr.getf (pc := 25) d_X12_put_25 f_12_13 (by decide) (by decide) (ty_120 hF) ?_
  refine Tr.tp 8 ((rd_wb _ rfl).trans (rd_ws _ _ _ _)) ?_
  refine Tr.iconst (pc := 28) d_X12_put_28 (by decide) ?_
  refine Tr.iadd (pc := 29) d_X12_put_29 ?_
  refine Tr.tp 9 rfl ?_
  refine Tr.putfX (pc := 30) d_X12_put_30 f_12_13 (by decide) (by decide) (ty_120 hF) hF (by decide +kernel) (fun hF => ?_)
  refine Tr.iinc (pc := 33) (ls2 := [(2, (0, 16)), (0, (2, 120)), (1, (0, _))]) d_X12_put_33 rfl (by decide) rfl ?_
  refine Tr.goto (pc := 36) (tgt := 3) d_X12_put_36 rfl ?_
  refine Tr.iload_n (pc := 3) (i := 2) d_X12_put_3 rfl rfl ?_
  refine Tr.if_lt (pc := 4) (tgt := 39) d_X12_put_4 rfl (fun hc => absurd hc (by decide)) (fun _ => ?_)
  refine Tr.aload_n (pc := 7) (i := 0) d_X12_put_7 rfl rfl ?_
  refine Tr.getf (pc := 8) d_X12_put_8 f_12_7 (by decide) (by decide) (ty_120 hF) ?_
  refine Tr.tp 121 (fx_120_0 hF) ?_
  refine Tr.aload_n (pc := 11) (i := 0) d_X12_put_11 rfl rfl ?_
  refine Tr.getf (pc := 12) d_X12_put_12 f_12_13 (by decide) (by decide) (ty_120 hF) ?_
  refine Tr.tp 9 (rd_ws _ _ _ _) ?_
  refine Tr.iload_n (pc := 15) (i := 1) d_X12_put_15 rfl rfl ?_
  refine Tr.iload_n (pc := 16) (i := 2) d_X12_put_16 rfl rfl ?_
  refine Tr.ishr (pc := 17) d_X12_put_17 ?_
  refine Tr.sipush (pc := 18) d_X12_put_18 rfl (by decide) ?_
  refine Tr.iand (pc := 21) d_X12_put_21 ?_
  refine Tr.iastX (pc := 22) d_X12_put_22 (ty_121 hF) (by decide) (by decide) hF (by decide +kernel) (fun hF => ?_)
  refine Tr.aload_n (pc := 23) (i := 0) d_X12_put_23 rfl rfl ?_
  refine Tr.dup (pc := 24) d_X12_put_24 ne21 ?_
  refine Tr.getf (pc := 25) d_X12_put_25 f_12_13 (by decide) (by decide) (ty_120 hF) ?_
  refine Tr.tp 9 ((rd_wb _ rfl).trans (rd_ws _ _ _ _)) ?_
  refine Tr.iconst (pc := 28) d_X12_put_28 (by decide) ?_
  refine Tr.iadd (pc := 29) d_X12_put_29 ?_
  refine Tr.tp 10 rfl ?_
  refine Tr.putfX (pc := 30) d_X12_put_30 f_12_13 (by decide) (by decide) (ty_120 hF) hF (by decide +kernel) (fun hF => ?_)
  refine Tr.iinc (pc := 33) (ls2 := [(2, (0, 8)), (0, (2, 120)), (1, (0, _))]) d_X12_put_33 rfl (by decide) rfl ?_
  refine Tr.goto (pc := 36) (tgt := 3) d_X12_put_36 rfl ?_
  refine Tr.iload_n (pc := 3) (i := 2) d_X12_put_3 rfl rfl ?_
  refine Tr.if_lt (pc := 4) (tgt := 39) d_X12_put_4 rfl (fun hc => absurd hc (by decide)) (fun _ => ?_)
  refine Tr.aload_n (pc := 7) (i := 0) d_X12_put_7 rfl rfl ?_
  refine Tr.getf (pc := 8) d_X12_put_8 f_12_7 (by decide) (by decide) (ty_120 hF) ?_
  refine Tr.tp 121 (fx_120_0 hF) ?_
  refine Tr.aload_n (pc := 11) (i := 0) d_X12_put_11 rfl rfl ?_
  refine Tr.getf (pc := 12) d_X12_put_12 f_12_13 (by decide) (by decide) (ty_120 hF) ?_
  refine Tr.tp 10 (rd_ws _ _ _ _) ?_
  refine Tr.iload_n (pc := 15) (i := 1) d_X12_put_15 rfl rfl ?_
  refine Tr.iload_n (pc := 16) (i := 2) d_X12_put_16 rfl rfl ?_
  refine Tr.ishr (pc := 17) d_X12_put_17 ?_
  refine Tr.sipush (pc := 18) d_X12_put_18 rfl (by decide) ?_
  refine Tr.iand (pc := 21) d_X12_put_21 ?_
  refine Tr.iastX (pc := 22) d_X12_put_22 (ty_121 hF) (by decide) (by decide) hF (by decide +kernel) (fun hF => ?_)
  refine Tr.aload_n (pc := 23) (i := 0) d_X12_put_23 rfl rfl ?_
  refine Tr.dup (pc := 24) d_X12_put_24 ne21 ?_
  refine Tr.getf (pc := 25) d_X12_put_25 f_12_13 (by decide) (by decide) (ty_120 hF) ?_
  refine Tr.tp 10 ((rd_wb _ rfl).trans (rd_ws _ _ _ _)) ?_
  refine Tr.iconst (pc := 28) d_X12_put_28 (by decide) ?_
  refine Tr.iadd (pc := 29) d_X12_put_29 ?_
  refine Tr.tp 11 rfl ?_
  refine Tr.putfX (pc := 30) d_X12_put_30 f_12_13 (by decide) (by decide) (ty_120 hF) hF (by decide +kernel) (fun hF => ?_)
  refine Tr.iinc (pc := 33) (ls2 := [(2, (0, 0)), (0, (2, 120)), (1, (0, _))]) d_X12_put_33 rfl (by decide) rfl ?_
  refine Tr.goto (pc := 36) (tgt := 3) d_X12_put_36 rfl ?_
  refine Tr.iload_n (pc := 3) (i := 2) d_X12_put_3 rfl rfl ?_
  refine Tr.if_lt (pc := 4) (tgt := 39) d_X12_put_4 rfl (fun hc => absurd hc (by decide)) (fun _ => ?_)
  refine Tr.aload_n (pc := 7) (i := 0) d_X12_put_7 rfl rfl ?_
  refine Tr.getf (pc := 8) d_X12_put_8 f_12_7 (by decide) (by decide) (ty_120 hF) ?_
  refine Tr.tp 121 (fx_120_0 hF) ?_
  refine Tr.aload_n (pc := 11) (i := 0) d_X12_put_11 rfl rfl ?_
  refine Tr.getf (pc := 12) d_X12_put_12 f_12_13 (by decide) (by decide) (ty_120 hF) ?_
  refine Tr.tp 11 (rd_ws _ _ _ _) ?_
  refine Tr.iload_n (pc := 15) (i := 1) d_X12_put_15 rfl rfl ?_
  refine Tr.iload_n (pc := 16) (i := 2) d_X12_put_16 rfl rfl ?_
  refine Tr.ishr (pc := 17) d_X12_put_17 ?_
  refine Tr.sipush (pc := 18) d_X12_put_18 rfl (by decide) ?_
  refine Tr.iand (pc := 21) d_X12_put_21 ?_
  refine Tr.iastX (pc := 22) d_X12_put_22 (ty_121 hF) (by decide) (by decide) hF (by decide +kernel) (fun hF => ?_)
  refine Tr.aload_n (pc := 23) (i := 0) d_X12_put_23 rfl rfl ?_
  refine Tr.dup (pc := 24) d_X12_put_24 ne21 ?_
  refine Tr.getf (pc := 25) d_X12_put_25 f_12_13 (by decide) (by decide) (ty_120 hF) ?_
  refine Tr.tp 11 ((rd_wb _ rfl).trans (rd_ws _ _ _ _)) ?_
  refine Tr.iconst (pc := 28) d_X12_put_28 (by decide) ?_
  refine Tr.iadd (pc := 29) d_X12_put_29 ?_
  refine Tr.tp 12 rfl ?_
  refine Tr.putfX (pc := 30) d_X12_put_30 f_12_13 (by decide) (by decide) (ty_120 hF) hF (by decide +kernel) (fun hF => ?_)
  refine Tr.iinc (pc := 33) (ls2 := [(2, (0, (-8))), (0, (2, 120)), (1, (0, _))]) d_X12_put_33 rfl (by decide) rfl ?_
  refine Tr.goto (pc := 36) (tgt := 3) d_X12_put_36 rfl ?_
  refine Tr.iload_n (pc := 3) (i := 2) d_X12_put_3 rfl rfl ?_
  refine Tr.if_lt (pc := 4) (tgt := 39) d_X12_put_4 rfl (fun _ => ?_) (fun hc => absurd (by decide) hc)
  refine Tr.vret (pc := 39) d_X12_put_39 rfl ?_
  refine Tr.sc [] rfl ?_
  refine Tr.aload_n (pc := 30) (i := 0) d_X12_feed_30 rfl rfl ?_
  refine Tr.iload (pc := 31) (i := 4) d_X12_feed_31 rfl ?_
  refine Tr.callV (pc := 33) (as := [_]) d_X12_feed_33 s_12_378 ok_X12_put rfl rfl (Nat.le_of_ble_eq_true rfl) (Nat.le_of_ble_eq_true rfl) (by decide) (ty_120 hF) ?_
  refine Tr.lc [(0, (2, 120)), (1, (0, _))] rfl ?_
  refine Tr.bipush (pc := 0) d_X12_put_0 rfl (by decide) ?_
  refine Tr.istore_n (pc := 2) (i := 2) (ls2 := [(2, (0, 24)), (0, (2, 120)), (1, (0, _))]) d_X12_put_2 rfl (by decide) rfl ?_
  refine Tr.iload_n (pc := 3) (i := 2) d_X12_put_3 rfl rfl ?_
  refine Tr.if_lt (pc := 4) (tgt := 39) d_X12_put_4 rfl (fun hc => absurd hc (by decide)) (fun _ => ?_)
  refine Tr.aload_n (pc := 7) (i := 0) d_X12_put_7 rfl rfl ?_
  refine Tr.getf (pc := 8) d_X12_put_8 f_12_7 (by decide) (by decide) (ty_120 hF) ?_
  refine Tr.tp 121 (fx_120_0 hF) ?_
  refine Tr.aload_n (pc := 11) (i := 0) d_X12_put_11 rfl rfl ?_
  refine Tr.getf (pc := 12) d_X12_put_12 f_12_13 (by decide) (by decide) (ty_120 hF) ?_
  refine Tr.tp 12 (rd_ws _ _ _ _) ?_
  refine Tr.iload_n (pc := 15) (i := 1) d_X12_put_15 rfl rfl ?_
  refine Tr.iload_n (pc := 16) (i := 2) d_X12_put_16 rfl rfl ?_
  refine Tr.ishr (pc := 17) d_X12_put_17 ?_
  refine Tr.sipush (pc := 18) d_X12_put_18 rfl (by decide) ?_
  refine Tr.iand (pc := 21) d_X12_put_21 ?_
  refine Tr.iastX (pc := 22) d_X12_put_22 (ty_121 hF) (by decide) (by decide) hF (by decide +kernel) (fun hF => ?_)
  refine Tr.aload_n (pc := 23) (i := 0) d_X12_put_23 rfl rfl ?_
  refine Tr.dup (pc := 24) d_X12_put_24 ne21 ?_
  refine Tr.getf (pc := 25) d_X12_put_25 f_12_13 (by decide) (by decide) (ty_120 hF) ?_
  refine Tr.tp 12 ((rd_wb _ rfl).trans (rd_ws _ _ _ _)) ?_
  refine Tr.iconst (pc := 28) d_X12_put_28 (by decide) ?_
  refine Tr.iadd (pc := 29) d_X12_put_29 ?_
  refine Tr.tp 13 rfl ?_
  refine Tr.putfX (pc := 30) d_X12_put_30 f_12_13 (by decide) (by decide) (ty_120 hF) hF (by decide +kernel) (fun hF => ?_)
  refine Tr.iinc (pc := 33) (ls2 := [(2, (0, 16)), (0, (2, 120)), (1, (0, _))]) d_X12_put_33 rfl (by decide) rfl ?_
  refine Tr.goto (pc := 36) (tgt := 3) d_X12_put_36 rfl ?_
  refine Tr.iload_n (pc := 3) (i := 2) d_X12_put_3 rfl rfl ?_
  refine Tr.if_lt (pc := 4) (tgt := 39) d_X12_put_4 rfl (fun hc => absurd hc (by decide)) (fun _ => ?_)
  refine Tr.aload_n (pc := 7) (i := 0) d_X12_put_7 rfl rfl ?_
  refine Tr.getf (pc := 8) d_X12_put_8 f_12_7 (by decide) (by decide) (ty_120 hF) ?_
  refine Tr.tp 121 (fx_120_0 hF) ?_
  refine Tr.aload_n (pc := 11) (i := 0) d_X12_put_11 rfl rfl ?_
  refine Tr.getf (pc := 12) d_X12_put_12 f_12_13 (by decide) (by decide) (ty_120 hF) ?_
  refine Tr.tp 13 (rd_ws _ _ _ _) ?_
  refine Tr.iload_n (pc := 15) (i := 1) d_X12_put_15 rfl rfl ?_
  refine Tr.iload_n (pc := 16) (i := 2) d_X12_put_16 rfl rfl ?_
  refine Tr.ishr (pc := 17) d_X12_put_17 ?_
  refine Tr.sipush (pc := 18) d_X12_put_18 rfl (by decide) ?_
  refine Tr.iand (pc := 21) d_X12_put_21 ?_
  refine Tr.iastX (pc := 22) d_X12_put_22 (ty_121 hF) (by decide) (by decide) hF (by decide +kernel) (fun hF => ?_)
  refine Tr.aload_n (pc := 23) (i := 0) d_X12_put_23 rfl rfl ?_
  refine Tr.dup (pc := 24) d_X12_put_24 ne21 ?_
  refine Tr.getf (pc := 25) d_X12_put_25 f_12_13 (by decide) (by decide) (ty_120 hF) ?_
  refine Tr.tp 13 ((rd_wb _ rfl).trans (rd_ws _ _ _ _)) ?_
  refine Tr.iconst (pc := 28) d_X12_put_28 (by decide) ?_
  refine Tr.iadd (pc := 29) d_X12_put_29 ?_
  refine Tr.tp 14 rfl ?_
  refine Tr.putfX (pc := 30) d_X12_put_30 f_12_13 (by decide) (by decide) (ty_120 hF) hF (by decide +kernel) (fun hF => ?_)
  refine Tr.iinc (pc := 33) (ls2 := [(2, (0, 8)), (0, (2, 120)), (1, (0, _))]) d_X12_put_33 rfl (by decide) rfl ?_
  refine Tr.goto (pc := 36) (tgt := 3) d_X12_put_36 rfl ?_
  refine Tr.iload_n (pc := 3) (i := 2) d_X12_put_3 rfl rfl ?_
  refine Tr.if_lt (pc := 4) (tgt := 39) d_X12_put_4 rfl (fun hc => absurd hc (by decide)) (fun _ => ?_)
  refine Tr.aload_n (pc := 7) (i := 0) d_X12_put_7 rfl rfl ?_
  refine Tr.getf (pc := 8) d_X12_put_8 f_12_7 (by decide) (by decide) (ty_120 hF) ?_
  refine Tr.tp 121 (fx_120_0 hF) ?_
  refine Tr.aload_n (pc := 11) (i := 0) d_X12_put_11 rfl rfl ?_
  refine Tr.getf (pc := 12) d_X12_put_12 f_12_13 (by decide) (by decide) (ty_120 hF) ?_
  refine Tr.tp 14 (rd_ws _ _ _ _) ?_
  refine Tr.iload_n (pc := 15) (i := 1) d_X12_put_15 rfl rfl ?_
  refine Tr.iload_n (pc := 16) (i := 2) d_X12_put_16 rfl rfl ?_
  refine Tr.ishr (pc := 17) d_X12_put_17 ?_
  refine Tr.sipush (pc := 18) d_X12_put_18 rfl (by decide) ?_
  refine Tr.iand (pc := 21) d_X12_put_21 ?_
  refine Tr.iastX (pc := 22) d_X12_put_22 (ty_121 hF) (by decide) (by decide) hF (by decide +kernel) (fun hF => ?_)
  refine Tr.aload_n (pc := 23) (i := 0) d_X12_put_23 rfl rfl ?_
  refine Tr.dup (pc := 24) d_X12_put_24 ne21 ?_
  refine Tr.getf (pc := 25) d_X12_put_25 f_12_13 (by decide) (by decide) (ty_120 hF) ?_
  refine Tr.tp 14 ((rd_wb _ rfl).trans (rd_ws _ _ _ _)) ?_
  refine Tr.iconst (pc := 28) d_X12_put_28 (by decide) ?_
  refine Tr.iadd (pc := 29) d_X12_put_29 ?_
  refine Tr.tp 15 rfl ?_
  refine Tr.putfX (pc := 30) d_X12_put_30 f_12_13 (by decide) (by decide) (ty_120 hF) hF (by decide +kernel) (fun hF => ?_)
  refine Tr.iinc (pc := 33) (ls2 := [(2, (0, 0)), (0, (2, 120)), (1, (0, _))]) d_X12_put_33 rfl (by decide) rfl ?_
  refine Tr.goto (pc := 36) (tgt := 3) d_X12_put_36 rfl ?_
  refine Tr.iload_n (pc := 3) (i := 2) d_X12_put_3 rfl rfl ?_
  refine Tr.if_lt (pc := 4) (tgt := 39) d_X12_put_4 rfl (fun hc => absurd hc (by decide)) (fun _ => ?_)
  refine Tr.aload_n (pc := 7) (i := 0) d_X12_put_7 rfl rfl ?_
  refine Tr.getf (pc := 8) d_X12_put_8 f_12_7 (by decide) (by decide) (ty_120 hF) ?_
  refine Tr.tp 121 (fx_120_0 hF) ?_
  refine Tr.aload_n (pc := 11) (i := 0) d_X12_put_11 rfl rfl ?_
  refine Tr.getf (pc := 12) d_X12_put_12 f_12_13 (by decide) (by decide) (ty_120 hF) ?_
  refine Tr.tp 15 (rd_ws _ _ _ _) ?_
  refine Tr.iload_n (pc := 15) (i := 1) d_X12_put_15 rfl rfl ?_
  refine Tr.iload_n (pc := 16) (i := 2) d_X12_put_16 rfl rfl ?_
  refine Tr.ishr (pc := 17) d_X12_put_17 ?_
  refine Tr.sipush (pc := 18) d_X12_put_18 rfl (by decide) ?_
  refine Tr.iand (pc := 21) d_X12_put_21 ?_
  refine Tr.iastX (pc := 22) d_X12_put_22 (ty_121 hF) (by decide) (by decide) hF (by decide +kernel) (fun hF => ?_)
  refine Tr.aload_n (pc := 23) (i := 0) d_X12_put_23 rfl rfl ?_
  refine Tr.dup (pc := 24) d_X12_put_24 ne21 ?_
  refine Tr.getf (pc := 25) d_X12_put_25 f_12_13 (by decide) (by decide) (ty_120 hF) ?_
  refine Tr.tp 15 ((rd_wb _ rfl).trans (rd_ws _ _ _ _)) ?_
  refine Tr.iconst (pc := 28) d_X12_put_28 (by decide) ?_
  refine Tr.iadd (pc := 29) d_X12_put_29 ?_
  refine Tr.tp 16 rfl ?_
  refine Tr.putfX (pc := 30) d_X12_put_30 f_12_13 (by decide) (by decide) (ty_120 hF) hF (by decide +kernel) (fun hF => ?_)
  refine Tr.iinc (pc := 33) (ls2 := [(2, (0, (-8))), (0, (2, 120)), (1, (0, _))]) d_X12_put_33 rfl (by decide) rfl ?_
  refine Tr.goto (pc := 36) (tgt := 3) d_X12_put_36 rfl ?_
  refine Tr.iload_n (pc := 3) (i := 2) d_X12_put_3 rfl rfl ?_
  refine Tr.if_lt (pc := 4) (tgt := 39) d_X12_put_4 rfl (fun _ => ?_) (fun hc => absurd (by decide) hc)
  refine Tr.vret (pc := 39) d_X12_put_39 rfl ?_
  refine Tr.sc [] rfl ?_
  refine Tr.aload_n (pc := 36) (i := 0) d_X12_feed_36 rfl rfl ?_
  refine Tr.iload (pc := 37) (i := 5) d_X12_feed_37 rfl ?_
  refine Tr.callV (pc := 39) (as := [_]) d_X12_feed_39 s_12_378 ok_X12_put rfl rfl (Nat.le_of_ble_eq_true rfl) (Nat.le_of_ble_eq_true rfl) (by decide) (ty_120 hF) ?_
  refine Tr.lc [(0, (2, 120)), (1, (0, _))] rfl ?_
  refine Tr.bipush (pc := 0) d_X12_put_0 rfl (by decide) ?_
  refine Tr.istore_n (pc := 2) (i := 2) (ls2 := [(2, (0, 24)), (0, (2, 120)), (1, (0, _))]) d_X12_put_2 rfl (by decide) rfl ?_
  refine Tr.iload_n (pc := 3) (i := 2) d_X12_put_3 rfl rfl ?_
  refine Tr.if_lt (pc := 4) (tgt := 39) d_X12_put_4 rfl (fun hc => absurd hc (by decide)) (fun _ => ?_)
  refine Tr.aload_n (pc := 7) (i := 0) d_X12_put_7 rfl rfl ?_
  refine Tr.getf (pc := 8) d_X12_put_8 f_12_7 (by decide) (by decide) (ty_120 hF) ?_
  refine Tr.tp 121 (fx_120_0 hF) ?_
  refine Tr.aload_n (pc := 11) (i := 0) d_X12_put_11 rfl rfl ?_
  refine Tr.getf (pc := 12) d_X12_put_12 f_12_13 (by decide) (by decide) (ty_120 hF) ?_
  refine Tr.tp 16 (rd_ws _ _ _ _) ?_
  refine Tr.iload_n (pc := 15) (i := 1) d_X12_put_15 rfl rfl ?_
  refine Tr.iload_n (pc := 16) (i := 2) d_X12_put_16 rfl rfl ?_
  refine Tr.ishr (pc := 17) d_X12_put_17 ?_
  refine Tr.sipush (pc := 18) d_X12_put_18 rfl (by decide) ?_
  refine Tr.iand (pc := 21) d_X12_put_21 ?_
  refine Tr.iastX (pc := 22) d_X12_put_22 (ty_121 hF) (by decide) (by decide) hF (by decide +kernel) (fun hF => ?_)
  refine Tr.aload_n (pc := 23) (i := 0) d_X12_put_23 rfl rfl ?_
  refine Tr.dup (pc := 24) d_X12_put_24 ne21 ?_
  refine Tr.getf (pc := 25) d_X12_put_25 f_12_13 (by decide) (by decide) (ty_120 hF) ?_
  refine Tr.tp 16 ((rd_wb _ rfl).trans (rd_ws _ _ _ _)) ?_
  refine Tr.iconst (pc := 28) d_X12_put_28 (by decide) ?_
  refine Tr.iadd (pc := 29) d_X12_put_29 ?_
  refine Tr.tp 17 rfl ?_
  refine Tr.putfX (pc := 30) d_X12_put_30 f_12_13 (by decide) (by decide) (ty_120 hF) hF (by decide +kernel) (fun hF => ?_)
  refine Tr.iinc (pc := 33) (ls2 := [(2, (0, 16)), (0, (2, 120)), (1, (0, _))]) d_X12_put_33 rfl (by decide) rfl ?_
  refine Tr.goto (pc := 36) (tgt := 3) d_X12_put_36 rfl ?_
  refine Tr.iload_n (pc := 3) (i := 2) d_X12_put_3 rfl rfl ?_
  refine Tr.if_lt (pc := 4) (tgt := 39) d_X12_put_4 rfl (fun hc => absurd hc (by decide)) (fun _ => ?_)
  refine Tr.aload_n (pc := 7) (i := 0) d_X12_put_7 rfl rfl ?_
  refine Tr.getf (pc := 8) d_X12_put_8 f_12_7 (by decide) (by decide) (ty_120 hF) ?_
  refine Tr.tp 121 (fx_120_0 hF) ?_
  refine Tr.aload_n (pc := 11) (i := 0) d_X12_put_11 rfl rfl ?_
  refine Tr.getf (pc := 12) d_X12_put_12 f_12_13 (by decide) (by decide) (ty_120 hF) ?_
  refine Tr.tp 17 (rd_ws _ _ _ _) ?_
  refine Tr.iload_n (pc := 15) (i := 1) d_X12_put_15 rfl rfl ?_
  refine Tr.iload_n (pc := 16) (i := 2) d_X12_put_16 rfl rfl ?_
  refine Tr.ishr (pc := 17) d_X12_put_17 ?_
  refine Tr.sipush (pc := 18) d_X12_put_18 rfl (by decide) ?_
  refine Tr.iand (pc := 21) d_X12_put_21 ?_
  refine Tr.iastX (pc := 22) d_X12_put_22 (ty_121 hF) (by decide) (by decide) hF (by decide +kernel) (fun hF => ?_)
  refine Tr.aload_n (pc := 23) (i := 0) d_X12_put_23 rfl rfl ?_
  refine Tr.dup (pc := 24) d_X12_put_24 ne21 ?_
  refine Tr.getf (pc := 25) d_X12_put_25 f_12_13 (by decide) (by decide) (ty_120 hF) ?_
  refine Tr.tp 17 ((rd_wb _ rfl).trans (rd_ws _ _ _ _)) ?_
  refine Tr.iconst (pc := 28) d_X12_put_28 (by decide) ?_
  refine Tr.iadd (pc := 29) d_X12_put_29 ?_
  refine Tr.tp 18 rfl ?_
  refine Tr.putfX (pc := 30) d_X12_put_30 f_12_13 (by decide) (by decide) (ty_120 hF) hF (by decide +kernel) (fun hF => ?_)
  refine Tr.iinc (pc := 33) (ls2 := [(2, (0, 8)), (0, (2, 120)), (1, (0, _))]) d_X12_put_33 rfl (by decide) rfl ?_
  refine Tr.goto (pc := 36) (tgt := 3) d_X12_put_36 rfl ?_
  refine Tr.iload_n (pc := 3) (i := 2) d_X12_put_3 rfl rfl ?_
  refine Tr.if_lt (pc := 4) (tgt := 39) d_X12_put_4 rfl (fun hc => absurd hc (by decide)) (fun _ => ?_)
  refine Tr.aload_n (pc := 7) (i := 0) d_X12_put_7 rfl rfl ?_
  refine Tr.getf (pc := 8) d_X12_put_8 f_12_7 (by decide) (by decide) (ty_120 hF) ?_
  refine Tr.tp 121 (fx_120_0 hF) ?_
  refine Tr.aload_n (pc := 11) (i := 0) d_X12_put_11 rfl rfl ?_
  refine Tr.getf (pc := 12) d_X12_put_12 f_12_13 (by decide) (by decide) (ty_120 hF) ?_
  refine Tr.tp 18 (rd_ws _ _ _ _) ?_
  refine Tr.iload_n (pc := 15) (i := 1) d_X12_put_15 rfl rfl ?_
  refine Tr.iload_n (pc := 16) (i := 2) d_X12_put_16 rfl rfl ?_
  refine Tr.ishr (pc := 17) d_X12_put_17 ?_
  refine Tr.sipush (pc := 18) d_X12_put_18 rfl (by decide) ?_
  refine Tr.iand (pc := 21) d_X12_put_21 ?_
  refine Tr.iastX (pc := 22) d_X12_put_22 (ty_121 hF) (by decide) (by decide) hF (by decide +kernel) (fun hF => ?_)
  refine Tr.aload_n (pc := 23) (i := 0) d_X12_put_23 rfl rfl ?_
  refine Tr.dup (pc := 24) d_X12_put_24 ne21 ?_
  refine Tr.getf (pc := 25) d_X12_put_25 f_12_13 (by decide) (by decide) (ty_120 hF) ?_
  refine Tr.tp 18 ((rd_wb _ rfl).trans (rd_ws _ _ _ _)) ?_
  refine Tr.iconst (pc := 28) d_X12_put_28 (by decide) ?_
  refine Tr.iadd (pc := 29) d_X12_put_29 ?_
  refine Tr.tp 19 rfl ?_
  refine Tr.putfX (pc := 30) d_X12_put_30 f_12_13 (by decide) (by decide) (ty_120 hF) hF (by decide +kernel) (fun hF => ?_)
  refine Tr.iinc (pc := 33) (ls2 := [(2, (0, 0)), (0, (2, 120)), (1, (0, _))]) d_X12_put_33 rfl (by decide) rfl ?_
  refine Tr.goto (pc := 36) (tgt := 3) d_X12_put_36 rfl ?_
  refine Tr.iload_n (pc := 3) (i := 2) d_X12_put_3 rfl rfl ?_
  refine Tr.if_lt (pc := 4) (tgt := 39) d_X12_put_4 rfl (fun hc => absurd hc (by decide)) (fun _ => ?_)
  refine Tr.aload_n (pc := 7) (i := 0) d_X12_put_7 rfl rfl ?_
  refine Tr.getf (pc := 8) d_X12_put_8 f_12_7 (by decide) (by decide) (ty_120 hF) ?_
  refine Tr.tp 121 (fx_120_0 hF) ?_
  refine Tr.aload_n (pc := 11) (i := 0) d_X12_put_11 rfl rfl ?_
  refine Tr.getf (pc := 12) d_X12_put_12 f_12_13 (by decide) (by decide) (ty_120 hF) ?_
  refine Tr.tp 19 (rd_ws _ _ _ _) ?_
  refine Tr.iload_n (pc := 15) (i := 1) d_X12_put_15 rfl rfl ?_
  refine Tr.iload_n (pc := 16) (i := 2) d_X12_put_16 rfl rfl ?_
  refine Tr.ishr (pc := 17) d_X12_put_17 ?_
  refine Tr.sipush (pc := 18) d_X12_put_18 rfl (by decide) ?_
  refine Tr.iand (pc := 21) d_X12_put_21 ?_
  refine Tr.iastX (pc := 22) d_X12_put_22 (ty_121 hF) (by decide) (by decide) hF (by decide +kernel) (fun hF => ?_)
  refine Tr.aload_n (pc := 23) (i := 0) d_X12_put_23 rfl rfl ?_
  refine Tr.dup (pc := 24) d_X12_put_24 ne21 ?_
  refine Tr.getf (pc := 25) d_X12_put_25 f_12_13 (by decide) (by decide) (ty_120 hF) ?_
  refine Tr.tp 19 ((rd_wb _ rfl).trans (rd_ws _ _ _ _)) ?_
  refine Tr.iconst (pc := 28) d_X12_put_28 (by decide) ?_
  refine Tr.iadd (pc := 29) d_X12_put_29 ?_
  refine Tr.tp 20 rfl ?_
  refine Tr.putfX (pc := 30) d_X12_put_30 f_12_13 (by decide) (by decide) (ty_120 hF) hF (by decide +kernel) (fun hF => ?_)
  refine Tr.iinc (pc := 33) (ls2 := [(2, (0, (-8))), (0, (2, 120)), (1, (0, _))]) d_X12_put_33 rfl (by decide) rfl ?_
  refine Tr.goto (pc := 36) (tgt := 3) d_X12_put_36 rfl ?_
  refine Tr.iload_n (pc := 3) (i := 2) d_X12_put_3 rfl rfl ?_
  refine Tr.if_lt (pc := 4) (tgt := 39) d_X12_put_4 rfl (fun _ => ?_) (fun hc => absurd (by decide) hc)
  refine Tr.vret (pc := 39) d_X12_put_39 rfl ?_
  refine Tr.sc [] rfl ?_
  refine Tr.aload_n (pc := 42) (i := 0) d_X12_feed_42 rfl rfl ?_
  refine Tr.getf (pc := 43) d_X12_feed_43 f_12_13 (by decide) (by decide) (ty_120 hF) ?_
  refine Tr.tp 20 (rd_ws _ _ _ _) ?_
  refine Tr.iret (pc := 46) d_X12_feed_46 rfl ?_
  refine Tr.sc [_, _] rfl ?_
  refine Tr.icmp_eq (pc := 218) (tgt := 998) d_L_law_218 rfl (fun _ => ?_) (fun hc => absurd (by decide) hc)
  refine Tr.iinc (pc := 998) (ls2 := [(3, (0, 6)), (2, (2, 120)), (1, (2, 0)), (0, (2, (-2)))]) d_L_law_998 rfl (by decide) rfl ?_
  refine Tr.goto (pc := 1001) (tgt := 18) d_L_law_1001 rfl ?_
  refine Tr.iload_n (pc := 18) (i := 3) d_L_law_18 rfl rfl ?_
  refine Tr.aload_n (pc := 19) (i := 0) d_L_law_19 rfl rfl ?_
  refine Tr.xlen (pc := 20) (i := 0) d_L_law_20 rfl he (by decide) ?_
  refine Tr.tp 6 rfl ?_
  refine Tr.bipush (pc := 21) d_L_law_21 rfl (by decide) ?_
  refine Tr.isub (pc := 23) d_L_law_23 ?_
  refine Tr.tp 0 rfl ?_
  refine Tr.icmp_gt (pc := 24) (tgt := 1004) d_L_law_24 rfl (fun _ => ?_) (fun hc => absurd (by decide) hc)
  refine Tr.iconst (pc := 1004) d_L_law_1004 (by decide) ?_
  exact Tr.zret (pc := 1005) d_L_law_1005 rfl (by decide) ⟨rfl, Fx_room hF⟩
