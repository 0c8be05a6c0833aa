/-! calls on a fresh pair -/
set_option maxRecDepth 100000 in
set_option maxHeartbeats 4000000 in
theorem op_end {l : Launch} {K : EC} {f : Int → Int} (he : e_ext K 0 6 f) (hr : ∀ j, -2147483648 ≤ f j ∧ f j ≤ 2147483647) : Tr l K 20 mL_law 223 [(3, (0, 0)), (2, (2, 120)), (1, (2, 0)), (0, (2, -2))] [] C_461 (fun M' r => r = some (0, 1) ∧ M'.1 ≤ 600000 ∧ M'.2.1 ≤ room_1.slots) := by
  obtain ⟨a1, g1⟩ : ∃ a, f 1 = a := ⟨_, rfl⟩
  have r1 := hr 1
  rw [g1] at r1
  obtain ⟨a2, g2⟩ : ∃ a, f 2 = a := ⟨_, rfl⟩
  have r2 := hr 2
  rw [g2] at r2
  obtain ⟨a3, g3⟩ : ∃ a, f 3 = a := ⟨_, rfl⟩
  have r3 := hr 3
  rw [g3] at r3
  obtain ⟨a4, g4⟩ : ∃ a, f 4 = a := ⟨_, rfl⟩
  have r4 := hr 4
  rw [g4] at r4
  obtain ⟨a5, g5⟩ : ∃ a, f 5 = a := ⟨_, rfl⟩
  have r5 := hr 5
  rw [g5] at r5
  have hF := Fx_0
  refine Tr.aload_n (pc := 223) (i := 1) d_L_law_223 rfl rfl ?_
  refine Tr.aload_n (pc := 224) (i := 0) d_L_law_224 rfl rfl ?_
  refine Tr.iload_n (pc := 225) (i := 3) d_L_law_225 rfl rfl ?_
  refine Tr.iconst (pc := 226) d_L_law_226 (by decide) ?_
  refine Tr.iadd (pc := 227) d_L_law_227 ?_
  refine Tr.tp 1 rfl ?_
  refine Tr.xld (pc := 228) (i := 0) d_L_law_228 rfl he (by decide) (by decide) ?_
  refine Tr.tp a1 g1 ?_
  refine Tr.callV (pc := 229) (as := [_]) d_L_law_229 s_13_18 ok_X11_end rfl rfl (Nat.le_of_ble_eq_true rfl) (Nat.le_of_ble_eq_true rfl) (by decide) (ty_0 hF) ?_
  refine Tr.lc [(0, (2, 0)), (1, (0, _))] rfl ?_
  refine Tr.iload_n (pc := 0) (i := 1) d_X11_end_0 rfl rfl ?_
  refine Tr.if_lt (pc := 1) (tgt := 12) d_X11_end_1 rfl (fun h1 => ?_) (fun h1 => ?_)
  · refine Tr.iconst (pc := 12) d_X11_end_12 (by decide) ?_
    refine Tr.zret (pc := 13) d_X11_end_13 rfl (by decide) ?_
    refine Tr.sc [_] rfl ?_
    refine Tr.aload_n (pc := 232) (i := 2) d_L_law_232 rfl rfl ?_
    refine Tr.aload_n (pc := 233) (i := 0) d_L_law_233 rfl rfl ?_
    refine Tr.iload_n (pc := 234) (i := 3) d_L_law_234 rfl rfl ?_
    refine Tr.iconst (pc := 235) d_L_law_235 (by decide) ?_
    refine Tr.iadd (pc := 236) d_L_law_236 ?_
    refine Tr.tp 1 rfl ?_
    refine Tr.xld (pc := 237) (i := 0) d_L_law_237 rfl he (by decide) (by decide) ?_
    refine Tr.tp a1 g1 ?_
    refine Tr.callV (pc := 238) (as := [_]) d_L_law_238 s_13_22 ok_X12_end rfl rfl (Nat.le_of_ble_eq_true rfl) (Nat.le_of_ble_eq_true rfl) (by decide) (ty_120 hF) ?_
    refine Tr.lc [(0, (2, 120)), (1, (0, _))] rfl ?_
    refine Tr.iload_n (pc := 0) (i := 1) d_X12_end_0 rfl rfl ?_
    refine Tr.if_lt (pc := 1) (tgt := 12) d_X12_end_1 rfl (fun _ => ?_) (fun hc => absurd (by omega) hc)
    refine Tr.iconst (pc := 12) d_X12_end_12 (by decide) ?_
    refine Tr.zret (pc := 13) d_X12_end_13 rfl (by decide) ?_
    refine Tr.sc [_, _] rfl ?_
    refine Tr.icmp_eq (pc := 241) (tgt := 998) d_L_law_241 rfl (fun _ => ?_) (fun hc => absurd (by decide) hc)
    refine Tr.iinc (pc := 998) (ls2 := [(3, (0, 6)), (2, (2, 120)), (1, (2, 0)), (0, (2, (-2)))]) d_L_law_998 rfl (by decide) rfl ?_
    refine Tr.goto (pc := 1001) (tgt := 18) d_L_law_1001 rfl ?_
    refine Tr.iload_n (pc := 18) (i := 3) d_L_law_18 rfl rfl ?_
    refine Tr.aload_n (pc := 19) (i := 0) d_L_law_19 rfl rfl ?_
    refine Tr.xlen (pc := 20) (i := 0) d_L_law_20 rfl he (by decide) ?_
    refine Tr.tp 6 rfl ?_
    refine Tr.bipush (pc := 21) d_L_law_21 rfl (by decide) ?_
    refine Tr.isub (pc := 23) d_L_law_23 ?_
    refine Tr.tp 0 rfl ?_
    refine Tr.icmp_gt (pc := 24) (tgt := 1004) d_L_law_24 rfl (fun _ => ?_) (fun hc => absurd (by decide) hc)
    refine Tr.iconst (pc := 1004) d_L_law_1004 (by decide) ?_
    exact Tr.zret (pc := 1005) d_L_law_1005 rfl (by decide) ⟨rfl, Fx_room hF⟩
  · refine Tr.iload_n (pc := 4) (i := 1) d_X11_end_4 rfl rfl ?_
    refine Tr.aload_n (pc := 5) (i := 0) d_X11_end_5 rfl rfl ?_
    refine Tr.getf (pc := 6) d_X11_end_6 f_11_84 (by decide) (by decide) (ty_0 hF) ?_
    refine Tr.tp 0 (b_0_1) ?_
    refine Tr.icmp_le (pc := 9) (tgt := 14) d_X11_end_9 rfl (fun h2 => ?_) (fun h2 => ?_)
    · refine Tr.aload_n (pc := 14) (i := 0) d_X11_end_14 rfl rfl ?_
      refine Tr.iload_n (pc := 15) (i := 1) d_X11_end_15 rfl rfl ?_
      refine Tr.putfX (pc := 16) d_X11_end_16 f_11_84 (by decide) (by decide) (ty_0 hF) hF (by decide +kernel) (fun hF => ?_)
      refine Tr.iconst (pc := 19) d_X11_end_19 (by decide) ?_
      refine Tr.zret (pc := 20) d_X11_end_20 rfl (by decide) ?_
      refine Tr.sc [_] rfl ?_
      refine Tr.aload_n (pc := 232) (i := 2) d_L_law_232 rfl rfl ?_
      refine Tr.aload_n (pc := 233) (i := 0) d_L_law_233 rfl rfl ?_
      refine Tr.iload_n (pc := 234) (i := 3) d_L_law_234 rfl rfl ?_
      refine Tr.iconst (pc := 235) d_L_law_235 (by decide) ?_
      refine Tr.iadd (pc := 236) d_L_law_236 ?_
      refine Tr.tp 1 rfl ?_
      refine Tr.xld (pc := 237) (i := 0) d_L_law_237 rfl he (by decide) (by decide) ?_
      refine Tr.tp a1 g1 ?_
      refine Tr.callV (pc := 238) (as := [_]) d_L_law_238 s_13_22 ok_X12_end rfl rfl (Nat.le_of_ble_eq_true rfl) (Nat.le_of_ble_eq_true rfl) (by decide) (ty_120 hF) ?_
      refine Tr.lc [(0, (2, 120)), (1, (0, _))] rfl ?_
      refine Tr.iload_n (pc := 0) (i := 1) d_X12_end_0 rfl rfl ?_
      refine Tr.if_lt (pc := 1) (tgt := 12) d_X12_end_1 rfl (fun hc => absurd hc (by omega)) (fun _ => ?_)
      refine Tr.iload_n (pc := 4) (i := 1) d_X12_end_4 rfl rfl ?_
      refine Tr.aload_n (pc := 5) (i := 0) d_X12_end_5 rfl rfl ?_
      refine Tr.getf (pc := 6) d_X12_end_6 f_12_13 (by decide) (by decide) (ty_120 hF) ?_
      refine Tr.tp 0 ((rd_wb _ rfl).trans (b_120_1)) ?_
      refine Tr.icmp_le (pc := 9) (tgt := 14) d_X12_end_9 rfl (fun _ => ?_) (fun hc => absurd (by omega) hc)
      refine Tr.aload_n (pc := 14) (i := 0) d_X12_end_14 rfl rfl ?_
      refine Tr.iload_n (pc := 15) (i := 1) d_X12_end_15 rfl rfl ?_
      refine Tr.putfX (pc := 16) d_X12_end_16 f_12_13 (by decide) (by decide) (ty_120 hF) hF (by decide +kernel) (fun hF => ?_)
      refine Tr.iconst (pc := 19) d_X12_end_19 (by decide) ?_
      refine Tr.zret (pc := 20) d_X12_end_20 rfl (by decide) ?_
      refine Tr.sc [_, _] rfl ?_
      refine Tr.icmp_eq (pc := 241) (tgt := 998) d_L_law_241 rfl (fun _ => ?_) (fun hc => absurd (by decide) hc)
      refine Tr.iinc (pc := 998) (ls2 := [(3, (0, 6)), (2, (2, 120)), (1, (2, 0)), (0, (2, (-2)))]) d_L_law_998 rfl (by decide) rfl ?_
      refine Tr.goto (pc := 1001) (tgt := 18) d_L_law_1001 rfl ?_
      refine Tr.iload_n (pc := 18) (i := 3) d_L_law_18 rfl rfl ?_
      refine Tr.aload_n (pc := 19) (i := 0) d_L_law_19 rfl rfl ?_
      refine Tr.xlen (pc := 20) (i := 0) d_L_law_20 rfl he (by decide) ?_
      refine Tr.tp 6 rfl ?_
      refine Tr.bipush (pc := 21) d_L_law_21 rfl (by decide) ?_
      refine Tr.isub (pc := 23) d_L_law_23 ?_
      refine Tr.tp 0 rfl ?_
      refine Tr.icmp_gt (pc := 24) (tgt := 1004) d_L_law_24 rfl (fun _ => ?_) (fun hc => absurd (by decide) hc)
      refine Tr.iconst (pc := 1004) d_L_law_1004 (by decide) ?_
      exact Tr.zret (pc := 1005) d_L_law_1005 rfl (by decide) ⟨rfl, Fx_room hF⟩
    · refine Tr.iconst (pc := 12) d_X11_end_12 (by decide) ?_
      refine Tr.zret (pc := 13) d_X11_end_13 rfl (by decide) ?_
      refine Tr.sc [_] rfl ?_
      refine Tr.aload_n (pc := 232) (i := 2) d_L_law_232 rfl rfl ?_
      refine Tr.aload_n (pc := 233) (i := 0) d_L_law_233 rfl rfl ?_
      refine Tr.iload_n (pc := 234) (i := 3) d_L_law_234 rfl rfl ?_
      refine Tr.iconst (pc := 235) d_L_law_235 (by decide) ?_
      refine Tr.iadd (pc := 236) d_L_law_236 ?_
      refine Tr.tp 1 rfl ?_
      refine Tr.xld (pc := 237) (i := 0) d_L_law_237 rfl he (by decide) (by decide) ?_
      refine Tr.tp a1 g1 ?_
      refine Tr.callV (pc := 238) (as := [_]) d_L_law_238 s_13_22 ok_X12_end rfl rfl (Nat.le_of_ble_eq_true rfl) (Nat.le_of_ble_eq_true rfl) (by decide) (ty_120 hF) ?_
      refine Tr.lc [(0, (2, 120)), (1, (0, _))] rfl ?_
      refine Tr.iload_n (pc := 0) (i := 1) d_X12_end_0 rfl rfl ?_
      refine Tr.if_lt (pc := 1) (tgt := 12) d_X12_end_1 rfl (fun hc => absurd hc (by omega)) (fun _ => ?_)
      refine Tr.iload_n (pc := 4) (i := 1) d_X12_end_4 rfl rfl ?_
      refine Tr.aload_n (pc := 5) (i := 0) d_X12_end_5 rfl rfl ?_
      refine Tr.getf (pc := 6) d_X12_end_6 f_12_13 (by decide) (by decide) (ty_120 hF) ?_
      refine Tr.tp 0 (b_120_1) ?_
      refine Tr.icmp_le (pc := 9) (tgt := 14) d_X12_end_9 rfl (fun hc => absurd hc (by omega)) (fun _ => ?_)
      refine Tr.iconst (pc := 12) d_X12_end_12 (by decide) ?_
      refine Tr.zret (pc := 13) d_X12_end_13 rfl (by decide) ?_
      refine Tr.sc [_, _] rfl ?_
      refine Tr.icmp_eq (pc := 241) (tgt := 998) d_L_law_241 rfl (fun _ => ?_) (fun hc => absurd (by decide) hc)
      refine Tr.iinc (pc := 998) (ls2 := [(3, (0, 6)), (2, (2, 120)), (1, (2, 0)), (0, (2, (-2)))]) d_L_law_998 rfl (by decide) rfl ?_
      refine Tr.goto (pc := 1001) (tgt := 18) d_L_law_1001 rfl ?_
      refine Tr.iload_n (pc := 18) (i := 3) d_L_law_18 rfl rfl ?_
      refine Tr.aload_n (pc := 19) (i := 0) d_L_law_19 rfl rfl ?_
      refine Tr.xlen (pc := 20) (i := 0) d_L_law_20 rfl he (by decide) ?_
      refine Tr.tp 6 rfl ?_
      refine Tr.bipush (pc := 21) d_L_law_21 rfl (by decide) ?_
      refine Tr.isub (pc := 23) d_L_law_23 ?_
      refine Tr.tp 0 rfl ?_
      refine Tr.icmp_gt (pc := 24) (tgt := 1004) d_L_law_24 rfl (fun _ => ?_) (fun hc => absurd (by decide) hc)
      refine Tr.iconst (pc := 1004) d_L_law_1004 (by decide) ?_
      exact Tr.zret (pc := 1005) d_L_law_1005 rfl (by decide) ⟨rfl, Fx_room hF⟩
set_option maxRecDepth 100000 in
set_option maxHeartbeats 4000000 in
theorem op_fault {l : Launch} {K : EC} {f : Int → Int} (he : e_ext K 0 6 f) (hr : ∀ j, -2147483648 ≤ f j ∧ f j ≤ 2147483647) : Tr l K 20 mL_law 259 [(3, (0, 0)), (2, (2, 120)), (1, (2, 0)), (0, (2, -2))] [] C_461 (fun M' r => r = some (0, 1) ∧ M'.1 ≤ 600000 ∧ M'.2.1 ≤ room_1.slots) := by
  obtain ⟨a1, g1⟩ : ∃ a, f 1 = a := ⟨_, rfl⟩
  have r1 := hr 1
  rw [g1] at r1
  obtain ⟨a2, g2⟩ : ∃ a, f 2 = a := ⟨_, rfl⟩
  have r2 := hr 2
  rw [g2] at r2
  obtain ⟨a3, g3⟩ : ∃ a, f 3 = a := ⟨_, rfl⟩
  have r3 := hr 3
  rw [g3] at r3
  obtain ⟨a4, g4⟩ : ∃ a, f 4 = a := ⟨_, rfl⟩
  have r4 := hr 4
  rw [g4] at r4
  obtain ⟨a5, g5⟩ : ∃ a, f 5 = a := ⟨_, rfl⟩
  have r5 := hr 5
  rw [g5] at r5
  have hF := Fx_0
  refine Tr.aload_n (pc := 259) (i := 1) d_L_law_259 rfl rfl ?_
  refine Tr.aload_n (pc := 260) (i := 0) d_L_law_260 rfl rfl ?_
  refine Tr.iload_n (pc := 261) (i := 3) d_L_law_261 rfl rfl ?_
  refine Tr.iconst (pc := 262) d_L_law_262 (by decide) ?_
  refine Tr.iadd (pc := 263) d_L_law_263 ?_
  refine Tr.tp 1 rfl ?_
  refine Tr.xld (pc := 264) (i := 0) d_L_law_264 rfl he (by decide) (by decide) ?_
  refine Tr.tp a1 g1 ?_
  refine Tr.callV (pc := 265) (as := [_]) d_L_law_265 s_13_28 ok_X11_fault rfl rfl (Nat.le_of_ble_eq_true rfl) (Nat.le_of_ble_eq_true rfl) (by decide) (ty_0 hF) ?_
  refine Tr.lc [(0, (2, 0)), (1, (0, _))] rfl ?_
  refine Tr.iload_n (pc := 0) (i := 1) d_X11_fault_0 rfl rfl ?_
  refine Tr.if_ne (pc := 1) (tgt := 12) d_X11_fault_1 rfl (fun h1 => ?_) (fun h1 => ?_)
  · refine Tr.iload_n (pc := 12) (i := 1) d_X11_fault_12 rfl rfl ?_
    refine Tr.iconst (pc := 13) d_X11_fault_13 (by decide) ?_
    refine Tr.icmp_ne (pc := 14) (tgt := 27) d_X11_fault_14 rfl (fun h2 => ?_) (fun h2 => ?_)
    · refine Tr.iconst (pc := 27) d_X11_fault_27 (by decide) ?_
      refine Tr.iret (pc := 28) d_X11_fault_28 rfl ?_
      refine Tr.sc [_] rfl ?_
      refine Tr.aload_n (pc := 268) (i := 2) d_L_law_268 rfl rfl ?_
      refine Tr.aload_n (pc := 269) (i := 0) d_L_law_269 rfl rfl ?_
      refine Tr.iload_n (pc := 270) (i := 3) d_L_law_270 rfl rfl ?_
      refine Tr.iconst (pc := 271) d_L_law_271 (by decide) ?_
      refine Tr.iadd (pc := 272) d_L_law_272 ?_
      refine Tr.tp 1 rfl ?_
      refine Tr.xld (pc := 273) (i := 0) d_L_law_273 rfl he (by decide) (by decide) ?_
      refine Tr.tp a1 g1 ?_
      refine Tr.callV (pc := 274) (as := [_]) d_L_law_274 s_13_32 ok_X12_fault rfl rfl (Nat.le_of_ble_eq_true rfl) (Nat.le_of_ble_eq_true rfl) (by decide) (ty_120 hF) ?_
      refine Tr.lc [(0, (2, 120)), (1, (0, _))] rfl ?_
      refine Tr.iload_n (pc := 0) (i := 1) d_X12_fault_0 rfl rfl ?_
      refine Tr.if_ne (pc := 1) (tgt := 11) d_X12_fault_1 rfl (fun _ => ?_) (fun hc => absurd hc (by omega))
      refine Tr.iload_n (pc := 11) (i := 1) d_X12_fault_11 rfl rfl ?_
      refine Tr.iconst (pc := 12) d_X12_fault_12 (by decide) ?_
      refine Tr.icmp_ne (pc := 13) (tgt := 23) d_X12_fault_13 rfl (fun _ => ?_) (fun hc => absurd hc (by omega))
      refine Tr.iconst (pc := 23) d_X12_fault_23 (by decide) ?_
      refine Tr.iret (pc := 24) d_X12_fault_24 rfl ?_
      refine Tr.sc [_, _] rfl ?_
      refine Tr.icmp_eq (pc := 277) (tgt := 998) d_L_law_277 rfl (fun _ => ?_) (fun hc => absurd (by decide) hc)
      refine Tr.iinc (pc := 998) (ls2 := [(3, (0, 6)), (2, (2, 120)), (1, (2, 0)), (0, (2, (-2)))]) d_L_law_998 rfl (by decide) rfl ?_
      refine Tr.goto (pc := 1001) (tgt := 18) d_L_law_1001 rfl ?_
      refine Tr.iload_n (pc := 18) (i := 3) d_L_law_18 rfl rfl ?_
      refine Tr.aload_n (pc := 19) (i := 0) d_L_law_19 rfl rfl ?_
      refine Tr.xlen (pc := 20) (i := 0) d_L_law_20 rfl he (by decide) ?_
      refine Tr.tp 6 rfl ?_
      refine Tr.bipush (pc := 21) d_L_law_21 rfl (by decide) ?_
      refine Tr.isub (pc := 23) d_L_law_23 ?_
      refine Tr.tp 0 rfl ?_
      refine Tr.icmp_gt (pc := 24) (tgt := 1004) d_L_law_24 rfl (fun _ => ?_) (fun hc => absurd (by decide) hc)
      refine Tr.iconst (pc := 1004) d_L_law_1004 (by decide) ?_
      exact Tr.zret (pc := 1005) d_L_law_1005 rfl (by decide) ⟨rfl, Fx_room hF⟩
    · subst h2
      refine Tr.aload_n (pc := 17) (i := 0) d_X11_fault_17 rfl rfl ?_
      refine Tr.getf (pc := 18) d_X11_fault_18 f_11_23 (by decide) (by decide) (ty_0 hF) ?_
      refine Tr.tp 6 (fx_0_3 hF) ?_
      refine Tr.getf (pc := 21) d_X11_fault_21 f_11_127 (by decide) (by decide) (ty_6 hF) ?_
      refine Tr.tp (-1) (b_6_1) ?_
      refine Tr.goto (pc := 24) (tgt := 28) d_X11_fault_24 rfl ?_
      refine Tr.iret (pc := 28) d_X11_fault_28 rfl ?_
      refine Tr.sc [_] rfl ?_
      refine Tr.aload_n (pc := 268) (i := 2) d_L_law_268 rfl rfl ?_
      refine Tr.aload_n (pc := 269) (i := 0) d_L_law_269 rfl rfl ?_
      refine Tr.iload_n (pc := 270) (i := 3) d_L_law_270 rfl rfl ?_
      refine Tr.iconst (pc := 271) d_L_law_271 (by decide) ?_
      refine Tr.iadd (pc := 272) d_L_law_272 ?_
      refine Tr.tp 1 rfl ?_
      refine Tr.xld (pc := 273) (i := 0) d_L_law_273 rfl he (by decide) (by decide) ?_
      refine Tr.tp 1 g1 ?_
      refine Tr.callV (pc := 274) (as := [_]) d_L_law_274 s_13_32 ok_X12_fault rfl rfl (Nat.le_of_ble_eq_true rfl) (Nat.le_of_ble_eq_true rfl) (by decide) (ty_120 hF) ?_
      refine Tr.lc [(0, (2, 120)), (1, (0, 1))] rfl ?_
      refine Tr.iload_n (pc := 0) (i := 1) d_X12_fault_0 rfl rfl ?_
      refine Tr.if_ne (pc := 1) (tgt := 11) d_X12_fault_1 rfl (fun _ => ?_) (fun hc => absurd hc (by decide))
      refine Tr.iload_n (pc := 11) (i := 1) d_X12_fault_11 rfl rfl ?_
      refine Tr.iconst (pc := 12) d_X12_fault_12 (by decide) ?_
      refine Tr.icmp_ne (pc := 13) (tgt := 23) d_X12_fault_13 rfl (fun hc => absurd (by decide) hc) (fun _ => ?_)
      refine Tr.aload_n (pc := 16) (i := 0) d_X12_fault_16 rfl rfl ?_
      refine Tr.getf (pc := 17) d_X12_fault_17 f_12_45 (by decide) (by decide) (ty_120 hF) ?_
      refine Tr.tp (-1) (b_120_11) ?_
      refine Tr.goto (pc := 20) (tgt := 24) d_X12_fault_20 rfl ?_
      refine Tr.iret (pc := 24) d_X12_fault_24 rfl ?_
      refine Tr.sc [_, _] rfl ?_
      refine Tr.icmp_eq (pc := 277) (tgt := 998) d_L_law_277 rfl (fun _ => ?_) (fun hc => absurd (by decide) hc)
      refine Tr.iinc (pc := 998) (ls2 := [(3, (0, 6)), (2, (2, 120)), (1, (2, 0)), (0, (2, (-2)))]) d_L_law_998 rfl (by decide) rfl ?_
      refine Tr.goto (pc := 1001) (tgt := 18) d_L_law_1001 rfl ?_
      refine Tr.iload_n (pc := 18) (i := 3) d_L_law_18 rfl rfl ?_
      refine Tr.aload_n (pc := 19) (i := 0) d_L_law_19 rfl rfl ?_
      refine Tr.xlen (pc := 20) (i := 0) d_L_law_20 rfl he (by decide) ?_
      refine Tr.tp 6 rfl ?_
      refine Tr.bipush (pc := 21) d_L_law_21 rfl (by decide) ?_
      refine Tr.isub (pc := 23) d_L_law_23 ?_
      refine Tr.tp 0 rfl ?_
      refine Tr.icmp_gt (pc := 24) (tgt := 1004) d_L_law_24 rfl (fun _ => ?_) (fun hc => absurd (by decide) hc)
      refine Tr.iconst (pc := 1004) d_L_law_1004 (by decide) ?_
      exact Tr.zret (pc := 1005) d_L_law_1005 rfl (by decide) ⟨rfl, Fx_room hF⟩
  · subst h1
    refine Tr.aload_n (pc := 4) (i := 0) d_X11_fault_4 rfl rfl ?_
    refine Tr.getf (pc := 5) d_X11_fault_5 f_11_23 (by decide) (by decide) (ty_0 hF) ?_
    refine Tr.tp 6 (fx_0_3 hF) ?_
    refine Tr.getf (pc := 8) d_X11_fault_8 f_11_124 (by decide) (by decide) (ty_6 hF) ?_
    refine Tr.tp 0 (b_6_0) ?_
    refine Tr.iret (pc := 11) d_X11_fault_11 rfl ?_
    refine Tr.sc [_] rfl ?_
    refine Tr.aload_n (pc := 268) (i := 2) d_L_law_268 rfl rfl ?_
    refine Tr.aload_n (pc := 269) (i := 0) d_L_law_269 rfl rfl ?_
    refine Tr.iload_n (pc := 270) (i := 3) d_L_law_270 rfl rfl ?_
    refine Tr.iconst (pc := 271) d_L_law_271 (by decide) ?_
    refine Tr.iadd (pc := 272) d_L_law_272 ?_
    refine Tr.tp 1 rfl ?_
    refine Tr.xld (pc := 273) (i := 0) d_L_law_273 rfl he (by decide) (by decide) ?_
    refine Tr.tp 0 g1 ?_
    refine Tr.callV (pc := 274) (as := [_]) d_L_law_274 s_13_32 ok_X12_fault rfl rfl (Nat.le_of_ble_eq_true rfl) (Nat.le_of_ble_eq_true rfl) (by decide) (ty_120 hF) ?_
    refine Tr.lc [(0, (2, 120)), (1, (0, 0))] rfl ?_
    refine Tr.iload_n (pc := 0) (i := 1) d_X12_fault_0 rfl rfl ?_
    refine Tr.if_ne (pc := 1) (tgt := 11) d_X12_fault_1 rfl (fun hc => absurd (by decide) hc) (fun _ => ?_)
    refine Tr.aload_n (pc := 4) (i := 0) d_X12_fault_4 rfl rfl ?_
    refine Tr.getf (pc := 5) d_X12_fault_5 f_12_42 (by decide) (by decide) (ty_120 hF) ?_
    refine Tr.tp 0 (b_120_10) ?_
    refine Tr.goto (pc := 8) (tgt := 24) d_X12_fault_8 rfl ?_
    refine Tr.iret (pc := 24) d_X12_fault_24 rfl ?_
    refine Tr.sc [_, _] rfl ?_
    refine Tr.icmp_eq (pc := 277) (tgt := 998) d_L_law_277 rfl (fun _ => ?_) (fun hc => absurd (by decide) hc)
    refine Tr.iinc (pc := 998) (ls2 := [(3, (0, 6)), (2, (2, 120)), (1, (2, 0)), (0, (2, (-2)))]) d_L_law_998 rfl (by decide) rfl ?_
    refine Tr.goto (pc := 1001) (tgt := 18) d_L_law_1001 rfl ?_
    refine Tr.iload_n (pc := 18) (i := 3) d_L_law_18 rfl rfl ?_
    refine Tr.aload_n (pc := 19) (i := 0) d_L_law_19 rfl rfl ?_
    refine Tr.xlen (pc := 20) (i := 0) d_L_law_20 rfl he (by decide) ?_
    refine Tr.tp 6 rfl ?_
    refine Tr.bipush (pc := 21) d_L_law_21 rfl (by decide) ?_
    refine Tr.isub (pc := 23) d_L_law_23 ?_
    refine Tr.tp 0 rfl ?_
    refine Tr.icmp_gt (pc := 24) (tgt := 1004) d_L_law_24 rfl (fun _ => ?_) (fun hc => absurd (by decide) hc)
    refine Tr.iconst (pc := 1004) d_L_law_1004 (by decide) ?_
    exact Tr.zret (pc := 1005) d_L_law_1005 rfl (by decide) ⟨rfl, Fx_room hF⟩
set_option maxRecDepth 100000 in
set_option maxHeartbeats 4000000 in
theorem op_has {l : Launch} {K : EC} {f : Int → Int} (he : e_ext K 0 6 f) (hr : ∀ j, -2147483648 ≤ f j ∧ f j ≤ 2147483647) : Tr l K 20 mL_law 282 [(3, (0, 0)), (2, (2, 120)), (1, (2, 0)), (0, (2, -2))] [] C_461 (fun M' r => r = some (0, 1) ∧ M'.1 ≤ 600000 ∧ M'.2.1 ≤ room_1.slots) := by
  obtain ⟨a1, g1⟩ : ∃ a, f 1 = a := ⟨_, rfl⟩
  have r1 := hr 1
  rw [g1] at r1
  obtain ⟨a2, g2⟩ : ∃ a, f 2 = a := ⟨_, rfl⟩
  have r2 := hr 2
  rw [g2] at r2
  obtain ⟨a3, g3⟩ : ∃ a, f 3 = a := ⟨_, rfl⟩
  have r3 := hr 3
  rw [g3] at r3
  obtain ⟨a4, g4⟩ : ∃ a, f 4 = a := ⟨_, rfl⟩
  have r4 := hr 4
  rw [g4] at r4
  obtain ⟨a5, g5⟩ : ∃ a, f 5 = a := ⟨_, rfl⟩
  have r5 := hr 5
  rw [g5] at r5
  have hF := Fx_0
  refine Tr.aload_n (pc := 282) (i := 1) d_L_law_282 rfl rfl ?_
  refine Tr.aload_n (pc := 283) (i := 0) d_L_law_283 rfl rfl ?_
  refine Tr.iload_n (pc := 284) (i := 3) d_L_law_284 rfl rfl ?_
  refine Tr.iconst (pc := 285) d_L_law_285 (by decide) ?_
  refine Tr.iadd (pc := 286) d_L_law_286 ?_
  refine Tr.tp 1 rfl ?_
  refine Tr.xld (pc := 287) (i := 0) d_L_law_287 rfl he (by decide) (by decide) ?_
  refine Tr.tp a1 g1 ?_
  refine Tr.callV (pc := 288) (as := [_]) d_L_law_288 s_13_33 ok_X11_has rfl rfl (Nat.le_of_ble_eq_true rfl) (Nat.le_of_ble_eq_true rfl) (by decide) (ty_0 hF) ?_
  refine Tr.lc [(0, (2, 0)), (1, (0, _))] rfl ?_
  refine Tr.iload_n (pc := 0) (i := 1) d_X11_has_0 rfl rfl ?_
  by_cases h1 : a1 < 0 ∨ 5 < a1
  · refine Tr.tswOut (pc := 1) (tgt := 77) d_X11_has_1 h1 rfl ?_
    refine Tr.iconst (pc := 77) d_X11_has_77 (by decide) ?_
    refine Tr.iret (pc := 78) d_X11_has_78 rfl ?_
    refine Tr.sc [_] rfl ?_
    refine Tr.aload_n (pc := 291) (i := 2) d_L_law_291 rfl rfl ?_
    refine Tr.aload_n (pc := 292) (i := 0) d_L_law_292 rfl rfl ?_
    refine Tr.iload_n (pc := 293) (i := 3) d_L_law_293 rfl rfl ?_
    refine Tr.iconst (pc := 294) d_L_law_294 (by decide) ?_
    refine Tr.iadd (pc := 295) d_L_law_295 ?_
    refine Tr.tp 1 rfl ?_
    refine Tr.xld (pc := 296) (i := 0) d_L_law_296 rfl he (by decide) (by decide) ?_
    refine Tr.tp a1 g1 ?_
    refine Tr.callV (pc := 297) (as := [_]) d_L_law_297 s_13_36 ok_X12_has rfl rfl (Nat.le_of_ble_eq_true rfl) (Nat.le_of_ble_eq_true rfl) (by decide) (ty_120 hF) ?_
    refine Tr.lc [(0, (2, 120)), (1, (0, _))] rfl ?_
    refine Tr.iload_n (pc := 0) (i := 1) d_X12_has_0 rfl rfl ?_
    refine Tr.tswOut (pc := 1) (tgt := 90) d_X12_has_1 (by omega) rfl ?_
    refine Tr.iconst (pc := 90) d_X12_has_90 (by decide) ?_
    refine Tr.iret (pc := 91) d_X12_has_91 rfl ?_
    refine Tr.sc [_, _] rfl ?_
    refine Tr.icmp_eq (pc := 300) (tgt := 998) d_L_law_300 rfl (fun _ => ?_) (fun hc => absurd (by decide) hc)
    refine Tr.iinc (pc := 998) (ls2 := [(3, (0, 6)), (2, (2, 120)), (1, (2, 0)), (0, (2, (-2)))]) d_L_law_998 rfl (by decide) rfl ?_
    refine Tr.goto (pc := 1001) (tgt := 18) d_L_law_1001 rfl ?_
    refine Tr.iload_n (pc := 18) (i := 3) d_L_law_18 rfl rfl ?_
    refine Tr.aload_n (pc := 19) (i := 0) d_L_law_19 rfl rfl ?_
    refine Tr.xlen (pc := 20) (i := 0) d_L_law_20 rfl he (by decide) ?_
    refine Tr.tp 6 rfl ?_
    refine Tr.bipush (pc := 21) d_L_law_21 rfl (by decide) ?_
    refine Tr.isub (pc := 23) d_L_law_23 ?_
    refine Tr.tp 0 rfl ?_
    refine Tr.icmp_gt (pc := 24) (tgt := 1004) d_L_law_24 rfl (fun _ => ?_) (fun hc => absurd (by decide) hc)
    refine Tr.iconst (pc := 1004) d_L_law_1004 (by decide) ?_
    exact Tr.zret (pc := 1005) d_L_law_1005 rfl (by decide) ⟨rfl, Fx_room hF⟩
  · rcases (show a1 = 0 ∨ a1 = 1 ∨ a1 = 2 ∨ a1 = 3 ∨ a1 = 4 ∨ a1 = 5 by omega) with rfl | rfl | rfl | rfl | rfl | rfl
    · refine Tr.tswIn (pc := 1) (off := 39) (tgt := 40) d_X11_has_1 (by decide) (by decide) rfl rfl ?_
      refine Tr.aload_n (pc := 40) (i := 0) d_X11_has_40 rfl rfl ?_
      refine Tr.getf (pc := 41) d_X11_has_41 f_11_30 (by decide) (by decide) (ty_0 hF) ?_
      refine Tr.tp 7 (b_0_4) ?_
      refine Tr.getf (pc := 44) d_X11_has_44 f_11_130 (by decide) (by decide) (ty_7 hF) ?_
      refine Tr.tp 8 (fx_7_4 hF) ?_
      refine Tr.iload_n (pc := 47) (i := 1) d_X11_has_47 rfl rfl ?_
      refine Tr.iald (pc := 48) d_X11_has_48 (ty_8 hF) (by decide) (by decide) ?_
      refine Tr.tp 0 (b_8_0) ?_
      refine Tr.iret (pc := 49) d_X11_has_49 rfl ?_
      refine Tr.sc [_] rfl ?_
      refine Tr.aload_n (pc := 291) (i := 2) d_L_law_291 rfl rfl ?_
      refine Tr.aload_n (pc := 292) (i := 0) d_L_law_292 rfl rfl ?_
      refine Tr.iload_n (pc := 293) (i := 3) d_L_law_293 rfl rfl ?_
      refine Tr.iconst (pc := 294) d_L_law_294 (by decide) ?_
      refine Tr.iadd (pc := 295) d_L_law_295 ?_
      refine Tr.tp 1 rfl ?_
      refine Tr.xld (pc := 296) (i := 0) d_L_law_296 rfl he (by decide) (by decide) ?_
      refine Tr.tp 0 g1 ?_
      refine Tr.callV (pc := 297) (as := [_]) d_L_law_297 s_13_36 ok_X12_has rfl rfl (Nat.le_of_ble_eq_true rfl) (Nat.le_of_ble_eq_true rfl) (by decide) (ty_120 hF) ?_
      refine Tr.lc [(0, (2, 120)), (1, (0, 0))] rfl ?_
      refine Tr.iload_n (pc := 0) (i := 1) d_X12_has_0 rfl rfl ?_
      refine Tr.tswIn (pc := 1) (off := 39) (tgt := 40) d_X12_has_1 (by decide) (by decide) rfl rfl ?_
      refine Tr.aload_n (pc := 40) (i := 0) d_X12_has_40 rfl rfl ?_
      refine Tr.getf (pc := 41) d_X12_has_41 f_12_63 (by decide) (by decide) (ty_120 hF) ?_
      refine Tr.tp 126 (fx_120_17 hF) ?_
      refine Tr.aload_n (pc := 44) (i := 0) d_X12_has_44 rfl rfl ?_
      refine Tr.getf (pc := 45) d_X12_has_45 f_12_48 (by decide) (by decide) (ty_120 hF) ?_
      refine Tr.tp 0 (b_120_12) ?_
      refine Tr.iald (pc := 48) d_X12_has_48 (ty_126 hF) (by decide) (by decide) ?_
      refine Tr.tp 0 (b_126_0) ?_
      refine Tr.iret (pc := 49) d_X12_has_49 rfl ?_
      refine Tr.sc [_, _] rfl ?_
      refine Tr.icmp_eq (pc := 300) (tgt := 998) d_L_law_300 rfl (fun _ => ?_) (fun hc => absurd (by decide) hc)
      refine Tr.iinc (pc := 998) (ls2 := [(3, (0, 6)), (2, (2, 120)), (1, (2, 0)), (0, (2, (-2)))]) d_L_law_998 rfl (by decide) rfl ?_
      refine Tr.goto (pc := 1001) (tgt := 18) d_L_law_1001 rfl ?_
      refine Tr.iload_n (pc := 18) (i := 3) d_L_law_18 rfl rfl ?_
      refine Tr.aload_n (pc := 19) (i := 0) d_L_law_19 rfl rfl ?_
      refine Tr.xlen (pc := 20) (i := 0) d_L_law_20 rfl he (by decide) ?_
      refine Tr.tp 6 rfl ?_
      refine Tr.bipush (pc := 21) d_L_law_21 rfl (by decide) ?_
      refine Tr.isub (pc := 23) d_L_law_23 ?_
      refine Tr.tp 0 rfl ?_
      refine Tr.icmp_gt (pc := 24) (tgt := 1004) d_L_law_24 rfl (fun _ => ?_) (fun hc => absurd (by decide) hc)
      refine Tr.iconst (pc := 1004) d_L_law_1004 (by decide) ?_
      exact Tr.zret (pc := 1005) d_L_law_1005 rfl (by decide) ⟨rfl, Fx_room hF⟩
    · refine Tr.tswIn (pc := 1) (off := 39) (tgt := 40) d_X11_has_1 (by decide) (by decide) rfl rfl ?_
      refine Tr.aload_n (pc := 40) (i := 0) d_X11_has_40 rfl rfl ?_
      refine Tr.getf (pc := 41) d_X11_has_41 f_11_30 (by decide) (by decide) (ty_0 hF) ?_
      refine Tr.tp 7 (b_0_4) ?_
      refine Tr.getf (pc := 44) d_X11_has_44 f_11_130 (by decide) (by decide) (ty_7 hF) ?_
      refine Tr.tp 8 (fx_7_4 hF) ?_
      refine Tr.iload_n (pc := 47) (i := 1) d_X11_has_47 rfl rfl ?_
      refine Tr.iald (pc := 48) d_X11_has_48 (ty_8 hF) (by decide) (by decide) ?_
      refine Tr.tp 0 (b_8_1) ?_
      refine Tr.iret (pc := 49) d_X11_has_49 rfl ?_
      refine Tr.sc [_] rfl ?_
      refine Tr.aload_n (pc := 291) (i := 2) d_L_law_291 rfl rfl ?_
      refine Tr.aload_n (pc := 292) (i := 0) d_L_law_292 rfl rfl ?_
      refine Tr.iload_n (pc := 293) (i := 3) d_L_law_293 rfl rfl ?_
      refine Tr.iconst (pc := 294) d_L_law_294 (by decide) ?_
      refine Tr.iadd (pc := 295) d_L_law_295 ?_
      refine Tr.tp 1 rfl ?_
      refine Tr.xld (pc := 296) (i := 0) d_L_law_296 rfl he (by decide) (by decide) ?_
      refine Tr.tp 1 g1 ?_
      refine Tr.callV (pc := 297) (as := [_]) d_L_law_297 s_13_36 ok_X12_has rfl rfl (Nat.le_of_ble_eq_true rfl) (Nat.le_of_ble_eq_true rfl) (by decide) (ty_120 hF) ?_
      refine Tr.lc [(0, (2, 120)), (1, (0, 1))] rfl ?_
      refine Tr.iload_n (pc := 0) (i := 1) d_X12_has_0 rfl rfl ?_
      refine Tr.tswIn (pc := 1) (off := 49) (tgt := 50) d_X12_has_1 (by decide) (by decide) rfl rfl ?_
      refine Tr.aload_n (pc := 50) (i := 0) d_X12_has_50 rfl rfl ?_
      refine Tr.getf (pc := 51) d_X12_has_51 f_12_66 (by decide) (by decide) (ty_120 hF) ?_
      refine Tr.tp 127 (fx_120_18 hF) ?_
      refine Tr.aload_n (pc := 54) (i := 0) d_X12_has_54 rfl rfl ?_
      refine Tr.getf (pc := 55) d_X12_has_55 f_12_48 (by decide) (by decide) (ty_120 hF) ?_
      refine Tr.tp 0 (b_120_12) ?_
      refine Tr.iald (pc := 58) d_X12_has_58 (ty_127 hF) (by decide) (by decide) ?_
      refine Tr.tp 0 (b_127_0) ?_
      refine Tr.iret (pc := 59) d_X12_has_59 rfl ?_
      refine Tr.sc [_, _] rfl ?_
      refine Tr.icmp_eq (pc := 300) (tgt := 998) d_L_law_300 rfl (fun _ => ?_) (fun hc => absurd (by decide) hc)
      refine Tr.iinc (pc := 998) (ls2 := [(3, (0, 6)), (2, (2, 120)), (1, (2, 0)), (0, (2, (-2)))]) d_L_law_998 rfl (by decide) rfl ?_
      refine Tr.goto (pc := 1001) (tgt := 18) d_L_law_1001 rfl ?_
      refine Tr.iload_n (pc := 18) (i := 3) d_L_law_18 rfl rfl ?_
      refine Tr.aload_n (pc := 19) (i := 0) d_L_law_19 rfl rfl ?_
      refine Tr.xlen (pc := 20) (i := 0) d_L_law_20 rfl he (by decide) ?_
      refine Tr.tp 6 rfl ?_
      refine Tr.bipush (pc := 21) d_L_law_21 rfl (by decide) ?_
      refine Tr.isub (pc := 23) d_L_law_23 ?_
      refine Tr.tp 0 rfl ?_
      refine Tr.icmp_gt (pc := 24) (tgt := 1004) d_L_law_24 rfl (fun _ => ?_) (fun hc => absurd (by decide) hc)
      refine Tr.iconst (pc := 1004) d_L_law_1004 (by decide) ?_
      exact Tr.zret (pc := 1005) d_L_law_1005 rfl (by decide) ⟨rfl, Fx_room hF⟩
    · refine Tr.tswIn (pc := 1) (off := 39) (tgt := 40) d_X11_has_1 (by decide) (by decide) rfl rfl ?_
      refine Tr.aload_n (pc := 40) (i := 0) d_X11_has_40 rfl rfl ?_
      refine Tr.getf (pc := 41) d_X11_has_41 f_11_30 (by decide) (by decide) (ty_0 hF) ?_
      refine Tr.tp 7 (b_0_4) ?_
      refine Tr.getf (pc := 44) d_X11_has_44 f_11_130 (by decide) (by decide) (ty_7 hF) ?_
      refine Tr.tp 8 (fx_7_4 hF) ?_
      refine Tr.iload_n (pc := 47) (i := 1) d_X11_has_47 rfl rfl ?_
      refine Tr.iald (pc := 48) d_X11_has_48 (ty_8 hF) (by decide) (by decide) ?_
      refine Tr.tp 0 (b_8_2) ?_
      refine Tr.iret (pc := 49) d_X11_has_49 rfl ?_
      refine Tr.sc [_] rfl ?_
      refine Tr.aload_n (pc := 291) (i := 2) d_L_law_291 rfl rfl ?_
      refine Tr.aload_n (pc := 292) (i := 0) d_L_law_292 rfl rfl ?_
      refine Tr.iload_n (pc := 293) (i := 3) d_L_law_293 rfl rfl ?_
      refine Tr.iconst (pc := 294) d_L_law_294 (by decide) ?_
      refine Tr.iadd (pc := 295) d_L_law_295 ?_
      refine Tr.tp 1 rfl ?_
      refine Tr.xld (pc := 296) (i := 0) d_L_law_296 rfl he (by decide) (by decide) ?_
      refine Tr.tp 2 g1 ?_
      refine Tr.callV (pc := 297) (as := [_]) d_L_law_297 s_13_36 ok_X12_has rfl rfl (Nat.le_of_ble_eq_true rfl) (Nat.le_of_ble_eq_true rfl) (by decide) (ty_120 hF) ?_
      refine Tr.lc [(0, (2, 120)), (1, (0, 2))] rfl ?_
      refine Tr.iload_n (pc := 0) (i := 1) d_X12_has_0 rfl rfl ?_
      refine Tr.tswIn (pc := 1) (off := 59) (tgt := 60) d_X12_has_1 (by decide) (by decide) rfl rfl ?_
      refine Tr.aload_n (pc := 60) (i := 0) d_X12_has_60 rfl rfl ?_
      refine Tr.getf (pc := 61) d_X12_has_61 f_12_69 (by decide) (by decide) (ty_120 hF) ?_
      refine Tr.tp 128 (fx_120_19 hF) ?_
      refine Tr.aload_n (pc := 64) (i := 0) d_X12_has_64 rfl rfl ?_
      refine Tr.getf (pc := 65) d_X12_has_65 f_12_48 (by decide) (by decide) (ty_120 hF) ?_
      refine Tr.tp 0 (b_120_12) ?_
      refine Tr.iald (pc := 68) d_X12_has_68 (ty_128 hF) (by decide) (by decide) ?_
      refine Tr.tp 0 (b_128_0) ?_
      refine Tr.iret (pc := 69) d_X12_has_69 rfl ?_
      refine Tr.sc [_, _] rfl ?_
      refine Tr.icmp_eq (pc := 300) (tgt := 998) d_L_law_300 rfl (fun _ => ?_) (fun hc => absurd (by decide) hc)
      refine Tr.iinc (pc := 998) (ls2 := [(3, (0, 6)), (2, (2, 120)), (1, (2, 0)), (0, (2, (-2)))]) d_L_law_998 rfl (by decide) rfl ?_
      refine Tr.goto (pc := 1001) (tgt := 18) d_L_law_1001 rfl ?_
      refine Tr.iload_n (pc := 18) (i := 3) d_L_law_18 rfl rfl ?_
      refine Tr.aload_n (pc := 19) (i := 0) d_L_law_19 rfl rfl ?_
      refine Tr.xlen (pc := 20) (i := 0) d_L_law_20 rfl he (by decide) ?_
      refine Tr.tp 6 rfl ?_
      refine Tr.bipush (pc := 21) d_L_law_21 rfl (by decide) ?_
      refine Tr.isub (pc := 23) d_L_law_23 ?_
      refine Tr.tp 0 rfl ?_
      refine Tr.icmp_gt (pc := 24) (tgt := 1004) d_L_law_24 rfl (fun _ => ?_) (fun hc => absurd (by decide) hc)
      refine Tr.iconst (pc := 1004) d_L_law_1004 (by decide) ?_
      exact Tr.zret (pc := 1005) d_L_law_1005 rfl (by decide) ⟨rfl, Fx_room hF⟩
    · refine Tr.tswIn (pc := 1) (off := 49) (tgt := 50) d_X11_has_1 (by decide) (by decide) rfl rfl ?_
      refine Tr.aload_n (pc := 50) (i := 0) d_X11_has_50 rfl rfl ?_
      refine Tr.getf (pc := 51) d_X11_has_51 f_11_30 (by decide) (by decide) (ty_0 hF) ?_
      refine Tr.tp 7 (b_0_4) ?_
      refine Tr.getf (pc := 54) d_X11_has_54 f_11_115 (by decide) (by decide) (ty_7 hF) ?_
      refine Tr.tp 15 (fx_7_11 hF) ?_
      refine Tr.getf (pc := 57) d_X11_has_57 f_11_119 (by decide) (by decide) (ty_15 hF) ?_
      refine Tr.tp 0 (b_15_0) ?_
      refine Tr.iret (pc := 60) d_X11_has_60 rfl ?_
      refine Tr.sc [_] rfl ?_
      refine Tr.aload_n (pc := 291) (i := 2) d_L_law_291 rfl rfl ?_
      refine Tr.aload_n (pc := 292) (i := 0) d_L_law_292 rfl rfl ?_
      refine Tr.iload_n (pc := 293) (i := 3) d_L_law_293 rfl rfl ?_
      refine Tr.iconst (pc := 294) d_L_law_294 (by decide) ?_
      refine Tr.iadd (pc := 295) d_L_law_295 ?_
      refine Tr.tp 1 rfl ?_
      refine Tr.xld (pc := 296) (i := 0) d_L_law_296 rfl he (by decide) (by decide) ?_
      refine Tr.tp 3 g1 ?_
      refine Tr.callV (pc := 297) (as := [_]) d_L_law_297 s_13_36 ok_X12_has rfl rfl (Nat.le_of_ble_eq_true rfl) (Nat.le_of_ble_eq_true rfl) (by decide) (ty_120 hF) ?_
      refine Tr.lc [(0, (2, 120)), (1, (0, 3))] rfl ?_
      refine Tr.iload_n (pc := 0) (i := 1) d_X12_has_0 rfl rfl ?_
      refine Tr.tswIn (pc := 1) (off := 69) (tgt := 70) d_X12_has_1 (by decide) (by decide) rfl rfl ?_
      refine Tr.aload_n (pc := 70) (i := 0) d_X12_has_70 rfl rfl ?_
      refine Tr.getf (pc := 71) d_X12_has_71 f_12_72 (by decide) (by decide) (ty_120 hF) ?_
      refine Tr.tp 129 (fx_120_20 hF) ?_
      refine Tr.aload_n (pc := 74) (i := 0) d_X12_has_74 rfl rfl ?_
      refine Tr.getf (pc := 75) d_X12_has_75 f_12_48 (by decide) (by decide) (ty_120 hF) ?_
      refine Tr.tp 0 (b_120_12) ?_
      refine Tr.iald (pc := 78) d_X12_has_78 (ty_129 hF) (by decide) (by decide) ?_
      refine Tr.tp 0 (b_129_0) ?_
      refine Tr.iret (pc := 79) d_X12_has_79 rfl ?_
      refine Tr.sc [_, _] rfl ?_
      refine Tr.icmp_eq (pc := 300) (tgt := 998) d_L_law_300 rfl (fun _ => ?_) (fun hc => absurd (by decide) hc)
      refine Tr.iinc (pc := 998) (ls2 := [(3, (0, 6)), (2, (2, 120)), (1, (2, 0)), (0, (2, (-2)))]) d_L_law_998 rfl (by decide) rfl ?_
      refine Tr.goto (pc := 1001) (tgt := 18) d_L_law_1001 rfl ?_
      refine Tr.iload_n (pc := 18) (i := 3) d_L_law_18 rfl rfl ?_
      refine Tr.aload_n (pc := 19) (i := 0) d_L_law_19 rfl rfl ?_
      refine Tr.xlen (pc := 20) (i := 0) d_L_law_20 rfl he (by decide) ?_
      refine Tr.tp 6 rfl ?_
      refine Tr.bipush (pc := 21) d_L_law_21 rfl (by decide) ?_
      refine Tr.isub (pc := 23) d_L_law_23 ?_
      refine Tr.tp 0 rfl ?_
      refine Tr.icmp_gt (pc := 24) (tgt := 1004) d_L_law_24 rfl (fun _ => ?_) (fun hc => absurd (by decide) hc)
      refine Tr.iconst (pc := 1004) d_L_law_1004 (by decide) ?_
      exact Tr.zret (pc := 1005) d_L_law_1005 rfl (by decide) ⟨rfl, Fx_room hF⟩
    · refine Tr.tswIn (pc := 1) (off := 60) (tgt := 61) d_X11_has_1 (by decide) (by decide) rfl rfl ?_
      refine Tr.aload_n (pc := 61) (i := 0) d_X11_has_61 rfl rfl ?_
      refine Tr.getf (pc := 62) d_X11_has_62 f_11_70 (by decide) (by decide) (ty_0 hF) ?_
      refine Tr.tp 107 (fx_0_12 hF) ?_
      refine Tr.getf (pc := 65) d_X11_has_65 f_11_133 (by decide) (by decide) (ty_107 hF) ?_
      refine Tr.tp 0 (b_107_0) ?_
      refine Tr.iret (pc := 68) d_X11_has_68 rfl ?_
      refine Tr.sc [_] rfl ?_
      refine Tr.aload_n (pc := 291) (i := 2) d_L_law_291 rfl rfl ?_
      refine Tr.aload_n (pc := 292) (i := 0) d_L_law_292 rfl rfl ?_
      refine Tr.iload_n (pc := 293) (i := 3) d_L_law_293 rfl rfl ?_
      refine Tr.iconst (pc := 294) d_L_law_294 (by decide) ?_
      refine Tr.iadd (pc := 295) d_L_law_295 ?_
      refine Tr.tp 1 rfl ?_
      refine Tr.xld (pc := 296) (i := 0) d_L_law_296 rfl he (by decide) (by decide) ?_
      refine Tr.tp 4 g1 ?_
      refine Tr.callV (pc := 297) (as := [_]) d_L_law_297 s_13_36 ok_X12_has rfl rfl (Nat.le_of_ble_eq_true rfl) (Nat.le_of_ble_eq_true rfl) (by decide) (ty_120 hF) ?_
      refine Tr.lc [(0, (2, 120)), (1, (0, 4))] rfl ?_
      refine Tr.iload_n (pc := 0) (i := 1) d_X12_has_0 rfl rfl ?_
      refine Tr.tswIn (pc := 1) (off := 79) (tgt := 80) d_X12_has_1 (by decide) (by decide) rfl rfl ?_
      refine Tr.aload_n (pc := 80) (i := 0) d_X12_has_80 rfl rfl ?_
      refine Tr.getf (pc := 81) d_X12_has_81 f_12_333 (by decide) (by decide) (ty_120 hF) ?_
      refine Tr.tp 0 (b_120_106) ?_
      refine Tr.iret (pc := 84) d_X12_has_84 rfl ?_
      refine Tr.sc [_, _] rfl ?_
      refine Tr.icmp_eq (pc := 300) (tgt := 998) d_L_law_300 rfl (fun _ => ?_) (fun hc => absurd (by decide) hc)
      refine Tr.iinc (pc := 998) (ls2 := [(3, (0, 6)), (2, (2, 120)), (1, (2, 0)), (0, (2, (-2)))]) d_L_law_998 rfl (by decide) rfl ?_
      refine Tr.goto (pc := 1001) (tgt := 18) d_L_law_1001 rfl ?_
      refine Tr.iload_n (pc := 18) (i := 3) d_L_law_18 rfl rfl ?_
      refine Tr.aload_n (pc := 19) (i := 0) d_L_law_19 rfl rfl ?_
      refine Tr.xlen (pc := 20) (i := 0) d_L_law_20 rfl he (by decide) ?_
      refine Tr.tp 6 rfl ?_
      refine Tr.bipush (pc := 21) d_L_law_21 rfl (by decide) ?_
      refine Tr.isub (pc := 23) d_L_law_23 ?_
      refine Tr.tp 0 rfl ?_
      refine Tr.icmp_gt (pc := 24) (tgt := 1004) d_L_law_24 rfl (fun _ => ?_) (fun hc => absurd (by decide) hc)
      refine Tr.iconst (pc := 1004) d_L_law_1004 (by decide) ?_
      exact Tr.zret (pc := 1005) d_L_law_1005 rfl (by decide) ⟨rfl, Fx_room hF⟩
    · refine Tr.tswIn (pc := 1) (off := 68) (tgt := 69) d_X11_has_1 (by decide) (by decide) rfl rfl ?_
      refine Tr.aload_n (pc := 69) (i := 0) d_X11_has_69 rfl rfl ?_
      refine Tr.getf (pc := 70) d_X11_has_70 f_11_77 (by decide) (by decide) (ty_0 hF) ?_
      refine Tr.tp 113 (fx_0_13 hF) ?_
      refine Tr.getf (pc := 73) d_X11_has_73 f_11_136 (by decide) (by decide) (ty_113 hF) ?_
      refine Tr.tp 0 (b_113_0) ?_
      refine Tr.iret (pc := 76) d_X11_has_76 rfl ?_
      refine Tr.sc [_] rfl ?_
      refine Tr.aload_n (pc := 291) (i := 2) d_L_law_291 rfl rfl ?_
      refine Tr.aload_n (pc := 292) (i := 0) d_L_law_292 rfl rfl ?_
      refine Tr.iload_n (pc := 293) (i := 3) d_L_law_293 rfl rfl ?_
      refine Tr.iconst (pc := 294) d_L_law_294 (by decide) ?_
      refine Tr.iadd (pc := 295) d_L_law_295 ?_
      refine Tr.tp 1 rfl ?_
      refine Tr.xld (pc := 296) (i := 0) d_L_law_296 rfl he (by decide) (by decide) ?_
      refine Tr.tp 5 g1 ?_
      refine Tr.callV (pc := 297) (as := [_]) d_L_law_297 s_13_36 ok_X12_has rfl rfl (Nat.le_of_ble_eq_true rfl) (Nat.le_of_ble_eq_true rfl) (by decide) (ty_120 hF) ?_
      refine Tr.lc [(0, (2, 120)), (1, (0, 5))] rfl ?_
      refine Tr.iload_n (pc := 0) (i := 1) d_X12_has_0 rfl rfl ?_
      refine Tr.tswIn (pc := 1) (off := 84) (tgt := 85) d_X12_has_1 (by decide) (by decide) rfl rfl ?_
      refine Tr.aload_n (pc := 85) (i := 0) d_X12_has_85 rfl rfl ?_
      refine Tr.getf (pc := 86) d_X12_has_86 f_12_354 (by decide) (by decide) (ty_120 hF) ?_
      refine Tr.tp 0 (b_120_113) ?_
      refine Tr.iret (pc := 89) d_X12_has_89 rfl ?_
      refine Tr.sc [_, _] rfl ?_
      refine Tr.icmp_eq (pc := 300) (tgt := 998) d_L_law_300 rfl (fun _ => ?_) (fun hc => absurd (by decide) hc)
      refine Tr.iinc (pc := 998) (ls2 := [(3, (0, 6)), (2, (2, 120)), (1, (2, 0)), (0, (2, (-2)))]) d_L_law_998 rfl (by decide) rfl ?_
      refine Tr.goto (pc := 1001) (tgt := 18) d_L_law_1001 rfl ?_
      refine Tr.iload_n (pc := 18) (i := 3) d_L_law_18 rfl rfl ?_
      refine Tr.aload_n (pc := 19) (i := 0) d_L_law_19 rfl rfl ?_
      refine Tr.xlen (pc := 20) (i := 0) d_L_law_20 rfl he (by decide) ?_
      refine Tr.tp 6 rfl ?_
      refine Tr.bipush (pc := 21) d_L_law_21 rfl (by decide) ?_
      refine Tr.isub (pc := 23) d_L_law_23 ?_
      refine Tr.tp 0 rfl ?_
      refine Tr.icmp_gt (pc := 24) (tgt := 1004) d_L_law_24 rfl (fun _ => ?_) (fun hc => absurd (by decide) hc)
      refine Tr.iconst (pc := 1004) d_L_law_1004 (by decide) ?_
      exact Tr.zret (pc := 1005) d_L_law_1005 rfl (by decide) ⟨rfl, Fx_room hF⟩
set_option maxRecDepth 100000 in
set_option maxHeartbeats 4000000 in
theorem op_letter {l : Launch} {K : EC} {f : Int → Int} (he : e_ext K 0 6 f) (hr : ∀ j, -2147483648 ≤ f j ∧ f j ≤ 2147483647) : Tr l K 20 mL_law 305 [(3, (0, 0)), (2, (2, 120)), (1, (2, 0)), (0, (2, -2))] [] C_461 (fun M' r => r = some (0, 1) ∧ M'.1 ≤ 600000 ∧ M'.2.1 ≤ room_1.slots) := by
  obtain ⟨a1, g1⟩ : ∃ a, f 1 = a := ⟨_, rfl⟩
  have r1 := hr 1
  rw [g1] at r1
  obtain ⟨a2, g2⟩ : ∃ a, f 2 = a := ⟨_, rfl⟩
  have r2 := hr 2
  rw [g2] at r2
  obtain ⟨a3, g3⟩ : ∃ a, f 3 = a := ⟨_, rfl⟩
  have r3 := hr 3
  rw [g3] at r3
  obtain ⟨a4, g4⟩ : ∃ a, f 4 = a := ⟨_, rfl⟩
  have r4 := hr 4
  rw [g4] at r4
  obtain ⟨a5, g5⟩ : ∃ a, f 5 = a := ⟨_, rfl⟩
  have r5 := hr 5
  rw [g5] at r5
  have hF := Fx_0
  refine Tr.aload_n (pc := 305) (i := 1) d_L_law_305 rfl rfl ?_
  refine Tr.aload_n (pc := 306) (i := 0) d_L_law_306 rfl rfl ?_
  refine Tr.iload_n (pc := 307) (i := 3) d_L_law_307 rfl rfl ?_
  refine Tr.iconst (pc := 308) d_L_law_308 (by decide) ?_
  refine Tr.iadd (pc := 309) d_L_law_309 ?_
  refine Tr.tp 1 rfl ?_
  refine Tr.xld (pc := 310) (i := 0) d_L_law_310 rfl he (by decide) (by decide) ?_
  refine Tr.tp a1 g1 ?_
  refine Tr.aload_n (pc := 311) (i := 0) d_L_law_311 rfl rfl ?_
  refine Tr.iload_n (pc := 312) (i := 3) d_L_law_312 rfl rfl ?_
  refine Tr.iconst (pc := 313) d_L_law_313 (by decide) ?_
  refine Tr.iadd (pc := 314) d_L_law_314 ?_
  refine Tr.tp 2 rfl ?_
  refine Tr.xld (pc := 315) (i := 0) d_L_law_315 rfl he (by decide) (by decide) ?_
  refine Tr.tp a2 g2 ?_
  refine Tr.aload_n (pc := 316) (i := 0) d_L_law_316 rfl rfl ?_
  refine Tr.iload_n (pc := 317) (i := 3) d_L_law_317 rfl rfl ?_
  refine Tr.iconst (pc := 318) d_L_law_318 (by decide) ?_
  refine Tr.iadd (pc := 319) d_L_law_319 ?_
  refine Tr.tp 3 rfl ?_
  refine Tr.xld (pc := 320) (i := 0) d_L_law_320 rfl he (by decide) (by decide) ?_
  refine Tr.tp a3 g3 ?_
  refine Tr.callV (pc := 321) (as := [_, _, _]) d_L_law_321 s_13_37 ok_X11_letter rfl rfl (Nat.le_of_ble_eq_true rfl) (Nat.le_of_ble_eq_true rfl) (by decide) (ty_0 hF) ?_
  refine Tr.lc [(0, (2, 0)), (1, (0, _)), (2, (0, _)), (3, (0, _))] rfl ?_
  refine Tr.iload_n (pc := 0) (i := 1) d_X11_letter_0 rfl rfl ?_
  refine Tr.if_lt (pc := 1) (tgt := 26) d_X11_letter_1 rfl (fun h1 => ?_) (fun h1 => ?_)
  · refine Tr.iconst (pc := 26) d_X11_letter_26 (by decide) ?_
    refine Tr.iret (pc := 27) d_X11_letter_27 rfl ?_
    refine Tr.sc [_] rfl ?_
    refine Tr.aload_n (pc := 324) (i := 2) d_L_law_324 rfl rfl ?_
    refine Tr.aload_n (pc := 325) (i := 0) d_L_law_325 rfl rfl ?_
    refine Tr.iload_n (pc := 326) (i := 3) d_L_law_326 rfl rfl ?_
    refine Tr.iconst (pc := 327) d_L_law_327 (by decide) ?_
    refine Tr.iadd (pc := 328) d_L_law_328 ?_
    refine Tr.tp 1 rfl ?_
    refine Tr.xld (pc := 329) (i := 0) d_L_law_329 rfl he (by decide) (by decide) ?_
    refine Tr.tp a1 g1 ?_
    refine Tr.aload_n (pc := 330) (i := 0) d_L_law_330 rfl rfl ?_
    refine Tr.iload_n (pc := 331) (i := 3) d_L_law_331 rfl rfl ?_
    refine Tr.iconst (pc := 332) d_L_law_332 (by decide) ?_
    refine Tr.iadd (pc := 333) d_L_law_333 ?_
    refine Tr.tp 2 rfl ?_
    refine Tr.xld (pc := 334) (i := 0) d_L_law_334 rfl he (by decide) (by decide) ?_
    refine Tr.tp a2 g2 ?_
    refine Tr.aload_n (pc := 335) (i := 0) d_L_law_335 rfl rfl ?_
    refine Tr.iload_n (pc := 336) (i := 3) d_L_law_336 rfl rfl ?_
    refine Tr.iconst (pc := 337) d_L_law_337 (by decide) ?_
    refine Tr.iadd (pc := 338) d_L_law_338 ?_
    refine Tr.tp 3 rfl ?_
    refine Tr.xld (pc := 339) (i := 0) d_L_law_339 rfl he (by decide) (by decide) ?_
    refine Tr.tp a3 g3 ?_
    refine Tr.callV (pc := 340) (as := [_, _, _]) d_L_law_340 s_13_41 ok_X12_letter rfl rfl (Nat.le_of_ble_eq_true rfl) (Nat.le_of_ble_eq_true rfl) (by decide) (ty_120 hF) ?_
    refine Tr.lc [(0, (2, 120)), (1, (0, _)), (2, (0, _)), (3, (0, _))] rfl ?_
    refine Tr.iload_n (pc := 0) (i := 1) d_X12_letter_0 rfl rfl ?_
    refine Tr.if_ne (pc := 1) (tgt := 31) d_X12_letter_1 rfl (fun _ => ?_) (fun hc => absurd hc (by omega))
    refine Tr.iload_n (pc := 31) (i := 1) d_X12_letter_31 rfl rfl ?_
    refine Tr.iconst (pc := 32) d_X12_letter_32 (by decide) ?_
    refine Tr.icmp_ne (pc := 33) (tgt := 62) d_X12_letter_33 rfl (fun _ => ?_) (fun hc => absurd hc (by omega))
    refine Tr.iload_n (pc := 62) (i := 1) d_X12_letter_62 rfl rfl ?_
    refine Tr.iconst (pc := 63) d_X12_letter_63 (by decide) ?_
    refine Tr.icmp_ne (pc := 64) (tgt := 105) d_X12_letter_64 rfl (fun _ => ?_) (fun hc => absurd hc (by omega))
    refine Tr.iconst (pc := 105) d_X12_letter_105 (by decide) ?_
    refine Tr.iret (pc := 106) d_X12_letter_106 rfl ?_
    refine Tr.sc [_, _] rfl ?_
    refine Tr.icmp_eq (pc := 343) (tgt := 998) d_L_law_343 rfl (fun _ => ?_) (fun hc => absurd (by decide) hc)
    refine Tr.iinc (pc := 998) (ls2 := [(3, (0, 6)), (2, (2, 120)), (1, (2, 0)), (0, (2, (-2)))]) d_L_law_998 rfl (by decide) rfl ?_
    refine Tr.goto (pc := 1001) (tgt := 18) d_L_law_1001 rfl ?_
    refine Tr.iload_n (pc := 18) (i := 3) d_L_law_18 rfl rfl ?_
    refine Tr.aload_n (pc := 19) (i := 0) d_L_law_19 rfl rfl ?_
    refine Tr.xlen (pc := 20) (i := 0) d_L_law_20 rfl he (by decide) ?_
    refine Tr.tp 6 rfl ?_
    refine Tr.bipush (pc := 21) d_L_law_21 rfl (by decide) ?_
    refine Tr.isub (pc := 23) d_L_law_23 ?_
    refine Tr.tp 0 rfl ?_
    refine Tr.icmp_gt (pc := 24) (tgt := 1004) d_L_law_24 rfl (fun _ => ?_) (fun hc => absurd (by decide) hc)
    refine Tr.iconst (pc := 1004) d_L_law_1004 (by decide) ?_
    exact Tr.zret (pc := 1005) d_L_law_1005 rfl (by decide) ⟨rfl, Fx_room hF⟩
  · refine Tr.iload_n (pc := 4) (i := 1) d_X11_letter_4 rfl rfl ?_
    refine Tr.iconst (pc := 5) d_X11_letter_5 (by decide) ?_
    refine Tr.icmp_ge (pc := 6) (tgt := 26) d_X11_letter_6 rfl (fun h2 => ?_) (fun h2 => ?_)
    · refine Tr.iconst (pc := 26) d_X11_letter_26 (by decide) ?_
      refine Tr.iret (pc := 27) d_X11_letter_27 rfl ?_
      refine Tr.sc [_] rfl ?_
      refine Tr.aload_n (pc := 324) (i := 2) d_L_law_324 rfl rfl ?_
      refine Tr.aload_n (pc := 325) (i := 0) d_L_law_325 rfl rfl ?_
      refine Tr.iload_n (pc := 326) (i := 3) d_L_law_326 rfl rfl ?_
      refine Tr.iconst (pc := 327) d_L_law_327 (by decide) ?_
      refine Tr.iadd (pc := 328) d_L_law_328 ?_
      refine Tr.tp 1 rfl ?_
      refine Tr.xld (pc := 329) (i := 0) d_L_law_329 rfl he (by decide) (by decide) ?_
      refine Tr.tp a1 g1 ?_
      refine Tr.aload_n (pc := 330) (i := 0) d_L_law_330 rfl rfl ?_
      refine Tr.iload_n (pc := 331) (i := 3) d_L_law_331 rfl rfl ?_
      refine Tr.iconst (pc := 332) d_L_law_332 (by decide) ?_
      refine Tr.iadd (pc := 333) d_L_law_333 ?_
      refine Tr.tp 2 rfl ?_
      refine Tr.xld (pc := 334) (i := 0) d_L_law_334 rfl he (by decide) (by decide) ?_
      refine Tr.tp a2 g2 ?_
      refine Tr.aload_n (pc := 335) (i := 0) d_L_law_335 rfl rfl ?_
      refine Tr.iload_n (pc := 336) (i := 3) d_L_law_336 rfl rfl ?_
      refine Tr.iconst (pc := 337) d_L_law_337 (by decide) ?_
      refine Tr.iadd (pc := 338) d_L_law_338 ?_
      refine Tr.tp 3 rfl ?_
      refine Tr.xld (pc := 339) (i := 0) d_L_law_339 rfl he (by decide) (by decide) ?_
      refine Tr.tp a3 g3 ?_
      refine Tr.callV (pc := 340) (as := [_, _, _]) d_L_law_340 s_13_41 ok_X12_letter rfl rfl (Nat.le_of_ble_eq_true rfl) (Nat.le_of_ble_eq_true rfl) (by decide) (ty_120 hF) ?_
      refine Tr.lc [(0, (2, 120)), (1, (0, _)), (2, (0, _)), (3, (0, _))] rfl ?_
      refine Tr.iload_n (pc := 0) (i := 1) d_X12_letter_0 rfl rfl ?_
      refine Tr.if_ne (pc := 1) (tgt := 31) d_X12_letter_1 rfl (fun _ => ?_) (fun hc => absurd hc (by omega))
      refine Tr.iload_n (pc := 31) (i := 1) d_X12_letter_31 rfl rfl ?_
      refine Tr.iconst (pc := 32) d_X12_letter_32 (by decide) ?_
      refine Tr.icmp_ne (pc := 33) (tgt := 62) d_X12_letter_33 rfl (fun _ => ?_) (fun hc => absurd hc (by omega))
      refine Tr.iload_n (pc := 62) (i := 1) d_X12_letter_62 rfl rfl ?_
      refine Tr.iconst (pc := 63) d_X12_letter_63 (by decide) ?_
      refine Tr.icmp_ne (pc := 64) (tgt := 105) d_X12_letter_64 rfl (fun _ => ?_) (fun hc => absurd hc (by omega))
      refine Tr.iconst (pc := 105) d_X12_letter_105 (by decide) ?_
      refine Tr.iret (pc := 106) d_X12_letter_106 rfl ?_
      refine Tr.sc [_, _] rfl ?_
      refine Tr.icmp_eq (pc := 343) (tgt := 998) d_L_law_343 rfl (fun _ => ?_) (fun hc => absurd (by decide) hc)
      refine Tr.iinc (pc := 998) (ls2 := [(3, (0, 6)), (2, (2, 120)), (1, (2, 0)), (0, (2, (-2)))]) d_L_law_998 rfl (by decide) rfl ?_
      refine Tr.goto (pc := 1001) (tgt := 18) d_L_law_1001 rfl ?_
      refine Tr.iload_n (pc := 18) (i := 3) d_L_law_18 rfl rfl ?_
      refine Tr.aload_n (pc := 19) (i := 0) d_L_law_19 rfl rfl ?_
      refine Tr.xlen (pc := 20) (i := 0) d_L_law_20 rfl he (by decide) ?_
      refine Tr.tp 6 rfl ?_
      refine Tr.bipush (pc := 21) d_L_law_21 rfl (by decide) ?_
      refine Tr.isub (pc := 23) d_L_law_23 ?_
      refine Tr.tp 0 rfl ?_
      refine Tr.icmp_gt (pc := 24) (tgt := 1004) d_L_law_24 rfl (fun _ => ?_) (fun hc => absurd (by decide) hc)
      refine Tr.iconst (pc := 1004) d_L_law_1004 (by decide) ?_
      exact Tr.zret (pc := 1005) d_L_law_1005 rfl (by decide) ⟨rfl, Fx_room hF⟩
    · refine Tr.iload_n (pc := 9) (i := 2) d_X11_letter_9 rfl rfl ?_
      refine Tr.if_lt (pc := 10) (tgt := 26) d_X11_letter_10 rfl (fun h3 => ?_) (fun h3 => ?_)
      · refine Tr.iconst (pc := 26) d_X11_letter_26 (by decide) ?_
        refine Tr.iret (pc := 27) d_X11_letter_27 rfl ?_
        refine Tr.sc [_] rfl ?_
        refine Tr.aload_n (pc := 324) (i := 2) d_L_law_324 rfl rfl ?_
        refine Tr.aload_n (pc := 325) (i := 0) d_L_law_325 rfl rfl ?_
        refine Tr.iload_n (pc := 326) (i := 3) d_L_law_326 rfl rfl ?_
        refine Tr.iconst (pc := 327) d_L_law_327 (by decide) ?_
        refine Tr.iadd (pc := 328) d_L_law_328 ?_
        refine Tr.tp 1 rfl ?_
        refine Tr.xld (pc := 329) (i := 0) d_L_law_329 rfl he (by decide) (by decide) ?_
        refine Tr.tp a1 g1 ?_
        refine Tr.aload_n (pc := 330) (i := 0) d_L_law_330 rfl rfl ?_
        refine Tr.iload_n (pc := 331) (i := 3) d_L_law_331 rfl rfl ?_
        refine Tr.iconst (pc := 332) d_L_law_332 (by decide) ?_
        refine Tr.iadd (pc := 333) d_L_law_333 ?_
        refine Tr.tp 2 rfl ?_
        refine Tr.xld (pc := 334) (i := 0) d_L_law_334 rfl he (by decide) (by decide) ?_
        refine Tr.tp a2 g2 ?_
        refine Tr.aload_n (pc := 335) (i := 0) d_L_law_335 rfl rfl ?_
        refine Tr.iload_n (pc := 336) (i := 3) d_L_law_336 rfl rfl ?_
        refine Tr.iconst (pc := 337) d_L_law_337 (by decide) ?_
        refine Tr.iadd (pc := 338) d_L_law_338 ?_
        refine Tr.tp 3 rfl ?_
        refine Tr.xld (pc := 339) (i := 0) d_L_law_339 rfl he (by decide) (by decide) ?_
        refine Tr.tp a3 g3 ?_
        refine Tr.callV (pc := 340) (as := [_, _, _]) d_L_law_340 s_13_41 ok_X12_letter rfl rfl (Nat.le_of_ble_eq_true rfl) (Nat.le_of_ble_eq_true rfl) (by decide) (ty_120 hF) ?_
        refine Tr.lc [(0, (2, 120)), (1, (0, _)), (2, (0, _)), (3, (0, _))] rfl ?_
        refine Tr.iload_n (pc := 0) (i := 1) d_X12_letter_0 rfl rfl ?_
        refine Tr.if_ne (pc := 1) (tgt := 31) d_X12_letter_1 rfl (fun h4 => ?_) (fun h4 => ?_)
        · refine Tr.iload_n (pc := 31) (i := 1) d_X12_letter_31 rfl rfl ?_
          refine Tr.iconst (pc := 32) d_X12_letter_32 (by decide) ?_
          refine Tr.icmp_ne (pc := 33) (tgt := 62) d_X12_letter_33 rfl (fun h5 => ?_) (fun h5 => ?_)
          · refine Tr.iload_n (pc := 62) (i := 1) d_X12_letter_62 rfl rfl ?_
            refine Tr.iconst (pc := 63) d_X12_letter_63 (by decide) ?_
            refine Tr.icmp_ne (pc := 64) (tgt := 105) d_X12_letter_64 rfl (fun h6 => ?_) (fun h6 => ?_)
            · refine Tr.iconst (pc := 105) d_X12_letter_105 (by decide) ?_
              refine Tr.iret (pc := 106) d_X12_letter_106 rfl ?_
              refine Tr.sc [_, _] rfl ?_
              refine Tr.icmp_eq (pc := 343) (tgt := 998) d_L_law_343 rfl (fun _ => ?_) (fun hc => absurd (by decide) hc)
              refine Tr.iinc (pc := 998) (ls2 := [(3, (0, 6)), (2, (2, 120)), (1, (2, 0)), (0, (2, (-2)))]) d_L_law_998 rfl (by decide) rfl ?_
              refine Tr.goto (pc := 1001) (tgt := 18) d_L_law_1001 rfl ?_
              refine Tr.iload_n (pc := 18) (i := 3) d_L_law_18 rfl rfl ?_
              refine Tr.aload_n (pc := 19) (i := 0) d_L_law_19 rfl rfl ?_
              refine Tr.xlen (pc := 20) (i := 0) d_L_law_20 rfl he (by decide) ?_
              refine Tr.tp 6 rfl ?_
              refine Tr.bipush (pc := 21) d_L_law_21 rfl (by decide) ?_
              refine Tr.isub (pc := 23) d_L_law_23 ?_
              refine Tr.tp 0 rfl ?_
              refine Tr.icmp_gt (pc := 24) (tgt := 1004) d_L_law_24 rfl (fun _ => ?_) (fun hc => absurd (by decide) hc)
              refine Tr.iconst (pc := 1004) d_L_law_1004 (by decide) ?_
              exact Tr.zret (pc := 1005) d_L_law_1005 rfl (by decide) ⟨rfl, Fx_room hF⟩
            · subst h6
              refine Tr.iload_n (pc := 67) (i := 2) d_X12_letter_67 rfl rfl ?_
              refine Tr.iconst (pc := 68) d_X12_letter_68 (by decide) ?_
              refine Tr.aload_n (pc := 69) (i := 0) d_X12_letter_69 rfl rfl ?_
              refine Tr.getf (pc := 70) d_X12_letter_70 f_12_69 (by decide) (by decide) (ty_120 hF) ?_
              refine Tr.tp 128 (fx_120_19 hF) ?_
              refine Tr.aload_n (pc := 73) (i := 0) d_X12_letter_73 rfl rfl ?_
              refine Tr.getf (pc := 74) d_X12_letter_74 f_12_48 (by decide) (by decide) (ty_120 hF) ?_
              refine Tr.tp 0 (b_120_12) ?_
              refine Tr.iald (pc := 77) d_X12_letter_77 (ty_128 hF) (by decide) (by decide) ?_
              refine Tr.tp 0 (b_128_0) ?_
              refine Tr.iconst (pc := 78) d_X12_letter_78 (by decide) ?_
              refine Tr.isub (pc := 79) d_X12_letter_79 ?_
              refine Tr.tp (-1) rfl ?_
              refine Tr.callS (pc := 80) (as := [_, _, _]) d_X12_letter_80 s_12_467 ok_X12_is rfl rfl (Nat.le_of_ble_eq_true rfl) (Nat.le_of_ble_eq_true rfl) ?_
              refine Tr.lc [(0, (0, _)), (1, (0, 0)), (2, (0, (-1)))] rfl ?_
              refine Tr.iload_n (pc := 0) (i := 0) d_X12_is_0 rfl rfl ?_
              refine Tr.iload_n (pc := 1) (i := 1) d_X12_is_1 rfl rfl ?_
              refine Tr.icmp_lt (pc := 2) (tgt := 14) d_X12_is_2 rfl (fun _ => ?_) (fun hc => absurd (by omega) hc)
              refine Tr.iconst (pc := 14) d_X12_is_14 (by decide) ?_
              refine Tr.zret (pc := 15) d_X12_is_15 rfl (by decide) ?_
              refine Tr.sc [_] rfl ?_
              refine Tr.if_eq (pc := 83) (tgt := 105) d_X12_letter_83 rfl (fun _ => ?_) (fun hc => absurd (by decide) hc)
              refine Tr.iconst (pc := 105) d_X12_letter_105 (by decide) ?_
              refine Tr.iret (pc := 106) d_X12_letter_106 rfl ?_
              refine Tr.sc [_, _] rfl ?_
              refine Tr.icmp_eq (pc := 343) (tgt := 998) d_L_law_343 rfl (fun _ => ?_) (fun hc => absurd (by decide) hc)
              refine Tr.iinc (pc := 998) (ls2 := [(3, (0, 6)), (2, (2, 120)), (1, (2, 0)), (0, (2, (-2)))]) d_L_law_998 rfl (by decide) rfl ?_
              refine Tr.goto (pc := 1001) (tgt := 18) d_L_law_1001 rfl ?_
              refine Tr.iload_n (pc := 18) (i := 3) d_L_law_18 rfl rfl ?_
              refine Tr.aload_n (pc := 19) (i := 0) d_L_law_19 rfl rfl ?_
              refine Tr.xlen (pc := 20) (i := 0) d_L_law_20 rfl he (by decide) ?_
              refine Tr.tp 6 rfl ?_
              refine Tr.bipush (pc := 21) d_L_law_21 rfl (by decide) ?_
              refine Tr.isub (pc := 23) d_L_law_23 ?_
              refine Tr.tp 0 rfl ?_
              refine Tr.icmp_gt (pc := 24) (tgt := 1004) d_L_law_24 rfl (fun _ => ?_) (fun hc => absurd (by decide) hc)
              refine Tr.iconst (pc := 1004) d_L_law_1004 (by decide) ?_
              exact Tr.zret (pc := 1005) d_L_law_1005 rfl (by decide) ⟨rfl, Fx_room hF⟩
          · subst h5
            refine Tr.aload_n (pc := 36) (i := 0) d_X12_letter_36 rfl rfl ?_
            refine Tr.iload_n (pc := 37) (i := 2) d_X12_letter_37 rfl rfl ?_
            refine Tr.callV (pc := 38) (as := [_]) d_X12_letter_38 s_12_562 ok_X12_isInput rfl rfl (Nat.le_of_ble_eq_true rfl) (Nat.le_of_ble_eq_true rfl) (by decide) (ty_120 hF) ?_
            refine Tr.lc [(0, (2, 120)), (1, (0, _))] rfl ?_
            refine Tr.iload_n (pc := 0) (i := 1) d_X12_isInput_0 rfl rfl ?_
            refine Tr.iconst (pc := 1) d_X12_isInput_1 (by decide) ?_
            refine Tr.aload_n (pc := 2) (i := 0) d_X12_isInput_2 rfl rfl ?_
            refine Tr.getf (pc := 3) d_X12_isInput_3 f_12_66 (by decide) (by decide) (ty_120 hF) ?_
            refine Tr.tp 127 (fx_120_18 hF) ?_
            refine Tr.aload_n (pc := 6) (i := 0) d_X12_isInput_6 rfl rfl ?_
            refine Tr.getf (pc := 7) d_X12_isInput_7 f_12_48 (by decide) (by decide) (ty_120 hF) ?_
            refine Tr.tp 0 (b_120_12) ?_
            refine Tr.iald (pc := 10) d_X12_isInput_10 (ty_127 hF) (by decide) (by decide) ?_
            refine Tr.tp 0 (b_127_0) ?_
            refine Tr.iconst (pc := 11) d_X12_isInput_11 (by decide) ?_
            refine Tr.isub (pc := 12) d_X12_isInput_12 ?_
            refine Tr.tp (-1) rfl ?_
            refine Tr.callS (pc := 13) (as := [_, _, _]) d_X12_isInput_13 s_12_467 ok_X12_is rfl rfl (Nat.le_of_ble_eq_true rfl) (Nat.le_of_ble_eq_true rfl) ?_
            refine Tr.lc [(0, (0, _)), (1, (0, 0)), (2, (0, (-1)))] rfl ?_
            refine Tr.iload_n (pc := 0) (i := 0) d_X12_is_0 rfl rfl ?_
            refine Tr.iload_n (pc := 1) (i := 1) d_X12_is_1 rfl rfl ?_
            refine Tr.icmp_lt (pc := 2) (tgt := 14) d_X12_is_2 rfl (fun _ => ?_) (fun hc => absurd (by omega) hc)
            refine Tr.iconst (pc := 14) d_X12_is_14 (by decide) ?_
            refine Tr.zret (pc := 15) d_X12_is_15 rfl (by decide) ?_
            refine Tr.sc [_] rfl ?_
            refine Tr.zret (pc := 16) d_X12_isInput_16 rfl (by decide) ?_
            refine Tr.sc [_] rfl ?_
            refine Tr.if_eq (pc := 41) (tgt := 62) d_X12_letter_41 rfl (fun _ => ?_) (fun hc => absurd (by decide) hc)
            refine Tr.iload_n (pc := 62) (i := 1) d_X12_letter_62 rfl rfl ?_
            refine Tr.iconst (pc := 63) d_X12_letter_63 (by decide) ?_
            refine Tr.icmp_ne (pc := 64) (tgt := 105) d_X12_letter_64 rfl (fun _ => ?_) (fun hc => absurd hc (by decide))
            refine Tr.iconst (pc := 105) d_X12_letter_105 (by decide) ?_
            refine Tr.iret (pc := 106) d_X12_letter_106 rfl ?_
            refine Tr.sc [_, _] rfl ?_
            refine Tr.icmp_eq (pc := 343) (tgt := 998) d_L_law_343 rfl (fun _ => ?_) (fun hc => absurd (by decide) hc)
            refine Tr.iinc (pc := 998) (ls2 := [(3, (0, 6)), (2, (2, 120)), (1, (2, 0)), (0, (2, (-2)))]) d_L_law_998 rfl (by decide) rfl ?_
            refine Tr.goto (pc := 1001) (tgt := 18) d_L_law_1001 rfl ?_
            refine Tr.iload_n (pc := 18) (i := 3) d_L_law_18 rfl rfl ?_
            refine Tr.aload_n (pc := 19) (i := 0) d_L_law_19 rfl rfl ?_
            refine Tr.xlen (pc := 20) (i := 0) d_L_law_20 rfl he (by decide) ?_
            refine Tr.tp 6 rfl ?_
            refine Tr.bipush (pc := 21) d_L_law_21 rfl (by decide) ?_
            refine Tr.isub (pc := 23) d_L_law_23 ?_
            refine Tr.tp 0 rfl ?_
            refine Tr.icmp_gt (pc := 24) (tgt := 1004) d_L_law_24 rfl (fun _ => ?_) (fun hc => absurd (by decide) hc)
            refine Tr.iconst (pc := 1004) d_L_law_1004 (by decide) ?_
            exact Tr.zret (pc := 1005) d_L_law_1005 rfl (by decide) ⟨rfl, Fx_room hF⟩
        · subst h4
          refine Tr.aload_n (pc := 4) (i := 0) d_X12_letter_4 rfl rfl ?_
          refine Tr.iload_n (pc := 5) (i := 2) d_X12_letter_5 rfl rfl ?_
          refine Tr.callV (pc := 6) (as := [_]) d_X12_letter_6 s_12_555 ok_X12_isPart rfl rfl (Nat.le_of_ble_eq_true rfl) (Nat.le_of_ble_eq_true rfl) (by decide) (ty_120 hF) ?_
          refine Tr.lc [(0, (2, 120)), (1, (0, _))] rfl ?_
          refine Tr.iload_n (pc := 0) (i := 1) d_X12_isPart_0 rfl rfl ?_
          refine Tr.iconst (pc := 1) d_X12_isPart_1 (by decide) ?_
          refine Tr.aload_n (pc := 2) (i := 0) d_X12_isPart_2 rfl rfl ?_
          refine Tr.getf (pc := 3) d_X12_isPart_3 f_12_63 (by decide) (by decide) (ty_120 hF) ?_
          refine Tr.tp 126 (fx_120_17 hF) ?_
          refine Tr.aload_n (pc := 6) (i := 0) d_X12_isPart_6 rfl rfl ?_
          refine Tr.getf (pc := 7) d_X12_isPart_7 f_12_48 (by decide) (by decide) (ty_120 hF) ?_
          refine Tr.tp 0 (b_120_12) ?_
          refine Tr.iald (pc := 10) d_X12_isPart_10 (ty_126 hF) (by decide) (by decide) ?_
          refine Tr.tp 0 (b_126_0) ?_
          refine Tr.iconst (pc := 11) d_X12_isPart_11 (by decide) ?_
          refine Tr.isub (pc := 12) d_X12_isPart_12 ?_
          refine Tr.tp (-1) rfl ?_
          refine Tr.callS (pc := 13) (as := [_, _, _]) d_X12_isPart_13 s_12_467 ok_X12_is rfl rfl (Nat.le_of_ble_eq_true rfl) (Nat.le_of_ble_eq_true rfl) ?_
          refine Tr.lc [(0, (0, _)), (1, (0, 0)), (2, (0, (-1)))] rfl ?_
          refine Tr.iload_n (pc := 0) (i := 0) d_X12_is_0 rfl rfl ?_
          refine Tr.iload_n (pc := 1) (i := 1) d_X12_is_1 rfl rfl ?_
          refine Tr.icmp_lt (pc := 2) (tgt := 14) d_X12_is_2 rfl (fun _ => ?_) (fun hc => absurd (by omega) hc)
          refine Tr.iconst (pc := 14) d_X12_is_14 (by decide) ?_
          refine Tr.zret (pc := 15) d_X12_is_15 rfl (by decide) ?_
          refine Tr.sc [_] rfl ?_
          refine Tr.zret (pc := 16) d_X12_isPart_16 rfl (by decide) ?_
          refine Tr.sc [_] rfl ?_
          refine Tr.if_eq (pc := 9) (tgt := 31) d_X12_letter_9 rfl (fun _ => ?_) (fun hc => absurd (by decide) hc)
          refine Tr.iload_n (pc := 31) (i := 1) d_X12_letter_31 rfl rfl ?_
          refine Tr.iconst (pc := 32) d_X12_letter_32 (by decide) ?_
          refine Tr.icmp_ne (pc := 33) (tgt := 62) d_X12_letter_33 rfl (fun _ => ?_) (fun hc => absurd hc (by decide))
          refine Tr.iload_n (pc := 62) (i := 1) d_X12_letter_62 rfl rfl ?_
          refine Tr.iconst (pc := 63) d_X12_letter_63 (by decide) ?_
          refine Tr.icmp_ne (pc := 64) (tgt := 105) d_X12_letter_64 rfl (fun _ => ?_) (fun hc => absurd hc (by decide))
          refine Tr.iconst (pc := 105) d_X12_letter_105 (by decide) ?_
          refine Tr.iret (pc := 106) d_X12_letter_106 rfl ?_
          refine Tr.sc [_, _] rfl ?_
          refine Tr.icmp_eq (pc := 343) (tgt := 998) d_L_law_343 rfl (fun _ => ?_) (fun hc => absurd (by decide) hc)
          refine Tr.iinc (pc := 998) (ls2 := [(3, (0, 6)), (2, (2, 120)), (1, (2, 0)), (0, (2, (-2)))]) d_L_law_998 rfl (by decide) rfl ?_
          refine Tr.goto (pc := 1001) (tgt := 18) d_L_law_1001 rfl ?_
          refine Tr.iload_n (pc := 18) (i := 3) d_L_law_18 rfl rfl ?_
          refine Tr.aload_n (pc := 19) (i := 0) d_L_law_19 rfl rfl ?_
          refine Tr.xlen (pc := 20) (i := 0) d_L_law_20 rfl he (by decide) ?_
          refine Tr.tp 6 rfl ?_
          refine Tr.bipush (pc := 21) d_L_law_21 rfl (by decide) ?_
          refine Tr.isub (pc := 23) d_L_law_23 ?_
          refine Tr.tp 0 rfl ?_
          refine Tr.icmp_gt (pc := 24) (tgt := 1004) d_L_law_24 rfl (fun _ => ?_) (fun hc => absurd (by decide) hc)
          refine Tr.iconst (pc := 1004) d_L_law_1004 (by decide) ?_
          exact Tr.zret (pc := 1005) d_L_law_1005 rfl (by decide) ⟨rfl, Fx_room hF⟩
      · refine Tr.iload_n (pc := 13) (i := 2) d_X11_letter_13 rfl rfl ?_
        refine Tr.aload_n (pc := 14) (i := 0) d_X11_letter_14 rfl rfl ?_
        refine Tr.getf (pc := 15) d_X11_letter_15 f_11_30 (by decide) (by decide) (ty_0 hF) ?_
        refine Tr.tp 7 (b_0_4) ?_
        refine Tr.getf (pc := 18) d_X11_letter_18 f_11_130 (by decide) (by decide) (ty_7 hF) ?_
        refine Tr.tp 8 (fx_7_4 hF) ?_
        refine Tr.iload_n (pc := 21) (i := 1) d_X11_letter_21 rfl rfl ?_
        rcases (show a1 = 0 ∨ a1 = 1 ∨ a1 = 2 by omega) with rfl | rfl | rfl
        · refine Tr.iald (pc := 22) d_X11_letter_22 (ty_8 hF) (by decide) (by decide) ?_
          refine Tr.tp 0 (b_8_0) ?_
          refine Tr.icmp_lt (pc := 23) (tgt := 28) d_X11_letter_23 rfl (fun hc => absurd hc (by omega)) (fun _ => ?_)
          refine Tr.iconst (pc := 26) d_X11_letter_26 (by decide) ?_
          refine Tr.iret (pc := 27) d_X11_letter_27 rfl ?_
          refine Tr.sc [_] rfl ?_
          refine Tr.aload_n (pc := 324) (i := 2) d_L_law_324 rfl rfl ?_
          refine Tr.aload_n (pc := 325) (i := 0) d_L_law_325 rfl rfl ?_
          refine Tr.iload_n (pc := 326) (i := 3) d_L_law_326 rfl rfl ?_
          refine Tr.iconst (pc := 327) d_L_law_327 (by decide) ?_
          refine Tr.iadd (pc := 328) d_L_law_328 ?_
          refine Tr.tp 1 rfl ?_
          refine Tr.xld (pc := 329) (i := 0) d_L_law_329 rfl he (by decide) (by decide) ?_
          refine Tr.tp 0 g1 ?_
          refine Tr.aload_n (pc := 330) (i := 0) d_L_law_330 rfl rfl ?_
          refine Tr.iload_n (pc := 331) (i := 3) d_L_law_331 rfl rfl ?_
          refine Tr.iconst (pc := 332) d_L_law_332 (by decide) ?_
          refine Tr.iadd (pc := 333) d_L_law_333 ?_
          refine Tr.tp 2 rfl ?_
          refine Tr.xld (pc := 334) (i := 0) d_L_law_334 rfl he (by decide) (by decide) ?_
          refine Tr.tp a2 g2 ?_
          refine Tr.aload_n (pc := 335) (i := 0) d_L_law_335 rfl rfl ?_
          refine Tr.iload_n (pc := 336) (i := 3) d_L_law_336 rfl rfl ?_
          refine Tr.iconst (pc := 337) d_L_law_337 (by decide) ?_
          refine Tr.iadd (pc := 338) d_L_law_338 ?_
          refine Tr.tp 3 rfl ?_
          refine Tr.xld (pc := 339) (i := 0) d_L_law_339 rfl he (by decide) (by decide) ?_
          refine Tr.tp a3 g3 ?_
          refine Tr.callV (pc := 340) (as := [_, _, _]) d_L_law_340 s_13_41 ok_X12_letter rfl rfl (Nat.le_of_ble_eq_true rfl) (Nat.le_of_ble_eq_true rfl) (by decide) (ty_120 hF) ?_
          refine Tr.lc [(0, (2, 120)), (1, (0, 0)), (2, (0, _)), (3, (0, _))] rfl ?_
          refine Tr.iload_n (pc := 0) (i := 1) d_X12_letter_0 rfl rfl ?_
          refine Tr.if_ne (pc := 1) (tgt := 31) d_X12_letter_1 rfl (fun hc => absurd (by decide) hc) (fun _ => ?_)
          refine Tr.aload_n (pc := 4) (i := 0) d_X12_letter_4 rfl rfl ?_
          refine Tr.iload_n (pc := 5) (i := 2) d_X12_letter_5 rfl rfl ?_
          refine Tr.callV (pc := 6) (as := [_]) d_X12_letter_6 s_12_555 ok_X12_isPart rfl rfl (Nat.le_of_ble_eq_true rfl) (Nat.le_of_ble_eq_true rfl) (by decide) (ty_120 hF) ?_
          refine Tr.lc [(0, (2, 120)), (1, (0, _))] rfl ?_
          refine Tr.iload_n (pc := 0) (i := 1) d_X12_isPart_0 rfl rfl ?_
          refine Tr.iconst (pc := 1) d_X12_isPart_1 (by decide) ?_
          refine Tr.aload_n (pc := 2) (i := 0) d_X12_isPart_2 rfl rfl ?_
          refine Tr.getf (pc := 3) d_X12_isPart_3 f_12_63 (by decide) (by decide) (ty_120 hF) ?_
          refine Tr.tp 126 (fx_120_17 hF) ?_
          refine Tr.aload_n (pc := 6) (i := 0) d_X12_isPart_6 rfl rfl ?_
          refine Tr.getf (pc := 7) d_X12_isPart_7 f_12_48 (by decide) (by decide) (ty_120 hF) ?_
          refine Tr.tp 0 (b_120_12) ?_
          refine Tr.iald (pc := 10) d_X12_isPart_10 (ty_126 hF) (by decide) (by decide) ?_
          refine Tr.tp 0 (b_126_0) ?_
          refine Tr.iconst (pc := 11) d_X12_isPart_11 (by decide) ?_
          refine Tr.isub (pc := 12) d_X12_isPart_12 ?_
          refine Tr.tp (-1) rfl ?_
          refine Tr.callS (pc := 13) (as := [_, _, _]) d_X12_isPart_13 s_12_467 ok_X12_is rfl rfl (Nat.le_of_ble_eq_true rfl) (Nat.le_of_ble_eq_true rfl) ?_
          refine Tr.lc [(0, (0, _)), (1, (0, 0)), (2, (0, (-1)))] rfl ?_
          refine Tr.iload_n (pc := 0) (i := 0) d_X12_is_0 rfl rfl ?_
          refine Tr.iload_n (pc := 1) (i := 1) d_X12_is_1 rfl rfl ?_
          refine Tr.icmp_lt (pc := 2) (tgt := 14) d_X12_is_2 rfl (fun hc => absurd hc (by omega)) (fun _ => ?_)
          refine Tr.iload_n (pc := 5) (i := 0) d_X12_is_5 rfl rfl ?_
          refine Tr.iload_n (pc := 6) (i := 2) d_X12_is_6 rfl rfl ?_
          refine Tr.icmp_gt (pc := 7) (tgt := 14) d_X12_is_7 rfl (fun _ => ?_) (fun hc => absurd (by omega) hc)
          refine Tr.iconst (pc := 14) d_X12_is_14 (by decide) ?_
          refine Tr.zret (pc := 15) d_X12_is_15 rfl (by decide) ?_
          refine Tr.sc [_] rfl ?_
          refine Tr.zret (pc := 16) d_X12_isPart_16 rfl (by decide) ?_
          refine Tr.sc [_] rfl ?_
          refine Tr.if_eq (pc := 9) (tgt := 31) d_X12_letter_9 rfl (fun _ => ?_) (fun hc => absurd (by decide) hc)
          refine Tr.iload_n (pc := 31) (i := 1) d_X12_letter_31 rfl rfl ?_
          refine Tr.iconst (pc := 32) d_X12_letter_32 (by decide) ?_
          refine Tr.icmp_ne (pc := 33) (tgt := 62) d_X12_letter_33 rfl (fun _ => ?_) (fun hc => absurd hc (by decide))
          refine Tr.iload_n (pc := 62) (i := 1) d_X12_letter_62 rfl rfl ?_
          refine Tr.iconst (pc := 63) d_X12_letter_63 (by decide) ?_
          refine Tr.icmp_ne (pc := 64) (tgt := 105) d_X12_letter_64 rfl (fun _ => ?_) (fun hc => absurd hc (by decide))
          refine Tr.iconst (pc := 105) d_X12_letter_105 (by decide) ?_
          refine Tr.iret (pc := 106) d_X12_letter_106 rfl ?_
          refine Tr.sc [_, _] rfl ?_
          refine Tr.icmp_eq (pc := 343) (tgt := 998) d_L_law_343 rfl (fun _ => ?_) (fun hc => absurd (by decide) hc)
          refine Tr.iinc (pc := 998) (ls2 := [(3, (0, 6)), (2, (2, 120)), (1, (2, 0)), (0, (2, (-2)))]) d_L_law_998 rfl (by decide) rfl ?_
          refine Tr.goto (pc := 1001) (tgt := 18) d_L_law_1001 rfl ?_
          refine Tr.iload_n (pc := 18) (i := 3) d_L_law_18 rfl rfl ?_
          refine Tr.aload_n (pc := 19) (i := 0) d_L_law_19 rfl rfl ?_
          refine Tr.xlen (pc := 20) (i := 0) d_L_law_20 rfl he (by decide) ?_
          refine Tr.tp 6 rfl ?_
          refine Tr.bipush (pc := 21) d_L_law_21 rfl (by decide) ?_
          refine Tr.isub (pc := 23) d_L_law_23 ?_
          refine Tr.tp 0 rfl ?_
          refine Tr.icmp_gt (pc := 24) (tgt := 1004) d_L_law_24 rfl (fun _ => ?_) (fun hc => absurd (by decide) hc)
          refine Tr.iconst (pc := 1004) d_L_law_1004 (by decide) ?_
          exact Tr.zret (pc := 1005) d_L_law_1005 rfl (by decide) ⟨rfl, Fx_room hF⟩
        · refine Tr.iald (pc := 22) d_X11_letter_22 (ty_8 hF) (by decide) (by decide) ?_
          refine Tr.tp 0 (b_8_1) ?_
          refine Tr.icmp_lt (pc := 23) (tgt := 28) d_X11_letter_23 rfl (fun hc => absurd hc (by omega)) (fun _ => ?_)
          refine Tr.iconst (pc := 26) d_X11_letter_26 (by decide) ?_
          refine Tr.iret (pc := 27) d_X11_letter_27 rfl ?_
          refine Tr.sc [_] rfl ?_
          refine Tr.aload_n (pc := 324) (i := 2) d_L_law_324 rfl rfl ?_
          refine Tr.aload_n (pc := 325) (i := 0) d_L_law_325 rfl rfl ?_
          refine Tr.iload_n (pc := 326) (i := 3) d_L_law_326 rfl rfl ?_
          refine Tr.iconst (pc := 327) d_L_law_327 (by decide) ?_
          refine Tr.iadd (pc := 328) d_L_law_328 ?_
          refine Tr.tp 1 rfl ?_
          refine Tr.xld (pc := 329) (i := 0) d_L_law_329 rfl he (by decide) (by decide) ?_
          refine Tr.tp 1 g1 ?_
          refine Tr.aload_n (pc := 330) (i := 0) d_L_law_330 rfl rfl ?_
          refine Tr.iload_n (pc := 331) (i := 3) d_L_law_331 rfl rfl ?_
          refine Tr.iconst (pc := 332) d_L_law_332 (by decide) ?_
          refine Tr.iadd (pc := 333) d_L_law_333 ?_
          refine Tr.tp 2 rfl ?_
          refine Tr.xld (pc := 334) (i := 0) d_L_law_334 rfl he (by decide) (by decide) ?_
          refine Tr.tp a2 g2 ?_
          refine Tr.aload_n (pc := 335) (i := 0) d_L_law_335 rfl rfl ?_
          refine Tr.iload_n (pc := 336) (i := 3) d_L_law_336 rfl rfl ?_
          refine Tr.iconst (pc := 337) d_L_law_337 (by decide) ?_
          refine Tr.iadd (pc := 338) d_L_law_338 ?_
          refine Tr.tp 3 rfl ?_
          refine Tr.xld (pc := 339) (i := 0) d_L_law_339 rfl he (by decide) (by decide) ?_
          refine Tr.tp a3 g3 ?_
          refine Tr.callV (pc := 340) (as := [_, _, _]) d_L_law_340 s_13_41 ok_X12_letter rfl rfl (Nat.le_of_ble_eq_true rfl) (Nat.le_of_ble_eq_true rfl) (by decide) (ty_120 hF) ?_
          refine Tr.lc [(0, (2, 120)), (1, (0, 1)), (2, (0, _)), (3, (0, _))] rfl ?_
          refine Tr.iload_n (pc := 0) (i := 1) d_X12_letter_0 rfl rfl ?_
          refine Tr.if_ne (pc := 1) (tgt := 31) d_X12_letter_1 rfl (fun _ => ?_) (fun hc => absurd hc (by decide))
          refine Tr.iload_n (pc := 31) (i := 1) d_X12_letter_31 rfl rfl ?_
          refine Tr.iconst (pc := 32) d_X12_letter_32 (by decide) ?_
          refine Tr.icmp_ne (pc := 33) (tgt := 62) d_X12_letter_33 rfl (fun hc => absurd (by decide) hc) (fun _ => ?_)
          refine Tr.aload_n (pc := 36) (i := 0) d_X12_letter_36 rfl rfl ?_
          refine Tr.iload_n (pc := 37) (i := 2) d_X12_letter_37 rfl rfl ?_
          refine Tr.callV (pc := 38) (as := [_]) d_X12_letter_38 s_12_562 ok_X12_isInput rfl rfl (Nat.le_of_ble_eq_true rfl) (Nat.le_of_ble_eq_true rfl) (by decide) (ty_120 hF) ?_
          refine Tr.lc [(0, (2, 120)), (1, (0, _))] rfl ?_
          refine Tr.iload_n (pc := 0) (i := 1) d_X12_isInput_0 rfl rfl ?_
          refine Tr.iconst (pc := 1) d_X12_isInput_1 (by decide) ?_
          refine Tr.aload_n (pc := 2) (i := 0) d_X12_isInput_2 rfl rfl ?_
          refine Tr.getf (pc := 3) d_X12_isInput_3 f_12_66 (by decide) (by decide) (ty_120 hF) ?_
          refine Tr.tp 127 (fx_120_18 hF) ?_
          refine Tr.aload_n (pc := 6) (i := 0) d_X12_isInput_6 rfl rfl ?_
          refine Tr.getf (pc := 7) d_X12_isInput_7 f_12_48 (by decide) (by decide) (ty_120 hF) ?_
          refine Tr.tp 0 (b_120_12) ?_
          refine Tr.iald (pc := 10) d_X12_isInput_10 (ty_127 hF) (by decide) (by decide) ?_
          refine Tr.tp 0 (b_127_0) ?_
          refine Tr.iconst (pc := 11) d_X12_isInput_11 (by decide) ?_
          refine Tr.isub (pc := 12) d_X12_isInput_12 ?_
          refine Tr.tp (-1) rfl ?_
          refine Tr.callS (pc := 13) (as := [_, _, _]) d_X12_isInput_13 s_12_467 ok_X12_is rfl rfl (Nat.le_of_ble_eq_true rfl) (Nat.le_of_ble_eq_true rfl) ?_
          refine Tr.lc [(0, (0, _)), (1, (0, 0)), (2, (0, (-1)))] rfl ?_
          refine Tr.iload_n (pc := 0) (i := 0) d_X12_is_0 rfl rfl ?_
          refine Tr.iload_n (pc := 1) (i := 1) d_X12_is_1 rfl rfl ?_
          refine Tr.icmp_lt (pc := 2) (tgt := 14) d_X12_is_2 rfl (fun hc => absurd hc (by omega)) (fun _ => ?_)
          refine Tr.iload_n (pc := 5) (i := 0) d_X12_is_5 rfl rfl ?_
          refine Tr.iload_n (pc := 6) (i := 2) d_X12_is_6 rfl rfl ?_
          refine Tr.icmp_gt (pc := 7) (tgt := 14) d_X12_is_7 rfl (fun _ => ?_) (fun hc => absurd (by omega) hc)
          refine Tr.iconst (pc := 14) d_X12_is_14 (by decide) ?_
          refine Tr.zret (pc := 15) d_X12_is_15 rfl (by decide) ?_
          refine Tr.sc [_] rfl ?_
          refine Tr.zret (pc := 16) d_X12_isInput_16 rfl (by decide) ?_
          refine Tr.sc [_] rfl ?_
          refine Tr.if_eq (pc := 41) (tgt := 62) d_X12_letter_41 rfl (fun _ => ?_) (fun hc => absurd (by decide) hc)
          refine Tr.iload_n (pc := 62) (i := 1) d_X12_letter_62 rfl rfl ?_
          refine Tr.iconst (pc := 63) d_X12_letter_63 (by decide) ?_
          refine Tr.icmp_ne (pc := 64) (tgt := 105) d_X12_letter_64 rfl (fun _ => ?_) (fun hc => absurd hc (by decide))
          refine Tr.iconst (pc := 105) d_X12_letter_105 (by decide) ?_
          refine Tr.iret (pc := 106) d_X12_letter_106 rfl ?_
          refine Tr.sc [_, _] rfl ?_
          refine Tr.icmp_eq (pc := 343) (tgt := 998) d_L_law_343 rfl (fun _ => ?_) (fun hc => absurd (by decide) hc)
          refine Tr.iinc (pc := 998) (ls2 := [(3, (0, 6)), (2, (2, 120)), (1, (2, 0)), (0, (2, (-2)))]) d_L_law_998 rfl (by decide) rfl ?_
          refine Tr.goto (pc := 1001) (tgt := 18) d_L_law_1001 rfl ?_
          refine Tr.iload_n (pc := 18) (i := 3) d_L_law_18 rfl rfl ?_
          refine Tr.aload_n (pc := 19) (i := 0) d_L_law_19 rfl rfl ?_
          refine Tr.xlen (pc := 20) (i := 0) d_L_law_20 rfl he (by decide) ?_
          refine Tr.tp 6 rfl ?_
          refine Tr.bipush (pc := 21) d_L_law_21 rfl (by decide) ?_
          refine Tr.isub (pc := 23) d_L_law_23 ?_
          refine Tr.tp 0 rfl ?_
          refine Tr.icmp_gt (pc := 24) (tgt := 1004) d_L_law_24 rfl (fun _ => ?_) (fun hc => absurd (by decide) hc)
          refine Tr.iconst (pc := 1004) d_L_law_1004 (by decide) ?_
          exact Tr.zret (pc := 1005) d_L_law_1005 rfl (by decide) ⟨rfl, Fx_room hF⟩
        · refine Tr.iald (pc := 22) d_X11_letter_22 (ty_8 hF) (by decide) (by decide) ?_
          refine Tr.tp 0 (b_8_2) ?_
          refine Tr.icmp_lt (pc := 23) (tgt := 28) d_X11_letter_23 rfl (fun hc => absurd hc (by omega)) (fun _ => ?_)
          refine Tr.iconst (pc := 26) d_X11_letter_26 (by decide) ?_
          refine Tr.iret (pc := 27) d_X11_letter_27 rfl ?_
          refine Tr.sc [_] rfl ?_
          refine Tr.aload_n (pc := 324) (i := 2) d_L_law_324 rfl rfl ?_
          refine Tr.aload_n (pc := 325) (i := 0) d_L_law_325 rfl rfl ?_
          refine Tr.iload_n (pc := 326) (i := 3) d_L_law_326 rfl rfl ?_
          refine Tr.iconst (pc := 327) d_L_law_327 (by decide) ?_
          refine Tr.iadd (pc := 328) d_L_law_328 ?_
          refine Tr.tp 1 rfl ?_
          refine Tr.xld (pc := 329) (i := 0) d_L_law_329 rfl he (by decide) (by decide) ?_
          refine Tr.tp 2 g1 ?_
          refine Tr.aload_n (pc := 330) (i := 0) d_L_law_330 rfl rfl ?_
          refine Tr.iload_n (pc := 331) (i := 3) d_L_law_331 rfl rfl ?_
          refine Tr.iconst (pc := 332) d_L_law_332 (by decide) ?_
          refine Tr.iadd (pc := 333) d_L_law_333 ?_
          refine Tr.tp 2 rfl ?_
          refine Tr.xld (pc := 334) (i := 0) d_L_law_334 rfl he (by decide) (by decide) ?_
          refine Tr.tp a2 g2 ?_
          refine Tr.aload_n (pc := 335) (i := 0) d_L_law_335 rfl rfl ?_
          refine Tr.iload_n (pc := 336) (i := 3) d_L_law_336 rfl rfl ?_
          refine Tr.iconst (pc := 337) d_L_law_337 (by decide) ?_
          refine Tr.iadd (pc := 338) d_L_law_338 ?_
          refine Tr.tp 3 rfl ?_
          refine Tr.xld (pc := 339) (i := 0) d_L_law_339 rfl he (by decide) (by decide) ?_
          refine Tr.tp a3 g3 ?_
          refine Tr.callV (pc := 340) (as := [_, _, _]) d_L_law_340 s_13_41 ok_X12_letter rfl rfl (Nat.le_of_ble_eq_true rfl) (Nat.le_of_ble_eq_true rfl) (by decide) (ty_120 hF) ?_
          refine Tr.lc [(0, (2, 120)), (1, (0, 2)), (2, (0, _)), (3, (0, _))] rfl ?_
          refine Tr.iload_n (pc := 0) (i := 1) d_X12_letter_0 rfl rfl ?_
          refine Tr.if_ne (pc := 1) (tgt := 31) d_X12_letter_1 rfl (fun _ => ?_) (fun hc => absurd hc (by decide))
          refine Tr.iload_n (pc := 31) (i := 1) d_X12_letter_31 rfl rfl ?_
          refine Tr.iconst (pc := 32) d_X12_letter_32 (by decide) ?_
          refine Tr.icmp_ne (pc := 33) (tgt := 62) d_X12_letter_33 rfl (fun _ => ?_) (fun hc => absurd hc (by decide))
          refine Tr.iload_n (pc := 62) (i := 1) d_X12_letter_62 rfl rfl ?_
          refine Tr.iconst (pc := 63) d_X12_letter_63 (by decide) ?_
          refine Tr.icmp_ne (pc := 64) (tgt := 105) d_X12_letter_64 rfl (fun hc => absurd (by decide) hc) (fun _ => ?_)
          refine Tr.iload_n (pc := 67) (i := 2) d_X12_letter_67 rfl rfl ?_
          refine Tr.iconst (pc := 68) d_X12_letter_68 (by decide) ?_
          refine Tr.aload_n (pc := 69) (i := 0) d_X12_letter_69 rfl rfl ?_
          refine Tr.getf (pc := 70) d_X12_letter_70 f_12_69 (by decide) (by decide) (ty_120 hF) ?_
          refine Tr.tp 128 (fx_120_19 hF) ?_
          refine Tr.aload_n (pc := 73) (i := 0) d_X12_letter_73 rfl rfl ?_
          refine Tr.getf (pc := 74) d_X12_letter_74 f_12_48 (by decide) (by decide) (ty_120 hF) ?_
          refine Tr.tp 0 (b_120_12) ?_
          refine Tr.iald (pc := 77) d_X12_letter_77 (ty_128 hF) (by decide) (by decide) ?_
          refine Tr.tp 0 (b_128_0) ?_
          refine Tr.iconst (pc := 78) d_X12_letter_78 (by decide) ?_
          refine Tr.isub (pc := 79) d_X12_letter_79 ?_
          refine Tr.tp (-1) rfl ?_
          refine Tr.callS (pc := 80) (as := [_, _, _]) d_X12_letter_80 s_12_467 ok_X12_is rfl rfl (Nat.le_of_ble_eq_true rfl) (Nat.le_of_ble_eq_true rfl) ?_
          refine Tr.lc [(0, (0, _)), (1, (0, 0)), (2, (0, (-1)))] rfl ?_
          refine Tr.iload_n (pc := 0) (i := 0) d_X12_is_0 rfl rfl ?_
          refine Tr.iload_n (pc := 1) (i := 1) d_X12_is_1 rfl rfl ?_
          refine Tr.icmp_lt (pc := 2) (tgt := 14) d_X12_is_2 rfl (fun hc => absurd hc (by omega)) (fun _ => ?_)
          refine Tr.iload_n (pc := 5) (i := 0) d_X12_is_5 rfl rfl ?_
          refine Tr.iload_n (pc := 6) (i := 2) d_X12_is_6 rfl rfl ?_
          refine Tr.icmp_gt (pc := 7) (tgt := 14) d_X12_is_7 rfl (fun _ => ?_) (fun hc => absurd (by omega) hc)
          refine Tr.iconst (pc := 14) d_X12_is_14 (by decide) ?_
          refine Tr.zret (pc := 15) d_X12_is_15 rfl (by decide) ?_
          refine Tr.sc [_] rfl ?_
          refine Tr.if_eq (pc := 83) (tgt := 105) d_X12_letter_83 rfl (fun _ => ?_) (fun hc => absurd (by decide) hc)
          refine Tr.iconst (pc := 105) d_X12_letter_105 (by decide) ?_
          refine Tr.iret (pc := 106) d_X12_letter_106 rfl ?_
          refine Tr.sc [_, _] rfl ?_
          refine Tr.icmp_eq (pc := 343) (tgt := 998) d_L_law_343 rfl (fun _ => ?_) (fun hc => absurd (by decide) hc)
          refine Tr.iinc (pc := 998) (ls2 := [(3, (0, 6)), (2, (2, 120)), (1, (2, 0)), (0, (2, (-2)))]) d_L_law_998 rfl (by decide) rfl ?_
          refine Tr.goto (pc := 1001) (tgt := 18) d_L_law_1001 rfl ?_
          refine Tr.iload_n (pc := 18) (i := 3) d_L_law_18 rfl rfl ?_
          refine Tr.aload_n (pc := 19) (i := 0) d_L_law_19 rfl rfl ?_
          refine Tr.xlen (pc := 20) (i := 0) d_L_law_20 rfl he (by decide) ?_
          refine Tr.tp 6 rfl ?_
          refine Tr.bipush (pc := 21) d_L_law_21 rfl (by decide) ?_
          refine Tr.isub (pc := 23) d_L_law_23 ?_
          refine Tr.tp 0 rfl ?_
          refine Tr.icmp_gt (pc := 24) (tgt := 1004) d_L_law_24 rfl (fun _ => ?_) (fun hc => absurd (by decide) hc)
          refine Tr.iconst (pc := 1004) d_L_law_1004 (by decide) ?_
          exact Tr.zret (pc := 1005) d_L_law_1005 rfl (by decide) ⟨rfl, Fx_room hF⟩
set_option maxRecDepth 100000 in
set_option maxHeartbeats 4000000 in
theorem op_put {l : Launch} {K : EC} {f : Int → Int} (he : e_ext K 0 6 f) (hr : ∀ j, -2147483648 ≤ f j ∧ f j ≤ 2147483647) : Tr l K 20 mL_law 348 [(3, (0, 0)), (2, (2, 120)), (1, (2, 0)), (0, (2, -2))] [] C_461 (fun M' r => r = some (0, 1) ∧ M'.1 ≤ 600000 ∧ M'.2.1 ≤ room_1.slots) := by
  obtain ⟨a1, g1⟩ : ∃ a, f 1 = a := ⟨_, rfl⟩
  have r1 := hr 1
  rw [g1] at r1
  obtain ⟨a2, g2⟩ : ∃ a, f 2 = a := ⟨_, rfl⟩
  have r2 := hr 2
  rw [g2] at r2
  obtain ⟨a3, g3⟩ : ∃ a, f 3 = a := ⟨_, rfl⟩
  have r3 := hr 3
  rw [g3] at r3
  obtain ⟨a4, g4⟩ : ∃ a, f 4 = a := ⟨_, rfl⟩
  have r4 := hr 4
  rw [g4] at r4
  obtain ⟨a5, g5⟩ : ∃ a, f 5 = a := ⟨_, rfl⟩
  have r5 := hr 5
  rw [g5] at r5
  have hF := Fx_0
  refine Tr.aload_n (pc := 348) (i := 1) d_L_law_348 rfl rfl ?_
  refine Tr.aload_n (pc := 349) (i := 0) d_L_law_349 rfl rfl ?_
  refine Tr.iload_n (pc := 350) (i := 3) d_L_law_350 rfl rfl ?_
  refine Tr.iconst (pc := 351) d_L_law_351 (by decide) ?_
  refine Tr.iadd (pc := 352) d_L_law_352 ?_
  refine Tr.tp 1 rfl ?_
  refine Tr.xld (pc := 353) (i := 0) d_L_law_353 rfl he (by decide) (by decide) ?_
  refine Tr.tp a1 g1 ?_
  refine Tr.aload_n (pc := 354) (i := 0) d_L_law_354 rfl rfl ?_
  refine Tr.iload_n (pc := 355) (i := 3) d_L_law_355 rfl rfl ?_
  refine Tr.iconst (pc := 356) d_L_law_356 (by decide) ?_
  refine Tr.iadd (pc := 357) d_L_law_357 ?_
  refine Tr.tp 2 rfl ?_
  refine Tr.xld (pc := 358) (i := 0) d_L_law_358 rfl he (by decide) (by decide) ?_
  refine Tr.tp a2 g2 ?_
  refine Tr.callV (pc := 359) (as := [_, _]) d_L_law_359 s_13_42 ok_X11_put rfl rfl (Nat.le_of_ble_eq_true rfl) (Nat.le_of_ble_eq_true rfl) (by decide) (ty_0 hF) ?_
  refine Tr.lc [(0, (2, 0)), (1, (0, _)), (2, (0, _))] rfl ?_
  refine Tr.iload_n (pc := 0) (i := 1) d_X11_put_0 rfl rfl ?_
  refine Tr.if_lt (pc := 1) (tgt := 17) d_X11_put_1 rfl (fun h1 => ?_) (fun h1 => ?_)
  · refine Tr.iconst (pc := 17) d_X11_put_17 (by decide) ?_
    refine Tr.zret (pc := 18) d_X11_put_18 rfl (by decide) ?_
    refine Tr.sc [_] rfl ?_
    refine Tr.aload_n (pc := 362) (i := 2) d_L_law_362 rfl rfl ?_
    refine Tr.aload_n (pc := 363) (i := 0) d_L_law_363 rfl rfl ?_
    refine Tr.iload_n (pc := 364) (i := 3) d_L_law_364 rfl rfl ?_
    refine Tr.iconst (pc := 365) d_L_law_365 (by decide) ?_
    refine Tr.iadd (pc := 366) d_L_law_366 ?_
    refine Tr.tp 1 rfl ?_
    refine Tr.xld (pc := 367) (i := 0) d_L_law_367 rfl he (by decide) (by decide) ?_
    refine Tr.tp a1 g1 ?_
    refine Tr.aload_n (pc := 368) (i := 0) d_L_law_368 rfl rfl ?_
    refine Tr.iload_n (pc := 369) (i := 3) d_L_law_369 rfl rfl ?_
    refine Tr.iconst (pc := 370) d_L_law_370 (by decide) ?_
    refine Tr.iadd (pc := 371) d_L_law_371 ?_
    refine Tr.tp 2 rfl ?_
    refine Tr.xld (pc := 372) (i := 0) d_L_law_372 rfl he (by decide) (by decide) ?_
    refine Tr.tp a2 g2 ?_
    refine Tr.callV (pc := 373) (as := [_, _]) d_L_law_373 s_13_46 ok_X12_put_ rfl rfl (Nat.le_of_ble_eq_true rfl) (Nat.le_of_ble_eq_true rfl) (by decide) (ty_120 hF) ?_
    refine Tr.lc [(0, (2, 120)), (1, (0, _)), (2, (0, _))] rfl ?_
    refine Tr.aload_n (pc := 0) (i := 0) d_X12_put__0 rfl rfl ?_
    refine Tr.iload_n (pc := 1) (i := 1) d_X12_put__1 rfl rfl ?_
    refine Tr.callV (pc := 2) (as := [_]) d_X12_put__2 s_12_562 ok_X12_isInput rfl rfl (Nat.le_of_ble_eq_true rfl) (Nat.le_of_ble_eq_true rfl) (by decide) (ty_120 hF) ?_
    refine Tr.lc [(0, (2, 120)), (1, (0, _))] rfl ?_
    refine Tr.iload_n (pc := 0) (i := 1) d_X12_isInput_0 rfl rfl ?_
    refine Tr.iconst (pc := 1) d_X12_isInput_1 (by decide) ?_
    refine Tr.aload_n (pc := 2) (i := 0) d_X12_isInput_2 rfl rfl ?_
    refine Tr.getf (pc := 3) d_X12_isInput_3 f_12_66 (by decide) (by decide) (ty_120 hF) ?_
    refine Tr.tp 127 (fx_120_18 hF) ?_
    refine Tr.aload_n (pc := 6) (i := 0) d_X12_isInput_6 rfl rfl ?_
    refine Tr.getf (pc := 7) d_X12_isInput_7 f_12_48 (by decide) (by decide) (ty_120 hF) ?_
    refine Tr.tp 0 (b_120_12) ?_
    refine Tr.iald (pc := 10) d_X12_isInput_10 (ty_127 hF) (by decide) (by decide) ?_
    refine Tr.tp 0 (b_127_0) ?_
    refine Tr.iconst (pc := 11) d_X12_isInput_11 (by decide) ?_
    refine Tr.isub (pc := 12) d_X12_isInput_12 ?_
    refine Tr.tp (-1) rfl ?_
    refine Tr.callS (pc := 13) (as := [_, _, _]) d_X12_isInput_13 s_12_467 ok_X12_is rfl rfl (Nat.le_of_ble_eq_true rfl) (Nat.le_of_ble_eq_true rfl) ?_
    refine Tr.lc [(0, (0, _)), (1, (0, 0)), (2, (0, (-1)))] rfl ?_
    refine Tr.iload_n (pc := 0) (i := 0) d_X12_is_0 rfl rfl ?_
    refine Tr.iload_n (pc := 1) (i := 1) d_X12_is_1 rfl rfl ?_
    refine Tr.icmp_lt (pc := 2) (tgt := 14) d_X12_is_2 rfl (fun _ => ?_) (fun hc => absurd (by omega) hc)
    refine Tr.iconst (pc := 14) d_X12_is_14 (by decide) ?_
    refine Tr.zret (pc := 15) d_X12_is_15 rfl (by decide) ?_
    refine Tr.sc [_] rfl ?_
    refine Tr.zret (pc := 16) d_X12_isInput_16 rfl (by decide) ?_
    refine Tr.sc [_] rfl ?_
    refine Tr.if_eq (pc := 5) (tgt := 41) d_X12_put__5 rfl (fun _ => ?_) (fun hc => absurd (by decide) hc)
    refine Tr.iconst (pc := 41) d_X12_put__41 (by decide) ?_
    refine Tr.zret (pc := 42) d_X12_put__42 rfl (by decide) ?_
    refine Tr.sc [_, _] rfl ?_
    refine Tr.icmp_eq (pc := 376) (tgt := 998) d_L_law_376 rfl (fun _ => ?_) (fun hc => absurd (by decide) hc)
    refine Tr.iinc (pc := 998) (ls2 := [(3, (0, 6)), (2, (2, 120)), (1, (2, 0)), (0, (2, (-2)))]) d_L_law_998 rfl (by decide) rfl ?_
    refine Tr.goto (pc := 1001) (tgt := 18) d_L_law_1001 rfl ?_
    refine Tr.iload_n (pc := 18) (i := 3) d_L_law_18 rfl rfl ?_
    refine Tr.aload_n (pc := 19) (i := 0) d_L_law_19 rfl rfl ?_
    refine Tr.xlen (pc := 20) (i := 0) d_L_law_20 rfl he (by decide) ?_
    refine Tr.tp 6 rfl ?_
    refine Tr.bipush (pc := 21) d_L_law_21 rfl (by decide) ?_
    refine Tr.isub (pc := 23) d_L_law_23 ?_
    refine Tr.tp 0 rfl ?_
    refine Tr.icmp_gt (pc := 24) (tgt := 1004) d_L_law_24 rfl (fun _ => ?_) (fun hc => absurd (by decide) hc)
    refine Tr.iconst (pc := 1004) d_L_law_1004 (by decide) ?_
    exact Tr.zret (pc := 1005) d_L_law_1005 rfl (by decide) ⟨rfl, Fx_room hF⟩
  · refine Tr.iload_n (pc := 4) (i := 1) d_X11_put_4 rfl rfl ?_
    refine Tr.aload_n (pc := 5) (i := 0) d_X11_put_5 rfl rfl ?_
    refine Tr.getf (pc := 6) d_X11_put_6 f_11_30 (by decide) (by decide) (ty_0 hF) ?_
    refine Tr.tp 7 (b_0_4) ?_
    refine Tr.getf (pc := 9) d_X11_put_9 f_11_130 (by decide) (by decide) (ty_7 hF) ?_
    refine Tr.tp 8 (fx_7_4 hF) ?_
    refine Tr.iconst (pc := 12) d_X11_put_12 (by decide) ?_
    refine Tr.iald (pc := 13) d_X11_put_13 (ty_8 hF) (by decide) (by decide) ?_
    refine Tr.tp 0 (b_8_1) ?_
    refine Tr.icmp_lt (pc := 14) (tgt := 19) d_X11_put_14 rfl (fun hc => absurd hc (by omega)) (fun _ => ?_)
    refine Tr.iconst (pc := 17) d_X11_put_17 (by decide) ?_
    refine Tr.zret (pc := 18) d_X11_put_18 rfl (by decide) ?_
    refine Tr.sc [_] rfl ?_
    refine Tr.aload_n (pc := 362) (i := 2) d_L_law_362 rfl rfl ?_
    refine Tr.aload_n (pc := 363) (i := 0) d_L_law_363 rfl rfl ?_
    refine Tr.iload_n (pc := 364) (i := 3) d_L_law_364 rfl rfl ?_
    refine Tr.iconst (pc := 365) d_L_law_365 (by decide) ?_
    refine Tr.iadd (pc := 366) d_L_law_366 ?_
    refine Tr.tp 1 rfl ?_
    refine Tr.xld (pc := 367) (i := 0) d_L_law_367 rfl he (by decide) (by decide) ?_
    refine Tr.tp a1 g1 ?_
    refine Tr.aload_n (pc := 368) (i := 0) d_L_law_368 rfl rfl ?_
    refine Tr.iload_n (pc := 369) (i := 3) d_L_law_369 rfl rfl ?_
    refine Tr.iconst (pc := 370) d_L_law_370 (by decide) ?_
    refine Tr.iadd (pc := 371) d_L_law_371 ?_
    refine Tr.tp 2 rfl ?_
    refine Tr.xld (pc := 372) (i := 0) d_L_law_372 rfl he (by decide) (by decide) ?_
    refine Tr.tp a2 g2 ?_
    refine Tr.callV (pc := 373) (as := [_, _]) d_L_law_373 s_13_46 ok_X12_put_ rfl rfl (Nat.le_of_ble_eq_true rfl) (Nat.le_of_ble_eq_true rfl) (by decide) (ty_120 hF) ?_
    refine Tr.lc [(0, (2, 120)), (1, (0, _)), (2, (0, _))] rfl ?_
    refine Tr.aload_n (pc := 0) (i := 0) d_X12_put__0 rfl rfl ?_
    refine Tr.iload_n (pc := 1) (i := 1) d_X12_put__1 rfl rfl ?_
    refine Tr.callV (pc := 2) (as := [_]) d_X12_put__2 s_12_562 ok_X12_isInput rfl rfl (Nat.le_of_ble_eq_true rfl) (Nat.le_of_ble_eq_true rfl) (by decide) (ty_120 hF) ?_
    refine Tr.lc [(0, (2, 120)), (1, (0, _))] rfl ?_
    refine Tr.iload_n (pc := 0) (i := 1) d_X12_isInput_0 rfl rfl ?_
    refine Tr.iconst (pc := 1) d_X12_isInput_1 (by decide) ?_
    refine Tr.aload_n (pc := 2) (i := 0) d_X12_isInput_2 rfl rfl ?_
    refine Tr.getf (pc := 3) d_X12_isInput_3 f_12_66 (by decide) (by decide) (ty_120 hF) ?_
    refine Tr.tp 127 (fx_120_18 hF) ?_
    refine Tr.aload_n (pc := 6) (i := 0) d_X12_isInput_6 rfl rfl ?_
    refine Tr.getf (pc := 7) d_X12_isInput_7 f_12_48 (by decide) (by decide) (ty_120 hF) ?_
    refine Tr.tp 0 (b_120_12) ?_
    refine Tr.iald (pc := 10) d_X12_isInput_10 (ty_127 hF) (by decide) (by decide) ?_
    refine Tr.tp 0 (b_127_0) ?_
    refine Tr.iconst (pc := 11) d_X12_isInput_11 (by decide) ?_
    refine Tr.isub (pc := 12) d_X12_isInput_12 ?_
    refine Tr.tp (-1) rfl ?_
    refine Tr.callS (pc := 13) (as := [_, _, _]) d_X12_isInput_13 s_12_467 ok_X12_is rfl rfl (Nat.le_of_ble_eq_true rfl) (Nat.le_of_ble_eq_true rfl) ?_
    refine Tr.lc [(0, (0, _)), (1, (0, 0)), (2, (0, (-1)))] rfl ?_
    refine Tr.iload_n (pc := 0) (i := 0) d_X12_is_0 rfl rfl ?_
    refine Tr.iload_n (pc := 1) (i := 1) d_X12_is_1 rfl rfl ?_
    refine Tr.icmp_lt (pc := 2) (tgt := 14) d_X12_is_2 rfl (fun hc => absurd hc (by omega)) (fun _ => ?_)
    refine Tr.iload_n (pc := 5) (i := 0) d_X12_is_5 rfl rfl ?_
    refine Tr.iload_n (pc := 6) (i := 2) d_X12_is_6 rfl rfl ?_
    refine Tr.icmp_gt (pc := 7) (tgt := 14) d_X12_is_7 rfl (fun _ => ?_) (fun hc => absurd (by omega) hc)
    refine Tr.iconst (pc := 14) d_X12_is_14 (by decide) ?_
    refine Tr.zret (pc := 15) d_X12_is_15 rfl (by decide) ?_
    refine Tr.sc [_] rfl ?_
    refine Tr.zret (pc := 16) d_X12_isInput_16 rfl (by decide) ?_
    refine Tr.sc [_] rfl ?_
    refine Tr.if_eq (pc := 5) (tgt := 41) d_X12_put__5 rfl (fun _ => ?_) (fun hc => absurd (by decide) hc)
    refine Tr.iconst (pc := 41) d_X12_put__41 (by decide) ?_
    refine Tr.zret (pc := 42) d_X12_put__42 rfl (by decide) ?_
    refine Tr.sc [_, _] rfl ?_
    refine Tr.icmp_eq (pc := 376) (tgt := 998) d_L_law_376 rfl (fun _ => ?_) (fun hc => absurd (by decide) hc)
    refine Tr.iinc (pc := 998) (ls2 := [(3, (0, 6)), (2, (2, 120)), (1, (2, 0)), (0, (2, (-2)))]) d_L_law_998 rfl (by decide) rfl ?_
    refine Tr.goto (pc := 1001) (tgt := 18) d_L_law_1001 rfl ?_
    refine Tr.iload_n (pc := 18) (i := 3) d_L_law_18 rfl rfl ?_
    refine Tr.aload_n (pc := 19) (i := 0) d_L_law_19 rfl rfl ?_
    refine Tr.xlen (pc := 20) (i := 0) d_L_law_20 rfl he (by decide) ?_
    refine Tr.tp 6 rfl ?_
    refine Tr.bipush (pc := 21) d_L_law_21 rfl (by decide) ?_
    refine Tr.isub (pc := 23) d_L_law_23 ?_
    refine Tr.tp 0 rfl ?_
    refine Tr.icmp_gt (pc := 24) (tgt := 1004) d_L_law_24 rfl (fun _ => ?_) (fun hc => absurd (by decide) hc)
    refine Tr.iconst (pc := 1004) d_L_law_1004 (by decide) ?_
    exact Tr.zret (pc := 1005) d_L_law_1005 rfl (by decide) ⟨rfl, Fx_room hF⟩
set_option maxRecDepth 100000 in
set_option maxHeartbeats 4000000 in
theorem op_ran {l : Launch} {K : EC} {f : Int → Int} (he : e_ext K 0 6 f) (hr : ∀ j, -2147483648 ≤ f j ∧ f j ≤ 2147483647) : Tr l K 20 mL_law 404 [(3, (0, 0)), (2, (2, 120)), (1, (2, 0)), (0, (2, -2))] [] C_461 (fun M' r => r = some (0, 1) ∧ M'.1 ≤ 600000 ∧ M'.2.1 ≤ room_1.slots) := by
  obtain ⟨a1, g1⟩ : ∃ a, f 1 = a := ⟨_, rfl⟩
  have r1 := hr 1
  rw [g1] at r1
  obtain ⟨a2, g2⟩ : ∃ a, f 2 = a := ⟨_, rfl⟩
  have r2 := hr 2
  rw [g2] at r2
  obtain ⟨a3, g3⟩ : ∃ a, f 3 = a := ⟨_, rfl⟩
  have r3 := hr 3
  rw [g3] at r3
  obtain ⟨a4, g4⟩ : ∃ a, f 4 = a := ⟨_, rfl⟩
  have r4 := hr 4
  rw [g4] at r4
  obtain ⟨a5, g5⟩ : ∃ a, f 5 = a := ⟨_, rfl⟩
  have r5 := hr 5
  rw [g5] at r5
  have hF := Fx_0
  refine Tr.aload_n (pc := 404) (i := 1) d_L_law_404 rfl rfl ?_
  refine Tr.aload_n (pc := 405) (i := 0) d_L_law_405 rfl rfl ?_
  refine Tr.iload_n (pc := 406) (i := 3) d_L_law_406 rfl rfl ?_
  refine Tr.iconst (pc := 407) d_L_law_407 (by decide) ?_
  refine Tr.iadd (pc := 408) d_L_law_408 ?_
  refine Tr.tp 1 rfl ?_
  refine Tr.xld (pc := 409) (i := 0) d_L_law_409 rfl he (by decide) (by decide) ?_
  refine Tr.tp a1 g1 ?_
  refine Tr.callV (pc := 410) (as := [_]) d_L_law_410 s_13_51 ok_X11_ran rfl rfl (Nat.le_of_ble_eq_true rfl) (Nat.le_of_ble_eq_true rfl) (by decide) (ty_0 hF) ?_
  refine Tr.lc [(0, (2, 0)), (1, (0, _))] rfl ?_
  refine Tr.aload_n (pc := 0) (i := 0) d_X11_ran_0 rfl rfl ?_
  refine Tr.getz (pc := 1) d_X11_ran_1 f_11_109 (by decide) (ty_0 hF) ?_
  refine Tr.tp 0 (b_0_9) ?_
  refine Tr.if_ne (pc := 4) (tgt := 9) d_X11_ran_4 rfl (fun hc => absurd (by decide) hc) (fun _ => ?_)
  refine Tr.iconst (pc := 7) d_X11_ran_7 (by decide) ?_
  refine Tr.iret (pc := 8) d_X11_ran_8 rfl ?_
  refine Tr.sc [_] rfl ?_
  refine Tr.aload_n (pc := 413) (i := 2) d_L_law_413 rfl rfl ?_
  refine Tr.aload_n (pc := 414) (i := 0) d_L_law_414 rfl rfl ?_
  refine Tr.iload_n (pc := 415) (i := 3) d_L_law_415 rfl rfl ?_
  refine Tr.iconst (pc := 416) d_L_law_416 (by decide) ?_
  refine Tr.iadd (pc := 417) d_L_law_417 ?_
  refine Tr.tp 1 rfl ?_
  refine Tr.xld (pc := 418) (i := 0) d_L_law_418 rfl he (by decide) (by decide) ?_
  refine Tr.tp a1 g1 ?_
  refine Tr.callV (pc := 419) (as := [_]) d_L_law_419 s_13_54 ok_X12_ran rfl rfl (Nat.le_of_ble_eq_true rfl) (Nat.le_of_ble_eq_true rfl) (by decide) (ty_120 hF) ?_
  refine Tr.lc [(0, (2, 120)), (1, (0, _))] rfl ?_
  refine Tr.aload_n (pc := 0) (i := 0) d_X12_ran_0 rfl rfl ?_
  refine Tr.getz (pc := 1) d_X12_ran_1 f_12_270 (by decide) (ty_120 hF) ?_
  refine Tr.tp 0 (b_120_85) ?_
  refine Tr.if_ne (pc := 4) (tgt := 9) d_X12_ran_4 rfl (fun hc => absurd (by decide) hc) (fun _ => ?_)
  refine Tr.iconst (pc := 7) d_X12_ran_7 (by decide) ?_
  refine Tr.iret (pc := 8) d_X12_ran_8 rfl ?_
  refine Tr.sc [_, _] rfl ?_
  refine Tr.icmp_eq (pc := 422) (tgt := 998) d_L_law_422 rfl (fun _ => ?_) (fun hc => absurd (by decide) hc)
  refine Tr.iinc (pc := 998) (ls2 := [(3, (0, 6)), (2, (2, 120)), (1, (2, 0)), (0, (2, (-2)))]) d_L_law_998 rfl (by decide) rfl ?_
  refine Tr.goto (pc := 1001) (tgt := 18) d_L_law_1001 rfl ?_
  refine Tr.iload_n (pc := 18) (i := 3) d_L_law_18 rfl rfl ?_
  refine Tr.aload_n (pc := 19) (i := 0) d_L_law_19 rfl rfl ?_
  refine Tr.xlen (pc := 20) (i := 0) d_L_law_20 rfl he (by decide) ?_
  refine Tr.tp 6 rfl ?_
  refine Tr.bipush (pc := 21) d_L_law_21 rfl (by decide) ?_
  refine Tr.isub (pc := 23) d_L_law_23 ?_
  refine Tr.tp 0 rfl ?_
  refine Tr.icmp_gt (pc := 24) (tgt := 1004) d_L_law_24 rfl (fun _ => ?_) (fun hc => absurd (by decide) hc)
  refine Tr.iconst (pc := 1004) d_L_law_1004 (by decide) ?_
  exact Tr.zret (pc := 1005) d_L_law_1005 rfl (by decide) ⟨rfl, Fx_room hF⟩
set_option maxRecDepth 100000 in
set_option maxHeartbeats 4000000 in
theorem op_value {l : Launch} {K : EC} {f : Int → Int} (he : e_ext K 0 6 f) (hr : ∀ j, -2147483648 ≤ f j ∧ f j ≤ 2147483647) : Tr l K 20 mL_law 427 [(3, (0, 0)), (2, (2, 120)), (1, (2, 0)), (0, (2, -2))] [] C_461 (fun M' r => r = some (0, 1) ∧ M'.1 ≤ 600000 ∧ M'.2.1 ≤ room_1.slots) := by
  obtain ⟨a1, g1⟩ : ∃ a, f 1 = a := ⟨_, rfl⟩
  have r1 := hr 1
  rw [g1] at r1
  obtain ⟨a2, g2⟩ : ∃ a, f 2 = a := ⟨_, rfl⟩
  have r2 := hr 2
  rw [g2] at r2
  obtain ⟨a3, g3⟩ : ∃ a, f 3 = a := ⟨_, rfl⟩
  have r3 := hr 3
  rw [g3] at r3
  obtain ⟨a4, g4⟩ : ∃ a, f 4 = a := ⟨_, rfl⟩
  have r4 := hr 4
  rw [g4] at r4
  obtain ⟨a5, g5⟩ : ∃ a, f 5 = a := ⟨_, rfl⟩
  have r5 := hr 5
  rw [g5] at r5
  have hF := Fx_0
  refine Tr.aload_n (pc := 427) (i := 1) d_L_law_427 rfl rfl ?_
  refine Tr.aload_n (pc := 428) (i := 0) d_L_law_428 rfl rfl ?_
  refine Tr.iload_n (pc := 429) (i := 3) d_L_law_429 rfl rfl ?_
  refine Tr.iconst (pc := 430) d_L_law_430 (by decide) ?_
  refine Tr.iadd (pc := 431) d_L_law_431 ?_
  refine Tr.tp 1 rfl ?_
  refine Tr.xld (pc := 432) (i := 0) d_L_law_432 rfl he (by decide) (by decide) ?_
  refine Tr.tp a1 g1 ?_
  refine Tr.callV (pc := 433) (as := [_]) d_L_law_433 s_13_55 ok_X11_value rfl rfl (Nat.le_of_ble_eq_true rfl) (Nat.le_of_ble_eq_true rfl) (by decide) (ty_0 hF) ?_
  refine Tr.lc [(0, (2, 0)), (1, (0, _))] rfl ?_
  refine Tr.aload_n (pc := 0) (i := 0) d_X11_value_0 rfl rfl ?_
  refine Tr.getz (pc := 1) d_X11_value_1 f_11_109 (by decide) (ty_0 hF) ?_
  refine Tr.tp 0 (b_0_9) ?_
  refine Tr.if_eq (pc := 4) (tgt := 24) d_X11_value_4 rfl (fun _ => ?_) (fun hc => absurd (by decide) hc)
  refine Tr.ldc (pc := 24) d_X11_value_24 k_11_170 (by decide) ?_
  refine Tr.iret (pc := 26) d_X11_value_26 rfl ?_
  refine Tr.sc [_] rfl ?_
  refine Tr.aload_n (pc := 436) (i := 2) d_L_law_436 rfl rfl ?_
  refine Tr.aload_n (pc := 437) (i := 0) d_L_law_437 rfl rfl ?_
  refine Tr.iload_n (pc := 438) (i := 3) d_L_law_438 rfl rfl ?_
  refine Tr.iconst (pc := 439) d_L_law_439 (by decide) ?_
  refine Tr.iadd (pc := 440) d_L_law_440 ?_
  refine Tr.tp 1 rfl ?_
  refine Tr.xld (pc := 441) (i := 0) d_L_law_441 rfl he (by decide) (by decide) ?_
  refine Tr.tp a1 g1 ?_
  refine Tr.callV (pc := 442) (as := [_]) d_L_law_442 s_13_58 ok_X12_value rfl rfl (Nat.le_of_ble_eq_true rfl) (Nat.le_of_ble_eq_true rfl) (by decide) (ty_120 hF) ?_
  refine Tr.lc [(0, (2, 120)), (1, (0, _))] rfl ?_
  refine Tr.aload_n (pc := 0) (i := 0) d_X12_value_0 rfl rfl ?_
  refine Tr.getz (pc := 1) d_X12_value_1 f_12_270 (by decide) (ty_120 hF) ?_
  refine Tr.tp 0 (b_120_85) ?_
  refine Tr.if_eq (pc := 4) (tgt := 35) d_X12_value_4 rfl (fun _ => ?_) (fun hc => absurd (by decide) hc)
  refine Tr.ldcw (pc := 35) d_X12_value_35 k_12_640 (by decide) ?_
  refine Tr.iret (pc := 38) d_X12_value_38 rfl ?_
  refine Tr.sc [_, _] rfl ?_
  refine Tr.icmp_eq (pc := 445) (tgt := 998) d_L_law_445 rfl (fun _ => ?_) (fun hc => absurd (by decide) hc)
  refine Tr.iinc (pc := 998) (ls2 := [(3, (0, 6)), (2, (2, 120)), (1, (2, 0)), (0, (2, (-2)))]) d_L_law_998 rfl (by decide) rfl ?_
  refine Tr.goto (pc := 1001) (tgt := 18) d_L_law_1001 rfl ?_
  refine Tr.iload_n (pc := 18) (i := 3) d_L_law_18 rfl rfl ?_
  refine Tr.aload_n (pc := 19) (i := 0) d_L_law_19 rfl rfl ?_
  refine Tr.xlen (pc := 20) (i := 0) d_L_law_20 rfl he (by decide) ?_
  refine Tr.tp 6 rfl ?_
  refine Tr.bipush (pc := 21) d_L_law_21 rfl (by decide) ?_
  refine Tr.isub (pc := 23) d_L_law_23 ?_
  refine Tr.tp 0 rfl ?_
  refine Tr.icmp_gt (pc := 24) (tgt := 1004) d_L_law_24 rfl (fun _ => ?_) (fun hc => absurd (by decide) hc)
  refine Tr.iconst (pc := 1004) d_L_law_1004 (by decide) ?_
  exact Tr.zret (pc := 1005) d_L_law_1005 rfl (by decide) ⟨rfl, Fx_room hF⟩
set_option maxRecDepth 100000 in
set_option maxHeartbeats 4000000 in
theorem op_spent {l : Launch} {K : EC} {f : Int → Int} (he : e_ext K 0 6 f) (hr : ∀ j, -2147483648 ≤ f j ∧ f j ≤ 2147483647) : Tr l K 20 mL_law 450 [(3, (0, 0)), (2, (2, 120)), (1, (2, 0)), (0, (2, -2))] [] C_461 (fun M' r => r = some (0, 1) ∧ M'.1 ≤ 600000 ∧ M'.2.1 ≤ room_1.slots) := by
  obtain ⟨a1, g1⟩ : ∃ a, f 1 = a := ⟨_, rfl⟩
  have r1 := hr 1
  rw [g1] at r1
  obtain ⟨a2, g2⟩ : ∃ a, f 2 = a := ⟨_, rfl⟩
  have r2 := hr 2
  rw [g2] at r2
  obtain ⟨a3, g3⟩ : ∃ a, f 3 = a := ⟨_, rfl⟩
  have r3 := hr 3
  rw [g3] at r3
  obtain ⟨a4, g4⟩ : ∃ a, f 4 = a := ⟨_, rfl⟩
  have r4 := hr 4
  rw [g4] at r4
  obtain ⟨a5, g5⟩ : ∃ a, f 5 = a := ⟨_, rfl⟩
  have r5 := hr 5
  rw [g5] at r5
  have hF := Fx_0
  refine Tr.aload_n (pc := 450) (i := 1) d_L_law_450 rfl rfl ?_
  refine Tr.aload_n (pc := 451) (i := 0) d_L_law_451 rfl rfl ?_
  refine Tr.iload_n (pc := 452) (i := 3) d_L_law_452 rfl rfl ?_
  refine Tr.iconst (pc := 453) d_L_law_453 (by decide) ?_
  refine Tr.iadd (pc := 454) d_L_law_454 ?_
  refine Tr.tp 1 rfl ?_
  refine Tr.xld (pc := 455) (i := 0) d_L_law_455 rfl he (by decide) (by decide) ?_
  refine Tr.tp a1 g1 ?_
  refine Tr.aload_n (pc := 456) (i := 0) d_L_law_456 rfl rfl ?_
  refine Tr.iload_n (pc := 457) (i := 3) d_L_law_457 rfl rfl ?_
  refine Tr.iconst (pc := 458) d_L_law_458 (by decide) ?_
  refine Tr.iadd (pc := 459) d_L_law_459 ?_
  refine Tr.tp 2 rfl ?_
  refine Tr.xld (pc := 460) (i := 0) d_L_law_460 rfl he (by decide) (by decide) ?_
  refine Tr.tp a2 g2 ?_
  refine Tr.callV (pc := 461) (as := [_, _]) d_L_law_461 s_13_59 ok_X11_spent rfl rfl (Nat.le_of_ble_eq_true rfl) (Nat.le_of_ble_eq_true rfl) (by decide) (ty_0 hF) ?_
  refine Tr.lc [(0, (2, 0)), (1, (0, _)), (2, (0, _))] rfl ?_
  refine Tr.aload_n (pc := 0) (i := 0) d_X11_spent_0 rfl rfl ?_
  refine Tr.getz (pc := 1) d_X11_spent_1 f_11_109 (by decide) (ty_0 hF) ?_
  refine Tr.tp 0 (b_0_9) ?_
  refine Tr.if_eq (pc := 4) (tgt := 24) d_X11_spent_4 rfl (fun _ => ?_) (fun hc => absurd (by decide) hc)
  refine Tr.iconst (pc := 24) d_X11_spent_24 (by decide) ?_
  refine Tr.iret (pc := 25) d_X11_spent_25 rfl ?_
  refine Tr.sc [_] rfl ?_
  refine Tr.aload_n (pc := 464) (i := 2) d_L_law_464 rfl rfl ?_
  refine Tr.aload_n (pc := 465) (i := 0) d_L_law_465 rfl rfl ?_
  refine Tr.iload_n (pc := 466) (i := 3) d_L_law_466 rfl rfl ?_
  refine Tr.iconst (pc := 467) d_L_law_467 (by decide) ?_
  refine Tr.iadd (pc := 468) d_L_law_468 ?_
  refine Tr.tp 1 rfl ?_
  refine Tr.xld (pc := 469) (i := 0) d_L_law_469 rfl he (by decide) (by decide) ?_
  refine Tr.tp a1 g1 ?_
  refine Tr.aload_n (pc := 470) (i := 0) d_L_law_470 rfl rfl ?_
  refine Tr.iload_n (pc := 471) (i := 3) d_L_law_471 rfl rfl ?_
  refine Tr.iconst (pc := 472) d_L_law_472 (by decide) ?_
  refine Tr.iadd (pc := 473) d_L_law_473 ?_
  refine Tr.tp 2 rfl ?_
  refine Tr.xld (pc := 474) (i := 0) d_L_law_474 rfl he (by decide) (by decide) ?_
  refine Tr.tp a2 g2 ?_
  refine Tr.callV (pc := 475) (as := [_, _]) d_L_law_475 s_13_63 ok_X12_spent rfl rfl (Nat.le_of_ble_eq_true rfl) (Nat.le_of_ble_eq_true rfl) (by decide) (ty_120 hF) ?_
  refine Tr.lc [(0, (2, 120)), (1, (0, _)), (2, (0, _))] rfl ?_
  refine Tr.aload_n (pc := 0) (i := 0) d_X12_spent_0 rfl rfl ?_
  refine Tr.getz (pc := 1) d_X12_spent_1 f_12_270 (by decide) (ty_120 hF) ?_
  refine Tr.tp 0 (b_120_85) ?_
  refine Tr.if_eq (pc := 4) (tgt := 37) d_X12_spent_4 rfl (fun _ => ?_) (fun hc => absurd (by decide) hc)
  refine Tr.iconst (pc := 37) d_X12_spent_37 (by decide) ?_
  refine Tr.iret (pc := 38) d_X12_spent_38 rfl ?_
  refine Tr.sc [_, _] rfl ?_
  refine Tr.icmp_eq (pc := 478) (tgt := 998) d_L_law_478 rfl (fun _ => ?_) (fun hc => absurd (by decide) hc)
  refine Tr.iinc (pc := 998) (ls2 := [(3, (0, 6)), (2, (2, 120)), (1, (2, 0)), (0, (2, (-2)))]) d_L_law_998 rfl (by decide) rfl ?_
  refine Tr.goto (pc := 1001) (tgt := 18) d_L_law_1001 rfl ?_
  refine Tr.iload_n (pc := 18) (i := 3) d_L_law_18 rfl rfl ?_
  refine Tr.aload_n (pc := 19) (i := 0) d_L_law_19 rfl rfl ?_
  refine Tr.xlen (pc := 20) (i := 0) d_L_law_20 rfl he (by decide) ?_
  refine Tr.tp 6 rfl ?_
  refine Tr.bipush (pc := 21) d_L_law_21 rfl (by decide) ?_
  refine Tr.isub (pc := 23) d_L_law_23 ?_
  refine Tr.tp 0 rfl ?_
  refine Tr.icmp_gt (pc := 24) (tgt := 1004) d_L_law_24 rfl (fun _ => ?_) (fun hc => absurd (by decide) hc)
  refine Tr.iconst (pc := 1004) d_L_law_1004 (by decide) ?_
  exact Tr.zret (pc := 1005) d_L_law_1005 rfl (by decide) ⟨rfl, Fx_room hF⟩
set_option maxRecDepth 100000 in
set_option maxHeartbeats 4000000 in
theorem op_pays {l : Launch} {K : EC} {f : Int → Int} (he : e_ext K 0 6 f) (hr : ∀ j, -2147483648 ≤ f j ∧ f j ≤ 2147483647) : Tr l K 20 mL_law 483 [(3, (0, 0)), (2, (2, 120)), (1, (2, 0)), (0, (2, -2))] [] C_461 (fun M' r => r = some (0, 1) ∧ M'.1 ≤ 600000 ∧ M'.2.1 ≤ room_1.slots) := by
  obtain ⟨a1, g1⟩ : ∃ a, f 1 = a := ⟨_, rfl⟩
  have r1 := hr 1
  rw [g1] at r1
  obtain ⟨a2, g2⟩ : ∃ a, f 2 = a := ⟨_, rfl⟩
  have r2 := hr 2
  rw [g2] at r2
  obtain ⟨a3, g3⟩ : ∃ a, f 3 = a := ⟨_, rfl⟩
  have r3 := hr 3
  rw [g3] at r3
  obtain ⟨a4, g4⟩ : ∃ a, f 4 = a := ⟨_, rfl⟩
  have r4 := hr 4
  rw [g4] at r4
  obtain ⟨a5, g5⟩ : ∃ a, f 5 = a := ⟨_, rfl⟩
  have r5 := hr 5
  rw [g5] at r5
  have hF := Fx_0
  refine Tr.aload_n (pc := 483) (i := 1) d_L_law_483 rfl rfl ?_
  refine Tr.aload_n (pc := 484) (i := 0) d_L_law_484 rfl rfl ?_
  refine Tr.iload_n (pc := 485) (i := 3) d_L_law_485 rfl rfl ?_
  refine Tr.iconst (pc := 486) d_L_law_486 (by decide) ?_
  refine Tr.iadd (pc := 487) d_L_law_487 ?_
  refine Tr.tp 1 rfl ?_
  refine Tr.xld (pc := 488) (i := 0) d_L_law_488 rfl he (by decide) (by decide) ?_
  refine Tr.tp a1 g1 ?_
  refine Tr.aload_n (pc := 489) (i := 0) d_L_law_489 rfl rfl ?_
  refine Tr.iload_n (pc := 490) (i := 3) d_L_law_490 rfl rfl ?_
  refine Tr.iconst (pc := 491) d_L_law_491 (by decide) ?_
  refine Tr.iadd (pc := 492) d_L_law_492 ?_
  refine Tr.tp 2 rfl ?_
  refine Tr.xld (pc := 493) (i := 0) d_L_law_493 rfl he (by decide) (by decide) ?_
  refine Tr.tp a2 g2 ?_
  refine Tr.callV (pc := 494) (as := [_, _]) d_L_law_494 s_13_64 ok_X11_pays rfl rfl (Nat.le_of_ble_eq_true rfl) (Nat.le_of_ble_eq_true rfl) (by decide) (ty_0 hF) ?_
  refine Tr.lc [(0, (2, 0)), (1, (0, _)), (2, (0, _))] rfl ?_
  refine Tr.aload_n (pc := 0) (i := 0) d_X11_pays_0 rfl rfl ?_
  refine Tr.getz (pc := 1) d_X11_pays_1 f_11_109 (by decide) (ty_0 hF) ?_
  refine Tr.tp 0 (b_0_9) ?_
  refine Tr.if_eq (pc := 4) (tgt := 16) d_X11_pays_4 rfl (fun _ => ?_) (fun hc => absurd (by decide) hc)
  refine Tr.iconst (pc := 16) d_X11_pays_16 (by decide) ?_
  refine Tr.iret (pc := 17) d_X11_pays_17 rfl ?_
  refine Tr.sc [_] rfl ?_
  refine Tr.aload_n (pc := 497) (i := 2) d_L_law_497 rfl rfl ?_
  refine Tr.aload_n (pc := 498) (i := 0) d_L_law_498 rfl rfl ?_
  refine Tr.iload_n (pc := 499) (i := 3) d_L_law_499 rfl rfl ?_
  refine Tr.iconst (pc := 500) d_L_law_500 (by decide) ?_
  refine Tr.iadd (pc := 501) d_L_law_501 ?_
  refine Tr.tp 1 rfl ?_
  refine Tr.xld (pc := 502) (i := 0) d_L_law_502 rfl he (by decide) (by decide) ?_
  refine Tr.tp a1 g1 ?_
  refine Tr.aload_n (pc := 503) (i := 0) d_L_law_503 rfl rfl ?_
  refine Tr.iload_n (pc := 504) (i := 3) d_L_law_504 rfl rfl ?_
  refine Tr.iconst (pc := 505) d_L_law_505 (by decide) ?_
  refine Tr.iadd (pc := 506) d_L_law_506 ?_
  refine Tr.tp 2 rfl ?_
  refine Tr.xld (pc := 507) (i := 0) d_L_law_507 rfl he (by decide) (by decide) ?_
  refine Tr.tp a2 g2 ?_
  refine Tr.callV (pc := 508) (as := [_, _]) d_L_law_508 s_13_67 ok_X12_pays rfl rfl (Nat.le_of_ble_eq_true rfl) (Nat.le_of_ble_eq_true rfl) (by decide) (ty_120 hF) ?_
  refine Tr.lc [(0, (2, 120)), (1, (0, _)), (2, (0, _))] rfl ?_
  refine Tr.aload_n (pc := 0) (i := 0) d_X12_pays_0 rfl rfl ?_
  refine Tr.getz (pc := 1) d_X12_pays_1 f_12_270 (by decide) (ty_120 hF) ?_
  refine Tr.tp 0 (b_120_85) ?_
  refine Tr.if_eq (pc := 4) (tgt := 29) d_X12_pays_4 rfl (fun _ => ?_) (fun hc => absurd (by decide) hc)
  refine Tr.iconst (pc := 29) d_X12_pays_29 (by decide) ?_
  refine Tr.iret (pc := 30) d_X12_pays_30 rfl ?_
  refine Tr.sc [_, _] rfl ?_
  refine Tr.icmp_eq (pc := 511) (tgt := 998) d_L_law_511 rfl (fun _ => ?_) (fun hc => absurd (by decide) hc)
  refine Tr.iinc (pc := 998) (ls2 := [(3, (0, 6)), (2, (2, 120)), (1, (2, 0)), (0, (2, (-2)))]) d_L_law_998 rfl (by decide) rfl ?_
  refine Tr.goto (pc := 1001) (tgt := 18) d_L_law_1001 rfl ?_
  refine Tr.iload_n (pc := 18) (i := 3) d_L_law_18 rfl rfl ?_
  refine Tr.aload_n (pc := 19) (i := 0) d_L_law_19 rfl rfl ?_
  refine Tr.xlen (pc := 20) (i := 0) d_L_law_20 rfl he (by decide) ?_
  refine Tr.tp 6 rfl ?_
  refine Tr.bipush (pc := 21) d_L_law_21 rfl (by decide) ?_
  refine Tr.isub (pc := 23) d_L_law_23 ?_
  refine Tr.tp 0 rfl ?_
  refine Tr.icmp_gt (pc := 24) (tgt := 1004) d_L_law_24 rfl (fun _ => ?_) (fun hc => absurd (by decide) hc)
  refine Tr.iconst (pc := 1004) d_L_law_1004 (by decide) ?_
  exact Tr.zret (pc := 1005) d_L_law_1005 rfl (by decide) ⟨rfl, Fx_room hF⟩
set_option maxRecDepth 100000 in
set_option maxHeartbeats 4000000 in
theorem op_stretches {l : Launch} {K : EC} {f : Int → Int} (he : e_ext K 0 6 f) (hr : ∀ j, -2147483648 ≤ f j ∧ f j ≤ 2147483647) : Tr l K 20 mL_law 516 [(3, (0, 0)), (2, (2, 120)), (1, (2, 0)), (0, (2, -2))] [] C_461 (fun M' r => r = some (0, 1) ∧ M'.1 ≤ 600000 ∧ M'.2.1 ≤ room_1.slots) := by
  obtain ⟨a1, g1⟩ : ∃ a, f 1 = a := ⟨_, rfl⟩
  have r1 := hr 1
  rw [g1] at r1
  obtain ⟨a2, g2⟩ : ∃ a, f 2 = a := ⟨_, rfl⟩
  have r2 := hr 2
  rw [g2] at r2
  obtain ⟨a3, g3⟩ : ∃ a, f 3 = a := ⟨_, rfl⟩
  have r3 := hr 3
  rw [g3] at r3
  obtain ⟨a4, g4⟩ : ∃ a, f 4 = a := ⟨_, rfl⟩
  have r4 := hr 4
  rw [g4] at r4
  obtain ⟨a5, g5⟩ : ∃ a, f 5 = a := ⟨_, rfl⟩
  have r5 := hr 5
  rw [g5] at r5
  have hF := Fx_0
  refine Tr.aload_n (pc := 516) (i := 1) d_L_law_516 rfl rfl ?_
  refine Tr.aload_n (pc := 517) (i := 0) d_L_law_517 rfl rfl ?_
  refine Tr.iload_n (pc := 518) (i := 3) d_L_law_518 rfl rfl ?_
  refine Tr.iconst (pc := 519) d_L_law_519 (by decide) ?_
  refine Tr.iadd (pc := 520) d_L_law_520 ?_
  refine Tr.tp 1 rfl ?_
  refine Tr.xld (pc := 521) (i := 0) d_L_law_521 rfl he (by decide) (by decide) ?_
  refine Tr.tp a1 g1 ?_
  refine Tr.callV (pc := 522) (as := [_]) d_L_law_522 s_13_68 ok_X11_stretches rfl rfl (Nat.le_of_ble_eq_true rfl) (Nat.le_of_ble_eq_true rfl) (by decide) (ty_0 hF) ?_
  refine Tr.lc [(0, (2, 0)), (1, (0, _))] rfl ?_
  refine Tr.aload_n (pc := 0) (i := 0) d_X11_stretches_0 rfl rfl ?_
  refine Tr.getz (pc := 1) d_X11_stretches_1 f_11_109 (by decide) (ty_0 hF) ?_
  refine Tr.tp 0 (b_0_9) ?_
  refine Tr.if_eq (pc := 4) (tgt := 15) d_X11_stretches_4 rfl (fun _ => ?_) (fun hc => absurd (by decide) hc)
  refine Tr.iconst (pc := 15) d_X11_stretches_15 (by decide) ?_
  refine Tr.iret (pc := 16) d_X11_stretches_16 rfl ?_
  refine Tr.sc [_] rfl ?_
  refine Tr.aload_n (pc := 525) (i := 2) d_L_law_525 rfl rfl ?_
  refine Tr.aload_n (pc := 526) (i := 0) d_L_law_526 rfl rfl ?_
  refine Tr.iload_n (pc := 527) (i := 3) d_L_law_527 rfl rfl ?_
  refine Tr.iconst (pc := 528) d_L_law_528 (by decide) ?_
  refine Tr.iadd (pc := 529) d_L_law_529 ?_
  refine Tr.tp 1 rfl ?_
  refine Tr.xld (pc := 530) (i := 0) d_L_law_530 rfl he (by decide) (by decide) ?_
  refine Tr.tp a1 g1 ?_
  refine Tr.callV (pc := 531) (as := [_]) d_L_law_531 s_13_71 ok_X12_stretches rfl rfl (Nat.le_of_ble_eq_true rfl) (Nat.le_of_ble_eq_true rfl) (by decide) (ty_120 hF) ?_
  refine Tr.lc [(0, (2, 120)), (1, (0, _))] rfl ?_
  refine Tr.aload_n (pc := 0) (i := 0) d_X12_stretches_0 rfl rfl ?_
  refine Tr.getz (pc := 1) d_X12_stretches_1 f_12_270 (by decide) (ty_120 hF) ?_
  refine Tr.tp 0 (b_120_85) ?_
  refine Tr.if_eq (pc := 4) (tgt := 15) d_X12_stretches_4 rfl (fun _ => ?_) (fun hc => absurd (by decide) hc)
  refine Tr.iconst (pc := 15) d_X12_stretches_15 (by decide) ?_
  refine Tr.iret (pc := 16) d_X12_stretches_16 rfl ?_
  refine Tr.sc [_, _] rfl ?_
  refine Tr.icmp_eq (pc := 534) (tgt := 998) d_L_law_534 rfl (fun _ => ?_) (fun hc => absurd (by decide) hc)
  refine Tr.iinc (pc := 998) (ls2 := [(3, (0, 6)), (2, (2, 120)), (1, (2, 0)), (0, (2, (-2)))]) d_L_law_998 rfl (by decide) rfl ?_
  refine Tr.goto (pc := 1001) (tgt := 18) d_L_law_1001 rfl ?_
  refine Tr.iload_n (pc := 18) (i := 3) d_L_law_18 rfl rfl ?_
  refine Tr.aload_n (pc := 19) (i := 0) d_L_law_19 rfl rfl ?_
  refine Tr.xlen (pc := 20) (i := 0) d_L_law_20 rfl he (by decide) ?_
  refine Tr.tp 6 rfl ?_
  refine Tr.bipush (pc := 21) d_L_law_21 rfl (by decide) ?_
  refine Tr.isub (pc := 23) d_L_law_23 ?_
  refine Tr.tp 0 rfl ?_
  refine Tr.icmp_gt (pc := 24) (tgt := 1004) d_L_law_24 rfl (fun _ => ?_) (fun hc => absurd (by decide) hc)
  refine Tr.iconst (pc := 1004) d_L_law_1004 (by decide) ?_
  exact Tr.zret (pc := 1005) d_L_law_1005 rfl (by decide) ⟨rfl, Fx_room hF⟩
set_option maxRecDepth 100000 in
set_option maxHeartbeats 4000000 in
theorem op_stretch {l : Launch} {K : EC} {f : Int → Int} (he : e_ext K 0 6 f) (hr : ∀ j, -2147483648 ≤ f j ∧ f j ≤ 2147483647) : Tr l K 20 mL_law 539 [(3, (0, 0)), (2, (2, 120)), (1, (2, 0)), (0, (2, -2))] [] C_461 (fun M' r => r = some (0, 1) ∧ M'.1 ≤ 600000 ∧ M'.2.1 ≤ room_1.slots) := by
  obtain ⟨a1, g1⟩ : ∃ a, f 1 = a := ⟨_, rfl⟩
  have r1 := hr 1
  rw [g1] at r1
  obtain ⟨a2, g2⟩ : ∃ a, f 2 = a := ⟨_, rfl⟩
  have r2 := hr 2
  rw [g2] at r2
  obtain ⟨a3, g3⟩ : ∃ a, f 3 = a := ⟨_, rfl⟩
  have r3 := hr 3
  rw [g3] at r3
  obtain ⟨a4, g4⟩ : ∃ a, f 4 = a := ⟨_, rfl⟩
  have r4 := hr 4
  rw [g4] at r4
  obtain ⟨a5, g5⟩ : ∃ a, f 5 = a := ⟨_, rfl⟩
  have r5 := hr 5
  rw [g5] at r5
  have hF := Fx_0
  refine Tr.aload_n (pc := 539) (i := 1) d_L_law_539 rfl rfl ?_
  refine Tr.aload_n (pc := 540) (i := 0) d_L_law_540 rfl rfl ?_
  refine Tr.iload_n (pc := 541) (i := 3) d_L_law_541 rfl rfl ?_
  refine Tr.iconst (pc := 542) d_L_law_542 (by decide) ?_
  refine Tr.iadd (pc := 543) d_L_law_543 ?_
  refine Tr.tp 1 rfl ?_
  refine Tr.xld (pc := 544) (i := 0) d_L_law_544 rfl he (by decide) (by decide) ?_
  refine Tr.tp a1 g1 ?_
  refine Tr.aload_n (pc := 545) (i := 0) d_L_law_545 rfl rfl ?_
  refine Tr.iload_n (pc := 546) (i := 3) d_L_law_546 rfl rfl ?_
  refine Tr.iconst (pc := 547) d_L_law_547 (by decide) ?_
  refine Tr.iadd (pc := 548) d_L_law_548 ?_
  refine Tr.tp 2 rfl ?_
  refine Tr.xld (pc := 549) (i := 0) d_L_law_549 rfl he (by decide) (by decide) ?_
  refine Tr.tp a2 g2 ?_
  refine Tr.aload_n (pc := 550) (i := 0) d_L_law_550 rfl rfl ?_
  refine Tr.iload_n (pc := 551) (i := 3) d_L_law_551 rfl rfl ?_
  refine Tr.iconst (pc := 552) d_L_law_552 (by decide) ?_
  refine Tr.iadd (pc := 553) d_L_law_553 ?_
  refine Tr.tp 3 rfl ?_
  refine Tr.xld (pc := 554) (i := 0) d_L_law_554 rfl he (by decide) (by decide) ?_
  refine Tr.tp a3 g3 ?_
  refine Tr.callV (pc := 555) (as := [_, _, _]) d_L_law_555 s_13_72 ok_X11_stretch rfl rfl (Nat.le_of_ble_eq_true rfl) (Nat.le_of_ble_eq_true rfl) (by decide) (ty_0 hF) ?_
  refine Tr.lc [(0, (2, 0)), (1, (0, _)), (2, (0, _)), (3, (0, _))] rfl ?_
  refine Tr.aload_n (pc := 0) (i := 0) d_X11_stretch_0 rfl rfl ?_
  refine Tr.iload_n (pc := 1) (i := 1) d_X11_stretch_1 rfl rfl ?_
  refine Tr.iload_n (pc := 2) (i := 2) d_X11_stretch_2 rfl rfl ?_
  refine Tr.callV (pc := 3) (as := [_, _]) d_X11_stretch_3 s_11_214 ok_X11_stretchPlace rfl rfl (Nat.le_of_ble_eq_true rfl) (Nat.le_of_ble_eq_true rfl) (by decide) (ty_0 hF) ?_
  refine Tr.lc [(0, (2, 0)), (1, (0, _)), (2, (0, _))] rfl ?_
  refine Tr.aload_n (pc := 0) (i := 0) d_X11_stretchPlace_0 rfl rfl ?_
  refine Tr.getz (pc := 1) d_X11_stretchPlace_1 f_11_109 (by decide) (ty_0 hF) ?_
  refine Tr.tp 0 (b_0_9) ?_
  refine Tr.if_eq (pc := 4) (tgt := 19) d_X11_stretchPlace_4 rfl (fun _ => ?_) (fun hc => absurd (by decide) hc)
  refine Tr.iconst (pc := 19) d_X11_stretchPlace_19 (by decide) ?_
  refine Tr.iret (pc := 20) d_X11_stretchPlace_20 rfl ?_
  refine Tr.sc [_] rfl ?_
  refine Tr.istore (pc := 6) (i := 4) (ls2 := [(4, (0, (-1))), (0, (2, 0)), (1, (0, _)), (2, (0, _)), (3, (0, _))]) d_X11_stretch_6 (by decide) rfl ?_
  refine Tr.iload (pc := 8) (i := 4) d_X11_stretch_8 rfl ?_
  refine Tr.if_ge (pc := 10) (tgt := 15) d_X11_stretch_10 rfl (fun hc => absurd hc (by decide)) (fun _ => ?_)
  refine Tr.iconst (pc := 13) d_X11_stretch_13 (by decide) ?_
  refine Tr.iret (pc := 14) d_X11_stretch_14 rfl ?_
  refine Tr.sc [_] rfl ?_
  refine Tr.aload_n (pc := 558) (i := 2) d_L_law_558 rfl rfl ?_
  refine Tr.aload_n (pc := 559) (i := 0) d_L_law_559 rfl rfl ?_
  refine Tr.iload_n (pc := 560) (i := 3) d_L_law_560 rfl rfl ?_
  refine Tr.iconst (pc := 561) d_L_law_561 (by decide) ?_
  refine Tr.iadd (pc := 562) d_L_law_562 ?_
  refine Tr.tp 1 rfl ?_
  refine Tr.xld (pc := 563) (i := 0) d_L_law_563 rfl he (by decide) (by decide) ?_
  refine Tr.tp a1 g1 ?_
  refine Tr.aload_n (pc := 564) (i := 0) d_L_law_564 rfl rfl ?_
  refine Tr.iload_n (pc := 565) (i := 3) d_L_law_565 rfl rfl ?_
  refine Tr.iconst (pc := 566) d_L_law_566 (by decide) ?_
  refine Tr.iadd (pc := 567) d_L_law_567 ?_
  refine Tr.tp 2 rfl ?_
  refine Tr.xld (pc := 568) (i := 0) d_L_law_568 rfl he (by decide) (by decide) ?_
  refine Tr.tp a2 g2 ?_
  refine Tr.aload_n (pc := 569) (i := 0) d_L_law_569 rfl rfl ?_
  refine Tr.iload_n (pc := 570) (i := 3) d_L_law_570 rfl rfl ?_
  refine Tr.iconst (pc := 571) d_L_law_571 (by decide) ?_
  refine Tr.iadd (pc := 572) d_L_law_572 ?_
  refine Tr.tp 3 rfl ?_
  refine Tr.xld (pc := 573) (i := 0) d_L_law_573 rfl he (by decide) (by decide) ?_
  refine Tr.tp a3 g3 ?_
  refine Tr.callV (pc := 574) (as := [_, _, _]) d_L_law_574 s_13_75 ok_X12_stretch rfl rfl (Nat.le_of_ble_eq_true rfl) (Nat.le_of_ble_eq_true rfl) (by decide) (ty_120 hF) ?_
  refine Tr.lc [(0, (2, 120)), (1, (0, _)), (2, (0, _)), (3, (0, _))] rfl ?_
  refine Tr.aload_n (pc := 0) (i := 0) d_X12_stretch_0 rfl rfl ?_
  refine Tr.getz (pc := 1) d_X12_stretch_1 f_12_270 (by decide) (ty_120 hF) ?_
  refine Tr.tp 0 (b_120_85) ?_
  refine Tr.if_eq (pc := 4) (tgt := 37) d_X12_stretch_4 rfl (fun _ => ?_) (fun hc => absurd (by decide) hc)
  refine Tr.iconst (pc := 37) d_X12_stretch_37 (by decide) ?_
  refine Tr.iret (pc := 38) d_X12_stretch_38 rfl ?_
  refine Tr.sc [_, _] rfl ?_
  refine Tr.icmp_eq (pc := 577) (tgt := 998) d_L_law_577 rfl (fun _ => ?_) (fun hc => absurd (by decide) hc)
  refine Tr.iinc (pc := 998) (ls2 := [(3, (0, 6)), (2, (2, 120)), (1, (2, 0)), (0, (2, (-2)))]) d_L_law_998 rfl (by decide) rfl ?_
  refine Tr.goto (pc := 1001) (tgt := 18) d_L_law_1001 rfl ?_
  refine Tr.iload_n (pc := 18) (i := 3) d_L_law_18 rfl rfl ?_
  refine Tr.aload_n (pc := 19) (i := 0) d_L_law_19 rfl rfl ?_
  refine Tr.xlen (pc := 20) (i := 0) d_L_law_20 rfl he (by decide) ?_
  refine Tr.tp 6 rfl ?_
  refine Tr.bipush (pc := 21) d_L_law_21 rfl (by decide) ?_
  refine Tr.isub (pc := 23) d_L_law_23 ?_
  refine Tr.tp 0 rfl ?_
  refine Tr.icmp_gt (pc := 24) (tgt := 1004) d_L_law_24 rfl (fun _ => ?_) (fun hc => absurd (by decide) hc)
  refine Tr.iconst (pc := 1004) d_L_law_1004 (by decide) ?_
  exact Tr.zret (pc := 1005) d_L_law_1005 rfl (by decide) ⟨rfl, Fx_room hF⟩
set_option maxRecDepth 100000 in
set_option maxHeartbeats 4000000 in
theorem op_lines {l : Launch} {K : EC} {f : Int → Int} (he : e_ext K 0 6 f) (hr : ∀ j, -2147483648 ≤ f j ∧ f j ≤ 2147483647) : Tr l K 20 mL_law 582 [(3, (0, 0)), (2, (2, 120)), (1, (2, 0)), (0, (2, -2))] [] C_461 (fun M' r => r = some (0, 1) ∧ M'.1 ≤ 600000 ∧ M'.2.1 ≤ room_1.slots) := by
  obtain ⟨a1, g1⟩ : ∃ a, f 1 = a := ⟨_, rfl⟩
  have r1 := hr 1
  rw [g1] at r1
  obtain ⟨a2, g2⟩ : ∃ a, f 2 = a := ⟨_, rfl⟩
  have r2 := hr 2
  rw [g2] at r2
  obtain ⟨a3, g3⟩ : ∃ a, f 3 = a := ⟨_, rfl⟩
  have r3 := hr 3
  rw [g3] at r3
  obtain ⟨a4, g4⟩ : ∃ a, f 4 = a := ⟨_, rfl⟩
  have r4 := hr 4
  rw [g4] at r4
  obtain ⟨a5, g5⟩ : ∃ a, f 5 = a := ⟨_, rfl⟩
  have r5 := hr 5
  rw [g5] at r5
  have hF := Fx_0
  refine Tr.aload_n (pc := 582) (i := 1) d_L_law_582 rfl rfl ?_
  refine Tr.aload_n (pc := 583) (i := 0) d_L_law_583 rfl rfl ?_
  refine Tr.iload_n (pc := 584) (i := 3) d_L_law_584 rfl rfl ?_
  refine Tr.iconst (pc := 585) d_L_law_585 (by decide) ?_
  refine Tr.iadd (pc := 586) d_L_law_586 ?_
  refine Tr.tp 1 rfl ?_
  refine Tr.xld (pc := 587) (i := 0) d_L_law_587 rfl he (by decide) (by decide) ?_
  refine Tr.tp a1 g1 ?_
  refine Tr.aload_n (pc := 588) (i := 0) d_L_law_588 rfl rfl ?_
  refine Tr.iload_n (pc := 589) (i := 3) d_L_law_589 rfl rfl ?_
  refine Tr.iconst (pc := 590) d_L_law_590 (by decide) ?_
  refine Tr.iadd (pc := 591) d_L_law_591 ?_
  refine Tr.tp 2 rfl ?_
  refine Tr.xld (pc := 592) (i := 0) d_L_law_592 rfl he (by decide) (by decide) ?_
  refine Tr.tp a2 g2 ?_
  refine Tr.callV (pc := 593) (as := [_, _]) d_L_law_593 s_13_76 ok_X11_lines rfl rfl (Nat.le_of_ble_eq_true rfl) (Nat.le_of_ble_eq_true rfl) (by decide) (ty_0 hF) ?_
  refine Tr.lc [(0, (2, 0)), (1, (0, _)), (2, (0, _))] rfl ?_
  refine Tr.aload_n (pc := 0) (i := 0) d_X11_lines_0 rfl rfl ?_
  refine Tr.iload_n (pc := 1) (i := 1) d_X11_lines_1 rfl rfl ?_
  refine Tr.iload_n (pc := 2) (i := 2) d_X11_lines_2 rfl rfl ?_
  refine Tr.callV (pc := 3) (as := [_, _]) d_X11_lines_3 s_11_214 ok_X11_stretchPlace rfl rfl (Nat.le_of_ble_eq_true rfl) (Nat.le_of_ble_eq_true rfl) (by decide) (ty_0 hF) ?_
  refine Tr.lc [(0, (2, 0)), (1, (0, _)), (2, (0, _))] rfl ?_
  refine Tr.aload_n (pc := 0) (i := 0) d_X11_stretchPlace_0 rfl rfl ?_
  refine Tr.getz (pc := 1) d_X11_stretchPlace_1 f_11_109 (by decide) (ty_0 hF) ?_
  refine Tr.tp 0 (b_0_9) ?_
  refine Tr.if_eq (pc := 4) (tgt := 19) d_X11_stretchPlace_4 rfl (fun _ => ?_) (fun hc => absurd (by decide) hc)
  refine Tr.iconst (pc := 19) d_X11_stretchPlace_19 (by decide) ?_
  refine Tr.iret (pc := 20) d_X11_stretchPlace_20 rfl ?_
  refine Tr.sc [_] rfl ?_
  refine Tr.istore_n (pc := 6) (i := 3) (ls2 := [(3, (0, (-1))), (0, (2, 0)), (1, (0, _)), (2, (0, _))]) d_X11_lines_6 rfl (by decide) rfl ?_
  refine Tr.iload_n (pc := 7) (i := 3) d_X11_lines_7 rfl rfl ?_
  refine Tr.if_ge (pc := 8) (tgt := 15) d_X11_lines_8 rfl (fun hc => absurd hc (by decide)) (fun _ => ?_)
  refine Tr.lconst (pc := 11) (v := 0) d_X11_lines_11 rfl (by decide) ?_
  refine Tr.goto (pc := 12) (tgt := 30) d_X11_lines_12 rfl ?_
  refine Tr.lret (pc := 30) d_X11_lines_30 rfl ?_
  refine Tr.sc [_] rfl ?_
  refine Tr.aload_n (pc := 596) (i := 2) d_L_law_596 rfl rfl ?_
  refine Tr.aload_n (pc := 597) (i := 0) d_L_law_597 rfl rfl ?_
  refine Tr.iload_n (pc := 598) (i := 3) d_L_law_598 rfl rfl ?_
  refine Tr.iconst (pc := 599) d_L_law_599 (by decide) ?_
  refine Tr.iadd (pc := 600) d_L_law_600 ?_
  refine Tr.tp 1 rfl ?_
  refine Tr.xld (pc := 601) (i := 0) d_L_law_601 rfl he (by decide) (by decide) ?_
  refine Tr.tp a1 g1 ?_
  refine Tr.aload_n (pc := 602) (i := 0) d_L_law_602 rfl rfl ?_
  refine Tr.iload_n (pc := 603) (i := 3) d_L_law_603 rfl rfl ?_
  refine Tr.iconst (pc := 604) d_L_law_604 (by decide) ?_
  refine Tr.iadd (pc := 605) d_L_law_605 ?_
  refine Tr.tp 2 rfl ?_
  refine Tr.xld (pc := 606) (i := 0) d_L_law_606 rfl he (by decide) (by decide) ?_
  refine Tr.tp a2 g2 ?_
  refine Tr.callV (pc := 607) (as := [_, _]) d_L_law_607 s_13_80 ok_X12_lines rfl rfl (Nat.le_of_ble_eq_true rfl) (Nat.le_of_ble_eq_true rfl) (by decide) (ty_120 hF) ?_
  refine Tr.lc [(0, (2, 120)), (1, (0, _)), (2, (0, _))] rfl ?_
  refine Tr.aload_n (pc := 0) (i := 0) d_X12_lines_0 rfl rfl ?_
  refine Tr.getz (pc := 1) d_X12_lines_1 f_12_270 (by decide) (ty_120 hF) ?_
  refine Tr.tp 0 (b_120_85) ?_
  refine Tr.if_eq (pc := 4) (tgt := 28) d_X12_lines_4 rfl (fun _ => ?_) (fun hc => absurd (by decide) hc)
  refine Tr.lconst (pc := 28) (v := 0) d_X12_lines_28 rfl (by decide) ?_
  refine Tr.goto (pc := 29) (tgt := 37) d_X12_lines_29 rfl ?_
  refine Tr.lret (pc := 37) d_X12_lines_37 rfl ?_
  refine Tr.sc [_, _] rfl ?_
  refine Tr.lcmp (pc := 610) d_L_law_610 ?_
  refine Tr.tp 0 rfl ?_
  refine Tr.if_eq (pc := 611) (tgt := 998) d_L_law_611 rfl (fun _ => ?_) (fun hc => absurd (by decide) hc)
  refine Tr.iinc (pc := 998) (ls2 := [(3, (0, 6)), (2, (2, 120)), (1, (2, 0)), (0, (2, (-2)))]) d_L_law_998 rfl (by decide) rfl ?_
  refine Tr.goto (pc := 1001) (tgt := 18) d_L_law_1001 rfl ?_
  refine Tr.iload_n (pc := 18) (i := 3) d_L_law_18 rfl rfl ?_
  refine Tr.aload_n (pc := 19) (i := 0) d_L_law_19 rfl rfl ?_
  refine Tr.xlen (pc := 20) (i := 0) d_L_law_20 rfl he (by decide) ?_
  refine Tr.tp 6 rfl ?_
  refine Tr.bipush (pc := 21) d_L_law_21 rfl (by decide) ?_
  refine Tr.isub (pc := 23) d_L_law_23 ?_
  refine Tr.tp 0 rfl ?_
  refine Tr.icmp_gt (pc := 24) (tgt := 1004) d_L_law_24 rfl (fun _ => ?_) (fun hc => absurd (by decide) hc)
  refine Tr.iconst (pc := 1004) d_L_law_1004 (by decide) ?_
  exact Tr.zret (pc := 1005) d_L_law_1005 rfl (by decide) ⟨rfl, Fx_room hF⟩
set_option maxRecDepth 100000 in
set_option maxHeartbeats 4000000 in
theorem op_byTurns {l : Launch} {K : EC} {f : Int → Int} (he : e_ext K 0 6 f) (hr : ∀ j, -2147483648 ≤ f j ∧ f j ≤ 2147483647) : Tr l K 20 mL_law 616 [(3, (0, 0)), (2, (2, 120)), (1, (2, 0)), (0, (2, -2))] [] C_461 (fun M' r => r = some (0, 1) ∧ M'.1 ≤ 600000 ∧ M'.2.1 ≤ room_1.slots) := by
  obtain ⟨a1, g1⟩ : ∃ a, f 1 = a := ⟨_, rfl⟩
  have r1 := hr 1
  rw [g1] at r1
  obtain ⟨a2, g2⟩ : ∃ a, f 2 = a := ⟨_, rfl⟩
  have r2 := hr 2
  rw [g2] at r2
  obtain ⟨a3, g3⟩ : ∃ a, f 3 = a := ⟨_, rfl⟩
  have r3 := hr 3
  rw [g3] at r3
  obtain ⟨a4, g4⟩ : ∃ a, f 4 = a := ⟨_, rfl⟩
  have r4 := hr 4
  rw [g4] at r4
  obtain ⟨a5, g5⟩ : ∃ a, f 5 = a := ⟨_, rfl⟩
  have r5 := hr 5
  rw [g5] at r5
  have hF := Fx_0
  refine Tr.aload_n (pc := 616) (i := 1) d_L_law_616 rfl rfl ?_
  refine Tr.aload_n (pc := 617) (i := 0) d_L_law_617 rfl rfl ?_
  refine Tr.iload_n (pc := 618) (i := 3) d_L_law_618 rfl rfl ?_
  refine Tr.iconst (pc := 619) d_L_law_619 (by decide) ?_
  refine Tr.iadd (pc := 620) d_L_law_620 ?_
  refine Tr.tp 1 rfl ?_
  refine Tr.xld (pc := 621) (i := 0) d_L_law_621 rfl he (by decide) (by decide) ?_
  refine Tr.tp a1 g1 ?_
  refine Tr.aload_n (pc := 622) (i := 0) d_L_law_622 rfl rfl ?_
  refine Tr.iload_n (pc := 623) (i := 3) d_L_law_623 rfl rfl ?_
  refine Tr.iconst (pc := 624) d_L_law_624 (by decide) ?_
  refine Tr.iadd (pc := 625) d_L_law_625 ?_
  refine Tr.tp 2 rfl ?_
  refine Tr.xld (pc := 626) (i := 0) d_L_law_626 rfl he (by decide) (by decide) ?_
  refine Tr.tp a2 g2 ?_
  refine Tr.aload_n (pc := 627) (i := 0) d_L_law_627 rfl rfl ?_
  refine Tr.iload_n (pc := 628) (i := 3) d_L_law_628 rfl rfl ?_
  refine Tr.iconst (pc := 629) d_L_law_629 (by decide) ?_
  refine Tr.iadd (pc := 630) d_L_law_630 ?_
  refine Tr.tp 3 rfl ?_
  refine Tr.xld (pc := 631) (i := 0) d_L_law_631 rfl he (by decide) (by decide) ?_
  refine Tr.tp a3 g3 ?_
  refine Tr.aload_n (pc := 632) (i := 0) d_L_law_632 rfl rfl ?_
  refine Tr.iload_n (pc := 633) (i := 3) d_L_law_633 rfl rfl ?_
  refine Tr.iconst (pc := 634) d_L_law_634 (by decide) ?_
  refine Tr.iadd (pc := 635) d_L_law_635 ?_
  refine Tr.tp 4 rfl ?_
  refine Tr.xld (pc := 636) (i := 0) d_L_law_636 rfl he (by decide) (by decide) ?_
  refine Tr.tp a4 g4 ?_
  refine Tr.if_eq (pc := 637) (tgt := 644) d_L_law_637 rfl (fun h1 => ?_) (fun h1 => ?_)
  · subst h1
    refine Tr.iconst (pc := 644) d_L_law_644 (by decide) ?_
    refine Tr.callV (pc := 645) (as := [_, _, _, _]) d_L_law_645 s_13_81 ok_X11_byTurns rfl rfl (Nat.le_of_ble_eq_true rfl) (Nat.le_of_ble_eq_true rfl) (by decide) (ty_0 hF) ?_
    refine Tr.lc [(0, (2, 0)), (1, (0, _)), (2, (0, _)), (3, (0, _)), (4, (0, 0))] rfl ?_
    refine Tr.aload_n (pc := 0) (i := 0) d_X11_byTurns_0 rfl rfl ?_
    refine Tr.iload_n (pc := 1) (i := 1) d_X11_byTurns_1 rfl rfl ?_
    refine Tr.iload_n (pc := 2) (i := 2) d_X11_byTurns_2 rfl rfl ?_
    refine Tr.callV (pc := 3) (as := [_, _]) d_X11_byTurns_3 s_11_214 ok_X11_stretchPlace rfl rfl (Nat.le_of_ble_eq_true rfl) (Nat.le_of_ble_eq_true rfl) (by decide) (ty_0 hF) ?_
    refine Tr.lc [(0, (2, 0)), (1, (0, _)), (2, (0, _))] rfl ?_
    refine Tr.aload_n (pc := 0) (i := 0) d_X11_stretchPlace_0 rfl rfl ?_
    refine Tr.getz (pc := 1) d_X11_stretchPlace_1 f_11_109 (by decide) (ty_0 hF) ?_
    refine Tr.tp 0 (b_0_9) ?_
    refine Tr.if_eq (pc := 4) (tgt := 19) d_X11_stretchPlace_4 rfl (fun _ => ?_) (fun hc => absurd (by decide) hc)
    refine Tr.iconst (pc := 19) d_X11_stretchPlace_19 (by decide) ?_
    refine Tr.iret (pc := 20) d_X11_stretchPlace_20 rfl ?_
    refine Tr.sc [_] rfl ?_
    refine Tr.istore (pc := 6) (i := 5) (ls2 := [(5, (0, (-1))), (0, (2, 0)), (1, (0, _)), (2, (0, _)), (3, (0, _)), (4, (0, 0))]) d_X11_byTurns_6 (by decide) rfl ?_
    refine Tr.iload (pc := 8) (i := 5) d_X11_byTurns_8 rfl ?_
    refine Tr.if_lt (pc := 10) (tgt := 21) d_X11_byTurns_10 rfl (fun _ => ?_) (fun hc => absurd (by decide) hc)
    refine Tr.ldc2 (pc := 21) d_X11_byTurns_21 kl_11_230 (by decide) ?_
    refine Tr.lret (pc := 24) d_X11_byTurns_24 rfl ?_
    refine Tr.sc [_] rfl ?_
    refine Tr.aload_n (pc := 648) (i := 2) d_L_law_648 rfl rfl ?_
    refine Tr.aload_n (pc := 649) (i := 0) d_L_law_649 rfl rfl ?_
    refine Tr.iload_n (pc := 650) (i := 3) d_L_law_650 rfl rfl ?_
    refine Tr.iconst (pc := 651) d_L_law_651 (by decide) ?_
    refine Tr.iadd (pc := 652) d_L_law_652 ?_
    refine Tr.tp 1 rfl ?_
    refine Tr.xld (pc := 653) (i := 0) d_L_law_653 rfl he (by decide) (by decide) ?_
    refine Tr.tp a1 g1 ?_
    refine Tr.aload_n (pc := 654) (i := 0) d_L_law_654 rfl rfl ?_
    refine Tr.iload_n (pc := 655) (i := 3) d_L_law_655 rfl rfl ?_
    refine Tr.iconst (pc := 656) d_L_law_656 (by decide) ?_
    refine Tr.iadd (pc := 657) d_L_law_657 ?_
    refine Tr.tp 2 rfl ?_
    refine Tr.xld (pc := 658) (i := 0) d_L_law_658 rfl he (by decide) (by decide) ?_
    refine Tr.tp a2 g2 ?_
    refine Tr.aload_n (pc := 659) (i := 0) d_L_law_659 rfl rfl ?_
    refine Tr.iload_n (pc := 660) (i := 3) d_L_law_660 rfl rfl ?_
    refine Tr.iconst (pc := 661) d_L_law_661 (by decide) ?_
    refine Tr.iadd (pc := 662) d_L_law_662 ?_
    refine Tr.tp 3 rfl ?_
    refine Tr.xld (pc := 663) (i := 0) d_L_law_663 rfl he (by decide) (by decide) ?_
    refine Tr.tp a3 g3 ?_
    refine Tr.aload_n (pc := 664) (i := 0) d_L_law_664 rfl rfl ?_
    refine Tr.iload_n (pc := 665) (i := 3) d_L_law_665 rfl rfl ?_
    refine Tr.iconst (pc := 666) d_L_law_666 (by decide) ?_
    refine Tr.iadd (pc := 667) d_L_law_667 ?_
    refine Tr.tp 4 rfl ?_
    refine Tr.xld (pc := 668) (i := 0) d_L_law_668 rfl he (by decide) (by decide) ?_
    refine Tr.tp 0 g4 ?_
    refine Tr.if_eq (pc := 669) (tgt := 676) d_L_law_669 rfl (fun _ => ?_) (fun hc => absurd (by decide) hc)
    refine Tr.iconst (pc := 676) d_L_law_676 (by decide) ?_
    refine Tr.callV (pc := 677) (as := [_, _, _, _]) d_L_law_677 s_13_85 ok_X12_byTurns rfl rfl (Nat.le_of_ble_eq_true rfl) (Nat.le_of_ble_eq_true rfl) (by decide) (ty_120 hF) ?_
    refine Tr.lc [(0, (2, 120)), (1, (0, _)), (2, (0, _)), (3, (0, _)), (4, (0, 0))] rfl ?_
    refine Tr.aload_n (pc := 0) (i := 0) d_X12_byTurns_0 rfl rfl ?_
    refine Tr.getz (pc := 1) d_X12_byTurns_1 f_12_270 (by decide) (ty_120 hF) ?_
    refine Tr.tp 0 (b_120_85) ?_
    refine Tr.if_eq (pc := 4) (tgt := 36) d_X12_byTurns_4 rfl (fun _ => ?_) (fun hc => absurd (by decide) hc)
    refine Tr.ldc2 (pc := 36) d_X12_byTurns_36 kl_12_669 (by decide) ?_
    refine Tr.lret (pc := 39) d_X12_byTurns_39 rfl ?_
    refine Tr.sc [_, _] rfl ?_
    refine Tr.lcmp (pc := 680) d_L_law_680 ?_
    refine Tr.tp 0 rfl ?_
    refine Tr.if_eq (pc := 681) (tgt := 998) d_L_law_681 rfl (fun _ => ?_) (fun hc => absurd (by decide) hc)
    refine Tr.iinc (pc := 998) (ls2 := [(3, (0, 6)), (2, (2, 120)), (1, (2, 0)), (0, (2, (-2)))]) d_L_law_998 rfl (by decide) rfl ?_
    refine Tr.goto (pc := 1001) (tgt := 18) d_L_law_1001 rfl ?_
    refine Tr.iload_n (pc := 18) (i := 3) d_L_law_18 rfl rfl ?_
    refine Tr.aload_n (pc := 19) (i := 0) d_L_law_19 rfl rfl ?_
    refine Tr.xlen (pc := 20) (i := 0) d_L_law_20 rfl he (by decide) ?_
    refine Tr.tp 6 rfl ?_
    refine Tr.bipush (pc := 21) d_L_law_21 rfl (by decide) ?_
    refine Tr.isub (pc := 23) d_L_law_23 ?_
    refine Tr.tp 0 rfl ?_
    refine Tr.icmp_gt (pc := 24) (tgt := 1004) d_L_law_24 rfl (fun _ => ?_) (fun hc => absurd (by decide) hc)
    refine Tr.iconst (pc := 1004) d_L_law_1004 (by decide) ?_
    exact Tr.zret (pc := 1005) d_L_law_1005 rfl (by decide) ⟨rfl, Fx_room hF⟩
  · refine Tr.iconst (pc := 640) d_L_law_640 (by decide) ?_
    refine Tr.goto (pc := 641) (tgt := 645) d_L_law_641 rfl ?_
    refine Tr.callV (pc := 645) (as := [_, _, _, _]) d_L_law_645 s_13_81 ok_X11_byTurns rfl rfl (Nat.le_of_ble_eq_true rfl) (Nat.le_of_ble_eq_true rfl) (by decide) (ty_0 hF) ?_
    refine Tr.lc [(0, (2, 0)), (1, (0, _)), (2, (0, _)), (3, (0, _)), (4, (0, 1))] rfl ?_
    refine Tr.aload_n (pc := 0) (i := 0) d_X11_byTurns_0 rfl rfl ?_
    refine Tr.iload_n (pc := 1) (i := 1) d_X11_byTurns_1 rfl rfl ?_
    refine Tr.iload_n (pc := 2) (i := 2) d_X11_byTurns_2 rfl rfl ?_
    refine Tr.callV (pc := 3) (as := [_, _]) d_X11_byTurns_3 s_11_214 ok_X11_stretchPlace rfl rfl (Nat.le_of_ble_eq_true rfl) (Nat.le_of_ble_eq_true rfl) (by decide) (ty_0 hF) ?_
    refine Tr.lc [(0, (2, 0)), (1, (0, _)), (2, (0, _))] rfl ?_
    refine Tr.aload_n (pc := 0) (i := 0) d_X11_stretchPlace_0 rfl rfl ?_
    refine Tr.getz (pc := 1) d_X11_stretchPlace_1 f_11_109 (by decide) (ty_0 hF) ?_
    refine Tr.tp 0 (b_0_9) ?_
    refine Tr.if_eq (pc := 4) (tgt := 19) d_X11_stretchPlace_4 rfl (fun _ => ?_) (fun hc => absurd (by decide) hc)
    refine Tr.iconst (pc := 19) d_X11_stretchPlace_19 (by decide) ?_
    refine Tr.iret (pc := 20) d_X11_stretchPlace_20 rfl ?_
    refine Tr.sc [_] rfl ?_
    refine Tr.istore (pc := 6) (i := 5) (ls2 := [(5, (0, (-1))), (0, (2, 0)), (1, (0, _)), (2, (0, _)), (3, (0, _)), (4, (0, 1))]) d_X11_byTurns_6 (by decide) rfl ?_
    refine Tr.iload (pc := 8) (i := 5) d_X11_byTurns_8 rfl ?_
    refine Tr.if_lt (pc := 10) (tgt := 21) d_X11_byTurns_10 rfl (fun _ => ?_) (fun hc => absurd (by decide) hc)
    refine Tr.ldc2 (pc := 21) d_X11_byTurns_21 kl_11_230 (by decide) ?_
    refine Tr.lret (pc := 24) d_X11_byTurns_24 rfl ?_
    refine Tr.sc [_] rfl ?_
    refine Tr.aload_n (pc := 648) (i := 2) d_L_law_648 rfl rfl ?_
    refine Tr.aload_n (pc := 649) (i := 0) d_L_law_649 rfl rfl ?_
    refine Tr.iload_n (pc := 650) (i := 3) d_L_law_650 rfl rfl ?_
    refine Tr.iconst (pc := 651) d_L_law_651 (by decide) ?_
    refine Tr.iadd (pc := 652) d_L_law_652 ?_
    refine Tr.tp 1 rfl ?_
    refine Tr.xld (pc := 653) (i := 0) d_L_law_653 rfl he (by decide) (by decide) ?_
    refine Tr.tp a1 g1 ?_
    refine Tr.aload_n (pc := 654) (i := 0) d_L_law_654 rfl rfl ?_
    refine Tr.iload_n (pc := 655) (i := 3) d_L_law_655 rfl rfl ?_
    refine Tr.iconst (pc := 656) d_L_law_656 (by decide) ?_
    refine Tr.iadd (pc := 657) d_L_law_657 ?_
    refine Tr.tp 2 rfl ?_
    refine Tr.xld (pc := 658) (i := 0) d_L_law_658 rfl he (by decide) (by decide) ?_
    refine Tr.tp a2 g2 ?_
    refine Tr.aload_n (pc := 659) (i := 0) d_L_law_659 rfl rfl ?_
    refine Tr.iload_n (pc := 660) (i := 3) d_L_law_660 rfl rfl ?_
    refine Tr.iconst (pc := 661) d_L_law_661 (by decide) ?_
    refine Tr.iadd (pc := 662) d_L_law_662 ?_
    refine Tr.tp 3 rfl ?_
    refine Tr.xld (pc := 663) (i := 0) d_L_law_663 rfl he (by decide) (by decide) ?_
    refine Tr.tp a3 g3 ?_
    refine Tr.aload_n (pc := 664) (i := 0) d_L_law_664 rfl rfl ?_
    refine Tr.iload_n (pc := 665) (i := 3) d_L_law_665 rfl rfl ?_
    refine Tr.iconst (pc := 666) d_L_law_666 (by decide) ?_
    refine Tr.iadd (pc := 667) d_L_law_667 ?_
    refine Tr.tp 4 rfl ?_
    refine Tr.xld (pc := 668) (i := 0) d_L_law_668 rfl he (by decide) (by decide) ?_
    refine Tr.tp a4 g4 ?_
    refine Tr.if_eq (pc := 669) (tgt := 676) d_L_law_669 rfl (fun hc => absurd hc (by omega)) (fun _ => ?_)
    refine Tr.iconst (pc := 672) d_L_law_672 (by decide) ?_
    refine Tr.goto (pc := 673) (tgt := 677) d_L_law_673 rfl ?_
    refine Tr.callV (pc := 677) (as := [_, _, _, _]) d_L_law_677 s_13_85 ok_X12_byTurns rfl rfl (Nat.le_of_ble_eq_true rfl) (Nat.le_of_ble_eq_true rfl) (by decide) (ty_120 hF) ?_
    refine Tr.lc [(0, (2, 120)), (1, (0, _)), (2, (0, _)), (3, (0, _)), (4, (0, 1))] rfl ?_
    refine Tr.aload_n (pc := 0) (i := 0) d_X12_byTurns_0 rfl rfl ?_
    refine Tr.getz (pc := 1) d_X12_byTurns_1 f_12_270 (by decide) (ty_120 hF) ?_
    refine Tr.tp 0 (b_120_85) ?_
    refine Tr.if_eq (pc := 4) (tgt := 36) d_X12_byTurns_4 rfl (fun _ => ?_) (fun hc => absurd (by decide) hc)
    refine Tr.ldc2 (pc := 36) d_X12_byTurns_36 kl_12_669 (by decide) ?_
    refine Tr.lret (pc := 39) d_X12_byTurns_39 rfl ?_
    refine Tr.sc [_, _] rfl ?_
    refine Tr.lcmp (pc := 680) d_L_law_680 ?_
    refine Tr.tp 0 rfl ?_
    refine Tr.if_eq (pc := 681) (tgt := 998) d_L_law_681 rfl (fun _ => ?_) (fun hc => absurd (by decide) hc)
    refine Tr.iinc (pc := 998) (ls2 := [(3, (0, 6)), (2, (2, 120)), (1, (2, 0)), (0, (2, (-2)))]) d_L_law_998 rfl (by decide) rfl ?_
    refine Tr.goto (pc := 1001) (tgt := 18) d_L_law_1001 rfl ?_
    refine Tr.iload_n (pc := 18) (i := 3) d_L_law_18 rfl rfl ?_
    refine Tr.aload_n (pc := 19) (i := 0) d_L_law_19 rfl rfl ?_
    refine Tr.xlen (pc := 20) (i := 0) d_L_law_20 rfl he (by decide) ?_
    refine Tr.tp 6 rfl ?_
    refine Tr.bipush (pc := 21) d_L_law_21 rfl (by decide) ?_
    refine Tr.isub (pc := 23) d_L_law_23 ?_
    refine Tr.tp 0 rfl ?_
    refine Tr.icmp_gt (pc := 24) (tgt := 1004) d_L_law_24 rfl (fun _ => ?_) (fun hc => absurd (by decide) hc)
    refine Tr.iconst (pc := 1004) d_L_law_1004 (by decide) ?_
    exact Tr.zret (pc := 1005) d_L_law_1005 rfl (by decide) ⟨rfl, Fx_room hF⟩
set_option maxRecDepth 100000 in
set_option maxHeartbeats 4000000 in
theorem op_wasted {l : Launch} {K : EC} {f : Int → Int} (he : e_ext K 0 6 f) (hr : ∀ j, -2147483648 ≤ f j ∧ f j ≤ 2147483647) : Tr l K 20 mL_law 686 [(3, (0, 0)), (2, (2, 120)), (1, (2, 0)), (0, (2, -2))] [] C_461 (fun M' r => r = some (0, 1) ∧ M'.1 ≤ 600000 ∧ M'.2.1 ≤ room_1.slots) := by
  obtain ⟨a1, g1⟩ : ∃ a, f 1 = a := ⟨_, rfl⟩
  have r1 := hr 1
  rw [g1] at r1
  obtain ⟨a2, g2⟩ : ∃ a, f 2 = a := ⟨_, rfl⟩
  have r2 := hr 2
  rw [g2] at r2
  obtain ⟨a3, g3⟩ : ∃ a, f 3 = a := ⟨_, rfl⟩
  have r3 := hr 3
  rw [g3] at r3
  obtain ⟨a4, g4⟩ : ∃ a, f 4 = a := ⟨_, rfl⟩
  have r4 := hr 4
  rw [g4] at r4
  obtain ⟨a5, g5⟩ : ∃ a, f 5 = a := ⟨_, rfl⟩
  have r5 := hr 5
  rw [g5] at r5
  have hF := Fx_0
  refine Tr.aload_n (pc := 686) (i := 1) d_L_law_686 rfl rfl ?_
  refine Tr.aload_n (pc := 687) (i := 0) d_L_law_687 rfl rfl ?_
  refine Tr.iload_n (pc := 688) (i := 3) d_L_law_688 rfl rfl ?_
  refine Tr.iconst (pc := 689) d_L_law_689 (by decide) ?_
  refine Tr.iadd (pc := 690) d_L_law_690 ?_
  refine Tr.tp 1 rfl ?_
  refine Tr.xld (pc := 691) (i := 0) d_L_law_691 rfl he (by decide) (by decide) ?_
  refine Tr.tp a1 g1 ?_
  refine Tr.callV (pc := 692) (as := [_]) d_L_law_692 s_13_86 ok_X11_wasted rfl rfl (Nat.le_of_ble_eq_true rfl) (Nat.le_of_ble_eq_true rfl) (by decide) (ty_0 hF) ?_
  refine Tr.lc [(0, (2, 0)), (1, (0, _))] rfl ?_
  refine Tr.aload_n (pc := 0) (i := 0) d_X11_wasted_0 rfl rfl ?_
  refine Tr.getz (pc := 1) d_X11_wasted_1 f_11_109 (by decide) (ty_0 hF) ?_
  refine Tr.tp 0 (b_0_9) ?_
  refine Tr.if_eq (pc := 4) (tgt := 15) d_X11_wasted_4 rfl (fun _ => ?_) (fun hc => absurd (by decide) hc)
  refine Tr.iconst (pc := 15) d_X11_wasted_15 (by decide) ?_
  refine Tr.iret (pc := 16) d_X11_wasted_16 rfl ?_
  refine Tr.sc [_] rfl ?_
  refine Tr.aload_n (pc := 695) (i := 2) d_L_law_695 rfl rfl ?_
  refine Tr.aload_n (pc := 696) (i := 0) d_L_law_696 rfl rfl ?_
  refine Tr.iload_n (pc := 697) (i := 3) d_L_law_697 rfl rfl ?_
  refine Tr.iconst (pc := 698) d_L_law_698 (by decide) ?_
  refine Tr.iadd (pc := 699) d_L_law_699 ?_
  refine Tr.tp 1 rfl ?_
  refine Tr.xld (pc := 700) (i := 0) d_L_law_700 rfl he (by decide) (by decide) ?_
  refine Tr.tp a1 g1 ?_
  refine Tr.callV (pc := 701) (as := [_]) d_L_law_701 s_13_89 ok_X12_wasted rfl rfl (Nat.le_of_ble_eq_true rfl) (Nat.le_of_ble_eq_true rfl) (by decide) (ty_120 hF) ?_
  refine Tr.lc [(0, (2, 120)), (1, (0, _))] rfl ?_
  refine Tr.aload_n (pc := 0) (i := 0) d_X12_wasted_0 rfl rfl ?_
  refine Tr.getz (pc := 1) d_X12_wasted_1 f_12_270 (by decide) (ty_120 hF) ?_
  refine Tr.tp 0 (b_120_85) ?_
  refine Tr.if_eq (pc := 4) (tgt := 15) d_X12_wasted_4 rfl (fun _ => ?_) (fun hc => absurd (by decide) hc)
  refine Tr.iconst (pc := 15) d_X12_wasted_15 (by decide) ?_
  refine Tr.iret (pc := 16) d_X12_wasted_16 rfl ?_
  refine Tr.sc [_, _] rfl ?_
  refine Tr.icmp_eq (pc := 704) (tgt := 998) d_L_law_704 rfl (fun _ => ?_) (fun hc => absurd (by decide) hc)
  refine Tr.iinc (pc := 998) (ls2 := [(3, (0, 6)), (2, (2, 120)), (1, (2, 0)), (0, (2, (-2)))]) d_L_law_998 rfl (by decide) rfl ?_
  refine Tr.goto (pc := 1001) (tgt := 18) d_L_law_1001 rfl ?_
  refine Tr.iload_n (pc := 18) (i := 3) d_L_law_18 rfl rfl ?_
  refine Tr.aload_n (pc := 19) (i := 0) d_L_law_19 rfl rfl ?_
  refine Tr.xlen (pc := 20) (i := 0) d_L_law_20 rfl he (by decide) ?_
  refine Tr.tp 6 rfl ?_
  refine Tr.bipush (pc := 21) d_L_law_21 rfl (by decide) ?_
  refine Tr.isub (pc := 23) d_L_law_23 ?_
  refine Tr.tp 0 rfl ?_
  refine Tr.icmp_gt (pc := 24) (tgt := 1004) d_L_law_24 rfl (fun _ => ?_) (fun hc => absurd (by decide) hc)
  refine Tr.iconst (pc := 1004) d_L_law_1004 (by decide) ?_
  exact Tr.zret (pc := 1005) d_L_law_1005 rfl (by decide) ⟨rfl, Fx_room hF⟩
set_option maxRecDepth 100000 in
set_option maxHeartbeats 4000000 in
theorem op_where {l : Launch} {K : EC} {f : Int → Int} (he : e_ext K 0 6 f) (hr : ∀ j, -2147483648 ≤ f j ∧ f j ≤ 2147483647) : Tr l K 20 mL_law 748 [(3, (0, 0)), (2, (2, 120)), (1, (2, 0)), (0, (2, -2))] [] C_461 (fun M' r => r = some (0, 1) ∧ M'.1 ≤ 600000 ∧ M'.2.1 ≤ room_1.slots) := by
  obtain ⟨a1, g1⟩ : ∃ a, f 1 = a := ⟨_, rfl⟩
  have r1 := hr 1
  rw [g1] at r1
  obtain ⟨a2, g2⟩ : ∃ a, f 2 = a := ⟨_, rfl⟩
  have r2 := hr 2
  rw [g2] at r2
  obtain ⟨a3, g3⟩ : ∃ a, f 3 = a := ⟨_, rfl⟩
  have r3 := hr 3
  rw [g3] at r3
  obtain ⟨a4, g4⟩ : ∃ a, f 4 = a := ⟨_, rfl⟩
  have r4 := hr 4
  rw [g4] at r4
  obtain ⟨a5, g5⟩ : ∃ a, f 5 = a := ⟨_, rfl⟩
  have r5 := hr 5
  rw [g5] at r5
  have hF := Fx_0
  refine Tr.aload_n (pc := 748) (i := 1) d_L_law_748 rfl rfl ?_
  refine Tr.aload_n (pc := 749) (i := 0) d_L_law_749 rfl rfl ?_
  refine Tr.iload_n (pc := 750) (i := 3) d_L_law_750 rfl rfl ?_
  refine Tr.iconst (pc := 751) d_L_law_751 (by decide) ?_
  refine Tr.iadd (pc := 752) d_L_law_752 ?_
  refine Tr.tp 1 rfl ?_
  refine Tr.xld (pc := 753) (i := 0) d_L_law_753 rfl he (by decide) (by decide) ?_
  refine Tr.tp a1 g1 ?_
  refine Tr.callV (pc := 754) (as := [_]) d_L_law_754 s_13_95 ok_X11_where rfl rfl (Nat.le_of_ble_eq_true rfl) (Nat.le_of_ble_eq_true rfl) (by decide) (ty_0 hF) ?_
  refine Tr.lc [(0, (2, 0)), (1, (0, _))] rfl ?_
  refine Tr.iload_n (pc := 0) (i := 1) d_X11_where_0 rfl rfl ?_
  refine Tr.if_lt (pc := 1) (tgt := 17) d_X11_where_1 rfl (fun h1 => ?_) (fun h1 => ?_)
  · refine Tr.iconst (pc := 17) d_X11_where_17 (by decide) ?_
    refine Tr.iret (pc := 18) d_X11_where_18 rfl ?_
    refine Tr.sc [_] rfl ?_
    refine Tr.aload_n (pc := 757) (i := 2) d_L_law_757 rfl rfl ?_
    refine Tr.aload_n (pc := 758) (i := 0) d_L_law_758 rfl rfl ?_
    refine Tr.iload_n (pc := 759) (i := 3) d_L_law_759 rfl rfl ?_
    refine Tr.iconst (pc := 760) d_L_law_760 (by decide) ?_
    refine Tr.iadd (pc := 761) d_L_law_761 ?_
    refine Tr.tp 1 rfl ?_
    refine Tr.xld (pc := 762) (i := 0) d_L_law_762 rfl he (by decide) (by decide) ?_
    refine Tr.tp a1 g1 ?_
    refine Tr.callV (pc := 763) (as := [_]) d_L_law_763 s_13_98 ok_X12_where rfl rfl (Nat.le_of_ble_eq_true rfl) (Nat.le_of_ble_eq_true rfl) (by decide) (ty_120 hF) ?_
    refine Tr.lc [(0, (2, 120)), (1, (0, _))] rfl ?_
    refine Tr.aload_n (pc := 0) (i := 0) d_X12_where_0 rfl rfl ?_
    refine Tr.getz (pc := 1) d_X12_where_1 f_12_327 (by decide) (ty_120 hF) ?_
    refine Tr.tp 0 (b_120_104) ?_
    refine Tr.if_eq (pc := 4) (tgt := 24) d_X12_where_4 rfl (fun _ => ?_) (fun hc => absurd (by decide) hc)
    refine Tr.iconst (pc := 24) d_X12_where_24 (by decide) ?_
    refine Tr.iret (pc := 25) d_X12_where_25 rfl ?_
    refine Tr.sc [_, _] rfl ?_
    refine Tr.icmp_eq (pc := 766) (tgt := 998) d_L_law_766 rfl (fun _ => ?_) (fun hc => absurd (by decide) hc)
    refine Tr.iinc (pc := 998) (ls2 := [(3, (0, 6)), (2, (2, 120)), (1, (2, 0)), (0, (2, (-2)))]) d_L_law_998 rfl (by decide) rfl ?_
    refine Tr.goto (pc := 1001) (tgt := 18) d_L_law_1001 rfl ?_
    refine Tr.iload_n (pc := 18) (i := 3) d_L_law_18 rfl rfl ?_
    refine Tr.aload_n (pc := 19) (i := 0) d_L_law_19 rfl rfl ?_
    refine Tr.xlen (pc := 20) (i := 0) d_L_law_20 rfl he (by decide) ?_
    refine Tr.tp 6 rfl ?_
    refine Tr.bipush (pc := 21) d_L_law_21 rfl (by decide) ?_
    refine Tr.isub (pc := 23) d_L_law_23 ?_
    refine Tr.tp 0 rfl ?_
    refine Tr.icmp_gt (pc := 24) (tgt := 1004) d_L_law_24 rfl (fun _ => ?_) (fun hc => absurd (by decide) hc)
    refine Tr.iconst (pc := 1004) d_L_law_1004 (by decide) ?_
    exact Tr.zret (pc := 1005) d_L_law_1005 rfl (by decide) ⟨rfl, Fx_room hF⟩
  · refine Tr.iload_n (pc := 4) (i := 1) d_X11_where_4 rfl rfl ?_
    refine Tr.aload_n (pc := 5) (i := 0) d_X11_where_5 rfl rfl ?_
    refine Tr.getf (pc := 6) d_X11_where_6 f_11_30 (by decide) (by decide) (ty_0 hF) ?_
    refine Tr.tp 7 (b_0_4) ?_
    refine Tr.getf (pc := 9) d_X11_where_9 f_11_130 (by decide) (by decide) (ty_7 hF) ?_
    refine Tr.tp 8 (fx_7_4 hF) ?_
    refine Tr.iconst (pc := 12) d_X11_where_12 (by decide) ?_
    refine Tr.iald (pc := 13) d_X11_where_13 (ty_8 hF) (by decide) (by decide) ?_
    refine Tr.tp 0 (b_8_1) ?_
    refine Tr.icmp_lt (pc := 14) (tgt := 19) d_X11_where_14 rfl (fun hc => absurd hc (by omega)) (fun _ => ?_)
    refine Tr.iconst (pc := 17) d_X11_where_17 (by decide) ?_
    refine Tr.iret (pc := 18) d_X11_where_18 rfl ?_
    refine Tr.sc [_] rfl ?_
    refine Tr.aload_n (pc := 757) (i := 2) d_L_law_757 rfl rfl ?_
    refine Tr.aload_n (pc := 758) (i := 0) d_L_law_758 rfl rfl ?_
    refine Tr.iload_n (pc := 759) (i := 3) d_L_law_759 rfl rfl ?_
    refine Tr.iconst (pc := 760) d_L_law_760 (by decide) ?_
    refine Tr.iadd (pc := 761) d_L_law_761 ?_
    refine Tr.tp 1 rfl ?_
    refine Tr.xld (pc := 762) (i := 0) d_L_law_762 rfl he (by decide) (by decide) ?_
    refine Tr.tp a1 g1 ?_
    refine Tr.callV (pc := 763) (as := [_]) d_L_law_763 s_13_98 ok_X12_where rfl rfl (Nat.le_of_ble_eq_true rfl) (Nat.le_of_ble_eq_true rfl) (by decide) (ty_120 hF) ?_
    refine Tr.lc [(0, (2, 120)), (1, (0, _))] rfl ?_
    refine Tr.aload_n (pc := 0) (i := 0) d_X12_where_0 rfl rfl ?_
    refine Tr.getz (pc := 1) d_X12_where_1 f_12_327 (by decide) (ty_120 hF) ?_
    refine Tr.tp 0 (b_120_104) ?_
    refine Tr.if_eq (pc := 4) (tgt := 24) d_X12_where_4 rfl (fun _ => ?_) (fun hc => absurd (by decide) hc)
    refine Tr.iconst (pc := 24) d_X12_where_24 (by decide) ?_
    refine Tr.iret (pc := 25) d_X12_where_25 rfl ?_
    refine Tr.sc [_, _] rfl ?_
    refine Tr.icmp_eq (pc := 766) (tgt := 998) d_L_law_766 rfl (fun _ => ?_) (fun hc => absurd (by decide) hc)
    refine Tr.iinc (pc := 998) (ls2 := [(3, (0, 6)), (2, (2, 120)), (1, (2, 0)), (0, (2, (-2)))]) d_L_law_998 rfl (by decide) rfl ?_
    refine Tr.goto (pc := 1001) (tgt := 18) d_L_law_1001 rfl ?_
    refine Tr.iload_n (pc := 18) (i := 3) d_L_law_18 rfl rfl ?_
    refine Tr.aload_n (pc := 19) (i := 0) d_L_law_19 rfl rfl ?_
    refine Tr.xlen (pc := 20) (i := 0) d_L_law_20 rfl he (by decide) ?_
    refine Tr.tp 6 rfl ?_
    refine Tr.bipush (pc := 21) d_L_law_21 rfl (by decide) ?_
    refine Tr.isub (pc := 23) d_L_law_23 ?_
    refine Tr.tp 0 rfl ?_
    refine Tr.icmp_gt (pc := 24) (tgt := 1004) d_L_law_24 rfl (fun _ => ?_) (fun hc => absurd (by decide) hc)
    refine Tr.iconst (pc := 1004) d_L_law_1004 (by decide) ?_
    exact Tr.zret (pc := 1005) d_L_law_1005 rfl (by decide) ⟨rfl, Fx_room hF⟩
set_option maxRecDepth 100000 in
set_option maxHeartbeats 4000000 in
theorem op_fit {l : Launch} {K : EC} {f : Int → Int} (he : e_ext K 0 6 f) (hr : ∀ j, -2147483648 ≤ f j ∧ f j ≤ 2147483647) : Tr l K 20 mL_law 794 [(3, (0, 0)), (2, (2, 120)), (1, (2, 0)), (0, (2, -2))] [] C_461 (fun M' r => r = some (0, 1) ∧ M'.1 ≤ 600000 ∧ M'.2.1 ≤ room_1.slots) := by
  obtain ⟨a1, g1⟩ : ∃ a, f 1 = a := ⟨_, rfl⟩
  have r1 := hr 1
  rw [g1] at r1
  obtain ⟨a2, g2⟩ : ∃ a, f 2 = a := ⟨_, rfl⟩
  have r2 := hr 2
  rw [g2] at r2
  obtain ⟨a3, g3⟩ : ∃ a, f 3 = a := ⟨_, rfl⟩
  have r3 := hr 3
  rw [g3] at r3
  obtain ⟨a4, g4⟩ : ∃ a, f 4 = a := ⟨_, rfl⟩
  have r4 := hr 4
  rw [g4] at r4
  obtain ⟨a5, g5⟩ : ∃ a, f 5 = a := ⟨_, rfl⟩
  have r5 := hr 5
  rw [g5] at r5
  have hF := Fx_0
  refine Tr.aload_n (pc := 794) (i := 1) d_L_law_794 rfl rfl ?_
  refine Tr.aload_n (pc := 795) (i := 0) d_L_law_795 rfl rfl ?_
  refine Tr.iload_n (pc := 796) (i := 3) d_L_law_796 rfl rfl ?_
  refine Tr.iconst (pc := 797) d_L_law_797 (by decide) ?_
  refine Tr.iadd (pc := 798) d_L_law_798 ?_
  refine Tr.tp 1 rfl ?_
  refine Tr.xld (pc := 799) (i := 0) d_L_law_799 rfl he (by decide) (by decide) ?_
  refine Tr.tp a1 g1 ?_
  refine Tr.callV (pc := 800) (as := [_]) d_L_law_800 s_13_103 ok_X11_fit rfl rfl (Nat.le_of_ble_eq_true rfl) (Nat.le_of_ble_eq_true rfl) (by decide) (ty_0 hF) ?_
  refine Tr.lc [(0, (2, 0)), (1, (0, _))] rfl ?_
  refine Tr.aload_n (pc := 0) (i := 0) d_X11_fit_0 rfl rfl ?_
  refine Tr.iload_n (pc := 1) (i := 1) d_X11_fit_1 rfl rfl ?_
  refine Tr.callV (pc := 2) (as := [_]) d_X11_fit_2 s_11_174 ok_X11_isPart rfl rfl (Nat.le_of_ble_eq_true rfl) (Nat.le_of_ble_eq_true rfl) (by decide) (ty_0 hF) ?_
  refine Tr.lc [(0, (2, 0)), (1, (0, _))] rfl ?_
  refine Tr.iload_n (pc := 0) (i := 1) d_X11_isPart_0 rfl rfl ?_
  refine Tr.if_lt (pc := 1) (tgt := 21) d_X11_isPart_1 rfl (fun h1 => ?_) (fun h1 => ?_)
  · refine Tr.iconst (pc := 21) d_X11_isPart_21 (by decide) ?_
    refine Tr.zret (pc := 22) d_X11_isPart_22 rfl (by decide) ?_
    refine Tr.sc [_] rfl ?_
    refine Tr.if_eq (pc := 5) (tgt := 18) d_X11_fit_5 rfl (fun _ => ?_) (fun hc => absurd (by decide) hc)
    refine Tr.iconst (pc := 18) d_X11_fit_18 (by decide) ?_
    refine Tr.iret (pc := 19) d_X11_fit_19 rfl ?_
    refine Tr.sc [_] rfl ?_
    refine Tr.aload_n (pc := 803) (i := 2) d_L_law_803 rfl rfl ?_
    refine Tr.aload_n (pc := 804) (i := 0) d_L_law_804 rfl rfl ?_
    refine Tr.iload_n (pc := 805) (i := 3) d_L_law_805 rfl rfl ?_
    refine Tr.iconst (pc := 806) d_L_law_806 (by decide) ?_
    refine Tr.iadd (pc := 807) d_L_law_807 ?_
    refine Tr.tp 1 rfl ?_
    refine Tr.xld (pc := 808) (i := 0) d_L_law_808 rfl he (by decide) (by decide) ?_
    refine Tr.tp a1 g1 ?_
    refine Tr.callV (pc := 809) (as := [_]) d_L_law_809 s_13_106 ok_X12_fit rfl rfl (Nat.le_of_ble_eq_true rfl) (Nat.le_of_ble_eq_true rfl) (by decide) (ty_120 hF) ?_
    refine Tr.lc [(0, (2, 120)), (1, (0, _))] rfl ?_
    refine Tr.aload_n (pc := 0) (i := 0) d_X12_fit_0 rfl rfl ?_
    refine Tr.iload_n (pc := 1) (i := 1) d_X12_fit_1 rfl rfl ?_
    refine Tr.callV (pc := 2) (as := [_]) d_X12_fit_2 s_12_555 ok_X12_isPart rfl rfl (Nat.le_of_ble_eq_true rfl) (Nat.le_of_ble_eq_true rfl) (by decide) (ty_120 hF) ?_
    refine Tr.lc [(0, (2, 120)), (1, (0, _))] rfl ?_
    refine Tr.iload_n (pc := 0) (i := 1) d_X12_isPart_0 rfl rfl ?_
    refine Tr.iconst (pc := 1) d_X12_isPart_1 (by decide) ?_
    refine Tr.aload_n (pc := 2) (i := 0) d_X12_isPart_2 rfl rfl ?_
    refine Tr.getf (pc := 3) d_X12_isPart_3 f_12_63 (by decide) (by decide) (ty_120 hF) ?_
    refine Tr.tp 126 (fx_120_17 hF) ?_
    refine Tr.aload_n (pc := 6) (i := 0) d_X12_isPart_6 rfl rfl ?_
    refine Tr.getf (pc := 7) d_X12_isPart_7 f_12_48 (by decide) (by decide) (ty_120 hF) ?_
    refine Tr.tp 0 (b_120_12) ?_
    refine Tr.iald (pc := 10) d_X12_isPart_10 (ty_126 hF) (by decide) (by decide) ?_
    refine Tr.tp 0 (b_126_0) ?_
    refine Tr.iconst (pc := 11) d_X12_isPart_11 (by decide) ?_
    refine Tr.isub (pc := 12) d_X12_isPart_12 ?_
    refine Tr.tp (-1) rfl ?_
    refine Tr.callS (pc := 13) (as := [_, _, _]) d_X12_isPart_13 s_12_467 ok_X12_is rfl rfl (Nat.le_of_ble_eq_true rfl) (Nat.le_of_ble_eq_true rfl) ?_
    refine Tr.lc [(0, (0, _)), (1, (0, 0)), (2, (0, (-1)))] rfl ?_
    refine Tr.iload_n (pc := 0) (i := 0) d_X12_is_0 rfl rfl ?_
    refine Tr.iload_n (pc := 1) (i := 1) d_X12_is_1 rfl rfl ?_
    refine Tr.icmp_lt (pc := 2) (tgt := 14) d_X12_is_2 rfl (fun _ => ?_) (fun hc => absurd (by omega) hc)
    refine Tr.iconst (pc := 14) d_X12_is_14 (by decide) ?_
    refine Tr.zret (pc := 15) d_X12_is_15 rfl (by decide) ?_
    refine Tr.sc [_] rfl ?_
    refine Tr.zret (pc := 16) d_X12_isPart_16 rfl (by decide) ?_
    refine Tr.sc [_] rfl ?_
    refine Tr.if_eq (pc := 5) (tgt := 15) d_X12_fit_5 rfl (fun _ => ?_) (fun hc => absurd (by decide) hc)
    refine Tr.iconst (pc := 15) d_X12_fit_15 (by decide) ?_
    refine Tr.iret (pc := 16) d_X12_fit_16 rfl ?_
    refine Tr.sc [_, _] rfl ?_
    refine Tr.icmp_eq (pc := 812) (tgt := 998) d_L_law_812 rfl (fun _ => ?_) (fun hc => absurd (by decide) hc)
    refine Tr.iinc (pc := 998) (ls2 := [(3, (0, 6)), (2, (2, 120)), (1, (2, 0)), (0, (2, (-2)))]) d_L_law_998 rfl (by decide) rfl ?_
    refine Tr.goto (pc := 1001) (tgt := 18) d_L_law_1001 rfl ?_
    refine Tr.iload_n (pc := 18) (i := 3) d_L_law_18 rfl rfl ?_
    refine Tr.aload_n (pc := 19) (i := 0) d_L_law_19 rfl rfl ?_
    refine Tr.xlen (pc := 20) (i := 0) d_L_law_20 rfl he (by decide) ?_
    refine Tr.tp 6 rfl ?_
    refine Tr.bipush (pc := 21) d_L_law_21 rfl (by decide) ?_
    refine Tr.isub (pc := 23) d_L_law_23 ?_
    refine Tr.tp 0 rfl ?_
    refine Tr.icmp_gt (pc := 24) (tgt := 1004) d_L_law_24 rfl (fun _ => ?_) (fun hc => absurd (by decide) hc)
    refine Tr.iconst (pc := 1004) d_L_law_1004 (by decide) ?_
    exact Tr.zret (pc := 1005) d_L_law_1005 rfl (by decide) ⟨rfl, Fx_room hF⟩
  · refine Tr.iload_n (pc := 4) (i := 1) d_X11_isPart_4 rfl rfl ?_
    refine Tr.aload_n (pc := 5) (i := 0) d_X11_isPart_5 rfl rfl ?_
    refine Tr.getf (pc := 6) d_X11_isPart_6 f_11_30 (by decide) (by decide) (ty_0 hF) ?_
    refine Tr.tp 7 (b_0_4) ?_
    refine Tr.getf (pc := 9) d_X11_isPart_9 f_11_130 (by decide) (by decide) (ty_7 hF) ?_
    refine Tr.tp 8 (fx_7_4 hF) ?_
    refine Tr.iconst (pc := 12) d_X11_isPart_12 (by decide) ?_
    refine Tr.iald (pc := 13) d_X11_isPart_13 (ty_8 hF) (by decide) (by decide) ?_
    refine Tr.tp 0 (b_8_0) ?_
    refine Tr.icmp_ge (pc := 14) (tgt := 21) d_X11_isPart_14 rfl (fun _ => ?_) (fun hc => absurd (by omega) hc)
    refine Tr.iconst (pc := 21) d_X11_isPart_21 (by decide) ?_
    refine Tr.zret (pc := 22) d_X11_isPart_22 rfl (by decide) ?_
    refine Tr.sc [_] rfl ?_
    refine Tr.if_eq (pc := 5) (tgt := 18) d_X11_fit_5 rfl (fun _ => ?_) (fun hc => absurd (by decide) hc)
    refine Tr.iconst (pc := 18) d_X11_fit_18 (by decide) ?_
    refine Tr.iret (pc := 19) d_X11_fit_19 rfl ?_
    refine Tr.sc [_] rfl ?_
    refine Tr.aload_n (pc := 803) (i := 2) d_L_law_803 rfl rfl ?_
    refine Tr.aload_n (pc := 804) (i := 0) d_L_law_804 rfl rfl ?_
    refine Tr.iload_n (pc := 805) (i := 3) d_L_law_805 rfl rfl ?_
    refine Tr.iconst (pc := 806) d_L_law_806 (by decide) ?_
    refine Tr.iadd (pc := 807) d_L_law_807 ?_
    refine Tr.tp 1 rfl ?_
    refine Tr.xld (pc := 808) (i := 0) d_L_law_808 rfl he (by decide) (by decide) ?_
    refine Tr.tp a1 g1 ?_
    refine Tr.callV (pc := 809) (as := [_]) d_L_law_809 s_13_106 ok_X12_fit rfl rfl (Nat.le_of_ble_eq_true rfl) (Nat.le_of_ble_eq_true rfl) (by decide) (ty_120 hF) ?_
    refine Tr.lc [(0, (2, 120)), (1, (0, _))] rfl ?_
    refine Tr.aload_n (pc := 0) (i := 0) d_X12_fit_0 rfl rfl ?_
    refine Tr.iload_n (pc := 1) (i := 1) d_X12_fit_1 rfl rfl ?_
    refine Tr.callV (pc := 2) (as := [_]) d_X12_fit_2 s_12_555 ok_X12_isPart rfl rfl (Nat.le_of_ble_eq_true rfl) (Nat.le_of_ble_eq_true rfl) (by decide) (ty_120 hF) ?_
    refine Tr.lc [(0, (2, 120)), (1, (0, _))] rfl ?_
    refine Tr.iload_n (pc := 0) (i := 1) d_X12_isPart_0 rfl rfl ?_
    refine Tr.iconst (pc := 1) d_X12_isPart_1 (by decide) ?_
    refine Tr.aload_n (pc := 2) (i := 0) d_X12_isPart_2 rfl rfl ?_
    refine Tr.getf (pc := 3) d_X12_isPart_3 f_12_63 (by decide) (by decide) (ty_120 hF) ?_
    refine Tr.tp 126 (fx_120_17 hF) ?_
    refine Tr.aload_n (pc := 6) (i := 0) d_X12_isPart_6 rfl rfl ?_
    refine Tr.getf (pc := 7) d_X12_isPart_7 f_12_48 (by decide) (by decide) (ty_120 hF) ?_
    refine Tr.tp 0 (b_120_12) ?_
    refine Tr.iald (pc := 10) d_X12_isPart_10 (ty_126 hF) (by decide) (by decide) ?_
    refine Tr.tp 0 (b_126_0) ?_
    refine Tr.iconst (pc := 11) d_X12_isPart_11 (by decide) ?_
    refine Tr.isub (pc := 12) d_X12_isPart_12 ?_
    refine Tr.tp (-1) rfl ?_
    refine Tr.callS (pc := 13) (as := [_, _, _]) d_X12_isPart_13 s_12_467 ok_X12_is rfl rfl (Nat.le_of_ble_eq_true rfl) (Nat.le_of_ble_eq_true rfl) ?_
    refine Tr.lc [(0, (0, _)), (1, (0, 0)), (2, (0, (-1)))] rfl ?_
    refine Tr.iload_n (pc := 0) (i := 0) d_X12_is_0 rfl rfl ?_
    refine Tr.iload_n (pc := 1) (i := 1) d_X12_is_1 rfl rfl ?_
    refine Tr.icmp_lt (pc := 2) (tgt := 14) d_X12_is_2 rfl (fun hc => absurd hc (by omega)) (fun _ => ?_)
    refine Tr.iload_n (pc := 5) (i := 0) d_X12_is_5 rfl rfl ?_
    refine Tr.iload_n (pc := 6) (i := 2) d_X12_is_6 rfl rfl ?_
    refine Tr.icmp_gt (pc := 7) (tgt := 14) d_X12_is_7 rfl (fun _ => ?_) (fun hc => absurd (by omega) hc)
    refine Tr.iconst (pc := 14) d_X12_is_14 (by decide) ?_
    refine Tr.zret (pc := 15) d_X12_is_15 rfl (by decide) ?_
    refine Tr.sc [_] rfl ?_
    refine Tr.zret (pc := 16) d_X12_isPart_16 rfl (by decide) ?_
    refine Tr.sc [_] rfl ?_
    refine Tr.if_eq (pc := 5) (tgt := 15) d_X12_fit_5 rfl (fun _ => ?_) (fun hc => absurd (by decide) hc)
    refine Tr.iconst (pc := 15) d_X12_fit_15 (by decide) ?_
    refine Tr.iret (pc := 16) d_X12_fit_16 rfl ?_
    refine Tr.sc [_, _] rfl ?_
    refine Tr.icmp_eq (pc := 812) (tgt := 998) d_L_law_812 rfl (fun _ => ?_) (fun hc => absurd (by decide) hc)
    refine Tr.iinc (pc := 998) (ls2 := [(3, (0, 6)), (2, (2, 120)), (1, (2, 0)), (0, (2, (-2)))]) d_L_law_998 rfl (by decide) rfl ?_
    refine Tr.goto (pc := 1001) (tgt := 18) d_L_law_1001 rfl ?_
    refine Tr.iload_n (pc := 18) (i := 3) d_L_law_18 rfl rfl ?_
    refine Tr.aload_n (pc := 19) (i := 0) d_L_law_19 rfl rfl ?_
    refine Tr.xlen (pc := 20) (i := 0) d_L_law_20 rfl he (by decide) ?_
    refine Tr.tp 6 rfl ?_
    refine Tr.bipush (pc := 21) d_L_law_21 rfl (by decide) ?_
    refine Tr.isub (pc := 23) d_L_law_23 ?_
    refine Tr.tp 0 rfl ?_
    refine Tr.icmp_gt (pc := 24) (tgt := 1004) d_L_law_24 rfl (fun _ => ?_) (fun hc => absurd (by decide) hc)
    refine Tr.iconst (pc := 1004) d_L_law_1004 (by decide) ?_
    exact Tr.zret (pc := 1005) d_L_law_1005 rfl (by decide) ⟨rfl, Fx_room hF⟩
set_option maxRecDepth 100000 in
set_option maxHeartbeats 4000000 in
theorem op_fitted {l : Launch} {K : EC} {f : Int → Int} (he : e_ext K 0 6 f) (hr : ∀ j, -2147483648 ≤ f j ∧ f j ≤ 2147483647) : Tr l K 20 mL_law 817 [(3, (0, 0)), (2, (2, 120)), (1, (2, 0)), (0, (2, -2))] [] C_461 (fun M' r => r = some (0, 1) ∧ M'.1 ≤ 600000 ∧ M'.2.1 ≤ room_1.slots) := by
  obtain ⟨a1, g1⟩ : ∃ a, f 1 = a := ⟨_, rfl⟩
  have r1 := hr 1
  rw [g1] at r1
  obtain ⟨a2, g2⟩ : ∃ a, f 2 = a := ⟨_, rfl⟩
  have r2 := hr 2
  rw [g2] at r2
  obtain ⟨a3, g3⟩ : ∃ a, f 3 = a := ⟨_, rfl⟩
  have r3 := hr 3
  rw [g3] at r3
  obtain ⟨a4, g4⟩ : ∃ a, f 4 = a := ⟨_, rfl⟩
  have r4 := hr 4
  rw [g4] at r4
  obtain ⟨a5, g5⟩ : ∃ a, f 5 = a := ⟨_, rfl⟩
  have r5 := hr 5
  rw [g5] at r5
  have hF := Fx_0
  refine Tr.aload_n (pc := 817) (i := 1) d_L_law_817 rfl rfl ?_
  refine Tr.aload_n (pc := 818) (i := 0) d_L_law_818 rfl rfl ?_
  refine Tr.iload_n (pc := 819) (i := 3) d_L_law_819 rfl rfl ?_
  refine Tr.iconst (pc := 820) d_L_law_820 (by decide) ?_
  refine Tr.iadd (pc := 821) d_L_law_821 ?_
  refine Tr.tp 1 rfl ?_
  refine Tr.xld (pc := 822) (i := 0) d_L_law_822 rfl he (by decide) (by decide) ?_
  refine Tr.tp a1 g1 ?_
  refine Tr.callV (pc := 823) (as := [_]) d_L_law_823 s_13_107 ok_X11_fitted rfl rfl (Nat.le_of_ble_eq_true rfl) (Nat.le_of_ble_eq_true rfl) (by decide) (ty_0 hF) ?_
  refine Tr.lc [(0, (2, 0)), (1, (0, _))] rfl ?_
  refine Tr.aload_n (pc := 0) (i := 0) d_X11_fitted_0 rfl rfl ?_
  refine Tr.getf (pc := 1) d_X11_fitted_1 f_11_70 (by decide) (by decide) (ty_0 hF) ?_
  refine Tr.tp 107 (fx_0_12 hF) ?_
  refine Tr.getz (pc := 4) d_X11_fitted_4 f_11_280 (by decide) (ty_107 hF) ?_
  refine Tr.tp 0 (b_107_1) ?_
  refine Tr.if_eq (pc := 7) (tgt := 19) d_X11_fitted_7 rfl (fun _ => ?_) (fun hc => absurd (by decide) hc)
  refine Tr.iconst (pc := 19) d_X11_fitted_19 (by decide) ?_
  refine Tr.iret (pc := 20) d_X11_fitted_20 rfl ?_
  refine Tr.sc [_] rfl ?_
  refine Tr.aload_n (pc := 826) (i := 2) d_L_law_826 rfl rfl ?_
  refine Tr.aload_n (pc := 827) (i := 0) d_L_law_827 rfl rfl ?_
  refine Tr.iload_n (pc := 828) (i := 3) d_L_law_828 rfl rfl ?_
  refine Tr.iconst (pc := 829) d_L_law_829 (by decide) ?_
  refine Tr.iadd (pc := 830) d_L_law_830 ?_
  refine Tr.tp 1 rfl ?_
  refine Tr.xld (pc := 831) (i := 0) d_L_law_831 rfl he (by decide) (by decide) ?_
  refine Tr.tp a1 g1 ?_
  refine Tr.callV (pc := 832) (as := [_]) d_L_law_832 s_13_110 ok_X12_fitted rfl rfl (Nat.le_of_ble_eq_true rfl) (Nat.le_of_ble_eq_true rfl) (by decide) (ty_120 hF) ?_
  refine Tr.lc [(0, (2, 120)), (1, (0, _))] rfl ?_
  refine Tr.aload_n (pc := 0) (i := 0) d_X12_fitted_0 rfl rfl ?_
  refine Tr.getz (pc := 1) d_X12_fitted_1 f_12_342 (by decide) (ty_120 hF) ?_
  refine Tr.tp 0 (b_120_109) ?_
  refine Tr.if_eq (pc := 4) (tgt := 25) d_X12_fitted_4 rfl (fun _ => ?_) (fun hc => absurd (by decide) hc)
  refine Tr.iconst (pc := 25) d_X12_fitted_25 (by decide) ?_
  refine Tr.iret (pc := 26) d_X12_fitted_26 rfl ?_
  refine Tr.sc [_, _] rfl ?_
  refine Tr.icmp_eq (pc := 835) (tgt := 998) d_L_law_835 rfl (fun _ => ?_) (fun hc => absurd (by decide) hc)
  refine Tr.iinc (pc := 998) (ls2 := [(3, (0, 6)), (2, (2, 120)), (1, (2, 0)), (0, (2, (-2)))]) d_L_law_998 rfl (by decide) rfl ?_
  refine Tr.goto (pc := 1001) (tgt := 18) d_L_law_1001 rfl ?_
  refine Tr.iload_n (pc := 18) (i := 3) d_L_law_18 rfl rfl ?_
  refine Tr.aload_n (pc := 19) (i := 0) d_L_law_19 rfl rfl ?_
  refine Tr.xlen (pc := 20) (i := 0) d_L_law_20 rfl he (by decide) ?_
  refine Tr.tp 6 rfl ?_
  refine Tr.bipush (pc := 21) d_L_law_21 rfl (by decide) ?_
  refine Tr.isub (pc := 23) d_L_law_23 ?_
  refine Tr.tp 0 rfl ?_
  refine Tr.icmp_gt (pc := 24) (tgt := 1004) d_L_law_24 rfl (fun _ => ?_) (fun hc => absurd (by decide) hc)
  refine Tr.iconst (pc := 1004) d_L_law_1004 (by decide) ?_
  exact Tr.zret (pc := 1005) d_L_law_1005 rfl (by decide) ⟨rfl, Fx_room hF⟩
set_option maxRecDepth 100000 in
set_option maxHeartbeats 4000000 in
theorem op_ask {l : Launch} {K : EC} {f : Int → Int} (he : e_ext K 0 6 f) (hr : ∀ j, -2147483648 ≤ f j ∧ f j ≤ 2147483647) : Tr l K 20 mL_law 840 [(3, (0, 0)), (2, (2, 120)), (1, (2, 0)), (0, (2, -2))] [] C_461 (fun M' r => r = some (0, 1) ∧ M'.1 ≤ 600000 ∧ M'.2.1 ≤ room_1.slots) := by
  obtain ⟨a1, g1⟩ : ∃ a, f 1 = a := ⟨_, rfl⟩
  have r1 := hr 1
  rw [g1] at r1
  obtain ⟨a2, g2⟩ : ∃ a, f 2 = a := ⟨_, rfl⟩
  have r2 := hr 2
  rw [g2] at r2
  obtain ⟨a3, g3⟩ : ∃ a, f 3 = a := ⟨_, rfl⟩
  have r3 := hr 3
  rw [g3] at r3
  obtain ⟨a4, g4⟩ : ∃ a, f 4 = a := ⟨_, rfl⟩
  have r4 := hr 4
  rw [g4] at r4
  obtain ⟨a5, g5⟩ : ∃ a, f 5 = a := ⟨_, rfl⟩
  have r5 := hr 5
  rw [g5] at r5
  have hF := Fx_0
  refine Tr.aload_n (pc := 840) (i := 1) d_L_law_840 rfl rfl ?_
  refine Tr.aload_n (pc := 841) (i := 0) d_L_law_841 rfl rfl ?_
  refine Tr.iload_n (pc := 842) (i := 3) d_L_law_842 rfl rfl ?_
  refine Tr.iconst (pc := 843) d_L_law_843 (by decide) ?_
  refine Tr.iadd (pc := 844) d_L_law_844 ?_
  refine Tr.tp 1 rfl ?_
  refine Tr.xld (pc := 845) (i := 0) d_L_law_845 rfl he (by decide) (by decide) ?_
  refine Tr.tp a1 g1 ?_
  refine Tr.aload_n (pc := 846) (i := 0) d_L_law_846 rfl rfl ?_
  refine Tr.iload_n (pc := 847) (i := 3) d_L_law_847 rfl rfl ?_
  refine Tr.iconst (pc := 848) d_L_law_848 (by decide) ?_
  refine Tr.iadd (pc := 849) d_L_law_849 ?_
  refine Tr.tp 2 rfl ?_
  refine Tr.xld (pc := 850) (i := 0) d_L_law_850 rfl he (by decide) (by decide) ?_
  refine Tr.tp a2 g2 ?_
  refine Tr.aload_n (pc := 851) (i := 0) d_L_law_851 rfl rfl ?_
  refine Tr.iload_n (pc := 852) (i := 3) d_L_law_852 rfl rfl ?_
  refine Tr.iconst (pc := 853) d_L_law_853 (by decide) ?_
  refine Tr.iadd (pc := 854) d_L_law_854 ?_
  refine Tr.tp 3 rfl ?_
  refine Tr.xld (pc := 855) (i := 0) d_L_law_855 rfl he (by decide) (by decide) ?_
  refine Tr.tp a3 g3 ?_
  refine Tr.callV (pc := 856) (as := [_, _, _]) d_L_law_856 s_13_111 ok_X11_ask rfl rfl (Nat.le_of_ble_eq_true rfl) (Nat.le_of_ble_eq_true rfl) (by decide) (ty_0 hF) ?_
  refine Tr.lc [(0, (2, 0)), (1, (0, _)), (2, (0, _)), (3, (0, _))] rfl ?_
  refine Tr.iload_n (pc := 0) (i := 1) d_X11_ask_0 rfl rfl ?_
  refine Tr.if_lt (pc := 1) (tgt := 31) d_X11_ask_1 rfl (fun h1 => ?_) (fun h1 => ?_)
  · refine Tr.iconst (pc := 31) d_X11_ask_31 (by decide) ?_
    refine Tr.iret (pc := 32) d_X11_ask_32 rfl ?_
    refine Tr.sc [_] rfl ?_
    refine Tr.aload_n (pc := 859) (i := 2) d_L_law_859 rfl rfl ?_
    refine Tr.aload_n (pc := 860) (i := 0) d_L_law_860 rfl rfl ?_
    refine Tr.iload_n (pc := 861) (i := 3) d_L_law_861 rfl rfl ?_
    refine Tr.iconst (pc := 862) d_L_law_862 (by decide) ?_
    refine Tr.iadd (pc := 863) d_L_law_863 ?_
    refine Tr.tp 1 rfl ?_
    refine Tr.xld (pc := 864) (i := 0) d_L_law_864 rfl he (by decide) (by decide) ?_
    refine Tr.tp a1 g1 ?_
    refine Tr.aload_n (pc := 865) (i := 0) d_L_law_865 rfl rfl ?_
    refine Tr.iload_n (pc := 866) (i := 3) d_L_law_866 rfl rfl ?_
    refine Tr.iconst (pc := 867) d_L_law_867 (by decide) ?_
    refine Tr.iadd (pc := 868) d_L_law_868 ?_
    refine Tr.tp 2 rfl ?_
    refine Tr.xld (pc := 869) (i := 0) d_L_law_869 rfl he (by decide) (by decide) ?_
    refine Tr.tp a2 g2 ?_
    refine Tr.aload_n (pc := 870) (i := 0) d_L_law_870 rfl rfl ?_
    refine Tr.iload_n (pc := 871) (i := 3) d_L_law_871 rfl rfl ?_
    refine Tr.iconst (pc := 872) d_L_law_872 (by decide) ?_
    refine Tr.iadd (pc := 873) d_L_law_873 ?_
    refine Tr.tp 3 rfl ?_
    refine Tr.xld (pc := 874) (i := 0) d_L_law_874 rfl he (by decide) (by decide) ?_
    refine Tr.tp a3 g3 ?_
    refine Tr.callV (pc := 875) (as := [_, _, _]) d_L_law_875 s_13_114 ok_X12_ask rfl rfl (Nat.le_of_ble_eq_true rfl) (Nat.le_of_ble_eq_true rfl) (by decide) (ty_120 hF) ?_
    refine Tr.lc [(0, (2, 120)), (1, (0, _)), (2, (0, _)), (3, (0, _))] rfl ?_
    refine Tr.iload_n (pc := 0) (i := 1) d_X12_ask_0 rfl rfl ?_
    refine Tr.iconst (pc := 1) d_X12_ask_1 (by decide) ?_
    refine Tr.sipush (pc := 2) d_X12_ask_2 rfl (by decide) ?_
    refine Tr.callS (pc := 5) (as := [_, _, _]) d_X12_ask_5 s_12_467 ok_X12_is rfl rfl (Nat.le_of_ble_eq_true rfl) (Nat.le_of_ble_eq_true rfl) ?_
    refine Tr.lc [(0, (0, _)), (1, (0, 0)), (2, (0, 200))] rfl ?_
    refine Tr.iload_n (pc := 0) (i := 0) d_X12_is_0 rfl rfl ?_
    refine Tr.iload_n (pc := 1) (i := 1) d_X12_is_1 rfl rfl ?_
    refine Tr.icmp_lt (pc := 2) (tgt := 14) d_X12_is_2 rfl (fun _ => ?_) (fun hc => absurd (by omega) hc)
    refine Tr.iconst (pc := 14) d_X12_is_14 (by decide) ?_
    refine Tr.zret (pc := 15) d_X12_is_15 rfl (by decide) ?_
    refine Tr.sc [_] rfl ?_
    refine Tr.if_eq (pc := 8) (tgt := 39) d_X12_ask_8 rfl (fun _ => ?_) (fun hc => absurd (by decide) hc)
    refine Tr.iconst (pc := 39) d_X12_ask_39 (by decide) ?_
    refine Tr.iret (pc := 40) d_X12_ask_40 rfl ?_
    refine Tr.sc [_, _] rfl ?_
    refine Tr.icmp_eq (pc := 878) (tgt := 998) d_L_law_878 rfl (fun _ => ?_) (fun hc => absurd (by decide) hc)
    refine Tr.iinc (pc := 998) (ls2 := [(3, (0, 6)), (2, (2, 120)), (1, (2, 0)), (0, (2, (-2)))]) d_L_law_998 rfl (by decide) rfl ?_
    refine Tr.goto (pc := 1001) (tgt := 18) d_L_law_1001 rfl ?_
    refine Tr.iload_n (pc := 18) (i := 3) d_L_law_18 rfl rfl ?_
    refine Tr.aload_n (pc := 19) (i := 0) d_L_law_19 rfl rfl ?_
    refine Tr.xlen (pc := 20) (i := 0) d_L_law_20 rfl he (by decide) ?_
    refine Tr.tp 6 rfl ?_
    refine Tr.bipush (pc := 21) d_L_law_21 rfl (by decide) ?_
    refine Tr.isub (pc := 23) d_L_law_23 ?_
    refine Tr.tp 0 rfl ?_
    refine Tr.icmp_gt (pc := 24) (tgt := 1004) d_L_law_24 rfl (fun _ => ?_) (fun hc => absurd (by decide) hc)
    refine Tr.iconst (pc := 1004) d_L_law_1004 (by decide) ?_
    exact Tr.zret (pc := 1005) d_L_law_1005 rfl (by decide) ⟨rfl, Fx_room hF⟩
  · refine Tr.iload_n (pc := 4) (i := 1) d_X11_ask_4 rfl rfl ?_
    refine Tr.sipush (pc := 5) d_X11_ask_5 rfl (by decide) ?_
    refine Tr.icmp_gt (pc := 8) (tgt := 31) d_X11_ask_8 rfl (fun h2 => ?_) (fun h2 => ?_)
    · refine Tr.iconst (pc := 31) d_X11_ask_31 (by decide) ?_
      refine Tr.iret (pc := 32) d_X11_ask_32 rfl ?_
      refine Tr.sc [_] rfl ?_
      refine Tr.aload_n (pc := 859) (i := 2) d_L_law_859 rfl rfl ?_
      refine Tr.aload_n (pc := 860) (i := 0) d_L_law_860 rfl rfl ?_
      refine Tr.iload_n (pc := 861) (i := 3) d_L_law_861 rfl rfl ?_
      refine Tr.iconst (pc := 862) d_L_law_862 (by decide) ?_
      refine Tr.iadd (pc := 863) d_L_law_863 ?_
      refine Tr.tp 1 rfl ?_
      refine Tr.xld (pc := 864) (i := 0) d_L_law_864 rfl he (by decide) (by decide) ?_
      refine Tr.tp a1 g1 ?_
      refine Tr.aload_n (pc := 865) (i := 0) d_L_law_865 rfl rfl ?_
      refine Tr.iload_n (pc := 866) (i := 3) d_L_law_866 rfl rfl ?_
      refine Tr.iconst (pc := 867) d_L_law_867 (by decide) ?_
      refine Tr.iadd (pc := 868) d_L_law_868 ?_
      refine Tr.tp 2 rfl ?_
      refine Tr.xld (pc := 869) (i := 0) d_L_law_869 rfl he (by decide) (by decide) ?_
      refine Tr.tp a2 g2 ?_
      refine Tr.aload_n (pc := 870) (i := 0) d_L_law_870 rfl rfl ?_
      refine Tr.iload_n (pc := 871) (i := 3) d_L_law_871 rfl rfl ?_
      refine Tr.iconst (pc := 872) d_L_law_872 (by decide) ?_
      refine Tr.iadd (pc := 873) d_L_law_873 ?_
      refine Tr.tp 3 rfl ?_
      refine Tr.xld (pc := 874) (i := 0) d_L_law_874 rfl he (by decide) (by decide) ?_
      refine Tr.tp a3 g3 ?_
      refine Tr.callV (pc := 875) (as := [_, _, _]) d_L_law_875 s_13_114 ok_X12_ask rfl rfl (Nat.le_of_ble_eq_true rfl) (Nat.le_of_ble_eq_true rfl) (by decide) (ty_120 hF) ?_
      refine Tr.lc [(0, (2, 120)), (1, (0, _)), (2, (0, _)), (3, (0, _))] rfl ?_
      refine Tr.iload_n (pc := 0) (i := 1) d_X12_ask_0 rfl rfl ?_
      refine Tr.iconst (pc := 1) d_X12_ask_1 (by decide) ?_
      refine Tr.sipush (pc := 2) d_X12_ask_2 rfl (by decide) ?_
      refine Tr.callS (pc := 5) (as := [_, _, _]) d_X12_ask_5 s_12_467 ok_X12_is rfl rfl (Nat.le_of_ble_eq_true rfl) (Nat.le_of_ble_eq_true rfl) ?_
      refine Tr.lc [(0, (0, _)), (1, (0, 0)), (2, (0, 200))] rfl ?_
      refine Tr.iload_n (pc := 0) (i := 0) d_X12_is_0 rfl rfl ?_
      refine Tr.iload_n (pc := 1) (i := 1) d_X12_is_1 rfl rfl ?_
      refine Tr.icmp_lt (pc := 2) (tgt := 14) d_X12_is_2 rfl (fun hc => absurd hc (by omega)) (fun _ => ?_)
      refine Tr.iload_n (pc := 5) (i := 0) d_X12_is_5 rfl rfl ?_
      refine Tr.iload_n (pc := 6) (i := 2) d_X12_is_6 rfl rfl ?_
      refine Tr.icmp_gt (pc := 7) (tgt := 14) d_X12_is_7 rfl (fun _ => ?_) (fun hc => absurd (by omega) hc)
      refine Tr.iconst (pc := 14) d_X12_is_14 (by decide) ?_
      refine Tr.zret (pc := 15) d_X12_is_15 rfl (by decide) ?_
      refine Tr.sc [_] rfl ?_
      refine Tr.if_eq (pc := 8) (tgt := 39) d_X12_ask_8 rfl (fun _ => ?_) (fun hc => absurd (by decide) hc)
      refine Tr.iconst (pc := 39) d_X12_ask_39 (by decide) ?_
      refine Tr.iret (pc := 40) d_X12_ask_40 rfl ?_
      refine Tr.sc [_, _] rfl ?_
      refine Tr.icmp_eq (pc := 878) (tgt := 998) d_L_law_878 rfl (fun _ => ?_) (fun hc => absurd (by decide) hc)
      refine Tr.iinc (pc := 998) (ls2 := [(3, (0, 6)), (2, (2, 120)), (1, (2, 0)), (0, (2, (-2)))]) d_L_law_998 rfl (by decide) rfl ?_
      refine Tr.goto (pc := 1001) (tgt := 18) d_L_law_1001 rfl ?_
      refine Tr.iload_n (pc := 18) (i := 3) d_L_law_18 rfl rfl ?_
      refine Tr.aload_n (pc := 19) (i := 0) d_L_law_19 rfl rfl ?_
      refine Tr.xlen (pc := 20) (i := 0) d_L_law_20 rfl he (by decide) ?_
      refine Tr.tp 6 rfl ?_
      refine Tr.bipush (pc := 21) d_L_law_21 rfl (by decide) ?_
      refine Tr.isub (pc := 23) d_L_law_23 ?_
      refine Tr.tp 0 rfl ?_
      refine Tr.icmp_gt (pc := 24) (tgt := 1004) d_L_law_24 rfl (fun _ => ?_) (fun hc => absurd (by decide) hc)
      refine Tr.iconst (pc := 1004) d_L_law_1004 (by decide) ?_
      exact Tr.zret (pc := 1005) d_L_law_1005 rfl (by decide) ⟨rfl, Fx_room hF⟩
    · refine Tr.iload_n (pc := 11) (i := 2) d_X11_ask_11 rfl rfl ?_
      refine Tr.iconst (pc := 12) d_X11_ask_12 (by decide) ?_
      refine Tr.icmp_lt (pc := 13) (tgt := 31) d_X11_ask_13 rfl (fun h3 => ?_) (fun h3 => ?_)
      · refine Tr.iconst (pc := 31) d_X11_ask_31 (by decide) ?_
        refine Tr.iret (pc := 32) d_X11_ask_32 rfl ?_
        refine Tr.sc [_] rfl ?_
        refine Tr.aload_n (pc := 859) (i := 2) d_L_law_859 rfl rfl ?_
        refine Tr.aload_n (pc := 860) (i := 0) d_L_law_860 rfl rfl ?_
        refine Tr.iload_n (pc := 861) (i := 3) d_L_law_861 rfl rfl ?_
        refine Tr.iconst (pc := 862) d_L_law_862 (by decide) ?_
        refine Tr.iadd (pc := 863) d_L_law_863 ?_
        refine Tr.tp 1 rfl ?_
        refine Tr.xld (pc := 864) (i := 0) d_L_law_864 rfl he (by decide) (by decide) ?_
        refine Tr.tp a1 g1 ?_
        refine Tr.aload_n (pc := 865) (i := 0) d_L_law_865 rfl rfl ?_
        refine Tr.iload_n (pc := 866) (i := 3) d_L_law_866 rfl rfl ?_
        refine Tr.iconst (pc := 867) d_L_law_867 (by decide) ?_
        refine Tr.iadd (pc := 868) d_L_law_868 ?_
        refine Tr.tp 2 rfl ?_
        refine Tr.xld (pc := 869) (i := 0) d_L_law_869 rfl he (by decide) (by decide) ?_
        refine Tr.tp a2 g2 ?_
        refine Tr.aload_n (pc := 870) (i := 0) d_L_law_870 rfl rfl ?_
        refine Tr.iload_n (pc := 871) (i := 3) d_L_law_871 rfl rfl ?_
        refine Tr.iconst (pc := 872) d_L_law_872 (by decide) ?_
        refine Tr.iadd (pc := 873) d_L_law_873 ?_
        refine Tr.tp 3 rfl ?_
        refine Tr.xld (pc := 874) (i := 0) d_L_law_874 rfl he (by decide) (by decide) ?_
        refine Tr.tp a3 g3 ?_
        refine Tr.callV (pc := 875) (as := [_, _, _]) d_L_law_875 s_13_114 ok_X12_ask rfl rfl (Nat.le_of_ble_eq_true rfl) (Nat.le_of_ble_eq_true rfl) (by decide) (ty_120 hF) ?_
        refine Tr.lc [(0, (2, 120)), (1, (0, _)), (2, (0, _)), (3, (0, _))] rfl ?_
        refine Tr.iload_n (pc := 0) (i := 1) d_X12_ask_0 rfl rfl ?_
        refine Tr.iconst (pc := 1) d_X12_ask_1 (by decide) ?_
        refine Tr.sipush (pc := 2) d_X12_ask_2 rfl (by decide) ?_
        refine Tr.callS (pc := 5) (as := [_, _, _]) d_X12_ask_5 s_12_467 ok_X12_is rfl rfl (Nat.le_of_ble_eq_true rfl) (Nat.le_of_ble_eq_true rfl) ?_
        refine Tr.lc [(0, (0, _)), (1, (0, 0)), (2, (0, 200))] rfl ?_
        refine Tr.iload_n (pc := 0) (i := 0) d_X12_is_0 rfl rfl ?_
        refine Tr.iload_n (pc := 1) (i := 1) d_X12_is_1 rfl rfl ?_
        refine Tr.icmp_lt (pc := 2) (tgt := 14) d_X12_is_2 rfl (fun hc => absurd hc (by omega)) (fun _ => ?_)
        refine Tr.iload_n (pc := 5) (i := 0) d_X12_is_5 rfl rfl ?_
        refine Tr.iload_n (pc := 6) (i := 2) d_X12_is_6 rfl rfl ?_
        refine Tr.icmp_gt (pc := 7) (tgt := 14) d_X12_is_7 rfl (fun hc => absurd hc (by omega)) (fun _ => ?_)
        refine Tr.iconst (pc := 10) d_X12_is_10 (by decide) ?_
        refine Tr.goto (pc := 11) (tgt := 15) d_X12_is_11 rfl ?_
        refine Tr.zret (pc := 15) d_X12_is_15 rfl (by decide) ?_
        refine Tr.sc [_] rfl ?_
        refine Tr.if_eq (pc := 8) (tgt := 39) d_X12_ask_8 rfl (fun hc => absurd hc (by decide)) (fun _ => ?_)
        refine Tr.iload_n (pc := 11) (i := 2) d_X12_ask_11 rfl rfl ?_
        refine Tr.iconst (pc := 12) d_X12_ask_12 (by decide) ?_
        refine Tr.bipush (pc := 13) d_X12_ask_13 rfl (by decide) ?_
        refine Tr.callS (pc := 15) (as := [_, _, _]) d_X12_ask_15 s_12_467 ok_X12_is rfl rfl (Nat.le_of_ble_eq_true rfl) (Nat.le_of_ble_eq_true rfl) ?_
        refine Tr.lc [(0, (0, _)), (1, (0, 1)), (2, (0, 20))] rfl ?_
        refine Tr.iload_n (pc := 0) (i := 0) d_X12_is_0 rfl rfl ?_
        refine Tr.iload_n (pc := 1) (i := 1) d_X12_is_1 rfl rfl ?_
        refine Tr.icmp_lt (pc := 2) (tgt := 14) d_X12_is_2 rfl (fun _ => ?_) (fun hc => absurd (by omega) hc)
        refine Tr.iconst (pc := 14) d_X12_is_14 (by decide) ?_
        refine Tr.zret (pc := 15) d_X12_is_15 rfl (by decide) ?_
        refine Tr.sc [_] rfl ?_
        refine Tr.if_eq (pc := 18) (tgt := 39) d_X12_ask_18 rfl (fun _ => ?_) (fun hc => absurd (by decide) hc)
        refine Tr.iconst (pc := 39) d_X12_ask_39 (by decide) ?_
        refine Tr.iret (pc := 40) d_X12_ask_40 rfl ?_
        refine Tr.sc [_, _] rfl ?_
        refine Tr.icmp_eq (pc := 878) (tgt := 998) d_L_law_878 rfl (fun _ => ?_) (fun hc => absurd (by decide) hc)
        refine Tr.iinc (pc := 998) (ls2 := [(3, (0, 6)), (2, (2, 120)), (1, (2, 0)), (0, (2, (-2)))]) d_L_law_998 rfl (by decide) rfl ?_
        refine Tr.goto (pc := 1001) (tgt := 18) d_L_law_1001 rfl ?_
        refine Tr.iload_n (pc := 18) (i := 3) d_L_law_18 rfl rfl ?_
        refine Tr.aload_n (pc := 19) (i := 0) d_L_law_19 rfl rfl ?_
        refine Tr.xlen (pc := 20) (i := 0) d_L_law_20 rfl he (by decide) ?_
        refine Tr.tp 6 rfl ?_
        refine Tr.bipush (pc := 21) d_L_law_21 rfl (by decide) ?_
        refine Tr.isub (pc := 23) d_L_law_23 ?_
        refine Tr.tp 0 rfl ?_
        refine Tr.icmp_gt (pc := 24) (tgt := 1004) d_L_law_24 rfl (fun _ => ?_) (fun hc => absurd (by decide) hc)
        refine Tr.iconst (pc := 1004) d_L_law_1004 (by decide) ?_
        exact Tr.zret (pc := 1005) d_L_law_1005 rfl (by decide) ⟨rfl, Fx_room hF⟩
      · refine Tr.iload_n (pc := 16) (i := 2) d_X11_ask_16 rfl rfl ?_
        refine Tr.bipush (pc := 17) d_X11_ask_17 rfl (by decide) ?_
        refine Tr.icmp_gt (pc := 19) (tgt := 31) d_X11_ask_19 rfl (fun h4 => ?_) (fun h4 => ?_)
        · refine Tr.iconst (pc := 31) d_X11_ask_31 (by decide) ?_
          refine Tr.iret (pc := 32) d_X11_ask_32 rfl ?_
          refine Tr.sc [_] rfl ?_
          refine Tr.aload_n (pc := 859) (i := 2) d_L_law_859 rfl rfl ?_
          refine Tr.aload_n (pc := 860) (i := 0) d_L_law_860 rfl rfl ?_
          refine Tr.iload_n (pc := 861) (i := 3) d_L_law_861 rfl rfl ?_
          refine Tr.iconst (pc := 862) d_L_law_862 (by decide) ?_
          refine Tr.iadd (pc := 863) d_L_law_863 ?_
          refine Tr.tp 1 rfl ?_
          refine Tr.xld (pc := 864) (i := 0) d_L_law_864 rfl he (by decide) (by decide) ?_
          refine Tr.tp a1 g1 ?_
          refine Tr.aload_n (pc := 865) (i := 0) d_L_law_865 rfl rfl ?_
          refine Tr.iload_n (pc := 866) (i := 3) d_L_law_866 rfl rfl ?_
          refine Tr.iconst (pc := 867) d_L_law_867 (by decide) ?_
          refine Tr.iadd (pc := 868) d_L_law_868 ?_
          refine Tr.tp 2 rfl ?_
          refine Tr.xld (pc := 869) (i := 0) d_L_law_869 rfl he (by decide) (by decide) ?_
          refine Tr.tp a2 g2 ?_
          refine Tr.aload_n (pc := 870) (i := 0) d_L_law_870 rfl rfl ?_
          refine Tr.iload_n (pc := 871) (i := 3) d_L_law_871 rfl rfl ?_
          refine Tr.iconst (pc := 872) d_L_law_872 (by decide) ?_
          refine Tr.iadd (pc := 873) d_L_law_873 ?_
          refine Tr.tp 3 rfl ?_
          refine Tr.xld (pc := 874) (i := 0) d_L_law_874 rfl he (by decide) (by decide) ?_
          refine Tr.tp a3 g3 ?_
          refine Tr.callV (pc := 875) (as := [_, _, _]) d_L_law_875 s_13_114 ok_X12_ask rfl rfl (Nat.le_of_ble_eq_true rfl) (Nat.le_of_ble_eq_true rfl) (by decide) (ty_120 hF) ?_
          refine Tr.lc [(0, (2, 120)), (1, (0, _)), (2, (0, _)), (3, (0, _))] rfl ?_
          refine Tr.iload_n (pc := 0) (i := 1) d_X12_ask_0 rfl rfl ?_
          refine Tr.iconst (pc := 1) d_X12_ask_1 (by decide) ?_
          refine Tr.sipush (pc := 2) d_X12_ask_2 rfl (by decide) ?_
          refine Tr.callS (pc := 5) (as := [_, _, _]) d_X12_ask_5 s_12_467 ok_X12_is rfl rfl (Nat.le_of_ble_eq_true rfl) (Nat.le_of_ble_eq_true rfl) ?_
          refine Tr.lc [(0, (0, _)), (1, (0, 0)), (2, (0, 200))] rfl ?_
          refine Tr.iload_n (pc := 0) (i := 0) d_X12_is_0 rfl rfl ?_
          refine Tr.iload_n (pc := 1) (i := 1) d_X12_is_1 rfl rfl ?_
          refine Tr.icmp_lt (pc := 2) (tgt := 14) d_X12_is_2 rfl (fun hc => absurd hc (by omega)) (fun _ => ?_)
          refine Tr.iload_n (pc := 5) (i := 0) d_X12_is_5 rfl rfl ?_
          refine Tr.iload_n (pc := 6) (i := 2) d_X12_is_6 rfl rfl ?_
          refine Tr.icmp_gt (pc := 7) (tgt := 14) d_X12_is_7 rfl (fun hc => absurd hc (by omega)) (fun _ => ?_)
          refine Tr.iconst (pc := 10) d_X12_is_10 (by decide) ?_
          refine Tr.goto (pc := 11) (tgt := 15) d_X12_is_11 rfl ?_
          refine Tr.zret (pc := 15) d_X12_is_15 rfl (by decide) ?_
          refine Tr.sc [_] rfl ?_
          refine Tr.if_eq (pc := 8) (tgt := 39) d_X12_ask_8 rfl (fun hc => absurd hc (by decide)) (fun _ => ?_)
          refine Tr.iload_n (pc := 11) (i := 2) d_X12_ask_11 rfl rfl ?_
          refine Tr.iconst (pc := 12) d_X12_ask_12 (by decide) ?_
          refine Tr.bipush (pc := 13) d_X12_ask_13 rfl (by decide) ?_
          refine Tr.callS (pc := 15) (as := [_, _, _]) d_X12_ask_15 s_12_467 ok_X12_is rfl rfl (Nat.le_of_ble_eq_true rfl) (Nat.le_of_ble_eq_true rfl) ?_
          refine Tr.lc [(0, (0, _)), (1, (0, 1)), (2, (0, 20))] rfl ?_
          refine Tr.iload_n (pc := 0) (i := 0) d_X12_is_0 rfl rfl ?_
          refine Tr.iload_n (pc := 1) (i := 1) d_X12_is_1 rfl rfl ?_
          refine Tr.icmp_lt (pc := 2) (tgt := 14) d_X12_is_2 rfl (fun hc => absurd hc (by omega)) (fun _ => ?_)
          refine Tr.iload_n (pc := 5) (i := 0) d_X12_is_5 rfl rfl ?_
          refine Tr.iload_n (pc := 6) (i := 2) d_X12_is_6 rfl rfl ?_
          refine Tr.icmp_gt (pc := 7) (tgt := 14) d_X12_is_7 rfl (fun _ => ?_) (fun hc => absurd (by omega) hc)
          refine Tr.iconst (pc := 14) d_X12_is_14 (by decide) ?_
          refine Tr.zret (pc := 15) d_X12_is_15 rfl (by decide) ?_
          refine Tr.sc [_] rfl ?_
          refine Tr.if_eq (pc := 18) (tgt := 39) d_X12_ask_18 rfl (fun _ => ?_) (fun hc => absurd (by decide) hc)
          refine Tr.iconst (pc := 39) d_X12_ask_39 (by decide) ?_
          refine Tr.iret (pc := 40) d_X12_ask_40 rfl ?_
          refine Tr.sc [_, _] rfl ?_
          refine Tr.icmp_eq (pc := 878) (tgt := 998) d_L_law_878 rfl (fun _ => ?_) (fun hc => absurd (by decide) hc)
          refine Tr.iinc (pc := 998) (ls2 := [(3, (0, 6)), (2, (2, 120)), (1, (2, 0)), (0, (2, (-2)))]) d_L_law_998 rfl (by decide) rfl ?_
          refine Tr.goto (pc := 1001) (tgt := 18) d_L_law_1001 rfl ?_
          refine Tr.iload_n (pc := 18) (i := 3) d_L_law_18 rfl rfl ?_
          refine Tr.aload_n (pc := 19) (i := 0) d_L_law_19 rfl rfl ?_
          refine Tr.xlen (pc := 20) (i := 0) d_L_law_20 rfl he (by decide) ?_
          refine Tr.tp 6 rfl ?_
          refine Tr.bipush (pc := 21) d_L_law_21 rfl (by decide) ?_
          refine Tr.isub (pc := 23) d_L_law_23 ?_
          refine Tr.tp 0 rfl ?_
          refine Tr.icmp_gt (pc := 24) (tgt := 1004) d_L_law_24 rfl (fun _ => ?_) (fun hc => absurd (by decide) hc)
          refine Tr.iconst (pc := 1004) d_L_law_1004 (by decide) ?_
          exact Tr.zret (pc := 1005) d_L_law_1005 rfl (by decide) ⟨rfl, Fx_room hF⟩
        · refine Tr.iload_n (pc := 22) (i := 3) d_X11_ask_22 rfl rfl ?_
          refine Tr.if_lt (pc := 23) (tgt := 31) d_X11_ask_23 rfl (fun h5 => ?_) (fun h5 => ?_)
          · refine Tr.iconst (pc := 31) d_X11_ask_31 (by decide) ?_
            refine Tr.iret (pc := 32) d_X11_ask_32 rfl ?_
            refine Tr.sc [_] rfl ?_
            refine Tr.aload_n (pc := 859) (i := 2) d_L_law_859 rfl rfl ?_
            refine Tr.aload_n (pc := 860) (i := 0) d_L_law_860 rfl rfl ?_
            refine Tr.iload_n (pc := 861) (i := 3) d_L_law_861 rfl rfl ?_
            refine Tr.iconst (pc := 862) d_L_law_862 (by decide) ?_
            refine Tr.iadd (pc := 863) d_L_law_863 ?_
            refine Tr.tp 1 rfl ?_
            refine Tr.xld (pc := 864) (i := 0) d_L_law_864 rfl he (by decide) (by decide) ?_
            refine Tr.tp a1 g1 ?_
            refine Tr.aload_n (pc := 865) (i := 0) d_L_law_865 rfl rfl ?_
            refine Tr.iload_n (pc := 866) (i := 3) d_L_law_866 rfl rfl ?_
            refine Tr.iconst (pc := 867) d_L_law_867 (by decide) ?_
            refine Tr.iadd (pc := 868) d_L_law_868 ?_
            refine Tr.tp 2 rfl ?_
            refine Tr.xld (pc := 869) (i := 0) d_L_law_869 rfl he (by decide) (by decide) ?_
            refine Tr.tp a2 g2 ?_
            refine Tr.aload_n (pc := 870) (i := 0) d_L_law_870 rfl rfl ?_
            refine Tr.iload_n (pc := 871) (i := 3) d_L_law_871 rfl rfl ?_
            refine Tr.iconst (pc := 872) d_L_law_872 (by decide) ?_
            refine Tr.iadd (pc := 873) d_L_law_873 ?_
            refine Tr.tp 3 rfl ?_
            refine Tr.xld (pc := 874) (i := 0) d_L_law_874 rfl he (by decide) (by decide) ?_
            refine Tr.tp a3 g3 ?_
            refine Tr.callV (pc := 875) (as := [_, _, _]) d_L_law_875 s_13_114 ok_X12_ask rfl rfl (Nat.le_of_ble_eq_true rfl) (Nat.le_of_ble_eq_true rfl) (by decide) (ty_120 hF) ?_
            refine Tr.lc [(0, (2, 120)), (1, (0, _)), (2, (0, _)), (3, (0, _))] rfl ?_
            refine Tr.iload_n (pc := 0) (i := 1) d_X12_ask_0 rfl rfl ?_
            refine Tr.iconst (pc := 1) d_X12_ask_1 (by decide) ?_
            refine Tr.sipush (pc := 2) d_X12_ask_2 rfl (by decide) ?_
            refine Tr.callS (pc := 5) (as := [_, _, _]) d_X12_ask_5 s_12_467 ok_X12_is rfl rfl (Nat.le_of_ble_eq_true rfl) (Nat.le_of_ble_eq_true rfl) ?_
            refine Tr.lc [(0, (0, _)), (1, (0, 0)), (2, (0, 200))] rfl ?_
            refine Tr.iload_n (pc := 0) (i := 0) d_X12_is_0 rfl rfl ?_
            refine Tr.iload_n (pc := 1) (i := 1) d_X12_is_1 rfl rfl ?_
            refine Tr.icmp_lt (pc := 2) (tgt := 14) d_X12_is_2 rfl (fun hc => absurd hc (by omega)) (fun _ => ?_)
            refine Tr.iload_n (pc := 5) (i := 0) d_X12_is_5 rfl rfl ?_
            refine Tr.iload_n (pc := 6) (i := 2) d_X12_is_6 rfl rfl ?_
            refine Tr.icmp_gt (pc := 7) (tgt := 14) d_X12_is_7 rfl (fun hc => absurd hc (by omega)) (fun _ => ?_)
            refine Tr.iconst (pc := 10) d_X12_is_10 (by decide) ?_
            refine Tr.goto (pc := 11) (tgt := 15) d_X12_is_11 rfl ?_
            refine Tr.zret (pc := 15) d_X12_is_15 rfl (by decide) ?_
            refine Tr.sc [_] rfl ?_
            refine Tr.if_eq (pc := 8) (tgt := 39) d_X12_ask_8 rfl (fun hc => absurd hc (by decide)) (fun _ => ?_)
            refine Tr.iload_n (pc := 11) (i := 2) d_X12_ask_11 rfl rfl ?_
            refine Tr.iconst (pc := 12) d_X12_ask_12 (by decide) ?_
            refine Tr.bipush (pc := 13) d_X12_ask_13 rfl (by decide) ?_
            refine Tr.callS (pc := 15) (as := [_, _, _]) d_X12_ask_15 s_12_467 ok_X12_is rfl rfl (Nat.le_of_ble_eq_true rfl) (Nat.le_of_ble_eq_true rfl) ?_
            refine Tr.lc [(0, (0, _)), (1, (0, 1)), (2, (0, 20))] rfl ?_
            refine Tr.iload_n (pc := 0) (i := 0) d_X12_is_0 rfl rfl ?_
            refine Tr.iload_n (pc := 1) (i := 1) d_X12_is_1 rfl rfl ?_
            refine Tr.icmp_lt (pc := 2) (tgt := 14) d_X12_is_2 rfl (fun hc => absurd hc (by omega)) (fun _ => ?_)
            refine Tr.iload_n (pc := 5) (i := 0) d_X12_is_5 rfl rfl ?_
            refine Tr.iload_n (pc := 6) (i := 2) d_X12_is_6 rfl rfl ?_
            refine Tr.icmp_gt (pc := 7) (tgt := 14) d_X12_is_7 rfl (fun hc => absurd hc (by omega)) (fun _ => ?_)
            refine Tr.iconst (pc := 10) d_X12_is_10 (by decide) ?_
            refine Tr.goto (pc := 11) (tgt := 15) d_X12_is_11 rfl ?_
            refine Tr.zret (pc := 15) d_X12_is_15 rfl (by decide) ?_
            refine Tr.sc [_] rfl ?_
            refine Tr.if_eq (pc := 18) (tgt := 39) d_X12_ask_18 rfl (fun hc => absurd hc (by decide)) (fun _ => ?_)
            refine Tr.iload_n (pc := 21) (i := 3) d_X12_ask_21 rfl rfl ?_
            refine Tr.iconst (pc := 22) d_X12_ask_22 (by decide) ?_
            refine Tr.iconst (pc := 23) d_X12_ask_23 (by decide) ?_
            refine Tr.callS (pc := 24) (as := [_, _, _]) d_X12_ask_24 s_12_467 ok_X12_is rfl rfl (Nat.le_of_ble_eq_true rfl) (Nat.le_of_ble_eq_true rfl) ?_
            refine Tr.lc [(0, (0, _)), (1, (0, 0)), (2, (0, 5))] rfl ?_
            refine Tr.iload_n (pc := 0) (i := 0) d_X12_is_0 rfl rfl ?_
            refine Tr.iload_n (pc := 1) (i := 1) d_X12_is_1 rfl rfl ?_
            refine Tr.icmp_lt (pc := 2) (tgt := 14) d_X12_is_2 rfl (fun _ => ?_) (fun hc => absurd (by omega) hc)
            refine Tr.iconst (pc := 14) d_X12_is_14 (by decide) ?_
            refine Tr.zret (pc := 15) d_X12_is_15 rfl (by decide) ?_
            refine Tr.sc [_] rfl ?_
            refine Tr.if_eq (pc := 27) (tgt := 39) d_X12_ask_27 rfl (fun _ => ?_) (fun hc => absurd (by decide) hc)
            refine Tr.iconst (pc := 39) d_X12_ask_39 (by decide) ?_
            refine Tr.iret (pc := 40) d_X12_ask_40 rfl ?_
            refine Tr.sc [_, _] rfl ?_
            refine Tr.icmp_eq (pc := 878) (tgt := 998) d_L_law_878 rfl (fun _ => ?_) (fun hc => absurd (by decide) hc)
            refine Tr.iinc (pc := 998) (ls2 := [(3, (0, 6)), (2, (2, 120)), (1, (2, 0)), (0, (2, (-2)))]) d_L_law_998 rfl (by decide) rfl ?_
            refine Tr.goto (pc := 1001) (tgt := 18) d_L_law_1001 rfl ?_
            refine Tr.iload_n (pc := 18) (i := 3) d_L_law_18 rfl rfl ?_
            refine Tr.aload_n (pc := 19) (i := 0) d_L_law_19 rfl rfl ?_
            refine Tr.xlen (pc := 20) (i := 0) d_L_law_20 rfl he (by decide) ?_
            refine Tr.tp 6 rfl ?_
            refine Tr.bipush (pc := 21) d_L_law_21 rfl (by decide) ?_
            refine Tr.isub (pc := 23) d_L_law_23 ?_
            refine Tr.tp 0 rfl ?_
            refine Tr.icmp_gt (pc := 24) (tgt := 1004) d_L_law_24 rfl (fun _ => ?_) (fun hc => absurd (by decide) hc)
            refine Tr.iconst (pc := 1004) d_L_law_1004 (by decide) ?_
            exact Tr.zret (pc := 1005) d_L_law_1005 rfl (by decide) ⟨rfl, Fx_room hF⟩
          · refine Tr.iload_n (pc := 26) (i := 3) d_X11_ask_26 rfl rfl ?_
            refine Tr.iconst (pc := 27) d_X11_ask_27 (by decide) ?_
            refine Tr.icmp_le (pc := 28) (tgt := 33) d_X11_ask_28 rfl (fun h6 => ?_) (fun h6 => ?_)
            · refine Tr.aload_n (pc := 33) (i := 0) d_X11_ask_33 rfl rfl ?_
              refine Tr.getf (pc := 34) d_X11_ask_34 f_11_77 (by decide) (by decide) (ty_0 hF) ?_
              refine Tr.tp 113 (fx_0_13 hF) ?_
              refine Tr.iload_n (pc := 37) (i := 1) d_X11_ask_37 rfl rfl ?_
              refine Tr.iload_n (pc := 38) (i := 2) d_X11_ask_38 rfl rfl ?_
              refine Tr.iload_n (pc := 39) (i := 3) d_X11_ask_39 rfl rfl ?_
              refine Tr.callV (pc := 40) (as := [_, _, _]) d_X11_ask_40 s_11_286 ok_X0_add rfl rfl (Nat.le_of_ble_eq_true rfl) (Nat.le_of_ble_eq_true rfl) (by decide) (ty_113 hF) ?_
              refine Tr.lc [(0, (2, 113)), (1, (0, _)), (2, (0, _)), (3, (0, _))] rfl ?_
              refine Tr.aload_n (pc := 0) (i := 0) d_X0_add_0 rfl rfl ?_
              refine Tr.getf (pc := 1) d_X0_add_1 f_0_30 (by decide) (by decide) (ty_113 hF) ?_
              refine Tr.tp 0 (b_113_0) ?_
              refine Tr.bipush (pc := 4) d_X0_add_4 rfl (by decide) ?_
              refine Tr.icmp_lt (pc := 6) (tgt := 11) d_X0_add_6 rfl (fun _ => ?_) (fun hc => absurd (by decide) hc)
              refine Tr.aload_n (pc := 11) (i := 0) d_X0_add_11 rfl rfl ?_
              refine Tr.getf (pc := 12) d_X0_add_12 f_0_11 (by decide) (by decide) (ty_113 hF) ?_
              refine Tr.tp 114 (fx_113_1 hF) ?_
              refine Tr.aload_n (pc := 15) (i := 0) d_X0_add_15 rfl rfl ?_
              refine Tr.getf (pc := 16) d_X0_add_16 f_0_30 (by decide) (by decide) (ty_113 hF) ?_
              refine Tr.tp 0 (b_113_0) ?_
              refine Tr.iload_n (pc := 19) (i := 1) d_X0_add_19 rfl rfl ?_
              refine Tr.iastX (pc := 20) d_X0_add_20 (ty_114 hF) (by decide) (by decide) hF (by decide +kernel) (fun hF => ?_)
              refine Tr.aload_n (pc := 21) (i := 0) d_X0_add_21 rfl rfl ?_
              refine Tr.getf (pc := 22) d_X0_add_22 f_0_15 (by decide) (by decide) (ty_113 hF) ?_
              refine Tr.tp 115 (fx_113_2 hF) ?_
              refine Tr.aload_n (pc := 25) (i := 0) d_X0_add_25 rfl rfl ?_
              refine Tr.getf (pc := 26) d_X0_add_26 f_0_30 (by decide) (by decide) (ty_113 hF) ?_
              refine Tr.tp 0 ((rd_wb _ rfl).trans (b_113_0)) ?_
              refine Tr.iload_n (pc := 29) (i := 2) d_X0_add_29 rfl rfl ?_
              refine Tr.iastX (pc := 30) d_X0_add_30 (ty_115 hF) (by decide) (by decide) hF (by decide +kernel) (fun hF => ?_)
              refine Tr.aload_n (pc := 31) (i := 0) d_X0_add_31 rfl rfl ?_
              refine Tr.getf (pc := 32) d_X0_add_32 f_0_18 (by decide) (by decide) (ty_113 hF) ?_
              refine Tr.tp 116 (fx_113_3 hF) ?_
              refine Tr.aload_n (pc := 35) (i := 0) d_X0_add_35 rfl rfl ?_
              refine Tr.getf (pc := 36) d_X0_add_36 f_0_30 (by decide) (by decide) (ty_113 hF) ?_
              refine Tr.tp 0 ((rd_wb _ rfl).trans ((rd_wb _ rfl).trans (b_113_0))) ?_
              refine Tr.iload_n (pc := 39) (i := 3) d_X0_add_39 rfl rfl ?_
              refine Tr.iastX (pc := 40) d_X0_add_40 (ty_116 hF) (by decide) (by decide) hF (by decide +kernel) (fun hF => ?_)
              refine Tr.aload_n (pc := 41) (i := 0) d_X0_add_41 rfl rfl ?_
              refine Tr.dup (pc := 42) d_X0_add_42 ne21 ?_
              refine Tr.getf (pc := 43) d_X0_add_43 f_0_30 (by decide) (by decide) (ty_113 hF) ?_
              refine Tr.tp 0 ((rd_wb _ rfl).trans ((rd_wb _ rfl).trans ((rd_wb _ rfl).trans (b_113_0)))) ?_
              refine Tr.iconst (pc := 46) d_X0_add_46 (by decide) ?_
              refine Tr.iadd (pc := 47) d_X0_add_47 ?_
              refine Tr.tp 1 rfl ?_
              refine Tr.putfX (pc := 48) d_X0_add_48 f_0_30 (by decide) (by decide) (ty_113 hF) hF (by decide +kernel) (fun hF => ?_)
              refine Tr.iconst (pc := 51) d_X0_add_51 (by decide) ?_
              refine Tr.zret (pc := 52) d_X0_add_52 rfl (by decide) ?_
              refine Tr.sc [_] rfl ?_
              refine Tr.if_eq (pc := 43) (tgt := 56) d_X11_ask_43 rfl (fun hc => absurd hc (by decide)) (fun _ => ?_)
              refine Tr.aload_n (pc := 46) (i := 0) d_X11_ask_46 rfl rfl ?_
              refine Tr.getf (pc := 47) d_X11_ask_47 f_11_77 (by decide) (by decide) (ty_0 hF) ?_
              refine Tr.tp 113 (fx_0_13 hF) ?_
              refine Tr.getf (pc := 50) d_X11_ask_50 f_11_136 (by decide) (by decide) (ty_113 hF) ?_
              refine Tr.tp 1 (rd_ws _ _ _ _) ?_
              refine Tr.goto (pc := 53) (tgt := 57) d_X11_ask_53 rfl ?_
              refine Tr.iret (pc := 57) d_X11_ask_57 rfl ?_
              refine Tr.sc [_] rfl ?_
              refine Tr.aload_n (pc := 859) (i := 2) d_L_law_859 rfl rfl ?_
              refine Tr.aload_n (pc := 860) (i := 0) d_L_law_860 rfl rfl ?_
              refine Tr.iload_n (pc := 861) (i := 3) d_L_law_861 rfl rfl ?_
              refine Tr.iconst (pc := 862) d_L_law_862 (by decide) ?_
              refine Tr.iadd (pc := 863) d_L_law_863 ?_
              refine Tr.tp 1 rfl ?_
              refine Tr.xld (pc := 864) (i := 0) d_L_law_864 rfl he (by decide) (by decide) ?_
              refine Tr.tp a1 g1 ?_
              refine Tr.aload_n (pc := 865) (i := 0) d_L_law_865 rfl rfl ?_
              refine Tr.iload_n (pc := 866) (i := 3) d_L_law_866 rfl rfl ?_
              refine Tr.iconst (pc := 867) d_L_law_867 (by decide) ?_
              refine Tr.iadd (pc := 868) d_L_law_868 ?_
              refine Tr.tp 2 rfl ?_
              refine Tr.xld (pc := 869) (i := 0) d_L_law_869 rfl he (by decide) (by decide) ?_
              refine Tr.tp a2 g2 ?_
              refine Tr.aload_n (pc := 870) (i := 0) d_L_law_870 rfl rfl ?_
              refine Tr.iload_n (pc := 871) (i := 3) d_L_law_871 rfl rfl ?_
              refine Tr.iconst (pc := 872) d_L_law_872 (by decide) ?_
              refine Tr.iadd (pc := 873) d_L_law_873 ?_
              refine Tr.tp 3 rfl ?_
              refine Tr.xld (pc := 874) (i := 0) d_L_law_874 rfl he (by decide) (by decide) ?_
              refine Tr.tp a3 g3 ?_
              refine Tr.callV (pc := 875) (as := [_, _, _]) d_L_law_875 s_13_114 ok_X12_ask rfl rfl (Nat.le_of_ble_eq_true rfl) (Nat.le_of_ble_eq_true rfl) (by decide) (ty_120 hF) ?_
              refine Tr.lc [(0, (2, 120)), (1, (0, _)), (2, (0, _)), (3, (0, _))] rfl ?_
              refine Tr.iload_n (pc := 0) (i := 1) d_X12_ask_0 rfl rfl ?_
              refine Tr.iconst (pc := 1) d_X12_ask_1 (by decide) ?_
              refine Tr.sipush (pc := 2) d_X12_ask_2 rfl (by decide) ?_
              refine Tr.callS (pc := 5) (as := [_, _, _]) d_X12_ask_5 s_12_467 ok_X12_is rfl rfl (Nat.le_of_ble_eq_true rfl) (Nat.le_of_ble_eq_true rfl) ?_
              refine Tr.lc [(0, (0, _)), (1, (0, 0)), (2, (0, 200))] rfl ?_
              refine Tr.iload_n (pc := 0) (i := 0) d_X12_is_0 rfl rfl ?_
              refine Tr.iload_n (pc := 1) (i := 1) d_X12_is_1 rfl rfl ?_
              refine Tr.icmp_lt (pc := 2) (tgt := 14) d_X12_is_2 rfl (fun hc => absurd hc (by omega)) (fun _ => ?_)
              refine Tr.iload_n (pc := 5) (i := 0) d_X12_is_5 rfl rfl ?_
              refine Tr.iload_n (pc := 6) (i := 2) d_X12_is_6 rfl rfl ?_
              refine Tr.icmp_gt (pc := 7) (tgt := 14) d_X12_is_7 rfl (fun hc => absurd hc (by omega)) (fun _ => ?_)
              refine Tr.iconst (pc := 10) d_X12_is_10 (by decide) ?_
              refine Tr.goto (pc := 11) (tgt := 15) d_X12_is_11 rfl ?_
              refine Tr.zret (pc := 15) d_X12_is_15 rfl (by decide) ?_
              refine Tr.sc [_] rfl ?_
              refine Tr.if_eq (pc := 8) (tgt := 39) d_X12_ask_8 rfl (fun hc => absurd hc (by decide)) (fun _ => ?_)
              refine Tr.iload_n (pc := 11) (i := 2) d_X12_ask_11 rfl rfl ?_
              refine Tr.iconst (pc := 12) d_X12_ask_12 (by decide) ?_
              refine Tr.bipush (pc := 13) d_X12_ask_13 rfl (by decide) ?_
              refine Tr.callS (pc := 15) (as := [_, _, _]) d_X12_ask_15 s_12_467 ok_X12_is rfl rfl (Nat.le_of_ble_eq_true rfl) (Nat.le_of_ble_eq_true rfl) ?_
              refine Tr.lc [(0, (0, _)), (1, (0, 1)), (2, (0, 20))] rfl ?_
              refine Tr.iload_n (pc := 0) (i := 0) d_X12_is_0 rfl rfl ?_
              refine Tr.iload_n (pc := 1) (i := 1) d_X12_is_1 rfl rfl ?_
              refine Tr.icmp_lt (pc := 2) (tgt := 14) d_X12_is_2 rfl (fun hc => absurd hc (by omega)) (fun _ => ?_)
              refine Tr.iload_n (pc := 5) (i := 0) d_X12_is_5 rfl rfl ?_
              refine Tr.iload_n (pc := 6) (i := 2) d_X12_is_6 rfl rfl ?_
              refine Tr.icmp_gt (pc := 7) (tgt := 14) d_X12_is_7 rfl (fun hc => absurd hc (by omega)) (fun _ => ?_)
              refine Tr.iconst (pc := 10) d_X12_is_10 (by decide) ?_
              refine Tr.goto (pc := 11) (tgt := 15) d_X12_is_11 rfl ?_
              refine Tr.zret (pc := 15) d_X12_is_15 rfl (by decide) ?_
              refine Tr.sc [_] rfl ?_
              refine Tr.if_eq (pc := 18) (tgt := 39) d_X12_ask_18 rfl (fun hc => absurd hc (by decide)) (fun _ => ?_)
              refine Tr.iload_n (pc := 21) (i := 3) d_X12_ask_21 rfl rfl ?_
              refine Tr.iconst (pc := 22) d_X12_ask_22 (by decide) ?_
              refine Tr.iconst (pc := 23) d_X12_ask_23 (by decide) ?_
              refine Tr.callS (pc := 24) (as := [_, _, _]) d_X12_ask_24 s_12_467 ok_X12_is rfl rfl (Nat.le_of_ble_eq_true rfl) (Nat.le_of_ble_eq_true rfl) ?_
              refine Tr.lc [(0, (0, _)), (1, (0, 0)), (2, (0, 5))] rfl ?_
              refine Tr.iload_n (pc := 0) (i := 0) d_X12_is_0 rfl rfl ?_
              refine Tr.iload_n (pc := 1) (i := 1) d_X12_is_1 rfl rfl ?_
              refine Tr.icmp_lt (pc := 2) (tgt := 14) d_X12_is_2 rfl (fun hc => absurd hc (by omega)) (fun _ => ?_)
              refine Tr.iload_n (pc := 5) (i := 0) d_X12_is_5 rfl rfl ?_
              refine Tr.iload_n (pc := 6) (i := 2) d_X12_is_6 rfl rfl ?_
              refine Tr.icmp_gt (pc := 7) (tgt := 14) d_X12_is_7 rfl (fun hc => absurd hc (by omega)) (fun _ => ?_)
              refine Tr.iconst (pc := 10) d_X12_is_10 (by decide) ?_
              refine Tr.goto (pc := 11) (tgt := 15) d_X12_is_11 rfl ?_
              refine Tr.zret (pc := 15) d_X12_is_15 rfl (by decide) ?_
              refine Tr.sc [_] rfl ?_
              refine Tr.if_eq (pc := 27) (tgt := 39) d_X12_ask_27 rfl (fun hc => absurd hc (by decide)) (fun _ => ?_)
              refine Tr.aload_n (pc := 30) (i := 0) d_X12_ask_30 rfl rfl ?_
              refine Tr.getf (pc := 31) d_X12_ask_31 f_12_354 (by decide) (by decide) (ty_120 hF) ?_
              refine Tr.tp 0 ((rd_wb _ rfl).trans ((rd_wb _ rfl).trans ((rd_wb _ rfl).trans ((rd_wb _ rfl).trans (b_120_113))))) ?_
              refine Tr.bipush (pc := 34) d_X12_ask_34 rfl (by decide) ?_
              refine Tr.icmp_ne (pc := 36) (tgt := 41) d_X12_ask_36 rfl (fun _ => ?_) (fun hc => absurd hc (by decide))
              refine Tr.aload_n (pc := 41) (i := 0) d_X12_ask_41 rfl rfl ?_
              refine Tr.getf (pc := 42) d_X12_ask_42 f_12_357 (by decide) (by decide) (ty_120 hF) ?_
              refine Tr.tp 185 (fx_120_114 hF) ?_
              refine Tr.aload_n (pc := 45) (i := 0) d_X12_ask_45 rfl rfl ?_
              refine Tr.getf (pc := 46) d_X12_ask_46 f_12_354 (by decide) (by decide) (ty_120 hF) ?_
              refine Tr.tp 0 ((rd_wb _ rfl).trans ((rd_wb _ rfl).trans ((rd_wb _ rfl).trans ((rd_wb _ rfl).trans (b_120_113))))) ?_
              refine Tr.iload_n (pc := 49) (i := 1) d_X12_ask_49 rfl rfl ?_
              refine Tr.iastX (pc := 50) d_X12_ask_50 (ty_185 hF) (by decide) (by decide) hF (by decide +kernel) (fun hF => ?_)
              refine Tr.aload_n (pc := 51) (i := 0) d_X12_ask_51 rfl rfl ?_
              refine Tr.getf (pc := 52) d_X12_ask_52 f_12_360 (by decide) (by decide) (ty_120 hF) ?_
              refine Tr.tp 186 (fx_120_115 hF) ?_
              refine Tr.aload_n (pc := 55) (i := 0) d_X12_ask_55 rfl rfl ?_
              refine Tr.getf (pc := 56) d_X12_ask_56 f_12_354 (by decide) (by decide) (ty_120 hF) ?_
              refine Tr.tp 0 ((rd_wb _ rfl).trans ((rd_wb _ rfl).trans ((rd_wb _ rfl).trans ((rd_wb _ rfl).trans ((rd_wb _ rfl).trans (b_120_113)))))) ?_
              refine Tr.iload_n (pc := 59) (i := 2) d_X12_ask_59 rfl rfl ?_
              refine Tr.iastX (pc := 60) d_X12_ask_60 (ty_186 hF) (by decide) (by decide) hF (by decide +kernel) (fun hF => ?_)
              refine Tr.aload_n (pc := 61) (i := 0) d_X12_ask_61 rfl rfl ?_
              refine Tr.getf (pc := 62) d_X12_ask_62 f_12_363 (by decide) (by decide) (ty_120 hF) ?_
              refine Tr.tp 187 (fx_120_116 hF) ?_
              refine Tr.aload_n (pc := 65) (i := 0) d_X12_ask_65 rfl rfl ?_
              refine Tr.getf (pc := 66) d_X12_ask_66 f_12_354 (by decide) (by decide) (ty_120 hF) ?_
              refine Tr.tp 0 ((rd_wb _ rfl).trans ((rd_wb _ rfl).trans ((rd_wb _ rfl).trans ((rd_wb _ rfl).trans ((rd_wb _ rfl).trans ((rd_wb _ rfl).trans (b_120_113))))))) ?_
              refine Tr.iload_n (pc := 69) (i := 3) d_X12_ask_69 rfl rfl ?_
              refine Tr.iastX (pc := 70) d_X12_ask_70 (ty_187 hF) (by decide) (by decide) hF (by decide +kernel) (fun hF => ?_)
              refine Tr.aload_n (pc := 71) (i := 0) d_X12_ask_71 rfl rfl ?_
              refine Tr.dup (pc := 72) d_X12_ask_72 ne21 ?_
              refine Tr.getf (pc := 73) d_X12_ask_73 f_12_354 (by decide) (by decide) (ty_120 hF) ?_
              refine Tr.tp 0 ((rd_wb _ rfl).trans ((rd_wb _ rfl).trans ((rd_wb _ rfl).trans ((rd_wb _ rfl).trans ((rd_wb _ rfl).trans ((rd_wb _ rfl).trans ((rd_wb _ rfl).trans (b_120_113)))))))) ?_
              refine Tr.iconst (pc := 76) d_X12_ask_76 (by decide) ?_
              refine Tr.iadd (pc := 77) d_X12_ask_77 ?_
              refine Tr.tp 1 rfl ?_
              refine Tr.putfX (pc := 78) d_X12_ask_78 f_12_354 (by decide) (by decide) (ty_120 hF) hF (by decide +kernel) (fun hF => ?_)
              refine Tr.aload_n (pc := 81) (i := 0) d_X12_ask_81 rfl rfl ?_
              refine Tr.getf (pc := 82) d_X12_ask_82 f_12_354 (by decide) (by decide) (ty_120 hF) ?_
              refine Tr.tp 1 (rd_ws _ _ _ _) ?_
              refine Tr.iret (pc := 85) d_X12_ask_85 rfl ?_
              refine Tr.sc [_, _] rfl ?_
              refine Tr.icmp_eq (pc := 878) (tgt := 998) d_L_law_878 rfl (fun _ => ?_) (fun hc => absurd (by decide) hc)
              refine Tr.iinc (pc := 998) (ls2 := [(3, (0, 6)), (2, (2, 120)), (1, (2, 0)), (0, (2, (-2)))]) d_L_law_998 rfl (by decide) rfl ?_
              refine Tr.goto (pc := 1001) (tgt := 18) d_L_law_1001 rfl ?_
              refine Tr.iload_n (pc := 18) (i := 3) d_L_law_18 rfl rfl ?_
              refine Tr.aload_n (pc := 19) (i := 0) d_L_law_19 rfl rfl ?_
              refine Tr.xlen (pc := 20) (i := 0) d_L_law_20 rfl he (by decide) ?_
              refine Tr.tp 6 rfl ?_
              refine Tr.bipush (pc := 21) d_L_law_21 rfl (by decide) ?_
              refine Tr.isub (pc := 23) d_L_law_23 ?_
              refine Tr.tp 0 rfl ?_
              refine Tr.icmp_gt (pc := 24) (tgt := 1004) d_L_law_24 rfl (fun _ => ?_) (fun hc => absurd (by decide) hc)
              refine Tr.iconst (pc := 1004) d_L_law_1004 (by decide) ?_
              exact Tr.zret (pc := 1005) d_L_law_1005 rfl (by decide) ⟨rfl, Fx_room hF⟩
            · refine Tr.iconst (pc := 31) d_X11_ask_31 (by decide) ?_
              refine Tr.iret (pc := 32) d_X11_ask_32 rfl ?_
              refine Tr.sc [_] rfl ?_
              refine Tr.aload_n (pc := 859) (i := 2) d_L_law_859 rfl rfl ?_
              refine Tr.aload_n (pc := 860) (i := 0) d_L_law_860 rfl rfl ?_
              refine Tr.iload_n (pc := 861) (i := 3) d_L_law_861 rfl rfl ?_
              refine Tr.iconst (pc := 862) d_L_law_862 (by decide) ?_
              refine Tr.iadd (pc := 863) d_L_law_863 ?_
              refine Tr.tp 1 rfl ?_
              refine Tr.xld (pc := 864) (i := 0) d_L_law_864 rfl he (by decide) (by decide) ?_
              refine Tr.tp a1 g1 ?_
              refine Tr.aload_n (pc := 865) (i := 0) d_L_law_865 rfl rfl ?_
              refine Tr.iload_n (pc := 866) (i := 3) d_L_law_866 rfl rfl ?_
              refine Tr.iconst (pc := 867) d_L_law_867 (by decide) ?_
              refine Tr.iadd (pc := 868) d_L_law_868 ?_
              refine Tr.tp 2 rfl ?_
              refine Tr.xld (pc := 869) (i := 0) d_L_law_869 rfl he (by decide) (by decide) ?_
              refine Tr.tp a2 g2 ?_
              refine Tr.aload_n (pc := 870) (i := 0) d_L_law_870 rfl rfl ?_
              refine Tr.iload_n (pc := 871) (i := 3) d_L_law_871 rfl rfl ?_
              refine Tr.iconst (pc := 872) d_L_law_872 (by decide) ?_
              refine Tr.iadd (pc := 873) d_L_law_873 ?_
              refine Tr.tp 3 rfl ?_
              refine Tr.xld (pc := 874) (i := 0) d_L_law_874 rfl he (by decide) (by decide) ?_
              refine Tr.tp a3 g3 ?_
              refine Tr.callV (pc := 875) (as := [_, _, _]) d_L_law_875 s_13_114 ok_X12_ask rfl rfl (Nat.le_of_ble_eq_true rfl) (Nat.le_of_ble_eq_true rfl) (by decide) (ty_120 hF) ?_
              refine Tr.lc [(0, (2, 120)), (1, (0, _)), (2, (0, _)), (3, (0, _))] rfl ?_
              refine Tr.iload_n (pc := 0) (i := 1) d_X12_ask_0 rfl rfl ?_
              refine Tr.iconst (pc := 1) d_X12_ask_1 (by decide) ?_
              refine Tr.sipush (pc := 2) d_X12_ask_2 rfl (by decide) ?_
              refine Tr.callS (pc := 5) (as := [_, _, _]) d_X12_ask_5 s_12_467 ok_X12_is rfl rfl (Nat.le_of_ble_eq_true rfl) (Nat.le_of_ble_eq_true rfl) ?_
              refine Tr.lc [(0, (0, _)), (1, (0, 0)), (2, (0, 200))] rfl ?_
              refine Tr.iload_n (pc := 0) (i := 0) d_X12_is_0 rfl rfl ?_
              refine Tr.iload_n (pc := 1) (i := 1) d_X12_is_1 rfl rfl ?_
              refine Tr.icmp_lt (pc := 2) (tgt := 14) d_X12_is_2 rfl (fun hc => absurd hc (by omega)) (fun _ => ?_)
              refine Tr.iload_n (pc := 5) (i := 0) d_X12_is_5 rfl rfl ?_
              refine Tr.iload_n (pc := 6) (i := 2) d_X12_is_6 rfl rfl ?_
              refine Tr.icmp_gt (pc := 7) (tgt := 14) d_X12_is_7 rfl (fun hc => absurd hc (by omega)) (fun _ => ?_)
              refine Tr.iconst (pc := 10) d_X12_is_10 (by decide) ?_
              refine Tr.goto (pc := 11) (tgt := 15) d_X12_is_11 rfl ?_
              refine Tr.zret (pc := 15) d_X12_is_15 rfl (by decide) ?_
              refine Tr.sc [_] rfl ?_
              refine Tr.if_eq (pc := 8) (tgt := 39) d_X12_ask_8 rfl (fun hc => absurd hc (by decide)) (fun _ => ?_)
              refine Tr.iload_n (pc := 11) (i := 2) d_X12_ask_11 rfl rfl ?_
              refine Tr.iconst (pc := 12) d_X12_ask_12 (by decide) ?_
              refine Tr.bipush (pc := 13) d_X12_ask_13 rfl (by decide) ?_
              refine Tr.callS (pc := 15) (as := [_, _, _]) d_X12_ask_15 s_12_467 ok_X12_is rfl rfl (Nat.le_of_ble_eq_true rfl) (Nat.le_of_ble_eq_true rfl) ?_
              refine Tr.lc [(0, (0, _)), (1, (0, 1)), (2, (0, 20))] rfl ?_
              refine Tr.iload_n (pc := 0) (i := 0) d_X12_is_0 rfl rfl ?_
              refine Tr.iload_n (pc := 1) (i := 1) d_X12_is_1 rfl rfl ?_
              refine Tr.icmp_lt (pc := 2) (tgt := 14) d_X12_is_2 rfl (fun hc => absurd hc (by omega)) (fun _ => ?_)
              refine Tr.iload_n (pc := 5) (i := 0) d_X12_is_5 rfl rfl ?_
              refine Tr.iload_n (pc := 6) (i := 2) d_X12_is_6 rfl rfl ?_
              refine Tr.icmp_gt (pc := 7) (tgt := 14) d_X12_is_7 rfl (fun hc => absurd hc (by omega)) (fun _ => ?_)
              refine Tr.iconst (pc := 10) d_X12_is_10 (by decide) ?_
              refine Tr.goto (pc := 11) (tgt := 15) d_X12_is_11 rfl ?_
              refine Tr.zret (pc := 15) d_X12_is_15 rfl (by decide) ?_
              refine Tr.sc [_] rfl ?_
              refine Tr.if_eq (pc := 18) (tgt := 39) d_X12_ask_18 rfl (fun hc => absurd hc (by decide)) (fun _ => ?_)
              refine Tr.iload_n (pc := 21) (i := 3) d_X12_ask_21 rfl rfl ?_
              refine Tr.iconst (pc := 22) d_X12_ask_22 (by decide) ?_
              refine Tr.iconst (pc := 23) d_X12_ask_23 (by decide) ?_
              refine Tr.callS (pc := 24) (as := [_, _, _]) d_X12_ask_24 s_12_467 ok_X12_is rfl rfl (Nat.le_of_ble_eq_true rfl) (Nat.le_of_ble_eq_true rfl) ?_
              refine Tr.lc [(0, (0, _)), (1, (0, 0)), (2, (0, 5))] rfl ?_
              refine Tr.iload_n (pc := 0) (i := 0) d_X12_is_0 rfl rfl ?_
              refine Tr.iload_n (pc := 1) (i := 1) d_X12_is_1 rfl rfl ?_
              refine Tr.icmp_lt (pc := 2) (tgt := 14) d_X12_is_2 rfl (fun hc => absurd hc (by omega)) (fun _ => ?_)
              refine Tr.iload_n (pc := 5) (i := 0) d_X12_is_5 rfl rfl ?_
              refine Tr.iload_n (pc := 6) (i := 2) d_X12_is_6 rfl rfl ?_
              refine Tr.icmp_gt (pc := 7) (tgt := 14) d_X12_is_7 rfl (fun _ => ?_) (fun hc => absurd (by omega) hc)
              refine Tr.iconst (pc := 14) d_X12_is_14 (by decide) ?_
              refine Tr.zret (pc := 15) d_X12_is_15 rfl (by decide) ?_
              refine Tr.sc [_] rfl ?_
              refine Tr.if_eq (pc := 27) (tgt := 39) d_X12_ask_27 rfl (fun _ => ?_) (fun hc => absurd (by decide) hc)
              refine Tr.iconst (pc := 39) d_X12_ask_39 (by decide) ?_
              refine Tr.iret (pc := 40) d_X12_ask_40 rfl ?_
              refine Tr.sc [_, _] rfl ?_
              refine Tr.icmp_eq (pc := 878) (tgt := 998) d_L_law_878 rfl (fun _ => ?_) (fun hc => absurd (by decide) hc)
              refine Tr.iinc (pc := 998) (ls2 := [(3, (0, 6)), (2, (2, 120)), (1, (2, 0)), (0, (2, (-2)))]) d_L_law_998 rfl (by decide) rfl ?_
              refine Tr.goto (pc := 1001) (tgt := 18) d_L_law_1001 rfl ?_
              refine Tr.iload_n (pc := 18) (i := 3) d_L_law_18 rfl rfl ?_
              refine Tr.aload_n (pc := 19) (i := 0) d_L_law_19 rfl rfl ?_
              refine Tr.xlen (pc := 20) (i := 0) d_L_law_20 rfl he (by decide) ?_
              refine Tr.tp 6 rfl ?_
              refine Tr.bipush (pc := 21) d_L_law_21 rfl (by decide) ?_
              refine Tr.isub (pc := 23) d_L_law_23 ?_
              refine Tr.tp 0 rfl ?_
              refine Tr.icmp_gt (pc := 24) (tgt := 1004) d_L_law_24 rfl (fun _ => ?_) (fun hc => absurd (by decide) hc)
              refine Tr.iconst (pc := 1004) d_L_law_1004 (by decide) ?_
              exact Tr.zret (pc := 1005) d_L_law_1005 rfl (by decide) ⟨rfl, Fx_room hF⟩
set_option maxRecDepth 100000 in
set_option maxHeartbeats 4000000 in
theorem op_forget {l : Launch} {K : EC} {f : Int → Int} (he : e_ext K 0 6 f) (hr : ∀ j, -2147483648 ≤ f j ∧ f j ≤ 2147483647) : Tr l K 20 mL_law 883 [(3, (0, 0)), (2, (2, 120)), (1, (2, 0)), (0, (2, -2))] [] C_461 (fun M' r => r = some (0, 1) ∧ M'.1 ≤ 600000 ∧ M'.2.1 ≤ room_1.slots) := by
  obtain ⟨a1, g1⟩ : ∃ a, f 1 = a := ⟨_, rfl⟩
  have r1 := hr 1
  rw [g1] at r1
  obtain ⟨a2, g2⟩ : ∃ a, f 2 = a := ⟨_, rfl⟩
  have r2 := hr 2
  rw [g2] at r2
  obtain ⟨a3, g3⟩ : ∃ a, f 3 = a := ⟨_, rfl⟩
  have r3 := hr 3
  rw [g3] at r3
  obtain ⟨a4, g4⟩ : ∃ a, f 4 = a := ⟨_, rfl⟩
  have r4 := hr 4
  rw [g4] at r4
  obtain ⟨a5, g5⟩ : ∃ a, f 5 = a := ⟨_, rfl⟩
  have r5 := hr 5
  rw [g5] at r5
  have hF := Fx_0
  refine Tr.aload_n (pc := 883) (i := 1) d_L_law_883 rfl rfl ?_
  refine Tr.callV (pc := 884) (as := []) d_L_law_884 s_13_115 ok_X11_forget rfl rfl (Nat.le_of_ble_eq_true rfl) (Nat.le_of_ble_eq_true rfl) (by decide) (ty_0 hF) ?_
  refine Tr.lc [(0, (2, 0))] rfl ?_
  refine Tr.aload_n (pc := 0) (i := 0) d_X11_forget_0 rfl rfl ?_
  refine Tr.getf (pc := 1) d_X11_forget_1 f_11_77 (by decide) (by decide) (ty_0 hF) ?_
  refine Tr.tp 113 (fx_0_13 hF) ?_
  refine Tr.getf (pc := 4) d_X11_forget_4 f_11_136 (by decide) (by decide) (ty_113 hF) ?_
  refine Tr.tp 0 (b_113_0) ?_
  refine Tr.istore_n (pc := 7) (i := 1) (ls2 := [(1, (0, 0)), (0, (2, 0))]) d_X11_forget_7 rfl (by decide) rfl ?_
  refine Tr.aload_n (pc := 8) (i := 0) d_X11_forget_8 rfl rfl ?_
  refine Tr.getf (pc := 9) d_X11_forget_9 f_11_77 (by decide) (by decide) (ty_0 hF) ?_
  refine Tr.tp 113 (fx_0_13 hF) ?_
  refine Tr.iconst (pc := 12) d_X11_forget_12 (by decide) ?_
  refine Tr.putfX (pc := 13) d_X11_forget_13 f_11_136 (by decide) (by decide) (ty_113 hF) hF (by decide +kernel) (fun hF => ?_)
  refine Tr.iload_n (pc := 16) (i := 1) d_X11_forget_16 rfl rfl ?_
  refine Tr.iret (pc := 17) d_X11_forget_17 rfl ?_
  refine Tr.sc [_] rfl ?_
  refine Tr.aload_n (pc := 887) (i := 2) d_L_law_887 rfl rfl ?_
  refine Tr.callV (pc := 888) (as := []) d_L_law_888 s_13_118 ok_X12_forget rfl rfl (Nat.le_of_ble_eq_true rfl) (Nat.le_of_ble_eq_true rfl) (by decide) (ty_120 hF) ?_
  refine Tr.lc [(0, (2, 120))] rfl ?_
  refine Tr.aload_n (pc := 0) (i := 0) d_X12_forget_0 rfl rfl ?_
  refine Tr.getf (pc := 1) d_X12_forget_1 f_12_354 (by decide) (by decide) (ty_120 hF) ?_
  refine Tr.tp 0 ((rd_wb _ rfl).trans (b_120_113)) ?_
  refine Tr.istore_n (pc := 4) (i := 1) (ls2 := [(1, (0, 0)), (0, (2, 120))]) d_X12_forget_4 rfl (by decide) rfl ?_
  refine Tr.aload_n (pc := 5) (i := 0) d_X12_forget_5 rfl rfl ?_
  refine Tr.iconst (pc := 6) d_X12_forget_6 (by decide) ?_
  refine Tr.putfX (pc := 7) d_X12_forget_7 f_12_354 (by decide) (by decide) (ty_120 hF) hF (by decide +kernel) (fun hF => ?_)
  refine Tr.iload_n (pc := 10) (i := 1) d_X12_forget_10 rfl rfl ?_
  refine Tr.iret (pc := 11) d_X12_forget_11 rfl ?_
  refine Tr.sc [_, _] rfl ?_
  refine Tr.icmp_eq (pc := 891) (tgt := 998) d_L_law_891 rfl (fun _ => ?_) (fun hc => absurd (by decide) hc)
  refine Tr.iinc (pc := 998) (ls2 := [(3, (0, 6)), (2, (2, 120)), (1, (2, 0)), (0, (2, (-2)))]) d_L_law_998 rfl (by decide) rfl ?_
  refine Tr.goto (pc := 1001) (tgt := 18) d_L_law_1001 rfl ?_
  refine Tr.iload_n (pc := 18) (i := 3) d_L_law_18 rfl rfl ?_
  refine Tr.aload_n (pc := 19) (i := 0) d_L_law_19 rfl rfl ?_
  refine Tr.xlen (pc := 20) (i := 0) d_L_law_20 rfl he (by decide) ?_
  refine Tr.tp 6 rfl ?_
  refine Tr.bipush (pc := 21) d_L_law_21 rfl (by decide) ?_
  refine Tr.isub (pc := 23) d_L_law_23 ?_
  refine Tr.tp 0 rfl ?_
  refine Tr.icmp_gt (pc := 24) (tgt := 1004) d_L_law_24 rfl (fun _ => ?_) (fun hc => absurd (by decide) hc)
  refine Tr.iconst (pc := 1004) d_L_law_1004 (by decide) ?_
  exact Tr.zret (pc := 1005) d_L_law_1005 rfl (by decide) ⟨rfl, Fx_room hF⟩
set_option maxRecDepth 100000 in
set_option maxHeartbeats 4000000 in
theorem op_together {l : Launch} {K : EC} {f : Int → Int} (he : e_ext K 0 6 f) (hr : ∀ j, -2147483648 ≤ f j ∧ f j ≤ 2147483647) : Tr l K 20 mL_law 896 [(3, (0, 0)), (2, (2, 120)), (1, (2, 0)), (0, (2, -2))] [] C_461 (fun M' r => r = some (0, 1) ∧ M'.1 ≤ 600000 ∧ M'.2.1 ≤ room_1.slots) := by
  obtain ⟨a1, g1⟩ : ∃ a, f 1 = a := ⟨_, rfl⟩
  have r1 := hr 1
  rw [g1] at r1
  obtain ⟨a2, g2⟩ : ∃ a, f 2 = a := ⟨_, rfl⟩
  have r2 := hr 2
  rw [g2] at r2
  obtain ⟨a3, g3⟩ : ∃ a, f 3 = a := ⟨_, rfl⟩
  have r3 := hr 3
  rw [g3] at r3
  obtain ⟨a4, g4⟩ : ∃ a, f 4 = a := ⟨_, rfl⟩
  have r4 := hr 4
  rw [g4] at r4
  obtain ⟨a5, g5⟩ : ∃ a, f 5 = a := ⟨_, rfl⟩
  have r5 := hr 5
  rw [g5] at r5
  have hF := Fx_0
  refine Tr.aload_n (pc := 896) (i := 1) d_L_law_896 rfl rfl ?_
  refine Tr.aload_n (pc := 897) (i := 0) d_L_law_897 rfl rfl ?_
  refine Tr.iload_n (pc := 898) (i := 3) d_L_law_898 rfl rfl ?_
  refine Tr.iconst (pc := 899) d_L_law_899 (by decide) ?_
  refine Tr.iadd (pc := 900) d_L_law_900 ?_
  refine Tr.tp 1 rfl ?_
  refine Tr.xld (pc := 901) (i := 0) d_L_law_901 rfl he (by decide) (by decide) ?_
  refine Tr.tp a1 g1 ?_
  refine Tr.callV (pc := 902) (as := [_]) d_L_law_902 s_13_119 ok_X11_together rfl rfl (Nat.le_of_ble_eq_true rfl) (Nat.le_of_ble_eq_true rfl) (by decide) (ty_0 hF) ?_
  refine Tr.lc [(0, (2, 0)), (1, (0, _))] rfl ?_
  refine Tr.aload_n (pc := 0) (i := 0) d_X11_together_0 rfl rfl ?_
  refine Tr.iload_n (pc := 1) (i := 1) d_X11_together_1 rfl rfl ?_
  refine Tr.callV (pc := 2) (as := [_]) d_X11_together_2 s_11_174 ok_X11_isPart rfl rfl (Nat.le_of_ble_eq_true rfl) (Nat.le_of_ble_eq_true rfl) (by decide) (ty_0 hF) ?_
  refine Tr.lc [(0, (2, 0)), (1, (0, _))] rfl ?_
  refine Tr.iload_n (pc := 0) (i := 1) d_X11_isPart_0 rfl rfl ?_
  refine Tr.if_lt (pc := 1) (tgt := 21) d_X11_isPart_1 rfl (fun h1 => ?_) (fun h1 => ?_)
  · refine Tr.iconst (pc := 21) d_X11_isPart_21 (by decide) ?_
    refine Tr.zret (pc := 22) d_X11_isPart_22 rfl (by decide) ?_
    refine Tr.sc [_] rfl ?_
    refine Tr.if_eq (pc := 5) (tgt := 18) d_X11_together_5 rfl (fun _ => ?_) (fun hc => absurd (by decide) hc)
    refine Tr.iconst (pc := 18) d_X11_together_18 (by decide) ?_
    refine Tr.iret (pc := 19) d_X11_together_19 rfl ?_
    refine Tr.sc [_] rfl ?_
    refine Tr.aload_n (pc := 905) (i := 2) d_L_law_905 rfl rfl ?_
    refine Tr.aload_n (pc := 906) (i := 0) d_L_law_906 rfl rfl ?_
    refine Tr.iload_n (pc := 907) (i := 3) d_L_law_907 rfl rfl ?_
    refine Tr.iconst (pc := 908) d_L_law_908 (by decide) ?_
    refine Tr.iadd (pc := 909) d_L_law_909 ?_
    refine Tr.tp 1 rfl ?_
    refine Tr.xld (pc := 910) (i := 0) d_L_law_910 rfl he (by decide) (by decide) ?_
    refine Tr.tp a1 g1 ?_
    refine Tr.callV (pc := 911) (as := [_]) d_L_law_911 s_13_122 ok_X12_together rfl rfl (Nat.le_of_ble_eq_true rfl) (Nat.le_of_ble_eq_true rfl) (by decide) (ty_120 hF) ?_
    refine Tr.lc [(0, (2, 120)), (1, (0, _))] rfl ?_
    refine Tr.aload_n (pc := 0) (i := 0) d_X12_together_0 rfl rfl ?_
    refine Tr.iload_n (pc := 1) (i := 1) d_X12_together_1 rfl rfl ?_
    refine Tr.callV (pc := 2) (as := [_]) d_X12_together_2 s_12_555 ok_X12_isPart rfl rfl (Nat.le_of_ble_eq_true rfl) (Nat.le_of_ble_eq_true rfl) (by decide) (ty_120 hF) ?_
    refine Tr.lc [(0, (2, 120)), (1, (0, _))] rfl ?_
    refine Tr.iload_n (pc := 0) (i := 1) d_X12_isPart_0 rfl rfl ?_
    refine Tr.iconst (pc := 1) d_X12_isPart_1 (by decide) ?_
    refine Tr.aload_n (pc := 2) (i := 0) d_X12_isPart_2 rfl rfl ?_
    refine Tr.getf (pc := 3) d_X12_isPart_3 f_12_63 (by decide) (by decide) (ty_120 hF) ?_
    refine Tr.tp 126 (fx_120_17 hF) ?_
    refine Tr.aload_n (pc := 6) (i := 0) d_X12_isPart_6 rfl rfl ?_
    refine Tr.getf (pc := 7) d_X12_isPart_7 f_12_48 (by decide) (by decide) (ty_120 hF) ?_
    refine Tr.tp 0 (b_120_12) ?_
    refine Tr.iald (pc := 10) d_X12_isPart_10 (ty_126 hF) (by decide) (by decide) ?_
    refine Tr.tp 0 (b_126_0) ?_
    refine Tr.iconst (pc := 11) d_X12_isPart_11 (by decide) ?_
    refine Tr.isub (pc := 12) d_X12_isPart_12 ?_
    refine Tr.tp (-1) rfl ?_
    refine Tr.callS (pc := 13) (as := [_, _, _]) d_X12_isPart_13 s_12_467 ok_X12_is rfl rfl (Nat.le_of_ble_eq_true rfl) (Nat.le_of_ble_eq_true rfl) ?_
    refine Tr.lc [(0, (0, _)), (1, (0, 0)), (2, (0, (-1)))] rfl ?_
    refine Tr.iload_n (pc := 0) (i := 0) d_X12_is_0 rfl rfl ?_
    refine Tr.iload_n (pc := 1) (i := 1) d_X12_is_1 rfl rfl ?_
    refine Tr.icmp_lt (pc := 2) (tgt := 14) d_X12_is_2 rfl (fun _ => ?_) (fun hc => absurd (by omega) hc)
    refine Tr.iconst (pc := 14) d_X12_is_14 (by decide) ?_
    refine Tr.zret (pc := 15) d_X12_is_15 rfl (by decide) ?_
    refine Tr.sc [_] rfl ?_
    refine Tr.zret (pc := 16) d_X12_isPart_16 rfl (by decide) ?_
    refine Tr.sc [_] rfl ?_
    refine Tr.if_eq (pc := 5) (tgt := 15) d_X12_together_5 rfl (fun _ => ?_) (fun hc => absurd (by decide) hc)
    refine Tr.iconst (pc := 15) d_X12_together_15 (by decide) ?_
    refine Tr.iret (pc := 16) d_X12_together_16 rfl ?_
    refine Tr.sc [_, _] rfl ?_
    refine Tr.icmp_eq (pc := 914) (tgt := 998) d_L_law_914 rfl (fun _ => ?_) (fun hc => absurd (by decide) hc)
    refine Tr.iinc (pc := 998) (ls2 := [(3, (0, 6)), (2, (2, 120)), (1, (2, 0)), (0, (2, (-2)))]) d_L_law_998 rfl (by decide) rfl ?_
    refine Tr.goto (pc := 1001) (tgt := 18) d_L_law_1001 rfl ?_
    refine Tr.iload_n (pc := 18) (i := 3) d_L_law_18 rfl rfl ?_
    refine Tr.aload_n (pc := 19) (i := 0) d_L_law_19 rfl rfl ?_
    refine Tr.xlen (pc := 20) (i := 0) d_L_law_20 rfl he (by decide) ?_
    refine Tr.tp 6 rfl ?_
    refine Tr.bipush (pc := 21) d_L_law_21 rfl (by decide) ?_
    refine Tr.isub (pc := 23) d_L_law_23 ?_
    refine Tr.tp 0 rfl ?_
    refine Tr.icmp_gt (pc := 24) (tgt := 1004) d_L_law_24 rfl (fun _ => ?_) (fun hc => absurd (by decide) hc)
    refine Tr.iconst (pc := 1004) d_L_law_1004 (by decide) ?_
    exact Tr.zret (pc := 1005) d_L_law_1005 rfl (by decide) ⟨rfl, Fx_room hF⟩
  · refine Tr.iload_n (pc := 4) (i := 1) d_X11_isPart_4 rfl rfl ?_
    refine Tr.aload_n (pc := 5) (i := 0) d_X11_isPart_5 rfl rfl ?_
    refine Tr.getf (pc := 6) d_X11_isPart_6 f_11_30 (by decide) (by decide) (ty_0 hF) ?_
    refine Tr.tp 7 (b_0_4) ?_
    refine Tr.getf (pc := 9) d_X11_isPart_9 f_11_130 (by decide) (by decide) (ty_7 hF) ?_
    refine Tr.tp 8 (fx_7_4 hF) ?_
    refine Tr.iconst (pc := 12) d_X11_isPart_12 (by decide) ?_
    refine Tr.iald (pc := 13) d_X11_isPart_13 (ty_8 hF) (by decide) (by decide) ?_
    refine Tr.tp 0 (b_8_0) ?_
    refine Tr.icmp_ge (pc := 14) (tgt := 21) d_X11_isPart_14 rfl (fun _ => ?_) (fun hc => absurd (by omega) hc)
    refine Tr.iconst (pc := 21) d_X11_isPart_21 (by decide) ?_
    refine Tr.zret (pc := 22) d_X11_isPart_22 rfl (by decide) ?_
    refine Tr.sc [_] rfl ?_
    refine Tr.if_eq (pc := 5) (tgt := 18) d_X11_together_5 rfl (fun _ => ?_) (fun hc => absurd (by decide) hc)
    refine Tr.iconst (pc := 18) d_X11_together_18 (by decide) ?_
    refine Tr.iret (pc := 19) d_X11_together_19 rfl ?_
    refine Tr.sc [_] rfl ?_
    refine Tr.aload_n (pc := 905) (i := 2) d_L_law_905 rfl rfl ?_
    refine Tr.aload_n (pc := 906) (i := 0) d_L_law_906 rfl rfl ?_
    refine Tr.iload_n (pc := 907) (i := 3) d_L_law_907 rfl rfl ?_
    refine Tr.iconst (pc := 908) d_L_law_908 (by decide) ?_
    refine Tr.iadd (pc := 909) d_L_law_909 ?_
    refine Tr.tp 1 rfl ?_
    refine Tr.xld (pc := 910) (i := 0) d_L_law_910 rfl he (by decide) (by decide) ?_
    refine Tr.tp a1 g1 ?_
    refine Tr.callV (pc := 911) (as := [_]) d_L_law_911 s_13_122 ok_X12_together rfl rfl (Nat.le_of_ble_eq_true rfl) (Nat.le_of_ble_eq_true rfl) (by decide) (ty_120 hF) ?_
    refine Tr.lc [(0, (2, 120)), (1, (0, _))] rfl ?_
    refine Tr.aload_n (pc := 0) (i := 0) d_X12_together_0 rfl rfl ?_
    refine Tr.iload_n (pc := 1) (i := 1) d_X12_together_1 rfl rfl ?_
    refine Tr.callV (pc := 2) (as := [_]) d_X12_together_2 s_12_555 ok_X12_isPart rfl rfl (Nat.le_of_ble_eq_true rfl) (Nat.le_of_ble_eq_true rfl) (by decide) (ty_120 hF) ?_
    refine Tr.lc [(0, (2, 120)), (1, (0, _))] rfl ?_
    refine Tr.iload_n (pc := 0) (i := 1) d_X12_isPart_0 rfl rfl ?_
    refine Tr.iconst (pc := 1) d_X12_isPart_1 (by decide) ?_
    refine Tr.aload_n (pc := 2) (i := 0) d_X12_isPart_2 rfl rfl ?_
    refine Tr.getf (pc := 3) d_X12_isPart_3 f_12_63 (by decide) (by decide) (ty_120 hF) ?_
    refine Tr.tp 126 (fx_120_17 hF) ?_
    refine Tr.aload_n (pc := 6) (i := 0) d_X12_isPart_6 rfl rfl ?_
    refine Tr.getf (pc := 7) d_X12_isPart_7 f_12_48 (by decide) (by decide) (ty_120 hF) ?_
    refine Tr.tp 0 (b_120_12) ?_
    refine Tr.iald (pc := 10) d_X12_isPart_10 (ty_126 hF) (by decide) (by decide) ?_
    refine Tr.tp 0 (b_126_0) ?_
    refine Tr.iconst (pc := 11) d_X12_isPart_11 (by decide) ?_
    refine Tr.isub (pc := 12) d_X12_isPart_12 ?_
    refine Tr.tp (-1) rfl ?_
    refine Tr.callS (pc := 13) (as := [_, _, _]) d_X12_isPart_13 s_12_467 ok_X12_is rfl rfl (Nat.le_of_ble_eq_true rfl) (Nat.le_of_ble_eq_true rfl) ?_
    refine Tr.lc [(0, (0, _)), (1, (0, 0)), (2, (0, (-1)))] rfl ?_
    refine Tr.iload_n (pc := 0) (i := 0) d_X12_is_0 rfl rfl ?_
    refine Tr.iload_n (pc := 1) (i := 1) d_X12_is_1 rfl rfl ?_
    refine Tr.icmp_lt (pc := 2) (tgt := 14) d_X12_is_2 rfl (fun hc => absurd hc (by omega)) (fun _ => ?_)
    refine Tr.iload_n (pc := 5) (i := 0) d_X12_is_5 rfl rfl ?_
    refine Tr.iload_n (pc := 6) (i := 2) d_X12_is_6 rfl rfl ?_
    refine Tr.icmp_gt (pc := 7) (tgt := 14) d_X12_is_7 rfl (fun _ => ?_) (fun hc => absurd (by omega) hc)
    refine Tr.iconst (pc := 14) d_X12_is_14 (by decide) ?_
    refine Tr.zret (pc := 15) d_X12_is_15 rfl (by decide) ?_
    refine Tr.sc [_] rfl ?_
    refine Tr.zret (pc := 16) d_X12_isPart_16 rfl (by decide) ?_
    refine Tr.sc [_] rfl ?_
    refine Tr.if_eq (pc := 5) (tgt := 15) d_X12_together_5 rfl (fun _ => ?_) (fun hc => absurd (by decide) hc)
    refine Tr.iconst (pc := 15) d_X12_together_15 (by decide) ?_
    refine Tr.iret (pc := 16) d_X12_together_16 rfl ?_
    refine Tr.sc [_, _] rfl ?_
    refine Tr.icmp_eq (pc := 914) (tgt := 998) d_L_law_914 rfl (fun _ => ?_) (fun hc => absurd (by decide) hc)
    refine Tr.iinc (pc := 998) (ls2 := [(3, (0, 6)), (2, (2, 120)), (1, (2, 0)), (0, (2, (-2)))]) d_L_law_998 rfl (by decide) rfl ?_
    refine Tr.goto (pc := 1001) (tgt := 18) d_L_law_1001 rfl ?_
    refine Tr.iload_n (pc := 18) (i := 3) d_L_law_18 rfl rfl ?_
    refine Tr.aload_n (pc := 19) (i := 0) d_L_law_19 rfl rfl ?_
    refine Tr.xlen (pc := 20) (i := 0) d_L_law_20 rfl he (by decide) ?_
    refine Tr.tp 6 rfl ?_
    refine Tr.bipush (pc := 21) d_L_law_21 rfl (by decide) ?_
    refine Tr.isub (pc := 23) d_L_law_23 ?_
    refine Tr.tp 0 rfl ?_
    refine Tr.icmp_gt (pc := 24) (tgt := 1004) d_L_law_24 rfl (fun _ => ?_) (fun hc => absurd (by decide) hc)
    refine Tr.iconst (pc := 1004) d_L_law_1004 (by decide) ?_
    exact Tr.zret (pc := 1005) d_L_law_1005 rfl (by decide) ⟨rfl, Fx_room hF⟩
set_option maxRecDepth 100000 in
set_option maxHeartbeats 4000000 in
theorem op_later {l : Launch} {K : EC} {f : Int → Int} (he : e_ext K 0 6 f) (hr : ∀ j, -2147483648 ≤ f j ∧ f j ≤ 2147483647) : Tr l K 20 mL_law 919 [(3, (0, 0)), (2, (2, 120)), (1, (2, 0)), (0, (2, -2))] [] C_461 (fun M' r => r = some (0, 1) ∧ M'.1 ≤ 600000 ∧ M'.2.1 ≤ room_1.slots) := by
  obtain ⟨a1, g1⟩ : ∃ a, f 1 = a := ⟨_, rfl⟩
  have r1 := hr 1
  rw [g1] at r1
  obtain ⟨a2, g2⟩ : ∃ a, f 2 = a := ⟨_, rfl⟩
  have r2 := hr 2
  rw [g2] at r2
  obtain ⟨a3, g3⟩ : ∃ a, f 3 = a := ⟨_, rfl⟩
  have r3 := hr 3
  rw [g3] at r3
  obtain ⟨a4, g4⟩ : ∃ a, f 4 = a := ⟨_, rfl⟩
  have r4 := hr 4
  rw [g4] at r4
  obtain ⟨a5, g5⟩ : ∃ a, f 5 = a := ⟨_, rfl⟩
  have r5 := hr 5
  rw [g5] at r5
  have hF := Fx_0
  refine Tr.aload_n (pc := 919) (i := 1) d_L_law_919 rfl rfl ?_
  refine Tr.aload_n (pc := 920) (i := 0) d_L_law_920 rfl rfl ?_
  refine Tr.iload_n (pc := 921) (i := 3) d_L_law_921 rfl rfl ?_
  refine Tr.iconst (pc := 922) d_L_law_922 (by decide) ?_
  refine Tr.iadd (pc := 923) d_L_law_923 ?_
  refine Tr.tp 1 rfl ?_
  refine Tr.xld (pc := 924) (i := 0) d_L_law_924 rfl he (by decide) (by decide) ?_
  refine Tr.tp a1 g1 ?_
  refine Tr.callV (pc := 925) (as := [_]) d_L_law_925 s_13_123 ok_X11_later rfl rfl (Nat.le_of_ble_eq_true rfl) (Nat.le_of_ble_eq_true rfl) (by decide) (ty_0 hF) ?_
  refine Tr.lc [(0, (2, 0)), (1, (0, _))] rfl ?_
  refine Tr.iload_n (pc := 0) (i := 1) d_X11_later_0 rfl rfl ?_
  refine Tr.if_lt (pc := 1) (tgt := 15) d_X11_later_1 rfl (fun h1 => ?_) (fun h1 => ?_)
  · refine Tr.iconst (pc := 15) d_X11_later_15 (by decide) ?_
    refine Tr.iret (pc := 16) d_X11_later_16 rfl ?_
    refine Tr.sc [_] rfl ?_
    refine Tr.aload_n (pc := 928) (i := 2) d_L_law_928 rfl rfl ?_
    refine Tr.aload_n (pc := 929) (i := 0) d_L_law_929 rfl rfl ?_
    refine Tr.iload_n (pc := 930) (i := 3) d_L_law_930 rfl rfl ?_
    refine Tr.iconst (pc := 931) d_L_law_931 (by decide) ?_
    refine Tr.iadd (pc := 932) d_L_law_932 ?_
    refine Tr.tp 1 rfl ?_
    refine Tr.xld (pc := 933) (i := 0) d_L_law_933 rfl he (by decide) (by decide) ?_
    refine Tr.tp a1 g1 ?_
    refine Tr.callV (pc := 934) (as := [_]) d_L_law_934 s_13_126 ok_X12_later rfl rfl (Nat.le_of_ble_eq_true rfl) (Nat.le_of_ble_eq_true rfl) (by decide) (ty_120 hF) ?_
    refine Tr.lc [(0, (2, 120)), (1, (0, _))] rfl ?_
    refine Tr.iload_n (pc := 0) (i := 1) d_X12_later_0 rfl rfl ?_
    refine Tr.if_lt (pc := 1) (tgt := 21) d_X12_later_1 rfl (fun _ => ?_) (fun hc => absurd (by omega) hc)
    refine Tr.iconst (pc := 21) d_X12_later_21 (by decide) ?_
    refine Tr.iret (pc := 22) d_X12_later_22 rfl ?_
    refine Tr.sc [_, _] rfl ?_
    refine Tr.icmp_eq (pc := 937) (tgt := 998) d_L_law_937 rfl (fun _ => ?_) (fun hc => absurd (by decide) hc)
    refine Tr.iinc (pc := 998) (ls2 := [(3, (0, 6)), (2, (2, 120)), (1, (2, 0)), (0, (2, (-2)))]) d_L_law_998 rfl (by decide) rfl ?_
    refine Tr.goto (pc := 1001) (tgt := 18) d_L_law_1001 rfl ?_
    refine Tr.iload_n (pc := 18) (i := 3) d_L_law_18 rfl rfl ?_
    refine Tr.aload_n (pc := 19) (i := 0) d_L_law_19 rfl rfl ?_
    refine Tr.xlen (pc := 20) (i := 0) d_L_law_20 rfl he (by decide) ?_
    refine Tr.tp 6 rfl ?_
    refine Tr.bipush (pc := 21) d_L_law_21 rfl (by decide) ?_
    refine Tr.isub (pc := 23) d_L_law_23 ?_
    refine Tr.tp 0 rfl ?_
    refine Tr.icmp_gt (pc := 24) (tgt := 1004) d_L_law_24 rfl (fun _ => ?_) (fun hc => absurd (by decide) hc)
    refine Tr.iconst (pc := 1004) d_L_law_1004 (by decide) ?_
    exact Tr.zret (pc := 1005) d_L_law_1005 rfl (by decide) ⟨rfl, Fx_room hF⟩
  · refine Tr.iload_n (pc := 4) (i := 1) d_X11_later_4 rfl rfl ?_
    refine Tr.aload_n (pc := 5) (i := 0) d_X11_later_5 rfl rfl ?_
    refine Tr.getf (pc := 6) d_X11_later_6 f_11_77 (by decide) (by decide) (ty_0 hF) ?_
    refine Tr.tp 113 (fx_0_13 hF) ?_
    refine Tr.getf (pc := 9) d_X11_later_9 f_11_301 (by decide) (by decide) (ty_113 hF) ?_
    refine Tr.tp 0 (b_113_7) ?_
    refine Tr.icmp_lt (pc := 12) (tgt := 17) d_X11_later_12 rfl (fun hc => absurd hc (by omega)) (fun _ => ?_)
    refine Tr.iconst (pc := 15) d_X11_later_15 (by decide) ?_
    refine Tr.iret (pc := 16) d_X11_later_16 rfl ?_
    refine Tr.sc [_] rfl ?_
    refine Tr.aload_n (pc := 928) (i := 2) d_L_law_928 rfl rfl ?_
    refine Tr.aload_n (pc := 929) (i := 0) d_L_law_929 rfl rfl ?_
    refine Tr.iload_n (pc := 930) (i := 3) d_L_law_930 rfl rfl ?_
    refine Tr.iconst (pc := 931) d_L_law_931 (by decide) ?_
    refine Tr.iadd (pc := 932) d_L_law_932 ?_
    refine Tr.tp 1 rfl ?_
    refine Tr.xld (pc := 933) (i := 0) d_L_law_933 rfl he (by decide) (by decide) ?_
    refine Tr.tp a1 g1 ?_
    refine Tr.callV (pc := 934) (as := [_]) d_L_law_934 s_13_126 ok_X12_later rfl rfl (Nat.le_of_ble_eq_true rfl) (Nat.le_of_ble_eq_true rfl) (by decide) (ty_120 hF) ?_
    refine Tr.lc [(0, (2, 120)), (1, (0, _))] rfl ?_
    refine Tr.iload_n (pc := 0) (i := 1) d_X12_later_0 rfl rfl ?_
    refine Tr.if_lt (pc := 1) (tgt := 21) d_X12_later_1 rfl (fun hc => absurd hc (by omega)) (fun _ => ?_)
    refine Tr.iload_n (pc := 4) (i := 1) d_X12_later_4 rfl rfl ?_
    refine Tr.aload_n (pc := 5) (i := 0) d_X12_later_5 rfl rfl ?_
    refine Tr.getf (pc := 6) d_X12_later_6 f_12_366 (by decide) (by decide) (ty_120 hF) ?_
    refine Tr.tp 0 (b_120_117) ?_
    refine Tr.icmp_ge (pc := 9) (tgt := 21) d_X12_later_9 rfl (fun _ => ?_) (fun hc => absurd (by omega) hc)
    refine Tr.iconst (pc := 21) d_X12_later_21 (by decide) ?_
    refine Tr.iret (pc := 22) d_X12_later_22 rfl ?_
    refine Tr.sc [_, _] rfl ?_
    refine Tr.icmp_eq (pc := 937) (tgt := 998) d_L_law_937 rfl (fun _ => ?_) (fun hc => absurd (by decide) hc)
    refine Tr.iinc (pc := 998) (ls2 := [(3, (0, 6)), (2, (2, 120)), (1, (2, 0)), (0, (2, (-2)))]) d_L_law_998 rfl (by decide) rfl ?_
    refine Tr.goto (pc := 1001) (tgt := 18) d_L_law_1001 rfl ?_
    refine Tr.iload_n (pc := 18) (i := 3) d_L_law_18 rfl rfl ?_
    refine Tr.aload_n (pc := 19) (i := 0) d_L_law_19 rfl rfl ?_
    refine Tr.xlen (pc := 20) (i := 0) d_L_law_20 rfl he (by decide) ?_
    refine Tr.tp 6 rfl ?_
    refine Tr.bipush (pc := 21) d_L_law_21 rfl (by decide) ?_
    refine Tr.isub (pc := 23) d_L_law_23 ?_
    refine Tr.tp 0 rfl ?_
    refine Tr.icmp_gt (pc := 24) (tgt := 1004) d_L_law_24 rfl (fun _ => ?_) (fun hc => absurd (by decide) hc)
    refine Tr.iconst (pc := 1004) d_L_law_1004 (by decide) ?_
    exact Tr.zret (pc := 1005) d_L_law_1005 rfl (by decide) ⟨rfl, Fx_room hF⟩
set_option maxRecDepth 100000 in
set_option maxHeartbeats 4000000 in
theorem op_lasts {l : Launch} {K : EC} {f : Int → Int} (he : e_ext K 0 6 f) (hr : ∀ j, -2147483648 ≤ f j ∧ f j ≤ 2147483647) : Tr l K 20 mL_law 955 [(3, (0, 0)), (2, (2, 120)), (1, (2, 0)), (0, (2, -2))] [] C_461 (fun M' r => r = some (0, 1) ∧ M'.1 ≤ 600000 ∧ M'.2.1 ≤ room_1.slots) := by
  obtain ⟨a1, g1⟩ : ∃ a, f 1 = a := ⟨_, rfl⟩
  have r1 := hr 1
  rw [g1] at r1
  obtain ⟨a2, g2⟩ : ∃ a, f 2 = a := ⟨_, rfl⟩
  have r2 := hr 2
  rw [g2] at r2
  obtain ⟨a3, g3⟩ : ∃ a, f 3 = a := ⟨_, rfl⟩
  have r3 := hr 3
  rw [g3] at r3
  obtain ⟨a4, g4⟩ : ∃ a, f 4 = a := ⟨_, rfl⟩
  have r4 := hr 4
  rw [g4] at r4
  obtain ⟨a5, g5⟩ : ∃ a, f 5 = a := ⟨_, rfl⟩
  have r5 := hr 5
  rw [g5] at r5
  have hF := Fx_0
  refine Tr.aload_n (pc := 955) (i := 1) d_L_law_955 rfl rfl ?_
  refine Tr.aload_n (pc := 956) (i := 0) d_L_law_956 rfl rfl ?_
  refine Tr.iload_n (pc := 957) (i := 3) d_L_law_957 rfl rfl ?_
  refine Tr.iconst (pc := 958) d_L_law_958 (by decide) ?_
  refine Tr.iadd (pc := 959) d_L_law_959 ?_
  refine Tr.tp 1 rfl ?_
  refine Tr.xld (pc := 960) (i := 0) d_L_law_960 rfl he (by decide) (by decide) ?_
  refine Tr.tp a1 g1 ?_
  refine Tr.aload_n (pc := 961) (i := 0) d_L_law_961 rfl rfl ?_
  refine Tr.iload_n (pc := 962) (i := 3) d_L_law_962 rfl rfl ?_
  refine Tr.iconst (pc := 963) d_L_law_963 (by decide) ?_
  refine Tr.iadd (pc := 964) d_L_law_964 ?_
  refine Tr.tp 2 rfl ?_
  refine Tr.xld (pc := 965) (i := 0) d_L_law_965 rfl he (by decide) (by decide) ?_
  refine Tr.tp a2 g2 ?_
  refine Tr.aload_n (pc := 966) (i := 0) d_L_law_966 rfl rfl ?_
  refine Tr.iload_n (pc := 967) (i := 3) d_L_law_967 rfl rfl ?_
  refine Tr.iconst (pc := 968) d_L_law_968 (by decide) ?_
  refine Tr.iadd (pc := 969) d_L_law_969 ?_
  refine Tr.tp 3 rfl ?_
  refine Tr.xld (pc := 970) (i := 0) d_L_law_970 rfl he (by decide) (by decide) ?_
  refine Tr.tp a3 g3 ?_
  refine Tr.callV (pc := 971) (as := [_, _, _]) d_L_law_971 s_13_131 ok_X11_lasts rfl rfl (Nat.le_of_ble_eq_true rfl) (Nat.le_of_ble_eq_true rfl) (by decide) (ty_0 hF) ?_
  refine Tr.lc [(0, (2, 0)), (1, (0, _)), (2, (0, _)), (3, (0, _))] rfl ?_
  refine Tr.aload_n (pc := 0) (i := 0) d_X11_lasts_0 rfl rfl ?_
  refine Tr.getz (pc := 1) d_X11_lasts_1 f_11_109 (by decide) (ty_0 hF) ?_
  refine Tr.tp 0 (b_0_9) ?_
  refine Tr.if_eq (pc := 4) (tgt := 18) d_X11_lasts_4 rfl (fun _ => ?_) (fun hc => absurd (by decide) hc)
  refine Tr.iconst (pc := 18) d_X11_lasts_18 (by decide) ?_
  refine Tr.iret (pc := 19) d_X11_lasts_19 rfl ?_
  refine Tr.sc [_] rfl ?_
  refine Tr.aload_n (pc := 974) (i := 2) d_L_law_974 rfl rfl ?_
  refine Tr.aload_n (pc := 975) (i := 0) d_L_law_975 rfl rfl ?_
  refine Tr.iload_n (pc := 976) (i := 3) d_L_law_976 rfl rfl ?_
  refine Tr.iconst (pc := 977) d_L_law_977 (by decide) ?_
  refine Tr.iadd (pc := 978) d_L_law_978 ?_
  refine Tr.tp 1 rfl ?_
  refine Tr.xld (pc := 979) (i := 0) d_L_law_979 rfl he (by decide) (by decide) ?_
  refine Tr.tp a1 g1 ?_
  refine Tr.aload_n (pc := 980) (i := 0) d_L_law_980 rfl rfl ?_
  refine Tr.iload_n (pc := 981) (i := 3) d_L_law_981 rfl rfl ?_
  refine Tr.iconst (pc := 982) d_L_law_982 (by decide) ?_
  refine Tr.iadd (pc := 983) d_L_law_983 ?_
  refine Tr.tp 2 rfl ?_
  refine Tr.xld (pc := 984) (i := 0) d_L_law_984 rfl he (by decide) (by decide) ?_
  refine Tr.tp a2 g2 ?_
  refine Tr.aload_n (pc := 985) (i := 0) d_L_law_985 rfl rfl ?_
  refine Tr.iload_n (pc := 986) (i := 3) d_L_law_986 rfl rfl ?_
  refine Tr.iconst (pc := 987) d_L_law_987 (by decide) ?_
  refine Tr.iadd (pc := 988) d_L_law_988 ?_
  refine Tr.tp 3 rfl ?_
  refine Tr.xld (pc := 989) (i := 0) d_L_law_989 rfl he (by decide) (by decide) ?_
  refine Tr.tp a3 g3 ?_
  refine Tr.callV (pc := 990) (as := [_, _, _]) d_L_law_990 s_13_134 ok_X12_lasts rfl rfl (Nat.le_of_ble_eq_true rfl) (Nat.le_of_ble_eq_true rfl) (by decide) (ty_120 hF) ?_
  refine Tr.lc [(0, (2, 120)), (1, (0, _)), (2, (0, _)), (3, (0, _))] rfl ?_
  refine Tr.aload_n (pc := 0) (i := 0) d_X12_lasts_0 rfl rfl ?_
  refine Tr.getz (pc := 1) d_X12_lasts_1 f_12_270 (by decide) (ty_120 hF) ?_
  refine Tr.tp 0 (b_120_85) ?_
  refine Tr.if_eq (pc := 4) (tgt := 40) d_X12_lasts_4 rfl (fun _ => ?_) (fun hc => absurd (by decide) hc)
  refine Tr.iconst (pc := 40) d_X12_lasts_40 (by decide) ?_
  refine Tr.iret (pc := 41) d_X12_lasts_41 rfl ?_
  refine Tr.sc [_, _] rfl ?_
  refine Tr.icmp_eq (pc := 993) (tgt := 998) d_L_law_993 rfl (fun _ => ?_) (fun hc => absurd (by decide) hc)
  refine Tr.iinc (pc := 998) (ls2 := [(3, (0, 6)), (2, (2, 120)), (1, (2, 0)), (0, (2, (-2)))]) d_L_law_998 rfl (by decide) rfl ?_
  refine Tr.goto (pc := 1001) (tgt := 18) d_L_law_1001 rfl ?_
  refine Tr.iload_n (pc := 18) (i := 3) d_L_law_18 rfl rfl ?_
  refine Tr.aload_n (pc := 19) (i := 0) d_L_law_19 rfl rfl ?_
  refine Tr.xlen (pc := 20) (i := 0) d_L_law_20 rfl he (by decide) ?_
  refine Tr.tp 6 rfl ?_
  refine Tr.bipush (pc := 21) d_L_law_21 rfl (by decide) ?_
  refine Tr.isub (pc := 23) d_L_law_23 ?_
  refine Tr.tp 0 rfl ?_
  refine Tr.icmp_gt (pc := 24) (tgt := 1004) d_L_law_24 rfl (fun _ => ?_) (fun hc => absurd (by decide) hc)
  refine Tr.iconst (pc := 1004) d_L_law_1004 (by decide) ?_
  exact Tr.zret (pc := 1005) d_L_law_1005 rfl (by decide) ⟨rfl, Fx_room hF⟩
set_option maxRecDepth 100000 in
set_option maxHeartbeats 4000000 in
theorem op_none {l : Launch} {K : EC} {f : Int → Int} (he : e_ext K 0 6 f) (hr : ∀ j, -2147483648 ≤ f j ∧ f j ≤ 2147483647) : Tr l K 20 mL_law 998 [(3, (0, 0)), (2, (2, 120)), (1, (2, 0)), (0, (2, -2))] [] C_461 (fun M' r => r = some (0, 1) ∧ M'.1 ≤ 600000 ∧ M'.2.1 ≤ room_1.slots) := by
  obtain ⟨a1, g1⟩ : ∃ a, f 1 = a := ⟨_, rfl⟩
  have r1 := hr 1
  rw [g1] at r1
  obtain ⟨a2, g2⟩ : ∃ a, f 2 = a := ⟨_, rfl⟩
  have r2 := hr 2
  rw [g2] at r2
  obtain ⟨a3, g3⟩ : ∃ a, f 3 = a := ⟨_, rfl⟩
  have r3 := hr 3
  rw [g3] at r3
  obtain ⟨a4, g4⟩ : ∃ a, f 4 = a := ⟨_, rfl⟩
  have r4 := hr 4
  rw [g4] at r4
  obtain ⟨a5, g5⟩ : ∃ a, f 5 = a := ⟨_, rfl⟩
  have r5 := hr 5
  rw [g5] at r5
  have hF := Fx_0
  refine Tr.iinc (pc := 998) (ls2 := [(3, (0, 6)), (2, (2, 120)), (1, (2, 0)), (0, (2, (-2)))]) d_L_law_998 rfl (by decide) rfl ?_
  refine Tr.goto (pc := 1001) (tgt := 18) d_L_law_1001 rfl ?_
  refine Tr.iload_n (pc := 18) (i := 3) d_L_law_18 rfl rfl ?_
  refine Tr.aload_n (pc := 19) (i := 0) d_L_law_19 rfl rfl ?_
  refine Tr.xlen (pc := 20) (i := 0) d_L_law_20 rfl he (by decide) ?_
  refine Tr.tp 6 rfl ?_
  refine Tr.bipush (pc := 21) d_L_law_21 rfl (by decide) ?_
  refine Tr.isub (pc := 23) d_L_law_23 ?_
  refine Tr.tp 0 rfl ?_
  refine Tr.icmp_gt (pc := 24) (tgt := 1004) d_L_law_24 rfl (fun _ => ?_) (fun hc => absurd (by decide) hc)
  refine Tr.iconst (pc := 1004) d_L_law_1004 (by decide) ?_
  exact Tr.zret (pc := 1005) d_L_law_1005 rfl (by decide) ⟨rfl, Fx_room hF⟩
