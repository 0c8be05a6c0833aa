/-! what lies outside, out of the Statement's premises -/
def o_ar (U : State) (a L : Nat) (f : Int → Int) : Prop := ∃ cell : Cell, U.heap[a]? = some cell ∧ U.isArrayOf cell .int ∧ cell.vm ≠ .unknown ∧ cell.slots.size = L ∧ ∀ j : Nat, j < L → cell.slots[j]? = some (.int (Int32.ofInt (f (j : Int))))
theorem o_ar.of {args : Array Value} {s : State} {t : Term} {L : Nat} {f : Int → Int} (hL : L < 2 ^ 31) (h1 : (Cond.arrayOf t .int).before args s = true) (h2 : (Cond.eq (.length t) (.int (Int32.ofNat L))).before args s = true) (h3 : ∀ j : Nat, j < L → (Cond.eq (.elem t (.int (Int32.ofNat j))) (.int (Int32.ofInt (f (j : Int))))).before args s = true) : ∃ a : Nat, t.eval args s none [] s = some (.ref a) ∧ a < s.heap.size ∧ o_ar s a L f := by
  have hv := va_eqt h2
  obtain ⟨a, ht, cell, g1, g2, g3, g4, g5, g6, g7⟩ := va_Tof (f := fun j => .int (Int32.ofInt (f (j : Int)))) (A := fun _ => False) hL h1 hv (fun j hj => va_eqt (h3 j hj)) (fun _ _ h => h)
  obtain ⟨b, cell2, hb, harr, hz⟩ := Term.length_spec hv
  cases ht.symm.trans hb
  obtain ⟨hc2, -, -, -⟩ := State.arrayAt?_spec harr
  cases g1.symm.trans hc2
  have hsz : cell.slots.size < 2 ^ 31 := by
    simp only [Term.eval, ht, harr, Option.bind_eq_bind, Option.bind_some] at hv
    by_cases hlt : cell.slots.size < 2147483648
    · exact hlt
    · simp [hlt] at hv
  have e : (Int32.ofNat cell.slots.size).toInt = (Int32.ofNat L).toInt := congrArg Int32.toInt g5
  rw [Int32.toInt_ofNat_small hsz, Int32.toInt_ofNat_small hL] at e
  exact ⟨a, ht, (Array.getElem?_eq_some_iff.mp g1).1, cell, g1, g2, g3, by omega, g6⟩
theorem o_ar.mv {u U : State} {a L : Nat} {f : Int → Int} (h : o_ar u a L f) (hvm : u.vm.Alike U.vm) (hh : U.heap[a]? = u.heap[a]?) : o_ar U a L f := by
  obtain ⟨cell, h1, h2, h3, h4, h5⟩ := h
  exact ⟨cell, by rw [hh]; exact h1, State.isArrayOf_alike hvm h2, h3, h4, h5⟩
def OX (b0 t1 t2 t3 k4 v5 k6 v7 : Nat) (z : Value) (U : State) : Prop := (t1 < b0 ∧ t2 < b0 ∧ t3 < b0) ∧ (o_ar U t1 3 (xT xr_1)) ∧ (o_ar U t2 3 (xT xr_2)) ∧ (o_ar U t3 9 (xT xr_3)) ∧ (va_Z "SipMeter$Machine" "MOST" "[I" (.ref t1) (fun q => b0 ≤ q) U U.heap) ∧ (va_Z "SipMeter$Machine" "FIRST_NAME" "[I" (.ref t2) (fun q => b0 ≤ q) U U.heap) ∧ (va_Z "SipMeter$Turns" "FACTORIALS" "[I" (.ref t3) (fun q => b0 ≤ q) U U.heap) ∧ (va_Z "java/lang/String" "COMPACT_STRINGS" "Z" (.int (Int32.ofInt 1)) (fun q => b0 ≤ q) U U.heap) ∧ (va_Z "jdk/internal/util/Preconditions" "SIOOBE_FORMATTER" "Ljava/util/function/BiFunction;" z (fun q => b0 ≤ q) U U.heap) ∧ (va_O "java/lang/String" k4 (fun q => b0 ≤ q) U U.heap) ∧ (va_OF "java/lang/String" "coder" "B" (.int (Int32.ofInt 0)) k4 (fun q => b0 ≤ q) U U.heap) ∧ (va_OF "java/lang/String" "value" "[B" (.ref v5) k4 (fun q => b0 ≤ q) U U.heap) ∧ (va_O "java/lang/String" k6 (fun q => b0 ≤ q) U U.heap) ∧ (va_OF "java/lang/String" "coder" "B" (.int (Int32.ofInt 0)) k6 (fun q => b0 ≤ q) U U.heap) ∧ (va_OF "java/lang/String" "value" "[B" (.ref v7) k6 (fun q => b0 ≤ q) U U.heap) ∧ (va_T .byte v5 162 (fun j => .int (Int32.ofInt (xT xr_5 (j : Int)))) (fun q => b0 ≤ q) U U.heap) ∧ (va_T .byte v7 16 (fun j => .int (Int32.ofInt (xT xr_7 (j : Int)))) (fun q => b0 ≤ q) U U.heap) ∧ (vk_R (e_cn 7) 57 ";{}=<>+-*/%()[]," k6 U) ∧ (vk_R (e_cn 7) 72 "heart cache part  input var   set   use   hold  free  wait  touch if    while else  sleep wake  on    work  tail  or    and   not   all   held  tick  min   max   " k4 U)
theorem OX.mv {b0 t1 t2 t3 k4 v5 k6 v7 : Nat} {z : Value} {u U : State} (h : OX b0 t1 t2 t3 k4 v5 k6 v7 z u) (hW : u.WarmedH U.vm) (hh : ∀ q : Nat, q < b0 → U.heap[q]? = u.heap[q]?) : OX b0 t1 t2 t3 k4 v5 k6 v7 z U := by
  obtain ⟨hb, p0, p1, p2, p3, p4, p5, p6, p7, p8, p9, p10, p11, p12, p13, p14, p15, p16, p17⟩ := h
  have hq : ∀ a : Nat, a < u.heap.size → ¬ (b0 ≤ a) → U.heap[a]? = u.heap[a]? := fun a _ h => hh a (Nat.not_le.mp h)
  exact ⟨hb, p0.mv hW.alike (hh _ hb.1), p1.mv hW.alike (hh _ hb.2.1), p2.mv hW.alike (hh _ hb.2.2), (va_Z.moved hW.alike p3).kept hq, (va_Z.moved hW.alike p4).kept hq, (va_Z.moved hW.alike p5).kept hq, (va_Z.moved hW.alike p6).kept hq, (va_Z.moved hW.alike p7).kept hq, (va_O.moved hW.alike p8).kept hq, (va_OF.moved hW.alike p9).kept hq, (va_OF.moved hW.alike p10).kept hq, (va_O.moved hW.alike p11).kept hq, (va_OF.moved hW.alike p12).kept hq, (va_OF.moved hW.alike p13).kept hq, (va_T.moved hW.alike p14).kept hq, (va_T.moved hW.alike p15).kept hq, p16.warm hW, p17.warm hW⟩
set_option maxRecDepth 100000 in
set_option maxHeartbeats 4000000 in
theorem ob_1 : (List.range 3).all (fun j => decide ((flatC (Cond.and given_1 narrow_1))[12 + j]? = some (Cond.eq (.elem (.static "SipMeter$Machine" "MOST" "[I") (.int (Int32.ofNat j))) (.int (Int32.ofInt (xT xr_1 (j : Int))))))) = true := by decide +kernel
set_option maxRecDepth 100000 in
set_option maxHeartbeats 4000000 in
theorem ob_2 : (List.range 3).all (fun j => decide ((flatC (Cond.and given_1 narrow_1))[18 + j]? = some (Cond.eq (.elem (.static "SipMeter$Machine" "FIRST_NAME" "[I") (.int (Int32.ofNat j))) (.int (Int32.ofInt (xT xr_2 (j : Int))))))) = true := by decide +kernel
set_option maxRecDepth 100000 in
set_option maxHeartbeats 4000000 in
theorem ob_3 : (List.range 9).all (fun j => decide ((flatC (Cond.and given_1 narrow_1))[24 + j]? = some (Cond.eq (.elem (.static "SipMeter$Turns" "FACTORIALS" "[I") (.int (Int32.ofNat j))) (.int (Int32.ofInt (xT xr_3 (j : Int))))))) = true := by decide +kernel
set_option maxRecDepth 100000 in
set_option maxHeartbeats 4000000 in
theorem ob_5 : (List.range 162).all (fun j => decide ((flatC (Cond.and given_1 narrow_1))[37 + j]? = some (Cond.eq (.elem (.field (.string "SipMeter$Tokens" 72) "java/lang/String" "value" "[B") (.int (Int32.ofNat j))) (.int ((xr_5.map Int32.ofInt).getD j 0))))) = true := by decide +kernel
set_option maxRecDepth 100000 in
set_option maxHeartbeats 4000000 in
theorem ox_5 : Cond.exactly (.string "SipMeter$Tokens" 72) "java/lang/String" ∈ (flatC (Cond.and given_1 narrow_1)) := List.mem_of_getElem? (i := 33) (by decide +kernel)
set_option maxRecDepth 100000 in
set_option maxHeartbeats 4000000 in
theorem oc_5 : Cond.eq (.field (.string "SipMeter$Tokens" 72) "java/lang/String" "coder" "B") (.int 0) ∈ (flatC (Cond.and given_1 narrow_1)) := List.mem_of_getElem? (i := 34) (by decide +kernel)
set_option maxRecDepth 100000 in
set_option maxHeartbeats 4000000 in
theorem oa_5 : Cond.arrayOf (.field (.string "SipMeter$Tokens" 72) "java/lang/String" "value" "[B") .byte ∈ (flatC (Cond.and given_1 narrow_1)) := List.mem_of_getElem? (i := 35) (by decide +kernel)
set_option maxRecDepth 100000 in
set_option maxHeartbeats 4000000 in
theorem ol_5 : Cond.eq (.length (.field (.string "SipMeter$Tokens" 72) "java/lang/String" "value" "[B")) (.int (Int32.ofNat 162)) ∈ (flatC (Cond.and given_1 narrow_1)) := List.mem_of_getElem? (i := 36) (by decide +kernel)
set_option maxRecDepth 100000 in
set_option maxHeartbeats 4000000 in
theorem ob_7 : (List.range 16).all (fun j => decide ((flatC (Cond.and given_1 narrow_1))[203 + j]? = some (Cond.eq (.elem (.field (.string "SipMeter$Tokens" 57) "java/lang/String" "value" "[B") (.int (Int32.ofNat j))) (.int ((xr_7.map Int32.ofInt).getD j 0))))) = true := by decide +kernel
set_option maxRecDepth 100000 in
set_option maxHeartbeats 4000000 in
theorem ox_7 : Cond.exactly (.string "SipMeter$Tokens" 57) "java/lang/String" ∈ (flatC (Cond.and given_1 narrow_1)) := List.mem_of_getElem? (i := 199) (by decide +kernel)
set_option maxRecDepth 100000 in
set_option maxHeartbeats 4000000 in
theorem oc_7 : Cond.eq (.field (.string "SipMeter$Tokens" 57) "java/lang/String" "coder" "B") (.int 0) ∈ (flatC (Cond.and given_1 narrow_1)) := List.mem_of_getElem? (i := 200) (by decide +kernel)
set_option maxRecDepth 100000 in
set_option maxHeartbeats 4000000 in
theorem oa_7 : Cond.arrayOf (.field (.string "SipMeter$Tokens" 57) "java/lang/String" "value" "[B") .byte ∈ (flatC (Cond.and given_1 narrow_1)) := List.mem_of_getElem? (i := 201) (by decide +kernel)
set_option maxRecDepth 100000 in
set_option maxHeartbeats 4000000 in
theorem ol_7 : Cond.eq (.length (.field (.string "SipMeter$Tokens" 57) "java/lang/String" "value" "[B")) (.int (Int32.ofNat 16)) ∈ (flatC (Cond.and given_1 narrow_1)) := List.mem_of_getElem? (i := 202) (by decide +kernel)
theorem xT_m (q : List Int) (j : Nat) : (q.map Int32.ofInt).getD j 0 = Int32.ofInt (xT q (j : Int)) := by
  unfold xT
  rw [Int.toNat_natCast, List.getD_eq_getElem?_getD, List.getD_eq_getElem?_getD, List.getElem?_map]
  cases q[j]? with
  | none => rfl
  | some x => rfl
set_option maxRecDepth 100000 in
set_option maxHeartbeats 4000000 in
theorem OX.of {b : Nat} {s : State} (hts : ∀ w ∈ lw_tbl, w.before #[Value.ref b] s = true) (hgv : (Cond.and given_1 narrow_1).before #[Value.ref b] s = true) : ∃ (t1 t2 t3 k4 v5 k6 v7 : Nat) (z : Value), (z = .null ∨ ∃ t : Nat, z = .ref t) ∧ OX s.heap.size t1 t2 t3 k4 v5 k6 v7 z s := by
  have hs := flat_of_before _ hgv
  have hA : ∀ a : Nat, a < s.heap.size → ¬ (s.heap.size ≤ a) := fun a h => Nat.not_le.mpr h
  obtain ⟨t1, e1, l1, a1⟩ := o_ar.of (t := .static "SipMeter$Machine" "MOST" "[I") (L := 3) (f := xT xr_1) (by decide) (hs _ (List.mem_of_getElem? (i := 10) (by decide +kernel))) (hs _ (List.mem_of_getElem? (i := 11) (by decide +kernel))) (fun j hj => hs _ (List.mem_of_getElem? (of_decide_eq_true (List.all_eq_true.mp ob_1 j (List.mem_range.mpr hj)))))
  have z1 := va_Zof (A := fun q => s.heap.size ≤ q) (hts _ (inT4 (List.mem_of_getElem? (i := 67) (by decide +kernel)))) (hts _ (inT1 (List.mem_of_getElem? (i := 4) (by decide +kernel)))) e1 hA
  obtain ⟨t2, e2, l2, a2⟩ := o_ar.of (t := .static "SipMeter$Machine" "FIRST_NAME" "[I") (L := 3) (f := xT xr_2) (by decide) (hs _ (List.mem_of_getElem? (i := 16) (by decide +kernel))) (hs _ (List.mem_of_getElem? (i := 17) (by decide +kernel))) (fun j hj => hs _ (List.mem_of_getElem? (of_decide_eq_true (List.all_eq_true.mp ob_2 j (List.mem_range.mpr hj)))))
  have z2 := va_Zof (A := fun q => s.heap.size ≤ q) (hts _ (inT4 (List.mem_of_getElem? (i := 77) (by decide +kernel)))) (hts _ (inT1 (List.mem_of_getElem? (i := 4) (by decide +kernel)))) e2 hA
  obtain ⟨t3, e3, l3, a3⟩ := o_ar.of (t := .static "SipMeter$Turns" "FACTORIALS" "[I") (L := 9) (f := xT xr_3) (by decide) (hs _ (List.mem_of_getElem? (i := 22) (by decide +kernel))) (hs _ (List.mem_of_getElem? (i := 23) (by decide +kernel))) (fun j hj => hs _ (List.mem_of_getElem? (of_decide_eq_true (List.all_eq_true.mp ob_3 j (List.mem_range.mpr hj)))))
  have z3 := va_Zof (A := fun q => s.heap.size ≤ q) (hts _ (inT6 (List.mem_of_getElem? (i := 39) (by decide +kernel)))) (hts _ (inT1 (List.mem_of_getElem? (i := 9) (by decide +kernel)))) e3 hA
  have zc := va_Zof (A := fun q => s.heap.size ≤ q) (hts _ (inT3 (List.mem_of_getElem? (i := 151) (by decide +kernel)))) (hts _ (inT1 (List.mem_of_getElem? (i := 15) (by decide +kernel)))) (va_eqi (hs _ (List.mem_of_getElem? (i := 4) (by decide +kernel)) : (Cond.eq (.static "java/lang/String" "COMPACT_STRINGS" "Z") (.int (Int32.ofInt 1))).before _ s = true)) hA
  have zp := va_Zqof (A := fun q => s.heap.size ≤ q) (hts _ (inT3 (List.mem_of_getElem? (i := 159) (by decide +kernel)))) (hts _ (inT1 (List.mem_of_getElem? (i := 17) (by decide +kernel)))) (hs _ (List.mem_of_getElem? (i := 5) (by decide +kernel)) : (Cond.isRef (.static "jdk/internal/util/Preconditions" "SIOOBE_FORMATTER" "Ljava/util/function/BiFunction;")).before _ s = true) hA
  have two : ∀ i : Nat, i < 2 → i = 0 ∨ i = 1 := fun i h => by omega
  obtain ⟨adK, adV, ⟨hS, -⟩, hev⟩ := vk_Sof (args := #[Value.ref b]) (s := s) (N := 2) (tm := fun i => if i = 0 then (.string "SipMeter$Tokens" 72) else (.string "SipMeter$Tokens" 57)) (len := [162, 16]) (byt := [xr_5.map Int32.ofInt, xr_7.map Int32.ofInt]) (A := fun q => s.heap.size ≤ q)
    (fun i hi => by rcases two i hi with rfl | rfl <;> decide)
    (fun i hi => by rcases two i hi with rfl | rfl; exact hs _ ox_5; exact hs _ ox_7)
    (fun i hi => by rcases two i hi with rfl | rfl; exact hs _ oc_5; exact hs _ oc_7)
    (fun i hi => by rcases two i hi with rfl | rfl; exact hs _ oa_5; exact hs _ oa_7)
    (fun i hi => by rcases two i hi with rfl | rfl; exact hs _ ol_5; exact hs _ ol_7)
    (fun i hi j hj => by
      rcases two i hi with rfl | rfl
      · exact hs _ (List.mem_of_getElem? (of_decide_eq_true (List.all_eq_true.mp ob_5 j (List.mem_range.mpr hj))))
      · exact hs _ (List.mem_of_getElem? (of_decide_eq_true (List.all_eq_true.mp ob_7 j (List.mem_range.mpr hj)))))
    (fun i j hi hj hne => by
      have h : (Cond.not (Cond.eq (.string "SipMeter$Tokens" 72) (.string "SipMeter$Tokens" 57))).before #[Value.ref b] s = true := hs _ (List.mem_of_getElem? (i := 219) (by decide +kernel))
      rcases two i hi with rfl | rfl <;> rcases two j hj with rfl | rfl
      · exact absurd rfl hne
      · exact Or.inl h
      · exact Or.inr h
      · exact absurd rfl hne) hA
  obtain ⟨s1, s2, s3, s4⟩ := hS 0 (by decide)
  obtain ⟨r1, r2, r3, r4⟩ := hS 1 (by decide)
  have h5 : (fun j : Nat => Value.int (([xr_5.map Int32.ofInt, xr_7.map Int32.ofInt].getD 0 []).getD j 0)) = fun j : Nat => Value.int (Int32.ofInt (xT xr_5 (j : Int))) := funext fun j => congrArg Value.int (xT_m xr_5 j)
  have h7 : (fun j : Nat => Value.int (([xr_5.map Int32.ofInt, xr_7.map Int32.ofInt].getD 1 []).getD j 0)) = fun j : Nat => Value.int (Int32.ofInt (xT xr_7 (j : Int))) := funext fun j => congrArg Value.int (xT_m xr_7 j)
  rw [h5] at s4
  rw [h7] at r4
  have q7 : vk_R (e_cn 7) 57 ";{}=<>+-*/%()[]," (adK 1) s := vk_R.of (A := #[Value.ref b]) (hts _ (inT3 (List.mem_of_getElem? (i := 186) (by decide +kernel)))) (hev 1 (by decide))
  have q5 : vk_R (e_cn 7) 72 "heart cache part  input var   set   use   hold  free  wait  touch if    while else  sleep wake  on    work  tail  or    and   not   all   held  tick  min   max   " (adK 0) s := vk_R.of (A := #[Value.ref b]) (hts _ (inT3 (List.mem_of_getElem? (i := 141) (by decide +kernel)))) (hev 0 (by decide))
  obtain ⟨z, hz, zq⟩ : ∃ z : Value, (z = .null ∨ ∃ t : Nat, z = .ref t) ∧ va_Z "jdk/internal/util/Preconditions" "SIOOBE_FORMATTER" "Ljava/util/function/BiFunction;" z (fun q => s.heap.size ≤ q) s s.heap := by
    rcases zp with h | ⟨t, h⟩
    · exact ⟨_, Or.inl rfl, h⟩
    · exact ⟨_, Or.inr ⟨t, rfl⟩, h⟩
  exact ⟨t1, t2, t3, adK 0, adV 0, adK 1, adV 1, z, hz, ⟨l1, l2, l3⟩, a1, a2, a3, z1, z2, z3, zc, zq, s1, s2, s3, r1, r2, r3, s4, r4, q7, q5⟩
