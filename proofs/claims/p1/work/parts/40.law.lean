/-! the law, on a script of at most one call -/
theorem f_iand_31 (a : Int) : 0 ≤ f_iand a 31 ∧ f_iand a 31 ≤ 31 := by
  unfold f_iand
  have h := pk_and (Int32.ofInt a) (m := Int32.ofInt 31) 5 (by decide)
  rw [h]
  have h2 : (Int32.ofInt a).toBitVec.toNat % 2 ^ 5 < 32 := Nat.mod_lt _ (by decide)
  rw [nI_toInt (by omega)]
  omega
set_option maxRecDepth 100000 in
set_option maxHeartbeats 4000000 in
theorem law_tr {l : Launch} {K : EC} {f : Int → Int} {L : Nat} (hN : e_nst K) (hL : L ≤ 6) (he : e_ext K 0 L f) : Tr l K 20 mL_law 0 [(0, (2, -2))] [] C_0 (fun M' r => r = some (0, 1) ∧ M'.1 ≤ 600000 ∧ M'.2.1 ≤ room_1.slots) := by
  have hr : ∀ j, -2147483648 ≤ f j ∧ f j ≤ 2147483647 := fun j => (he.2.1 j).i
  refine ct_law hN ?_
  refine Tr.iload_n (i := 3) d_L_law_18 rfl rfl ?_
  refine Tr.aload_n (i := 0) d_L_law_19 rfl rfl ?_
  refine Tr.xlen (i := 0) d_L_law_20 rfl he (by omega) ?_
  refine Tr.bipush d_L_law_21 rfl (by decide) ?_
  refine Tr.isub d_L_law_23 ?_
  refine Tr.tp ((L : Int) - 6) (w32_id (by omega)) ?_
  refine Tr.icmp_gt (tgt := 1004) d_L_law_24 rfl (fun hc => ?_) (fun hc => ?_)
  · refine Tr.iconst d_L_law_1004 (by decide) ?_
    exact Tr.zret d_L_law_1005 rfl (by decide) ⟨rfl, Fx_room Fx_0⟩
  · have h6 : L = 6 := by omega
    subst h6
    refine Tr.aload_n (i := 0) d_L_law_27 rfl rfl ?_
    refine Tr.iload_n (i := 3) d_L_law_28 rfl rfl ?_
    refine Tr.xld (i := 0) d_L_law_29 rfl he (by decide) (by decide) ?_
    refine Tr.bipush d_L_law_30 rfl (by decide) ?_
    refine Tr.iand d_L_law_32 ?_
    obtain ⟨v, hv⟩ : ∃ v, f_iand (f 0) 31 = v := ⟨_, rfl⟩
    have hb := f_iand_31 (f 0)
    rw [hv] at hb
    refine Tr.tp v hv ?_
    by_cases h27 : v ≤ 27
    · rcases (show v = 0 ∨ v = 1 ∨ v = 2 ∨ v = 3 ∨ v = 4 ∨ v = 5 ∨ v = 6 ∨ v = 7 ∨ v = 8 ∨ v = 9 ∨ v = 10 ∨ v = 11 ∨ v = 12 ∨ v = 13 ∨ v = 14 ∨ v = 15 ∨ v = 16 ∨ v = 17 ∨ v = 18 ∨ v = 19 ∨ v = 20 ∨ v = 21 ∨ v = 22 ∨ v = 23 ∨ v = 24 ∨ v = 25 ∨ v = 26 ∨ v = 27 by omega) with rfl | rfl | rfl | rfl | rfl | rfl | rfl | rfl | rfl | rfl | rfl | rfl | rfl | rfl | rfl | rfl | rfl | rfl | rfl | rfl | rfl | rfl | rfl | rfl | rfl | rfl | rfl | rfl
      · exact Tr.tswIn (off := 127) (tgt := 160) d_L_law_33 (by decide) (by decide) rfl rfl (op_feed he hr)
      · exact Tr.tswIn (off := 190) (tgt := 223) d_L_law_33 (by decide) (by decide) rfl rfl (op_end he hr)
      · exact Tr.tswIn (off := 213) (tgt := 246) d_L_law_33 (by decide) (by decide) rfl rfl (op_text he hr)
      · exact Tr.tswIn (off := 226) (tgt := 259) d_L_law_33 (by decide) (by decide) rfl rfl (op_fault he hr)
      · exact Tr.tswIn (off := 249) (tgt := 282) d_L_law_33 (by decide) (by decide) rfl rfl (op_has he hr)
      · exact Tr.tswIn (off := 272) (tgt := 305) d_L_law_33 (by decide) (by decide) rfl rfl (op_letter he hr)
      · exact Tr.tswIn (off := 315) (tgt := 348) d_L_law_33 (by decide) (by decide) rfl rfl (op_put he hr)
      · exact Tr.tswIn (off := 348) (tgt := 381) d_L_law_33 (by decide) (by decide) rfl rfl (op_run he hr)
      · exact Tr.tswIn (off := 371) (tgt := 404) d_L_law_33 (by decide) (by decide) rfl rfl (op_ran he hr)
      · exact Tr.tswIn (off := 394) (tgt := 427) d_L_law_33 (by decide) (by decide) rfl rfl (op_value he hr)
      · exact Tr.tswIn (off := 417) (tgt := 450) d_L_law_33 (by decide) (by decide) rfl rfl (op_spent he hr)
      · exact Tr.tswIn (off := 450) (tgt := 483) d_L_law_33 (by decide) (by decide) rfl rfl (op_pays he hr)
      · exact Tr.tswIn (off := 483) (tgt := 516) d_L_law_33 (by decide) (by decide) rfl rfl (op_stretches he hr)
      · exact Tr.tswIn (off := 506) (tgt := 539) d_L_law_33 (by decide) (by decide) rfl rfl (op_stretch he hr)
      · exact Tr.tswIn (off := 549) (tgt := 582) d_L_law_33 (by decide) (by decide) rfl rfl (op_lines he hr)
      · exact Tr.tswIn (off := 583) (tgt := 616) d_L_law_33 (by decide) (by decide) rfl rfl (op_byTurns he hr)
      · exact Tr.tswIn (off := 653) (tgt := 686) d_L_law_33 (by decide) (by decide) rfl rfl (op_wasted he hr)
      · exact Tr.tswIn (off := 676) (tgt := 709) d_L_law_33 (by decide) (by decide) rfl rfl (op_over he hr)
      · exact Tr.tswIn (off := 715) (tgt := 748) d_L_law_33 (by decide) (by decide) rfl rfl (op_where he hr)
      · exact Tr.tswIn (off := 738) (tgt := 771) d_L_law_33 (by decide) (by decide) rfl rfl (op_measure he hr)
      · exact Tr.tswIn (off := 761) (tgt := 794) d_L_law_33 (by decide) (by decide) rfl rfl (op_fit he hr)
      · exact Tr.tswIn (off := 784) (tgt := 817) d_L_law_33 (by decide) (by decide) rfl rfl (op_fitted he hr)
      · exact Tr.tswIn (off := 807) (tgt := 840) d_L_law_33 (by decide) (by decide) rfl rfl (op_ask he hr)
      · exact Tr.tswIn (off := 850) (tgt := 883) d_L_law_33 (by decide) (by decide) rfl rfl (op_forget he hr)
      · exact Tr.tswIn (off := 863) (tgt := 896) d_L_law_33 (by decide) (by decide) rfl rfl (op_together he hr)
      · exact Tr.tswIn (off := 886) (tgt := 919) d_L_law_33 (by decide) (by decide) rfl rfl (op_later he hr)
      · exact Tr.tswIn (off := 909) (tgt := 942) d_L_law_33 (by decide) (by decide) rfl rfl (op_never he hr)
      · exact Tr.tswIn (off := 922) (tgt := 955) d_L_law_33 (by decide) (by decide) rfl rfl (op_lasts he hr)
    · exact Tr.tswOut (tgt := 998) d_L_law_33 (by omega) rfl (op_none he hr)
/-! THE CLAIM OUT OF ONE WALK OF THE LAW'S BODY. Your part is whole_start (and what it stands on); all else here is the same for every law, but numbers. -/
def R_law : String := "SipMeterLaw"
def lw_P (b : Addr) (xs : List Int32) (args : Array Value) (s : State) : Prop := args = #[.ref b] ∧ s.IntsAt b xs ∧ xs.length ≤ 6 ∧ (Jvm.Cond.and given_1 narrow_1).before args s = true
def lw_Q (_ : Array Value) (s : State) (o : Outcome) (t : State) : Prop := o = .returned (some (.int 1)) ∧ Framed s o t [] 600000 room_1.slots
def lw_Z (below : List Frame) (a : Array Value) (s : State) : State → Prop := fun t => ∃ o, t.status = .running ∧ Ended t below o ∧ lw_Q a s o t
/-- the law's own end, with 1 on the stack, nothing written that was there before, its room as the claim has it -/
theorem lw_ret {p : Program} {l : Launch} {e : Env} {s : State} {m : MethodId} {below : List Frame} {meth : Method} {c : Code} {b : Nat} (hx : p.tables.exec = Jvm.exec) (hb : c.code = code) (hr : meth.sig.returnType = ret) (hlocks : meth.locks = false) {pc : Nat} {H : Heap} {ls : Array Slot} (hdg : decode code pc = .ok (.ireturn, 1)) : W p l e room_1 s m #[Value.ref b] below meth c H [] 600000 room_1.slots (lw_Z below #[Value.ref b] s) (F0 m pc ls [.int 1]) := by
  intro T hT X
  obtain ⟨fs, hret, hrun, hended, hW, hframe⟩ := X.leave (v := some (.int 1)) (hlocks := hlocks) (fun h => by rw [hr] at h; cases h)
  have hmeth' : T.vm.method? m = some meth := X.method'
  refine ⟨T.setFrames fs, ?_, .returned (some (.int 1)), hrun, hended, rfl, ⟨_, rfl⟩, hW, hframe⟩
  jvm_step X.here [X.here.top, hx, hb, hdg, hmeth', hr, ret, narrow_b1]
  (try refine ⟨rfl, ?_⟩); (try refine ⟨rfl, ?_⟩)
  first | (intro acts; rw [hret _ acts rfl rfl rfl]) | rw [hret _ _ rfl rfl rfl]
  exact Steps.refl _
/-- what holds at the law's entry: the machine, the code, the tables' words (any of lw_tbl by 'hts w (by decide +kernel)'), the script of L ints xs at the cell b, what the Statement gives of the start (any of its parts by flat_of_before) -/
def lw_At (p : Program) (s : State) (m : MethodId) (meth : Method) (c : Code) (b L : Nat) (xs : Nat → Int32) : Prop :=
  p.tables.exec = Jvm.exec ∧ c.code = code ∧ meth.sig.returnType = ret ∧ c.maxLocals = 4 ∧ s.vm.findClass R_law = some m.cls ∧ (∀ w ∈ lw_tbl, w.before #[Value.ref b] s = true) ∧ va_X b L xs s s.heap ∧ b < s.heap.size ∧ meth.locks = false ∧ (Jvm.Cond.and given_1 narrow_1).before #[Value.ref b] s = true
theorem inst_0 : Cond.instantiable RX0 8 ∈ tblG := tblG_in (inT3 (List.mem_of_getElem? (i := 4) rfl)) rfl
theorem inst_1 : Cond.instantiable RX1 9 ∈ tblG := tblG_in (inT1 (List.mem_of_getElem? (i := 239) rfl)) rfl
theorem inst_2 : Cond.instantiable RX2 7 ∈ tblG := tblG_in (inT2 (List.mem_of_getElem? (i := 213) rfl)) rfl
theorem inst_3 : Cond.instantiable RX3 12 ∈ tblG := tblG_in (inT1 (List.mem_of_getElem? (i := 93) rfl)) rfl
theorem inst_4 : Cond.instantiable RX4 13 ∈ tblG := tblG_in (inT1 (List.mem_of_getElem? (i := 99) rfl)) rfl
theorem inst_5 : Cond.instantiable RX5 7 ∈ tblG := tblG_in (inT1 (List.mem_of_getElem? (i := 63) rfl)) rfl
theorem inst_6 : Cond.instantiable RX6 18 ∈ tblG := tblG_in (inT1 (List.mem_of_getElem? (i := 233) rfl)) rfl
theorem inst_7 : Cond.instantiable RX7 6 ∈ tblG := tblG_in (inT1 (List.mem_of_getElem? (i := 33) rfl)) rfl
theorem inst_8 : Cond.instantiable RX8 12 ∈ tblG := tblG_in (inT2 (List.mem_of_getElem? (i := 5) rfl)) rfl
theorem inst_9 : Cond.instantiable RX9 4 ∈ tblG := tblG_in (inT2 (List.mem_of_getElem? (i := 165) rfl)) rfl
theorem inst_10 : Cond.instantiable RX10 7 ∈ tblG := tblG_in (inT2 (List.mem_of_getElem? (i := 184) rfl)) rfl
theorem inst_11 : Cond.instantiable RX11 14 ∈ tblG := tblG_in (inT1 (List.mem_of_getElem? (i := 25) rfl)) rfl
theorem inst_12 : Cond.instantiable RX12 121 ∈ tblG := tblG_in (inT6 (List.mem_of_getElem? (i := 186) rfl)) rfl
set_option maxHeartbeats 4000000 in
set_option maxRecDepth 100000 in
/-- THE LAW, from its entry -/
theorem whole_start {p : Program} {e : Env} {s : State} {m : MethodId} {below : List Frame} {meth : Method} {c : Code} (l : Launch) (hflags : l.flags = flags0) {b L : Nat} {xs : Nat → Int32} (hL : L ≤ 6) (C0 : lw_At p s m meth c b L xs) : W p l e room_1 s m #[Value.ref b] below meth c s.heap [] 0 0 (lw_Z below #[Value.ref b] s) (entryFrame m ([Value.ref b] : List Value).toArray 4) := by
  obtain ⟨hx, hb, hr, hml, hown, hts, hX, hbl, hlocks, hgv⟩ := id C0
  have hts2 : ∀ w ∈ tblG, w.before #[Value.ref b] s = true := fun w hw => hts w (List.mem_filter.mp hw).1
  have hcls : ∀ k : Nat, ∃ (cC : ClassId) (iS : Nat → Nat), ∀ q : vw_C, e_cl[k]? = some q → u_Kn s q.1 q.2.1 q.2.2 cC iS := by
    intro k
    match k with
    | 0 => exact ⟨_, _, fun q hq => by cases hq; exact (u_known (C := RX0) (T := TX0) (N := 8) (n := 8) hts2 iX0 (hts2 _ inst_0)).choose_spec.choose_spec⟩
    | 1 => exact ⟨_, _, fun q hq => by cases hq; exact (u_known (C := RX1) (T := TX1) (N := 9) (n := 9) hts2 iX1 (hts2 _ inst_1)).choose_spec.choose_spec⟩
    | 2 => exact ⟨_, _, fun q hq => by cases hq; exact (u_known (C := RX2) (T := TX2) (N := 7) (n := 7) hts2 iX2 (hts2 _ inst_2)).choose_spec.choose_spec⟩
    | 3 => exact ⟨_, _, fun q hq => by cases hq; exact (u_known (C := RX3) (T := TX3) (N := 12) (n := 12) hts2 iX3 (hts2 _ inst_3)).choose_spec.choose_spec⟩
    | 4 => exact ⟨_, _, fun q hq => by cases hq; exact (u_known (C := RX4) (T := TX4) (N := 13) (n := 13) hts2 iX4 (hts2 _ inst_4)).choose_spec.choose_spec⟩
    | 5 => exact ⟨_, _, fun q hq => by cases hq; exact (u_known (C := RX5) (T := TX5) (N := 7) (n := 7) hts2 iX5 (hts2 _ inst_5)).choose_spec.choose_spec⟩
    | 6 => exact ⟨_, _, fun q hq => by cases hq; exact (u_known (C := RX6) (T := TX6) (N := 18) (n := 18) hts2 iX6 (hts2 _ inst_6)).choose_spec.choose_spec⟩
    | 7 => exact ⟨_, _, fun q hq => by cases hq; exact (u_known (C := RX7) (T := TX7) (N := 6) (n := 6) hts2 iX7 (hts2 _ inst_7)).choose_spec.choose_spec⟩
    | 8 => exact ⟨_, _, fun q hq => by cases hq; exact (u_known (C := RX8) (T := TX8) (N := 12) (n := 12) hts2 iX8 (hts2 _ inst_8)).choose_spec.choose_spec⟩
    | 9 => exact ⟨_, _, fun q hq => by cases hq; exact (u_known (C := RX9) (T := TX9) (N := 4) (n := 4) hts2 iX9 (hts2 _ inst_9)).choose_spec.choose_spec⟩
    | 10 => exact ⟨_, _, fun q hq => by cases hq; exact (u_known (C := RX10) (T := TX10) (N := 7) (n := 7) hts2 iX10 (hts2 _ inst_10)).choose_spec.choose_spec⟩
    | 11 => exact ⟨_, _, fun q hq => by cases hq; exact (u_known (C := RX11) (T := TX11) (N := 14) (n := 14) hts2 iX11 (hts2 _ inst_11)).choose_spec.choose_spec⟩
    | 12 => exact ⟨_, _, fun q hq => by cases hq; exact (u_known (C := RX12) (T := TX12) (N := 121) (n := 121) hts2 iX12 (hts2 _ inst_12)).choose_spec.choose_spec⟩
    | k + 13 => exact ⟨0, fun _ => 0, fun q hq => by cases hq⟩
  have harr : ∀ ty : FieldType, Cond.arrayClass ty ∈ tblG → ∃ cA : ClassId, ArrOfT s cA ty ∧ s.vm.findClass ("[" ++ ty.toString) = some cA := by
    intro ty hty
    obtain ⟨cA, kA, comp, h1, h2, h3⟩ := Cond.arrayClass_spec (hts2 _ hty)
    exact ⟨cA, fun n z => ⟨fun k h => (by cases h), kA, h2, comp, h3⟩, h1⟩
  obtain ⟨cI, hI1, hI2⟩ := harr .int aw_int
  obtain ⟨cL, hL1, hL2⟩ := harr .long aw_long
  obtain ⟨cB, hB1, hB2⟩ := harr .byte aw_byte
  obtain ⟨cZ, hZ1, hZ2⟩ := harr .boolean aw_boolean
  let K : EC := (s.heap.size, fun _ => b, (fun k => (hcls k).choose, fun k => (hcls k).choose_spec.choose), (fun i => match i with | 0 => cI | 1 => cL | 2 => cB | _ => cZ), fun U => (∃ cell : Cell, U.heap[b]? = some cell ∧ U.isArrayOf cell .int ∧ cell.vm ≠ .unknown ∧ cell.slots.size = L ∧ ∀ j : Nat, j < L → cell.slots[j]? = some (.int (xs j))) ∧ ∀ q ∈ nstL, va_Nw (.methodLinkNest q.1 q.2.1 q.2.2.1 q.2.2.2) U)
  have hK : va_K K.2.2.1 e_cl (e_tys K) s := by
    refine ⟨fun k q hq => (hcls k).choose_spec.choose_spec q hq, fun k q hq => ?_⟩
    match k, hq with
    | 0, hq => cases hq; exact ⟨hI1, hI2⟩
    | 1, hq => cases hq; exact ⟨hL1, hL2⟩
    | 2, hq => cases hq; exact ⟨hB1, hB2⟩
    | 3, hq => cases hq; exact ⟨hZ1, hZ2⟩
    | k + 4, hq => cases hq
  have hclo : e_clo K := by
    rintro u U hvm hh ⟨⟨cell, h1, h2, h3, h4, h5⟩, h6⟩
    exact ⟨⟨cell, by rw [hh b hbl]; exact h1, State.isArrayOf_alike hvm.alike h2, h3, h4, h5⟩, fun q hq => va_Nw.warmM hvm (h6 q hq)⟩
  have hnst : ∀ q ∈ nstL, Cond.methodLinkNest q.1 q.2.1 q.2.2.1 q.2.2.2 ∈ lw_tbl := by
    intro q hq
    simp only [nstL, List.mem_cons, List.not_mem_nil, or_false] at hq
    rcases hq with rfl | rfl | rfl | rfl | rfl | rfl | rfl | rfl | rfl
    · exact List.mem_of_getElem? (i := 169) (by decide +kernel)
    · exact List.mem_of_getElem? (i := 199) (by decide +kernel)
    · exact List.mem_of_getElem? (i := 229) (by decide +kernel)
    · exact List.mem_of_getElem? (i := 541) (by decide +kernel)
    · exact List.mem_of_getElem? (i := 560) (by decide +kernel)
    · exact List.mem_of_getElem? (i := 589) (by decide +kernel)
    · exact List.mem_of_getElem? (i := 620) (by decide +kernel)
    · exact List.mem_of_getElem? (i := 381) (by decide +kernel)
    · exact List.mem_of_getElem? (i := 235) (by decide +kernel)
  have hex : K.2.2.2.2 s := ⟨hX, fun q hq => va_Nw.of rfl (hts _ (hnst q hq))⟩
  have hN : e_nst K := fun U hU => hU.2
  have he : e_ext K 0 L (fun j => (xs j.toNat).toInt) := by
    refine ⟨hbl, fun j => ok0 (i32_b _), ?_⟩
    rintro U ⟨⟨cell, h1, h2, h3, h4, h5⟩, -⟩
    exact ⟨cell, h1, h2, h3, h4, fun j hj => by
      rw [h5 j hj]
      show _ = some (Value.int (Int32.ofInt (xs (j : Int).toNat).toInt))
      rw [Int.toNat_natCast, Int32.ofInt_toInt]⟩
  obtain ⟨M', r, ⟨rfl, hn, hz⟩, hE⟩ := law_tr (l := l) hN hL he
  rw [lg_entry_eq]
  have hlv := lv_entry ([.ref b]) (n := 4) (Nat.le_of_ble_eq_true rfl)
  have hlv2 : lv_has ((lg_sl ([.ref b]) ++ List.replicate (4 - (lg_sl ([.ref b])).length) Slot.unset).toArray) 4 (e_lv K [(0, (2, -2))]) := by
    have e9 : e_lv K [(0, (2, -2))] = [(0, .ref b)] := by
      show [(0, e_val K (2, -2 - ((0 : Nat) : Int)))] = _
      rw [e_xref]
    rw [e9]
    exact hlv
  refine hE.2.2.2 p e room_1 s m _ below meth c s.heap [] 0 0 M'.1 M'.2.1 _ _ ⟨hx, hb, hml, hr, hown, hts2, hlocks, fun h9 => absurd h9 (by decide), hK, Nat.le_refl _, hex, hclo⟩ (by decide) (by decide) (by show _ + 0 = 0 + _; omega) (by show _ + 0 = 0 + _; omega) hn hz ⟨fun k q h => by simp [e_W, C_0] at h, rfl⟩ ⟨fun _ _ => rfl, fun x j => ⟨fun _ => ⟨by show (-2147483648 : Int) ≤ 0; decide, by show (0 : Int) ≤ 2147483647; decide⟩, fun _ => ⟨by show (-9223372036854775808 : Int) ≤ 0; decide, by show (0 : Int) ≤ 9223372036854775807; decide⟩⟩⟩ (fun v hv => by cases hv) (fun q hq => by rw [List.mem_singleton.mp hq]; exact ok2 _) va_S.rf hlv2 ?_
  intro pc' lsA' H' locs' hret hR' hS'
  refine va_forget (fun q hq => hS'.2.2 q hq) ?_
  refine W.widen (k := 600000) (n := room_1.slots) hn hz ?_
  rcases hret with ⟨a, g1, g2, g3⟩ | ⟨a, g1, g2, g3, g4⟩ | ⟨a, g1, g2, g3⟩ | ⟨g1, g2, g3⟩
  · exact absurd g1 (by decide)
  · exact lw_ret hx hb hr hlocks g3
  · exact absurd g1 (by decide)
  · exact absurd g1 (by decide)
set_option maxHeartbeats 4000000 in
theorem lw_walk (l : Launch) (hflags : l.flags = flags0) (b : Addr) (xs : List Int32) : MetFree l x (headSpec (Jvm.Cond.code x code maxLocals ret :: tables_1) room_1) (lw_P b xs) (fun _ _ _ _ _ => True) lw_Q := by
  refine MetFree.of_bodyS (code := code) (maxLocals := maxLocals) (ret := ret) (by decide) ?_ ?_
  · intro args s m h hn
    obtain ⟨meth, c, h1, h2, h3, h4, h5, h6, -, -⟩ := Cond.code_spec hn (atoms_spec (ws := Jvm.Cond.code x code maxLocals ret :: tables_1) h _ List.mem_cons_self)
    exact ⟨meth, c, h1, h2, h3, h4, h5, h6⟩
  · intro p e s m args below meth c s₁ B hml0 hP _
    obtain ⟨rfl, hx, hbd, hgv⟩ := hP
    obtain ⟨scr, harrAt, hlist, hof, hsmall⟩ := hx
    obtain ⟨hcb, hkn, -, -⟩ := State.arrayAt?_spec harrAt
    have hown : s.vm.findClass R_law = some m.cls := findClass_of_methodNamed B.named
    have hts0 : ∀ c ∈ (Jvm.Cond.code x code maxLocals ret :: tables_1), c.before #[Value.ref b] s = true := atoms_spec (ws := Jvm.Cond.code x code maxLocals ret :: tables_1) B.pre
    have hts : ∀ w ∈ lw_tbl, w.before #[Value.ref b] s = true := k2_hts_sels lw_privs (fun w hw => hts0 w (List.mem_cons_of_mem _ hw)) lw_privs_ok
    have hml : c.maxLocals = 4 := B.maxLocals_eq (hts0 _ List.mem_cons_self)
    have X₀ : Stand p l e room_1 s m #[Value.ref b] below meth c s₁ [] 0 0 := Stand.of_body B
    have hh0 : s₁.heap = s.heap := by rw [B.state]; rfl
    have hsz : scr.slots.size = xs.length := by rw [← Array.length_toList, hlist, List.length_map]
    have hval : ∀ j : Nat, j < xs.length → scr.slots[j]? = some (.int (xs.getD j 0)) := fun j hj => by
      rw [← Array.getElem?_toList, hlist]
      simp [hj]
    have hbl : b < s.heap.size := (Array.getElem?_eq_some_iff.mp hcb).1
    have hX : va_X b xs.length (fun j => xs.getD j 0) s s.heap := ⟨scr, hcb, hof, hkn, hsz, hval⟩
    have K : W p l e room_1 s m #[Value.ref b] below meth c s₁.heap [] 0 0 (lw_Z below #[Value.ref b] s) (entryFrame m ([Value.ref b] : List Value).toArray 4) := by
      rw [hh0]
      exact whole_start l hflags hbd ⟨B.exec, B.bytes, B.returns, hml, hown, hts, hX, hbl, B.notSynchronized, hgv⟩
    obtain ⟨t, a1, o, b1, b2, b3⟩ := K s₁ rfl X₀
    exact ⟨t, o, a1, b1, b2, b3⟩
theorem lw_pre_spec {args : Array Value} {s : State} (h : (Jvm.Cond.and given_1 narrow_1).before args s = true) (hr : rest_1_c.before args s = true) : ∃ (b : Addr) (xs : List Int32), lw_P b xs args s := by
  have hs := flat_of_before _ h
  have hq := flat_of_before _ hr
  have hc : (Cond.count 1).before args s = true := hs _ (by decide +kernel)
  have harr : (Cond.arrayOf (.arg 0) .int).before args s = true := hs _ (by decide +kernel)
  have hle : (Cond.le (.length (.arg 0)) (.int 6)).before args s = true := hs _ (by decide +kernel)
  have hlen : (Cond.isInt (.length (.arg 0))).before args s = true := hq _ (by decide +kernel)
  have hall : (Cond.all (.arg 0) (.isInt (.elem (.arg 0) (.index 0)))).before args s = true := hq _ (by decide +kernel)
  obtain ⟨b, xs, hb, hx⟩ := State.ints_of_pre rfl harr hlen hall
  have hsm : xs.length < 2 ^ 31 := hx.choose_spec.2.2.2
  have hev : (Term.length (.arg 0)).eval args s none [] s = some (.int xs.length.toInt32) := hx.length_eval hb
  have hv := Cond.le_ints hev (show (Term.int 6).eval args s none [] s = some (.int 6) from rfl)
  have hd : xs.length.toInt32 ≤ 6 := by
    simpa [Cond.before, Cond.holds, hv] using hle
  have hN : xs.length ≤ 6 := (Int32.ofNat_le_ofNat hsm (by decide)).mp (show Int32.ofNat xs.length ≤ Int32.ofNat 6 from hd)
  exact ⟨b, xs, Cond.one_arg hc (show args[0]? = some (.ref b) from hb), hx, hN, h⟩
theorem lw_comes (l : Launch) (hflags : l.flags = flags0) : Comes l x (Jvm.Cond.code x code maxLocals ret :: tables_1) room_1 (fun tb e args s => Calls_1 tb e args s ∧ rest_1 tb e args s ∧ Pre_1 tb e args s)
    (fun _ _ args s o t => lw_Q args s o t) := by
  intro p e ha hc hk s m args below hf hfit hheap happ hpre
  obtain ⟨b, xs, hP⟩ := lw_pre_spec hpre.2.2 hpre.2.1
  obtain ⟨k, o, h1, h2, h3, hQ⟩ := lw_walk l hflags b xs p e ha hc hk s m args below hf ((Spec.applies_iff_loose hf).mp happ).1 hP trivial
  exact ⟨k, o, h1, h2, h3, hQ⟩
theorem lw_frame {s t : State} {o : Outcome} {args : Array Value} (h : Framed s o t [] 600000 room_1.slots) :
    Framed s o t (fieldLocs frame_1_writes args s ++ arrayLocs frame_1_arrays args s ++ staticLocs frame_1_statics s) 600000 room_1.slots := h
theorem lw_limb (L : Cond) (hL : ∀ (args : Array Value) (s t : State), L.after args s (.returned (some (.int 1))) t = true) :
    ArmFor flags0 classFile x code maxLocals ret World_1 tables_1 room_1 Calls_1 rest_1 Pre_1
      (fun tb e a s o t => postC L tb e a s o t ∧ Framed s o t (fieldLocs frame_1_writes a s ++ arrayLocs frame_1_arrays a s ++ staticLocs frame_1_statics s) 600000 room_1.slots) := by
  intro l hflags _ _ p e ha hc hk s m args below hf hfit hheap happ hpre
  obtain ⟨k, o, h1, h2, h3, rfl, hF⟩ := lw_comes l hflags p e ha hc hk s m args below hf hfit hheap happ hpre
  exact ⟨k, _, h1, h2, h3, hL args s _, lw_frame hF⟩
theorem i_vc : Claimed_1_1 ∧ Claimed_1_2 := ⟨lw_limb limb_1_1 (fun args s t => by simp [limb_1_1, Cond.after, Cond.holds, Cond.value]), lw_limb limb_1_2 (fun args s t => Cond.after_iff.mpr (by
  first | (rw [show limb_1_2 = Cond.eq .result (.int 1) from rfl, Cond.eq_ints (x := 1) (y := 1) rfl rfl]; simp; done) | (simp [limb_1_2, Cond.value, Term.eval]; done)))⟩
