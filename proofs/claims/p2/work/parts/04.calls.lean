/-! new cells, calls -/
theorem e_dv (K : EC) {ty : FieldType} (h : e_k ty < 4) : defaultValue ty = e_val K (e_tag ty, if e_tag ty = 2 then -1 else 0) := by
  cases ty <;> simp [e_k] at h <;> rfl
/-- a class that an instruction makes: class no. cn, pool no. idx; class ci, which has N fields -/
def e_new (cn idx ci N : Nat) : Prop := ∃ (C : String) (T : u_T), e_cl[ci]? = some (C, T, N) ∧ (∀ w ∈ u_ws C T N, w ∈ tblG) ∧ (∀ j, j < N → parseFieldDescriptor (T j).2.2.1 = some (e_ty ci j)) ∧ (∀ j, j < N → e_k (e_ty ci j) < 4) ∧
  Cond.classLink (e_cn cn) idx C ∈ tblG ∧ Cond.instantiable C N ∈ tblG ∧ Cond.initialized C ∈ tblG
theorem e_push {K : EC} {M : Mem} {H H1 : Heap} {t : Nat × Nat} (hR : e_R K M H) (hz : H1.size = K.1 + M.1 + 1) (ho : ∀ q : Nat, q < K.1 + M.1 → H1[q]? = H[q]?) (he : va_at K.2.2.1 e_cl (K.1 + M.1, e_ent K (mnew M t) M.1) H1) : e_R K (mnew M t) H1 := by
  refine ⟨?_, by rw [hz]; rfl⟩
  rw [e_W_nw K M t rfl]
  refine (hR.1.kept (fun k q hq => ?_)).app (fun k q hq => ?_)
  · refine ho q.1 ?_
    obtain ⟨hk, rfl⟩ := e_W_get' hq
    exact Nat.add_lt_add_left hk _
  · have hk : k < 1 := (List.getElem?_eq_some_iff.mp hq).1
    rw [show k = 0 by omega] at hq
    cases hq
    exact he
section NEW
variable {l : Launch} {K : EC} {d : Nat} {m : MD} {pc pc2 : Nat} {ls : List (Nat × PV)} {st st2 : List PV} {M M' : Mem} {Q : Mem → Option PV → Prop}
theorem Ends.alloc {r : Option PV} {t : Nat × Nat} (hok : oks st → oks st2)
    (hW : ∀ (p : Program) (e : Env) (R : Room) (s : State) (mid : MethodId) (args : Array Value) (below : List Frame) (meth : Method) (c : Code) (H : Heap) (locs : List Loc) (cells slots : Nat) (lsA : Array Slot) (Q : State → Prop), e_X K m p s mid args meth c → e_R K M H → e_okM M → oks st → va_S (e_A K) s.heap H locs → cells + 1 ≤ R.cells → slots + t.2 ≤ R.slots →
      (∀ (H2 : Heap), e_R K (mnew M t) H2 → va_S (e_A K) s.heap H2 locs → W p l e R s mid args below meth c H2 locs (cells + 1) (slots + t.2) Q (F0 mid pc2 lsA (st2.map (e_val K)))) → W p l e R s mid args below meth c H locs cells slots Q (F0 mid pc lsA (st.map (e_val K))))
    (h : Ends l K d m pc2 ls st2 (mnew M t) M' r) : Ends l K d m pc ls st M M' r := by
  obtain ⟨h1, h2, h3, h4⟩ := h
  have h1' : M.1 + 1 ≤ M'.1 := h1
  have h2' : M.2.1 + t.2 ≤ M'.2.1 := h2
  refine ⟨by omega, by omega, fun a b c => h3 (e_okM_nw t a) (hok b) c, ?_⟩
  intro p e R s mid args below meth c H locs cells slots cE sE lsA Q hX hf hl hc hs hcE hsE hR hM hst hls hS hlv hend
  exact hW p e R s mid args below meth c H locs cells slots lsA Q hX hR hM hst hS (by omega) (by omega) fun H2 hR2 hS2 =>
    h4 p e R s mid args below meth c H2 locs (cells + 1) (slots + t.2) cE sE lsA Q hX hf hl (by show cE + (M.1 + 1) = _; omega) (by show sE + (M.2.1 + t.2) = _; omega) hcE hsE hR2 (e_okM_nw t hM) (hok hst) hls hS2 hlv hend
theorem Tr.new {idx ci N : Nat} {x : Int} (hd : decode m.2.2.1 pc = .ok (.new idx, 3)) (hf : e_new m.1 idx ci N) (hc : ci < 20) (hx : ((M.1 : Nat) : Int) = x)
    (k : Tr l K d m (pc + 3) ls ((2, x) :: st) (mnew M (ci, N)) Q) : Tr l K d m pc ls st M Q := by
  subst hx
  obtain ⟨C, T, hcl, hin, hpd, hnf, w1, w2, w3⟩ := hf
  refine Tr.up (fun _ _ h => Ends.alloc (t := (ci, N)) (fun hst => oks_c (ok2 _) hst) (fun p e R s mid args below meth c H locs cells slots lsA Q hX hR hM hst hS hcE hsE kk => ?_) h) k
  obtain ⟨hxx, hb, hml, hr, hown, hts, hlk0, hname, hK, hb0⟩ := hX
  have hKn := hK.1 ci _ hcl
  refine W.newcK hxx hb hown (hts _ w1) (hts _ w2) (hts _ w3) rfl hd hcE hsE hKn.2.1 hR.2 fun H1 kC hkC e1 z1 o1 => ?_
  have hat : mT (mnew M (ci, N)) (M.1 : Int) = (ci, N) := by rw [mT_nw, if_pos rfl]
  have hk2 := kk H1 (e_push hR z1 o1 ?_) ⟨Nat.le_trans hS.1 (by have := hR.2; omega), fun q h1 h2 => (o1 q (by have := hR.2; have := hS.1; omega)).trans (hS.2.1 q h1 h2), hS.2.2⟩
  · have e9 : (((2, ((M.1 : Nat) : Int)) :: st : List PV).map (e_val K)) = .ref (K.1 + M.1) :: st.map (e_val K) := by
      rw [List.map_cons, e_ref K (by omega), Int.toNat_natCast]
    rw [e9] at hk2
    exact hk2
  · rw [e_ent_o K hat hc]
    refine ⟨_, hcl, (u_born (e_ty ci) hts hin hKn hkC e1 hpd).to fun j hj => ?_⟩
    show defaultValue (e_ty ci j) = (e_ob K (mnew M (ci, N)) (M.1 : Int)).getD j .null
    rw [List.getD_eq_getElem?_getD, e_ob_get K hat hj, rd_nw, if_pos rfl, e_dv K (hnf j hj)]
    show _ = e_val K (e_tag (e_ty ci j), e_df ci j)
    unfold e_df
    rw [if_pos hc, Int.toNat_natCast]
theorem Tr.newa_i {n x : Int} {N : Nat} (hd : decode m.2.2.1 pc = .ok (.newarray .int, 2)) (hw : Cond.arrayClass .int ∈ tblG) (hN : n = (N : Int)) (hN2 : N ≤ 67108864) (hx : ((M.1 : Nat) : Int) = x)
    (k : Tr l K d m (pc + 2) ls ((2, x) :: st) (mnew M (20, N)) Q) : Tr l K d m pc ls ((0, n) :: st) M Q := by
  subst hx
  subst hN
  refine Tr.up (fun _ _ h => Ends.alloc (t := (20, N)) (fun hst => oks_c (ok2 _) (oks_t hst)) (fun p e R s mid args below meth c H locs cells slots lsA Q hX hR hM hst hS hcE hsE kk => ?_) h) k
  obtain ⟨hxx, hb, hml, hr, hown, hts, hlk0, hname, hK, hb0⟩ := hX
  have hcl : (Int32.ofInt (N : Int)).toNatClampNeg = N := by rw [i32_cl (by omega) (by omega), Int.toNat_natCast]
  refine va_newaK (atype := .int) (n := Int32.ofInt (N : Int)) (N := N) (h := K.1 + M.1) hxx hb (hts _ hw) rfl hd rfl (fun c9 => by have := (z32_lt (oks_h hst)).mp c9; omega) hcl (by show N * _ ≤ _; first | (show N * 4 ≤ _; omega) | (show N * 8 ≤ _; omega) | (show N * 1 ≤ _; omega)) hcE hsE hR.2 fun H1 cA e1 z1 o1 hAr hNm => ?_
  have hcA : cA = K.2.2.2.1 0 := Option.some.inj (hNm.symm.trans (hK.2 0 _ rfl).2)
  subst hcA
  have hat : mT (mnew M (20, N)) (M.1 : Int) = (20, N) := by rw [mT_nw, if_pos rfl]
  have hk2 := kk H1 (e_push hR z1 o1 ?_) ⟨Nat.le_trans hS.1 (by have := hR.2; omega), fun q h1 h2 => (o1 q (by have := hR.2; have := hS.1; omega)).trans (hS.2.1 q h1 h2), hS.2.2⟩
  · have e9 : (((2, ((M.1 : Nat) : Int)) :: st : List PV).map (e_val K)) = .ref (K.1 + M.1) :: st.map (e_val K) := by
      rw [List.map_cons, e_ref K (by omega), Int.toNat_natCast]
    rw [e9] at hk2
    exact hk2
  · rw [e_ent_i K hat]
    show H1[K.1 + M.1]? = some (vp_cell _ _)
    rw [e1, vp_cell_i]
    congr 2
    funext j
    rw [rd_nw, if_pos rfl]
    rfl
theorem Tr.newa_l {n x : Int} {N : Nat} (hd : decode m.2.2.1 pc = .ok (.newarray .long, 2)) (hw : Cond.arrayClass .long ∈ tblG) (hN : n = (N : Int)) (hN2 : N ≤ 67108864) (hx : ((M.1 : Nat) : Int) = x)
    (k : Tr l K d m (pc + 2) ls ((2, x) :: st) (mnew M (21, N)) Q) : Tr l K d m pc ls ((0, n) :: st) M Q := by
  subst hx
  subst hN
  refine Tr.up (fun _ _ h => Ends.alloc (t := (21, N)) (fun hst => oks_c (ok2 _) (oks_t hst)) (fun p e R s mid args below meth c H locs cells slots lsA Q hX hR hM hst hS hcE hsE kk => ?_) h) k
  obtain ⟨hxx, hb, hml, hr, hown, hts, hlk0, hname, hK, hb0⟩ := hX
  have hcl : (Int32.ofInt (N : Int)).toNatClampNeg = N := by rw [i32_cl (by omega) (by omega), Int.toNat_natCast]
  refine va_newaK (atype := .long) (n := Int32.ofInt (N : Int)) (N := N) (h := K.1 + M.1) hxx hb (hts _ hw) rfl hd rfl (fun c9 => by have := (z32_lt (oks_h hst)).mp c9; omega) hcl (by show N * _ ≤ _; first | (show N * 4 ≤ _; omega) | (show N * 8 ≤ _; omega) | (show N * 1 ≤ _; omega)) hcE hsE hR.2 fun H1 cA e1 z1 o1 hAr hNm => ?_
  have hcA : cA = K.2.2.2.1 1 := Option.some.inj (hNm.symm.trans (hK.2 1 _ rfl).2)
  subst hcA
  have hat : mT (mnew M (21, N)) (M.1 : Int) = (21, N) := by rw [mT_nw, if_pos rfl]
  have hk2 := kk H1 (e_push hR z1 o1 ?_) ⟨Nat.le_trans hS.1 (by have := hR.2; omega), fun q h1 h2 => (o1 q (by have := hR.2; have := hS.1; omega)).trans (hS.2.1 q h1 h2), hS.2.2⟩
  · have e9 : (((2, ((M.1 : Nat) : Int)) :: st : List PV).map (e_val K)) = .ref (K.1 + M.1) :: st.map (e_val K) := by
      rw [List.map_cons, e_ref K (by omega), Int.toNat_natCast]
    rw [e9] at hk2
    exact hk2
  · rw [e_ent_l K hat]
    show H1[K.1 + M.1]? = some (vp_cell _ _)
    rw [e1, vp_cell_l]
    congr 2
    funext j
    rw [rd_nw, if_pos rfl]
    rfl
theorem Tr.newa_b {n x : Int} {N : Nat} (hd : decode m.2.2.1 pc = .ok (.newarray .byte, 2)) (hw : Cond.arrayClass .byte ∈ tblG) (hN : n = (N : Int)) (hN2 : N ≤ 67108864) (hx : ((M.1 : Nat) : Int) = x)
    (k : Tr l K d m (pc + 2) ls ((2, x) :: st) (mnew M (22, N)) Q) : Tr l K d m pc ls ((0, n) :: st) M Q := by
  subst hx
  subst hN
  refine Tr.up (fun _ _ h => Ends.alloc (t := (22, N)) (fun hst => oks_c (ok2 _) (oks_t hst)) (fun p e R s mid args below meth c H locs cells slots lsA Q hX hR hM hst hS hcE hsE kk => ?_) h) k
  obtain ⟨hxx, hb, hml, hr, hown, hts, hlk0, hname, hK, hb0⟩ := hX
  have hcl : (Int32.ofInt (N : Int)).toNatClampNeg = N := by rw [i32_cl (by omega) (by omega), Int.toNat_natCast]
  refine va_newaK (atype := .byte) (n := Int32.ofInt (N : Int)) (N := N) (h := K.1 + M.1) hxx hb (hts _ hw) rfl hd rfl (fun c9 => by have := (z32_lt (oks_h hst)).mp c9; omega) hcl (by show N * _ ≤ _; first | (show N * 4 ≤ _; omega) | (show N * 8 ≤ _; omega) | (show N * 1 ≤ _; omega)) hcE hsE hR.2 fun H1 cA e1 z1 o1 hAr hNm => ?_
  have hcA : cA = K.2.2.2.1 2 := Option.some.inj (hNm.symm.trans (hK.2 2 _ rfl).2)
  subst hcA
  have hat : mT (mnew M (22, N)) (M.1 : Int) = (22, N) := by rw [mT_nw, if_pos rfl]
  have hk2 := kk H1 (e_push hR z1 o1 ?_) ⟨Nat.le_trans hS.1 (by have := hR.2; omega), fun q h1 h2 => (o1 q (by have := hR.2; have := hS.1; omega)).trans (hS.2.1 q h1 h2), hS.2.2⟩
  · have e9 : (((2, ((M.1 : Nat) : Int)) :: st : List PV).map (e_val K)) = .ref (K.1 + M.1) :: st.map (e_val K) := by
      rw [List.map_cons, e_ref K (by omega), Int.toNat_natCast]
    rw [e9] at hk2
    exact hk2
  · rw [e_ent_b K hat]
    show H1[K.1 + M.1]? = some (vp_cell _ _)
    rw [e1, vp_cell_i]
    congr 2
    funext j
    rw [rd_nw, if_pos rfl]
    rfl
theorem Tr.newa_z {n x : Int} {N : Nat} (hd : decode m.2.2.1 pc = .ok (.newarray .boolean, 2)) (hw : Cond.arrayClass .boolean ∈ tblG) (hN : n = (N : Int)) (hN2 : N ≤ 67108864) (hx : ((M.1 : Nat) : Int) = x)
    (k : Tr l K d m (pc + 2) ls ((2, x) :: st) (mnew M (23, N)) Q) : Tr l K d m pc ls ((0, n) :: st) M Q := by
  subst hx
  subst hN
  refine Tr.up (fun _ _ h => Ends.alloc (t := (23, N)) (fun hst => oks_c (ok2 _) (oks_t hst)) (fun p e R s mid args below meth c H locs cells slots lsA Q hX hR hM hst hS hcE hsE kk => ?_) h) k
  obtain ⟨hxx, hb, hml, hr, hown, hts, hlk0, hname, hK, hb0⟩ := hX
  have hcl : (Int32.ofInt (N : Int)).toNatClampNeg = N := by rw [i32_cl (by omega) (by omega), Int.toNat_natCast]
  refine va_newaK (atype := .boolean) (n := Int32.ofInt (N : Int)) (N := N) (h := K.1 + M.1) hxx hb (hts _ hw) rfl hd rfl (fun c9 => by have := (z32_lt (oks_h hst)).mp c9; omega) hcl (by show N * _ ≤ _; first | (show N * 4 ≤ _; omega) | (show N * 8 ≤ _; omega) | (show N * 1 ≤ _; omega)) hcE hsE hR.2 fun H1 cA e1 z1 o1 hAr hNm => ?_
  have hcA : cA = K.2.2.2.1 3 := Option.some.inj (hNm.symm.trans (hK.2 3 _ rfl).2)
  subst hcA
  have hat : mT (mnew M (23, N)) (M.1 : Int) = (23, N) := by rw [mT_nw, if_pos rfl]
  have hk2 := kk H1 (e_push hR z1 o1 ?_) ⟨Nat.le_trans hS.1 (by have := hR.2; omega), fun q h1 h2 => (o1 q (by have := hR.2; have := hS.1; omega)).trans (hS.2.1 q h1 h2), hS.2.2⟩
  · have e9 : (((2, ((M.1 : Nat) : Int)) :: st : List PV).map (e_val K)) = .ref (K.1 + M.1) :: st.map (e_val K) := by
      rw [List.map_cons, e_ref K (by omega), Int.toNat_natCast]
    rw [e9] at hk2
    exact hk2
  · rw [e_ent_z K hat]
    show H1[K.1 + M.1]? = some (vp_cell _ _)
    rw [e1, vp_cell_i]
    congr 2
    funext j
    rw [rd_nw, if_pos rfl]
    rfl
end NEW
/-- a method whose body is shown to end so: its class's name may have entries of its own, if none is this method's -/
theorem e_metF {l : Launch} {y : MethodName} {ws ws2 : List Cond} {rm : Room} {Pc : Array Value → State → Prop} {Qc : Array Value → State → Outcome → State → Prop} {mc ms : Nat} {free : Addr → Prop} {cc : ByteArray} {maxL : Nat} {ret : Option FieldType} (hy : plainFor y = true) (hw : ws = Cond.code y cc maxL ret :: ws2)
    (body : ∀ p e s m args below meth c s₁, BodyLoose p l y (headSpec ws rm) cc maxL ret e s m args below meth c s₁ → c.maxLocals = maxL → Pc args s → W p l e (headSpec ws rm).room s m args below meth c s.heap [] 0 0 (MQ below Qc args s mc ms free) (entryFrame m args maxL)) : Met l y ws rm Pc Qc mc ms free := by
  refine MetFree.of_bodySF (code := cc) (maxLocals := maxL) (ret := ret) hy (fun args s m h hn => ?_) (fun p e s m args below meth c s₁ B hml hP _ => ?_)
  · have h0 : Cond.code y cc maxL ret ∈ ws := by rw [hw]; exact List.mem_cons_self
    obtain ⟨meth, c, h1, h2, h3, h4, h5, h6, -⟩ := Cond.code_spec hn (atoms_spec (ws := ws) h _ h0)
    exact ⟨meth, c, h1, h2, h3, h4, h5, h6⟩
  · obtain ⟨t, g1, o, g2, g3, g4⟩ := body p e s m args below meth c s₁ B hml hP s₁ (by rw [B.state]; rfl) (Stand.of_body B)
    exact ⟨t, o, g1, g2, g3, ⟨g4.1, g4.2⟩⟩
/-- a method of ours: its words -/
def e_m (y : MD) (n : Nat) : Prop := Cond.code y.2.1 y.2.2.1 y.2.2.2.1 y.2.2.2.2 ∈ tblG ∧ plainFor y.2.1 = true ∧ y.2.1.cls = e_cn y.1 ∧ Cond.initialized y.2.1.cls ∈ tblG ∧
  (y.2.1.cls ≠ "java/lang/invoke/MethodHandle" ∧ y.2.1.cls ≠ "java/lang/invoke/VarHandle" ∧ (parseMethodDescriptor y.2.1.desc).map (fun d => d.parameters.length) = some n) ∧ y.2.2.2.1 ≤ 40
def e_ws (y : MD) : List Cond := Cond.code y.2.1 y.2.2.1 y.2.2.2.1 y.2.2.2.2 :: tblG
abbrev e_Pc (K : EC) (M : Mem) (as : List PV) : Array Value → State → Prop := va_Pc (as.map (e_val K)) (fun U => e_R K M U.heap ∧ va_K K.2.2.1 e_cl (e_tys K) U ∧ K.1 ≤ U.heap.size ∧ K.2.2.2.2 U)
def e_Qc (K : EC) (M : Mem) (r : Option PV) : Array Value → State → Outcome → State → Prop := fun _ st oc t => (oc = .returned (r.map (e_val K)) ∧ e_R K M t.heap ∧ va_K K.2.2.1 e_cl (e_tys K) t) ∧ va_F (e_A K) st t
abbrev e_rm (d mc ms : Nat) : Room := { frames := d, cells := mc, slots := ms, locals := 70 * d }
theorem e_met {l : Launch} {K : EC} {d n : Nat} {y : MD} {as : List PV} {M M1 : Mem} {r : Option PV} (hclo : e_clo K) (hy : e_m y n) (ha : e_cat as ≤ y.2.2.2.1) (hM : e_okM M) (hs : oks as) (h : Ends l K d y 0 (e_args 0 as) [] M M1 r) :
    Met l y.2.1 (e_ws y) (e_rm d (M1.1 - M.1) (M1.2.1 - M.2.1)) (e_Pc K M as) (e_Qc K M1 r) (M1.1 - M.1) (M1.2.1 - M.2.1) (e_A K) := by
  refine e_metF (cc := y.2.2.1) (maxL := y.2.2.2.1) (ret := y.2.2.2.2) hy.2.1 rfl ?_
  intro p e s mid args below meth c s₁ B hml hPc
  obtain ⟨hargs, hR, hK, hb0, hex⟩ := hPc
  have hts : ∀ w ∈ e_ws y, w.before args s = true := atoms_spec (ws := e_ws y) B.pre
  have hown : s.vm.findClass (e_cn y.1) = some mid.cls := by rw [← hy.2.2.1]; exact findClass_of_methodNamed B.named
  have hname : y.2.1.name = "<init>" → meth.name = "<init>" := fun h9 => (name_of_methodNamed B.named B.method).1.trans h9
  subst hargs
  rw [lg_entry_eq]
  have hlv := lv_entry (as.map (e_val K)) (n := y.2.2.2.1) (by rw [e_sl_len]; exact ha)
  rw [e_args_map] at hlv
  have h1 := h.1
  have h2 := h.2.1
  refine h.2.2.2 p e _ s mid _ below meth c s.heap [] 0 0 (M1.1 - M.1) (M1.2.1 - M.2.1) _ _ ⟨B.exec, B.bytes, hml, B.returns, hown, fun w hw => hts w (List.mem_cons_of_mem _ hw), B.notSynchronized, hname, hK, hb0, hex, hclo⟩ (Nat.le_refl _) (Nat.le_refl _) (by omega) (by omega) (Nat.le_refl _) (Nat.le_refl _) hR hM (fun v hv => by cases hv) (e_args_ok hs 0) va_S.rf hlv ?_
  intro pc' lsA' H' locs' hret hR' hS'
  have hlocks := B.notSynchronized
  rcases hret with ⟨a, g1, rfl, g3⟩ | ⟨a, ty, g1, rfl, g3, g4⟩ | ⟨a, g1, rfl, g3⟩ | ⟨g1, rfl, g3⟩ | ⟨a, ty, g1, rfl, g3⟩
  · exact W.iret (v := Int32.ofInt a) B.exec B.bytes (B.returns.trans g1) (fun t ht hW => ⟨⟨rfl, by rw [ht]; exact hR', va_K.moved hW.alike hK⟩, hS'.F ht⟩) hS'.2.2 g3 hlocks
  · exact W.zret (v := Int32.ofInt a) (ty := ty) B.exec B.bytes (B.returns.trans g1) g4 (fun t ht hW => ⟨⟨rfl, by rw [ht]; exact hR', va_K.moved hW.alike hK⟩, hS'.F ht⟩) hS'.2.2 g3 hlocks
  · exact W.lret (v := Int64.ofInt a) B.exec B.bytes (B.returns.trans g1) (fun t ht hW => ⟨⟨rfl, by rw [ht]; exact hR', va_K.moved hW.alike hK⟩, hS'.F ht⟩) hS'.2.2 g3 hlocks
  · exact W.vret B.exec B.bytes (B.returns.trans g1) (fun t ht hW => ⟨⟨rfl, by rw [ht]; exact hR', va_K.moved hW.alike hK⟩, hS'.F ht⟩) hS'.2.2 g3 hlocks
  · exact W.aret (v := e_val K (2, a)) (rt := .array ty) B.exec B.bytes (B.returns.trans g1) (Or.inr ⟨ty, rfl⟩) (by show e_adr K a = _ ∨ ∃ b, e_adr K a = _; unfold e_adr; split; exact Or.inl rfl; split; exact Or.inr ⟨_, rfl⟩; exact Or.inr ⟨_, rfl⟩) (fun t ht hW => ⟨⟨rfl, by rw [ht]; exact hR', va_K.moved hW.alike hK⟩, hS'.F ht⟩) hS'.2.2 g3 hlocks
section CALL
variable {l : Launch} {K : EC} {d : Nat} {m : MD} {pc : Nat} {ls : List (Nat × PV)} {st st0 : List PV} {M M1 M' : Mem} {Q : Mem → Option PV → Prop}
theorem Ends.call {r r1 : Option PV} {a : Array Value} (hn : M.1 ≤ M1.1) (hz : M.2.1 ≤ M1.2.1) (hok : e_okM M → oks st0 → (e_okM M1 ∧ ∀ v ∈ r1, e_ok v)) (hst : oks st0 → oks st)
    (hrun : ∀ (p : Program) (e : Env) (R : Room) (s : State) (mid : MethodId) (args : Array Value) (below : List Frame) (meth : Method) (c : Code) (H : Heap) (locs : List Loc) (cells slots : Nat) (lsA : Array Slot), e_X K m p s mid args meth c → d + 1 ≤ R.frames → 70 * (d + 1) ≤ R.locals → e_R K M H → e_okM M → oks st0 → va_S (e_A K) s.heap H locs → lsA.size = m.2.2.2.1 → cells + (M1.1 - M.1) ≤ R.cells → slots + (M1.2.1 - M.2.1) ≤ R.slots → K.1 ≤ H.size →
      va_Run p l e R s mid args below meth c H locs cells slots (M1.1 - M.1) (M1.2.1 - M.2.1) (F0 mid pc lsA (st0.map (e_val K))) (st.map (e_val K)) (e_Qc K M1 r1 a) (e_A K))
    (h : Ends l K (d + 1) m (pc + 3) ls (r1.toList ++ st) M1 M' r) : Ends l K (d + 1) m pc ls st0 M M' r := by
  obtain ⟨h1, h2, h3, h4⟩ := h
  have oks1 : e_okM M → oks st0 → oks (r1.toList ++ st) := fun hM hs v hv => by
    rcases List.mem_append.mp hv with hv | hv
    · exact (hok hM hs).2 v (Option.mem_toList.mp hv)
    · exact hst hs v hv
  refine ⟨Nat.le_trans hn h1, Nat.le_trans hz h2, fun a b c => h3 (hok a b).1 (oks1 a b) c, ?_⟩
  intro p e R s mid args below meth c H locs cells slots cE sE lsA Q hX hf hl hc hs hcE hsE hR hM hst9 hls hS hlv hend
  intro T hT X
  obtain ⟨v, st₀, t, T', L, h0, X', hL, e1, e2, ⟨⟨hv, hR1, hK1⟩, hz9, hk9⟩, stp⟩ := hrun p e R s mid args below meth c H locs cells slots lsA hX hf hl hR hM hst9 hS hlv.1 (by omega) (by omega) (by rw [hR.2]; omega) T hT X
  rw [h0] at hz9 hk9
  have hvv : v = r1.map (e_val K) := by cases hv; rfl
  have key := h4 p e R s mid args below meth c T'.heap (locs ++ L) (cells + (M1.1 - M.1)) (slots + (M1.2.1 - M.2.1)) cE sE lsA Q hX hf hl (by omega) (by omega) hcE hsE (by rw [e1]; exact hR1) (hok hM hst9).1 (oks1 hM hst9) hls
    ⟨Nat.le_trans hS.1 (by rw [e1]; exact hz9), fun q g1 g2 => by rw [e1, hk9 q (Nat.lt_of_lt_of_le g1 hS.1) g2]; exact hS.2.1 q g1 g2, fun q hq => by
      rcases List.mem_append.mp hq with g | g
      · exact hS.2.2 q g
      · exact hL q g⟩ hlv hend
  obtain ⟨t2, a1, b1⟩ := key T' rfl X'
  refine ⟨t2, stp t2 ?_, b1⟩
  have hst2 : (r1.toList ++ st).map (e_val K) = v.toList ++ st.map (e_val K) := by
    rw [hvv]
    cases r1 <;> simp
  rw [hst2] at a1
  exact a1
/-- a call site of a virtual method: the words -/
def e_siteV (cn idx : Nat) (y : MD) (ci : Nat) : Prop := Cond.methodLink (e_cn cn) idx y.2.1 ∈ tblG ∧ Cond.instanceMethod y.2.1 ∈ tblG ∧ Cond.selects y.2.1.cls y.2.1 y.2.1 ∈ tblG ∧ e_cl[ci]?.map (fun q => q.1) = some y.2.1.cls
def e_siteS (cn idx : Nat) (y : MD) : Prop := Cond.methodLink (e_cn cn) idx y.2.1 ∈ tblG ∧ Cond.static y.2.1 ∈ tblG
def e_siteI (cn idx : Nat) (y : MD) : Prop := Cond.methodLink (e_cn cn) idx y.2.1 ∈ tblG ∧ Cond.instanceMethod y.2.1 ∈ tblG ∧ y.2.1.name = "<init>" ∧ y.2.2.2.2 = none
def e_siteIN (K : EC) (cn idx : Nat) (y : MD) (host : String) : Prop := (∀ U : State, K.2.2.2.2 U → va_Nw (.methodLinkNest (e_cn cn) idx y.2.1 host) U) ∧ Cond.instanceMethod y.2.1 ∈ tblG ∧ y.2.1.name = "<init>" ∧ y.2.2.2.2 = none
theorem e_goodws (y : MD) {n : Nat} (hy : e_m y n) : GoodIn tblG (e_ws y) := tblG_good fun w hw => by
  rcases List.mem_cons.mp hw with rfl | h
  · exact hy.1
  · exact h
theorem e_blind (K : EC) (hclo : e_clo K) (M : Mem) (as : List PV) : FrameBlind (e_Pc K M as) := fun a U g mk q => ⟨q.1, q.2.1, va_K.moved (u := U) (U := U.calling g mk a) (Vm.Alike.refl U.vm) q.2.2.1, q.2.2.2.1, hclo U (U.calling g mk a) (State.WarmedH.refl U) (fun _ _ => rfl) q.2.2.2.2⟩
theorem Tr.callV {y : MD} {n idx ci N : Nat} {as : List PV} {x : Int} (hd : decode m.2.2.1 pc = .ok (.invokevirtual idx, 3)) (hs : e_siteV m.1 idx y ci) (hy : e_m y n) (hn : as.length = n) (hst : as.reverse ++ (2, x) :: st = st0) (hcat : e_cat st ≤ 8) (ha : e_cat as + 1 ≤ y.2.2.2.1) (hc : ci < 20) (ht : mT M x = (ci, N))
    (k : Tr l K d y 0 (e_args 0 ((2, x) :: as)) [] M (fun M1 r1 => Tr l K (d + 1) m (pc + 3) ls (r1.toList ++ st) M1 Q)) : Tr l K (d + 1) m pc ls st0 M Q := by
  subst hst
  obtain ⟨M1, r1, ⟨M', r, hq, h⟩, hcall⟩ := k
  have okas : oks (as.reverse ++ (2, x) :: st) → oks ((2, x) :: as) := fun hs => oks_c (ok2 _) fun v hv => hs v (List.mem_append_left _ (List.mem_reverse.mpr hv))
  have okst : oks (as.reverse ++ (2, x) :: st) → oks st := fun hs v hv => hs v (List.mem_append_right _ (List.mem_cons_of_mem _ hv))
  refine ⟨M', r, hq, Ends.call (a := (Value.ref (K.1 + x.toNat) :: as.map (e_val K)).toArray) hcall.1 hcall.2.1 (fun hM hs => hcall.2.2.1 hM (fun v hv => by cases hv) (e_args_ok (okas hs) 0)) okst ?_ h⟩
  intro p e R s mid args below meth c H locs cells slots lsA hX hf hl hR hM hst9 hS hsz hcE hsE hbH
  have hx := e_in hM ht (by omega)
  obtain ⟨hxx, hb, hml, hr, hown, hts, hlk0, hname, hK, hb0, hex, hclo⟩ := hX
  obtain ⟨s1, s2, s3, s4⟩ := hs
  have hM9 := e_met hclo hy (as := (2, x) :: as) (by show e_cat ((2, x) :: as) ≤ _; rw [show e_cat ((2, x) :: as) = 1 + e_cat as from by simp [e_cat, e_ct]]; omega) hM (okas hst9) hcall
  have hw := e_W_at K hx
  rw [e_ent_o K ht hc] at hw
  obtain ⟨q9, hq9⟩ : ∃ q, e_cl[ci]? = some q := by
    cases hh : e_cl[ci]? with
    | none => rw [hh] at s4; cases s4
    | some q => exact ⟨q, rfl⟩
  have hq1 : q9.1 = y.2.1.cls := by
    rw [hq9] at s4
    exact Option.some.inj s4
  have hrecv := va_recv hK hR.1 hq9 hw
  rw [hq1] at hrecv
  have e9 : (((2, x) :: as : List PV).map (e_val K)) = .ref (K.1 + x.toNat) :: as.map (e_val K) := by rw [List.map_cons, e_ref K hx.1]
  refine va_runV (C := y.2.1.cls) (b := K.1 + x.toNat) (As := as.map (e_val K)) (Ts := tblG) (n := n) ⟨hxx, hb, hml, hown, hts⟩ hM9 (cwV n hts (tblG_good ?_) rfl rfl rfl ⟨rfl, hy.2.2.2.2.1⟩ ⟨hf, by have := hy.2.2.2.2.2; show 8 + (y.2.2.2.1 + 11) + 70 * d ≤ R.locals; omega⟩) ⟨e_blind K hclo M _, hrecv, fun U hU hW => ⟨by rw [e9], by rw [hU]; exact hR, va_K.moved hW.alike hK, by rw [hU]; exact hbH, hclo s U hW (fun q hq => by rw [hU]; exact hS.2.1 q (Nat.lt_of_lt_of_le hq hb0) (Nat.not_le.mpr hq)) hex⟩⟩ rfl (by rw [List.length_map]; exact hn) hsz ?_ (lv_room (by rw [e_vcats]; exact hcat)) hd ⟨hcE, hsE⟩
  · intro w hw
    rcases List.mem_append.mp hw with h | h
    · simp only [List.mem_cons, List.not_mem_nil, or_false] at h
      rcases h with rfl | rfl | rfl | rfl
      · exact s1
      · exact s2
      · exact s3
      · exact hy.2.2.2.1
    · exact (e_goodws y hy w h).1
  · show (as.reverse ++ (2, x) :: st).map (e_val K) = _
    rw [List.map_append, List.map_cons, e_ref K hx.1, List.map_reverse]
theorem Tr.callS {y : MD} {n idx : Nat} {as : List PV} (hd : decode m.2.2.1 pc = .ok (.invokestatic idx, 3)) (hs : e_siteS m.1 idx y) (hy : e_m y n) (hn : as.length = n) (hst : as.reverse ++ st = st0) (hcat : e_cat st ≤ 8) (ha : e_cat as ≤ y.2.2.2.1)
    (k : Tr l K d y 0 (e_args 0 as) [] M (fun M1 r1 => Tr l K (d + 1) m (pc + 3) ls (r1.toList ++ st) M1 Q)) : Tr l K (d + 1) m pc ls st0 M Q := by
  subst hst
  obtain ⟨M1, r1, ⟨M', r, hq, h⟩, hcall⟩ := k
  have okas : oks (as.reverse ++ st) → oks as := fun hs v hv => hs v (List.mem_append_left _ (List.mem_reverse.mpr hv))
  have okst : oks (as.reverse ++ st) → oks st := fun hs v hv => hs v (List.mem_append_right _ hv)
  refine ⟨M', r, hq, Ends.call (a := (as.map (e_val K)).toArray) hcall.1 hcall.2.1 (fun hM hs => hcall.2.2.1 hM (fun v hv => by cases hv) (e_args_ok (okas hs) 0)) okst ?_ h⟩
  intro p e R s mid args below meth c H locs cells slots lsA hX hf hl hR hM hst9 hS hsz hcE hsE hbH
  obtain ⟨hxx, hb, hml, hr, hown, hts, hlk0, hname, hK, hb0, hex, hclo⟩ := hX
  obtain ⟨s1, s2⟩ := hs
  have hM9 := e_met hclo hy (as := as) ha hM (okas hst9) hcall
  refine va_runS (As := as.map (e_val K)) (Ts := tblG) (n := n) ⟨hxx, hb, hml, hown, hts⟩ hM9 (va_cwS n hts (tblG_good ?_) rfl rfl rfl hy.2.2.2.2.1 ⟨hf, by have := hy.2.2.2.2.2; show 8 + (y.2.2.2.1 + 11) + 70 * d ≤ R.locals; omega⟩) ⟨e_blind K hclo M _, fun U hU hW => ⟨rfl, by rw [hU]; exact hR, va_K.moved hW.alike hK, by rw [hU]; exact hbH, hclo s U hW (fun q hq => by rw [hU]; exact hS.2.1 q (Nat.lt_of_lt_of_le hq hb0) (Nat.not_le.mpr hq)) hex⟩⟩ rfl (by rw [List.length_map]; exact hn) hsz ?_ (lv_room (by rw [e_vcats]; exact hcat)) hd ⟨hcE, hsE⟩
  · intro w hw
    rcases List.mem_append.mp hw with h | h
    · simp only [List.mem_cons, List.not_mem_nil, or_false] at h
      rcases h with rfl | rfl | rfl
      · exact s1
      · exact s2
      · exact hy.2.2.2.1
    · exact (e_goodws y hy w h).1
  · show (as.reverse ++ st).map (e_val K) = _
    rw [List.map_append, List.map_reverse]
theorem Tr.callI {y : MD} {n idx : Nat} {as : List PV} {x : Int} (hd : decode m.2.2.1 pc = .ok (.invokespecial idx, 3)) (hs : e_siteI m.1 idx y ∨ ∃ host, e_siteIN K m.1 idx y host) (hy : e_m y n) (hn : as.length = n) (hst : as.reverse ++ (2, x) :: st = st0) (hcat : e_cat st ≤ 8) (ha : e_cat as + 1 ≤ y.2.2.2.1) (hx : 0 ≤ x)
    (k : Tr l K d y 0 (e_args 0 ((2, x) :: as)) [] M (fun M1 r1 => Tr l K (d + 1) m (pc + 3) ls (r1.toList ++ st) M1 Q)) : Tr l K (d + 1) m pc ls st0 M Q := by
  subst hst
  obtain ⟨M1, r1, ⟨M', r, hq, h⟩, hcall⟩ := k
  have okas : oks (as.reverse ++ (2, x) :: st) → oks ((2, x) :: as) := fun hs => oks_c (ok2 _) fun v hv => hs v (List.mem_append_left _ (List.mem_reverse.mpr hv))
  have okst : oks (as.reverse ++ (2, x) :: st) → oks st := fun hs v hv => hs v (List.mem_append_right _ (List.mem_cons_of_mem _ hv))
  refine ⟨M', r, hq, Ends.call (a := (Value.ref (K.1 + x.toNat) :: as.map (e_val K)).toArray) hcall.1 hcall.2.1 (fun hM hs => hcall.2.2.1 hM (fun v hv => by cases hv) (e_args_ok (okas hs) 0)) okst ?_ h⟩
  intro p e R s mid args below meth c H locs cells slots lsA hX hf hl hR hM hst9 hS hsz hcE hsE hbH
  obtain ⟨hxx, hb, hml, hr, hown, hts, hlk0, hname, hK, hb0, hex, hclo⟩ := hX
  have hM9 := e_met hclo hy (as := (2, x) :: as) (by show e_cat ((2, x) :: as) ≤ _; rw [show e_cat ((2, x) :: as) = 1 + e_cat as from by simp [e_cat, e_ct]]; omega) hM (okas hst9) hcall
  have e9 : (((2, x) :: as : List PV).map (e_val K)) = .ref (K.1 + x.toNat) :: as.map (e_val K) := by rw [List.map_cons, e_ref K hx]
  have hPre : PreS s H (e_Pc K M ((2, x) :: as)) (.ref (K.1 + x.toNat) :: as.map (e_val K)) := ⟨e_blind K hclo M _, fun U hU hW => ⟨by rw [e9], by rw [hU]; exact hR, va_K.moved hW.alike hK, by rw [hU]; exact hbH, hclo s U hW (fun q hq => by rw [hU]; exact hS.2.1 q (Nat.lt_of_lt_of_le hq hb0) (Nat.not_le.mpr hq)) hex⟩⟩
  have hstk : (as.reverse ++ (2, x) :: st).map (e_val K) = (as.map (e_val K)).reverse ++ .ref (K.1 + x.toNat) :: st.map (e_val K) := by rw [List.map_append, List.map_cons, e_ref K hx, List.map_reverse]
  have hRR : d + 1 ≤ R.frames ∧ 8 + (y.2.2.2.1 + 11) + 70 * d ≤ R.locals := ⟨hf, by have := hy.2.2.2.2.2; omega⟩
  rcases hs with ⟨s1, s2, s3, s4⟩ | ⟨host, s1, s2, s3, s4⟩
  · have hw : e_ws y = Cond.code y.2.1 y.2.2.1 y.2.2.2.1 none :: tblG := by unfold e_ws; rw [s4]
    exact va_runI (b := K.1 + x.toNat) (As := as.map (e_val K)) (Ts := tblG) (n := n) ⟨hxx, hb, hml, hown, hts⟩ hM9 (cwI n hts (e_goodws y hy) hw rfl rfl (hts _ hy.2.2.2.1) (hts _ s1) (hts _ s2) s3 hy.2.2.2.2.1 hRR) hPre rfl (by rw [List.length_map]; exact hn) hsz hstk (lv_room (by rw [e_vcats]; exact hcat)) hd ⟨hcE, hsE⟩
  · have hw : e_ws y = Cond.code y.2.1 y.2.2.1 y.2.2.2.1 none :: tblG := by unfold e_ws; rw [s4]
    exact va_runIN (b := K.1 + x.toNat) (As := as.map (e_val K)) (Ts := tblG) (n := n) (host := host) ⟨hxx, hb, hml, hown, hts⟩ hM9 ⟨va_cnB n hts (e_goodws y hy) hw rfl rfl (s1 s hex) (hts _ hy.2.2.2.1) hy.2.2.2.2.1 hRR, s3, hts _ s2⟩ hPre rfl (by rw [List.length_map]; exact hn) hsz hstk (lv_room (by rw [e_vcats]; exact hcat)) hd ⟨hcE, hsE⟩
/-- Object's constructor -/
theorem Tr.obj {idx : Nat} {x : Int} (hd : decode m.2.2.1 pc = .ok (.invokespecial idx, 3)) (h1 : Cond.methodLink (e_cn m.1) idx objectInit ∈ tblG) (h2 : Cond.instanceMethod objectInit ∈ tblG) (h3 : Cond.code objectInit ⟨#[0xb1]⟩ 1 none ∈ tblG) (hcat : e_cat st ≤ 8) (hx : 0 ≤ x)
    (k : Tr l K (d + 1) m (pc + 3) ls st M Q) : Tr l K (d + 1) m pc ls ((2, x) :: st) M Q := by
  refine Tr.up (fun _ _ h => Ends.sk (fun hM hst hls => oks_t hst) (fun p e R s mid args below meth c H locs cells slots lsA Q hX hf hg hR hM hst hls hS hlv kk => ?_) h) k
  obtain ⟨hxx, hb, hml, hr, hown, hts, hlk0, hname, hK, hb0, hex, hclo⟩ := hX
  show W p l e R s mid args below meth c H locs cells slots Q (F0 mid pc lsA (e_val K (2, x) :: st.map (e_val K)))
  rw [e_ref K hx]
  have hroom := lv_room (m := mid) (pc := pc) (ls := lsA) (rest := e_val K (2, x) :: st.map (e_val K)) (st := st.map (e_val K)) (by rw [e_vcats]; exact hcat)
  exact W.objInit hxx hb hown (hts _ h1) (hts _ h2) (hts _ h3) rfl (by show lsA.size = c.maxLocals; rw [hlv.1, hml]) rfl hd (by omega) (by show 2 * 0 + _ + 12 ≤ R.locals; rw [e_vcats]; omega) kk
/-- n ints from place sp of x to place dp of y -/
def cpy (M : Mem) (x y sp dp n : Int) : Mem := (M.1, M.2.1, M.2.2.1, fun z j => if z = y ∧ dp ≤ j ∧ j < dp + n then M.2.2.2 x (sp + (j - dp)) else M.2.2.2 z j)
theorem rd_cpy (M : Mem) (x y sp dp n z j : Int) : rd (cpy M x y sp dp n) z j = if z = y ∧ dp ≤ j ∧ j < dp + n then rd M x (sp + (j - dp)) else rd M z j := rfl
theorem mT_cpy (M : Mem) (x y sp dp n : Int) : mT (cpy M x y sp dp n) = mT M := rfl
theorem Tr.acopy {idx n0 n1 : Nat} {x y sp dp n : Int} (hd : decode m.2.2.1 pc = .ok (.invokestatic idx, 3)) (w1 : Cond.methodLink (e_cn m.1) idx arraycopyName ∈ tblG) (w2 : Cond.native arraycopyName ∈ tblG) (w3 : Cond.static arraycopyName ∈ tblG) (w4 : Cond.initialized "java/lang/System" ∈ tblG)
    (ht0 : mT M x = (20, n0)) (ht1 : mT M y = (20, n1)) (g1 : 0 ≤ sp) (g2 : 0 ≤ dp) (g3 : 0 ≤ n) (g4 : sp + n ≤ n0) (g5 : dp + n ≤ n1) (hcat : e_cat st ≤ 8)
    (k : Tr l K (d + 1) m (pc + 3) ls st (cpy M x y sp dp n) Q) : Tr l K (d + 1) m pc ls ((0, n) :: (0, dp) :: (2, y) :: (0, sp) :: (2, x) :: st) M Q := by
  refine Tr.up (fun _ _ h => Ends.me (M2 := cpy M x y sp dp n) rfl rfl (fun hM hst hls => ⟨⟨hM.1, fun z j => ?_⟩, oks_t (oks_t (oks_t (oks_t (oks_t hst))))⟩) (fun p e R s mid args below meth c H locs cells slots lsA Q hX hf hg hR hM hst hls hS hlv kk => ?_) h) k
  · rw [rd_cpy]
    show e_ok (e_sl M z j, _)
    split
    · rename_i c9
      obtain ⟨rfl, -, -⟩ := c9
      have h8 := hM.2 x (sp + (j - dp))
      unfold e_sl at h8 ⊢
      rw [ht0] at h8
      rw [ht1]
      exact h8
    · exact hM.2 z j
  · have hx := e_in hM ht0 (by omega)
    have hy := e_in hM ht1 (by omega)
    obtain ⟨hxx, hb, hml, hr, hown, hts, hlk0, hname, hK, hb0, hex, hclo⟩ := hX
    show W p l e R s mid args below meth c H locs cells slots Q (F0 mid pc lsA (e_val K (0, n) :: e_val K (0, dp) :: e_val K (2, y) :: e_val K (0, sp) :: e_val K (2, x) :: st.map (e_val K)))
    rw [e_ref K hx.1, e_ref K hy.1]
    have hwx := e_W_at K hx
    rw [e_ent_i K ht0] at hwx
    have hwy := e_W_at K hy
    rw [e_ent_i K ht1] at hwy
    have on := oks_h hst
    have odp := oks_h (oks_t hst)
    have osp := oks_h (oks_t (oks_t (oks_t hst)))
    have cn := i32_cl g3 on.i.2
    have cdp := i32_cl g2 odp.i.2
    have csp := i32_cl g1 osp.i.2
    intro T hT X
    have hc0 : H[K.1 + x.toNat]? = some (vp_cell (K.2.2.2.1 0) (n0, .inl fun j => Int32.ofInt (rd M x j))) := hR.1 x.toNat _ hwx
    have hc1 : H[K.1 + y.toNat]? = some (vp_cell (K.2.2.2.1 0) (n1, .inl fun j => Int32.ofInt (rd M y j))) := hR.1 y.toNat _ hwy
    obtain ⟨-, k0, hk0, cm0, hkk0⟩ := (hK.2 0 _ rfl).1 n0 (fun j => .int (Int32.ofInt (rd M x j)))
    obtain ⟨-, k1, hk1, cm1, hkk1⟩ := (hK.2 0 _ rfl).1 n1 (fun j => .int (Int32.ofInt (rd M y j)))
    obtain ⟨vm', X', step⟩ := X.arraycopy hxx hown (hts _ w1) (hts _ w2) (hts _ w3) (hts _ w4) (cs := vp_cell (K.2.2.2.1 0) (n0, .inl fun j => Int32.ofInt (rd M x j))) (cd := vp_cell (K.2.2.2.1 0) (n1, .inl fun j => Int32.ofInt (rd M y j))) (srcPos := Int32.ofInt sp) (destPos := Int32.ofInt dp) (n := Int32.ofInt n) (by rw [hT]; exact hc0) (by rw [hT]; exact hc1)
      (fun _ h => by cases h) (fun _ h => by cases h) (fun h => by cases h) (fun h => by cases h) hk0 hk1 hkk0 hkk1 (by rfl) (fun c9 => by have := (z32_lt osp).mp c9; omega) (fun c9 => by have := (z32_lt odp).mp c9; omega) (fun c9 => by have := (z32_lt on).mp c9; omega)
      (by rw [i32_tt osp, i32_tt on]; show ¬ _ > ((arrV _ n0 _).slots.size : Int); rw [arrV_size]; omega)
      (by rw [i32_tt odp, i32_tt on]; show ¬ _ > ((arrV _ n1 _).slots.size : Int); rw [arrV_size]; omega)
      (fun vm₁ _ i hi => by
        rw [cn] at hi
        have e : (vp_cell (K.2.2.2.1 0) (n0, .inl fun j => Int32.ofInt (rd M x j))).slots.getD ((Int32.ofInt sp).toNatClampNeg + i) .null = .int (Int32.ofInt (rd M x (((Int32.ofInt sp).toNatClampNeg + i : Nat) : Int))) := by
          show (arrV _ n0 (fun j => .int (Int32.ofInt (rd M x j)))).slots.getD _ _ = _
          rw [Array.getD_eq_getD_getElem?, arrV_read _ _ (by rw [csp]; omega)]
          rfl
        rw [e]
        exact ⟨rfl, trivial⟩)
      (g := F0 mid pc lsA (.int (Int32.ofInt n) :: .int (Int32.ofInt dp) :: .ref (K.1 + y.toNat) :: .int (Int32.ofInt sp) :: .ref (K.1 + x.toNat) :: st.map (e_val K))) rfl (by show lsA.size = c.maxLocals; rw [hlv.1, hml]) (rest := st.map (e_val K)) rfl (by rw [hb]; exact hd) (by omega) (by show 2 * 0 + _ + _ ≤ _; rw [e_vcats]; have h60 : nativeFrameWords "java/lang/System" "arraycopy" 5 + 11 ≤ 60 := (by decide +kernel); omega)
    have e1 : copied (vp_cell (K.2.2.2.1 0) (n0, .inl fun j => Int32.ofInt (rd M x j))) (vp_cell (K.2.2.2.1 0) (n1, .inl fun j => Int32.ofInt (rd M y j))) (Int32.ofInt sp) (Int32.ofInt dp) (Int32.ofInt n) = vp_cell (K.2.2.2.1 0) (n1, .inl fun j => Int32.ofInt (rd (cpy M x y sp dp n) y j)) := by
      have e2 := va_copied (sp := (Int32.ofInt sp).toNatClampNeg) (dp := (Int32.ofInt dp).toNatClampNeg) (n := (Int32.ofInt n).toNatClampNeg) (fun z => Value.int z) (K.2.2.2.1 0) (K.2.2.2.1 0) (n0 := n0) (n1 := n1) (fun j => Int32.ofInt (rd M x j)) (fun j => Int32.ofInt (rd M y j)) (by rw [csp, cn]; omega)
      refine Eq.trans e2 ?_
      rw [vp_cell_i]
      congr 1
      funext j
      rw [csp, cdp, cn]
      unfold va_cpy
      rw [rd_cpy]
      by_cases c9 : dp.toNat ≤ j ∧ j < dp.toNat + n.toNat
      · rw [if_pos c9, if_pos ⟨rfl, by omega, by omega⟩]
        show Value.int (Int32.ofInt (rd M x ((sp.toNat + (j - dp.toNat) : Nat) : Int))) = _
        rw [show ((sp.toNat + (j - dp.toNat) : Nat) : Int) = sp + ((j : Int) - dp) by omega]
      · rw [if_neg c9, if_neg (by omega)]
    rw [e1] at X' step
    have hl : K.1 + y.toNat < H.size := (Array.getElem?_eq_some_iff.mp hc1).1
    have hheap : ((T.setVm vm').setCell (K.1 + y.toNat) (vp_cell (K.2.2.2.1 0) (n1, .inl fun j => Int32.ofInt (rd (cpy M x y sp dp n) y j)))).heap = H.setIfInBounds (K.1 + y.toNat) (vp_cell (K.2.2.2.1 0) (n1, .inl fun j => Int32.ofInt (rd (cpy M x y sp dp n) y j))) := by rw [← hT]; rfl
    have oq : ∀ q : Nat, q ≠ K.1 + y.toNat → (H.setIfInBounds (K.1 + y.toNat) (vp_cell (K.2.2.2.1 0) (n1, .inl fun j => Int32.ofInt (rd (cpy M x y sp dp n) y j))))[q]? = H[q]? := fun q hq => by simp [Array.getElem?_setIfInBounds, Ne.symm hq]
    have hR2 : e_R K (cpy M x y sp dp n) (H.setIfInBounds (K.1 + y.toNat) (vp_cell (K.2.2.2.1 0) (n1, .inl fun j => Int32.ofInt (rd (cpy M x y sp dp n) y j)))) := by
      refine e_put hR hy rfl rfl (fun z j hz => by rw [rd_cpy, if_neg (by omega)]) (by simp) oq ?_
      rw [e_ent_i K (M := cpy M x y sp dp n) ht1]
      show (H.setIfInBounds (K.1 + y.toNat) _)[K.1 + y.toNat]? = some _
      simp [Array.getElem?_setIfInBounds, hl]
    obtain ⟨t, a1, b1⟩ := kk _ _ hR2 ⟨by simp; exact hS.1, fun q g1 g2 => by
        rw [oq q (fun e => g2 (by rw [e]; exact Nat.le_add_right _ _))]
        exact hS.2.1 q g1 g2, fun q hq => by
        rcases List.mem_append.mp hq with h | h
        · exact hS.2.2 q h
        · obtain ⟨z, -, hz⟩ := List.mem_map.mp h
          rw [← hz]
          exact Nat.le_add_right _ _⟩ _ hheap X'
    exact ⟨t, step t a1, b1⟩
/-- an int array outside: number i, of L ints f -/
def e_ext (K : EC) (i L : Nat) (f : Int → Int) : Prop := K.2.1 i < K.1 ∧ (∀ j : Int, e_ok (0, f j)) ∧ ∀ s : State, K.2.2.2.2 s → ∃ cell : Cell, s.heap[K.2.1 i]? = some cell ∧ s.isArrayOf cell .int ∧ cell.vm ≠ .unknown ∧ cell.slots.size = L ∧ ∀ j : Nat, j < L → cell.slots[j]? = some (.int (Int32.ofInt (f j)))
theorem e_xref (K : EC) (i : Nat) : e_val K (2, -2 - (i : Int)) = .ref (K.2.1 i) := by
  show e_adr K (-2 - (i : Int)) = _
  unfold e_adr
  rw [if_neg (by omega), if_pos (by omega), show (-(-2 - (i : Int)) - 2).toNat = i by omega]
theorem Tr.xld {i L : Nat} {f : Int → Int} {x j : Int} (hd : decode m.2.2.1 pc = .ok (.iaload, 1)) (hx : x = -2 - (i : Int)) (he : e_ext K i L f) (h0 : 0 ≤ j) (h1 : j < L) (k : Tr l K d m (pc + 1) ls ((0, f j) :: st) M Q) : Tr l K d m pc ls ((0, j) :: (2, x) :: st) M Q := by
  subst hx
  refine Tr.up (fun _ _ h => Ends.sk (fun hM hst hls => oks_c (he.2.1 j) (oks_t (oks_t hst))) (fun p e R s mid args below meth c H locs cells slots lsA Q hX hf hg hR hM hst hls hS hlv kk => ?_) h) k
  obtain ⟨hxx, hb, hml, hr, hown, hts, hlk0, hname, hK, hb0, hex, hclo⟩ := hX
  show W p l e R s mid args below meth c H locs cells slots Q (F0 mid pc lsA (e_val K (0, j) :: e_val K (2, -2 - (i : Int)) :: st.map (e_val K)))
  rw [e_xref]
  obtain ⟨cell, g1, g2, g3, g4, g5⟩ := he.2.2 s hex
  have hlt := he.1
  have hjj := i32_cl h0 (oks_h hst).i.2
  have gv := g5 j.toNat (by omega)
  rw [Int.toNat_of_nonneg h0] at gv
  exact W.iald (j := Int32.ofInt j) (v := .int (Int32.ofInt (f j))) hxx hb (by rw [hS.2.1 _ (Nat.lt_of_lt_of_le hlt hb0) (Nat.not_le.mpr hlt)]; exact g1) g2 g3 (by rw [g4]; exact i32_in (oks_h hst) h0 h1) (by rw [hjj]; exact gv) rfl rfl hd kk
theorem Tr.xlen {i L : Nat} {f : Int → Int} {x : Int} (hd : decode m.2.2.1 pc = .ok (.arraylength, 1)) (hx : x = -2 - (i : Int)) (he : e_ext K i L f) (hL : L ≤ 2147483647) (k : Tr l K d m (pc + 1) ls ((0, (L : Int)) :: st) M Q) : Tr l K d m pc ls ((2, x) :: st) M Q := by
  subst hx
  refine Tr.up (fun _ _ h => Ends.sk (fun hM hst hls => oks_c (ok0 (by omega)) (oks_t hst)) (fun p e R s mid args below meth c H locs cells slots lsA Q hX hf hg hR hM hst hls hS hlv kk => ?_) h) k
  obtain ⟨hxx, hb, hml, hr, hown, hts, hlk0, hname, hK, hb0, hex, hclo⟩ := hX
  show W p l e R s mid args below meth c H locs cells slots Q (F0 mid pc lsA (e_val K (2, -2 - (i : Int)) :: st.map (e_val K)))
  rw [e_xref]
  obtain ⟨cell, g1, g2, g3, g4, g5⟩ := he.2.2 s hex
  have hlt := he.1
  refine W.alen (n := Int32.ofInt (L : Int)) hxx hb (by rw [hS.2.1 _ (Nat.lt_of_lt_of_le hlt hb0) (Nat.not_le.mpr hlt)]; exact g1) g2 (by rw [g4]; first | rfl | exact Int32.ofInt_eq_ofNat.symm | simp) rfl rfl hd kk
end CALL
