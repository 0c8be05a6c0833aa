/-! what lies outside the cells: statics, objects and rows that nobody writes -/
section EXTR
variable {l : Launch} {K : EC} {d : Nat} {m : MD} {pc : Nat} {ls : List (Nat × PV)} {st st0 : List PV} {M : Mem} {Q : Mem → Option PV → Prop}
/-- a static that holds v -/
def e_Z (K : EC) (C n dd : String) (v : PV) : Prop := e_ok v ∧ ∀ s : State, K.2.2.2.2 s → va_Z C n dd (e_val K v) (e_A K) s s.heap
theorem Tr.gets {idx : Nat} {C n dd : String} {v : PV} (hd : decode m.2.2.1 pc = .ok (.getstatic idx, 3)) (hl : Cond.fieldLink (e_cn m.1) idx C n dd ∈ tblG) (hz : e_Z K C n dd v) (k : Tr l K d m (pc + 3) ls (v :: st) M Q) : Tr l K d m pc ls st M Q := by
  refine Tr.up (fun _ _ h => Ends.sk (fun hM hst hls => oks_c hz.1 hst) (fun p e R s mid args below meth c H locs cells slots lsA Q hX hf hg hR hM hst hls hS hlv kk => ?_) h) k
  obtain ⟨hxx, hb, hml, hr, hown, hts, hlk0, hname, hK, hb0, hex, hclo⟩ := hX
  exact va_gets hxx hb (hz.2 s hex) hS hown (hts _ hl) (fun _ h => h) hd kk
/-- number i outside is an object of the class C -/
def e_xO (K : EC) (i : Nat) (C : String) : Prop := ∀ s : State, K.2.2.2.2 s → va_O C (K.2.1 i) (e_A K) s s.heap
/-- its field holds v -/
def e_xF (K : EC) (i : Nat) (C n dd : String) (v : PV) : Prop := e_ok v ∧ ∀ s : State, K.2.2.2.2 s → va_OF C n dd (e_val K v) (K.2.1 i) (e_A K) s s.heap
theorem Tr.xgetf {idx i : Nat} {C n dd : String} {v : PV} {x : Int} (hd : decode m.2.2.1 pc = .ok (.getfield idx, 3)) (hx : x = -2 - (i : Int)) (hl : Cond.fieldLink (e_cn m.1) idx C n dd ∈ tblG) (hz : e_xF K i C n dd v) (k : Tr l K d m (pc + 3) ls (v :: st) M Q) : Tr l K d m pc ls ((2, x) :: st) M Q := by
  subst hx
  refine Tr.up (fun _ _ h => Ends.sk (fun hM hst hls => oks_c hz.1 (oks_t hst)) (fun p e R s mid args below meth c H locs cells slots lsA Q hX hf hg hR hM hst hls hS hlv kk => ?_) h) k
  obtain ⟨hxx, hb, hml, hr, hown, hts, hlk0, hname, hK, hb0, hex, hclo⟩ := hX
  show W p l e R s mid args below meth c H locs cells slots Q (F0 mid pc lsA (e_val K (2, -2 - (i : Int)) :: st.map (e_val K)))
  rw [e_xref]
  exact vk_getf hxx hb (hz.2 s hex) hS hown (hts _ hl) (fun _ h => h) hd kk
/-- number i outside is a row of L bytes f -/
def e_xB (K : EC) (i L : Nat) (f : Int → Int) : Prop := (∀ j : Int, e_ok (0, f j)) ∧ ∀ s : State, K.2.2.2.2 s → va_T .byte (K.2.1 i) L (fun j => .int (Int32.ofInt (f (j : Int)))) (e_A K) s s.heap
theorem Tr.xbld {i L : Nat} {f : Int → Int} {x j : Int} (hd : decode m.2.2.1 pc = .ok (.baload, 1)) (hx : x = -2 - (i : Int)) (he : e_xB K i L f) (h0 : 0 ≤ j) (h1 : j < L) (k : Tr l K d m (pc + 1) ls ((0, f j) :: st) M Q) : Tr l K d m pc ls ((0, j) :: (2, x) :: st) M Q := by
  subst hx
  refine Tr.up (fun _ _ h => Ends.sk (fun hM hst hls => oks_c (he.1 j) (oks_t (oks_t hst))) (fun p e R s mid args below meth c H locs cells slots lsA Q hX hf hg hR hM hst hls hS hlv kk => ?_) h) k
  obtain ⟨hxx, hb, hml, hr, hown, hts, hlk0, hname, hK, hb0, hex, hclo⟩ := hX
  show W p l e R s mid args below meth c H locs cells slots Q (F0 mid pc lsA (e_val K (0, j) :: e_val K (2, -2 - (i : Int)) :: st.map (e_val K)))
  rw [e_xref]
  obtain ⟨cell, g1, g2, g3, g4, g5, g6, g7⟩ := he.2 s hex
  have hjj := i32_cl h0 (oks_h hst).i.2
  have gv : cell.slots[j.toNat]? = some (.int (Int32.ofInt (f (j.toNat : Int)))) := g6 j.toNat (by omega)
  rw [Int.toNat_of_nonneg h0] at gv
  exact W.bald (j := Int32.ofInt j) (v := .int (Int32.ofInt (f j))) hxx hb (by rw [hS.2.1 _ (Array.getElem?_eq_some_iff.mp g1).1 g7]; exact g1) g2 g3 (fun c => i32_in (oks_h hst) h0 h1 (c.imp id (fun c2 => Nat.le_trans g4 c2))) (by rw [hjj]; exact gv) rfl rfl hd kk
theorem Tr.xblen {i L : Nat} {f : Int → Int} {x : Int} (hd : decode m.2.2.1 pc = .ok (.arraylength, 1)) (hx : x = -2 - (i : Int)) (he : e_xB K i L f) (hL : L ≤ 2147483647) (k : Tr l K d m (pc + 1) ls ((0, (L : Int)) :: st) M Q) : Tr l K d m pc ls ((2, x) :: st) M Q := by
  subst hx
  refine Tr.up (fun _ _ h => Ends.sk (fun hM hst hls => oks_c (ok0 (by omega)) (oks_t hst)) (fun p e R s mid args below meth c H locs cells slots lsA Q hX hf hg hR hM hst hls hS hlv kk => ?_) h) k
  obtain ⟨hxx, hb, hml, hr, hown, hts, hlk0, hname, hK, hb0, hex, hclo⟩ := hX
  show W p l e R s mid args below meth c H locs cells slots Q (F0 mid pc lsA (e_val K (2, -2 - (i : Int)) :: st.map (e_val K)))
  rw [e_xref]
  obtain ⟨cell, g1, g2, g3, g4, g5, g6, g7⟩ := he.2 s hex
  refine W.alen (n := Int32.ofInt (L : Int)) hxx hb (by rw [hS.2.1 _ (Array.getElem?_eq_some_iff.mp g1).1 g7]; exact g1) g2 (by first | exact g5.trans Int32.ofInt_eq_ofNat.symm | (rw [g5]; first | rfl | exact Int32.ofInt_eq_ofNat.symm | simp)) rfl rfl hd kk
/-- a String constant, number i outside -/
theorem Tr.ldcs {idx i : Nat} {tx : String} (hd : decode m.2.2.1 pc = .ok (.ldc idx, 2)) (hz : ∀ s : State, K.2.2.2.2 s → vk_R (e_cn m.1) idx tx (K.2.1 i) s) (k : Tr l K d m (pc + 2) ls ((2, -2 - (i : Int)) :: st) M Q) : Tr l K d m pc ls st M Q := by
  refine Tr.up (fun _ _ h => Ends.sk (fun hM hst hls => oks_c (ok2 _) hst) (fun p e R s mid args below meth c H locs cells slots lsA Q hX hf hg hR hM hst hls hS hlv kk => ?_) h) k
  obtain ⟨hxx, hb, hml, hr, hown, hts, hlk0, hname, hK, hb0, hex, hclo⟩ := hX
  refine va_ldcS hxx hb hown (hz s hex) hd ?_
  have h9 : e_val K (2, -2 - (i : Int)) = .ref (K.2.1 i) := e_xref K i
  rw [← h9]
  exact kk
/-- a call of an object outside -/
def e_siteX (cn idx : Nat) (y : MD) : Prop := Cond.methodLink (e_cn cn) idx y.2.1 ∈ tblG ∧ Cond.instanceMethod y.2.1 ∈ tblG ∧ Cond.selects y.2.1.cls y.2.1 y.2.1 ∈ tblG
theorem Tr.callX {y : MD} {n idx i : Nat} {as : List PV} {x : Int} (hd : decode m.2.2.1 pc = .ok (.invokevirtual idx, 3)) (hs : e_siteX m.1 idx y) (hy : e_m y n) (hn : as.length = n) (hst : as.reverse ++ (2, x) :: st = st0) (hcat : e_cat st ≤ 8) (ha : e_cat as + 1 ≤ y.2.2.2.1) (hx : x = -2 - (i : Int)) (ho : e_xO K i y.2.1.cls)
    (k : Tr l K d y 0 (e_args 0 ((2, x) :: as)) [] M (fun M1 r1 => Tr l K (d + 1) m (pc + 3) ls (r1.toList ++ st) M1 Q)) : Tr l K (d + 1) m pc ls st0 M Q := by
  subst hst
  subst hx
  obtain ⟨M1, r1, ⟨M', r, hq, h⟩, hcall⟩ := k
  have okas : oks (as.reverse ++ (2, -2 - (i : Int)) :: st) → oks ((2, -2 - (i : Int)) :: as) := fun hs => oks_c (ok2 _) fun v hv => hs v (List.mem_append_left _ (List.mem_reverse.mpr hv))
  have okst : oks (as.reverse ++ (2, -2 - (i : Int)) :: st) → oks st := fun hs v hv => hs v (List.mem_append_right _ (List.mem_cons_of_mem _ hv))
  refine ⟨M', r, hq, Ends.call (a := (Value.ref (K.2.1 i) :: as.map (e_val K)).toArray) hcall.1 hcall.2.1 (fun hM hs => hcall.2.2.1 hM (fun v hv => by cases hv) (e_args_ok (okas hs) 0)) okst ?_ h⟩
  intro p e R s mid args below meth c H locs cells slots lsA hX hf hl hR hM hst9 hS hsz hcE hsE hbH
  obtain ⟨hxx, hb, hml, hr, hown, hts, hlk0, hname, hK, hb0, hex, hclo⟩ := hX
  obtain ⟨s1, s2, s3⟩ := hs
  have hM9 := e_met hclo hy (as := (2, -2 - (i : Int)) :: as) (by show e_cat ((2, -2 - (i : Int)) :: as) ≤ _; rw [show e_cat ((2, -2 - (i : Int)) :: as) = 1 + e_cat as from by simp [e_cat, e_ct]]; omega) hM (okas hst9) hcall
  obtain ⟨cell, o1, o2, o3, o4⟩ := ho s hex
  have hrecv : ∃ cell : Cell, H[K.2.1 i]? = some cell ∧ cell.vm.isStatics = false ∧ s.vm.findClass y.2.1.cls = some cell.cls := ⟨cell, by rw [hS.2.1 _ (Array.getElem?_eq_some_iff.mp o1).1 o4]; exact o1, o2, o3⟩
  have e9 : (((2, -2 - (i : Int)) :: as : List PV).map (e_val K)) = .ref (K.2.1 i) :: as.map (e_val K) := by rw [List.map_cons, e_xref]
  refine va_runV (C := y.2.1.cls) (b := K.2.1 i) (As := as.map (e_val K)) (Ts := tblG) (n := n) ⟨hxx, hb, hml, hown, hts⟩ hM9 (cwV n hts (tblG_good ?_) rfl rfl rfl ⟨rfl, hy.2.2.2.2.1⟩ ⟨hf, by have := hy.2.2.2.2.2; show 8 + (y.2.2.2.1 + 11) + 70 * d ≤ R.locals; omega⟩) ⟨e_blind K hclo M _, hrecv, fun U hU hW => ⟨by rw [e9], by rw [hU]; exact hR, va_K.moved hW.alike hK, by rw [hU]; exact hbH, hclo s U hW (fun q hq => by rw [hU]; exact hS.2.1 q (Nat.lt_of_lt_of_le hq hb0) (Nat.not_le.mpr hq)) hex⟩⟩ rfl (by rw [List.length_map]; exact hn) hsz ?_ (lv_room (by rw [e_vcats]; exact hcat)) hd ⟨hcE, hsE⟩
  · intro w hw
    rcases List.mem_append.mp hw with h | h
    · simp only [List.mem_cons, List.not_mem_nil, or_false] at h
      rcases h with rfl | rfl | rfl | rfl
      · exact s1
      · exact s2
      · exact s3
      · exact hy.2.2.2.1
    · exact (e_goodws y hy w h).1
  · show (as.reverse ++ (2, -2 - (i : Int)) :: st).map (e_val K) = _
    rw [List.map_append, List.map_cons, e_xref, List.map_reverse]
end EXTR
/-! all of it as one hypothesis -/
def xT (q : List Int) (j : Int) : Int := q.getD j.toNat 0
theorem xT_b {q : List Int} {lo hi : Int} (h : q.all (fun z => decide (lo ≤ z ∧ z ≤ hi)) = true) (h0 : lo ≤ 0 ∧ 0 ≤ hi) (j : Int) : lo ≤ xT q j ∧ xT q j ≤ hi := by
  unfold xT
  rw [List.getD_eq_getElem?_getD]
  cases hq : q[j.toNat]? with
  | none => exact h0
  | some z =>
    have h1 := List.all_eq_true.mp h z (List.mem_of_getElem? hq)
    simpa using h1
def xr_1 : List Int := [6, 3, 6]
def xr_2 : List Int := [0, 6, 9]
def xr_3 : List Int := [1, 1, 2, 6, 24, 120, 720, 5040, 40320]
def xr_5 : List Int := [104, 101, 97, 114, 116, 32, 99, 97, 99, 104, 101, 32, 112, 97, 114, 116, 32, 32, 105, 110, 112, 117, 116, 32, 118, 97, 114, 32, 32, 32, 115, 101, 116, 32, 32, 32, 117, 115, 101, 32, 32, 32, 104, 111, 108, 100, 32, 32, 102, 114, 101, 101, 32, 32, 119, 97, 105, 116, 32, 32, 116, 111, 117, 99, 104, 32, 105, 102, 32, 32, 32, 32, 119, 104, 105, 108, 101, 32, 101, 108, 115, 101, 32, 32, 115, 108, 101, 101, 112, 32, 119, 97, 107, 101, 32, 32, 111, 110, 32, 32, 32, 32, 119, 111, 114, 107, 32, 32, 116, 97, 105, 108, 32, 32, 111, 114, 32, 32, 32, 32, 97, 110, 100, 32, 32, 32, 110, 111, 116, 32, 32, 32, 97, 108, 108, 32, 32, 32, 104, 101, 108, 100, 32, 32, 116, 105, 99, 107, 32, 32, 109, 105, 110, 32, 32, 32, 109, 97, 120, 32, 32, 32]
def xr_7 : List Int := [59, 123, 125, 61, 60, 62, 43, 45, 42, 47, 37, 40, 41, 91, 93, 44]
def e_all (K : EC) (xq : Int) : Prop := (e_ext K 1 3 (xT xr_1)) ∧ (e_ext K 2 3 (xT xr_2)) ∧ (e_ext K 3 9 (xT xr_3)) ∧ (e_Z K "SipMeter$Machine" "MOST" "[I" (2, -3)) ∧ (e_Z K "SipMeter$Machine" "FIRST_NAME" "[I" (2, -4)) ∧ (e_Z K "SipMeter$Turns" "FACTORIALS" "[I" (2, -5)) ∧ (e_Z K "java/lang/String" "COMPACT_STRINGS" "Z" (0, 1)) ∧ (e_Z K "jdk/internal/util/Preconditions" "SIOOBE_FORMATTER" "Ljava/util/function/BiFunction;" (2, xq)) ∧ (e_xO K 4 "java/lang/String") ∧ (e_xF K 4 "java/lang/String" "coder" "B" (0, 0)) ∧ (e_xF K 4 "java/lang/String" "value" "[B" (2, -7)) ∧ (e_xO K 6 "java/lang/String") ∧ (e_xF K 6 "java/lang/String" "coder" "B" (0, 0)) ∧ (e_xF K 6 "java/lang/String" "value" "[B" (2, -9)) ∧ (e_xB K 5 162 (xT xr_5)) ∧ (e_xB K 7 16 (xT xr_7)) ∧ (∀ s : State, K.2.2.2.2 s → vk_R (e_cn 7) 57 ";{}=<>+-*/%()[]," (K.2.1 6) s) ∧ (∀ s : State, K.2.2.2.2 s → vk_R (e_cn 7) 72 "heart cache part  input var   set   use   hold  free  wait  touch if    while else  sleep wake  on    work  tail  or    and   not   all   held  tick  min   max   " (K.2.1 4) s)
