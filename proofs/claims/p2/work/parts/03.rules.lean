/-! a row an instruction -/
theorem oks_c {v : PV} {st : List PV} (hv : e_ok v) (h : oks st) : oks (v :: st) := fun w hw => by
  rcases List.mem_cons.mp hw with rfl | hw
  · exact hv
  · exact h w hw
theorem oks_t {v : PV} {st : List PV} (h : oks (v :: st)) : oks st := fun w hw => h w (List.mem_cons_of_mem _ hw)
theorem oks_h {v : PV} {st : List PV} (h : oks (v :: st)) : e_ok v := h v List.mem_cons_self
theorem e_adr_c (K : EC) (a : Int) : e_val K (2, a) = .null ∨ ∃ x : Nat, e_val K (2, a) = .ref x := by
  show e_adr K a = .null ∨ ∃ x : Nat, e_adr K a = .ref x
  unfold e_adr
  split
  · exact Or.inl rfl
  · split
    · exact Or.inr ⟨_, rfl⟩
    · exact Or.inr ⟨_, rfl⟩
def w8 (x : Int) : Int := (x + 128) % 256 - 128
theorem i32_w8 (x : Int) : (Int32.ofInt x).toInt8.toInt32 = Int32.ofInt (w8 x) := by
  rw [← Int32.toInt_inj, Int8.toInt_toInt32, Int32.toInt_toInt8, i32_t, i32_t]
  unfold w32 w8
  rw [Int.bmod_def]
  split <;> omega
def f_iand (a b : Int) : Int := (Int32.ofInt a &&& Int32.ofInt b).toInt
def f_ior (a b : Int) : Int := (Int32.ofInt a ||| Int32.ofInt b).toInt
def f_ixor (a b : Int) : Int := (Int32.ofInt a ^^^ Int32.ofInt b).toInt
def f_ishl (a b : Int) : Int := (Int32.ofInt a <<< (Int32.ofInt b &&& 31)).toInt
def f_ishr (a b : Int) : Int := (Int32.ofInt a >>> (Int32.ofInt b &&& 31)).toInt
def f_land (a b : Int) : Int := (Int64.ofInt a &&& Int64.ofInt b).toInt
def f_lor (a b : Int) : Int := (Int64.ofInt a ||| Int64.ofInt b).toInt
def f_lshl (a b : Int) : Int := (Int64.ofInt a <<< ((Int32.ofInt b).toInt64 &&& 63)).toInt
def f_lshr (a b : Int) : Int := (Int64.ofInt a >>> ((Int32.ofInt b).toInt64 &&& 63)).toInt
def f_lushr (a b : Int) : Int := ((Int64.ofInt a).toUInt64 >>> ((Int32.ofInt b).toInt64.toUInt64 &&& Int64.toUInt64 63)).toInt64.toInt
def f_lcmp (a b : Int) : Int := if b < a then 1 else if a = b then 0 else -1
theorem lcmp_e {a b : Int} (ha : e_ok (1, a)) (hb : e_ok (1, b)) : lg_cmp (Int64.ofInt a) (Int64.ofInt b) = Int32.ofInt (f_lcmp a b) := by
  unfold lg_cmp f_lcmp
  by_cases h : b < a
  · rw [if_pos ((i64_lt hb ha).mpr h), if_pos h]
    rfl
  · rw [if_neg (fun c => h ((i64_lt hb ha).mp c)), if_neg h]
    by_cases g : a = b
    · rw [if_pos ((i64_eq ha hb).mpr g), if_pos g]
      rfl
    · rw [if_neg (fun c => g ((i64_eq ha hb).mp c)), if_neg g]
      rfl
theorem f_lcmp_ok (a b : Int) : e_ok (0, f_lcmp a b) := by
  unfold f_lcmp
  refine ok0 ?_
  split
  · omega
  · split <;> omega
theorem z32_eq {a : Int} (ha : e_ok (0, a)) : Int32.ofInt a = 0 ↔ a = 0 := i32_eq (b := 0) ha (ok0 (by omega))
theorem z64_eq {a : Int} (ha : e_ok (1, a)) : Int64.ofInt a = 0 ↔ a = 0 := i64_eq (b := 0) ha (ok1 (by omega))
theorem z32_lt {a : Int} (ha : e_ok (0, a)) : Int32.ofInt a < 0 ↔ a < 0 := i32_lt (b := 0) ha (ok0 (by omega))
theorem z32_gt {a : Int} (ha : e_ok (0, a)) : 0 < Int32.ofInt a ↔ 0 < a := i32_lt (a := 0) (ok0 (by omega)) ha
theorem z32_le {a : Int} (ha : e_ok (0, a)) : Int32.ofInt a ≤ 0 ↔ a ≤ 0 := i32_le (b := 0) ha (ok0 (by omega))
theorem z32_ge {a : Int} (ha : e_ok (0, a)) : 0 ≤ Int32.ofInt a ↔ 0 ≤ a := i32_le (a := 0) (ok0 (by omega)) ha
section RULES
variable {l : Launch} {K : EC} {d : Nat} {m : MD} {pc : Nat} {ls ls2 : List (Nat × PV)} {st : List PV} {M : Mem} {Q : Mem → Option PV → Prop}

theorem Tr.iconst {n : Int} (hd : decode m.2.2.1 pc = .ok (.iconst n, 1)) (hn : -2147483648 ≤ n ∧ n ≤ 2147483647) (k : Tr l K d m (pc + 1) ls ((0, n) :: st) M Q) : Tr l K d m pc ls (st) M Q :=
  Tr.up (fun _ _ => Ends.sk (fun hM hst hls => oks_c (ok0 hn) hst) (fun p e R s mid args below meth c H locs cells slots lsA Q hX hf hg hR hM hst hls hS hlv k => lv_iconst (v := Int32.ofInt n) hX.1 hX.2.1 hd rfl k)) k
theorem Tr.bipush {n : Int} (hd : decode m.2.2.1 pc = .ok (.bipush n, 2)) (hv : (Int8.ofInt n).toInt32 = Int32.ofInt n) (hn : -2147483648 ≤ n ∧ n ≤ 2147483647) (k : Tr l K d m (pc + 2) ls ((0, n) :: st) M Q) : Tr l K d m pc ls (st) M Q :=
  Tr.up (fun _ _ => Ends.sk (fun hM hst hls => oks_c (ok0 hn) hst) (fun p e R s mid args below meth c H locs cells slots lsA Q hX hf hg hR hM hst hls hS hlv k => lv_bipush (v := Int32.ofInt n) hX.1 hX.2.1 hd hv k)) k
theorem Tr.sipush {n : Int} (hd : decode m.2.2.1 pc = .ok (.sipush n, 3)) (hv : (Int16.ofInt n).toInt32 = Int32.ofInt n) (hn : -2147483648 ≤ n ∧ n ≤ 2147483647) (k : Tr l K d m (pc + 3) ls ((0, n) :: st) M Q) : Tr l K d m pc ls (st) M Q :=
  Tr.up (fun _ _ => Ends.sk (fun hM hst hls => oks_c (ok0 hn) hst) (fun p e R s mid args below meth c H locs cells slots lsA Q hX hf hg hR hM hst hls hS hlv k => lv_sipush (v := Int32.ofInt n) hX.1 hX.2.1 hd hv k)) k
theorem Tr.lconst {n : Fin 2} {v : Int} (hd : decode m.2.2.1 pc = .ok (.lconst n, 1)) (hv : Int64.ofNat (n : Nat) = Int64.ofInt v) (hn : -9223372036854775808 ≤ v ∧ v ≤ 9223372036854775807) (k : Tr l K d m (pc + 1) ls ((1, v) :: st) M Q) : Tr l K d m pc ls (st) M Q :=
  Tr.up (fun _ _ => Ends.sk (fun hM hst hls => oks_c (ok1 hn) hst) (fun p e R s mid args below meth c H locs cells slots lsA Q hX hf hg hR hM hst hls hS hlv k => lv_lconst (v := Int64.ofInt v) hX.1 hX.2.1 hd hv k)) k
theorem Tr.ldc {idx : Nat} {v : Int} (hd : decode m.2.2.1 pc = .ok (.ldc idx, 2)) (hc : Jvm.Cond.constant (e_cn m.1) idx (Int32.ofInt v) ∈ tblG) (hn : -2147483648 ≤ v ∧ v ≤ 2147483647) (k : Tr l K d m (pc + 2) ls ((0, v) :: st) M Q) : Tr l K d m pc ls (st) M Q :=
  Tr.up (fun _ _ => Ends.sk (fun hM hst hls => oks_c (ok0 hn) hst) (fun p e R s mid args below meth c H locs cells slots lsA Q hX hf hg hR hM hst hls hS hlv k => lv_ldc (v := Int32.ofInt v) hX.1 hX.2.1 hX.2.2.2.2.1 (hX.2.2.2.2.2.1 _ hc) hd k)) k
theorem Tr.ldcw {idx : Nat} {v : Int} (hd : decode m.2.2.1 pc = .ok (.ldc_w idx, 3)) (hc : Jvm.Cond.constant (e_cn m.1) idx (Int32.ofInt v) ∈ tblG) (hn : -2147483648 ≤ v ∧ v ≤ 2147483647) (k : Tr l K d m (pc + 3) ls ((0, v) :: st) M Q) : Tr l K d m pc ls (st) M Q :=
  Tr.up (fun _ _ => Ends.sk (fun hM hst hls => oks_c (ok0 hn) hst) (fun p e R s mid args below meth c H locs cells slots lsA Q hX hf hg hR hM hst hls hS hlv k => lv_ldcw (v := Int32.ofInt v) hX.1 hX.2.1 hX.2.2.2.2.1 (hX.2.2.2.2.2.1 _ hc) hd k)) k
theorem Tr.ldc2 {idx : Nat} {v : Int} (hd : decode m.2.2.1 pc = .ok (.ldc2_w idx, 3)) (hc : Jvm.Cond.constantLong (e_cn m.1) idx (Int64.ofInt v) ∈ tblG) (hn : -9223372036854775808 ≤ v ∧ v ≤ 9223372036854775807) (k : Tr l K d m (pc + 3) ls ((1, v) :: st) M Q) : Tr l K d m pc ls (st) M Q :=
  Tr.up (fun _ _ => Ends.sk (fun hM hst hls => oks_c (ok1 hn) hst) (fun p e R s mid args below meth c H locs cells slots lsA Q hX hf hg hR hM hst hls hS hlv k => lv_ldc2 (v := Int64.ofInt v) hX.1 hX.2.1 hX.2.2.2.2.1 (hX.2.2.2.2.2.1 _ hc) hd k)) k
theorem Tr.iload_n {k0 : Fin 4} {i : Nat} {a : Int} (hd : decode m.2.2.1 pc = .ok (.iload_n k0, 1)) (hi : (k0 : Nat) = i) (hl : e_lk ls i = some (0, a)) (k : Tr l K d m (pc + 1) ls ((0, a) :: st) M Q) : Tr l K d m pc ls (st) M Q :=
  Tr.up (fun _ _ => Ends.sk (fun hM hst hls => oks_c (hls _ (e_lk_mem hl)) hst) (fun p e R s mid args below meth c H locs cells slots lsA Q hX hf hg hR hM hst hls hS hlv k => lv_iload_n hX.1 hX.2.1 hd hi (e_lk_at hlv hl) k)) k
theorem Tr.iload {i : Nat} {a : Int} (hd : decode m.2.2.1 pc = .ok (.iload i, 2)) (hl : e_lk ls i = some (0, a)) (k : Tr l K d m (pc + 2) ls ((0, a) :: st) M Q) : Tr l K d m pc ls (st) M Q :=
  Tr.up (fun _ _ => Ends.sk (fun hM hst hls => oks_c (hls _ (e_lk_mem hl)) hst) (fun p e R s mid args below meth c H locs cells slots lsA Q hX hf hg hR hM hst hls hS hlv k => lv_iload hX.1 hX.2.1 hd (e_lk_at hlv hl) k)) k
theorem Tr.lload_n {k0 : Fin 4} {i : Nat} {a : Int} (hd : decode m.2.2.1 pc = .ok (.lload_n k0, 1)) (hi : (k0 : Nat) = i) (hl : e_lk ls i = some (1, a)) (k : Tr l K d m (pc + 1) ls ((1, a) :: st) M Q) : Tr l K d m pc ls (st) M Q :=
  Tr.up (fun _ _ => Ends.sk (fun hM hst hls => oks_c (hls _ (e_lk_mem hl)) hst) (fun p e R s mid args below meth c H locs cells slots lsA Q hX hf hg hR hM hst hls hS hlv k => lv_lload_n hX.1 hX.2.1 hd hi (e_lk_at hlv hl) k)) k
theorem Tr.lload {i : Nat} {a : Int} (hd : decode m.2.2.1 pc = .ok (.lload i, 2)) (hl : e_lk ls i = some (1, a)) (k : Tr l K d m (pc + 2) ls ((1, a) :: st) M Q) : Tr l K d m pc ls (st) M Q :=
  Tr.up (fun _ _ => Ends.sk (fun hM hst hls => oks_c (hls _ (e_lk_mem hl)) hst) (fun p e R s mid args below meth c H locs cells slots lsA Q hX hf hg hR hM hst hls hS hlv k => lv_lload hX.1 hX.2.1 hd (e_lk_at hlv hl) k)) k
theorem Tr.aload_n {k0 : Fin 4} {i : Nat} {a : Int} (hd : decode m.2.2.1 pc = .ok (.aload_n k0, 1)) (hi : (k0 : Nat) = i) (hl : e_lk ls i = some (2, a)) (k : Tr l K d m (pc + 1) ls ((2, a) :: st) M Q) : Tr l K d m pc ls (st) M Q :=
  Tr.up (fun _ _ => Ends.sk (fun hM hst hls => oks_c (hls _ (e_lk_mem hl)) hst) (fun p e R s mid args below meth c H locs cells slots lsA Q hX hf hg hR hM hst hls hS hlv k => by
    rcases e_adr_c K a with h9 | ⟨x9, h9⟩
    · exact lv_aload_nN hX.1 hX.2.1 hd hi (by rw [← h9]; exact e_lk_at hlv hl) (by rw [← h9]; exact k)
    · exact lv_aload_n (x := x9) hX.1 hX.2.1 hd hi (by rw [← h9]; exact e_lk_at hlv hl) (by rw [← h9]; exact k))) k
theorem Tr.aload {i : Nat} {a : Int} (hd : decode m.2.2.1 pc = .ok (.aload i, 2)) (hl : e_lk ls i = some (2, a)) (k : Tr l K d m (pc + 2) ls ((2, a) :: st) M Q) : Tr l K d m pc ls (st) M Q :=
  Tr.up (fun _ _ => Ends.sk (fun hM hst hls => oks_c (hls _ (e_lk_mem hl)) hst) (fun p e R s mid args below meth c H locs cells slots lsA Q hX hf hg hR hM hst hls hS hlv k => by
    rcases e_adr_c K a with h9 | ⟨x9, h9⟩
    · exact lv_aloadN hX.1 hX.2.1 hd (by rw [← h9]; exact e_lk_at hlv hl) (by rw [← h9]; exact k)
    · exact lv_aload (x := x9) hX.1 hX.2.1 hd (by rw [← h9]; exact e_lk_at hlv hl) (by rw [← h9]; exact k))) k
theorem Tr.istore_n {k0 : Fin 4} {i : Nat} {a : Int} (hd : decode m.2.2.1 pc = .ok (.istore_n k0, 1)) (hi : (k0 : Nat) = i) (hn : i < m.2.2.2.1) (hls2 : e_s1 ls i (0, a) = ls2) (k : Tr l K d m (pc + 1) ls2 (st) M Q) : Tr l K d m pc ls ((0, a) :: st) M Q := by
  subst hls2
  exact Tr.up (fun _ _ => Ends.pu (fun hM hst hls => ⟨oks_t hst, e_s1_ok hls (oks_h hst)⟩) (fun p e R s mid args below meth c H locs cells slots lsA Q hX hf hg hR hM hst hls hS hlv k => lv_istore_n hX.1 hX.2.1 hd hi hlv hn (e_s1_map K ls i (0, a)) k)) k
theorem Tr.istore {i : Nat} {a : Int} (hd : decode m.2.2.1 pc = .ok (.istore i, 2)) (hn : i < m.2.2.2.1) (hls2 : e_s1 ls i (0, a) = ls2) (k : Tr l K d m (pc + 2) ls2 (st) M Q) : Tr l K d m pc ls ((0, a) :: st) M Q := by
  subst hls2
  exact Tr.up (fun _ _ => Ends.pu (fun hM hst hls => ⟨oks_t hst, e_s1_ok hls (oks_h hst)⟩) (fun p e R s mid args below meth c H locs cells slots lsA Q hX hf hg hR hM hst hls hS hlv k => lv_istore hX.1 hX.2.1 hd hlv hn (e_s1_map K ls i (0, a)) k)) k
theorem Tr.lstore_n {k0 : Fin 4} {i : Nat} {a : Int} (hd : decode m.2.2.1 pc = .ok (.lstore_n k0, 1)) (hi : (k0 : Nat) = i) (hn : i + 1 < m.2.2.2.1) (hls2 : e_s2 ls i (1, a) = ls2) (k : Tr l K d m (pc + 1) ls2 (st) M Q) : Tr l K d m pc ls ((1, a) :: st) M Q := by
  subst hls2
  exact Tr.up (fun _ _ => Ends.pu (fun hM hst hls => ⟨oks_t hst, e_s2_ok hls (oks_h hst)⟩) (fun p e R s mid args below meth c H locs cells slots lsA Q hX hf hg hR hM hst hls hS hlv k => lv_lstore_n hX.1 hX.2.1 hd hi hlv hn (e_s2_map K ls i (1, a)) k)) k
theorem Tr.lstore {i : Nat} {a : Int} (hd : decode m.2.2.1 pc = .ok (.lstore i, 2)) (hn : i + 1 < m.2.2.2.1) (hls2 : e_s2 ls i (1, a) = ls2) (k : Tr l K d m (pc + 2) ls2 (st) M Q) : Tr l K d m pc ls ((1, a) :: st) M Q := by
  subst hls2
  exact Tr.up (fun _ _ => Ends.pu (fun hM hst hls => ⟨oks_t hst, e_s2_ok hls (oks_h hst)⟩) (fun p e R s mid args below meth c H locs cells slots lsA Q hX hf hg hR hM hst hls hS hlv k => lv_lstore hX.1 hX.2.1 hd hlv hn (e_s2_map K ls i (1, a)) k)) k
theorem Tr.astore_n {k0 : Fin 4} {i : Nat} {a : Int} (hd : decode m.2.2.1 pc = .ok (.astore_n k0, 1)) (hi : (k0 : Nat) = i) (hn : i < m.2.2.2.1) (hls2 : e_s1 ls i (2, a) = ls2) (k : Tr l K d m (pc + 1) ls2 (st) M Q) : Tr l K d m pc ls ((2, a) :: st) M Q := by
  subst hls2
  exact Tr.up (fun _ _ => Ends.pu (fun hM hst hls => ⟨oks_t hst, e_s1_ok hls (oks_h hst)⟩) (fun p e R s mid args below meth c H locs cells slots lsA Q hX hf hg hR hM hst hls hS hlv k => by
    have e9 := e_s1_map K ls i (2, a)
    show W p l e R s mid args below meth c H locs cells slots Q (F0 mid pc lsA (e_val K (2, a) :: st.map (e_val K)))
    rcases e_adr_c K a with h9 | ⟨x9, h9⟩
    · rw [h9] at e9 ⊢
      exact lv_astore_nN hX.1 hX.2.1 hd hi hlv hn e9 k
    · rw [h9] at e9 ⊢
      exact lv_astore_n hX.1 hX.2.1 hd hi hlv hn e9 k)) k
theorem Tr.astore {i : Nat} {a : Int} (hd : decode m.2.2.1 pc = .ok (.astore i, 2)) (hn : i < m.2.2.2.1) (hls2 : e_s1 ls i (2, a) = ls2) (k : Tr l K d m (pc + 2) ls2 (st) M Q) : Tr l K d m pc ls ((2, a) :: st) M Q := by
  subst hls2
  exact Tr.up (fun _ _ => Ends.pu (fun hM hst hls => ⟨oks_t hst, e_s1_ok hls (oks_h hst)⟩) (fun p e R s mid args below meth c H locs cells slots lsA Q hX hf hg hR hM hst hls hS hlv k => by
    have e9 := e_s1_map K ls i (2, a)
    show W p l e R s mid args below meth c H locs cells slots Q (F0 mid pc lsA (e_val K (2, a) :: st.map (e_val K)))
    rcases e_adr_c K a with h9 | ⟨x9, h9⟩
    · rw [h9] at e9 ⊢
      exact lv_astoreN hX.1 hX.2.1 hd hlv hn e9 k
    · rw [h9] at e9 ⊢
      exact lv_astore hX.1 hX.2.1 hd hlv hn e9 k)) k
theorem Tr.iinc {i : Nat} {a n : Int} (hd : decode m.2.2.1 pc = .ok (.iinc i n, 3)) (hl : e_lk ls i = some (0, a)) (hn : i < m.2.2.2.1) (hls2 : e_s1 ls i (0, w32 (a + n)) = ls2) (k : Tr l K d m (pc + 3) ls2 (st) M Q) : Tr l K d m pc ls (st) M Q := by
  subst hls2
  exact Tr.up (fun _ _ => Ends.pu (fun hM hst hls => ⟨hst, e_s1_ok hls (ok0 (w32_b _))⟩) (fun p e R s mid args below meth c H locs cells slots lsA Q hX hf hg hR hM hst hls hS hlv k => by
    have h8 : (i, Value.int (Int32.ofInt a)) ∈ e_lv K ls := List.mem_map.mpr ⟨(i, (0, a)), e_lk_mem hl, rfl⟩
    obtain ⟨k9, hk9⟩ := List.getElem?_of_mem h8
    exact lv_iinc hX.1 hX.2.1 hd hlv hk9 (v := Int32.ofInt (w32 (a + n))) (i32_add a n).symm hn (e_s1_map K ls i (0, w32 (a + n))) k)) k
theorem Tr.iadd {a b : Int} (hd : decode m.2.2.1 pc = .ok (.iadd, 1)) (k : Tr l K d m (pc + 1) ls ((0, w32 (a + b)) :: st) M Q) : Tr l K d m pc ls ((0, b) :: (0, a) :: st) M Q :=
  Tr.up (fun _ _ => Ends.sk (fun hM hst hls => oks_c (ok0 (w32_b _)) (oks_t (oks_t hst))) (fun p e R s mid args below meth c H locs cells slots lsA Q hX hf hg hR hM hst hls hS hlv k => lv_iadd (x := Int32.ofInt a) (y := Int32.ofInt b) hX.1 hX.2.1 hd (by rw [← i32_add]; exact k))) k
theorem Tr.ladd {a b : Int} (hd : decode m.2.2.1 pc = .ok (.ladd, 1)) (k : Tr l K d m (pc + 1) ls ((1, w64 (a + b)) :: st) M Q) : Tr l K d m pc ls ((1, b) :: (1, a) :: st) M Q :=
  Tr.up (fun _ _ => Ends.sk (fun hM hst hls => oks_c (ok1 (w64_b _)) (oks_t (oks_t hst))) (fun p e R s mid args below meth c H locs cells slots lsA Q hX hf hg hR hM hst hls hS hlv k => lv_ladd (x := Int64.ofInt a) (y := Int64.ofInt b) hX.1 hX.2.1 hd (by rw [← i64_add]; exact k))) k
theorem Tr.isub {a b : Int} (hd : decode m.2.2.1 pc = .ok (.isub, 1)) (k : Tr l K d m (pc + 1) ls ((0, w32 (a - b)) :: st) M Q) : Tr l K d m pc ls ((0, b) :: (0, a) :: st) M Q :=
  Tr.up (fun _ _ => Ends.sk (fun hM hst hls => oks_c (ok0 (w32_b _)) (oks_t (oks_t hst))) (fun p e R s mid args below meth c H locs cells slots lsA Q hX hf hg hR hM hst hls hS hlv k => lv_isub (x := Int32.ofInt a) (y := Int32.ofInt b) hX.1 hX.2.1 hd (by rw [← i32_sub]; exact k))) k
theorem Tr.lsub {a b : Int} (hd : decode m.2.2.1 pc = .ok (.lsub, 1)) (k : Tr l K d m (pc + 1) ls ((1, w64 (a - b)) :: st) M Q) : Tr l K d m pc ls ((1, b) :: (1, a) :: st) M Q :=
  Tr.up (fun _ _ => Ends.sk (fun hM hst hls => oks_c (ok1 (w64_b _)) (oks_t (oks_t hst))) (fun p e R s mid args below meth c H locs cells slots lsA Q hX hf hg hR hM hst hls hS hlv k => lv_lsub (x := Int64.ofInt a) (y := Int64.ofInt b) hX.1 hX.2.1 hd (by rw [← i64_sub]; exact k))) k
theorem Tr.imul {a b : Int} (hd : decode m.2.2.1 pc = .ok (.imul, 1)) (k : Tr l K d m (pc + 1) ls ((0, w32 (a * b)) :: st) M Q) : Tr l K d m pc ls ((0, b) :: (0, a) :: st) M Q :=
  Tr.up (fun _ _ => Ends.sk (fun hM hst hls => oks_c (ok0 (w32_b _)) (oks_t (oks_t hst))) (fun p e R s mid args below meth c H locs cells slots lsA Q hX hf hg hR hM hst hls hS hlv k => lv_imul (x := Int32.ofInt a) (y := Int32.ofInt b) hX.1 hX.2.1 hd (by rw [← i32_mul]; exact k))) k
theorem Tr.lmul {a b : Int} (hd : decode m.2.2.1 pc = .ok (.lmul, 1)) (k : Tr l K d m (pc + 1) ls ((1, w64 (a * b)) :: st) M Q) : Tr l K d m pc ls ((1, b) :: (1, a) :: st) M Q :=
  Tr.up (fun _ _ => Ends.sk (fun hM hst hls => oks_c (ok1 (w64_b _)) (oks_t (oks_t hst))) (fun p e R s mid args below meth c H locs cells slots lsA Q hX hf hg hR hM hst hls hS hlv k => lv_lmul (x := Int64.ofInt a) (y := Int64.ofInt b) hX.1 hX.2.1 hd (by rw [← i64_mul]; exact k))) k
theorem Tr.ineg {a : Int} (hd : decode m.2.2.1 pc = .ok (.ineg, 1)) (k : Tr l K d m (pc + 1) ls ((0, w32 (-a)) :: st) M Q) : Tr l K d m pc ls ((0, a) :: st) M Q :=
  Tr.up (fun _ _ => Ends.sk (fun hM hst hls => oks_c (ok0 (w32_b _)) (oks_t hst)) (fun p e R s mid args below meth c H locs cells slots lsA Q hX hf hg hR hM hst hls hS hlv k => lv_ineg (x := Int32.ofInt a) hX.1 hX.2.1 hd (by rw [← i32_neg]; exact k))) k
theorem Tr.lneg {a : Int} (hd : decode m.2.2.1 pc = .ok (.lneg, 1)) (k : Tr l K d m (pc + 1) ls ((1, w64 (-a)) :: st) M Q) : Tr l K d m pc ls ((1, a) :: st) M Q :=
  Tr.up (fun _ _ => Ends.sk (fun hM hst hls => oks_c (ok1 (w64_b _)) (oks_t hst)) (fun p e R s mid args below meth c H locs cells slots lsA Q hX hf hg hR hM hst hls hS hlv k => lv_lneg (x := Int64.ofInt a) hX.1 hX.2.1 hd (by rw [← i64_neg]; exact k))) k
theorem Tr.idiv {a b : Int} (hd : decode m.2.2.1 pc = .ok (.idiv, 1)) (hb : b ≠ 0) (k : Tr l K d m (pc + 1) ls ((0, w32 (a.tdiv b)) :: st) M Q) : Tr l K d m pc ls ((0, b) :: (0, a) :: st) M Q :=
  Tr.up (fun _ _ => Ends.sk (fun hM hst hls => oks_c (ok0 (w32_b _)) (oks_t (oks_t hst))) (fun p e R s mid args below meth c H locs cells slots lsA Q hX hf hg hR hM hst hls hS hlv k => lv_idiv (x := Int32.ofInt a) (y := Int32.ofInt b) hX.1 hX.2.1 hd (fun h9 => hb ((z32_eq (oks_h hst)).mp h9)) (by rw [← i32_div (oks_h (oks_t hst)) (oks_h hst)]; exact k))) k
theorem Tr.irem {a b : Int} (hd : decode m.2.2.1 pc = .ok (.irem, 1)) (hb : b ≠ 0) (k : Tr l K d m (pc + 1) ls ((0, a.tmod b) :: st) M Q) : Tr l K d m pc ls ((0, b) :: (0, a) :: st) M Q :=
  Tr.up (fun _ _ => Ends.sk (fun hM hst hls => oks_c (i32_remok (oks_h (oks_t hst)) (oks_h hst)) (oks_t (oks_t hst))) (fun p e R s mid args below meth c H locs cells slots lsA Q hX hf hg hR hM hst hls hS hlv k => lv_irem (x := Int32.ofInt a) (y := Int32.ofInt b) hX.1 hX.2.1 hd (fun h9 => hb ((z32_eq (oks_h hst)).mp h9)) (by rw [← i32_rem (oks_h (oks_t hst)) (oks_h hst)]; exact k))) k
theorem Tr.ldiv {a b : Int} (hd : decode m.2.2.1 pc = .ok (.ldiv, 1)) (hb : b ≠ 0) (k : Tr l K d m (pc + 1) ls ((1, w64 (a.tdiv b)) :: st) M Q) : Tr l K d m pc ls ((1, b) :: (1, a) :: st) M Q :=
  Tr.up (fun _ _ => Ends.sk (fun hM hst hls => oks_c (ok1 (w64_b _)) (oks_t (oks_t hst))) (fun p e R s mid args below meth c H locs cells slots lsA Q hX hf hg hR hM hst hls hS hlv k => lv_ldiv (x := Int64.ofInt a) (y := Int64.ofInt b) hX.1 hX.2.1 hd (fun h9 => hb ((z64_eq (oks_h hst)).mp h9)) (by rw [← i64_div (oks_h (oks_t hst)) (oks_h hst)]; exact k))) k
theorem Tr.lrem {a b : Int} (hd : decode m.2.2.1 pc = .ok (.lrem, 1)) (hb : b ≠ 0) (k : Tr l K d m (pc + 1) ls ((1, a.tmod b) :: st) M Q) : Tr l K d m pc ls ((1, b) :: (1, a) :: st) M Q :=
  Tr.up (fun _ _ => Ends.sk (fun hM hst hls => oks_c (i64_remok (oks_h (oks_t hst)) (oks_h hst)) (oks_t (oks_t hst))) (fun p e R s mid args below meth c H locs cells slots lsA Q hX hf hg hR hM hst hls hS hlv k => lv_lrem (x := Int64.ofInt a) (y := Int64.ofInt b) hX.1 hX.2.1 hd (fun h9 => hb ((z64_eq (oks_h hst)).mp h9)) (by rw [← i64_rem (oks_h (oks_t hst)) (oks_h hst)]; exact k))) k
theorem Tr.iand {a b : Int} (hd : decode m.2.2.1 pc = .ok (.iand, 1)) (k : Tr l K d m (pc + 1) ls ((0, f_iand a b) :: st) M Q) : Tr l K d m pc ls ((0, b) :: (0, a) :: st) M Q :=
  Tr.up (fun _ _ => Ends.sk (fun hM hst hls => oks_c (ok0 (i32_b _)) (oks_t (oks_t hst))) (fun p e R s mid args below meth c H locs cells slots lsA Q hX hf hg hR hM hst hls hS hlv k => lv_iand (x := Int32.ofInt a) (y := Int32.ofInt b) hX.1 hX.2.1 hd (by rw [← Int32.ofInt_toInt (Int32.ofInt a &&& Int32.ofInt b)]; exact k))) k
theorem Tr.ior {a b : Int} (hd : decode m.2.2.1 pc = .ok (.ior, 1)) (k : Tr l K d m (pc + 1) ls ((0, f_ior a b) :: st) M Q) : Tr l K d m pc ls ((0, b) :: (0, a) :: st) M Q :=
  Tr.up (fun _ _ => Ends.sk (fun hM hst hls => oks_c (ok0 (i32_b _)) (oks_t (oks_t hst))) (fun p e R s mid args below meth c H locs cells slots lsA Q hX hf hg hR hM hst hls hS hlv k => lv_ior (x := Int32.ofInt a) (y := Int32.ofInt b) hX.1 hX.2.1 hd (by rw [← Int32.ofInt_toInt (Int32.ofInt a ||| Int32.ofInt b)]; exact k))) k
theorem Tr.ixor {a b : Int} (hd : decode m.2.2.1 pc = .ok (.ixor, 1)) (k : Tr l K d m (pc + 1) ls ((0, f_ixor a b) :: st) M Q) : Tr l K d m pc ls ((0, b) :: (0, a) :: st) M Q :=
  Tr.up (fun _ _ => Ends.sk (fun hM hst hls => oks_c (ok0 (i32_b _)) (oks_t (oks_t hst))) (fun p e R s mid args below meth c H locs cells slots lsA Q hX hf hg hR hM hst hls hS hlv k => lv_ixor (x := Int32.ofInt a) (y := Int32.ofInt b) hX.1 hX.2.1 hd (by rw [← Int32.ofInt_toInt (Int32.ofInt a ^^^ Int32.ofInt b)]; exact k))) k
theorem Tr.ishl {a b : Int} (hd : decode m.2.2.1 pc = .ok (.ishl, 1)) (k : Tr l K d m (pc + 1) ls ((0, f_ishl a b) :: st) M Q) : Tr l K d m pc ls ((0, b) :: (0, a) :: st) M Q :=
  Tr.up (fun _ _ => Ends.sk (fun hM hst hls => oks_c (ok0 (i32_b _)) (oks_t (oks_t hst))) (fun p e R s mid args below meth c H locs cells slots lsA Q hX hf hg hR hM hst hls hS hlv k => lv_ishl (x := Int32.ofInt a) (y := Int32.ofInt b) hX.1 hX.2.1 hd (by rw [← Int32.ofInt_toInt (Int32.ofInt a <<< (Int32.ofInt b &&& 31))]; exact k))) k
theorem Tr.ishr {a b : Int} (hd : decode m.2.2.1 pc = .ok (.ishr, 1)) (k : Tr l K d m (pc + 1) ls ((0, f_ishr a b) :: st) M Q) : Tr l K d m pc ls ((0, b) :: (0, a) :: st) M Q :=
  Tr.up (fun _ _ => Ends.sk (fun hM hst hls => oks_c (ok0 (i32_b _)) (oks_t (oks_t hst))) (fun p e R s mid args below meth c H locs cells slots lsA Q hX hf hg hR hM hst hls hS hlv k => lv_ishr (x := Int32.ofInt a) (y := Int32.ofInt b) hX.1 hX.2.1 hd (by rw [← Int32.ofInt_toInt (Int32.ofInt a >>> (Int32.ofInt b &&& 31))]; exact k))) k
theorem Tr.land {a b : Int} (hd : decode m.2.2.1 pc = .ok (.land, 1)) (k : Tr l K d m (pc + 1) ls ((1, f_land a b) :: st) M Q) : Tr l K d m pc ls ((1, b) :: (1, a) :: st) M Q :=
  Tr.up (fun _ _ => Ends.sk (fun hM hst hls => oks_c (ok1 (i64_b _)) (oks_t (oks_t hst))) (fun p e R s mid args below meth c H locs cells slots lsA Q hX hf hg hR hM hst hls hS hlv k => lv_land (x := Int64.ofInt a) (y := Int64.ofInt b) hX.1 hX.2.1 hd (by rw [← Int64.ofInt_toInt (Int64.ofInt a &&& Int64.ofInt b)]; exact k))) k
theorem Tr.lor {a b : Int} (hd : decode m.2.2.1 pc = .ok (.lor, 1)) (k : Tr l K d m (pc + 1) ls ((1, f_lor a b) :: st) M Q) : Tr l K d m pc ls ((1, b) :: (1, a) :: st) M Q :=
  Tr.up (fun _ _ => Ends.sk (fun hM hst hls => oks_c (ok1 (i64_b _)) (oks_t (oks_t hst))) (fun p e R s mid args below meth c H locs cells slots lsA Q hX hf hg hR hM hst hls hS hlv k => lv_lor (x := Int64.ofInt a) (y := Int64.ofInt b) hX.1 hX.2.1 hd (by rw [← Int64.ofInt_toInt (Int64.ofInt a ||| Int64.ofInt b)]; exact k))) k
theorem Tr.lshl {a b : Int} (hd : decode m.2.2.1 pc = .ok (.lshl, 1)) (k : Tr l K d m (pc + 1) ls ((1, f_lshl a b) :: st) M Q) : Tr l K d m pc ls ((0, b) :: (1, a) :: st) M Q :=
  Tr.up (fun _ _ => Ends.sk (fun hM hst hls => oks_c (ok1 (i64_b _)) (oks_t (oks_t hst))) (fun p e R s mid args below meth c H locs cells slots lsA Q hX hf hg hR hM hst hls hS hlv k => lv_lshl (x := Int64.ofInt a) (y := Int32.ofInt b) (v := Int64.ofInt (f_lshl a b)) hX.1 hX.2.1 hd (Int64.ofInt_toInt _).symm k)) k
theorem Tr.lshr {a b : Int} (hd : decode m.2.2.1 pc = .ok (.lshr, 1)) (k : Tr l K d m (pc + 1) ls ((1, f_lshr a b) :: st) M Q) : Tr l K d m pc ls ((0, b) :: (1, a) :: st) M Q :=
  Tr.up (fun _ _ => Ends.sk (fun hM hst hls => oks_c (ok1 (i64_b _)) (oks_t (oks_t hst))) (fun p e R s mid args below meth c H locs cells slots lsA Q hX hf hg hR hM hst hls hS hlv k => lv_lshr (x := Int64.ofInt a) (y := Int32.ofInt b) (v := Int64.ofInt (f_lshr a b)) hX.1 hX.2.1 hd (Int64.ofInt_toInt _).symm k)) k
theorem Tr.lushr {a b : Int} (hd : decode m.2.2.1 pc = .ok (.lushr, 1)) (k : Tr l K d m (pc + 1) ls ((1, f_lushr a b) :: st) M Q) : Tr l K d m pc ls ((0, b) :: (1, a) :: st) M Q :=
  Tr.up (fun _ _ => Ends.sk (fun hM hst hls => oks_c (ok1 (i64_b _)) (oks_t (oks_t hst))) (fun p e R s mid args below meth c H locs cells slots lsA Q hX hf hg hR hM hst hls hS hlv k => lv_lushr (x := Int64.ofInt a) (y := Int32.ofInt b) (v := Int64.ofInt (f_lushr a b)) hX.1 hX.2.1 hd (Int64.ofInt_toInt _).symm k)) k
theorem Tr.i2l {a : Int} (hd : decode m.2.2.1 pc = .ok (.i2l, 1)) (k : Tr l K d m (pc + 1) ls ((1, a) :: st) M Q) : Tr l K d m pc ls ((0, a) :: st) M Q :=
  Tr.up (fun _ _ => Ends.sk (fun hM hst hls => oks_c (ok1 (by have := (oks_h hst).i; omega)) (oks_t hst)) (fun p e R s mid args below meth c H locs cells slots lsA Q hX hf hg hR hM hst hls hS hlv k => lv_i2l (v := Int64.ofInt a) hX.1 hX.2.1 hd (i2l_e (oks_h hst)) k)) k
theorem Tr.l2i {a : Int} (hd : decode m.2.2.1 pc = .ok (.l2i, 1)) (k : Tr l K d m (pc + 1) ls ((0, w32 a) :: st) M Q) : Tr l K d m pc ls ((1, a) :: st) M Q :=
  Tr.up (fun _ _ => Ends.sk (fun hM hst hls => oks_c (ok0 (w32_b _)) (oks_t hst)) (fun p e R s mid args below meth c H locs cells slots lsA Q hX hf hg hR hM hst hls hS hlv k => lv_l2i (v := Int32.ofInt (w32 a)) hX.1 hX.2.1 hd (l2i_e (oks_h hst)) k)) k
theorem Tr.i2b {a : Int} (hd : decode m.2.2.1 pc = .ok (.i2b, 1)) (k : Tr l K d m (pc + 1) ls ((0, w8 a) :: st) M Q) : Tr l K d m pc ls ((0, a) :: st) M Q :=
  Tr.up (fun _ _ => Ends.sk (fun hM hst hls => oks_c (ok0 (by unfold w8; omega)) (oks_t hst)) (fun p e R s mid args below meth c H locs cells slots lsA Q hX hf hg hR hM hst hls hS hlv k => lv_i2b (v := Int32.ofInt (w8 a)) hX.1 hX.2.1 hd (i32_w8 a) k)) k
theorem Tr.lcmp {a b : Int} (hd : decode m.2.2.1 pc = .ok (.lcmp, 1)) (k : Tr l K d m (pc + 1) ls ((0, f_lcmp a b) :: st) M Q) : Tr l K d m pc ls ((1, b) :: (1, a) :: st) M Q :=
  Tr.up (fun _ _ => Ends.sk (fun hM hst hls => oks_c (f_lcmp_ok a b) (oks_t (oks_t hst))) (fun p e R s mid args below meth c H locs cells slots lsA Q hX hf hg hR hM hst hls hS hlv k => W.lcmp (x := Int64.ofInt a) (y := Int64.ofInt b) hX.1 hX.2.1 hd (by rw [lcmp_e (oks_h (oks_t hst)) (oks_h hst)]; exact k))) k
theorem Tr.dup {v : PV} (hd : decode m.2.2.1 pc = .ok (.dup, 1)) (hv : ¬ v.1 = 1) (k : Tr l K d m (pc + 1) ls (v :: v :: st) M Q) : Tr l K d m pc ls (v :: st) M Q :=
  Tr.up (fun _ _ => Ends.sk (fun hM hst hls => oks_c (oks_h hst) hst) (fun p e R s mid args below meth c H locs cells slots lsA Q hX hf hg hR hM hst hls hS hlv k => lv_dup hX.1 hX.2.1 hd (by rw [e_vcat]; unfold e_ct; rw [if_neg hv]) k)) k
theorem Tr.pop {v : PV} (hd : decode m.2.2.1 pc = .ok (.pop, 1)) (hv : ¬ v.1 = 1) (k : Tr l K d m (pc + 1) ls (st) M Q) : Tr l K d m pc ls (v :: st) M Q :=
  Tr.up (fun _ _ => Ends.sk (fun hM hst hls => oks_t hst) (fun p e R s mid args below meth c H locs cells slots lsA Q hX hf hg hR hM hst hls hS hlv k => lv_pop (va := e_val K v) hX.1 hX.2.1 hd (by rw [e_vcat]; unfold e_ct; rw [if_neg hv]) k)) k
theorem Tr.dup2 {v w : PV} (hd : decode m.2.2.1 pc = .ok (.dup2, 1)) (hv : ¬ v.1 = 1) (hw : ¬ w.1 = 1) (k : Tr l K d m (pc + 1) ls (v :: w :: v :: w :: st) M Q) : Tr l K d m pc ls (v :: w :: st) M Q :=
  Tr.up (fun _ _ => Ends.sk (fun hM hst hls => oks_c (oks_h hst) (oks_c (oks_h (oks_t hst)) hst)) (fun p e R s mid args below meth c H locs cells slots lsA Q hX hf hg hR hM hst hls hS hlv k => lv_dup2_11 hX.1 hX.2.1 hd (by rw [e_vcat]; unfold e_ct; rw [if_neg hv]) (by rw [e_vcat]; unfold e_ct; rw [if_neg hw]) k)) k
theorem Tr.dup2l {v : PV} (hd : decode m.2.2.1 pc = .ok (.dup2, 1)) (hv : v.1 = 1) (k : Tr l K d m (pc + 1) ls (v :: v :: st) M Q) : Tr l K d m pc ls (v :: st) M Q :=
  Tr.up (fun _ _ => Ends.sk (fun hM hst hls => oks_c (oks_h hst) hst) (fun p e R s mid args below meth c H locs cells slots lsA Q hX hf hg hR hM hst hls hS hlv k => lv_dup2_2 hX.1 hX.2.1 hd (by rw [e_vcat]; unfold e_ct; rw [if_pos hv]) k)) k
theorem Tr.icmp_eq {a b off : Int} {tgt : Nat} (hd : decode m.2.2.1 pc = .ok (.if_icmp .eq off, 3)) (ht : (pc : Int) + off = (tgt : Int)) (kt : a = b → Tr l K d m tgt ls st M Q) (kf : ¬ a = b → Tr l K d m (pc + 3) ls st M Q) : Tr l K d m pc ls ((0, b) :: (0, a) :: st) M Q := by
  by_cases h : a = b
  · exact Tr.up (fun _ _ => Ends.sk (fun hM hst hls => oks_t (oks_t hst)) (fun p e R s mid args below meth c H locs cells slots lsA Q hX hf hg hR hM hst hls hS hlv k => lv_icmp_eq (x := Int32.ofInt a) (y := Int32.ofInt b) hX.1 hX.2.1 hd ht (fun _ => k) (fun c9 => absurd ((i32_eq (oks_h (oks_t hst)) (oks_h hst)).mpr h) c9))) (kt h)
  · exact Tr.up (fun _ _ => Ends.sk (fun hM hst hls => oks_t (oks_t hst)) (fun p e R s mid args below meth c H locs cells slots lsA Q hX hf hg hR hM hst hls hS hlv k => lv_icmp_eq (x := Int32.ofInt a) (y := Int32.ofInt b) hX.1 hX.2.1 hd ht (fun c9 => absurd ((i32_eq (oks_h (oks_t hst)) (oks_h hst)).mp c9) h) (fun _ => k))) (kf h)
theorem Tr.icmp_lt {a b off : Int} {tgt : Nat} (hd : decode m.2.2.1 pc = .ok (.if_icmp .lt off, 3)) (ht : (pc : Int) + off = (tgt : Int)) (kt : a < b → Tr l K d m tgt ls st M Q) (kf : ¬ a < b → Tr l K d m (pc + 3) ls st M Q) : Tr l K d m pc ls ((0, b) :: (0, a) :: st) M Q := by
  by_cases h : a < b
  · exact Tr.up (fun _ _ => Ends.sk (fun hM hst hls => oks_t (oks_t hst)) (fun p e R s mid args below meth c H locs cells slots lsA Q hX hf hg hR hM hst hls hS hlv k => lv_icmp_lt (x := Int32.ofInt a) (y := Int32.ofInt b) hX.1 hX.2.1 hd ht (fun _ => k) (fun c9 => absurd ((i32_lt (oks_h (oks_t hst)) (oks_h hst)).mpr h) c9))) (kt h)
  · exact Tr.up (fun _ _ => Ends.sk (fun hM hst hls => oks_t (oks_t hst)) (fun p e R s mid args below meth c H locs cells slots lsA Q hX hf hg hR hM hst hls hS hlv k => lv_icmp_lt (x := Int32.ofInt a) (y := Int32.ofInt b) hX.1 hX.2.1 hd ht (fun c9 => absurd ((i32_lt (oks_h (oks_t hst)) (oks_h hst)).mp c9) h) (fun _ => k))) (kf h)
theorem Tr.icmp_ge {a b off : Int} {tgt : Nat} (hd : decode m.2.2.1 pc = .ok (.if_icmp .ge off, 3)) (ht : (pc : Int) + off = (tgt : Int)) (kt : b ≤ a → Tr l K d m tgt ls st M Q) (kf : ¬ b ≤ a → Tr l K d m (pc + 3) ls st M Q) : Tr l K d m pc ls ((0, b) :: (0, a) :: st) M Q := by
  by_cases h : b ≤ a
  · exact Tr.up (fun _ _ => Ends.sk (fun hM hst hls => oks_t (oks_t hst)) (fun p e R s mid args below meth c H locs cells slots lsA Q hX hf hg hR hM hst hls hS hlv k => lv_icmp_ge (x := Int32.ofInt a) (y := Int32.ofInt b) hX.1 hX.2.1 hd ht (fun _ => k) (fun c9 => absurd ((i32_le (oks_h hst) (oks_h (oks_t hst))).mpr h) c9))) (kt h)
  · exact Tr.up (fun _ _ => Ends.sk (fun hM hst hls => oks_t (oks_t hst)) (fun p e R s mid args below meth c H locs cells slots lsA Q hX hf hg hR hM hst hls hS hlv k => lv_icmp_ge (x := Int32.ofInt a) (y := Int32.ofInt b) hX.1 hX.2.1 hd ht (fun c9 => absurd ((i32_le (oks_h hst) (oks_h (oks_t hst))).mp c9) h) (fun _ => k))) (kf h)
theorem Tr.icmp_gt {a b off : Int} {tgt : Nat} (hd : decode m.2.2.1 pc = .ok (.if_icmp .gt off, 3)) (ht : (pc : Int) + off = (tgt : Int)) (kt : b < a → Tr l K d m tgt ls st M Q) (kf : ¬ b < a → Tr l K d m (pc + 3) ls st M Q) : Tr l K d m pc ls ((0, b) :: (0, a) :: st) M Q := by
  by_cases h : b < a
  · exact Tr.up (fun _ _ => Ends.sk (fun hM hst hls => oks_t (oks_t hst)) (fun p e R s mid args below meth c H locs cells slots lsA Q hX hf hg hR hM hst hls hS hlv k => lv_icmp_gt (x := Int32.ofInt a) (y := Int32.ofInt b) hX.1 hX.2.1 hd ht (fun _ => k) (fun c9 => absurd ((i32_lt (oks_h hst) (oks_h (oks_t hst))).mpr h) c9))) (kt h)
  · exact Tr.up (fun _ _ => Ends.sk (fun hM hst hls => oks_t (oks_t hst)) (fun p e R s mid args below meth c H locs cells slots lsA Q hX hf hg hR hM hst hls hS hlv k => lv_icmp_gt (x := Int32.ofInt a) (y := Int32.ofInt b) hX.1 hX.2.1 hd ht (fun c9 => absurd ((i32_lt (oks_h hst) (oks_h (oks_t hst))).mp c9) h) (fun _ => k))) (kf h)
theorem Tr.icmp_le {a b off : Int} {tgt : Nat} (hd : decode m.2.2.1 pc = .ok (.if_icmp .le off, 3)) (ht : (pc : Int) + off = (tgt : Int)) (kt : a ≤ b → Tr l K d m tgt ls st M Q) (kf : ¬ a ≤ b → Tr l K d m (pc + 3) ls st M Q) : Tr l K d m pc ls ((0, b) :: (0, a) :: st) M Q := by
  by_cases h : a ≤ b
  · exact Tr.up (fun _ _ => Ends.sk (fun hM hst hls => oks_t (oks_t hst)) (fun p e R s mid args below meth c H locs cells slots lsA Q hX hf hg hR hM hst hls hS hlv k => lv_icmp_le (x := Int32.ofInt a) (y := Int32.ofInt b) hX.1 hX.2.1 hd ht (fun _ => k) (fun c9 => absurd ((i32_le (oks_h (oks_t hst)) (oks_h hst)).mpr h) c9))) (kt h)
  · exact Tr.up (fun _ _ => Ends.sk (fun hM hst hls => oks_t (oks_t hst)) (fun p e R s mid args below meth c H locs cells slots lsA Q hX hf hg hR hM hst hls hS hlv k => lv_icmp_le (x := Int32.ofInt a) (y := Int32.ofInt b) hX.1 hX.2.1 hd ht (fun c9 => absurd ((i32_le (oks_h (oks_t hst)) (oks_h hst)).mp c9) h) (fun _ => k))) (kf h)
theorem Tr.icmp_ne {a b off : Int} {tgt : Nat} (hd : decode m.2.2.1 pc = .ok (.if_icmp .ne off, 3)) (ht : (pc : Int) + off = (tgt : Int)) (kt : ¬ a = b → Tr l K d m tgt ls st M Q) (kf : a = b → Tr l K d m (pc + 3) ls st M Q) : Tr l K d m pc ls ((0, b) :: (0, a) :: st) M Q := by
  by_cases h : a = b
  · exact Tr.up (fun _ _ => Ends.sk (fun hM hst hls => oks_t (oks_t hst)) (fun p e R s mid args below meth c H locs cells slots lsA Q hX hf hg hR hM hst hls hS hlv k => lv_icmp_ne (x := Int32.ofInt a) (y := Int32.ofInt b) hX.1 hX.2.1 hd ht (fun c9 => absurd ((i32_eq (oks_h (oks_t hst)) (oks_h hst)).mpr h) c9) (fun _ => k))) (kf h)
  · exact Tr.up (fun _ _ => Ends.sk (fun hM hst hls => oks_t (oks_t hst)) (fun p e R s mid args below meth c H locs cells slots lsA Q hX hf hg hR hM hst hls hS hlv k => lv_icmp_ne (x := Int32.ofInt a) (y := Int32.ofInt b) hX.1 hX.2.1 hd ht (fun _ => k) (fun c9 => absurd ((i32_eq (oks_h (oks_t hst)) (oks_h hst)).mp c9) h))) (kt h)
theorem Tr.if_eq {a off : Int} {tgt : Nat} (hd : decode m.2.2.1 pc = .ok (.ifCond .eq off, 3)) (ht : (pc : Int) + off = (tgt : Int)) (kt : a = 0 → Tr l K d m tgt ls st M Q) (kf : ¬ a = 0 → Tr l K d m (pc + 3) ls st M Q) : Tr l K d m pc ls ((0, a) :: st) M Q := by
  by_cases h : a = 0
  · exact Tr.up (fun _ _ => Ends.sk (fun hM hst hls => oks_t hst) (fun p e R s mid args below meth c H locs cells slots lsA Q hX hf hg hR hM hst hls hS hlv k => lv_if_eq (x := Int32.ofInt a) hX.1 hX.2.1 hd ht (fun _ => k) (fun c9 => absurd ((z32_eq (oks_h hst)).mpr h) c9))) (kt h)
  · exact Tr.up (fun _ _ => Ends.sk (fun hM hst hls => oks_t hst) (fun p e R s mid args below meth c H locs cells slots lsA Q hX hf hg hR hM hst hls hS hlv k => lv_if_eq (x := Int32.ofInt a) hX.1 hX.2.1 hd ht (fun c9 => absurd ((z32_eq (oks_h hst)).mp c9) h) (fun _ => k))) (kf h)
theorem Tr.if_lt {a off : Int} {tgt : Nat} (hd : decode m.2.2.1 pc = .ok (.ifCond .lt off, 3)) (ht : (pc : Int) + off = (tgt : Int)) (kt : a < 0 → Tr l K d m tgt ls st M Q) (kf : ¬ a < 0 → Tr l K d m (pc + 3) ls st M Q) : Tr l K d m pc ls ((0, a) :: st) M Q := by
  by_cases h : a < 0
  · exact Tr.up (fun _ _ => Ends.sk (fun hM hst hls => oks_t hst) (fun p e R s mid args below meth c H locs cells slots lsA Q hX hf hg hR hM hst hls hS hlv k => lv_if_lt (x := Int32.ofInt a) hX.1 hX.2.1 hd ht (fun _ => k) (fun c9 => absurd ((z32_lt (oks_h hst)).mpr h) c9))) (kt h)
  · exact Tr.up (fun _ _ => Ends.sk (fun hM hst hls => oks_t hst) (fun p e R s mid args below meth c H locs cells slots lsA Q hX hf hg hR hM hst hls hS hlv k => lv_if_lt (x := Int32.ofInt a) hX.1 hX.2.1 hd ht (fun c9 => absurd ((z32_lt (oks_h hst)).mp c9) h) (fun _ => k))) (kf h)
theorem Tr.if_ge {a off : Int} {tgt : Nat} (hd : decode m.2.2.1 pc = .ok (.ifCond .ge off, 3)) (ht : (pc : Int) + off = (tgt : Int)) (kt : 0 ≤ a → Tr l K d m tgt ls st M Q) (kf : ¬ 0 ≤ a → Tr l K d m (pc + 3) ls st M Q) : Tr l K d m pc ls ((0, a) :: st) M Q := by
  by_cases h : 0 ≤ a
  · exact Tr.up (fun _ _ => Ends.sk (fun hM hst hls => oks_t hst) (fun p e R s mid args below meth c H locs cells slots lsA Q hX hf hg hR hM hst hls hS hlv k => lv_if_ge (x := Int32.ofInt a) hX.1 hX.2.1 hd ht (fun _ => k) (fun c9 => absurd ((z32_ge (oks_h hst)).mpr h) c9))) (kt h)
  · exact Tr.up (fun _ _ => Ends.sk (fun hM hst hls => oks_t hst) (fun p e R s mid args below meth c H locs cells slots lsA Q hX hf hg hR hM hst hls hS hlv k => lv_if_ge (x := Int32.ofInt a) hX.1 hX.2.1 hd ht (fun c9 => absurd ((z32_ge (oks_h hst)).mp c9) h) (fun _ => k))) (kf h)
theorem Tr.if_gt {a off : Int} {tgt : Nat} (hd : decode m.2.2.1 pc = .ok (.ifCond .gt off, 3)) (ht : (pc : Int) + off = (tgt : Int)) (kt : 0 < a → Tr l K d m tgt ls st M Q) (kf : ¬ 0 < a → Tr l K d m (pc + 3) ls st M Q) : Tr l K d m pc ls ((0, a) :: st) M Q := by
  by_cases h : 0 < a
  · exact Tr.up (fun _ _ => Ends.sk (fun hM hst hls => oks_t hst) (fun p e R s mid args below meth c H locs cells slots lsA Q hX hf hg hR hM hst hls hS hlv k => lv_if_gt (x := Int32.ofInt a) hX.1 hX.2.1 hd ht (fun _ => k) (fun c9 => absurd ((z32_gt (oks_h hst)).mpr h) c9))) (kt h)
  · exact Tr.up (fun _ _ => Ends.sk (fun hM hst hls => oks_t hst) (fun p e R s mid args below meth c H locs cells slots lsA Q hX hf hg hR hM hst hls hS hlv k => lv_if_gt (x := Int32.ofInt a) hX.1 hX.2.1 hd ht (fun c9 => absurd ((z32_gt (oks_h hst)).mp c9) h) (fun _ => k))) (kf h)
theorem Tr.if_le {a off : Int} {tgt : Nat} (hd : decode m.2.2.1 pc = .ok (.ifCond .le off, 3)) (ht : (pc : Int) + off = (tgt : Int)) (kt : a ≤ 0 → Tr l K d m tgt ls st M Q) (kf : ¬ a ≤ 0 → Tr l K d m (pc + 3) ls st M Q) : Tr l K d m pc ls ((0, a) :: st) M Q := by
  by_cases h : a ≤ 0
  · exact Tr.up (fun _ _ => Ends.sk (fun hM hst hls => oks_t hst) (fun p e R s mid args below meth c H locs cells slots lsA Q hX hf hg hR hM hst hls hS hlv k => lv_if_le (x := Int32.ofInt a) hX.1 hX.2.1 hd ht (fun _ => k) (fun c9 => absurd ((z32_le (oks_h hst)).mpr h) c9))) (kt h)
  · exact Tr.up (fun _ _ => Ends.sk (fun hM hst hls => oks_t hst) (fun p e R s mid args below meth c H locs cells slots lsA Q hX hf hg hR hM hst hls hS hlv k => lv_if_le (x := Int32.ofInt a) hX.1 hX.2.1 hd ht (fun c9 => absurd ((z32_le (oks_h hst)).mp c9) h) (fun _ => k))) (kf h)
theorem Tr.if_ne {a off : Int} {tgt : Nat} (hd : decode m.2.2.1 pc = .ok (.ifCond .ne off, 3)) (ht : (pc : Int) + off = (tgt : Int)) (kt : ¬ a = 0 → Tr l K d m tgt ls st M Q) (kf : a = 0 → Tr l K d m (pc + 3) ls st M Q) : Tr l K d m pc ls ((0, a) :: st) M Q := by
  by_cases h : a = 0
  · exact Tr.up (fun _ _ => Ends.sk (fun hM hst hls => oks_t hst) (fun p e R s mid args below meth c H locs cells slots lsA Q hX hf hg hR hM hst hls hS hlv k => lv_if_ne (x := Int32.ofInt a) hX.1 hX.2.1 hd ht (fun c9 => absurd ((z32_eq (oks_h hst)).mpr h) c9) (fun _ => k))) (kf h)
  · exact Tr.up (fun _ _ => Ends.sk (fun hM hst hls => oks_t hst) (fun p e R s mid args below meth c H locs cells slots lsA Q hX hf hg hR hM hst hls hS hlv k => lv_if_ne (x := Int32.ofInt a) hX.1 hX.2.1 hd ht (fun _ => k) (fun c9 => absurd ((z32_eq (oks_h hst)).mp c9) h))) (kt h)
theorem Tr.goto {off : Int} {tgt : Nat} (hd : decode m.2.2.1 pc = .ok (.goto off, 3)) (ht : (pc : Int) + off = (tgt : Int)) (k : Tr l K d m tgt ls st M Q) : Tr l K d m pc ls st M Q :=
  Tr.up (fun _ _ => Ends.sk (fun hM hst hls => hst) (fun p e R s mid args below meth c H locs cells slots lsA Q hX hf hg hR hM hst hls hS hlv k => lv_goto hX.1 hX.2.1 hd ht k)) k
theorem Tr.tswIn {dflt lo hi a off : Int} {offs : Array Int} {len tgt : Nat} (hd : decode m.2.2.1 pc = .ok (.tableswitch dflt lo hi offs, len)) (h1 : lo ≤ a) (h2 : a ≤ hi) (ho : offs[(a - lo).toNat]? = some off) (ht : (pc : Int) + off = (tgt : Int)) (k : Tr l K d m tgt ls st M Q) : Tr l K d m pc ls ((0, a) :: st) M Q :=
  Tr.up (fun _ _ => Ends.sk (fun hM hst hls => oks_t hst) (fun p e R s mid args below meth c H locs cells slots lsA Q hX hf hg hR hM hst hls hS hlv k => lv_tableIn (x := Int32.ofInt a) hX.1 hX.2.1 hd (by rw [i32_tt (oks_h hst)]; omega) (by rw [i32_tt (oks_h hst)]; omega) (by rw [i32_tt (oks_h hst)]; exact ho) ht k)) k
theorem Tr.tswOut {dflt lo hi a : Int} {offs : Array Int} {len tgt : Nat} (hd : decode m.2.2.1 pc = .ok (.tableswitch dflt lo hi offs, len)) (h1 : a < lo ∨ hi < a) (ht : (pc : Int) + dflt = (tgt : Int)) (k : Tr l K d m tgt ls st M Q) : Tr l K d m pc ls ((0, a) :: st) M Q :=
  Tr.up (fun _ _ => Ends.sk (fun hM hst hls => oks_t hst) (fun p e R s mid args below meth c H locs cells slots lsA Q hX hf hg hR hM hst hls hS hlv k => lv_tableOut (x := Int32.ofInt a) hX.1 hX.2.1 hd (by rw [i32_tt (oks_h hst)]; exact h1) ht k)) k
-- returns
theorem Ends.rt {r : Option PV} (hr : e_ret m r pc) (hst : st = r.toList) : Ends l K d m pc ls st M M r := by
  subst hst
  refine ⟨Nat.le_refl _, Nat.le_refl _, fun hM hst _ => ⟨hM, fun v hv => hst v (Option.mem_toList.mpr hv)⟩, ?_⟩
  intro p e R s mid args below meth c H locs cells slots cE sE lsA Q hX hf hl hc hs hcE hsE hR hM hst hls hS hlv hend
  have h1 : cE = cells := by omega
  have h2 : sE = slots := by omega
  subst h1
  subst h2
  exact hend pc lsA H locs hr hR hS
theorem Tr.iret {a : Int} (hd : decode m.2.2.1 pc = .ok (.ireturn, 1)) (hr : m.2.2.2.2 = some .int) (hq : Q M (some (0, a))) : Tr l K d m pc ls [(0, a)] M Q :=
  ⟨M, some (0, a), hq, Ends.rt (Or.inl ⟨a, hr, rfl, hd⟩) rfl⟩
theorem Tr.zret {a : Int} (hd : decode m.2.2.1 pc = .ok (.ireturn, 1)) (hr : m.2.2.2.2 = some .boolean) (ha : a = 0 ∨ a = 1) (hq : Q M (some (0, a))) : Tr l K d m pc ls [(0, a)] M Q :=
  ⟨M, some (0, a), hq, Ends.rt (Or.inr (Or.inl ⟨a, .boolean, hr, rfl, hd, by rcases ha with rfl | rfl <;> rfl⟩)) rfl⟩
theorem Tr.nret {a : Int} {ty : FieldType} (hd : decode m.2.2.1 pc = .ok (.ireturn, 1)) (hr : m.2.2.2.2 = some ty) (hn : narrow ty (.int (Int32.ofInt a)) = .int (Int32.ofInt a)) (hq : Q M (some (0, a))) : Tr l K d m pc ls [(0, a)] M Q :=
  ⟨M, some (0, a), hq, Ends.rt (Or.inr (Or.inl ⟨a, ty, hr, rfl, hd, hn⟩)) rfl⟩
theorem Tr.lret {a : Int} (hd : decode m.2.2.1 pc = .ok (.lreturn, 1)) (hr : m.2.2.2.2 = some .long) (hq : Q M (some (1, a))) : Tr l K d m pc ls [(1, a)] M Q :=
  ⟨M, some (1, a), hq, Ends.rt (Or.inr (Or.inr (Or.inl ⟨a, hr, rfl, hd⟩))) rfl⟩
theorem Tr.vret (hd : decode m.2.2.1 pc = .ok (.return_, 1)) (hr : m.2.2.2.2 = none) (hq : Q M none) : Tr l K d m pc ls [] M Q :=
  ⟨M, none, hq, Ends.rt (Or.inr (Or.inr (Or.inr (Or.inl ⟨hr, rfl, hd⟩)))) rfl⟩
theorem Tr.aret {a : Int} {ty : FieldType} (hd : decode m.2.2.1 pc = .ok (.areturn, 1)) (hr : m.2.2.2.2 = some (.array ty)) (hq : Q M (some (2, a))) : Tr l K d m pc ls [(2, a)] M Q :=
  ⟨M, some (2, a), hq, Ends.rt (Or.inr (Or.inr (Or.inr (Or.inr ⟨a, ty, hr, rfl, hd⟩)))) rfl⟩
end RULES


/-! memory: reads, writes, new cells -/
theorem e_W_at (K : EC) {M : Mem} {x : Int} (h : 0 ≤ x ∧ x < M.1) : (e_W K M)[x.toNat]? = some (K.1 + x.toNat, e_ent K M x) := by
  rw [e_W_get K M (show x.toNat < M.1 by omega), Int.toNat_of_nonneg h.1]
theorem e_ent_o (K : EC) {M : Mem} {x : Int} {c N : Nat} (h : mT M x = (c, N)) (hc : c < 20) : e_ent K M x = .inr (c, e_ob K M x) := by
  unfold e_ent
  rw [h]
  rw [if_neg (by show ¬ c = 20; omega), if_neg (by show ¬ c = 21; omega), if_neg (by show ¬ c = 22; omega), if_neg (by show ¬ c = 23; omega)]
theorem e_ent_i (K : EC) {M : Mem} {x : Int} {N : Nat} (h : mT M x = (20, N)) : e_ent K M x = .inl (K.2.2.2.1 0, N, .inl fun j => Int32.ofInt (rd M x j)) := by
  unfold e_ent
  rw [h]
  rfl
theorem e_ent_l (K : EC) {M : Mem} {x : Int} {N : Nat} (h : mT M x = (21, N)) : e_ent K M x = .inl (K.2.2.2.1 1, N, .inr (.inl fun j => Int64.ofInt (rd M x j))) := by
  unfold e_ent
  rw [h]
  rfl
theorem e_ent_b (K : EC) {M : Mem} {x : Int} {N : Nat} (h : mT M x = (22, N)) : e_ent K M x = .inl (K.2.2.2.1 2, N, .inl fun j => Int32.ofInt (rd M x j)) := by
  unfold e_ent
  rw [h]
  rfl
theorem e_ent_z (K : EC) {M : Mem} {x : Int} {N : Nat} (h : mT M x = (23, N)) : e_ent K M x = .inl (K.2.2.2.1 3, N, .inl fun j => Int32.ofInt (rd M x j)) := by
  unfold e_ent
  rw [h]
  rfl
theorem e_ent_ne (K : EC) {M M2 : Mem} {x y : Int} (hT : mT M2 = mT M) (ho : ∀ y j : Int, y ≠ x → rd M2 y j = rd M y j) (h : y ≠ x) : e_ent K M2 y = e_ent K M y := by
  have h2 : ∀ j, rd M2 y j = rd M y j := fun j => ho y j h
  simp only [e_ent, e_ob, hT, h2]
/-- the world behind a write into one cell -/
theorem e_put {K : EC} {M M2 : Mem} {H H1 : Heap} {x : Int} (hR : e_R K M H) (hx : 0 ≤ x ∧ x < M.1) (hn : M2.1 = M.1) (hT : mT M2 = mT M) (ho : ∀ y j : Int, y ≠ x → rd M2 y j = rd M y j)
    (hz : H1.size = H.size) (oq : ∀ q : Nat, q ≠ K.1 + x.toNat → H1[q]? = H[q]?) (he : va_at K.2.2.1 e_cl (K.1 + x.toNat, e_ent K M2 x) H1) : e_R K M2 H1 := by
  refine ⟨?_, by rw [hz, hn]; exact hR.2⟩
  have h := hR.1.set (e_D K M) (e_W_at K hx) he oq
  rw [e_W_set K (M' := M2) (show x.toNat < M.1 by omega) hn (by rw [Int.toNat_of_nonneg hx.1]) (fun j hj => e_ent_ne K hT ho (by omega))] at h
  exact h
theorem i32_cl {i : Int} (h : 0 ≤ i) (h2 : i ≤ 2147483647) : (Int32.ofInt i).toNatClampNeg = i.toNat := by
  show (Int32.ofInt i).toInt.toNat = _
  rw [i32_t, w32_id ⟨by omega, h2⟩]
theorem i32_in {i : Int} {n : Nat} (ho : e_ok (0, i)) (h : 0 ≤ i) (h2 : i < n) : vp_in (Int32.ofInt i) n := by
  rw [vp_in_iff, i32_tt ho]
  exact ⟨h, h2⟩
/-- a field that an instruction names: class no. cn, pool no. idx; it is field j of class ci, which has N; its kind t (0 int, 1 long, 2 cell, 3 boolean); final or not -/
def e_k : FieldType → Nat
  | .int => 0
  | .long => 1
  | .object _ => 2
  | .array _ => 2
  | .boolean => 3
  | _ => 4
def e_fld (cn idx ci : Nat) (j : Int) (N t : Nat) (fl : Bool) : Prop := ∃ (C : String) (T : u_T) (k : Nat), j = (k : Int) ∧ e_cl[ci]? = some (C, T, N) ∧ k < N ∧ (T k).1 = C ∧ e_k (e_ty ci k) = t ∧ (T k).2.2.2 = fl ∧
  (∀ w ∈ u_ws C T N, w ∈ tblG) ∧ Cond.fieldLink (e_cn cn) idx C (T k).2.1 (T k).2.2.1 ∈ tblG ∧ (∀ j, j < N → parseFieldDescriptor (T j).2.2.1 = some (e_ty ci j)) ∧ (∀ a, a < N → ∀ b, b < N → a ≠ b → (T a).2.1 ≠ (T b).2.1)
theorem e_k_tag {ty : FieldType} {t : Nat} (h : e_k ty = t) (ht : t < 3) : e_tag ty = t := by
  cases ty <;> simp [e_k, e_tag] at h ⊢ <;> omega
theorem e_k_tag3 {ty : FieldType} (h : e_k ty = 3) : ty = .boolean := by
  cases ty <;> simp [e_k] at h ⊢
/-- what a field holds is of its sort -/
theorem e_k_fit (K : EC) {ty : FieldType} {v : PV} (h : (e_k ty = v.1 ∧ v.1 < 3) ∨ (e_k ty = 3 ∧ v.1 = 0 ∧ (v.2 = 0 ∨ v.2 = 1))) : narrow ty (e_val K v) = e_val K v ∧ fits ty (e_val K v) = true := by
  obtain ⟨t, a⟩ := v
  rcases h with ⟨h, ht⟩ | ⟨h, rfl, ha⟩
  · have ht' : t < 3 := ht
    have h' : e_k ty = t := h
    match t, ht', h' with
    | 0, _, h' => cases ty <;> simp [e_k] at h' <;> exact ⟨rfl, rfl⟩
    | 1, _, h' => cases ty <;> simp [e_k] at h' <;> exact ⟨rfl, rfl⟩
    | 2, _, h' =>
      rcases e_adr_c K a with e | ⟨x, e⟩
      · rw [e]
        cases ty <;> simp [e_k] at h' <;> exact ⟨rfl, rfl⟩
      · rw [e]
        cases ty <;> simp [e_k] at h' <;> exact ⟨rfl, rfl⟩
  · rw [e_k_tag3 h]
    have ha' : a = 0 ∨ a = 1 := ha
    rcases ha' with rfl | rfl <;> exact ⟨rfl, rfl⟩
theorem e_ob_get (K : EC) {M : Mem} {x : Int} {c N j : Nat} (h : mT M x = (c, N)) (hj : j < N) : (e_ob K M x)[j]? = some (e_val K (e_tag (e_ty c j), rd M x j)) := by
  unfold e_ob
  rw [h, List.getElem?_map, List.getElem?_range hj]
  rfl
theorem e_ob_len (K : EC) {M : Mem} {x : Int} {c N : Nat} (h : mT M x = (c, N)) : (e_ob K M x).length = N := by
  unfold e_ob
  rw [h]
  simp
theorem e_ob_set (K : EC) {M : Mem} {x : Int} {c N k : Nat} {v : Int} (h : mT M x = (c, N)) (hk : k < N) : (e_ob K M x).set k (e_val K (e_tag (e_ty c k), v)) = e_ob K (wr M x k v) x := by
  have h2 : mT (wr M x k v) x = (c, N) := h
  refine List.ext_getElem? fun j => ?_
  by_cases hj : j < N
  · rw [e_ob_get K h2 hj]
    by_cases g : j = k
    · subst g
      rw [List.getElem?_set_self (by rw [e_ob_len K h]; exact hj), rd_ws]
    · rw [List.getElem?_set_ne (Ne.symm g), e_ob_get K h hj, rd_wn M (by omega)]
  · rw [List.getElem?_eq_none (by rw [List.length_set, e_ob_len K h]; omega), List.getElem?_eq_none (by rw [e_ob_len K h2]; omega)]
theorem e_sl_o {M : Mem} {x j : Int} {c N : Nat} (h : mT M x = (c, N)) (hc : c < 20) : e_sl M x j = e_tag (e_ty c j.toNat) := by
  unfold e_sl
  rw [h, if_pos hc]
section MEM
variable {l : Launch} {K : EC} {d : Nat} {m : MD} {pc : Nat} {ls ls2 : List (Nat × PV)} {st : List PV} {M : Mem} {Q : Mem → Option PV → Prop}
/-- the world of one object: a field is read -/
theorem Ends.getf {r : Option PV} {M' : Mem} {idx ci N t u : Nat} {j x : Int} {fl : Bool} (hd : decode m.2.2.1 pc = .ok (.getfield idx, 3)) (hf : e_fld m.1 idx ci j N t fl) (ht : mT M x = (ci, N)) (hu : (t = u ∧ u < 3) ∨ (t = 3 ∧ u = 0)) (hc : ci < 20)
    (h : Ends l K d m (pc + 3) ls ((u, rd M x j) :: st) M M' r) : Ends l K d m pc ls ((2, x) :: st) M M' r := by
  obtain ⟨C, T, k, rfl, hcl, hk, hTC, hty, hfl, hin, hlk, hpd, hnm⟩ := hf
  have htag : e_tag (e_ty ci k) = u := by
    rcases hu with ⟨rfl, h3⟩ | ⟨rfl, rfl⟩
    · exact e_k_tag hty h3
    · rw [e_k_tag3 hty]; rfl
  refine Ends.sk (fun hM hst hls => ?_) (fun p e R s mid args below meth c H locs cells slots lsA Q hX hf hg hR hM hst hls hS hlv kk => ?_) h
  · refine oks_c ?_ (oks_t hst)
    have := hM.2 x k
    rw [e_sl_o ht hc, Int.toNat_natCast, htag] at this
    exact this
  · have hx := e_in hM ht (by omega)
    obtain ⟨hxx, hb, hml, hr, hown, hts, hlk0, hname, hK, hb0⟩ := hX
    show W p l e R s mid args below meth c H locs cells slots Q (F0 mid pc lsA (e_val K (2, x) :: st.map (e_val K)))
    rw [e_ref K hx.1]
    have hw := e_W_at K hx
    rw [e_ent_o K ht hc] at hw
    refine va_get (ref := C) (C := C) (T := T) (N := N) hxx hb hts hin hown hK hR.1 x.toNat hw hcl k hk (hts _ hlk) (fun y hy => by rw [hTC] at hy; exact hy) (e_ob_get K ht hk) hd ?_
    rw [htag]
    exact kk
theorem Tr.getf {idx ci N t : Nat} {j x : Int} {fl : Bool} (hd : decode m.2.2.1 pc = .ok (.getfield idx, 3)) (hf : e_fld m.1 idx ci j N t fl) (h3 : t < 3) (hc : ci < 20) (ht : mT M x = (ci, N))
    (k : Tr l K d m (pc + 3) ls ((t, rd M x j) :: st) M Q) : Tr l K d m pc ls ((2, x) :: st) M Q := Tr.up (fun _ _ h => Ends.getf hd hf ht (Or.inl ⟨rfl, h3⟩) hc h) k
theorem Tr.getz {idx ci N : Nat} {j x : Int} {fl : Bool} (hd : decode m.2.2.1 pc = .ok (.getfield idx, 3)) (hf : e_fld m.1 idx ci j N 3 fl) (hc : ci < 20) (ht : mT M x = (ci, N))
    (k : Tr l K d m (pc + 3) ls ((0, rd M x j) :: st) M Q) : Tr l K d m pc ls ((2, x) :: st) M Q := Tr.up (fun _ _ h => Ends.getf hd hf ht (Or.inr ⟨rfl, rfl⟩) hc h) k
theorem Ends.putf {r : Option PV} {M' : Mem} {idx ci N t u : Nat} {j x a : Int} {fl : Bool} (hd : decode m.2.2.1 pc = .ok (.putfield idx, 3)) (hf : e_fld m.1 idx ci j N t fl) (ht : mT M x = (ci, N)) (hu : (t = u ∧ u < 3) ∨ (t = 3 ∧ u = 0 ∧ (a = 0 ∨ a = 1))) (hc : ci < 20)
    (hfi : fl = false ∨ (fl = true ∧ m.2.1.name = "<init>" ∧ e_cl[ci]?.map (fun q => q.1) = some (e_cn m.1)))
    (h : Ends l K d m (pc + 3) ls st (wr M x j a) M' r) : Ends l K d m pc ls ((u, a) :: (2, x) :: st) M M' r := by
  obtain ⟨C, T, k, rfl, hcl, hk, hTC, hty, hfl, hin, hlk, hpd, hnm⟩ := hf
  have htag : e_tag (e_ty ci k) = u := by
    rcases hu with ⟨rfl, h3⟩ | ⟨rfl, rfl, -⟩
    · exact e_k_tag hty h3
    · rw [e_k_tag3 hty]; rfl
  refine Ends.me (M2 := wr M x k a) rfl rfl (fun hM hst hls => ⟨e_okM_wr hM ?_, oks_t (oks_t hst)⟩) (fun p e R s mid args below meth c H locs cells slots lsA Q hX hf hg hR hM hst hls hS hlv kk => ?_) h
  · rw [e_sl_o ht hc, Int.toNat_natCast, htag]
    exact oks_h hst
  · have hx := e_in hM ht (by omega)
    obtain ⟨hxx, hb, hml, hr, hown, hts, hlk0, hname, hK, hb0⟩ := hX
    show W p l e R s mid args below meth c H locs cells slots Q (F0 mid pc lsA (e_val K (u, a) :: e_val K (2, x) :: st.map (e_val K)))
    rw [e_ref K hx.1]
    have hw := e_W_at K hx
    rw [e_ent_o K ht hc] at hw
    obtain ⟨hna, hfit⟩ := e_k_fit K (ty := e_ty ci k) (v := (u, a)) (by
      rcases hu with ⟨rfl, h3⟩ | ⟨rfl, rfl, ha⟩
      · exact Or.inl ⟨hty, h3⟩
      · exact Or.inr ⟨hty, rfl, ha⟩)
    have hap := va_apart (own := e_cn m.1) hts hin (e_ty ci) hpd hnm hK hcl
    obtain ⟨r9, h1, cell, q1, q2, q3, q4⟩ := hR.1 x.toNat _ hw
    cases h1.symm.trans hcl
    obtain ⟨hSl, hfc, kC, hkC, hkind⟩ := hK.1 ci _ hcl
    obtain ⟨cf, kf, fi, f, hi, hsl⟩ := hSl k hk
    have hst9 := (u_facts hfc hkC (u_lays hts hin hk) hi).1
    have hi2 : s.fieldFound? C (T k).2.1 (T k).2.2.1 = some (cf, kf, fi, f) := by rw [hTC] at hi; exact hi
    have hlay := hts _ (hin _ (u_in_lay hk))
    unfold u_lay at hlay
    have fin : ∀ (H2 : Heap), H2[K.1 + x.toNat]? = some (cell.setSlot f.slot (e_val K (u, a))) → H2.size = H.size → (∀ q, q ≠ K.1 + x.toNat → H2[q]? = H[q]?) → e_R K (wr M x k a) H2 := by
      intro H2 e1 e2 e3
      refine e_put hR hx rfl rfl (fun y j hy => rd_wn M (by omega)) e2 e3 ?_
      rw [e_ent_o K (M := wr M x k a) ht hc, ← e_ob_set K ht hk, htag]
      rw [hsl] at e1
      exact ⟨_, hcl, t_OB.to (V := updV (vp_V (e_ob K M x)) k (e_val K (u, a))) ⟨_, e1, q2, q3, t_set q4 hap hk _⟩ (fun j _ => vp_updV_set (by rw [e_ob_len K ht]; exact hk) _ j)⟩
    rcases hfi with hfi | ⟨hfi, hnm0, hcn⟩
    · rw [if_neg (by rw [hfl, hfi]; decide)] at hlay
      have h6 := u_store hfc hkC hkind hlay hi (hpd k hk) hna hfit
      exact W.putK hxx hb (f := f) ⟨hown, hts _ hlk, ⟨_, _, _, hi2⟩, hst9⟩ (by rw [q2]; exact h6) q1 q3 (by rw [hsl]; exact k2_hasslot (q4 k hk)) rfl rfl hd fun H2 e1 e2 e3 => kk H2 _ (fin H2 e1 e2 e3) (hS.put e2 e3 (Nat.le_add_right _ _))
    · rw [if_pos (by rw [hfl, hfi])] at hlay
      have hC : C = e_cn m.1 := by
        rw [hcl] at hcn
        exact Option.some.inj hcn
      have hcf : mid.cls = cf := by
        obtain ⟨_, _, c', _, _, _, -, -, hf', -, -, -, hown2, -⟩ := Cond.laysFinal_spec hlay
        have e1 : c' = cf := by have := hi.symm.trans hf'; simp at this; exact this.1.symm
        rw [hTC, hC] at hown2
        rw [← e1]; exact Option.some.inj (hown.symm.trans hown2)
      have h6 := u_fits hfc hkC hkind (Or.inr hlay) hi (hpd k hk) hna hfit
      exact W.putFinK hxx hb hown (hts _ hlk) hi2 hst9 hcf (hname hnm0) (by rw [q2]; exact h6) q1 q3 (by rw [hsl]; exact k2_hasslot (q4 k hk)) rfl rfl hd fun H2 e1 e2 e3 => kk H2 _ (fin H2 e1 e2 e3) (hS.put e2 e3 (Nat.le_add_right _ _))
theorem Tr.putf {idx ci N t : Nat} {j x a : Int} (hd : decode m.2.2.1 pc = .ok (.putfield idx, 3)) (hf : e_fld m.1 idx ci j N t false) (h3 : t < 3) (hc : ci < 20) (ht : mT M x = (ci, N))
    (k : Tr l K d m (pc + 3) ls st (wr M x j a) Q) : Tr l K d m pc ls ((t, a) :: (2, x) :: st) M Q := Tr.up (fun _ _ h => Ends.putf hd hf ht (Or.inl ⟨rfl, h3⟩) hc (Or.inl rfl) h) k
theorem Tr.putz {idx ci N : Nat} {j x a : Int} (hd : decode m.2.2.1 pc = .ok (.putfield idx, 3)) (hf : e_fld m.1 idx ci j N 3 false) (hc : ci < 20) (ht : mT M x = (ci, N)) (ha : a = 0 ∨ a = 1)
    (k : Tr l K d m (pc + 3) ls st (wr M x j a) Q) : Tr l K d m pc ls ((0, a) :: (2, x) :: st) M Q := Tr.up (fun _ _ h => Ends.putf hd hf ht (Or.inr ⟨rfl, rfl, ha⟩) hc (Or.inl rfl) h) k
theorem Tr.putF {idx ci N t : Nat} {j x a : Int} (hd : decode m.2.2.1 pc = .ok (.putfield idx, 3)) (hf : e_fld m.1 idx ci j N t true) (h3 : t < 3) (hc : ci < 20) (hi : m.2.1.name = "<init>") (ho : e_cl[ci]?.map (fun q => q.1) = some (e_cn m.1)) (ht : mT M x = (ci, N))
    (k : Tr l K d m (pc + 3) ls st (wr M x j a) Q) : Tr l K d m pc ls ((t, a) :: (2, x) :: st) M Q := Tr.up (fun _ _ h => Ends.putf hd hf ht (Or.inl ⟨rfl, h3⟩) hc (Or.inr ⟨rfl, hi, ho⟩) h) k
theorem Tr.putFz {idx ci N : Nat} {j x a : Int} (hd : decode m.2.2.1 pc = .ok (.putfield idx, 3)) (hf : e_fld m.1 idx ci j N 3 true) (hc : ci < 20) (hi : m.2.1.name = "<init>") (ho : e_cl[ci]?.map (fun q => q.1) = some (e_cn m.1)) (ht : mT M x = (ci, N)) (ha : a = 0 ∨ a = 1)
    (k : Tr l K d m (pc + 3) ls st (wr M x j a) Q) : Tr l K d m pc ls ((0, a) :: (2, x) :: st) M Q := Tr.up (fun _ _ h => Ends.putf hd hf ht (Or.inr ⟨rfl, rfl, ha⟩) hc (Or.inr ⟨rfl, hi, ho⟩) h) k

theorem Tr.iald {N : Nat} {x i : Int} (hd : decode m.2.2.1 pc = .ok (.iaload, 1)) (ht : mT M x = (20, N)) (h0 : 0 ≤ i) (h1 : i < N) (k : Tr l K d m (pc + 1) ls ((0, rd M x i) :: st) M Q) : Tr l K d m pc ls ((0, i) :: (2, x) :: st) M Q := by
  refine Tr.up (fun _ _ h => Ends.sk (fun hM hst hls => ?_) (fun p e R s mid args below meth c H locs cells slots lsA Q hX hf hg hR hM hst hls hS hlv kk => ?_) h) k
  · refine oks_c ?_ (oks_t (oks_t hst))
    have := hM.2 x i
    unfold e_sl at this
    rw [ht] at this
    exact this
  · have hx := e_in hM ht (by omega)
    obtain ⟨hxx, hb, hml, hr, hown, hts, hlk0, hname, hK, hb0⟩ := hX
    show W p l e R s mid args below meth c H locs cells slots Q (F0 mid pc lsA (e_val K (0, i) :: e_val K (2, x) :: st.map (e_val K)))
    rw [e_ref K hx.1]
    have hw := e_W_at K hx
    rw [e_ent_i K ht] at hw
    refine va_iald (i := Int32.ofInt i) hxx hb hK hR.1 x.toNat 0 hw rfl (i32_in (oks_h hst) h0 h1) hd ?_
    rw [i32_cl h0 (oks_h hst).i.2]
    show W p l e R s mid args below meth c H locs cells slots Q (F0 mid (pc + 1) lsA (e_val K (0, rd M x (i.toNat : Nat)) :: st.map (e_val K)))
    rw [Int.toNat_of_nonneg h0]
    exact kk
theorem Tr.bald {N : Nat} {x i : Int} (hd : decode m.2.2.1 pc = .ok (.baload, 1)) (ht : mT M x = (22, N)) (h0 : 0 ≤ i) (h1 : i < N) (k : Tr l K d m (pc + 1) ls ((0, rd M x i) :: st) M Q) : Tr l K d m pc ls ((0, i) :: (2, x) :: st) M Q := by
  refine Tr.up (fun _ _ h => Ends.sk (fun hM hst hls => ?_) (fun p e R s mid args below meth c H locs cells slots lsA Q hX hf hg hR hM hst hls hS hlv kk => ?_) h) k
  · refine oks_c ?_ (oks_t (oks_t hst))
    have := hM.2 x i
    unfold e_sl at this
    rw [ht] at this
    exact this
  · have hx := e_in hM ht (by omega)
    obtain ⟨hxx, hb, hml, hr, hown, hts, hlk0, hname, hK, hb0⟩ := hX
    show W p l e R s mid args below meth c H locs cells slots Q (F0 mid pc lsA (e_val K (0, i) :: e_val K (2, x) :: st.map (e_val K)))
    rw [e_ref K hx.1]
    have hw := e_W_at K hx
    rw [e_ent_b K ht] at hw
    refine va_bald (i := Int32.ofInt i) hxx hb hK hR.1 x.toNat 2 hw rfl (i32_in (oks_h hst) h0 h1) hd ?_
    rw [i32_cl h0 (oks_h hst).i.2]
    show W p l e R s mid args below meth c H locs cells slots Q (F0 mid (pc + 1) lsA (e_val K (0, rd M x (i.toNat : Nat)) :: st.map (e_val K)))
    rw [Int.toNat_of_nonneg h0]
    exact kk
theorem Tr.zald {N : Nat} {x i : Int} (hd : decode m.2.2.1 pc = .ok (.baload, 1)) (ht : mT M x = (23, N)) (h0 : 0 ≤ i) (h1 : i < N) (k : Tr l K d m (pc + 1) ls ((0, rd M x i) :: st) M Q) : Tr l K d m pc ls ((0, i) :: (2, x) :: st) M Q := by
  refine Tr.up (fun _ _ h => Ends.sk (fun hM hst hls => ?_) (fun p e R s mid args below meth c H locs cells slots lsA Q hX hf hg hR hM hst hls hS hlv kk => ?_) h) k
  · refine oks_c ?_ (oks_t (oks_t hst))
    have := hM.2 x i
    unfold e_sl at this
    rw [ht] at this
    exact this
  · have hx := e_in hM ht (by omega)
    obtain ⟨hxx, hb, hml, hr, hown, hts, hlk0, hname, hK, hb0⟩ := hX
    show W p l e R s mid args below meth c H locs cells slots Q (F0 mid pc lsA (e_val K (0, i) :: e_val K (2, x) :: st.map (e_val K)))
    rw [e_ref K hx.1]
    have hw := e_W_at K hx
    rw [e_ent_z K ht] at hw
    refine va_zald (i := Int32.ofInt i) hxx hb hK hR.1 x.toNat 3 hw rfl (i32_in (oks_h hst) h0 h1) hd ?_
    rw [i32_cl h0 (oks_h hst).i.2]
    show W p l e R s mid args below meth c H locs cells slots Q (F0 mid (pc + 1) lsA (e_val K (0, rd M x (i.toNat : Nat)) :: st.map (e_val K)))
    rw [Int.toNat_of_nonneg h0]
    exact kk
theorem Tr.lald {N : Nat} {x i : Int} (hd : decode m.2.2.1 pc = .ok (.laload, 1)) (ht : mT M x = (21, N)) (h0 : 0 ≤ i) (h1 : i < N) (k : Tr l K d m (pc + 1) ls ((1, rd M x i) :: st) M Q) : Tr l K d m pc ls ((0, i) :: (2, x) :: st) M Q := by
  refine Tr.up (fun _ _ h => Ends.sk (fun hM hst hls => ?_) (fun p e R s mid args below meth c H locs cells slots lsA Q hX hf hg hR hM hst hls hS hlv kk => ?_) h) k
  · refine oks_c ?_ (oks_t (oks_t hst))
    have := hM.2 x i
    unfold e_sl at this
    rw [ht] at this
    exact this
  · have hx := e_in hM ht (by omega)
    obtain ⟨hxx, hb, hml, hr, hown, hts, hlk0, hname, hK, hb0⟩ := hX
    show W p l e R s mid args below meth c H locs cells slots Q (F0 mid pc lsA (e_val K (0, i) :: e_val K (2, x) :: st.map (e_val K)))
    rw [e_ref K hx.1]
    have hw := e_W_at K hx
    rw [e_ent_l K ht] at hw
    refine va_lald (i := Int32.ofInt i) hxx hb hK hR.1 x.toNat 1 hw rfl (i32_in (oks_h hst) h0 h1) hd ?_
    rw [i32_cl h0 (oks_h hst).i.2]
    show W p l e R s mid args below meth c H locs cells slots Q (F0 mid (pc + 1) lsA (e_val K (1, rd M x (i.toNat : Nat)) :: st.map (e_val K)))
    rw [Int.toNat_of_nonneg h0]
    exact kk
theorem Tr.iast {N : Nat} {x i a : Int} (hd : decode m.2.2.1 pc = .ok (.iastore, 1)) (ht : mT M x = (20, N)) (h0 : 0 ≤ i) (h1 : i < N) (k : Tr l K d m (pc + 1) ls st (wr M x i a) Q) : Tr l K d m pc ls ((0, a) :: (0, i) :: (2, x) :: st) M Q := by
  refine Tr.up (fun _ _ h => Ends.me (M2 := wr M x i a) rfl rfl (fun hM hst hls => ⟨e_okM_wr hM ?_, oks_t (oks_t (oks_t hst))⟩) (fun p e R s mid args below meth c H locs cells slots lsA Q hX hf hg hR hM hst hls hS hlv kk => ?_) h) k
  · unfold e_sl
    rw [ht]
    exact oks_h hst
  · have hx := e_in hM ht (by omega)
    obtain ⟨hxx, hb, hml, hr, hown, hts, hlk0, hname, hK, hb0⟩ := hX
    show W p l e R s mid args below meth c H locs cells slots Q (F0 mid pc lsA (e_val K (0, a) :: e_val K (0, i) :: e_val K (2, x) :: st.map (e_val K)))
    rw [e_ref K hx.1]
    have hw := e_W_at K hx
    rw [e_ent_i K ht] at hw
    
    refine W.iast (j := Int32.ofInt i) (x := Int32.ofInt a) hxx hb (hR.1 x.toNat _ hw) ((hK.2 0 _ rfl).1 N (fun j => .int (Int32.ofInt (rd M x j)))) (fun q => by cases q) (by show ¬ (Int32.ofInt i < 0 ∨ (arrV _ _ _).slots.size ≤ _); rw [arrV_size]; exact i32_in (oks_h (oks_t hst)) h0 h1) rfl rfl hd fun H2 e1 e2 e3 => ?_
    refine kk H2 _ (e_put hR hx rfl rfl (fun y j hy => rd_wn M (by omega)) e2 e3 ?_) (hS.put e2 e3 (Nat.le_add_right _ _))
    rw [e_ent_i K (M := wr M x i a) ht]
    show H2[K.1 + x.toNat]? = some (vp_cell _ _)
    
    rw [e1, vp_cell_i, vp_cell_i, arrV_store, i32_cl h0 (oks_h (oks_t hst)).i.2]
    congr 2
    funext q
    by_cases hq : q = i.toNat
    · subst hq
      rw [Int.toNat_of_nonneg h0, rd_ws]
      simp [updV]
    · rw [rd_wn M (by omega)]
      simp [updV, hq]
theorem Tr.last {N : Nat} {x i a : Int} (hd : decode m.2.2.1 pc = .ok (.lastore, 1)) (ht : mT M x = (21, N)) (h0 : 0 ≤ i) (h1 : i < N) (k : Tr l K d m (pc + 1) ls st (wr M x i a) Q) : Tr l K d m pc ls ((1, a) :: (0, i) :: (2, x) :: st) M Q := by
  refine Tr.up (fun _ _ h => Ends.me (M2 := wr M x i a) rfl rfl (fun hM hst hls => ⟨e_okM_wr hM ?_, oks_t (oks_t (oks_t hst))⟩) (fun p e R s mid args below meth c H locs cells slots lsA Q hX hf hg hR hM hst hls hS hlv kk => ?_) h) k
  · unfold e_sl
    rw [ht]
    exact oks_h hst
  · have hx := e_in hM ht (by omega)
    obtain ⟨hxx, hb, hml, hr, hown, hts, hlk0, hname, hK, hb0⟩ := hX
    show W p l e R s mid args below meth c H locs cells slots Q (F0 mid pc lsA (e_val K (1, a) :: e_val K (0, i) :: e_val K (2, x) :: st.map (e_val K)))
    rw [e_ref K hx.1]
    have hw := e_W_at K hx
    rw [e_ent_l K ht] at hw
    
    refine W.last (j := Int32.ofInt i) (x := Int64.ofInt a) hxx hb (hR.1 x.toNat _ hw) ((hK.2 1 _ rfl).1 N (fun j => .long (Int64.ofInt (rd M x j)))) (fun q => by cases q) (by show ¬ (Int32.ofInt i < 0 ∨ (arrV _ _ _).slots.size ≤ _); rw [arrV_size]; exact i32_in (oks_h (oks_t hst)) h0 h1) rfl rfl hd fun H2 e1 e2 e3 => ?_
    refine kk H2 _ (e_put hR hx rfl rfl (fun y j hy => rd_wn M (by omega)) e2 e3 ?_) (hS.put e2 e3 (Nat.le_add_right _ _))
    rw [e_ent_l K (M := wr M x i a) ht]
    show H2[K.1 + x.toNat]? = some (vp_cell _ _)
    
    rw [e1, vp_cell_l, vp_cell_l, arrV_store, i32_cl h0 (oks_h (oks_t hst)).i.2]
    congr 2
    funext q
    by_cases hq : q = i.toNat
    · subst hq
      rw [Int.toNat_of_nonneg h0, rd_ws]
      simp [updV]
    · rw [rd_wn M (by omega)]
      simp [updV, hq]
theorem Tr.bast {N : Nat} {x i a : Int} (hd : decode m.2.2.1 pc = .ok (.bastore, 1)) (ht : mT M x = (22, N)) (h0 : 0 ≤ i) (h1 : i < N) (k : Tr l K d m (pc + 1) ls st (wr M x i (w8 a)) Q) : Tr l K d m pc ls ((0, a) :: (0, i) :: (2, x) :: st) M Q := by
  refine Tr.up (fun _ _ h => Ends.me (M2 := wr M x i (w8 a)) rfl rfl (fun hM hst hls => ⟨e_okM_wr hM ?_, oks_t (oks_t (oks_t hst))⟩) (fun p e R s mid args below meth c H locs cells slots lsA Q hX hf hg hR hM hst hls hS hlv kk => ?_) h) k
  · unfold e_sl
    rw [ht]
    exact ok0 (by unfold w8; omega)
  · have hx := e_in hM ht (by omega)
    obtain ⟨hxx, hb, hml, hr, hown, hts, hlk0, hname, hK, hb0⟩ := hX
    show W p l e R s mid args below meth c H locs cells slots Q (F0 mid pc lsA (e_val K (0, a) :: e_val K (0, i) :: e_val K (2, x) :: st.map (e_val K)))
    rw [e_ref K hx.1]
    have hw := e_W_at K hx
    rw [e_ent_b K ht] at hw
    have hv : narrow .byte (.int (Int32.ofInt a)) = .int (Int32.ofInt (w8 a)) := by show Value.int (Int32.ofInt a).toInt8.toInt32 = _; rw [i32_w8]
    refine W.bast (j := Int32.ofInt i) (x := Int32.ofInt a) hxx hb (hR.1 x.toNat _ hw) ((hK.2 2 _ rfl).1 N (fun j => .int (Int32.ofInt (rd M x j)))) (fun q => by cases q) (by show ¬ (Int32.ofInt i < 0 ∨ (arrV _ _ _).slots.size ≤ _); rw [arrV_size]; exact i32_in (oks_h (oks_t hst)) h0 h1) rfl rfl hd fun H2 e1 e2 e3 => ?_
    refine kk H2 _ (e_put hR hx rfl rfl (fun y j hy => rd_wn M (by omega)) e2 e3 ?_) (hS.put e2 e3 (Nat.le_add_right _ _))
    rw [e_ent_b K (M := wr M x i (w8 a)) ht]
    show H2[K.1 + x.toNat]? = some (vp_cell _ _)
    rw [hv] at e1
    rw [e1, vp_cell_i, vp_cell_i, arrV_store, i32_cl h0 (oks_h (oks_t hst)).i.2]
    congr 2
    funext q
    by_cases hq : q = i.toNat
    · subst hq
      rw [Int.toNat_of_nonneg h0, rd_ws]
      simp [updV]
    · rw [rd_wn M (by omega)]
      simp [updV, hq]
theorem Tr.zast {N : Nat} {x i a : Int} (hd : decode m.2.2.1 pc = .ok (.bastore, 1)) (ht : mT M x = (23, N)) (h0 : 0 ≤ i) (h1 : i < N) (ha : a = 0 ∨ a = 1) (k : Tr l K d m (pc + 1) ls st (wr M x i a) Q) : Tr l K d m pc ls ((0, a) :: (0, i) :: (2, x) :: st) M Q := by
  refine Tr.up (fun _ _ h => Ends.me (M2 := wr M x i a) rfl rfl (fun hM hst hls => ⟨e_okM_wr hM ?_, oks_t (oks_t (oks_t hst))⟩) (fun p e R s mid args below meth c H locs cells slots lsA Q hX hf hg hR hM hst hls hS hlv kk => ?_) h) k
  · unfold e_sl
    rw [ht]
    exact oks_h hst
  · have hx := e_in hM ht (by omega)
    obtain ⟨hxx, hb, hml, hr, hown, hts, hlk0, hname, hK, hb0⟩ := hX
    show W p l e R s mid args below meth c H locs cells slots Q (F0 mid pc lsA (e_val K (0, a) :: e_val K (0, i) :: e_val K (2, x) :: st.map (e_val K)))
    rw [e_ref K hx.1]
    have hw := e_W_at K hx
    rw [e_ent_z K ht] at hw
    have hv : narrow .boolean (.int (Int32.ofInt a)) = .int (Int32.ofInt a) := by rcases ha with rfl | rfl <;> rfl
    refine W.zast (j := Int32.ofInt i) (x := Int32.ofInt a) hxx hb (hR.1 x.toNat _ hw) ((hK.2 3 _ rfl).1 N (fun j => .int (Int32.ofInt (rd M x j)))) (fun q => by cases q) (by show ¬ (Int32.ofInt i < 0 ∨ (arrV _ _ _).slots.size ≤ _); rw [arrV_size]; exact i32_in (oks_h (oks_t hst)) h0 h1) rfl rfl hd fun H2 e1 e2 e3 => ?_
    refine kk H2 _ (e_put hR hx rfl rfl (fun y j hy => rd_wn M (by omega)) e2 e3 ?_) (hS.put e2 e3 (Nat.le_add_right _ _))
    rw [e_ent_z K (M := wr M x i a) ht]
    show H2[K.1 + x.toNat]? = some (vp_cell _ _)
    rw [hv] at e1
    rw [e1, vp_cell_i, vp_cell_i, arrV_store, i32_cl h0 (oks_h (oks_t hst)).i.2]
    congr 2
    funext q
    by_cases hq : q = i.toNat
    · subst hq
      rw [Int.toNat_of_nonneg h0, rd_ws]
      simp [updV]
    · rw [rd_wn M (by omega)]
      simp [updV, hq]
theorem Tr.alen {c0 N : Nat} {x : Int} (hd : decode m.2.2.1 pc = .ok (.arraylength, 1)) (ht : mT M x = (c0, N)) (hc : 20 ≤ c0 ∧ c0 < 24) (hN : N ≤ 2147483647) (k : Tr l K d m (pc + 1) ls ((0, (N : Int)) :: st) M Q) : Tr l K d m pc ls ((2, x) :: st) M Q := by
  refine Tr.up (fun _ _ h => Ends.sk (fun hM hst hls => oks_c (ok0 (by omega)) (oks_t hst)) (fun p e R s mid args below meth c H locs cells slots lsA Q hX hf hg hR hM hst hls hS hlv kk => ?_) h) k
  have hx := e_in hM ht (by omega)
  obtain ⟨hxx, hb, hml, hr, hown, hts, hlk0, hname, hK, hb0⟩ := hX
  show W p l e R s mid args below meth c H locs cells slots Q (F0 mid pc lsA (e_val K (2, x) :: st.map (e_val K)))
  rw [e_ref K hx.1]
  have hw := e_W_at K hx
  have hv : Int32.ofNat N = Int32.ofInt (N : Int) := by first | rfl | exact Int32.ofInt_eq_ofNat.symm | simp
  obtain rfl | rfl | rfl | rfl : c0 = 20 ∨ c0 = 21 ∨ c0 = 22 ∨ c0 = 23 := by omega
  · rw [e_ent_i K ht] at hw
    exact va_alen hxx hb hK hR.1 x.toNat 0 hw rfl hv hd kk
  · rw [e_ent_l K ht] at hw
    exact va_alen hxx hb hK hR.1 x.toNat 1 hw rfl hv hd kk
  · rw [e_ent_b K ht] at hw
    exact va_alen hxx hb hK hR.1 x.toNat 2 hw rfl hv hd kk
  · rw [e_ent_z K ht] at hw
    exact va_alen hxx hb hK hR.1 x.toNat 3 hw rfl hv hd kk
end MEM

