/-! Math's max, min, abs: run by the machine's own entries -/
section MATHR
variable {l : Launch} {K : EC} {d : Nat} {m : MD} {pc pc2 : Nat} {ls : List (Nat × PV)} {st st2 : List PV} {M M' : Mem} {r : Option PV} {Q : Mem → Option PV → Prop}
theorem Ends.sn (hok : e_okM M → oks st → okl ls → oks st2)
    (hW : ∀ (p : Program) (e : Env) (R : Room) (s : State) (mid : MethodId) (args : Array Value) (below : List Frame) (meth : Method) (c : Code) (H : Heap) (locs : List Loc) (cells slots : Nat) (lsA : Array Slot) (Q : State → Prop), e_X K m p s mid args meth c → d ≤ R.frames → 70 * d ≤ R.locals → cells ≤ R.cells → slots ≤ R.slots → e_R K M H → e_okM M → oks st → okl ls → va_S (e_A K) s.heap H locs → lv_has lsA m.2.2.2.1 (e_lv K ls) →
      W p l e R s mid args below meth c H locs cells slots Q (F0 mid pc2 lsA (st2.map (e_val K))) → W p l e R s mid args below meth c H locs cells slots Q (F0 mid pc lsA (st.map (e_val K))))
    (h : Ends l K d m pc2 ls st2 M M' r) : Ends l K d m pc ls st M M' r := by
  obtain ⟨h1, h2, h3, h4⟩ := h
  refine ⟨h1, h2, fun a b c => h3 a (hok a b c) c, ?_⟩
  intro p e R s mid args below meth c H locs cells slots cE sE lsA Q hX hf hl hc hs hcE hsE hR hM hst hls hS hlv hend
  exact hW p e R s mid args below meth c H locs cells slots lsA Q hX hf hl (by omega) (by omega) hR hM hst hls hS hlv
    (h4 p e R s mid args below meth c H locs cells slots cE sE lsA Q hX hf hl hc hs hcE hsE hR hM (hok hM hst hls) hls hS hlv hend)
theorem i32_ltt {a b : Int} (ha : e_ok (0, a)) (hb : e_ok (0, b)) : Int32.ofInt a < Int32.ofInt b ↔ a < b := by rw [Int32.lt_iff_toInt_lt, i32_tt ha, i32_tt hb]
theorem i64_ltt {a b : Int} (ha : e_ok (1, a)) (hb : e_ok (1, b)) : Int64.ofInt a < Int64.ofInt b ↔ a < b := by rw [Int64.lt_iff_toInt_lt, i64_tt ha, i64_tt hb]
theorem Tr.mmax {idx : Nat} {a b : Int} (hd : decode m.2.2.1 pc = .ok (.invokestatic idx, 3)) (w1 : Cond.methodLink (e_cn m.1) idx Lib.Math.max.name ∈ tblG) (w2 : Cond.static Lib.Math.max.name ∈ tblG ∧ Cond.initialized "java/lang/Math" ∈ tblG ∧ Cond.code Lib.Math.max.name Lib.Math.max.code 2 (some .int) ∈ tblG) (hcat : e_cat st ≤ 8)
    (k : Tr l K (d + 1) m (pc + 3) ls ((0, if a < b then b else a) :: st) M Q) : Tr l K (d + 1) m pc ls ((0, b) :: (0, a) :: st) M Q := by
  refine Tr.up (fun _ _ h => Ends.sn (fun hM hst hls => oks_c (by split <;> first | exact oks_h hst | exact oks_h (oks_t hst)) (oks_t (oks_t hst))) (fun p e R s mid args below meth c H locs cells slots lsA Q hX hf hg hc hs hR hM hst hls hS hlv kk => ?_) h) k
  obtain ⟨hxx, hb, hml, hr, hown, hts, hlk0, hname, hK, hb0, hex, hclo⟩ := hX
  refine va_mmax (x := Int32.ofInt a) (y := Int32.ofInt b) hxx hb (hml.trans hlv.1.symm) hown (hts _ w1) (hts _ w2.1) (hts _ w2.2.1) (hts _ w2.2.2) (by omega) (by rw [e_vcats]; omega) hc hs hd ?_
  have e1 : (if Int32.ofInt a < Int32.ofInt b then Int32.ofInt b else Int32.ofInt a) = Int32.ofInt (if a < b then b else a) := by
    have h1 := i32_ltt (oks_h (oks_t hst)) (oks_h hst)
    by_cases c9 : a < b
    · rw [if_pos c9, if_pos (h1.mpr c9)]
    · rw [if_neg c9, if_neg (fun h => c9 (h1.mp h))]
  rw [e1]
  exact kk
theorem Tr.mmin {idx : Nat} {a b : Int} (hd : decode m.2.2.1 pc = .ok (.invokestatic idx, 3)) (w1 : Cond.methodLink (e_cn m.1) idx Lib.Math.min.name ∈ tblG) (w2 : Cond.static Lib.Math.min.name ∈ tblG ∧ Cond.initialized "java/lang/Math" ∈ tblG ∧ Cond.code Lib.Math.min.name Lib.Math.min.code 2 (some .int) ∈ tblG) (hcat : e_cat st ≤ 8)
    (k : Tr l K (d + 1) m (pc + 3) ls ((0, if b < a then b else a) :: st) M Q) : Tr l K (d + 1) m pc ls ((0, b) :: (0, a) :: st) M Q := by
  refine Tr.up (fun _ _ h => Ends.sn (fun hM hst hls => oks_c (by split <;> first | exact oks_h hst | exact oks_h (oks_t hst)) (oks_t (oks_t hst))) (fun p e R s mid args below meth c H locs cells slots lsA Q hX hf hg hc hs hR hM hst hls hS hlv kk => ?_) h) k
  obtain ⟨hxx, hb, hml, hr, hown, hts, hlk0, hname, hK, hb0, hex, hclo⟩ := hX
  refine va_mmin (x := Int32.ofInt a) (y := Int32.ofInt b) hxx hb (hml.trans hlv.1.symm) hown (hts _ w1) (hts _ w2.1) (hts _ w2.2.1) (hts _ w2.2.2) (by omega) (by rw [e_vcats]; omega) hc hs hd ?_
  have e1 : (if Int32.ofInt b < Int32.ofInt a then Int32.ofInt b else Int32.ofInt a) = Int32.ofInt (if b < a then b else a) := by
    have h1 := i32_ltt (oks_h hst) (oks_h (oks_t hst))
    by_cases c9 : b < a
    · rw [if_pos c9, if_pos (h1.mpr c9)]
    · rw [if_neg c9, if_neg (fun h => c9 (h1.mp h))]
  rw [e1]
  exact kk
theorem Tr.mmaxL {idx : Nat} {a b : Int} (hd : decode m.2.2.1 pc = .ok (.invokestatic idx, 3)) (w1 : Cond.methodLink (e_cn m.1) idx Lib.MathLoose.max_long.x ∈ tblG) (w2 : Cond.static Lib.MathLoose.max_long.x ∈ tblG ∧ Cond.initialized "java/lang/Math" ∈ tblG ∧ Cond.code Lib.MathLoose.max_long.x Lib.MathLoose.max_long.code 4 (some .long) ∈ tblG) (hcat : e_cat st ≤ 8)
    (k : Tr l K (d + 1) m (pc + 3) ls ((1, if b < a then a else b) :: st) M Q) : Tr l K (d + 1) m pc ls ((1, b) :: (1, a) :: st) M Q := by
  refine Tr.up (fun _ _ h => Ends.sn (fun hM hst hls => oks_c (by split <;> first | exact oks_h hst | exact oks_h (oks_t hst)) (oks_t (oks_t hst))) (fun p e R s mid args below meth c H locs cells slots lsA Q hX hf hg hc hs hR hM hst hls hS hlv kk => ?_) h) k
  obtain ⟨hxx, hb, hml, hr, hown, hts, hlk0, hname, hK, hb0, hex, hclo⟩ := hX
  refine va_mmax_long (x := Int64.ofInt a) (y := Int64.ofInt b) hxx hb (hml.trans hlv.1.symm) hown (hts _ w1) (hts _ w2.1) (hts _ w2.2.1) (hts _ w2.2.2) (by omega) (by rw [e_vcats]; omega) hc hs hd ?_
  have e1 : (if Int64.ofInt b < Int64.ofInt a then Int64.ofInt a else Int64.ofInt b) = Int64.ofInt (if b < a then a else b) := by
    have h1 := i64_ltt (oks_h hst) (oks_h (oks_t hst))
    by_cases c9 : b < a
    · rw [if_pos c9, if_pos (h1.mpr c9)]
    · rw [if_neg c9, if_neg (fun h => c9 (h1.mp h))]
  rw [e1]
  exact kk
theorem Tr.mminL {idx : Nat} {a b : Int} (hd : decode m.2.2.1 pc = .ok (.invokestatic idx, 3)) (w1 : Cond.methodLink (e_cn m.1) idx Lib.MathLoose.min_long.x ∈ tblG) (w2 : Cond.static Lib.MathLoose.min_long.x ∈ tblG ∧ Cond.initialized "java/lang/Math" ∈ tblG ∧ Cond.code Lib.MathLoose.min_long.x Lib.MathLoose.min_long.code 4 (some .long) ∈ tblG) (hcat : e_cat st ≤ 8)
    (k : Tr l K (d + 1) m (pc + 3) ls ((1, if b < a then b else a) :: st) M Q) : Tr l K (d + 1) m pc ls ((1, b) :: (1, a) :: st) M Q := by
  refine Tr.up (fun _ _ h => Ends.sn (fun hM hst hls => oks_c (by split <;> first | exact oks_h hst | exact oks_h (oks_t hst)) (oks_t (oks_t hst))) (fun p e R s mid args below meth c H locs cells slots lsA Q hX hf hg hc hs hR hM hst hls hS hlv kk => ?_) h) k
  obtain ⟨hxx, hb, hml, hr, hown, hts, hlk0, hname, hK, hb0, hex, hclo⟩ := hX
  refine va_mmin_long (x := Int64.ofInt a) (y := Int64.ofInt b) hxx hb (hml.trans hlv.1.symm) hown (hts _ w1) (hts _ w2.1) (hts _ w2.2.1) (hts _ w2.2.2) (by omega) (by rw [e_vcats]; omega) hc hs hd ?_
  have e1 : (if Int64.ofInt b < Int64.ofInt a then Int64.ofInt b else Int64.ofInt a) = Int64.ofInt (if b < a then b else a) := by
    have h1 := i64_ltt (oks_h hst) (oks_h (oks_t hst))
    by_cases c9 : b < a
    · rw [if_pos c9, if_pos (h1.mpr c9)]
    · rw [if_neg c9, if_neg (fun h => c9 (h1.mp h))]
  rw [e1]
  exact kk
theorem Tr.mabs {idx : Nat} {a : Int} (hd : decode m.2.2.1 pc = .ok (.invokestatic idx, 3)) (w1 : Cond.methodLink (e_cn m.1) idx Lib.Math.abs.name ∈ tblG) (w2 : Cond.static Lib.Math.abs.name ∈ tblG ∧ Cond.initialized "java/lang/Math" ∈ tblG ∧ Cond.code Lib.Math.abs.name Lib.Math.abs.code 1 (some .int) ∈ tblG) (hcat : e_cat st ≤ 8)
    (k : Tr l K (d + 1) m (pc + 3) ls ((0, if a < 0 then w32 (0 - a) else a) :: st) M Q) : Tr l K (d + 1) m pc ls ((0, a) :: st) M Q := by
  refine Tr.up (fun _ _ h => Ends.sn (fun hM hst hls => oks_c (by split <;> first | exact oks_h hst | exact ok0 (w32_b _)) (oks_t hst)) (fun p e R s mid args below meth c H locs cells slots lsA Q hX hf hg hc hs hR hM hst hls hS hlv kk => ?_) h) k
  obtain ⟨hxx, hb, hml, hr, hown, hts, hlk0, hname, hK, hb0, hex, hclo⟩ := hX
  refine va_mabs (x := Int32.ofInt a) hxx hb (hml.trans hlv.1.symm) hown (hts _ w1) (hts _ w2.1) (hts _ w2.2.1) (hts _ w2.2.2) (by omega) (by rw [e_vcats]; omega) hc hs hd ?_
  have e1 : (if 0 ≤ Int32.ofInt a then Int32.ofInt a else 0 - Int32.ofInt a) = Int32.ofInt (if a < 0 then w32 (0 - a) else a) := by
    have h1 : (0 : Int32) ≤ Int32.ofInt a ↔ 0 ≤ a := by
      rw [Int32.le_iff_toInt_le, i32_tt (oks_h hst)]
      rfl
    by_cases c9 : a < 0
    · rw [if_pos c9, if_neg (fun h => by have := h1.mp h; omega), i32_sub]
      rfl
    · rw [if_neg c9, if_pos (h1.mpr (by omega))]
  rw [e1]
  exact kk
theorem Tr.i2c {a : Int} (hd : decode m.2.2.1 pc = .ok (.i2c, 1)) (h : 0 ≤ a ∧ a ≤ 65535) (k : Tr l K d m (pc + 1) ls ((0, a) :: st) M Q) : Tr l K d m pc ls ((0, a) :: st) M Q := by
  have h1 : (Int32.ofInt a).toUInt32.toNat = a.toNat := by
    show (BitVec.ofInt 32 a).toNat = _
    rw [BitVec.toNat_ofInt]
    omega
  have e : ((Int32.ofInt a).toUInt32 % 65536).toInt32 = Int32.ofInt a := by
    have e1 : (Int32.ofInt a).toUInt32 % 65536 = (Int32.ofInt a).toUInt32 := by
      apply UInt32.toNat_inj.mp
      rw [UInt32.toNat_mod, h1]
      show a.toNat % 65536 = a.toNat
      omega
    rw [e1]
    rfl
  exact Tr.up (fun _ _ => Ends.sk (fun hM hst hls => oks_c (oks_h hst) (oks_t hst)) (fun p e2 R s mid args below meth c H locs cells slots lsA Q hX hf hg hR hM hst hls hS hlv k => lv_i2c (v := Int32.ofInt a) hX.1 hX.2.1 hd e k)) k
theorem nar_c {a : Int} (h : 0 ≤ a ∧ a ≤ 65535) : narrow .char (.int (Int32.ofInt a)) = .int (Int32.ofInt a) := by
  show Value.int (Int32.ofInt a).toUInt32.toUInt16.toUInt32.toInt32 = _
  have h1 : (Int32.ofInt a).toUInt32.toNat = a.toNat := by
    show (BitVec.ofInt 32 a).toNat = _
    rw [BitVec.toNat_ofInt]
    omega
  have e1 : (Int32.ofInt a).toUInt32.toUInt16.toUInt32 = (Int32.ofInt a).toUInt32 := by
    apply UInt32.toNat_inj.mp
    rw [UInt16.toNat_toUInt32, UInt32.toNat_toUInt16, h1]
    omega
  rw [e1]
  rfl
end MATHR
theorem f_max_p (a b : Int) : ((if a < b then b else a) = a ∧ b ≤ a) ∨ ((if a < b then b else a) = b ∧ a ≤ b) := by split <;> omega
theorem f_maxL_p (a b : Int) : ((if b < a then a else b) = a ∧ b ≤ a) ∨ ((if b < a then a else b) = b ∧ a ≤ b) := by split <;> omega
theorem f_min_p (a b : Int) : ((if b < a then b else a) = a ∧ a ≤ b) ∨ ((if b < a then b else a) = b ∧ b ≤ a) := by split <;> omega
theorem f_abs_p {a : Int} (h : -2147483648 < a ∧ a ≤ 2147483647) : ((if a < 0 then w32 (0 - a) else a) = a ∧ 0 ≤ a) ∨ ((if a < 0 then w32 (0 - a) else a) = -a ∧ a ≤ 0) := by
  split
  · rw [w32_id (by omega)]
    omega
  · omega
theorem f_abs_b {a : Int} (h : -2147483648 ≤ a ∧ a ≤ 2147483647) : -2147483648 ≤ (if a < 0 then w32 (0 - a) else a) ∧ (if a < 0 then w32 (0 - a) else a) ≤ 2147483647 := by
  split
  · exact w32_b _
  · exact h
