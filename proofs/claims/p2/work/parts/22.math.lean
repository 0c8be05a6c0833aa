/-! Math's max, min, abs: run by the machine's own entries -/
section MATHR
variable {l : Launch} {K : EC} {d : Nat} {m : MD} {pc pc2 : Nat} {ls : List (Nat × PV)} {st st2 : List PV} {M M' : Mem} {r : Option PV} {Q : Mem → Option PV → Prop}
theorem Ends.sn (hok : e_okM M → oks st → okl ls → oks st2)
    (hW : ∀ (p : Program) (e : Env) (R : Room) (s : State) (mid : MethodId) (args : Array Value) (below : List Frame) (meth : Method) (c : Code) (H : Heap) (locs : List Loc) (cells slots : Nat) (lsA : Array Slot) (Q : State → Prop), e_X K m p s mid args meth c → d ≤ R.frames → 70 * d ≤ R.locals → cells ≤ R.cells → slots ≤ R.slots → e_R K M H → e_okM M → oks st → okl ls → va_S (e_A K) s.heap H locs → lv_has lsA m.2.2.2.1 (e_lv K ls) →
      W p l e R s mid args below meth c H locs cells slots Q (F0 mid pc2 lsA (st2.map (e_val K))) → W p l e R s mid args below meth c H locs cells slots Q (F0 mid pc lsA (st.map (e_val K))))
    (h : Ends l K d m pc2 ls st2 M M' r) : Ends l K d m pc ls st M M' r := by
  obtain ⟨h1, h2, h3, h4⟩ := h
  refine ⟨h1, h2, fun a b c => h3 a (hok a b c) c, ?_⟩
  intro p e R s mid args below meth c H locs cells slots cE sE lsA Q hX hf hl hc hs hcE hsE hR hM hst hls hS hlv hend
  exact hW p e R s mid args below meth c H locs cells slots lsA Q hX hf hl (by omega) (by omega) hR hM hst hls hS hlv
    (h4 p e R s mid args below meth c H locs cells slots cE sE lsA Q hX hf hl hc hs hcE hsE hR hM (hok hM hst hls) hls hS hlv hend)
theorem i32_ltt {a b : Int} (ha : e_ok (0, a)) (hb : e_ok (0, b)) : Int32.ofInt a < Int32.ofInt b ↔ a < b := by rw [Int32.lt_iff_toInt_lt, i32_tt ha, i32_tt hb]
theorem i64_ltt {a b : Int} (ha : e_ok (1, a)) (hb : e_ok (1, b)) : Int64.ofInt a < Int64.ofInt b ↔ a < b := by rw [Int64.lt_iff_toInt_lt, i64_tt ha, i64_tt hb]
theorem Tr.mmax {idx : Nat} {a b : Int} (hd : decode m.2.2.1 pc = .ok (.invokestatic idx, 3)) (w1 : Cond.methodLink (e_cn m.1) idx Lib.Math.max.name ∈ tblG) (w2 : Cond.static Lib.Math.max.name ∈ tblG ∧ Cond.initialized "java/lang/Math" ∈ tblG ∧ Cond.code Lib.Math.max.name Lib.Math.max.code 2 (some .int) ∈ tblG) (hcat : e_cat st ≤ 8)
    (k : Tr l K (d + 1) m (pc + 3) ls ((0, if a < b then b else a) :: st) M Q) : Tr l K (d + 1) m pc ls ((0, b) :: (0, a) :: st) M Q := by
  refine Tr.up (fun _ _ h => Ends.sn (fun hM hst hls => oks_c (by split <;> first | exact oks_h hst | exact oks_h (oks_t hst)) (oks_t (oks_t hst))) (fun p e R s mid args below meth c H locs cells slots lsA Q hX hf hg hc hs hR hM hst hls hS hlv kk => ?_) h) k
  obtain ⟨hxx, hb, hml, hr, hown, hts, hlk0, hname, hK, hb0, hex, hclo⟩ := hX
  refine va_mmax (x := Int32.ofInt a) (y := Int32.ofInt b) hxx hb (hml.trans hlv.1.symm) hown (hts _ w1) (hts _ w2.1) (hts _ w2.2.1) (hts _ w2.2.2) (by omega) (by rw [e_vcats]; omega) hc hs hd ?_
  have e1 : (if Int32.ofInt a < Int32.ofInt b then Int32.ofInt b else Int32.ofInt a) = Int32.ofInt (if a < b then b else a) := by
    have h1 := i32_ltt (oks_h (oks_t hst)) (oks_h hst)
    by_cases c9 : a < b
    · rw [if_pos c9, if_pos (h1.mpr c9)]
    · rw [if_neg c9, if_neg (fun h => c9 (h1.mp h))]
  rw [e1]
  exact kk
theorem Tr.mmin {idx : Nat} {a b : Int} (hd : decode m.2.2.1 pc = .ok (.invokestatic idx, 3)) (w1 : Cond.methodLink (e_cn m.1) idx Lib.Math.min.name ∈ tblG) (w2 : Cond.static Lib.Math.min.name ∈ tblG ∧ Cond.initialized "java/lang/Math" ∈ tblG ∧ Cond.code Lib.Math.min.name Lib.Math.min.code 2 (some .int) ∈ tblG) (hcat : e_cat st ≤ 8)
    (k : Tr l K (d + 1) m (pc + 3) ls ((0, if b < a then b else a) :: st) M Q) : Tr l K (d + 1) m pc ls ((0, b) :: (0, a) :: st) M Q := by
  refine Tr.up (fun _ _ h => Ends.sn (fun hM hst hls => oks_c (by split <;> first | exact oks_h hst | exact oks_h (oks_t hst)) (oks_t (oks_t hst))) (fun p e R s mid args below meth c H locs cells slots lsA Q hX hf hg hc hs hR hM hst hls hS hlv kk => ?_) h) k
  obtain ⟨hxx, hb, hml, hr, hown, hts, hlk0, hname, hK, hb0, hex, hclo⟩ := hX
  refine va_mmin (x := Int32.ofInt a) (y := Int32.ofInt b) hxx hb (hml.trans hlv.1.symm) hown (hts _ w1) (hts _ w2.1) (hts _ w2.2.1) (hts _ w2.2.2) (by omega) (by rw [e_vcats]; omega) hc hs hd ?_
  have e1 : (if Int32.ofInt b < Int32.ofInt a then Int32.ofInt b else Int32.ofInt a) = Int32.ofInt (if b < a then b else a) := by
    have h1 := i32_ltt (oks_h hst) (oks_h (oks_t hst))
    by_cases c9 : b < a
    · rw [if_pos c9, if_pos (h1.mpr c9)]
    · rw [if_neg c9, if_neg (fun h => c9 (h1.mp h))]
  rw [e1]
  exact kk
theorem Tr.mmaxL {idx : Nat} {a b : Int} (hd : decode m.2.2.1 pc = .ok (.invokestatic idx, 3)) (w1 : Cond.methodLink (e_cn m.1) idx Lib.MathLoose.max_long.x ∈ tblG) (w2 : Cond.static Lib.MathLoose.max_long.x ∈ tblG ∧ Cond.initialized "java/lang/Math" ∈ tblG ∧ Cond.code Lib.MathLoose.max_long.x Lib.MathLoose.max_long.code 4 (some .long) ∈ tblG) (hcat : e_cat st ≤ 8)
    (k : Tr l K (d + 1) m (pc + 3) ls ((1, if b < a then a else b) :: st) M Q) : Tr l K (d + 1) m pc ls ((1, b) :: (1, a) :: st) M Q := by
  refine Tr.up (fun _ _ h => Ends.sn (fun hM hst hls => oks_c (by split <;> first | exact oks_h hst | exact oks_h (oks_t hst)) (oks_t (oks_t hst))) (fun p e R s mid args below meth c H locs cells slots lsA Q hX hf hg hc hs hR hM hst hls hS hlv kk => ?_) h) k
  obtain ⟨hxx, hb, hml, hr, hown, hts, hlk0, hname, hK, hb0, hex, hclo⟩ := hX
  refine va_mmax_long (x := Int64.ofInt a) (y := Int64.ofInt b) hxx hb (hml.trans hlv.1.symm) hown (hts _ w1) (hts _ w2.1) (hts _ w2.2.1) (hts _ w2.2.2) (by omega) (by rw [e_vcats]; omega) hc hs hd ?_
  have e1 : (if Int64.ofInt b < Int64.ofInt a then Int64.ofInt a else Int64.ofInt b) = Int64.ofInt (if b < a then a else b) := by
    have h1 := i64_ltt (oks_h hst) (oks_h (oks_t hst))
    by_cases c9 : b < a
    · rw [if_pos c9, if_pos (h1.mpr c9)]
    · rw [if_neg c9, if_neg (fun h => c9 (h1.mp h))]
  rw [e1]
  exact kk
theorem Tr.mminL {idx : Nat} {a b : Int} (hd : decode m.2.2.1 pc = .ok (.invokestatic idx, 3)) (w1 : Cond.methodLink (e_cn m.1) idx Lib.MathLoose.min_long.x ∈ tblG) (w2 : Cond.static Lib.MathLoose.min_long.x ∈ tblG ∧ Cond.initialized "java/lang/Math" ∈ tblG ∧ Cond.code Lib.MathLoose.min_long.x Lib.MathLoose.min_long.code 4 (some .long) ∈ tblG) (hcat : e_cat st ≤ 8)
    (k : Tr l K (d + 1) m (pc + 3) ls ((1, if b < a then b else a) :: st) M Q) : Tr l K (d + 1) m pc ls ((1, b) :: (1, a) :: st) M Q := by
  refine Tr.up (fun _ _ h => Ends.sn (fun hM hst hls => oks_c (by split <;> first | exact oks_h hst | exact oks_h (oks_t hst)) (oks_t (oks_t hst))) (fun p e R s mid args below meth c H locs cells slots lsA Q hX hf hg hc hs hR hM hst hls hS hlv kk => ?_) h) k
  obtain ⟨hxx, hb, hml, hr, hown, hts, hlk0, hname, hK, hb0, hex, hclo⟩ := hX
  refine va_mmin_long (x := Int64.ofInt a) (y := Int64.ofInt b) hxx hb (hml.trans hlv.1.symm) hown (hts _ w1) (hts _ w2.1) (hts _ w2.2.1) (hts _ w2.2.2) (by omega) (by rw [e_vcats]; omega) hc hs hd ?_
  have e1 : (if Int64.ofInt b < Int64.ofInt a then Int64.ofInt b else Int64.ofInt a) = Int64.ofInt (if b < a then b else a) := by
    have h1 := i64_ltt (oks_h hst) (oks_h (oks_t hst))
    by_cases c9 : b < a
    · rw [if_pos c9, if_pos (h1.mpr c9)]
    · rw [if_neg c9, if_neg (fun h => c9 (h1.mp h))]
  rw [e1]
  exact kk
theorem Tr.mabs {idx : Nat} {a : Int} (hd : decode m.2.2.1 pc = .ok (.invokestatic idx, 3)) (w1 : Cond.methodLink (e_cn m.1) idx Lib.Math.abs.name ∈ tblG) (w2 : Cond.static Lib.Math.abs.name ∈ tblG ∧ Cond.initialized "java/lang/Math" ∈ tblG ∧ Cond.code Lib.Math.abs.name Lib.Math.abs.code 1 (some .int) ∈ tblG) (hcat : e_cat st ≤ 8)
    (k : Tr l K (d + 1) m (pc + 3) ls ((0, if a < 0 then w32 (0 - a) else a) :: st) M Q) : Tr l K (d + 1) m pc ls ((0, a) :: st) M Q := by
  refine Tr.up (fun _ _ h => Ends.sn (fun hM hst hls => oks_c (by split <;> first | exact oks_h hst | exact ok0 (w32_b _)) (oks_t hst)) (fun p e R s mid args below meth c H locs cells slots lsA Q hX hf hg hc hs hR hM hst hls hS hlv kk => ?_) h) k
  obtain ⟨hxx, hb, hml, hr, hown, hts, hlk0, hname, hK, hb0, hex, hclo⟩ := hX
  refine va_mabs (x := Int32.ofInt a) hxx hb (hml.trans hlv.1.symm) hown (hts _ w1) (hts _ w2.1) (hts _ w2.2.1) (hts _ w2.2.2) (by omega) (by rw [e_vcats]; omega) hc hs hd ?_
  have e1 : (if 0 ≤ Int32.ofInt a then Int32.ofInt a else 0 - Int32.ofInt a) = Int32.ofInt (if a < 0 then w32 (0 - a) else a) := by
    have h1 : (0 : Int32) ≤ Int32.ofInt a ↔ 0 ≤ a := by
      rw [Int32.le_iff_toInt_le, i32_tt (oks_h hst)]
      rfl
    by_cases c9 : a < 0
    · rw [if_pos c9, if_neg (fun h => by have := h1.mp h; omega), i32_sub]
      rfl
    · rw [if_neg c9, if_pos (h1.mpr (by omega))]
  rw [e1]
  exact kk
theorem Tr.i2c {a : Int} (hd : decode m.2.2.1 pc = .ok (.i2c, 1)) (h : 0 ≤ a ∧ a ≤ 65535) (k : Tr l K d m (pc + 1) ls ((0, a) :: st) M Q) : Tr l K d m pc ls ((0, a) :: st) M Q := by
  have h1 : (Int32.ofInt a).toUInt32.toNat = a.toNat := by
    show (BitVec.ofInt 32 a).toNat = _
    rw [BitVec.toNat_ofInt]
    omega
  have e : ((Int32.ofInt a).toUInt32 % 65536).toInt32 = Int32.ofInt a := by
    have e1 : (Int32.ofInt a).toUInt32 % 65536 = (Int32.ofInt a).toUInt32 := by
      apply UInt32.toNat_inj.mp
      rw [UInt32.toNat_mod, h1]
      show a.toNat % 65536 = a.toNat
      omega
    rw [e1]
    rfl
  exact Tr.up (fun _ _ => Ends.sk (fun hM hst hls => oks_c (oks_h hst) (oks_t hst)) (fun p e2 R s mid args below meth c H locs cells slots lsA Q hX hf hg hR hM hst hls hS hlv k => lv_i2c (v := Int32.ofInt a) hX.1 hX.2.1 hd e k)) k
theorem nar_c {a : Int} (h : 0 ≤ a ∧ a ≤ 65535) : narrow .char (.int (Int32.ofInt a)) = .int (Int32.ofInt a) := by
  show Value.int (Int32.ofInt a).toUInt32.toUInt16.toUInt32.toInt32 = _
  have h1 : (Int32.ofInt a).toUInt32.toNat = a.toNat := by
    show (BitVec.ofInt 32 a).toNat = _
    rw [BitVec.toNat_ofInt]
    omega
  have e1 : (Int32.ofInt a).toUInt32.toUInt16.toUInt32 = (Int32.ofInt a).toUInt32 := by
    apply UInt32.toNat_inj.mp
    rw [UInt16.toNat_toUInt32, UInt32.toNat_toUInt16, h1]
    omega
  rw [e1]
  rfl
end MATHR
theorem f_max_p (a b : Int) : ((if a < b then b else a) = a ∧ b ≤ a) ∨ ((if a < b then b else a) = b ∧ a ≤ b) := by split <;> omega
theorem f_maxL_p (a b : Int) : ((if b < a then a else b) = a ∧ b ≤ a) ∨ ((if b < a then a else b) = b ∧ a ≤ b) := by split <;> omega
theorem f_min_p (a b : Int) : ((if b < a then b else a) = a ∧ a ≤ b) ∨ ((if b < a then b else a) = b ∧ b ≤ a) := by split <;> omega
theorem f_abs_p {a : Int} (h : -2147483648 < a ∧ a ≤ 2147483647) : ((if a < 0 then w32 (0 - a) else a) = a ∧ 0 ≤ a) ∨ ((if a < 0 then w32 (0 - a) else a) = -a ∧ a ≤ 0) := by
  split
  · rw [w32_id (by omega)]
    omega
  · omega
theorem f_abs_b {a : Int} (h : -2147483648 ≤ a ∧ a ≤ 2147483647) : -2147483648 ≤ (if a < 0 then w32 (0 - a) else a) ∧ (if a < 0 then w32 (0 - a) else a) ≤ 2147483647 := by
  split
  · exact w32_b _
  · exact h
/-! a row of longs, copied -/
section ACL
variable {l : Launch} {K : EC} {d : Nat} {m : MD} {pc : Nat} {ls : List (Nat × PV)} {st st0 : List PV} {M M1 M' : Mem} {Q : Mem → Option PV → Prop}
theorem Tr.acopyL {idx n0 n1 : Nat} {x y sp dp n : Int} (hd : decode m.2.2.1 pc = .ok (.invokestatic idx, 3)) (w1 : Cond.methodLink (e_cn m.1) idx arraycopyName ∈ tblG) (w2 : Cond.native arraycopyName ∈ tblG) (w3 : Cond.static arraycopyName ∈ tblG) (w4 : Cond.initialized "java/lang/System" ∈ tblG)
    (ht0 : mT M x = (21, n0)) (ht1 : mT M y = (21, n1)) (g1 : 0 ≤ sp) (g2 : 0 ≤ dp) (g3 : 0 ≤ n) (g4 : sp + n ≤ n0) (g5 : dp + n ≤ n1) (hcat : e_cat st ≤ 8)
    (k : Tr l K (d + 1) m (pc + 3) ls st (cpy M x y sp dp n) Q) : Tr l K (d + 1) m pc ls ((0, n) :: (0, dp) :: (2, y) :: (0, sp) :: (2, x) :: st) M Q := by
  refine Tr.up (fun _ _ h => Ends.me (M2 := cpy M x y sp dp n) rfl rfl (fun hM hst hls => ⟨⟨hM.1, fun z j => ?_⟩, oks_t (oks_t (oks_t (oks_t (oks_t hst))))⟩) (fun p e R s mid args below meth c H locs cells slots lsA Q hX hf hg hR hM hst hls hS hlv kk => ?_) h) k
  · rw [rd_cpy]
    show e_ok (e_sl M z j, _)
    split
    · rename_i c9
      obtain ⟨rfl, -, -⟩ := c9
      have h8 := hM.2 x (sp + (j - dp))
      unfold e_sl at h8 ⊢
      rw [ht0] at h8
      rw [ht1]
      exact h8
    · exact hM.2 z j
  · have hx := e_in hM ht0 (by omega)
    have hy := e_in hM ht1 (by omega)
    obtain ⟨hxx, hb, hml, hr, hown, hts, hlk0, hname, hK, hb0, hex, hclo⟩ := hX
    show W p l e R s mid args below meth c H locs cells slots Q (F0 mid pc lsA (e_val K (0, n) :: e_val K (0, dp) :: e_val K (2, y) :: e_val K (0, sp) :: e_val K (2, x) :: st.map (e_val K)))
    rw [e_ref K hx.1, e_ref K hy.1]
    have hwx := e_W_at K hx
    rw [e_ent_l K ht0] at hwx
    have hwy := e_W_at K hy
    rw [e_ent_l K ht1] at hwy
    have on := oks_h hst
    have odp := oks_h (oks_t hst)
    have osp := oks_h (oks_t (oks_t (oks_t hst)))
    have cn := i32_cl g3 on.i.2
    have cdp := i32_cl g2 odp.i.2
    have csp := i32_cl g1 osp.i.2
    intro T hT X
    have hc0 : H[K.1 + x.toNat]? = some (vp_cell (K.2.2.2.1 1) (n0, .inr (.inl fun j => Int64.ofInt (rd M x j)))) := hR.1 x.toNat _ hwx
    have hc1 : H[K.1 + y.toNat]? = some (vp_cell (K.2.2.2.1 1) (n1, .inr (.inl fun j => Int64.ofInt (rd M y j)))) := hR.1 y.toNat _ hwy
    obtain ⟨-, k0, hk0, cm0, hkk0⟩ := (hK.2 1 _ rfl).1 n0 (fun j => .long (Int64.ofInt (rd M x j)))
    obtain ⟨-, k1, hk1, cm1, hkk1⟩ := (hK.2 1 _ rfl).1 n1 (fun j => .long (Int64.ofInt (rd M y j)))
    obtain ⟨vm', X', step⟩ := X.arraycopy hxx hown (hts _ w1) (hts _ w2) (hts _ w3) (hts _ w4) (cs := vp_cell (K.2.2.2.1 1) (n0, .inr (.inl fun j => Int64.ofInt (rd M x j)))) (cd := vp_cell (K.2.2.2.1 1) (n1, .inr (.inl fun j => Int64.ofInt (rd M y j)))) (srcPos := Int32.ofInt sp) (destPos := Int32.ofInt dp) (n := Int32.ofInt n) (by rw [hT]; exact hc0) (by rw [hT]; exact hc1)
      (fun _ h => by cases h) (fun _ h => by cases h) (fun h => by cases h) (fun h => by cases h) hk0 hk1 hkk0 hkk1 (by rfl) (fun c9 => by have := (z32_lt osp).mp c9; omega) (fun c9 => by have := (z32_lt odp).mp c9; omega) (fun c9 => by have := (z32_lt on).mp c9; omega)
      (by rw [i32_tt osp, i32_tt on]; show ¬ _ > ((arrV _ n0 _).slots.size : Int); rw [arrV_size]; omega)
      (by rw [i32_tt odp, i32_tt on]; show ¬ _ > ((arrV _ n1 _).slots.size : Int); rw [arrV_size]; omega)
      (fun vm₁ _ i hi => by
        rw [cn] at hi
        have e : (vp_cell (K.2.2.2.1 1) (n0, .inr (.inl fun j => Int64.ofInt (rd M x j)))).slots.getD ((Int32.ofInt sp).toNatClampNeg + i) .null = .long (Int64.ofInt (rd M x (((Int32.ofInt sp).toNatClampNeg + i : Nat) : Int))) := by
          show (arrV _ n0 (fun j => .long (Int64.ofInt (rd M x j)))).slots.getD _ _ = _
          rw [Array.getD_eq_getD_getElem?, arrV_read _ _ (by rw [csp]; omega)]
          rfl
        rw [e]
        exact ⟨rfl, trivial⟩)
      (g := F0 mid pc lsA (.int (Int32.ofInt n) :: .int (Int32.ofInt dp) :: .ref (K.1 + y.toNat) :: .int (Int32.ofInt sp) :: .ref (K.1 + x.toNat) :: st.map (e_val K))) rfl (by show lsA.size = c.maxLocals; rw [hlv.1, hml]) (rest := st.map (e_val K)) rfl (by rw [hb]; exact hd) (by omega) (by show 2 * 0 + _ + _ ≤ _; rw [e_vcats]; have h60 : nativeFrameWords "java/lang/System" "arraycopy" 5 + 11 ≤ 60 := (by decide +kernel); omega)
    have e1 : copied (vp_cell (K.2.2.2.1 1) (n0, .inr (.inl fun j => Int64.ofInt (rd M x j)))) (vp_cell (K.2.2.2.1 1) (n1, .inr (.inl fun j => Int64.ofInt (rd M y j)))) (Int32.ofInt sp) (Int32.ofInt dp) (Int32.ofInt n) = vp_cell (K.2.2.2.1 1) (n1, .inr (.inl fun j => Int64.ofInt (rd (cpy M x y sp dp n) y j))) := by
      have e2 := va_copied (sp := (Int32.ofInt sp).toNatClampNeg) (dp := (Int32.ofInt dp).toNatClampNeg) (n := (Int32.ofInt n).toNatClampNeg) (fun z => Value.long z) (K.2.2.2.1 1) (K.2.2.2.1 1) (n0 := n0) (n1 := n1) (fun j => Int64.ofInt (rd M x j)) (fun j => Int64.ofInt (rd M y j)) (by rw [csp, cn]; omega)
      refine Eq.trans e2 ?_
      rw [vp_cell_l]
      congr 1
      funext j
      rw [csp, cdp, cn]
      unfold va_cpy
      rw [rd_cpy]
      by_cases c9 : dp.toNat ≤ j ∧ j < dp.toNat + n.toNat
      · rw [if_pos c9, if_pos ⟨rfl, by omega, by omega⟩]
        show Value.long (Int64.ofInt (rd M x ((sp.toNat + (j - dp.toNat) : Nat) : Int))) = _
        rw [show ((sp.toNat + (j - dp.toNat) : Nat) : Int) = sp + ((j : Int) - dp) by omega]
      · rw [if_neg c9, if_neg (by omega)]
    rw [e1] at X' step
    have hl : K.1 + y.toNat < H.size := (Array.getElem?_eq_some_iff.mp hc1).1
    have hheap : ((T.setVm vm').setCell (K.1 + y.toNat) (vp_cell (K.2.2.2.1 1) (n1, .inr (.inl fun j => Int64.ofInt (rd (cpy M x y sp dp n) y j))))).heap = H.setIfInBounds (K.1 + y.toNat) (vp_cell (K.2.2.2.1 1) (n1, .inr (.inl fun j => Int64.ofInt (rd (cpy M x y sp dp n) y j)))) := by rw [← hT]; rfl
    have oq : ∀ q : Nat, q ≠ K.1 + y.toNat → (H.setIfInBounds (K.1 + y.toNat) (vp_cell (K.2.2.2.1 1) (n1, .inr (.inl fun j => Int64.ofInt (rd (cpy M x y sp dp n) y j)))))[q]? = H[q]? := fun q hq => by simp [Array.getElem?_setIfInBounds, Ne.symm hq]
    have hR2 : e_R K (cpy M x y sp dp n) (H.setIfInBounds (K.1 + y.toNat) (vp_cell (K.2.2.2.1 1) (n1, .inr (.inl fun j => Int64.ofInt (rd (cpy M x y sp dp n) y j))))) := by
      refine e_put hR hy rfl rfl (fun z j hz => by rw [rd_cpy, if_neg (by omega)]) (by simp) oq ?_
      rw [e_ent_l K (M := cpy M x y sp dp n) ht1]
      show (H.setIfInBounds (K.1 + y.toNat) _)[K.1 + y.toNat]? = some _
      simp [Array.getElem?_setIfInBounds, hl]
    obtain ⟨t, a1, b1⟩ := kk _ _ hR2 ⟨by simp; exact hS.1, fun q g1 g2 => by
        rw [oq q (fun e => g2 (by rw [e]; exact Nat.le_add_right _ _))]
        exact hS.2.1 q g1 g2, fun q hq => by
        rcases List.mem_append.mp hq with h | h
        · exact hS.2.2 q h
        · obtain ⟨z, -, hz⟩ := List.mem_map.mp h
          rw [← hz]
          exact Nat.le_add_right _ _⟩ _ hheap X'
    exact ⟨t, step t a1, b1⟩
end ACL
