/-! bits of longs -/
def u64 (x : Int) : Nat := (x % 18446744073709551616).toNat
theorem u64_lt (x : Int) : u64 x < 18446744073709551616 := by unfold u64; omega
theorem i64_nat (x : Int) : (Int64.ofInt x).toBitVec.toNat = u64 x := by
  show (BitVec.ofInt 64 x).toNat = _
  rw [BitVec.toNat_ofInt]
  rfl
theorem i64_low (b : BitVec 64) (h : b.toNat < 9223372036854775808) : b.toInt = (b.toNat : Int) := BitVec.toInt_eq_toNat_of_lt (by omega)
/-- land with the k lowest bits -/
theorem f_land_m {a m : Int} (k : Nat) (hk : k ≤ 62) (hm : (Int64.ofInt m).toBitVec.toNat = 2 ^ k - 1) : f_land a m = ((u64 a % 2 ^ k : Nat) : Int) := by
  unfold f_land
  have h1 : (Int64.ofInt a &&& Int64.ofInt m).toBitVec.toNat = u64 a % 2 ^ k := by
    rw [Int64.toBitVec_and, BitVec.toNat_and, hm, i64_nat, Nat.and_two_pow_sub_one_eq_mod]
  have h2 : u64 a % 2 ^ k < 2 ^ k := Nat.mod_lt _ (Nat.two_pow_pos k)
  have h3 : 2 ^ k ≤ 2 ^ 62 := Nat.pow_le_pow_right (by decide) hk
  show BitVec.toInt _ = _
  rw [i64_low _ (by rw [h1]; omega), h1]
theorem f_land_1 (a : Int) : f_land a 1 = a % 2 ∧ 0 ≤ f_land a 1 ∧ f_land a 1 ≤ 1 := by
  rw [f_land_m (a := a) (m := 1) 1 (by decide) (by decide)]
  unfold u64
  omega
theorem f_land_b {a m : Int} (k : Nat) (hk : k ≤ 62) (hm : (Int64.ofInt m).toBitVec.toNat = 2 ^ k - 1) (he : ((2 ^ k - 1 : Nat) : Int) = m) : 0 ≤ f_land a m ∧ f_land a m ≤ m := by
  rw [f_land_m k hk hm]
  have h2 : u64 a % 2 ^ k < 2 ^ k := Nat.mod_lt _ (Nat.two_pow_pos k)
  omega
theorem lushr_k (a : Int) (s : Nat) (s0 : 1 ≤ s) (s1 : s < 64) (hy : ((Int32.ofInt (s : Int)).toInt64.toUInt64 &&& Int64.toUInt64 63).toNat = s) : f_lushr a (s : Int) = ((u64 a / 2 ^ s : Nat) : Int) := by
  unfold f_lushr
  have h1 : ((Int64.ofInt a).toUInt64 >>> ((Int32.ofInt (s : Int)).toInt64.toUInt64 &&& Int64.toUInt64 63)).toNat = u64 a / 2 ^ s := by
    rw [UInt64.toNat_shiftRight, hy, Nat.mod_eq_of_lt s1, Nat.shiftRight_eq_div_pow]
    exact congrArg (· / 2 ^ s) (i64_nat a)
  have h2 : u64 a / 2 ^ s < 9223372036854775808 := by
    have h3 : 2 ^ 1 ≤ 2 ^ s := Nat.pow_le_pow_right (by decide) s0
    have h4 := u64_lt a
    exact Nat.div_lt_of_lt_mul (by omega)
  show BitVec.toInt (((Int64.ofInt a).toUInt64 >>> _).toBitVec) = _
  rw [i64_low _ (by show UInt64.toNat _ < _; rw [h1]; exact h2)]
  show ((UInt64.toNat _ : Nat) : Int) = _
  rw [h1]
theorem lushr_1 (a : Int) : f_lushr a 1 = ((u64 a / 2 : Nat) : Int) := lushr_k a 1 (by decide) (by decide) (by decide +kernel)
theorem lushr_8 (a : Int) : f_lushr a 8 = ((u64 a / 256 : Nat) : Int) := lushr_k a 8 (by decide) (by decide) (by decide +kernel)
theorem lushr_p1 (a : Int) : (0 ≤ f_lushr a 1 ∧ f_lushr a 1 ≤ 9223372036854775807) ∧ f_lushr a 1 = (a % 18446744073709551616) / 2 := by
  rw [lushr_1]
  unfold u64
  omega
theorem lushr_p8 (a : Int) : (0 ≤ f_lushr a 8 ∧ f_lushr a 8 ≤ 72057594037927935) ∧ f_lushr a 8 = (a % 18446744073709551616) / 256 := by
  rw [lushr_8]
  unfold u64
  omega
/-- how many bits -/
def popN : Nat → Nat → Nat
  | 0, _ => 0
  | k + 1, n => n % 2 + popN k (n / 2)
def pop (x : Int) : Nat := popN 64 (u64 x)
theorem popN_le (k : Nat) : ∀ n, popN k n ≤ k := by
  induction k with
  | zero => intro n; exact Nat.le_refl 0
  | succ k ih =>
    intro n
    have := ih (n / 2)
    unfold popN
    omega
theorem popN_ext (k : Nat) : ∀ n, n < 2 ^ k → popN (k + 1) n = popN k n := by
  induction k with
  | zero =>
    intro n h
    have : n = 0 := by omega
    subst this
    rfl
  | succ k ih =>
    intro n h
    have h2 := ih (n / 2) (by rw [Nat.pow_succ] at h; omega)
    show n % 2 + popN (k + 1) (n / 2) = n % 2 + popN k (n / 2)
    rw [h2]
theorem popN_pos (k : Nat) : ∀ n, n < 2 ^ k → n ≠ 0 → 0 < popN k n := by
  induction k with
  | zero => intro n h h0; omega
  | succ k ih =>
    intro n h h0
    show 0 < n % 2 + popN k (n / 2)
    by_cases c : n % 2 = 0
    · have := ih (n / 2) (by rw [Nat.pow_succ] at h; omega) (by omega)
      omega
    · omega
theorem popN_zero (k : Nat) : popN k 0 = 0 := by
  induction k with
  | zero => rfl
  | succ k ih =>
    show 0 % 2 + popN k (0 / 2) = 0
    rw [Nat.zero_div, ih]
theorem pop_le (x : Int) : pop x ≤ 64 := popN_le 64 _
theorem pop_0 : pop 0 = 0 := popN_zero 64
theorem pop_pos {x : Int} (h : x ≠ 0) (h2 : -9223372036854775808 ≤ x ∧ x ≤ 9223372036854775807) : 0 < pop x := popN_pos 64 _ (u64_lt x) (by unfold u64; omega)
theorem pop_half (x : Int) : (pop x : Int) = x % 2 + pop (f_lushr x 1) := by
  rw [lushr_1]
  have e : u64 ((u64 x / 2 : Nat) : Int) = u64 x / 2 := by
    have := u64_lt x
    unfold u64 at this ⊢
    omega
  unfold pop
  rw [e, popN_ext 63 (u64 x / 2) (by have := u64_lt x; omega)]
  show ((u64 x % 2 + popN 63 (u64 x / 2) : Nat) : Int) = _
  unfold u64
  omega
theorem rem_abs (a b : Int) (h : -9223372036854775808 ≤ a ∧ a ≤ 9223372036854775807) (hb : b ≠ 0) : (-9223372036854775808 ≤ a.tmod b ∧ a.tmod b ≤ 9223372036854775807) ∧ ((0 < b → -b < a.tmod b ∧ a.tmod b < b) ∧ (b < 0 → b < a.tmod b ∧ a.tmod b < -b)) := by
  have h1 := rem64_b a b h
  have h2 : (a.tmod b).natAbs < b.natAbs := by
    rw [Int.natAbs_tmod]
    exact Nat.mod_lt _ (by omega)
  exact ⟨h1, fun c => by omega, fun c => by omega⟩
theorem orders_mul {v k : Int} (h : (k = 2 ∧ v = 1) ∨ (k = 3 ∧ v = 2) ∨ (k = 4 ∧ v = 6) ∨ (k = 5 ∧ v = 24) ∨ (k = 6 ∧ v = 120) ∨ (k = 7 ∧ v = 720) ∨ (k = 8 ∧ v = 5040) ∨ (k = 9 ∧ v = 40320) ∨ 9 < k) : (-9223372036854775808 ≤ w64 (v * k) ∧ w64 (v * k) ≤ 9223372036854775807) ∧ ((k = 2 ∧ w64 (v * k) = 2) ∨ (k = 3 ∧ w64 (v * k) = 6) ∨ (k = 4 ∧ w64 (v * k) = 24) ∨ (k = 5 ∧ w64 (v * k) = 120) ∨ (k = 6 ∧ w64 (v * k) = 720) ∨ (k = 7 ∧ w64 (v * k) = 5040) ∨ (k = 8 ∧ w64 (v * k) = 40320) ∨ 8 < k) := by
  refine ⟨w64_b _, ?_⟩
  rcases h with ⟨rfl, rfl⟩ | ⟨rfl, rfl⟩ | ⟨rfl, rfl⟩ | ⟨rfl, rfl⟩ | ⟨rfl, rfl⟩ | ⟨rfl, rfl⟩ | ⟨rfl, rfl⟩ | ⟨rfl, rfl⟩ | h
  · exact Or.inl ⟨rfl, by decide⟩
  · exact Or.inr (Or.inl ⟨rfl, by decide⟩)
  · exact Or.inr (Or.inr (Or.inl ⟨rfl, by decide⟩))
  · exact Or.inr (Or.inr (Or.inr (Or.inl ⟨rfl, by decide⟩)))
  · exact Or.inr (Or.inr (Or.inr (Or.inr (Or.inl ⟨rfl, by decide⟩))))
  · exact Or.inr (Or.inr (Or.inr (Or.inr (Or.inr (Or.inl ⟨rfl, by decide⟩)))))
  · exact Or.inr (Or.inr (Or.inr (Or.inr (Or.inr (Or.inr (Or.inl ⟨rfl, by decide⟩))))))
  · omega
  · omega
theorem lushr_pop (a : Int) : f_lushr a 1 = (a % 18446744073709551616) / 2 ∧ (0 ≤ f_lushr a 1 ∧ f_lushr a 1 ≤ 9223372036854775807) ∧ (pop a : Int) = a % 2 + pop (f_lushr a 1) := ⟨(lushr_p1 a).2, (lushr_p1 a).1, pop_half a⟩
theorem pop_b {a v n : Int} (h : n + pop v = pop a) (hv : v = 0) (h2 : -9223372036854775808 ≤ a ∧ a ≤ 9223372036854775807) : (n = pop a ∧ 0 ≤ n ∧ n ≤ 64) ∧ (a = 0 ∨ 1 ≤ n) := by
  subst hv
  rw [pop_0] at h
  have h3 := pop_le a
  refine ⟨by omega, ?_⟩
  by_cases c : a = 0
  · exact Or.inl c
  · have := pop_pos c h2
    omega
