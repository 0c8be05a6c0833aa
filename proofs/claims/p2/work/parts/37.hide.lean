/-! disjunctions are laid aside; how far the reading is -/
def Hd (p : Prop) : Prop := p
theorem hd_i {p : Prop} (h : p) : Hd p := h
theorem hd_o {p : Prop} (h : Hd p) : p := h
theorem ne_o {a b : Int} (h : a ≠ b) : a < b ∨ b < a := by omega
theorem ct_out {x j e a b n i v : Int} {M M2 : Mem} (w : Wr M x i v M2) (hx : x ≠ 120) (h : rd M 120 j = n) (hi : n ≤ i) : ctV x j e a b M2 = ctV x j e a b M := by
  unfold ctV
  rw [show rd M2 120 j = rd M 120 j from w.2 _ _ (fun c => hx c.1.symm)]
  exact ctN_cg fun k k0 k1 => by rw [show rd M2 x k = rd M x k from w.2 _ _ (fun c => by have := c.2; omega)]
def nbf (v : Int) : Int := if v = 18 then 0 else if v ≤ 5 then 2000 else 1
theorem nbf_c (v : Int) : (v = 18 ∧ nbf v = 0) ∨ (v ≤ 5 ∧ nbf v = 2000) ∨ (5 < v ∧ v ≠ 18 ∧ nbf v = 1) := by
  unfold nbf
  split
  · omega
  · split <;> omega
/-- the OPS that wait: 18 counts 0, the others 1 (what can't wait counts too much) -/
def nb2v (M : Mem) : Int := ctN (fun i => nbf (rd M 150 i)) (rd M 120 46).toNat
theorem nb2v_of {M M2 : Mem} (h0 : ∀ i : Int, rd M2 150 i = rd M 150 i) (h1 : rd M2 120 46 = rd M 120 46) : nb2v M2 = nb2v M := by
  unfold nb2v
  rw [h1]
  exact ctN_cg fun i _ _ => by rw [h0]
theorem ctN_k {f : Int → Int} (h : ∀ i : Int, 0 ≤ f i ∧ f i ≤ 2000) (n : Nat) : 0 ≤ ctN f n ∧ ctN f n ≤ 2000 * n := by
  induction n with
  | zero => exact ⟨Int.le_refl 0, Int.le_refl 0⟩
  | succ n ih =>
    have := h n
    rw [ctN]
    omega
theorem nb2v_b {M : Mem} (h : Iv M) : 0 ≤ nb2v M ∧ nb2v M ≤ 1000000 := by
  have h1 := ctN_k (f := fun i => nbf (rd M 150 i)) (fun i => by have := nbf_c (rd M 150 i); omega) (rd M 120 46).toNat
  have h2 := ir_120_46 h
  exact ⟨h1.1, Int.le_trans h1.2 (by omega)⟩
theorem nb2_push {n v : Int} {M M2 : Mem} (h : rd M 120 46 = n) (h2 : rd M2 120 46 = n + 1) (hv : rd M2 150 n = v) (ho : ∀ i : Int, i ≠ n → rd M2 150 i = rd M 150 i) (hn : 0 ≤ n) : (v = 18 ∧ nb2v M2 = nb2v M) ∨ (v ≤ 5 ∧ nb2v M2 = nb2v M + 2000) ∨ (5 < v ∧ v ≠ 18 ∧ nb2v M2 = nb2v M + 1) := by
  obtain ⟨k, rfl⟩ : ∃ k : Nat, n = k := ⟨n.toNat, by omega⟩
  have e1 : nb2v M2 = nb2v M + nbf v := by
    unfold nb2v
    rw [h, h2, show ((k : Int) + 1).toNat = k + 1 by omega, ctN, hv, Int.toNat_natCast]
    congr 1
    exact ctN_cg fun i _ i1 => by rw [ho i (by omega)]
  have h3 := nbf_c v
  omega
theorem nb2_pop {n : Int} {M M2 : Mem} (h : rd M 120 46 = n) (h2 : rd M2 120 46 = n - 1) (ho : ∀ i : Int, rd M2 150 i = rd M 150 i) (hn : 1 ≤ n) : (rd M2 150 (n - 1) = 18 ∧ nb2v M = nb2v M2) ∨ (rd M2 150 (n - 1) ≤ 5 ∧ nb2v M = nb2v M2 + 2000) ∨ (5 < rd M2 150 (n - 1) ∧ rd M2 150 (n - 1) ≠ 18 ∧ nb2v M = nb2v M2 + 1) :=
  nb2_push (M := M2) (M2 := M) h2 (by rw [h]; omega) (ho _).symm (fun i _ => (ho i).symm) (by omega)
theorem nb2_zero {M : Mem} (h : rd M 120 46 = 0) : nb2v M = 0 := by
  unfold nb2v
  rw [h]
  rfl
theorem me_lt {a b : Int} {n : Nat} (h : b.toNat < n + 1) (h1 : a < b) (h2 : 0 < b) : a.toNat < n := by omega
def tav (M : Mem) : Int := 2 * rd M 120 5 - (if rd M 120 3 = 0 then 0 else 1)
theorem tav_of {M M2 : Mem} (h0 : rd M2 120 5 = rd M 120 5) (h1 : rd M2 120 3 = rd M 120 3) : tav M2 = tav M := by unfold tav; rw [h0, h1]
theorem tav_b {M : Mem} (h : Iv M) : -1 ≤ tav M ∧ tav M ≤ 1800 := by
  have h1 := ir_120_5 h
  unfold tav
  split <;> omega
theorem tav_c {M : Mem} {a b : Int} (h0 : rd M 120 5 = a) (h1 : rd M 120 3 = b) : (b = 0 ∧ tav M = 2 * a) ∨ (b ≠ 0 ∧ tav M = 2 * a - 1) := by
  unfold tav
  rw [h0, h1]
  by_cases c : b = 0
  · rw [if_pos c]; exact Or.inl ⟨c, by omega⟩
  · rw [if_neg c]; exact Or.inr ⟨c, rfl⟩

/-! asks put together: how many ways are still to come -/
def shv (M : Mem) : Int := 7776 * (rd M 187 0 - rd M 189 0) + 1296 * (rd M 187 1 - rd M 189 1) + 216 * (rd M 187 2 - rd M 189 2) + 36 * (rd M 187 3 - rd M 189 3) + 6 * (rd M 187 4 - rd M 189 4) + (rd M 187 5 - rd M 189 5)
theorem shv_of {M M2 : Mem} (h0 : ∀ i : Int, rd M2 187 i = rd M 187 i) (h1 : ∀ i : Int, rd M2 189 i = rd M 189 i) : shv M2 = shv M := by unfold shv; simp only [h0, h1]
theorem shv_b {M : Mem} (h : Iv M) : -46655 ≤ shv M ∧ shv M ≤ 46655 := by
  have a0 := ar_187 h 0
  have a1 := ar_187 h 1
  have a2 := ar_187 h 2
  have a3 := ar_187 h 3
  have a4 := ar_187 h 4
  have a5 := ar_187 h 5
  have b0 := ar_189 h 0
  have b1 := ar_189 h 1
  have b2 := ar_189 h 2
  have b3 := ar_189 h 3
  have b4 := ar_189 h 4
  have b5 := ar_189 h 5
  unfold shv
  omega
theorem shv_w {M M2 : Mem} {i v r : Int} (w : Wr M 189 i v M2) (hr : rd M 189 i = r) (i0 : 0 ≤ i) (i1 : i < 6) : (i = 0 ∧ shv M2 = shv M + 7776 * r - 7776 * v) ∨ (i = 1 ∧ shv M2 = shv M + 1296 * r - 1296 * v) ∨ (i = 2 ∧ shv M2 = shv M + 216 * r - 216 * v) ∨ (i = 3 ∧ shv M2 = shv M + 36 * r - 36 * v) ∨ (i = 4 ∧ shv M2 = shv M + 6 * r - 6 * v) ∨ (i = 5 ∧ shv M2 = shv M + r - v) := by
  have a : ∀ j : Int, rd M2 187 j = rd M 187 j := fun j => w.2 _ _ (fun c => absurd c.1 (by decide))
  have b : ∀ j : Int, j ≠ i → rd M2 189 j = rd M 189 j := fun j h => w.2 _ _ (fun c => h c.2)
  have c := w.1
  subst hr
  have hi : i = 0 ∨ i = 1 ∨ i = 2 ∨ i = 3 ∨ i = 4 ∨ i = 5 := by omega
  unfold shv
  simp only [a]
  rcases hi with rfl | rfl | rfl | rfl | rfl | rfl
  · rw [b 1 (by decide), b 2 (by decide), b 3 (by decide), b 4 (by decide), b 5 (by decide), c]; omega
  · rw [b 0 (by decide), b 2 (by decide), b 3 (by decide), b 4 (by decide), b 5 (by decide), c]; omega
  · rw [b 0 (by decide), b 1 (by decide), b 3 (by decide), b 4 (by decide), b 5 (by decide), c]; omega
  · rw [b 0 (by decide), b 1 (by decide), b 2 (by decide), b 4 (by decide), b 5 (by decide), c]; omega
  · rw [b 0 (by decide), b 1 (by decide), b 2 (by decide), b 3 (by decide), b 5 (by decide), c]; omega
  · rw [b 0 (by decide), b 1 (by decide), b 2 (by decide), b 3 (by decide), b 4 (by decide), c]; omega
def Sg (M : Mem) : Prop := ∀ k : Int, 0 ≤ k → k < 6 → rd M 189 k ≤ rd M 187 k
theorem Sg.fr {M M2 : Mem} (h : Sg M) (h0 : ∀ i : Int, rd M2 187 i = rd M 187 i) (h1 : ∀ i : Int, rd M2 189 i = rd M 189 i) : Sg M2 := fun k k0 k1 => by rw [h0, h1]; exact h k k0 k1
theorem Sg.wr {M M2 : Mem} {i v : Int} (h : Sg M) (w : Wr M 189 i v M2) (hv : v ≤ rd M 187 i) : Sg M2 := fun k k0 k1 => by
  rw [show rd M2 187 k = rd M 187 k from w.2 _ _ (fun c => absurd c.1 (by decide))]
  by_cases c : k = i
  · rw [c, w.1]; exact hv
  · rw [w.2 _ _ (fun d => c d.2)]; exact h k k0 k1
def Sz (M : Mem) (n : Int) : Prop := ∀ k : Int, 0 ≤ k → k < n → rd M 189 k = 0
theorem Sz.g {M : Mem} {n : Int} (h : Sz M n) (hV : Iv M) (hn : 6 ≤ n) : Sg M := fun k k0 k1 => by
  rw [h k k0 (by omega)]
  exact (ar_187 hV k).1
theorem Sz.wr {M M2 : Mem} {n : Int} (h : Sz M n) (w : Wr M 189 n 0 M2) : Sz M2 (n + 1) := fun k k0 k1 => by
  by_cases c : k = n
  · rw [c, w.1]
  · rw [w.2 _ _ (fun d => c d.2)]; exact h k k0 (by omega)

/-! never: how many bits came -/
theorem popN_or (k : Nat) : ∀ n m : Nat, n < 2 ^ k → m < 2 ^ k → popN k n ≤ popN k (n ||| m) ∧ (n ||| m ≠ n → popN k n < popN k (n ||| m)) := by
  induction k with
  | zero =>
    intro n m h1 h2
    have e1 : n = 0 := by omega
    have e2 : m = 0 := by omega
    subst e1
    subst e2
    exact ⟨Nat.le_refl _, fun c => absurd (Nat.or_zero 0) c⟩
  | succ k ih =>
    intro n m h1 h2
    have h := ih (n / 2) (m / 2) (by rw [Nat.pow_succ] at h1; omega) (by rw [Nat.pow_succ] at h2; omega)
    have e1 : (n ||| m) / 2 = n / 2 ||| m / 2 := Nat.or_div_two
    have e2 : (n ||| m) % 2 = 1 ↔ n % 2 = 1 ∨ m % 2 = 1 := Nat.or_mod_two_eq_one
    show n % 2 + popN k (n / 2) ≤ (n ||| m) % 2 + popN k ((n ||| m) / 2) ∧ (n ||| m ≠ n → n % 2 + popN k (n / 2) < (n ||| m) % 2 + popN k ((n ||| m) / 2))
    obtain ⟨q, hq⟩ : ∃ q, n ||| m = q := ⟨_, rfl⟩
    rw [hq] at e1 e2 ⊢
    rw [← e1] at h
    refine ⟨by omega, fun c => ?_⟩
    by_cases d : q / 2 = n / 2
    · rw [d]; omega
    · have := h.2 d; omega
theorem u64_lor (a b : Int) : u64 (f_lor a b) = u64 a ||| u64 b := by
  rw [← i64_nat, ← i64_nat, ← i64_nat]
  unfold f_lor
  rw [Int64.ofInt_toInt, Int64.toBitVec_or, BitVec.toNat_or]
theorem pop_lor {a b : Int} (h : -9223372036854775808 ≤ a ∧ a ≤ 9223372036854775807) : pop a ≤ pop (f_lor a b) ∧ (f_lor a b = a ∨ pop a < pop (f_lor a b)) := by
  have h1 := popN_or 64 (u64 a) (u64 b) (u64_lt a) (u64_lt b)
  rw [← u64_lor] at h1
  refine ⟨h1.1, ?_⟩
  by_cases c : u64 (f_lor a b) = u64 a
  · refine Or.inl ?_
    have h2 : -9223372036854775808 ≤ f_lor a b ∧ f_lor a b ≤ 9223372036854775807 := i64_b _
    unfold u64 at c
    omega
  · exact Or.inr (h1.2 c)
theorem ctN_set {f g : Int → Int} {i : Int} {n : Nat} (h : ∀ j : Int, j ≠ i → g j = f j) (i0 : 0 ≤ i) (i1 : i < n) : ctN g n = ctN f n + g i - f i := by
  induction n with
  | zero => omega
  | succ n ih =>
    rw [ctN, ctN]
    by_cases c : i = n
    · rw [ctN_cg (g := f) (n := n) (fun j j0 j1 => h j (by omega)), c]
      omega
    · rw [ih (by omega), h n (fun d => c d.symm)]
      omega
theorem ctN_u {f : Int → Int} {c : Int} (h : ∀ i : Int, 0 ≤ f i ∧ f i ≤ c) (n : Nat) : 0 ≤ ctN f n ∧ ctN f n ≤ c * n := by
  induction n with
  | zero => exact ⟨Int.le_refl 0, by rw [ctN]; omega⟩
  | succ n ih =>
    have h1 := h n
    have h2 : c * ((n + 1 : Nat) : Int) = c * (n : Int) + c := by rw [Int.natCast_add, Int.mul_add]; omega
    rw [ctN]
    omega
def cmv (M : Mem) : Int := ctN (fun k => (pop (rd M 190 k) : Int)) 201
theorem cmv_of {M M2 : Mem} (h : ∀ i : Int, rd M2 190 i = rd M 190 i) : cmv M2 = cmv M := ctN_cg fun i _ _ => by rw [h]
theorem cmv_b {M : Mem} (_ : Iv M) : 0 ≤ cmv M ∧ cmv M ≤ 12864 := by
  have h := ctN_u (f := fun k => (pop (rd M 190 k) : Int)) (c := 64) (fun i => by have := pop_le (rd M 190 i); omega) 201
  unfold cmv
  omega
theorem cm_w {M M2 : Mem} {i v : Int} (w : Wr M 190 i v M2) (i0 : 0 ≤ i) (i1 : i < 201) : cmv M2 = cmv M + pop v - pop (rd M 190 i) := by
  unfold cmv
  rw [ctN_set (f := fun k => (pop (rd M 190 k) : Int)) (g := fun k => (pop (rd M2 190 k) : Int)) (i := i) (fun j hj => by rw [w.2 _ _ (fun c => hj c.2)]) i0 i1, w.1]
def Nv (M : Mem) (i j v : Int) : Prop := f_lor (rd M 190 i) v ≠ rd M 190 i ∨ f_lor (rd M 190 j) v ≠ rd M 190 j
theorem cm_two {M M1 M2 : Mem} {i j v a b q p : Int} (h : q = 0 ∨ p ≠ 0 ∨ Nv M i j v) (w1 : Wr M 190 i a M1) (w2 : Wr M1 190 j b M2) (ha : f_lor (rd M 190 i) v = a) (hb : f_lor (rd M1 190 j) v = b) (V : Iv M) (V1 : Iv M1) (i0 : 0 ≤ i) (i1 : i < 201) (j0 : 0 ≤ j) (j1 : j < 201) : cmv M ≤ cmv M2 ∧ (q = 0 ∨ p ≠ 0 ∨ cmv M < cmv M2) := by
  have p1 := pop_lor (a := rd M 190 i) (b := v) (ar_190 V i)
  have p2 := pop_lor (a := rd M1 190 j) (b := v) (ar_190 V1 j)
  have e1 := cm_w w1 i0 i1
  have e2 := cm_w w2 j0 j1
  rw [ha] at p1
  rw [hb] at p2
  refine ⟨by omega, ?_⟩
  rcases h with h | h | h
  · exact Or.inl h
  · exact Or.inr (Or.inl h)
  refine Or.inr (Or.inr ?_)
  have n1 : a ≠ rd M 190 i ∨ b ≠ rd M1 190 j := by
    by_cases c : a = rd M 190 i
    · refine Or.inr ?_
      have e3 : rd M1 190 j = rd M 190 j := by
        by_cases d : j = i
        · rw [d, w1.1]; exact c
        · exact w1.2 _ _ (fun z => d z.2)
      rcases h with h | h
      · exact absurd (ha.trans c) h
      · rw [← hb, e3]; exact h
    · exact Or.inl c
  rcases n1 with c | c
  · have := p1.2.resolve_left c
    omega
  · have := p2.2.resolve_left c
    omega

/-! byTurns: the LINES of a STRETCH, one by one -/
def tpS (b l : Int) : Int := popN 64 (u64 b / 2 ^ l.toNat)
theorem tpS_0 (b : Int) : tpS b 0 = pop b := by
  unfold tpS pop
  rw [show (0 : Int).toNat = 0 from rfl, Nat.pow_zero, Nat.div_one]
theorem popN_64 (n : Nat) (h : n < 18446744073709551616) : popN 64 n = n % 2 + popN 64 (n / 2) := by
  rw [← popN_ext 64 n (by omega)]
  rfl
theorem tpS_s (b : Int) {l : Int} (h : 0 ≤ l) : tpS b l = ((u64 b / 2 ^ l.toNat % 2 : Nat) : Int) + tpS b (l + 1) ∧ 0 ≤ tpS b (l + 1) := by
  unfold tpS
  rw [show (l + 1).toNat = l.toNat + 1 by omega, Nat.pow_succ, ← Nat.div_div_eq_div_mul, popN_64 (u64 b / 2 ^ l.toNat) (Nat.lt_of_le_of_lt (Nat.div_le_self _ _) (u64_lt b))]
  omega
theorem sshr_k (a : Int) {s : Int} (s0 : 0 ≤ s) (s1 : s < 64) : (f_lshr a s) % 2 = ((u64 a / 2 ^ s.toNat % 2 : Nat) : Int) := by
  obtain ⟨k, rfl⟩ : ∃ k : Nat, s = k := ⟨s.toNat, by omega⟩
  have hk : k < 64 := by omega
  have hs : (((Int32.ofInt (k : Int)).toInt64 &&& 63).toBitVec.smod 64).toNat = k := by
    have : ∀ k : Fin 64, (((Int32.ofInt ((k.val : Nat) : Int)).toInt64 &&& 63).toBitVec.smod 64).toNat = k.val := by decide +kernel
    exact this ⟨k, hk⟩
  obtain ⟨x, hx⟩ : ∃ x : BitVec 64, (Int64.ofInt a).toBitVec = x := ⟨_, rfl⟩
  have hu : u64 a = x.toNat := by rw [← hx, i64_nat]
  have e1 : f_lshr a k = (x.sshiftRight k).toInt := by
    unfold f_lshr
    show BitVec.toInt _ = _
    rw [Int64.toBitVec_shiftRight, hx]
    show (x.sshiftRight (BitVec.toNat _)).toInt = _
    rw [hs]
  obtain ⟨c, hc⟩ : ∃ c : Nat, (2 : Nat) ^ 64 = 2 ^ k * (2 * c) := ⟨2 ^ (63 - k), by
    rw [← Nat.pow_succ', ← Nat.pow_add]
    congr 1
    omega⟩
  have hp : 0 < 2 ^ k := Nat.two_pow_pos k
  rw [e1, hu, Int.toNat_natCast, BitVec.toInt_sshiftRight, Int.shiftRight_eq_div_pow, BitVec.toInt_eq_toNat_cond]
  obtain ⟨y, hy⟩ : ∃ y, x.toNat = y := ⟨_, rfl⟩
  rw [hy]
  have e2 : ((y / 2 ^ k % 2 : Nat) : Int) = (y : Int) / ((2 ^ k : Nat) : Int) % 2 := by
    rw [Int.natCast_emod, Int.natCast_ediv]
    rfl
  rw [e2]
  split
  · rfl
  · have e3 : (y : Int) - ((2 ^ 64 : Nat) : Int) = (y : Int) + ((2 ^ k : Nat) : Int) * (-(2 * (c : Int))) := by
      rw [hc, Int.natCast_mul, Int.natCast_mul, Int.mul_neg]
      rfl
    rw [e3, Int.add_mul_ediv_left _ _ (by omega)]
    omega
theorem tpS_l {b l r : Int} (h : f_lshr b l = r) (l0 : 0 ≤ l) (l1 : l < 64) : (0 ≤ f_land r 1 ∧ f_land r 1 ≤ 1) ∧ tpS b l = f_land r 1 + tpS b (l + 1) ∧ 0 ≤ tpS b (l + 1) := by
  have h1 := tpS_s b l0
  have h2 := sshr_k b l0 l1
  have h3 := f_land_1 r
  rw [h] at h2
  omega
theorem shl_8 {m : Int} (h : 0 ≤ m) (h2 : m ≤ 8) : 1 ≤ f_ishl 1 m ∧ f_ishl 1 m ≤ 256 := by
  have hm : m = 0 ∨ m = 1 ∨ m = 2 ∨ m = 3 ∨ m = 4 ∨ m = 5 ∨ m = 6 ∨ m = 7 ∨ m = 8 := by omega
  rcases hm with rfl | rfl | rfl | rfl | rfl | rfl | rfl | rfl | rfl <;> decide +kernel
theorem shl_7 {m : Int} (h : 0 ≤ m) (h2 : m ≤ 7) : 1 ≤ f_ishl 1 m ∧ f_ishl 1 m ≤ 128 := by
  have hm : m = 0 ∨ m = 1 ∨ m = 2 ∨ m = 3 ∨ m = 4 ∨ m = 5 ∨ m = 6 ∨ m = 7 := by omega
  rcases hm with rfl | rfl | rfl | rfl | rfl | rfl | rfl | rfl <;> decide +kernel
theorem ior_8 {a b : Int} (h : 0 ≤ a ∧ a ≤ 255) (h2 : 0 ≤ b ∧ b ≤ 255) : 0 ≤ f_ior a b ∧ f_ior a b ≤ 255 := by
  have t : ∀ x : Int, 0 ≤ x ∧ x ≤ 255 → (Int32.ofInt x).toBitVec.toNat < 2 ^ 8 := fun x hx => by
    show (BitVec.ofInt 32 x).toNat < _
    rw [BitVec.toNat_ofInt]
    omega
  have h3 : (Int32.ofInt a ||| Int32.ofInt b).toBitVec.toNat < 2 ^ 8 := by
    rw [Int32.toBitVec_or, BitVec.toNat_or]
    exact Nat.or_lt_two_pow (t a h) (t b h2)
  have e : f_ior a b = ((Int32.ofInt a ||| Int32.ofInt b).toBitVec.toNat : Int) := BitVec.toInt_eq_toNat_of_lt (by omega)
  rw [e]
  omega
