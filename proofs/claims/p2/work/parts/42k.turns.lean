/-! turns: what byTurns needs of the users of a STRETCH -/
def bt (b l : Int) : Prop := u64 b / 2 ^ l.toNat % 2 = 1
theorem bt_of {b l r : Int} (h : f_lshr b l = r) (l0 : 0 ≤ l) (l1 : l < 64) (hn : f_land r 1 ≠ 0) : bt b l := by
  have h1 := tpS_l h l0 l1
  have h2 := tpS_s b l0
  unfold bt
  omega
/-- how many of a's bits are below l -/
def rk (a l : Int) : Nat := popN l.toNat (u64 a)
theorem shl_t : ∀ k : Fin 60, f_lshl 1 (k.val : Int) = ((2 ^ k.val : Nat) : Int) := by decide +kernel
theorem rk_v {a l : Int} (h : 0 ≤ l ∧ l ≤ 59) : pop (f_land a (w64 (f_lshl 1 l - 1))) = rk a l := by
  obtain ⟨k, rfl⟩ : ∃ k : Nat, l = k := ⟨l.toNat, by omega⟩
  have e0 : f_lshl 1 (k : Int) = ((2 ^ k : Nat) : Int) := shl_t ⟨k, by omega⟩
  have p0 : 0 < 2 ^ k := Nat.two_pow_pos k
  have p1 : 2 ^ k ≤ 2 ^ 59 := Nat.pow_le_pow_right (by decide) (by omega)
  have e1 : (((2 ^ k : Nat) : Int) - 1) = ((2 ^ k - 1 : Nat) : Int) := by omega
  unfold pop rk
  rw [e0, u64_land, u64_w, e1, u64_c (by omega), Nat.and_two_pow_sub_one_eq_mod, Int.toNat_natCast]
  have s := popN_split k (64 - k) (u64 a % 2 ^ k)
  rw [show k + (64 - k) = 64 by omega, popN_mod, Nat.div_eq_of_lt (Nat.mod_lt _ p0), popN_zero, Nat.add_zero] at s
  exact s
theorem rk_lt {a l : Int} (hb : bt a l) (h : 0 ≤ l ∧ l ≤ 59) : rk a l + 1 ≤ pop a := by
  obtain ⟨k, rfl⟩ : ∃ k : Nat, l = k := ⟨l.toNat, by omega⟩
  unfold bt at hb
  unfold rk pop
  rw [Int.toNat_natCast] at *
  have s := popN_split k (64 - k) (u64 a)
  rw [show k + (64 - k) = 64 by omega] at s
  have s2 : popN (64 - k) (u64 a / 2 ^ k) = u64 a / 2 ^ k % 2 + popN (63 - k) (u64 a / 2 ^ k / 2) := by
    rw [show 64 - k = (63 - k) + 1 by omega]
    rfl
  omega
theorem ish_t : ∀ k : Fin 9, f_ishl 1 (k.val : Int) = ((2 ^ k.val : Nat) : Int) := by decide +kernel
theorem ish_b {m : Int} (h : 1 ≤ m ∧ m ≤ 8) : 2 ≤ f_ishl 1 m ∧ f_ishl 1 m ≤ 256 := by
  obtain rfl | rfl | rfl | rfl | rfl | rfl | rfl | rfl : m = 1 ∨ m = 2 ∨ m = 3 ∨ m = 4 ∨ m = 5 ∨ m = 6 ∨ m = 7 ∨ m = 8 := by omega
  all_goals decide +kernel
theorem sh_tab : ∀ k : Fin 9, ∀ p : Fin 8, ∀ s : Fin 256, p.val < k.val → s.val < 2 ^ k.val → f_iand (s.val : Int) (f_ishl 1 (p.val : Int)) = 0 → ((pop (s.val : Int) + 1 ≤ k.val) ∧ (0 ≤ f_ior (s.val : Int) (f_ishl 1 (p.val : Int)) ∧ f_ior (s.val : Int) (f_ishl 1 (p.val : Int)) ≤ 255)) := by decide +kernel
theorem sh_t {m s p b : Int} (hm : 1 ≤ m ∧ m ≤ 8) (hp : 0 ≤ p ∧ p < m) (hb : b = f_ishl 1 p) (hs : 0 ≤ s ∧ s < f_ishl 1 m) (hz : f_iand s b = 0) : (pop s : Int) + 1 ≤ m ∧ (0 ≤ f_ior s b ∧ f_ior s b ≤ 255) := by
  subst hb
  have h256 := (ish_b hm).2
  obtain ⟨k, rfl⟩ : ∃ k : Nat, m = k := ⟨m.toNat, by omega⟩
  obtain ⟨q, rfl⟩ : ∃ q : Nat, p = q := ⟨p.toNat, by omega⟩
  obtain ⟨n, rfl⟩ : ∃ n : Nat, s = n := ⟨s.toNat, by omega⟩
  have e : f_ishl 1 (k : Int) = ((2 ^ k : Nat) : Int) := ish_t ⟨k, by omega⟩
  rw [e] at hs h256
  have h := sh_tab ⟨k, by omega⟩ ⟨q, by omega⟩ ⟨n, by omega⟩ (show q < k by omega) (show n < 2 ^ k by omega) hz
  have h1 : pop (n : Int) + 1 ≤ k := h.1
  exact ⟨by omega, h.2⟩
section
variable {q : Mem → Prop} {ws : List (Int × Int)} {as : List Int} {M0 M M' : Mem}
/-- the users that were weighed are those of the STRETCH that was weighed -/
def TW (M : Mem) : Prop := rd M 100 3 = -1 ∨ rd M 100 2 = rd M (rd M 63 5) (rd M 100 3)
def TU (M : Mem) (a : Int) : Prop := rd M 100 2 = rd M (rd M 63 5) a ∧ (rd M 63 5 = 68 ∨ 191 ≤ rd M 63 5)
theorem tl_u (h : St q ws as M0 M) : rd M 63 5 = 68 ∨ 191 ≤ rd M 63 5 := by
  rw [tl_ref h rfl (j := 5) (by decide)]
  rcases tl_b h rfl with e | e | e | e | e | e | e <;> rw [e] <;> decide
theorem TU.of1 (h : St q ws as M0 M) (hw : TW M) {a : Int} (ha : rd M 100 3 = a) (h0 : 0 ≤ a) : TU M a := by
  refine ⟨?_, tl_u h⟩
  rcases hw with c | c
  · omega
  · rw [c, ha]
theorem TU.new {a v : Int} (hs : St q ws as M0 M') (w : Wr M 100 2 v M') (e : rd M (rd M 63 5) a = v) : TU M' a := by
  have ht := tl_u hs
  have e5 : rd M' 63 5 = rd M 63 5 := Wr.b w rfl
  refine ⟨?_, ht⟩
  rw [e5] at ht ⊢
  rw [w.1, Wr.n w (y := rd M 63 5) (by omega), e]
def chk (ws : List (Int × Int)) (as : List Int) : Bool := as.all (fun x => decide (x ≠ 63 ∧ x ≠ 68 ∧ x ≠ 191)) && ws.all (fun c => decide (c.1 ≠ 68 ∧ c ≠ (63, 5)))
def chT (ws : List (Int × Int)) (as : List Int) : Bool := chk ws as && (as.all (fun x => decide (x ≠ 100)) && ws.all (fun c => decide (c ≠ (100, 2) ∧ c ≠ (100, 3))))
theorem chk_a (hc : chk ws as = true) : (∀ x ∈ as, x ≠ 63 ∧ x ≠ 68 ∧ x ≠ 191) ∧ ∀ c ∈ ws, c.1 ≠ 68 ∧ c ≠ (63, 5) := by
  unfold chk at hc
  rw [Bool.and_eq_true] at hc
  exact ⟨fun x hx => of_decide_eq_true (List.all_eq_true.mp hc.1 x hx), fun c hx => of_decide_eq_true (List.all_eq_true.mp hc.2 c hx)⟩
theorem chT_a (hc : chT ws as = true) : chk ws as = true ∧ (∀ x ∈ as, x ≠ 100) ∧ ∀ c ∈ ws, c ≠ (100, 2) ∧ c ≠ (100, 3) := by
  unfold chT at hc
  rw [Bool.and_eq_true, Bool.and_eq_true] at hc
  exact ⟨hc.1, fun x hx => of_decide_eq_true (List.all_eq_true.mp hc.2.1 x hx), fun c hx => of_decide_eq_true (List.all_eq_true.mp hc.2.2 c hx)⟩
theorem St.u5 (hs : St q ws as M M') (hc : chk ws as = true) : rd M' 63 5 = rd M 63 5 :=
  St.kp hs (by decide) (fun c => ((chk_a hc).1 _ c).1 rfl) (fun c => ((chk_a hc).2 _ c).2 rfl)
theorem St.ud (hs : St q ws as M M') (hc : chk ws as = true) (a : Int) : rd M' (rd M' 63 5) a = rd M (rd M 63 5) a := by
  have ht := tl_u hs
  rw [St.u5 hs hc] at ht ⊢
  rcases ht with c | c
  · rw [c]
    exact St.kp hs (by decide) (fun d => ((chk_a hc).1 _ d).2.1 rfl) (fun d => ((chk_a hc).2 _ d).1 rfl)
  · exact hs.2.2 (fun d => ((chk_a hc).1 _ d).2.2 rfl) _ _ c
theorem St.u2 (hs : St q ws as M M') (hc : chT ws as = true) : rd M' 100 2 = rd M 100 2 ∧ rd M' 100 3 = rd M 100 3 :=
  ⟨St.kp hs (by decide) (fun d => (chT_a hc).2.1 _ d rfl) (fun d => ((chT_a hc).2.2 _ d).1 rfl), St.kp hs (by decide) (fun d => (chT_a hc).2.1 _ d rfl) (fun d => ((chT_a hc).2.2 _ d).2 rfl)⟩
theorem TU.st {a : Int} (h : TU M a) (hs : St q ws as M M') (hc : chT ws as = true) : TU M' a :=
  ⟨(St.u2 hs hc).1.trans (h.1.trans (St.ud hs (chT_a hc).1 a).symm), tl_u hs⟩
theorem TU.wa {a x : Int} (h : TU M a) (w : Wa M x M') (hx : x < 191 ∧ x ≠ 63 ∧ x ≠ 68 ∧ x ≠ 100) : TU M' a := by
  have e5 : rd M' 63 5 = rd M 63 5 := Wa.n w (by omega)
  refine ⟨?_, by rw [e5]; exact h.2⟩
  rw [e5, Wa.n w (y := 100) (by omega), Wa.n w (y := rd M 63 5) (by have := h.2; omega)]
  exact h.1
theorem TW.st (h : TW M) (hs : St q ws as M M') (hc : chT ws as = true) : TW M' := by
  rcases h with c | c
  · exact Or.inl ((St.u2 hs hc).2.trans c)
  · refine Or.inr ?_
    rw [(St.u2 hs hc).1, (St.u2 hs hc).2, St.ud hs (chT_a hc).1]
    exact c
end
