/-! the model: depth of a SUM's or TEST's codes, ranks of places, TAILS -/
theorem lshr_z (a b : Int) : (-9223372036854775808 ≤ f_lshr a b ∧ f_lshr a b ≤ 9223372036854775807) ∧ (a ≠ 0 ∨ f_lshr a b = 0) := by
  refine ⟨i64_b _, ?_⟩
  by_cases c : a = 0
  · subst c
    refine Or.inr ?_
    unfold f_lshr
    show BitVec.toInt _ = 0
    rw [Int64.toBitVec_shiftRight]
    show (BitVec.sshiftRight' (BitVec.ofInt 64 0) _).toInt = 0
    simp [BitVec.sshiftRight']
  · exact Or.inl c
theorem lshl_z (a b : Int) : (-9223372036854775808 ≤ f_lshl a b ∧ f_lshl a b ≤ 9223372036854775807) ∧ (a ≠ 0 ∨ f_lshl a b = 0) := by
  refine ⟨i64_b _, ?_⟩
  by_cases c : a = 0
  · subst c
    refine Or.inr ?_
    unfold f_lshl
    show BitVec.toInt _ = 0
    rw [Int64.toBitVec_shiftLeft]
    show BitVec.toInt ((BitVec.ofInt 64 0) <<< (_ : BitVec 64)) = 0
    simp
  · exact Or.inl c
theorem lor_z (a : Int) {b : Int} (h : -9223372036854775808 ≤ b ∧ b ≤ 9223372036854775807) : (-9223372036854775808 ≤ f_lor a b ∧ f_lor a b ≤ 9223372036854775807) ∧ (a ≠ 0 ∨ f_lor a b = b) := by
  refine ⟨i64_b _, ?_⟩
  by_cases c : a = 0
  · subst c
    refine Or.inr ?_
    unfold f_lor
    have e : (Int64.ofInt 0 ||| Int64.ofInt b) = Int64.ofInt b := by
      rw [← Int64.toBitVec_inj, Int64.toBitVec_or]
      show BitVec.ofInt 64 0 ||| _ = _
      simp
    rw [e, i64_t, w64_id h]
  · exact Or.inl c
def dl (o : Int) : Int := if o ≤ 5 then 1 else if o = 18 then 0 else -1
theorem dl_c (o : Int) : (o ≤ 5 ∧ dl o = 1) ∨ (o = 18 ∧ dl o = 0) ∨ (5 < o ∧ o ≠ 18 ∧ dl o = -1) := by
  unfold dl
  split
  · omega
  · split <;> omega
def dp (M : Mem) (s : Int) : Nat → Int
  | 0 => 0
  | n + 1 => dp M s n + dl (rd M 143 (s + n))
theorem dp_le (M : Mem) (s : Int) (n : Nat) : dp M s n ≤ n := by
  induction n with
  | zero => exact Int.le_refl 0
  | succ n ih =>
    have := dl_c (rd M 143 (s + n))
    rw [dp]
    omega
theorem dp_of {M M2 : Mem} (h : ∀ j : Int, rd M2 143 j = rd M 143 j) (s : Int) (n : Nat) : dp M2 s n = dp M s n := by
  induction n with
  | zero => rfl
  | succ n ih => rw [dp, dp, ih, h]
def psf (M : Mem) (s : Int) (n : Nat) : Prop := ∀ i : Nat, i < n → (5 < rd M 143 (s + i) → 1 ≤ dp M s i) ∧ (5 < rd M 143 (s + i) → rd M 143 (s + i) ≠ 18 → 2 ≤ dp M s i)
theorem psf.of {M M2 : Mem} {s : Int} {n : Nat} (h : psf M s n) (h8 : ∀ j : Int, rd M2 143 j = rd M 143 j) : psf M2 s n := fun i hi => by
  rw [h8, dp_of h8]
  exact h i hi
def rkf (d a : Int) : Int := if d = 0 then 201 - a else 0
theorem rkf_b (d : Int) {a : Int} (h0 : 0 ≤ a) (h1 : a ≤ 200) : 0 ≤ rkf d a ∧ rkf d a ≤ 201 := by
  unfold rkf
  split <;> omega
def DT (M0 M : Mem) (k : Int) : Prop := ∀ p : Int, 0 ≤ p → rd M 158 p ≤ rd M0 158 p ∧ (k ≤ p → rd M 158 p = rd M0 158 p) ∧ (p < k → rd M0 156 p = 0 → 1 ≤ rd M0 158 p → rd M 158 p ≤ rd M0 158 p - 1)
theorem DT.fr {M0 M M2 : Mem} {k : Int} (h : DT M0 M k) (e : ∀ p : Int, rd M2 158 p = rd M 158 p) : DT M0 M2 k := fun p p0 => by
  rw [e]
  exact h p p0
theorem dt_skip {M0 M : Mem} {k : Int} (h : DT M0 M k) (_ : 0 ≤ k) (hc : rd M0 156 k = 0 → rd M0 158 k ≤ 0) : DT M0 M (k + 1) := fun p p0 => by
  have h1 := h p p0
  refine ⟨h1.1, fun c => h1.2.1 (by omega), fun c c2 c3 => ?_⟩
  by_cases e : p = k
  · subst e
    have := hc c2
    omega
  · exact h1.2.2 (by omega) c2 c3
theorem dt_dec {M0 M M' : Mem} {k : Int} (h : DT M0 M k) (w : Wr M 158 k (rd M 158 k - 1) M') : DT M0 M' (k + 1) := fun p p0 => by
  have h1 := h p p0
  by_cases e : p = k
  · subst e
    rw [w.1]
    have h2 := h1.2.1 (Int.le_refl _)
    exact ⟨by omega, fun c => by omega, fun _ _ _ => by omega⟩
  · rw [w.2 _ _ (fun d => e d.2)]
    exact ⟨h1.1, fun c => h1.2.1 (by omega), fun c => h1.2.2 (by omega)⟩
def DE (b : Int) (M0 M : Mem) : Prop := ∃ k : Int, rd M0 126 b ≤ k ∧ DT M0 M k
theorem DE.fr {b : Int} {M0 M M2 : Mem} (h : DE b M0 M) (e : ∀ p : Int, rd M2 158 p = rd M 158 p) : DE b M0 M2 := ⟨h.choose, h.choose_spec.1, h.choose_spec.2.fr e⟩
theorem dt_end {b B : Int} {M0 M : Mem} (h : DE b M0 M) (e1 : rd M 126 b = rd M0 126 b) (e2 : ∀ p : Int, rd M 156 p = rd M0 156 p) (B1 : 1 ≤ B) (hB : ∀ p : Int, 0 ≤ p → p < rd M0 126 b → rd M0 156 p = 0 → rd M0 158 p ≤ B) : ∀ p : Int, 0 ≤ p → p < rd M 126 b → rd M 156 p = 0 → rd M 158 p ≤ B - 1 := by
  obtain ⟨k, hk, hd⟩ := h
  intro p p0 p1 p2
  rw [e1] at p1
  rw [e2] at p2
  have h1 := hd p p0
  have h2 := hB p p0 p1 p2
  by_cases c : 1 ≤ rd M0 158 p
  · have := h1.2.2 (by omega) p2 c
    omega
  · omega
theorem floor_q (a b : Int) : (-9223372036854775808 ≤ w64 (a.tdiv b) ∧ w64 (a.tdiv b) ≤ 9223372036854775807) ∧ (b ≠ 1000 ∨ ((0 ≤ a ∧ w64 (a.tdiv b) = a / 1000) ∨ (a < 0 ∧ w64 (a.tdiv b) = -(-a / 1000))) ∨ (a < -9223372036854775808 ∨ 9223372036854775807 < a)) := by
  refine ⟨w64_b _, ?_⟩
  by_cases c : b = 1000
  · subst c
    by_cases r : a < -9223372036854775808 ∨ 9223372036854775807 < a
    · exact Or.inr (Or.inr r)
    · refine Or.inr (Or.inl ?_)
      by_cases d : 0 ≤ a
      · refine Or.inl ⟨d, ?_⟩
        rw [Int.tdiv_eq_ediv_of_nonneg d, w64_id (by omega)]
      · refine Or.inr ⟨by omega, ?_⟩
        have e : a.tdiv 1000 = -((-a) / 1000) := by
          have h1 : (-a).tdiv 1000 = (-a) / 1000 := Int.tdiv_eq_ediv_of_nonneg (by omega)
          rw [Int.neg_tdiv] at h1
          omega
        rw [e, w64_id (by omega)]
  · exact Or.inl c
theorem floor_q2 {a b : Int} (h : -9223372036854775808 ≤ a ∧ a ≤ 9223372036854775807) : (-9223372036854775808 ≤ w64 (a.tdiv b) ∧ w64 (a.tdiv b) ≤ 9223372036854775807) ∧ (b ≠ 1000 ∨ ((0 ≤ a ∧ w64 (a.tdiv b) = a / 1000) ∨ (a < 0 ∧ w64 (a.tdiv b) = -(-a / 1000)))) := by
  have h1 := floor_q a b
  refine ⟨h1.1, ?_⟩
  rcases h1.2 with h2 | h2 | h2
  · exact Or.inl h2
  · exact Or.inr h2
  · omega
theorem floor_r (a b : Int) (h : -9223372036854775808 ≤ a ∧ a ≤ 9223372036854775807) : (-9223372036854775808 ≤ a.tmod b ∧ a.tmod b ≤ 9223372036854775807) ∧ (b ≠ 1000 ∨ (a.tmod b = 0 ↔ a % 1000 = 0)) := by
  refine ⟨rem64_b a b h, ?_⟩
  by_cases c : b = 1000
  · subst c
    refine Or.inr ?_
    by_cases d : 0 ≤ a
    · rw [Int.tmod_eq_emod_of_nonneg d]
    · have h1 : (-a).tmod 1000 = (-a) % 1000 := Int.tmod_eq_emod_of_nonneg (by omega)
      rw [Int.neg_tmod] at h1
      omega
  · exact Or.inl c
theorem sub1_p {q b : Int} (h : b ≠ 1000 ∨ (-9223372036854775808 < q ∧ q ≤ 9223372036854775807)) : (-9223372036854775808 ≤ w64 (q - 1) ∧ w64 (q - 1) ≤ 9223372036854775807) ∧ (b ≠ 1000 ∨ w64 (q - 1) = q - 1) := by
  refine ⟨w64_b _, ?_⟩
  rcases h with h | h
  · exact Or.inl h
  · exact Or.inr (w64_id (by omega))
theorem wk_b {d2 p r j S : Int} (h : (5 < r → 1 ≤ p) ∧ (5 < r → r ≠ 18 → 2 ≤ p) ∧ d2 = p + dl r ∧ p ≤ j - S ∧ ((r ≤ 5 ∧ dl r = 1) ∨ (r = 18 ∧ dl r = 0) ∨ (5 < r ∧ r ≠ 18 ∧ dl r = -1))) (h0 : 0 ≤ p) (hS : 0 ≤ S) (hj : j ≤ 899) : (r ≤ 5 → p + 1 = d2 ∧ 0 ≤ p + 1 ∧ p + 1 ≤ 900) ∧ (r = 18 → p = d2 ∧ 0 ≤ p ∧ p ≤ 900) ∧ (5 < r → r ≠ 18 → p - 1 = d2 ∧ 0 ≤ p - 1 ∧ p - 1 ≤ 900) := by
  obtain ⟨h1, h2, h3, h4, h5⟩ := h
  refine ⟨fun c => ?_, fun c => ?_, fun c c2 => ?_⟩
  · rcases h5 with h5 | h5 | h5 <;> omega
  · rcases h5 with h5 | h5 | h5 <;> omega
  · have h6 := h2 c c2
    rcases h5 with h5 | h5 | h5 <;> omega
theorem w32_z {x : Int} (h : -4294967296 < x) (h2 : x < 4294967296) : (-2147483648 ≤ w32 x ∧ w32 x ≤ 2147483647) ∧ (w32 x ≠ 0 ∨ x = 0) := by
  unfold w32
  omega
theorem mul1000 (f : Int) : (-9223372036854775808 ≤ w64 (1000 * f) ∧ w64 (1000 * f) ≤ 9223372036854775807) ∧ w64 (1000 * f) % 18446744073709551616 = (1000 * f) % 18446744073709551616 := by
  refine ⟨w64_b _, ?_⟩
  unfold w64
  omega
theorem sub1000 {x v f : Int} (h : v % 18446744073709551616 = (1000 * f) % 18446744073709551616) (h2 : 1000 * f ≤ x ∧ x < 1000 * f + 1000) : 0 ≤ w64 (x - v) ∧ w64 (x - v) ≤ 999 := by
  unfold w64
  omega
/-! the model: what is known of a text that was taken (bank 0), what holds in a run over it -/
def Tb0 (M : Mem) : Prop := ∀ p : Int, 0 ≤ p → p < rd M 126 0 → rd M 158 p ≤ 50
theorem Tb0.of {M M2 : Mem} (h : Tb0 M) (h0 : ∀ j : Int, rd M2 158 j = rd M 158 j) (h1 : rd M2 126 0 = rd M 126 0) : Tb0 M2 := fun p p0 p1 => by
  rw [h0]
  exact h p p0 (by rw [← h1]; exact p1)
theorem Tb0_wr {M : Mem} {i v : Int} (h : Tb0 M) (hv : 0 ≤ i → i < rd M 126 0 → v ≤ 50) : Tb0 (wr M 158 i v) := fun p p0 p1 => by
  have e9 : rd (wr M 158 i v) 126 0 = rd M 126 0 := rd_wn M (fun d => absurd d.1 (by decide))
  rw [e9] at p1
  rw [rd_wr]
  split
  · rename_i c
    exact hv (by omega) (by omega)
  · exact h p p0 p1
def Bk0 (M : Mem) : Prop := (∀ p : Int, 0 ≤ p → p < rd M 126 0 → rd M 131 (0 + 6 * p + 5) ≤ 50)
  ∧ (∀ k : Int, 0 ≤ k → k < rd M 136 0 → rd M 137 (0 + k) = 0 → k < rd M 142 (0 + k) ∨ rd M 137 (0 + rd M 142 (0 + k)) ≠ 0)
  ∧ (∀ k : Int, 0 ≤ k → k < rd M 136 0 → 0 ≤ rd M 139 (0 + k)) ∧ (∀ k : Int, 0 ≤ k → k < rd M 136 0 → rd M 137 (0 + k) ≠ 0 → 0 ≤ rd M 138 (0 + k))
  ∧ (1 ≤ rd M 124 0 ∧ 1 ≤ rd M 123 0 ∧ rd M 123 0 ≤ 8) ∧ ∀ k : Int, 0 ≤ k → k < rd M 136 0 → psf M (0 + rd M 140 (0 + k)) (rd M 141 (0 + k) - rd M 140 (0 + k)).toNat
theorem Bk0.of {M M2 : Mem} (h : Bk0 M) (h1 : ∀ j : Int, rd M2 131 j = rd M 131 j) (h2 : ∀ j : Int, rd M2 137 j = rd M 137 j) (h3 : ∀ j : Int, rd M2 138 j = rd M 138 j) (h4 : ∀ j : Int, rd M2 139 j = rd M 139 j) (h5 : ∀ j : Int, rd M2 140 j = rd M 140 j) (h6 : ∀ j : Int, rd M2 141 j = rd M 141 j) (h7 : ∀ j : Int, rd M2 142 j = rd M 142 j) (h8 : ∀ j : Int, rd M2 143 j = rd M 143 j) (g1 : rd M2 126 0 = rd M 126 0) (g2 : rd M2 136 0 = rd M 136 0) (g3 : rd M2 123 0 = rd M 123 0) (g4 : rd M2 124 0 = rd M 124 0) : Bk0 M2 := by
  obtain ⟨a1, a2, a3, a4, a5, a6⟩ := h
  refine ⟨fun p p0 p1 => ?_, fun k k0 k1 kd => ?_, fun k k0 k1 => ?_, fun k k0 k1 kd => ?_, ?_, fun k k0 k1 => ?_⟩
  · rw [h1]; exact a1 p p0 (by rw [← g1]; exact p1)
  · rw [h2] at kd ⊢; rw [h7]; exact a2 k k0 (by rw [← g2]; exact k1) kd
  · rw [h4]; exact a3 k k0 (by rw [← g2]; exact k1)
  · rw [h2] at kd; rw [h3]; exact a4 k k0 (by rw [← g2]; exact k1) kd
  · rw [g3, g4]; exact a5
  · rw [h5, h6]; exact (a6 k k0 (by rw [← g2]; exact k1)).of h8
theorem Bk0_rt {M : Mem} {p k i : Int} (h : Bk0 M) (hi : i = 0 + 6 * p + k) (h0 : 0 ≤ p) : k ≠ 5 ∨ rd M 126 0 ≤ p ∨ rd M 131 i ≤ 50 := by
  by_cases c : k = 5 ∧ p < rd M 126 0
  · refine Or.inr (Or.inr ?_)
    rw [hi, c.1]
    exact h.1 p h0 c.2
  · omega
theorem Bk0_wt {M : Mem} {i : Int} (h : Bk0 M) (h0 : 0 ≤ i) (h1 : i < 0 + rd M 136 0) : 0 ≤ rd M 139 i := by
  have := h.2.2.1 (i - 0) (by omega) (by omega)
  rw [show 0 + (i - 0) = i by omega] at this
  exact this
theorem Bk0_ln {M : Mem} {i : Int} (h : Bk0 M) (h0 : 0 ≤ i) (h1 : i < 0 + rd M 136 0) (hd : rd M 137 i ≠ 0) : 0 ≤ rd M 138 i := by
  have := h.2.2.2.1 (i - 0) (by omega) (by omega)
  rw [show 0 + (i - 0) = i by omega] at this
  exact this hd
theorem Bk0_jm {M : Mem} {k g : Int} (h : Bk0 M) (h0 : 0 ≤ k) (h1 : k < rd M 136 0) (hd : rd M 137 (0 + k) = 0) (hg : rd M 142 (0 + k) = g) : rkf (rd M 137 (0 + g)) g + 1 ≤ rkf (rd M 137 (0 + k)) k ∨ 200 < g ∨ g < 0 ∨ 200 < k := by
  have h2 := h.2.1 k h0 h1 hd
  rw [hg] at h2
  unfold rkf
  rw [if_pos hd]
  split
  · rename_i c
    rcases h2 with h2 | h2
    · omega
    · exact absurd c h2
  · omega
theorem Bk0_wf {M : Mem} {i j : Int} (h : Bk0 M) (h0 : 0 ≤ i) (h1 : i < 0 + rd M 136 0) (h2 : 0 + rd M 140 i ≤ j) (h3 : j < 0 + rd M 141 i) : (5 < rd M 143 j → 1 ≤ dp M (0 + rd M 140 i) (j - (0 + rd M 140 i)).toNat) ∧ (5 < rd M 143 j → rd M 143 j ≠ 18 → 2 ≤ dp M (0 + rd M 140 i) (j - (0 + rd M 140 i)).toNat) ∧ dp M (0 + rd M 140 i) (j + 1 - (0 + rd M 140 i)).toNat = dp M (0 + rd M 140 i) (j - (0 + rd M 140 i)).toNat + dl (rd M 143 j) ∧ dp M (0 + rd M 140 i) (j - (0 + rd M 140 i)).toNat ≤ j - (0 + rd M 140 i) ∧ ((rd M 143 j ≤ 5 ∧ dl (rd M 143 j) = 1) ∨ (rd M 143 j = 18 ∧ dl (rd M 143 j) = 0) ∨ (5 < rd M 143 j ∧ rd M 143 j ≠ 18 ∧ dl (rd M 143 j) = -1)) := by
  have h4 := h.2.2.2.2.2 (i - 0) (by omega) (by omega)
  rw [show 0 + (i - 0) = i by omega] at h4
  obtain ⟨n, hn⟩ : ∃ n : Nat, (j - (0 + rd M 140 i)).toNat = n := ⟨_, rfl⟩
  have e1 : 0 + rd M 140 i + (n : Int) = j := by omega
  have h5 := h4 n (by omega)
  rw [e1] at h5
  rw [show (j + 1 - (0 + rd M 140 i)).toNat = n + 1 by omega, hn]
  refine ⟨h5.1, h5.2, by rw [dp, e1], ?_, dl_c _⟩
  have := dp_le M (0 + rd M 140 i) n
  omega
/-! the model: what is known of a text that was taken (bank 1), what holds in a run over it -/
def Tb1 (M : Mem) : Prop := ∀ p : Int, 0 ≤ p → p < rd M 126 1 → rd M 158 p ≤ 50
theorem Tb1.of {M M2 : Mem} (h : Tb1 M) (h0 : ∀ j : Int, rd M2 158 j = rd M 158 j) (h1 : rd M2 126 1 = rd M 126 1) : Tb1 M2 := fun p p0 p1 => by
  rw [h0]
  exact h p p0 (by rw [← h1]; exact p1)
theorem Tb1_wr {M : Mem} {i v : Int} (h : Tb1 M) (hv : 0 ≤ i → i < rd M 126 1 → v ≤ 50) : Tb1 (wr M 158 i v) := fun p p0 p1 => by
  have e9 : rd (wr M 158 i v) 126 1 = rd M 126 1 := rd_wn M (fun d => absurd d.1 (by decide))
  rw [e9] at p1
  rw [rd_wr]
  split
  · rename_i c
    exact hv (by omega) (by omega)
  · exact h p p0 p1
def Bk1 (M : Mem) : Prop := (∀ p : Int, 0 ≤ p → p < rd M 126 1 → rd M 131 (36 + 6 * p + 5) ≤ 50)
  ∧ (∀ k : Int, 0 ≤ k → k < rd M 136 1 → rd M 137 (200 + k) = 0 → k < rd M 142 (200 + k) ∨ rd M 137 (200 + rd M 142 (200 + k)) ≠ 0)
  ∧ (∀ k : Int, 0 ≤ k → k < rd M 136 1 → 0 ≤ rd M 139 (200 + k)) ∧ (∀ k : Int, 0 ≤ k → k < rd M 136 1 → rd M 137 (200 + k) ≠ 0 → 0 ≤ rd M 138 (200 + k))
  ∧ (1 ≤ rd M 124 1 ∧ 1 ≤ rd M 123 1 ∧ rd M 123 1 ≤ 8) ∧ ∀ k : Int, 0 ≤ k → k < rd M 136 1 → psf M (900 + rd M 140 (200 + k)) (rd M 141 (200 + k) - rd M 140 (200 + k)).toNat
theorem Bk1.of {M M2 : Mem} (h : Bk1 M) (h1 : ∀ j : Int, rd M2 131 j = rd M 131 j) (h2 : ∀ j : Int, rd M2 137 j = rd M 137 j) (h3 : ∀ j : Int, rd M2 138 j = rd M 138 j) (h4 : ∀ j : Int, rd M2 139 j = rd M 139 j) (h5 : ∀ j : Int, rd M2 140 j = rd M 140 j) (h6 : ∀ j : Int, rd M2 141 j = rd M 141 j) (h7 : ∀ j : Int, rd M2 142 j = rd M 142 j) (h8 : ∀ j : Int, rd M2 143 j = rd M 143 j) (g1 : rd M2 126 1 = rd M 126 1) (g2 : rd M2 136 1 = rd M 136 1) (g3 : rd M2 123 1 = rd M 123 1) (g4 : rd M2 124 1 = rd M 124 1) : Bk1 M2 := by
  obtain ⟨a1, a2, a3, a4, a5, a6⟩ := h
  refine ⟨fun p p0 p1 => ?_, fun k k0 k1 kd => ?_, fun k k0 k1 => ?_, fun k k0 k1 kd => ?_, ?_, fun k k0 k1 => ?_⟩
  · rw [h1]; exact a1 p p0 (by rw [← g1]; exact p1)
  · rw [h2] at kd ⊢; rw [h7]; exact a2 k k0 (by rw [← g2]; exact k1) kd
  · rw [h4]; exact a3 k k0 (by rw [← g2]; exact k1)
  · rw [h2] at kd; rw [h3]; exact a4 k k0 (by rw [← g2]; exact k1) kd
  · rw [g3, g4]; exact a5
  · rw [h5, h6]; exact (a6 k k0 (by rw [← g2]; exact k1)).of h8
theorem Bk1_rt {M : Mem} {p k i : Int} (h : Bk1 M) (hi : i = 36 + 6 * p + k) (h0 : 0 ≤ p) : k ≠ 5 ∨ rd M 126 1 ≤ p ∨ rd M 131 i ≤ 50 := by
  by_cases c : k = 5 ∧ p < rd M 126 1
  · refine Or.inr (Or.inr ?_)
    rw [hi, c.1]
    exact h.1 p h0 c.2
  · omega
theorem Bk1_wt {M : Mem} {i : Int} (h : Bk1 M) (h0 : 200 ≤ i) (h1 : i < 200 + rd M 136 1) : 0 ≤ rd M 139 i := by
  have := h.2.2.1 (i - 200) (by omega) (by omega)
  rw [show 200 + (i - 200) = i by omega] at this
  exact this
theorem Bk1_ln {M : Mem} {i : Int} (h : Bk1 M) (h0 : 200 ≤ i) (h1 : i < 200 + rd M 136 1) (hd : rd M 137 i ≠ 0) : 0 ≤ rd M 138 i := by
  have := h.2.2.2.1 (i - 200) (by omega) (by omega)
  rw [show 200 + (i - 200) = i by omega] at this
  exact this hd
theorem Bk1_jm {M : Mem} {k g : Int} (h : Bk1 M) (h0 : 0 ≤ k) (h1 : k < rd M 136 1) (hd : rd M 137 (200 + k) = 0) (hg : rd M 142 (200 + k) = g) : rkf (rd M 137 (200 + g)) g + 1 ≤ rkf (rd M 137 (200 + k)) k ∨ 200 < g ∨ g < 0 ∨ 200 < k := by
  have h2 := h.2.1 k h0 h1 hd
  rw [hg] at h2
  unfold rkf
  rw [if_pos hd]
  split
  · rename_i c
    rcases h2 with h2 | h2
    · omega
    · exact absurd c h2
  · omega
theorem Bk1_wf {M : Mem} {i j : Int} (h : Bk1 M) (h0 : 200 ≤ i) (h1 : i < 200 + rd M 136 1) (h2 : 900 + rd M 140 i ≤ j) (h3 : j < 900 + rd M 141 i) : (5 < rd M 143 j → 1 ≤ dp M (900 + rd M 140 i) (j - (900 + rd M 140 i)).toNat) ∧ (5 < rd M 143 j → rd M 143 j ≠ 18 → 2 ≤ dp M (900 + rd M 140 i) (j - (900 + rd M 140 i)).toNat) ∧ dp M (900 + rd M 140 i) (j + 1 - (900 + rd M 140 i)).toNat = dp M (900 + rd M 140 i) (j - (900 + rd M 140 i)).toNat + dl (rd M 143 j) ∧ dp M (900 + rd M 140 i) (j - (900 + rd M 140 i)).toNat ≤ j - (900 + rd M 140 i) ∧ ((rd M 143 j ≤ 5 ∧ dl (rd M 143 j) = 1) ∨ (rd M 143 j = 18 ∧ dl (rd M 143 j) = 0) ∨ (5 < rd M 143 j ∧ rd M 143 j ≠ 18 ∧ dl (rd M 143 j) = -1)) := by
  have h4 := h.2.2.2.2.2 (i - 200) (by omega) (by omega)
  rw [show 200 + (i - 200) = i by omega] at h4
  obtain ⟨n, hn⟩ : ∃ n : Nat, (j - (900 + rd M 140 i)).toNat = n := ⟨_, rfl⟩
  have e1 : 900 + rd M 140 i + (n : Int) = j := by omega
  have h5 := h4 n (by omega)
  rw [e1] at h5
  rw [show (j + 1 - (900 + rd M 140 i)).toNat = n + 1 by omega, hn]
  refine ⟨h5.1, h5.2, by rw [dp, e1], ?_, dl_c _⟩
  have := dp_le M (900 + rd M 140 i) n
  omega
