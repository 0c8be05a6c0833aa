/-! the reference's reading of a text: counts over rows, depths, what is kept -/
def ctN (f : Int → Int) : Nat → Int
  | 0 => 0
  | n + 1 => ctN f n + f n
theorem ctN_cg {f g : Int → Int} {n : Nat} (h : ∀ i : Int, 0 ≤ i → i < n → f i = g i) : ctN f n = ctN g n := by
  induction n with
  | zero => rfl
  | succ n ih => rw [ctN, ctN, ih (fun i i0 i1 => h i i0 (by omega)), h n (by omega) (by omega)]
theorem ctN_b {f : Int → Int} (h : ∀ i : Int, 0 ≤ f i ∧ f i ≤ 1) (n : Nat) : 0 ≤ ctN f n ∧ ctN f n ≤ n := by
  induction n with
  | zero => exact ⟨Int.le_refl 0, Int.le_refl 0⟩
  | succ n ih =>
    have := h n
    rw [ctN]
    omega
/-- how many of the first ones of a row are counted: all but 18 of the OPS that wait; 4 of the frames; all but 1 of the BLOCKS -/
def ctV (x j e a b : Int) (M : Mem) : Int := ctN (fun i => if rd M x i = e then a else b) (rd M 120 j).toNat
abbrev nbv : Mem → Int := ctV 150 46 18 0 1
abbrev n4v : Mem → Int := ctV 145 43 4 1 0
abbrev nwv : Mem → Int := ctV 151 50 1 0 1
theorem ctV_of {x j e a b : Int} {M M2 : Mem} (h0 : ∀ i : Int, rd M2 x i = rd M x i) (h1 : rd M2 120 j = rd M 120 j) : ctV x j e a b M2 = ctV x j e a b M := by
  unfold ctV
  rw [h1]
  exact ctN_cg fun i _ _ => by rw [h0]
theorem nbv_of {M M2 : Mem} (h0 : ∀ i : Int, rd M2 150 i = rd M 150 i) (h1 : rd M2 120 46 = rd M 120 46) : nbv M2 = nbv M := ctV_of h0 h1
theorem n4v_of {M M2 : Mem} (h0 : ∀ i : Int, rd M2 145 i = rd M 145 i) (h1 : rd M2 120 43 = rd M 120 43) : n4v M2 = n4v M := ctV_of h0 h1
theorem nwv_of {M M2 : Mem} (h0 : ∀ i : Int, rd M2 151 i = rd M 151 i) (h1 : rd M2 120 50 = rd M 120 50) : nwv M2 = nwv M := ctV_of h0 h1
theorem ctV_b {x j e a b : Int} (ha : 0 ≤ a ∧ a ≤ 1) (hb : 0 ≤ b ∧ b ≤ 1) (M : Mem) : 0 ≤ ctV x j e a b M ∧ ctV x j e a b M ≤ (rd M 120 j).toNat := ctN_b (fun i => by split <;> assumption) _
theorem nbv_b {M : Mem} (h : Iv M) : 0 ≤ nbv M ∧ nbv M ≤ 500 := by
  have h1 := ctV_b (x := 150) (j := 46) (e := 18) (a := 0) (b := 1) (by omega) (by omega) M
  have h2 := ir_120_46 h
  exact ⟨h1.1, Int.le_trans h1.2 (by omega)⟩
theorem n4v_b {M : Mem} (h : Iv M) : 0 ≤ n4v M ∧ n4v M ≤ 20 := by
  have h1 := ctV_b (x := 145) (j := 43) (e := 4) (a := 1) (b := 0) (by omega) (by omega) M
  have h2 := ir_120_43 h
  exact ⟨h1.1, Int.le_trans h1.2 (by omega)⟩
theorem nwv_b {M : Mem} (h : Iv M) : 0 ≤ nwv M ∧ nwv M ≤ 20 := by
  have h1 := ctV_b (x := 151) (j := 50) (e := 1) (a := 0) (b := 1) (by omega) (by omega) M
  have h2 := ir_120_50 h
  exact ⟨h1.1, Int.le_trans h1.2 (by omega)⟩
/-- one more is counted -/
theorem ct_push {x j e a b n v : Int} {M M2 : Mem} (h : rd M 120 j = n) (h2 : rd M2 120 j = n + 1) (hv : rd M2 x n = v) (ho : ∀ i : Int, i ≠ n → rd M2 x i = rd M x i) (hn : 0 ≤ n) : (v = e ∧ ctV x j e a b M2 = ctV x j e a b M + a) ∨ (v ≠ e ∧ ctV x j e a b M2 = ctV x j e a b M + b) := by
  obtain ⟨k, rfl⟩ : ∃ k : Nat, n = k := ⟨n.toNat, by omega⟩
  have e1 : ctV x j e a b M2 = ctV x j e a b M + (if v = e then a else b) := by
    unfold ctV
    rw [h, h2, show ((k : Int) + 1).toNat = k + 1 by omega, ctN, hv, Int.toNat_natCast]
    congr 1
    exact ctN_cg fun i _ i1 => by rw [ho i (by omega)]
  by_cases c : v = e
  · rw [if_pos c] at e1; exact Or.inl ⟨c, e1⟩
  · rw [if_neg c] at e1; exact Or.inr ⟨c, e1⟩
/-- one less is counted -/
theorem ct_pop {x j e a b n : Int} {M M2 : Mem} (h : rd M 120 j = n) (h2 : rd M2 120 j = n - 1) (ho : ∀ i : Int, rd M2 x i = rd M x i) (hn : 1 ≤ n) : (rd M2 x (n - 1) = e ∧ ctV x j e a b M = ctV x j e a b M2 + a) ∨ (rd M2 x (n - 1) ≠ e ∧ ctV x j e a b M = ctV x j e a b M2 + b) :=
  ct_push (M := M2) (M2 := M) h2 (by rw [h]; omega) (ho _).symm (fun i _ => (ho i).symm) (by omega)
theorem ct_zero {x j e a b : Int} {M : Mem} (h : rd M 120 j = 0) : ctV x j e a b M = 0 := by
  unfold ctV
  rw [h]
  rfl
/-- the frame on top becomes 4 -/
theorem n4_set {d : Int} {M M2 : Mem} (w : Wr M 145 (d - 1) 4 M2) (h : rd M 120 43 = d) (h1 : 1 ≤ d) (h4 : rd M 145 (d - 1) ≠ 4) : n4v M2 = n4v M + 1 := by
  obtain ⟨k, hk⟩ : ∃ k : Nat, d = (k : Int) + 1 := ⟨(d - 1).toNat, by omega⟩
  subst hk
  have h2 : rd M2 120 43 = (k : Int) + 1 := (w.2 _ _ (fun c => absurd c.1 (by decide))).trans h
  have e0 : (k : Int) + 1 - 1 = k := by omega
  rw [e0] at w h4
  show ctV _ _ _ _ _ _ = ctV _ _ _ _ _ _ + 1
  unfold ctV
  rw [h, h2, show ((k : Int) + 1).toNat = k + 1 by omega, ctN, ctN, w.1, if_pos rfl, if_neg h4, ctN_cg (g := fun i => if rd M 145 i = 4 then 1 else 0) fun i _ i1 => by rw [w.2 _ _ (fun c => by have := c.2; omega)]]
  omega
def fr0 (M : Mem) : Int := rd M 145 0
theorem fr0_of {M M2 : Mem} (h0 : ∀ i : Int, rd M2 145 i = rd M 145 i) : fr0 M2 = fr0 M := h0 0
theorem fr0_b {M : Mem} (h : Iv M) : 0 ≤ fr0 M ∧ fr0 M ≤ 5 := ar_145 h 0
theorem fr0_w {M M2 : Mem} {j v : Int} (w : Wr M 145 j v M2) : (j = 0 ∧ fr0 M2 = v) ∨ (j ≠ 0 ∧ fr0 M2 = fr0 M) := by
  by_cases c : j = 0
  · subst c
    exact Or.inl ⟨rfl, w.1⟩
  · exact Or.inr ⟨c, w.2 _ _ (fun d => c d.2.symm)⟩
theorem dp_ag {M M2 : Mem} {s : Int} {n : Nat} (a : ∀ i : Int, s ≤ i → i < s + n → rd M2 143 i = rd M 143 i) : dp M2 s n = dp M s n := by
  induction n with
  | zero => rfl
  | succ n ih => rw [dp, dp, ih (fun i i0 i1 => a i i0 (by omega)), a _ (by omega) (by omega)]
theorem psf.ag {M M2 : Mem} {s : Int} {n : Nat} (h : psf M s n) (a : ∀ i : Int, s ≤ i → i < s + n → rd M2 143 i = rd M 143 i) : psf M2 s n := fun i hi => by
  rw [a _ (by omega) (by omega), dp_ag (n := i) (fun j j0 j1 => a j j0 (by omega))]
  exact h i hi
theorem psf.lt {M : Mem} {s : Int} {n k : Nat} (h : psf M s n) (hk : k ≤ n) : psf M s k := fun i hi => h i (by omega)
theorem psf_0 (M : Mem) (s : Int) {n : Nat} (hn : n = 0) : psf M s n := fun i hi => by omega
theorem dp_lo (M : Mem) (s : Int) (n : Nat) : -(n : Int) ≤ dp M s n := by
  induction n with
  | zero => exact Int.le_refl 0
  | succ n ih =>
    have := dl_c (rd M 143 (s + n))
    rw [dp]
    omega

def Pm0 (M : Mem) : Prop := Bk1 M ∧ (∀ p : Int, 0 ≤ p → p < rd M 126 0 → rd M 131 (0 + 6 * p + 5) ≤ 50)
  ∧ (∀ k : Int, 0 ≤ k → k < rd M 136 0 → rd M 137 (0 + k) = 0 → k < rd M 142 (0 + k) ∨ rd M 137 (0 + rd M 142 (0 + k)) ≠ 0)
  ∧ (∀ k : Int, 0 ≤ k → k < rd M 136 0 → rd M 120 8 = 0 → 0 ≤ rd M 139 (0 + k)) ∧ (∀ k : Int, 0 ≤ k → k < rd M 136 0 → rd M 137 (0 + k) ≠ 0 → 0 ≤ rd M 138 (0 + k))
  ∧ (rd M 120 8 = 0 → 1 ≤ rd M 124 0 ∧ 1 ≤ rd M 123 0 ∧ rd M 123 0 ≤ 8)
  ∧ (∀ k : Int, 0 ≤ k → k < rd M 136 0 → rd M 141 (0 + k) ≤ rd M 120 36 ∧ psf M (0 + rd M 140 (0 + k)) (rd M 141 (0 + k) - rd M 140 (0 + k)).toNat)
  ∧ (1 ≤ rd M 136 0 → rd M 140 ((-1) + rd M 136 0) ≤ rd M 120 36 ∧ psf M (0 + rd M 140 ((-1) + rd M 136 0)) (rd M 120 36 - rd M 140 ((-1) + rd M 136 0)).toNat)
  ∧ (1 ≤ rd M 136 0 → rd M 137 0 ≠ 0)
  ∧ ∀ i : Int, 0 ≤ i → i < rd M 120 50 → 0 ≤ rd M 152 i ∧ rd M 152 i < 0 + rd M 136 0 ∧ (rd M 151 i ≠ 1 → rd M 137 (rd M 152 i) ≠ 0)
/-- the other bank's text isn't touched by what is written for this one -/
theorem Bk0.ag {M M2 : Mem} (h : Bk0 M) (hV : Iv M) (g1 : rd M2 126 0 = rd M 126 0) (g2 : rd M2 136 0 = rd M 136 0) (g3 : rd M2 123 0 = rd M 123 0) (g4 : rd M2 124 0 = rd M 124 0)
    (a1 : ∀ i : Int, 0 ≤ i → i < 0 + 36 → rd M2 131 i = rd M 131 i) (a2 : ∀ i : Int, 0 ≤ i → i < 0 + 200 → rd M2 137 i = rd M 137 i ∧ rd M2 138 i = rd M 138 i ∧ rd M2 139 i = rd M 139 i ∧ rd M2 140 i = rd M 140 i ∧ rd M2 141 i = rd M 141 i ∧ rd M2 142 i = rd M 142 i) (a3 : ∀ i : Int, 0 ≤ i → i < 0 + 900 → rd M2 143 i = rd M 143 i) : Bk0 M2 := by
  obtain ⟨b1, b2, b3, b4, b5, b6⟩ := h
  have v1 := ir_126_0 hV
  have v2 := ir_136_0 hV
  refine ⟨fun p p0 p1 => ?_, fun k k0 k1 kd => ?_, fun k k0 k1 => ?_, fun k k0 k1 kd => ?_, ?_, fun k k0 k1 => ?_⟩
  · rw [g1] at p1
    rw [a1 _ (by omega) (by omega)]
    exact b1 p p0 p1
  · rw [g2] at k1
    have e := a2 (0 + k) (by omega) (by omega)
    rw [e.1] at kd
    rw [e.2.2.2.2.2]
    have h2 := b2 k k0 k1 kd
    have v3 := ar_142 hV (0 + k)
    by_cases c : k < rd M 142 (0 + k)
    · exact Or.inl c
    · rw [(a2 (0 + rd M 142 (0 + k)) (by omega) (by omega)).1]
      exact h2
  · rw [g2] at k1
    rw [(a2 (0 + k) (by omega) (by omega)).2.2.1]
    exact b3 k k0 k1
  · rw [g2] at k1
    have e := a2 (0 + k) (by omega) (by omega)
    rw [e.1] at kd
    rw [e.2.1]
    exact b4 k k0 k1 kd
  · rw [g3, g4]; exact b5
  · rw [g2] at k1
    have e := a2 (0 + k) (by omega) (by omega)
    have v3 := ar_140 hV (0 + k)
    have v4 := ar_141 hV (0 + k)
    rw [e.2.2.2.1, e.2.2.2.2.1]
    exact (b6 k k0 k1).ag fun i i0 i1 => a3 i (by omega) (by omega)

def Pm1 (M : Mem) : Prop := Bk0 M ∧ (∀ p : Int, 0 ≤ p → p < rd M 126 1 → rd M 131 (36 + 6 * p + 5) ≤ 50)
  ∧ (∀ k : Int, 0 ≤ k → k < rd M 136 1 → rd M 137 (200 + k) = 0 → k < rd M 142 (200 + k) ∨ rd M 137 (200 + rd M 142 (200 + k)) ≠ 0)
  ∧ (∀ k : Int, 0 ≤ k → k < rd M 136 1 → rd M 120 8 = 0 → 0 ≤ rd M 139 (200 + k)) ∧ (∀ k : Int, 0 ≤ k → k < rd M 136 1 → rd M 137 (200 + k) ≠ 0 → 0 ≤ rd M 138 (200 + k))
  ∧ (rd M 120 8 = 0 → 1 ≤ rd M 124 1 ∧ 1 ≤ rd M 123 1 ∧ rd M 123 1 ≤ 8)
  ∧ (∀ k : Int, 0 ≤ k → k < rd M 136 1 → rd M 141 (200 + k) ≤ rd M 120 36 ∧ psf M (900 + rd M 140 (200 + k)) (rd M 141 (200 + k) - rd M 140 (200 + k)).toNat)
  ∧ (1 ≤ rd M 136 1 → rd M 140 (199 + rd M 136 1) ≤ rd M 120 36 ∧ psf M (900 + rd M 140 (199 + rd M 136 1)) (rd M 120 36 - rd M 140 (199 + rd M 136 1)).toNat)
  ∧ (1 ≤ rd M 136 1 → rd M 137 200 ≠ 0)
  ∧ ∀ i : Int, 0 ≤ i → i < rd M 120 50 → 200 ≤ rd M 152 i ∧ rd M 152 i < 200 + rd M 136 1 ∧ (rd M 151 i ≠ 1 → rd M 137 (rd M 152 i) ≠ 0)
/-- the other bank's text isn't touched by what is written for this one -/
theorem Bk1.ag {M M2 : Mem} (h : Bk1 M) (hV : Iv M) (g1 : rd M2 126 1 = rd M 126 1) (g2 : rd M2 136 1 = rd M 136 1) (g3 : rd M2 123 1 = rd M 123 1) (g4 : rd M2 124 1 = rd M 124 1)
    (a1 : ∀ i : Int, 36 ≤ i → i < 36 + 36 → rd M2 131 i = rd M 131 i) (a2 : ∀ i : Int, 200 ≤ i → i < 200 + 200 → rd M2 137 i = rd M 137 i ∧ rd M2 138 i = rd M 138 i ∧ rd M2 139 i = rd M 139 i ∧ rd M2 140 i = rd M 140 i ∧ rd M2 141 i = rd M 141 i ∧ rd M2 142 i = rd M 142 i) (a3 : ∀ i : Int, 900 ≤ i → i < 900 + 900 → rd M2 143 i = rd M 143 i) : Bk1 M2 := by
  obtain ⟨b1, b2, b3, b4, b5, b6⟩ := h
  have v1 := ir_126_1 hV
  have v2 := ir_136_1 hV
  refine ⟨fun p p0 p1 => ?_, fun k k0 k1 kd => ?_, fun k k0 k1 => ?_, fun k k0 k1 kd => ?_, ?_, fun k k0 k1 => ?_⟩
  · rw [g1] at p1
    rw [a1 _ (by omega) (by omega)]
    exact b1 p p0 p1
  · rw [g2] at k1
    have e := a2 (200 + k) (by omega) (by omega)
    rw [e.1] at kd
    rw [e.2.2.2.2.2]
    have h2 := b2 k k0 k1 kd
    have v3 := ar_142 hV (200 + k)
    by_cases c : k < rd M 142 (200 + k)
    · exact Or.inl c
    · rw [(a2 (200 + rd M 142 (200 + k)) (by omega) (by omega)).1]
      exact h2
  · rw [g2] at k1
    rw [(a2 (200 + k) (by omega) (by omega)).2.2.1]
    exact b3 k k0 k1
  · rw [g2] at k1
    have e := a2 (200 + k) (by omega) (by omega)
    rw [e.1] at kd
    rw [e.2.1]
    exact b4 k k0 k1 kd
  · rw [g3, g4]; exact b5
  · rw [g2] at k1
    have e := a2 (200 + k) (by omega) (by omega)
    have v3 := ar_140 hV (200 + k)
    have v4 := ar_141 hV (200 + k)
    rw [e.2.2.2.1, e.2.2.2.2.1]
    exact (b6 k k0 k1).ag fun i i0 i1 => a3 i (by omega) (by omega)

theorem Pm0.of {M M2 : Mem} (h : Pm0 M) (h1 : ∀ j : Int, rd M2 131 j = rd M 131 j) (h2 : ∀ j : Int, rd M2 137 j = rd M 137 j) (h3 : ∀ j : Int, rd M2 138 j = rd M 138 j) (h4 : ∀ j : Int, rd M2 139 j = rd M 139 j) (h5 : ∀ j : Int, rd M2 140 j = rd M 140 j) (h6 : ∀ j : Int, rd M2 141 j = rd M 141 j) (h7 : ∀ j : Int, rd M2 142 j = rd M 142 j) (h8 : ∀ j : Int, rd M2 143 j = rd M 143 j) (h9 : ∀ j : Int, rd M2 151 j = rd M 151 j) (h10 : ∀ j : Int, rd M2 152 j = rd M 152 j)
    (g1 : rd M2 126 0 = rd M 126 0) (g2 : rd M2 126 1 = rd M 126 1) (g3 : rd M2 136 0 = rd M 136 0) (g4 : rd M2 136 1 = rd M 136 1) (g5 : rd M2 123 0 = rd M 123 0) (g6 : rd M2 123 1 = rd M 123 1) (g7 : rd M2 124 0 = rd M 124 0) (g8 : rd M2 124 1 = rd M 124 1) (g9 : rd M2 120 8 = rd M 120 8) (g10 : rd M2 120 36 = rd M 120 36) (g11 : rd M2 120 50 = rd M 120 50) : Pm0 M2 := by
  obtain ⟨p0, p1, p2, p3, p4, p5, p6, p7, p8, p9⟩ := h
  refine ⟨p0.of h1 h2 h3 h4 h5 h6 h7 h8 g2 g4 g6 g8, ?_⟩
  simp only [h1, h2, h3, h4, h5, h6, h7, h9, h10, g1, g3, g5, g7, g9, g10, g11]
  exact ⟨p1, p2, p3, p4, p5, fun k k0 k1 => ⟨(p6 k k0 k1).1, (p6 k k0 k1).2.of h8⟩, fun c => ⟨(p7 c).1, (p7 c).2.of h8⟩, p8, p9⟩
/-- all that is looked at agrees; FAULTS may come, CODES may be more behind -/
theorem Pm0.ag {M M2 : Mem} (h : Pm0 M) (hV : Iv M) (hB : Bk1 M2) (g1 : rd M2 126 0 = rd M 126 0) (g2 : rd M2 136 0 = rd M 136 0) (g3 : rd M2 123 0 = rd M 123 0) (g4 : rd M2 124 0 = rd M 124 0) (gf : rd M2 120 8 = 0 → rd M 120 8 = 0) (gc : rd M2 120 36 = rd M 120 36) (gb : 0 ≤ rd M2 120 50 ∧ rd M2 120 50 ≤ rd M 120 50)
    (a1 : ∀ p : Int, 0 ≤ p → p < rd M 126 0 → rd M2 131 (0 + 6 * p + 5) = rd M 131 (0 + 6 * p + 5)) (a2 : ∀ i : Int, 0 ≤ i → i < 0 + rd M 136 0 → rd M2 137 i = rd M 137 i ∧ rd M2 138 i = rd M 138 i ∧ rd M2 139 i = rd M 139 i ∧ rd M2 140 i = rd M 140 i ∧ rd M2 141 i = rd M 141 i ∧ rd M2 142 i = rd M 142 i) (a3 : ∀ j : Int, rd M2 143 j = rd M 143 j)
    (a4 : ∀ i : Int, 0 ≤ i → i < rd M 120 50 → rd M2 151 i = rd M 151 i ∧ rd M2 152 i = rd M 152 i) : Pm0 M2 := by
  obtain ⟨p0, p1, p2, p3, p4, p5, p6, p7, p8, p9⟩ := h
  have v2 := ir_136_0 hV
  refine ⟨hB, fun p q0 q1 => ?_, fun k k0 k1 kd => ?_, fun k k0 k1 kf => ?_, fun k k0 k1 kd => ?_, fun kf => ?_, fun k k0 k1 => ?_, fun k1 => ?_, fun k1 => ?_, fun i i0 i1 => ?_⟩
  · rw [g1] at q1
    rw [a1 p q0 q1]
    exact p1 p q0 q1
  · rw [g2] at k1
    have e := a2 (0 + k) (by omega) (by omega)
    rw [e.1] at kd
    rw [e.2.2.2.2.2]
    have v3 := ar_142 hV (0 + k)
    by_cases c : k < rd M 142 (0 + k)
    · exact Or.inl c
    · rw [(a2 (0 + rd M 142 (0 + k)) (by omega) (by omega)).1]
      exact p2 k k0 k1 kd
  · rw [g2] at k1
    rw [(a2 (0 + k) (by omega) (by omega)).2.2.1]
    exact p3 k k0 k1 (gf kf)
  · rw [g2] at k1
    have e := a2 (0 + k) (by omega) (by omega)
    rw [e.1] at kd
    rw [e.2.1]
    exact p4 k k0 k1 kd
  · rw [g3, g4]; exact p5 (gf kf)
  · rw [g2] at k1
    have e := a2 (0 + k) (by omega) (by omega)
    rw [e.2.2.2.1, e.2.2.2.2.1, gc]
    exact ⟨(p6 k k0 k1).1, (p6 k k0 k1).2.of a3⟩
  · rw [g2] at k1 ⊢
    rw [(a2 ((-1) + rd M 136 0) (by omega) (by omega)).2.2.2.1, gc]
    exact ⟨(p7 k1).1, (p7 k1).2.of a3⟩
  · rw [g2] at k1
    rw [(a2 0 (by omega) (by omega)).1]
    exact p8 k1
  · have e := a4 i i0 (by omega)
    have q := p9 i i0 (by omega)
    rw [e.1, e.2, g2, (a2 (rd M 152 i) q.1 q.2.1).1]
    exact q
theorem Bk1.w1 {M : Mem} (h : Bk1 M) (hV : Iv M) {x i v : Int} (hx : x = 137 ∨ x = 138 ∨ x = 139 ∨ x = 140 ∨ x = 141 ∨ x = 142) (h0 : 0 ≤ i) (h1 : i < 0 + 200) : Bk1 (wr M x i v) :=
  h.ag hV (rd_wn M (fun c => by have := c.1; omega)) (rd_wn M (fun c => by have := c.1; omega)) (rd_wn M (fun c => by have := c.1; omega)) (rd_wn M (fun c => by have := c.1; omega)) (fun j j0 j1 => rd_wn M (fun c => by have := c.1; omega))
    (fun j j0 j1 => ⟨rd_wn M (fun c => by have := c.2; omega), rd_wn M (fun c => by have := c.2; omega), rd_wn M (fun c => by have := c.2; omega), rd_wn M (fun c => by have := c.2; omega), rd_wn M (fun c => by have := c.2; omega), rd_wn M (fun c => by have := c.2; omega)⟩) (fun j j0 j1 => rd_wn M (fun c => by have := c.1; omega))
theorem Bk1.w2 {M : Mem} (h : Bk1 M) {x i v : Int} (hx : (x = 126 ∧ i = 0) ∨ (x = 136 ∧ i = 0) ∨ (x = 123 ∧ i = 0) ∨ (x = 124 ∧ i = 0) ∨ x = 120 ∨ x = 151 ∨ x = 152) : Bk1 (wr M x i v) :=
  h.of (fun j => rd_wn M (fun c => by have := c.1; omega)) (fun j => rd_wn M (fun c => by have := c.1; omega)) (fun j => rd_wn M (fun c => by have := c.1; omega)) (fun j => rd_wn M (fun c => by have := c.1; omega)) (fun j => rd_wn M (fun c => by have := c.1; omega)) (fun j => rd_wn M (fun c => by have := c.1; omega)) (fun j => rd_wn M (fun c => by have := c.1; omega)) (fun j => rd_wn M (fun c => by have := c.1; omega)) (rd_wn M (fun c => by have := c.1; have := c.2; omega)) (rd_wn M (fun c => by have := c.1; have := c.2; omega)) (rd_wn M (fun c => by have := c.1; have := c.2; omega)) (rd_wn M (fun c => by have := c.1; have := c.2; omega))
/-- a place behind those that are counted, or what isn't looked at -/
theorem Pm0_free {M : Mem} {x i v : Int} (h : Pm0 M) (hV : Iv M) (hx : x = 137 ∨ x = 138 ∨ x = 139 ∨ x = 140 ∨ x = 141 ∨ x = 142) (h0 : 0 + rd M 136 0 ≤ i) (h1 : i < 0 + 200) : Pm0 (wr M x i v) := by
  have v2 := ir_136_0 hV
  have v3 := ir_120_50 hV
  have n1 : ∀ y j : Int, y ≠ x → rd (wr M x i v) y j = rd M y j := fun y j c => rd_wn M (fun d => c d.1)
  refine h.ag hV (h.1.w1 hV hx (by omega) h1) (n1 _ _ (by omega)) (n1 _ _ (by omega)) (n1 _ _ (by omega)) (n1 _ _ (by omega)) (fun c => by rw [n1 _ _ (by omega)] at c; exact c) (n1 _ _ (by omega)) (by rw [n1 _ _ (by omega)]; omega) (fun p _ _ => n1 _ _ (by omega)) (fun j j0 j1 => ?_) (fun j => n1 _ _ (by omega)) (fun j _ _ => ⟨n1 _ _ (by omega), n1 _ _ (by omega)⟩)
  have n2 : ∀ y : Int, rd (wr M x i v) y j = rd M y j := fun y => rd_wn M (fun d => by have := d.2; omega)
  exact ⟨n2 _, n2 _, n2 _, n2 _, n2 _, n2 _⟩
theorem Pm0_fk {M : Mem} {v : Int} (h : Pm0 M) (hV : Iv M) (hv : v ≠ 0) : Pm0 (wr M 120 8 v) := by
  have v3 := ir_120_50 hV
  have n1 : ∀ y j : Int, y ≠ 120 → rd (wr M 120 8 v) y j = rd M y j := fun y j c => rd_wn M (fun d => c d.1)
  have n2 : ∀ j : Int, j ≠ 8 → rd (wr M 120 8 v) 120 j = rd M 120 j := fun j c => rd_wn M (fun d => c d.2)
  exact h.ag hV (h.1.w2 (by omega)) (n1 _ _ (by omega)) (n1 _ _ (by omega)) (n1 _ _ (by omega)) (n1 _ _ (by omega)) (fun c => absurd ((rd_ws M 120 8 v).symm.trans c) hv) (n2 _ (by decide)) (by rw [n2 _ (by decide)]; omega) (fun p _ _ => n1 _ _ (by omega)) (fun j _ _ => ⟨n1 _ _ (by omega), n1 _ _ (by omega), n1 _ _ (by omega), n1 _ _ (by omega), n1 _ _ (by omega), n1 _ _ (by omega)⟩) (fun j => n1 _ _ (by omega)) (fun j _ _ => ⟨n1 _ _ (by omega), n1 _ _ (by omega)⟩)
theorem Pm0_blm {M : Mem} {v : Int} (h : Pm0 M) (hV : Iv M) (h0 : 0 ≤ v) (hv : v ≤ rd M 120 50) : Pm0 (wr M 120 50 v) := by
  have n1 : ∀ y j : Int, y ≠ 120 → rd (wr M 120 50 v) y j = rd M y j := fun y j c => rd_wn M (fun d => c d.1)
  have n2 : ∀ j : Int, j ≠ 50 → rd (wr M 120 50 v) 120 j = rd M 120 j := fun j c => rd_wn M (fun d => c d.2)
  exact h.ag hV (h.1.w2 (by omega)) (n1 _ _ (by omega)) (n1 _ _ (by omega)) (n1 _ _ (by omega)) (n1 _ _ (by omega)) (fun c => by rw [n2 _ (by decide)] at c; exact c) (n2 _ (by decide)) (by rw [rd_ws]; exact ⟨h0, hv⟩) (fun p _ _ => n1 _ _ (by omega)) (fun j _ _ => ⟨n1 _ _ (by omega), n1 _ _ (by omega), n1 _ _ (by omega), n1 _ _ (by omega), n1 _ _ (by omega), n1 _ _ (by omega)⟩) (fun j => n1 _ _ (by omega)) (fun j _ _ => ⟨n1 _ _ (by omega), n1 _ _ (by omega)⟩)
theorem Pm0_rate {M : Mem} {i v : Int} (h : Pm0 M) (hV : Iv M) (h0 : 0 + 6 * rd M 126 0 ≤ i) (h1 : i < 0 + 36) : Pm0 (wr M 131 i v) := by
  have v1 := ir_126_0 hV
  have v3 := ir_120_50 hV
  have n1 : ∀ y j : Int, y ≠ 131 → rd (wr M 131 i v) y j = rd M y j := fun y j c => rd_wn M (fun d => c d.1)
  refine h.ag hV (h.1.ag hV (n1 _ _ (by omega)) (n1 _ _ (by omega)) (n1 _ _ (by omega)) (n1 _ _ (by omega)) (fun j j0 j1 => rd_wn M (fun c => by have := c.2; omega)) (fun j _ _ => ⟨n1 _ _ (by omega), n1 _ _ (by omega), n1 _ _ (by omega), n1 _ _ (by omega), n1 _ _ (by omega), n1 _ _ (by omega)⟩) (fun j _ _ => n1 _ _ (by omega))) (n1 _ _ (by omega)) (n1 _ _ (by omega)) (n1 _ _ (by omega)) (n1 _ _ (by omega)) (fun c => by rw [n1 _ _ (by omega)] at c; exact c) (n1 _ _ (by omega)) (by rw [n1 _ _ (by omega)]; omega) (fun p p0 p1 => rd_wn M (fun c => by have := c.2; omega)) (fun j _ _ => ⟨n1 _ _ (by omega), n1 _ _ (by omega), n1 _ _ (by omega), n1 _ _ (by omega), n1 _ _ (by omega), n1 _ _ (by omega)⟩) (fun j => n1 _ _ (by omega)) (fun j _ _ => ⟨n1 _ _ (by omega), n1 _ _ (by omega)⟩)
theorem Pm0_blk {M : Mem} {x i v : Int} (h : Pm0 M) (hV : Iv M) (hx : x = 151 ∨ x = 152) (h0 : rd M 120 50 ≤ i) : Pm0 (wr M x i v) := by
  have v3 := ir_120_50 hV
  have n1 : ∀ y j : Int, y ≠ x → rd (wr M x i v) y j = rd M y j := fun y j c => rd_wn M (fun d => c d.1)
  exact h.ag hV (h.1.w2 (by omega)) (n1 _ _ (by omega)) (n1 _ _ (by omega)) (n1 _ _ (by omega)) (n1 _ _ (by omega)) (fun c => by rw [n1 _ _ (by omega)] at c; exact c) (n1 _ _ (by omega)) (by rw [n1 _ _ (by omega)]; omega) (fun p _ _ => n1 _ _ (by omega)) (fun j _ _ => ⟨n1 _ _ (by omega), n1 _ _ (by omega), n1 _ _ (by omega), n1 _ _ (by omega), n1 _ _ (by omega), n1 _ _ (by omega)⟩) (fun j => n1 _ _ (by omega)) (fun j j0 j1 => ⟨rd_wn M (fun c => by have := c.2; omega), rd_wn M (fun c => by have := c.2; omega)⟩)
/-- one component changes: the others are as they were -/
theorem Pm0_parts {M : Mem} {v : Int} (h : Pm0 M) (hv : v = rd M 126 0 + 1) (h5 : rd M 131 (0 + 6 * rd M 126 0 + 5) ≤ 50) : Pm0 (wr M 126 0 v) := by
  have n1 : ∀ y j : Int, y ≠ 126 → rd (wr M 126 0 v) y j = rd M y j := fun y j c => rd_wn M (fun d => c d.1)
  obtain ⟨p0, p1, p2, p3, p4, p5, p6, p7, p8, p9⟩ := h
  refine ⟨p0.w2 (by omega), fun p q0 q1 => ?_, ?_⟩
  · rw [rd_ws] at q1
    rw [n1 _ _ (by omega)]
    by_cases c : p = rd M 126 0
    · rw [c]; exact h5
    · exact p1 p q0 (by omega)
  · simp only [n1 136 _ (by decide), n1 137 _ (by decide), n1 142 _ (by decide), n1 139 _ (by decide), n1 138 _ (by decide), n1 120 _ (by decide), n1 124 _ (by decide), n1 123 _ (by decide), n1 141 _ (by decide), n1 140 _ (by decide), n1 152 _ (by decide), n1 151 _ (by decide)]
    exact ⟨p2, p3, p4, p5, fun k k0 k1 => ⟨(p6 k k0 k1).1, (p6 k k0 k1).2.of fun j => n1 _ _ (by decide)⟩, fun c => ⟨(p7 c).1, (p7 c).2.of fun j => n1 _ _ (by decide)⟩, p8, p9⟩
theorem Pm0_cache {M : Mem} {x v : Int} (h : Pm0 M) (hx : x = 123 ∨ x = 124) (hv : rd M 120 8 = 0 → 1 ≤ v ∧ v ≤ 8) : Pm0 (wr M x 0 v) := by
  have n1 : ∀ y j : Int, y ≠ x → rd (wr M x 0 v) y j = rd M y j := fun y j c => rd_wn M (fun d => c d.1)
  obtain ⟨p0, p1, p2, p3, p4, p5, p6, p7, p8, p9⟩ := h
  have m1 : (126 : Int) ≠ x ∧ (131 : Int) ≠ x ∧ (136 : Int) ≠ x ∧ (137 : Int) ≠ x ∧ (142 : Int) ≠ x ∧ (139 : Int) ≠ x ∧ (138 : Int) ≠ x ∧ (120 : Int) ≠ x ∧ (141 : Int) ≠ x ∧ (140 : Int) ≠ x ∧ (152 : Int) ≠ x ∧ (151 : Int) ≠ x ∧ (143 : Int) ≠ x := by omega
  refine ⟨p0.w2 (by omega), ?_⟩
  simp only [n1 126 _ m1.1, n1 131 _ m1.2.1, n1 136 _ m1.2.2.1, n1 137 _ m1.2.2.2.1, n1 142 _ m1.2.2.2.2.1, n1 139 _ m1.2.2.2.2.2.1, n1 138 _ m1.2.2.2.2.2.2.1, n1 120 _ m1.2.2.2.2.2.2.2.1, n1 141 _ m1.2.2.2.2.2.2.2.2.1, n1 140 _ m1.2.2.2.2.2.2.2.2.2.1, n1 152 _ m1.2.2.2.2.2.2.2.2.2.2.1, n1 151 _ m1.2.2.2.2.2.2.2.2.2.2.2.1]
  refine ⟨p1, p2, p3, p4, fun kf => ?_, fun k k0 k1 => ⟨(p6 k k0 k1).1, (p6 k k0 k1).2.of fun j => n1 _ _ m1.2.2.2.2.2.2.2.2.2.2.2.2⟩, fun c => ⟨(p7 c).1, (p7 c).2.of fun j => n1 _ _ m1.2.2.2.2.2.2.2.2.2.2.2.2⟩, p8, p9⟩
  have q := p5 kf
  have q2 := hv kf
  rcases hx with rfl | rfl
  · rw [rd_ws, n1 124 _ (by decide)]
    omega
  · rw [rd_ws, n1 123 _ (by decide)]
    omega
theorem Pm0_what {M : Mem} {i v : Int} (h : Pm0 M) (hV : Iv M) (h0 : 0 ≤ i) (h1 : i < 0 + 200) (hv : rd M 120 8 = 0 → 0 ≤ v) : Pm0 (wr M 139 i v) := by
  have n1 : ∀ y j : Int, y ≠ 139 → rd (wr M 139 i v) y j = rd M y j := fun y j c => rd_wn M (fun d => c d.1)
  obtain ⟨p0, p1, p2, p3, p4, p5, p6, p7, p8, p9⟩ := h
  refine ⟨p0.w1 hV (by omega) h0 h1, ?_⟩
  simp only [n1 126 _ (by decide), n1 131 _ (by decide), n1 136 _ (by decide), n1 137 _ (by decide), n1 142 _ (by decide), n1 138 _ (by decide), n1 120 _ (by decide), n1 124 _ (by decide), n1 123 _ (by decide), n1 141 _ (by decide), n1 140 _ (by decide), n1 152 _ (by decide), n1 151 _ (by decide)]
  refine ⟨p1, p2, fun k k0 k1 kf => ?_, p4, p5, fun k k0 k1 => ⟨(p6 k k0 k1).1, (p6 k k0 k1).2.of fun j => n1 _ _ (by decide)⟩, fun c => ⟨(p7 c).1, (p7 c).2.of fun j => n1 _ _ (by decide)⟩, p8, p9⟩
  rw [rd_wr]
  split
  · exact hv kf
  · exact p3 k k0 k1 kf
theorem Pm0_goes {M : Mem} {i v : Int} (h : Pm0 M) (hV : Iv M) (h0 : 0 ≤ i) (h1 : i < 0 + 200) (hv : i - 0 < v ∨ rd M 137 (0 + v) ≠ 0 ∨ rd M 137 i ≠ 0) : Pm0 (wr M 142 i v) := by
  have n1 : ∀ y j : Int, y ≠ 142 → rd (wr M 142 i v) y j = rd M y j := fun y j c => rd_wn M (fun d => c d.1)
  obtain ⟨p0, p1, p2, p3, p4, p5, p6, p7, p8, p9⟩ := h
  refine ⟨p0.w1 hV (by omega) h0 h1, ?_⟩
  simp only [n1 126 _ (by decide), n1 131 _ (by decide), n1 136 _ (by decide), n1 137 _ (by decide), n1 139 _ (by decide), n1 138 _ (by decide), n1 120 _ (by decide), n1 124 _ (by decide), n1 123 _ (by decide), n1 141 _ (by decide), n1 140 _ (by decide), n1 152 _ (by decide), n1 151 _ (by decide)]
  refine ⟨p1, fun k k0 k1 kd => ?_, p3, p4, p5, fun k k0 k1 => ⟨(p6 k k0 k1).1, (p6 k k0 k1).2.of fun j => n1 _ _ (by decide)⟩, fun c => ⟨(p7 c).1, (p7 c).2.of fun j => n1 _ _ (by decide)⟩, p8, p9⟩
  by_cases c : 0 + k = i
  · rw [c, rd_ws]
    rcases hv with q | q | q
    · exact Or.inl (by omega)
    · exact Or.inr q
    · rw [c] at kd; exact absurd kd q
  · rw [rd_wn M (fun d => c d.2)]
    exact p2 k k0 k1 kd
theorem Pm0_from {M : Mem} {i v : Int} (h : Pm0 M) (hV : Iv M) (hi : i = (-1) + rd M 136 0) (h1 : 1 ≤ rd M 136 0) (hv : v = rd M 120 36) : Pm0 (wr M 140 i v) := by
  have v2 := ir_136_0 hV
  have n1 : ∀ y j : Int, y ≠ 140 → rd (wr M 140 i v) y j = rd M y j := fun y j c => rd_wn M (fun d => c d.1)
  obtain ⟨p0, p1, p2, p3, p4, p5, p6, p7, p8, p9⟩ := h
  refine ⟨p0.w1 hV (by omega) (by omega) (by omega), ?_⟩
  simp only [n1 126 _ (by decide), n1 131 _ (by decide), n1 136 _ (by decide), n1 137 _ (by decide), n1 139 _ (by decide), n1 138 _ (by decide), n1 120 _ (by decide), n1 124 _ (by decide), n1 123 _ (by decide), n1 141 _ (by decide), n1 142 _ (by decide), n1 152 _ (by decide), n1 151 _ (by decide)]
  refine ⟨p1, p2, p3, p4, p5, fun k k0 k1 => ⟨(p6 k k0 k1).1, ?_⟩, fun c => ?_, p8, p9⟩
  · by_cases c : 0 + k = i
    · rw [c, rd_ws]
      have := (p6 k k0 k1).1
      rw [c] at this
      exact psf_0 _ _ (by omega)
    · rw [rd_wn M (fun d => c d.2)]
      exact (p6 k k0 k1).2.of fun j => n1 _ _ (by decide)
  · rw [← hi, rd_ws]
    exact ⟨by omega, psf_0 _ _ (by omega)⟩
theorem Pm0_to {M : Mem} {i v : Int} (h : Pm0 M) (hV : Iv M) (hi : i = (-1) + rd M 136 0) (h1 : 1 ≤ rd M 136 0) (hv : v = rd M 120 36) : Pm0 (wr M 141 i v) := by
  have v2 := ir_136_0 hV
  have n1 : ∀ y j : Int, y ≠ 141 → rd (wr M 141 i v) y j = rd M y j := fun y j c => rd_wn M (fun d => c d.1)
  obtain ⟨p0, p1, p2, p3, p4, p5, p6, p7, p8, p9⟩ := h
  refine ⟨p0.w1 hV (by omega) (by omega) (by omega), ?_⟩
  simp only [n1 126 _ (by decide), n1 131 _ (by decide), n1 136 _ (by decide), n1 137 _ (by decide), n1 139 _ (by decide), n1 138 _ (by decide), n1 120 _ (by decide), n1 124 _ (by decide), n1 123 _ (by decide), n1 140 _ (by decide), n1 142 _ (by decide), n1 152 _ (by decide), n1 151 _ (by decide)]
  refine ⟨p1, p2, p3, p4, p5, fun k k0 k1 => ?_, fun c => ⟨(p7 c).1, (p7 c).2.of fun j => n1 _ _ (by decide)⟩, p8, p9⟩
  by_cases c : 0 + k = i
  · have z := p7 h1
    rw [← hi, ← hv] at z
    rw [c, rd_ws]
    exact ⟨by omega, z.2.of fun j => n1 _ _ (by decide)⟩
  · rw [rd_wn M (fun d => c d.2)]
    exact ⟨(p6 k k0 k1).1, (p6 k k0 k1).2.of fun j => n1 _ _ (by decide)⟩
theorem Pm0_spot {M : Mem} {v kd ln cd : Int} (h : Pm0 M) (hV : Iv M) (hv : v = rd M 136 0 + 1) (e1 : rd M 137 (0 + rd M 136 0) = kd) (e2 : rd M 138 (0 + rd M 136 0) = ln) (e3 : rd M 139 (0 + rd M 136 0) = 0) (e4 : rd M 140 (0 + rd M 136 0) = cd) (e5 : rd M 141 (0 + rd M 136 0) = cd) (e6 : rd M 142 (0 + rd M 136 0) = 0) (ec : rd M 120 36 = cd) (k1 : kd = 0 → 1 ≤ rd M 136 0) (k2 : kd ≠ 0 → 0 ≤ ln) : Pm0 (wr M 136 0 v) := by
  have v2 := ir_136_0 hV
  have n1 : ∀ y j : Int, y ≠ 136 → rd (wr M 136 0 v) y j = rd M y j := fun y j c => rd_wn M (fun d => c d.1)
  obtain ⟨p0, p1, p2, p3, p4, p5, p6, p7, p8, p9⟩ := h
  obtain ⟨sp, hsp⟩ : ∃ sp, rd M 136 0 = sp := ⟨_, rfl⟩
  rw [hsp] at hv e1 e2 e3 e4 e5 e6 k1 p2 p3 p4 p6 p7 p8 p9 v2
  refine ⟨p0.w2 (by omega), ?_⟩
  simp only [n1 126 _ (by decide), n1 131 _ (by decide), n1 137 _ (by decide), n1 142 _ (by decide), n1 139 _ (by decide), n1 138 _ (by decide), n1 120 _ (by decide), n1 124 _ (by decide), n1 123 _ (by decide), n1 141 _ (by decide), n1 140 _ (by decide), n1 152 _ (by decide), n1 151 _ (by decide), rd_ws]
  refine ⟨p1, fun k k0 kl kz => ?_, fun k k0 kl kf => ?_, fun k k0 kl kz => ?_, p5, fun k k0 kl => ?_, fun _ => ?_, fun _ => ?_, fun i i0 i1 => ?_⟩
  · by_cases c : k = sp
    · subst c
      rw [e6]
      refine Or.inr ?_
      rw [show (0 : Int) + 0 = 0 by omega]
      exact p8 (k1 (e1.symm.trans kz))
    · exact p2 k k0 (by omega) kz
  · by_cases c : k = sp
    · subst c; omega
    · exact p3 k k0 (by omega) kf
  · by_cases c : k = sp
    · subst c
      rw [e2]
      exact k2 (fun q => kz (e1.trans q))
    · exact p4 k k0 (by omega) kz
  · by_cases c : k = sp
    · subst c
      rw [e4, e5, ec]
      exact ⟨Int.le_refl _, psf_0 _ _ (by omega)⟩
    · exact ⟨(p6 k k0 (by omega)).1, (p6 k k0 (by omega)).2.of fun j => n1 _ _ (by decide)⟩
  · rw [show (-1) + v = 0 + sp by omega, e4, ec]
    exact ⟨Int.le_refl _, psf_0 _ _ (by omega)⟩
  · by_cases c : 1 ≤ sp
    · exact p8 c
    · have z : sp = 0 := by omega
      rw [z, show (0 : Int) + 0 = 0 by omega] at e1
      intro q
      have := k1 (e1.symm.trans q)
      omega
  · have q := p9 i i0 i1
    exact ⟨q.1, by omega, q.2.2⟩
theorem Pm0_bl {M : Mem} {v n : Int} (h : Pm0 M) (hn : rd M 120 50 = n) (hv : v = n + 1) (h0 : 0 ≤ rd M 152 n) (h1 : rd M 152 n < 0 + rd M 136 0) (h2 : rd M 151 n ≠ 1 → rd M 137 (rd M 152 n) ≠ 0) : Pm0 (wr M 120 50 v) := by
  have n1 : ∀ y j : Int, y ≠ 120 → rd (wr M 120 50 v) y j = rd M y j := fun y j c => rd_wn M (fun d => c d.1)
  have n2 : ∀ j : Int, j ≠ 50 → rd (wr M 120 50 v) 120 j = rd M 120 j := fun j c => rd_wn M (fun d => c d.2)
  obtain ⟨p0, p1, p2, p3, p4, p5, p6, p7, p8, p9⟩ := h
  refine ⟨p0.w2 (by omega), ?_⟩
  simp only [n1 126 _ (by decide), n1 131 _ (by decide), n1 136 _ (by decide), n1 137 _ (by decide), n1 142 _ (by decide), n1 139 _ (by decide), n1 138 _ (by decide), n1 124 _ (by decide), n1 123 _ (by decide), n1 141 _ (by decide), n1 140 _ (by decide), n1 152 _ (by decide), n1 151 _ (by decide), n2 8 (by decide), n2 36 (by decide), rd_ws]
  refine ⟨p1, p2, p3, p4, p5, fun k k0 k1 => ⟨(p6 k k0 k1).1, (p6 k k0 k1).2.of fun j => n1 _ _ (by decide)⟩, fun c => ⟨(p7 c).1, (p7 c).2.of fun j => n1 _ _ (by decide)⟩, p8, fun i i0 i1 => ?_⟩
  by_cases c : i = n
  · subst c
    exact ⟨h0, h1, h2⟩
  · exact p9 i i0 (by omega)
/-- a text begins -/
theorem Pm0_new {M : Mem} (h : Bk1 M) (e1 : rd M 126 0 = 0) (e2 : rd M 136 0 = 0) (e3 : rd M 123 0 = 1) (e4 : rd M 124 0 = 1) (e5 : rd M 120 50 = 0) : Pm0 M := by
  refine ⟨h, fun p p0 p1 => ?_, fun k k0 k1 => ?_, fun k k0 k1 => ?_, fun k k0 k1 => ?_, fun _ => ?_, fun k k0 k1 => ?_, fun k1 => ?_, fun k1 => ?_, fun i i0 i1 => ?_⟩
  all_goals omega
/-- a text was taken -/
theorem Pm0_end {M : Mem} (h : Pm0 M) (hf : rd M 120 8 = 0) : Bk0 M := ⟨h.2.1, h.2.2.1, fun k k0 k1 => h.2.2.2.1 k k0 k1 hf, h.2.2.2.2.1, h.2.2.2.2.2.1 hf, fun k k0 k1 => (h.2.2.2.2.2.2.1 k k0 k1).2⟩
def Dv0 (M : Mem) : Int := dp M (0 + rd M 140 ((-1) + rd M 136 0)) (rd M 120 36 - rd M 140 ((-1) + rd M 136 0)).toNat
theorem Dv0_of {M M2 : Mem} (h0 : ∀ j : Int, rd M2 143 j = rd M 143 j) (h1 : ∀ j : Int, rd M2 140 j = rd M 140 j) (h2 : rd M2 136 0 = rd M 136 0) (h3 : rd M2 120 36 = rd M 120 36) : Dv0 M2 = Dv0 M := by
  unfold Dv0
  rw [h1, h2, h3]
  exact dp_of h0 _ _
theorem Dv0_b {M : Mem} (h : Iv M) : -1000 ≤ Dv0 M ∧ Dv0 M ≤ 1000 := by
  have h1 := ir_120_36 h
  have h2 := ar_140 h ((-1) + rd M 136 0)
  have h3 := dp_le M (0 + rd M 140 ((-1) + rd M 136 0)) (rd M 120 36 - rd M 140 ((-1) + rd M 136 0)).toNat
  have h4 := dp_lo M (0 + rd M 140 ((-1) + rd M 136 0)) (rd M 120 36 - rd M 140 ((-1) + rd M 136 0)).toNat
  unfold Dv0
  omega
theorem Dv0_0 {M : Mem} (h : rd M 140 ((-1) + rd M 136 0) = rd M 120 36) : Dv0 M = 0 := by
  unfold Dv0
  rw [h, Int.sub_self]
  rfl
/-- a code is added: the two rows, then the count -/
theorem Pm0_add {M M1 : Mem} {a w n : Int} (h : Pm0 M) (hV : Iv M) (hn : rd M 120 36 = n) (h9 : n ≤ 899) (hs : 1 ≤ rd M 136 0) (e1 : rd M1 143 (0 + n) = a) (ho : ∀ y j : Int, ¬ (y = 143 ∧ j = 0 + n) → y ≠ 144 → rd M1 y j = rd M y j) (h1 : 5 < a → 1 ≤ Dv0 M) (h2 : 5 < a → a ≠ 18 → 2 ≤ Dv0 M) : Pm0 (wr M1 120 36 (n + 1)) ∧ Dv0 (wr M1 120 36 (n + 1)) = Dv0 M + dl a := by
  have v1 := ir_120_36 hV
  have v2 := ir_136_0 hV
  have nn : ∀ y j : Int, ¬ (y = 143 ∧ j = 0 + n) → y ≠ 144 → ¬ (y = 120 ∧ j = 36) → rd (wr M1 120 36 (n + 1)) y j = rd M y j := fun y j c1 c2 c3 => by rw [rd_wn _ c3, ho y j c1 c2]
  have n1 : ∀ y j : Int, y ≠ 143 → y ≠ 144 → y ≠ 120 → rd (wr M1 120 36 (n + 1)) y j = rd M y j := fun y j c1 c2 c3 => nn y j (fun d => c1 d.1) c2 (fun d => c3 d.1)
  have n2 : ∀ j : Int, j ≠ 36 → rd (wr M1 120 36 (n + 1)) 120 j = rd M 120 j := fun j c => nn _ _ (fun d => absurd d.1 (by decide)) (by decide) (fun d => c d.2)
  have n3 : ∀ j : Int, j ≠ 0 + n → rd (wr M1 120 36 (n + 1)) 143 j = rd M 143 j := fun j c => nn _ _ (fun d => c d.2) (by decide) (fun d => absurd d.1 (by decide))
  have n4 : rd (wr M1 120 36 (n + 1)) 143 (0 + n) = a := by rw [rd_wn _ (fun d => absurd d.1 (by decide)), e1]
  have n5 : rd (wr M1 120 36 (n + 1)) 120 36 = n + 1 := rd_ws _ _ _ _
  obtain ⟨p0, p1, p2, p3, p4, p5, p6, p7, p8, p9⟩ := h
  obtain ⟨q1, q2⟩ := p7 hs
  obtain ⟨cf, hcf⟩ : ∃ cf, rd M 140 ((-1) + rd M 136 0) = cf := ⟨_, rfl⟩
  have v3 := ar_140 hV ((-1) + rd M 136 0)
  have eD : Dv0 M = dp M (0 + cf) (n - cf).toNat := by unfold Dv0; rw [hcf, hn]
  rw [hcf, hn] at q1 q2
  rw [hcf] at v3
  obtain ⟨m, hm⟩ : ∃ m : Nat, (n - cf).toNat = m := ⟨_, rfl⟩
  have hm1 : (n + 1 - cf).toNat = m + 1 := by omega
  have em : 0 + cf + (m : Int) = 0 + n := by omega
  rw [hm] at eD q2
  have dpm : dp (wr M1 120 36 (n + 1)) (0 + cf) m = dp M (0 + cf) m := dp_ag fun i i0 i1 => n3 i (by omega)
  have hD2 : Dv0 (wr M1 120 36 (n + 1)) = Dv0 M + dl a := by
    unfold Dv0
    rw [n1 136 _ (by decide) (by decide) (by decide), n1 140 _ (by decide) (by decide) (by decide), n5, hcf, hm1, dp, em, n4, dpm, hn, hm]
  refine ⟨⟨?_, ?_⟩, hD2⟩
  · exact p0.ag hV (n1 _ _ (by decide) (by decide) (by decide)) (n1 _ _ (by decide) (by decide) (by decide)) (n1 _ _ (by decide) (by decide) (by decide)) (n1 _ _ (by decide) (by decide) (by decide)) (fun j _ _ => n1 _ _ (by decide) (by decide) (by decide)) (fun j _ _ => ⟨n1 _ _ (by decide) (by decide) (by decide), n1 _ _ (by decide) (by decide) (by decide), n1 _ _ (by decide) (by decide) (by decide), n1 _ _ (by decide) (by decide) (by decide), n1 _ _ (by decide) (by decide) (by decide), n1 _ _ (by decide) (by decide) (by decide)⟩) (fun j _ _ => n3 j (by omega))
  · simp only [n1 126 _ (by decide) (by decide) (by decide), n1 131 _ (by decide) (by decide) (by decide), n1 136 _ (by decide) (by decide) (by decide), n1 137 _ (by decide) (by decide) (by decide), n1 142 _ (by decide) (by decide) (by decide), n1 139 _ (by decide) (by decide) (by decide), n1 138 _ (by decide) (by decide) (by decide), n1 124 _ (by decide) (by decide) (by decide), n1 123 _ (by decide) (by decide) (by decide), n1 141 _ (by decide) (by decide) (by decide), n1 140 _ (by decide) (by decide) (by decide), n1 152 _ (by decide) (by decide) (by decide), n1 151 _ (by decide) (by decide) (by decide), n2 8 (by decide), n2 50 (by decide), n5]
    refine ⟨p1, p2, p3, p4, p5, fun k k0 k1 => ?_, fun _ => ?_, p8, p9⟩
    · have z := p6 k k0 k1
      rw [hn] at z
      have v4 := ar_140 hV (0 + k)
      exact ⟨by omega, z.2.ag fun i i0 i1 => n3 i (by omega)⟩
    · rw [hcf, hm1]
      refine ⟨by omega, fun i hi => ?_⟩
      by_cases c : i = m
      · subst c
        rw [em, n4, dpm, ← eD]
        exact ⟨h1, h2⟩
      · rw [n3 _ (by omega), dp_ag (M := M) (fun j j0 j1 => n3 j (by omega))]
        exact q2 i (by omega)

theorem Pm1.of {M M2 : Mem} (h : Pm1 M) (h1 : ∀ j : Int, rd M2 131 j = rd M 131 j) (h2 : ∀ j : Int, rd M2 137 j = rd M 137 j) (h3 : ∀ j : Int, rd M2 138 j = rd M 138 j) (h4 : ∀ j : Int, rd M2 139 j = rd M 139 j) (h5 : ∀ j : Int, rd M2 140 j = rd M 140 j) (h6 : ∀ j : Int, rd M2 141 j = rd M 141 j) (h7 : ∀ j : Int, rd M2 142 j = rd M 142 j) (h8 : ∀ j : Int, rd M2 143 j = rd M 143 j) (h9 : ∀ j : Int, rd M2 151 j = rd M 151 j) (h10 : ∀ j : Int, rd M2 152 j = rd M 152 j)
    (g1 : rd M2 126 0 = rd M 126 0) (g2 : rd M2 126 1 = rd M 126 1) (g3 : rd M2 136 0 = rd M 136 0) (g4 : rd M2 136 1 = rd M 136 1) (g5 : rd M2 123 0 = rd M 123 0) (g6 : rd M2 123 1 = rd M 123 1) (g7 : rd M2 124 0 = rd M 124 0) (g8 : rd M2 124 1 = rd M 124 1) (g9 : rd M2 120 8 = rd M 120 8) (g10 : rd M2 120 36 = rd M 120 36) (g11 : rd M2 120 50 = rd M 120 50) : Pm1 M2 := by
  obtain ⟨p0, p1, p2, p3, p4, p5, p6, p7, p8, p9⟩ := h
  refine ⟨p0.of h1 h2 h3 h4 h5 h6 h7 h8 g1 g3 g5 g7, ?_⟩
  simp only [h1, h2, h3, h4, h5, h6, h7, h9, h10, g2, g4, g6, g8, g9, g10, g11]
  exact ⟨p1, p2, p3, p4, p5, fun k k0 k1 => ⟨(p6 k k0 k1).1, (p6 k k0 k1).2.of h8⟩, fun c => ⟨(p7 c).1, (p7 c).2.of h8⟩, p8, p9⟩
/-- all that is looked at agrees; FAULTS may come, CODES may be more behind -/
theorem Pm1.ag {M M2 : Mem} (h : Pm1 M) (hV : Iv M) (hB : Bk0 M2) (g1 : rd M2 126 1 = rd M 126 1) (g2 : rd M2 136 1 = rd M 136 1) (g3 : rd M2 123 1 = rd M 123 1) (g4 : rd M2 124 1 = rd M 124 1) (gf : rd M2 120 8 = 0 → rd M 120 8 = 0) (gc : rd M2 120 36 = rd M 120 36) (gb : 0 ≤ rd M2 120 50 ∧ rd M2 120 50 ≤ rd M 120 50)
    (a1 : ∀ p : Int, 0 ≤ p → p < rd M 126 1 → rd M2 131 (36 + 6 * p + 5) = rd M 131 (36 + 6 * p + 5)) (a2 : ∀ i : Int, 200 ≤ i → i < 200 + rd M 136 1 → rd M2 137 i = rd M 137 i ∧ rd M2 138 i = rd M 138 i ∧ rd M2 139 i = rd M 139 i ∧ rd M2 140 i = rd M 140 i ∧ rd M2 141 i = rd M 141 i ∧ rd M2 142 i = rd M 142 i) (a3 : ∀ j : Int, rd M2 143 j = rd M 143 j)
    (a4 : ∀ i : Int, 0 ≤ i → i < rd M 120 50 → rd M2 151 i = rd M 151 i ∧ rd M2 152 i = rd M 152 i) : Pm1 M2 := by
  obtain ⟨p0, p1, p2, p3, p4, p5, p6, p7, p8, p9⟩ := h
  have v2 := ir_136_1 hV
  refine ⟨hB, fun p q0 q1 => ?_, fun k k0 k1 kd => ?_, fun k k0 k1 kf => ?_, fun k k0 k1 kd => ?_, fun kf => ?_, fun k k0 k1 => ?_, fun k1 => ?_, fun k1 => ?_, fun i i0 i1 => ?_⟩
  · rw [g1] at q1
    rw [a1 p q0 q1]
    exact p1 p q0 q1
  · rw [g2] at k1
    have e := a2 (200 + k) (by omega) (by omega)
    rw [e.1] at kd
    rw [e.2.2.2.2.2]
    have v3 := ar_142 hV (200 + k)
    by_cases c : k < rd M 142 (200 + k)
    · exact Or.inl c
    · rw [(a2 (200 + rd M 142 (200 + k)) (by omega) (by omega)).1]
      exact p2 k k0 k1 kd
  · rw [g2] at k1
    rw [(a2 (200 + k) (by omega) (by omega)).2.2.1]
    exact p3 k k0 k1 (gf kf)
  · rw [g2] at k1
    have e := a2 (200 + k) (by omega) (by omega)
    rw [e.1] at kd
    rw [e.2.1]
    exact p4 k k0 k1 kd
  · rw [g3, g4]; exact p5 (gf kf)
  · rw [g2] at k1
    have e := a2 (200 + k) (by omega) (by omega)
    rw [e.2.2.2.1, e.2.2.2.2.1, gc]
    exact ⟨(p6 k k0 k1).1, (p6 k k0 k1).2.of a3⟩
  · rw [g2] at k1 ⊢
    rw [(a2 (199 + rd M 136 1) (by omega) (by omega)).2.2.2.1, gc]
    exact ⟨(p7 k1).1, (p7 k1).2.of a3⟩
  · rw [g2] at k1
    rw [(a2 200 (by omega) (by omega)).1]
    exact p8 k1
  · have e := a4 i i0 (by omega)
    have q := p9 i i0 (by omega)
    rw [e.1, e.2, g2, (a2 (rd M 152 i) q.1 q.2.1).1]
    exact q
theorem Bk0.w1 {M : Mem} (h : Bk0 M) (hV : Iv M) {x i v : Int} (hx : x = 137 ∨ x = 138 ∨ x = 139 ∨ x = 140 ∨ x = 141 ∨ x = 142) (h0 : 200 ≤ i) (h1 : i < 200 + 200) : Bk0 (wr M x i v) :=
  h.ag hV (rd_wn M (fun c => by have := c.1; omega)) (rd_wn M (fun c => by have := c.1; omega)) (rd_wn M (fun c => by have := c.1; omega)) (rd_wn M (fun c => by have := c.1; omega)) (fun j j0 j1 => rd_wn M (fun c => by have := c.1; omega))
    (fun j j0 j1 => ⟨rd_wn M (fun c => by have := c.2; omega), rd_wn M (fun c => by have := c.2; omega), rd_wn M (fun c => by have := c.2; omega), rd_wn M (fun c => by have := c.2; omega), rd_wn M (fun c => by have := c.2; omega), rd_wn M (fun c => by have := c.2; omega)⟩) (fun j j0 j1 => rd_wn M (fun c => by have := c.1; omega))
theorem Bk0.w2 {M : Mem} (h : Bk0 M) {x i v : Int} (hx : (x = 126 ∧ i = 1) ∨ (x = 136 ∧ i = 1) ∨ (x = 123 ∧ i = 1) ∨ (x = 124 ∧ i = 1) ∨ x = 120 ∨ x = 151 ∨ x = 152) : Bk0 (wr M x i v) :=
  h.of (fun j => rd_wn M (fun c => by have := c.1; omega)) (fun j => rd_wn M (fun c => by have := c.1; omega)) (fun j => rd_wn M (fun c => by have := c.1; omega)) (fun j => rd_wn M (fun c => by have := c.1; omega)) (fun j => rd_wn M (fun c => by have := c.1; omega)) (fun j => rd_wn M (fun c => by have := c.1; omega)) (fun j => rd_wn M (fun c => by have := c.1; omega)) (fun j => rd_wn M (fun c => by have := c.1; omega)) (rd_wn M (fun c => by have := c.1; have := c.2; omega)) (rd_wn M (fun c => by have := c.1; have := c.2; omega)) (rd_wn M (fun c => by have := c.1; have := c.2; omega)) (rd_wn M (fun c => by have := c.1; have := c.2; omega))
/-- a place behind those that are counted, or what isn't looked at -/
theorem Pm1_free {M : Mem} {x i v : Int} (h : Pm1 M) (hV : Iv M) (hx : x = 137 ∨ x = 138 ∨ x = 139 ∨ x = 140 ∨ x = 141 ∨ x = 142) (h0 : 200 + rd M 136 1 ≤ i) (h1 : i < 200 + 200) : Pm1 (wr M x i v) := by
  have v2 := ir_136_1 hV
  have v3 := ir_120_50 hV
  have n1 : ∀ y j : Int, y ≠ x → rd (wr M x i v) y j = rd M y j := fun y j c => rd_wn M (fun d => c d.1)
  refine h.ag hV (h.1.w1 hV hx (by omega) h1) (n1 _ _ (by omega)) (n1 _ _ (by omega)) (n1 _ _ (by omega)) (n1 _ _ (by omega)) (fun c => by rw [n1 _ _ (by omega)] at c; exact c) (n1 _ _ (by omega)) (by rw [n1 _ _ (by omega)]; omega) (fun p _ _ => n1 _ _ (by omega)) (fun j j0 j1 => ?_) (fun j => n1 _ _ (by omega)) (fun j _ _ => ⟨n1 _ _ (by omega), n1 _ _ (by omega)⟩)
  have n2 : ∀ y : Int, rd (wr M x i v) y j = rd M y j := fun y => rd_wn M (fun d => by have := d.2; omega)
  exact ⟨n2 _, n2 _, n2 _, n2 _, n2 _, n2 _⟩
theorem Pm1_fk {M : Mem} {v : Int} (h : Pm1 M) (hV : Iv M) (hv : v ≠ 0) : Pm1 (wr M 120 8 v) := by
  have v3 := ir_120_50 hV
  have n1 : ∀ y j : Int, y ≠ 120 → rd (wr M 120 8 v) y j = rd M y j := fun y j c => rd_wn M (fun d => c d.1)
  have n2 : ∀ j : Int, j ≠ 8 → rd (wr M 120 8 v) 120 j = rd M 120 j := fun j c => rd_wn M (fun d => c d.2)
  exact h.ag hV (h.1.w2 (by omega)) (n1 _ _ (by omega)) (n1 _ _ (by omega)) (n1 _ _ (by omega)) (n1 _ _ (by omega)) (fun c => absurd ((rd_ws M 120 8 v).symm.trans c) hv) (n2 _ (by decide)) (by rw [n2 _ (by decide)]; omega) (fun p _ _ => n1 _ _ (by omega)) (fun j _ _ => ⟨n1 _ _ (by omega), n1 _ _ (by omega), n1 _ _ (by omega), n1 _ _ (by omega), n1 _ _ (by omega), n1 _ _ (by omega)⟩) (fun j => n1 _ _ (by omega)) (fun j _ _ => ⟨n1 _ _ (by omega), n1 _ _ (by omega)⟩)
theorem Pm1_blm {M : Mem} {v : Int} (h : Pm1 M) (hV : Iv M) (h0 : 0 ≤ v) (hv : v ≤ rd M 120 50) : Pm1 (wr M 120 50 v) := by
  have n1 : ∀ y j : Int, y ≠ 120 → rd (wr M 120 50 v) y j = rd M y j := fun y j c => rd_wn M (fun d => c d.1)
  have n2 : ∀ j : Int, j ≠ 50 → rd (wr M 120 50 v) 120 j = rd M 120 j := fun j c => rd_wn M (fun d => c d.2)
  exact h.ag hV (h.1.w2 (by omega)) (n1 _ _ (by omega)) (n1 _ _ (by omega)) (n1 _ _ (by omega)) (n1 _ _ (by omega)) (fun c => by rw [n2 _ (by decide)] at c; exact c) (n2 _ (by decide)) (by rw [rd_ws]; exact ⟨h0, hv⟩) (fun p _ _ => n1 _ _ (by omega)) (fun j _ _ => ⟨n1 _ _ (by omega), n1 _ _ (by omega), n1 _ _ (by omega), n1 _ _ (by omega), n1 _ _ (by omega), n1 _ _ (by omega)⟩) (fun j => n1 _ _ (by omega)) (fun j _ _ => ⟨n1 _ _ (by omega), n1 _ _ (by omega)⟩)
theorem Pm1_rate {M : Mem} {i v : Int} (h : Pm1 M) (hV : Iv M) (h0 : 36 + 6 * rd M 126 1 ≤ i) (h1 : i < 36 + 36) : Pm1 (wr M 131 i v) := by
  have v1 := ir_126_1 hV
  have v3 := ir_120_50 hV
  have n1 : ∀ y j : Int, y ≠ 131 → rd (wr M 131 i v) y j = rd M y j := fun y j c => rd_wn M (fun d => c d.1)
  refine h.ag hV (h.1.ag hV (n1 _ _ (by omega)) (n1 _ _ (by omega)) (n1 _ _ (by omega)) (n1 _ _ (by omega)) (fun j j0 j1 => rd_wn M (fun c => by have := c.2; omega)) (fun j _ _ => ⟨n1 _ _ (by omega), n1 _ _ (by omega), n1 _ _ (by omega), n1 _ _ (by omega), n1 _ _ (by omega), n1 _ _ (by omega)⟩) (fun j _ _ => n1 _ _ (by omega))) (n1 _ _ (by omega)) (n1 _ _ (by omega)) (n1 _ _ (by omega)) (n1 _ _ (by omega)) (fun c => by rw [n1 _ _ (by omega)] at c; exact c) (n1 _ _ (by omega)) (by rw [n1 _ _ (by omega)]; omega) (fun p p0 p1 => rd_wn M (fun c => by have := c.2; omega)) (fun j _ _ => ⟨n1 _ _ (by omega), n1 _ _ (by omega), n1 _ _ (by omega), n1 _ _ (by omega), n1 _ _ (by omega), n1 _ _ (by omega)⟩) (fun j => n1 _ _ (by omega)) (fun j _ _ => ⟨n1 _ _ (by omega), n1 _ _ (by omega)⟩)
theorem Pm1_blk {M : Mem} {x i v : Int} (h : Pm1 M) (hV : Iv M) (hx : x = 151 ∨ x = 152) (h0 : rd M 120 50 ≤ i) : Pm1 (wr M x i v) := by
  have v3 := ir_120_50 hV
  have n1 : ∀ y j : Int, y ≠ x → rd (wr M x i v) y j = rd M y j := fun y j c => rd_wn M (fun d => c d.1)
  exact h.ag hV (h.1.w2 (by omega)) (n1 _ _ (by omega)) (n1 _ _ (by omega)) (n1 _ _ (by omega)) (n1 _ _ (by omega)) (fun c => by rw [n1 _ _ (by omega)] at c; exact c) (n1 _ _ (by omega)) (by rw [n1 _ _ (by omega)]; omega) (fun p _ _ => n1 _ _ (by omega)) (fun j _ _ => ⟨n1 _ _ (by omega), n1 _ _ (by omega), n1 _ _ (by omega), n1 _ _ (by omega), n1 _ _ (by omega), n1 _ _ (by omega)⟩) (fun j => n1 _ _ (by omega)) (fun j j0 j1 => ⟨rd_wn M (fun c => by have := c.2; omega), rd_wn M (fun c => by have := c.2; omega)⟩)
/-- one component changes: the others are as they were -/
theorem Pm1_parts {M : Mem} {v : Int} (h : Pm1 M) (hv : v = rd M 126 1 + 1) (h5 : rd M 131 (36 + 6 * rd M 126 1 + 5) ≤ 50) : Pm1 (wr M 126 1 v) := by
  have n1 : ∀ y j : Int, y ≠ 126 → rd (wr M 126 1 v) y j = rd M y j := fun y j c => rd_wn M (fun d => c d.1)
  obtain ⟨p0, p1, p2, p3, p4, p5, p6, p7, p8, p9⟩ := h
  refine ⟨p0.w2 (by omega), fun p q0 q1 => ?_, ?_⟩
  · rw [rd_ws] at q1
    rw [n1 _ _ (by omega)]
    by_cases c : p = rd M 126 1
    · rw [c]; exact h5
    · exact p1 p q0 (by omega)
  · simp only [n1 136 _ (by decide), n1 137 _ (by decide), n1 142 _ (by decide), n1 139 _ (by decide), n1 138 _ (by decide), n1 120 _ (by decide), n1 124 _ (by decide), n1 123 _ (by decide), n1 141 _ (by decide), n1 140 _ (by decide), n1 152 _ (by decide), n1 151 _ (by decide)]
    exact ⟨p2, p3, p4, p5, fun k k0 k1 => ⟨(p6 k k0 k1).1, (p6 k k0 k1).2.of fun j => n1 _ _ (by decide)⟩, fun c => ⟨(p7 c).1, (p7 c).2.of fun j => n1 _ _ (by decide)⟩, p8, p9⟩
theorem Pm1_cache {M : Mem} {x v : Int} (h : Pm1 M) (hx : x = 123 ∨ x = 124) (hv : rd M 120 8 = 0 → 1 ≤ v ∧ v ≤ 8) : Pm1 (wr M x 1 v) := by
  have n1 : ∀ y j : Int, y ≠ x → rd (wr M x 1 v) y j = rd M y j := fun y j c => rd_wn M (fun d => c d.1)
  obtain ⟨p0, p1, p2, p3, p4, p5, p6, p7, p8, p9⟩ := h
  have m1 : (126 : Int) ≠ x ∧ (131 : Int) ≠ x ∧ (136 : Int) ≠ x ∧ (137 : Int) ≠ x ∧ (142 : Int) ≠ x ∧ (139 : Int) ≠ x ∧ (138 : Int) ≠ x ∧ (120 : Int) ≠ x ∧ (141 : Int) ≠ x ∧ (140 : Int) ≠ x ∧ (152 : Int) ≠ x ∧ (151 : Int) ≠ x ∧ (143 : Int) ≠ x := by omega
  refine ⟨p0.w2 (by omega), ?_⟩
  simp only [n1 126 _ m1.1, n1 131 _ m1.2.1, n1 136 _ m1.2.2.1, n1 137 _ m1.2.2.2.1, n1 142 _ m1.2.2.2.2.1, n1 139 _ m1.2.2.2.2.2.1, n1 138 _ m1.2.2.2.2.2.2.1, n1 120 _ m1.2.2.2.2.2.2.2.1, n1 141 _ m1.2.2.2.2.2.2.2.2.1, n1 140 _ m1.2.2.2.2.2.2.2.2.2.1, n1 152 _ m1.2.2.2.2.2.2.2.2.2.2.1, n1 151 _ m1.2.2.2.2.2.2.2.2.2.2.2.1]
  refine ⟨p1, p2, p3, p4, fun kf => ?_, fun k k0 k1 => ⟨(p6 k k0 k1).1, (p6 k k0 k1).2.of fun j => n1 _ _ m1.2.2.2.2.2.2.2.2.2.2.2.2⟩, fun c => ⟨(p7 c).1, (p7 c).2.of fun j => n1 _ _ m1.2.2.2.2.2.2.2.2.2.2.2.2⟩, p8, p9⟩
  have q := p5 kf
  have q2 := hv kf
  rcases hx with rfl | rfl
  · rw [rd_ws, n1 124 _ (by decide)]
    omega
  · rw [rd_ws, n1 123 _ (by decide)]
    omega
theorem Pm1_what {M : Mem} {i v : Int} (h : Pm1 M) (hV : Iv M) (h0 : 200 ≤ i) (h1 : i < 200 + 200) (hv : rd M 120 8 = 0 → 0 ≤ v) : Pm1 (wr M 139 i v) := by
  have n1 : ∀ y j : Int, y ≠ 139 → rd (wr M 139 i v) y j = rd M y j := fun y j c => rd_wn M (fun d => c d.1)
  obtain ⟨p0, p1, p2, p3, p4, p5, p6, p7, p8, p9⟩ := h
  refine ⟨p0.w1 hV (by omega) h0 h1, ?_⟩
  simp only [n1 126 _ (by decide), n1 131 _ (by decide), n1 136 _ (by decide), n1 137 _ (by decide), n1 142 _ (by decide), n1 138 _ (by decide), n1 120 _ (by decide), n1 124 _ (by decide), n1 123 _ (by decide), n1 141 _ (by decide), n1 140 _ (by decide), n1 152 _ (by decide), n1 151 _ (by decide)]
  refine ⟨p1, p2, fun k k0 k1 kf => ?_, p4, p5, fun k k0 k1 => ⟨(p6 k k0 k1).1, (p6 k k0 k1).2.of fun j => n1 _ _ (by decide)⟩, fun c => ⟨(p7 c).1, (p7 c).2.of fun j => n1 _ _ (by decide)⟩, p8, p9⟩
  rw [rd_wr]
  split
  · exact hv kf
  · exact p3 k k0 k1 kf
theorem Pm1_goes {M : Mem} {i v : Int} (h : Pm1 M) (hV : Iv M) (h0 : 200 ≤ i) (h1 : i < 200 + 200) (hv : i - 200 < v ∨ rd M 137 (200 + v) ≠ 0 ∨ rd M 137 i ≠ 0) : Pm1 (wr M 142 i v) := by
  have n1 : ∀ y j : Int, y ≠ 142 → rd (wr M 142 i v) y j = rd M y j := fun y j c => rd_wn M (fun d => c d.1)
  obtain ⟨p0, p1, p2, p3, p4, p5, p6, p7, p8, p9⟩ := h
  refine ⟨p0.w1 hV (by omega) h0 h1, ?_⟩
  simp only [n1 126 _ (by decide), n1 131 _ (by decide), n1 136 _ (by decide), n1 137 _ (by decide), n1 139 _ (by decide), n1 138 _ (by decide), n1 120 _ (by decide), n1 124 _ (by decide), n1 123 _ (by decide), n1 141 _ (by decide), n1 140 _ (by decide), n1 152 _ (by decide), n1 151 _ (by decide)]
  refine ⟨p1, fun k k0 k1 kd => ?_, p3, p4, p5, fun k k0 k1 => ⟨(p6 k k0 k1).1, (p6 k k0 k1).2.of fun j => n1 _ _ (by decide)⟩, fun c => ⟨(p7 c).1, (p7 c).2.of fun j => n1 _ _ (by decide)⟩, p8, p9⟩
  by_cases c : 200 + k = i
  · rw [c, rd_ws]
    rcases hv with q | q | q
    · exact Or.inl (by omega)
    · exact Or.inr q
    · rw [c] at kd; exact absurd kd q
  · rw [rd_wn M (fun d => c d.2)]
    exact p2 k k0 k1 kd
theorem Pm1_from {M : Mem} {i v : Int} (h : Pm1 M) (hV : Iv M) (hi : i = 199 + rd M 136 1) (h1 : 1 ≤ rd M 136 1) (hv : v = rd M 120 36) : Pm1 (wr M 140 i v) := by
  have v2 := ir_136_1 hV
  have n1 : ∀ y j : Int, y ≠ 140 → rd (wr M 140 i v) y j = rd M y j := fun y j c => rd_wn M (fun d => c d.1)
  obtain ⟨p0, p1, p2, p3, p4, p5, p6, p7, p8, p9⟩ := h
  refine ⟨p0.w1 hV (by omega) (by omega) (by omega), ?_⟩
  simp only [n1 126 _ (by decide), n1 131 _ (by decide), n1 136 _ (by decide), n1 137 _ (by decide), n1 139 _ (by decide), n1 138 _ (by decide), n1 120 _ (by decide), n1 124 _ (by decide), n1 123 _ (by decide), n1 141 _ (by decide), n1 142 _ (by decide), n1 152 _ (by decide), n1 151 _ (by decide)]
  refine ⟨p1, p2, p3, p4, p5, fun k k0 k1 => ⟨(p6 k k0 k1).1, ?_⟩, fun c => ?_, p8, p9⟩
  · by_cases c : 200 + k = i
    · rw [c, rd_ws]
      have := (p6 k k0 k1).1
      rw [c] at this
      exact psf_0 _ _ (by omega)
    · rw [rd_wn M (fun d => c d.2)]
      exact (p6 k k0 k1).2.of fun j => n1 _ _ (by decide)
  · rw [← hi, rd_ws]
    exact ⟨by omega, psf_0 _ _ (by omega)⟩
theorem Pm1_to {M : Mem} {i v : Int} (h : Pm1 M) (hV : Iv M) (hi : i = 199 + rd M 136 1) (h1 : 1 ≤ rd M 136 1) (hv : v = rd M 120 36) : Pm1 (wr M 141 i v) := by
  have v2 := ir_136_1 hV
  have n1 : ∀ y j : Int, y ≠ 141 → rd (wr M 141 i v) y j = rd M y j := fun y j c => rd_wn M (fun d => c d.1)
  obtain ⟨p0, p1, p2, p3, p4, p5, p6, p7, p8, p9⟩ := h
  refine ⟨p0.w1 hV (by omega) (by omega) (by omega), ?_⟩
  simp only [n1 126 _ (by decide), n1 131 _ (by decide), n1 136 _ (by decide), n1 137 _ (by decide), n1 139 _ (by decide), n1 138 _ (by decide), n1 120 _ (by decide), n1 124 _ (by decide), n1 123 _ (by decide), n1 140 _ (by decide), n1 142 _ (by decide), n1 152 _ (by decide), n1 151 _ (by decide)]
  refine ⟨p1, p2, p3, p4, p5, fun k k0 k1 => ?_, fun c => ⟨(p7 c).1, (p7 c).2.of fun j => n1 _ _ (by decide)⟩, p8, p9⟩
  by_cases c : 200 + k = i
  · have z := p7 h1
    rw [← hi, ← hv] at z
    rw [c, rd_ws]
    exact ⟨by omega, z.2.of fun j => n1 _ _ (by decide)⟩
  · rw [rd_wn M (fun d => c d.2)]
    exact ⟨(p6 k k0 k1).1, (p6 k k0 k1).2.of fun j => n1 _ _ (by decide)⟩
theorem Pm1_spot {M : Mem} {v kd ln cd : Int} (h : Pm1 M) (hV : Iv M) (hv : v = rd M 136 1 + 1) (e1 : rd M 137 (200 + rd M 136 1) = kd) (e2 : rd M 138 (200 + rd M 136 1) = ln) (e3 : rd M 139 (200 + rd M 136 1) = 0) (e4 : rd M 140 (200 + rd M 136 1) = cd) (e5 : rd M 141 (200 + rd M 136 1) = cd) (e6 : rd M 142 (200 + rd M 136 1) = 0) (ec : rd M 120 36 = cd) (k1 : kd = 0 → 1 ≤ rd M 136 1) (k2 : kd ≠ 0 → 0 ≤ ln) : Pm1 (wr M 136 1 v) := by
  have v2 := ir_136_1 hV
  have n1 : ∀ y j : Int, y ≠ 136 → rd (wr M 136 1 v) y j = rd M y j := fun y j c => rd_wn M (fun d => c d.1)
  obtain ⟨p0, p1, p2, p3, p4, p5, p6, p7, p8, p9⟩ := h
  obtain ⟨sp, hsp⟩ : ∃ sp, rd M 136 1 = sp := ⟨_, rfl⟩
  rw [hsp] at hv e1 e2 e3 e4 e5 e6 k1 p2 p3 p4 p6 p7 p8 p9 v2
  refine ⟨p0.w2 (by omega), ?_⟩
  simp only [n1 126 _ (by decide), n1 131 _ (by decide), n1 137 _ (by decide), n1 142 _ (by decide), n1 139 _ (by decide), n1 138 _ (by decide), n1 120 _ (by decide), n1 124 _ (by decide), n1 123 _ (by decide), n1 141 _ (by decide), n1 140 _ (by decide), n1 152 _ (by decide), n1 151 _ (by decide), rd_ws]
  refine ⟨p1, fun k k0 kl kz => ?_, fun k k0 kl kf => ?_, fun k k0 kl kz => ?_, p5, fun k k0 kl => ?_, fun _ => ?_, fun _ => ?_, fun i i0 i1 => ?_⟩
  · by_cases c : k = sp
    · subst c
      rw [e6]
      refine Or.inr ?_
      rw [show (200 : Int) + 0 = 200 by omega]
      exact p8 (k1 (e1.symm.trans kz))
    · exact p2 k k0 (by omega) kz
  · by_cases c : k = sp
    · subst c; omega
    · exact p3 k k0 (by omega) kf
  · by_cases c : k = sp
    · subst c
      rw [e2]
      exact k2 (fun q => kz (e1.trans q))
    · exact p4 k k0 (by omega) kz
  · by_cases c : k = sp
    · subst c
      rw [e4, e5, ec]
      exact ⟨Int.le_refl _, psf_0 _ _ (by omega)⟩
    · exact ⟨(p6 k k0 (by omega)).1, (p6 k k0 (by omega)).2.of fun j => n1 _ _ (by decide)⟩
  · rw [show 199 + v = 200 + sp by omega, e4, ec]
    exact ⟨Int.le_refl _, psf_0 _ _ (by omega)⟩
  · by_cases c : 1 ≤ sp
    · exact p8 c
    · have z : sp = 0 := by omega
      rw [z, show (200 : Int) + 0 = 200 by omega] at e1
      intro q
      have := k1 (e1.symm.trans q)
      omega
  · have q := p9 i i0 i1
    exact ⟨q.1, by omega, q.2.2⟩
theorem Pm1_bl {M : Mem} {v n : Int} (h : Pm1 M) (hn : rd M 120 50 = n) (hv : v = n + 1) (h0 : 200 ≤ rd M 152 n) (h1 : rd M 152 n < 200 + rd M 136 1) (h2 : rd M 151 n ≠ 1 → rd M 137 (rd M 152 n) ≠ 0) : Pm1 (wr M 120 50 v) := by
  have n1 : ∀ y j : Int, y ≠ 120 → rd (wr M 120 50 v) y j = rd M y j := fun y j c => rd_wn M (fun d => c d.1)
  have n2 : ∀ j : Int, j ≠ 50 → rd (wr M 120 50 v) 120 j = rd M 120 j := fun j c => rd_wn M (fun d => c d.2)
  obtain ⟨p0, p1, p2, p3, p4, p5, p6, p7, p8, p9⟩ := h
  refine ⟨p0.w2 (by omega), ?_⟩
  simp only [n1 126 _ (by decide), n1 131 _ (by decide), n1 136 _ (by decide), n1 137 _ (by decide), n1 142 _ (by decide), n1 139 _ (by decide), n1 138 _ (by decide), n1 124 _ (by decide), n1 123 _ (by decide), n1 141 _ (by decide), n1 140 _ (by decide), n1 152 _ (by decide), n1 151 _ (by decide), n2 8 (by decide), n2 36 (by decide), rd_ws]
  refine ⟨p1, p2, p3, p4, p5, fun k k0 k1 => ⟨(p6 k k0 k1).1, (p6 k k0 k1).2.of fun j => n1 _ _ (by decide)⟩, fun c => ⟨(p7 c).1, (p7 c).2.of fun j => n1 _ _ (by decide)⟩, p8, fun i i0 i1 => ?_⟩
  by_cases c : i = n
  · subst c
    exact ⟨h0, h1, h2⟩
  · exact p9 i i0 (by omega)
/-- a text begins -/
theorem Pm1_new {M : Mem} (h : Bk0 M) (e1 : rd M 126 1 = 0) (e2 : rd M 136 1 = 0) (e3 : rd M 123 1 = 1) (e4 : rd M 124 1 = 1) (e5 : rd M 120 50 = 0) : Pm1 M := by
  refine ⟨h, fun p p0 p1 => ?_, fun k k0 k1 => ?_, fun k k0 k1 => ?_, fun k k0 k1 => ?_, fun _ => ?_, fun k k0 k1 => ?_, fun k1 => ?_, fun k1 => ?_, fun i i0 i1 => ?_⟩
  all_goals omega
/-- a text was taken -/
theorem Pm1_end {M : Mem} (h : Pm1 M) (hf : rd M 120 8 = 0) : Bk1 M := ⟨h.2.1, h.2.2.1, fun k k0 k1 => h.2.2.2.1 k k0 k1 hf, h.2.2.2.2.1, h.2.2.2.2.2.1 hf, fun k k0 k1 => (h.2.2.2.2.2.2.1 k k0 k1).2⟩
def Dv1 (M : Mem) : Int := dp M (900 + rd M 140 (199 + rd M 136 1)) (rd M 120 36 - rd M 140 (199 + rd M 136 1)).toNat
theorem Dv1_of {M M2 : Mem} (h0 : ∀ j : Int, rd M2 143 j = rd M 143 j) (h1 : ∀ j : Int, rd M2 140 j = rd M 140 j) (h2 : rd M2 136 1 = rd M 136 1) (h3 : rd M2 120 36 = rd M 120 36) : Dv1 M2 = Dv1 M := by
  unfold Dv1
  rw [h1, h2, h3]
  exact dp_of h0 _ _
theorem Dv1_b {M : Mem} (h : Iv M) : -1000 ≤ Dv1 M ∧ Dv1 M ≤ 1000 := by
  have h1 := ir_120_36 h
  have h2 := ar_140 h (199 + rd M 136 1)
  have h3 := dp_le M (900 + rd M 140 (199 + rd M 136 1)) (rd M 120 36 - rd M 140 (199 + rd M 136 1)).toNat
  have h4 := dp_lo M (900 + rd M 140 (199 + rd M 136 1)) (rd M 120 36 - rd M 140 (199 + rd M 136 1)).toNat
  unfold Dv1
  omega
theorem Dv1_0 {M : Mem} (h : rd M 140 (199 + rd M 136 1) = rd M 120 36) : Dv1 M = 0 := by
  unfold Dv1
  rw [h, Int.sub_self]
  rfl
/-- a code is added: the two rows, then the count -/
theorem Pm1_add {M M1 : Mem} {a w n : Int} (h : Pm1 M) (hV : Iv M) (hn : rd M 120 36 = n) (h9 : n ≤ 899) (hs : 1 ≤ rd M 136 1) (e1 : rd M1 143 (900 + n) = a) (ho : ∀ y j : Int, ¬ (y = 143 ∧ j = 900 + n) → y ≠ 144 → rd M1 y j = rd M y j) (h1 : 5 < a → 1 ≤ Dv1 M) (h2 : 5 < a → a ≠ 18 → 2 ≤ Dv1 M) : Pm1 (wr M1 120 36 (n + 1)) ∧ Dv1 (wr M1 120 36 (n + 1)) = Dv1 M + dl a := by
  have v1 := ir_120_36 hV
  have v2 := ir_136_1 hV
  have nn : ∀ y j : Int, ¬ (y = 143 ∧ j = 900 + n) → y ≠ 144 → ¬ (y = 120 ∧ j = 36) → rd (wr M1 120 36 (n + 1)) y j = rd M y j := fun y j c1 c2 c3 => by rw [rd_wn _ c3, ho y j c1 c2]
  have n1 : ∀ y j : Int, y ≠ 143 → y ≠ 144 → y ≠ 120 → rd (wr M1 120 36 (n + 1)) y j = rd M y j := fun y j c1 c2 c3 => nn y j (fun d => c1 d.1) c2 (fun d => c3 d.1)
  have n2 : ∀ j : Int, j ≠ 36 → rd (wr M1 120 36 (n + 1)) 120 j = rd M 120 j := fun j c => nn _ _ (fun d => absurd d.1 (by decide)) (by decide) (fun d => c d.2)
  have n3 : ∀ j : Int, j ≠ 900 + n → rd (wr M1 120 36 (n + 1)) 143 j = rd M 143 j := fun j c => nn _ _ (fun d => c d.2) (by decide) (fun d => absurd d.1 (by decide))
  have n4 : rd (wr M1 120 36 (n + 1)) 143 (900 + n) = a := by rw [rd_wn _ (fun d => absurd d.1 (by decide)), e1]
  have n5 : rd (wr M1 120 36 (n + 1)) 120 36 = n + 1 := rd_ws _ _ _ _
  obtain ⟨p0, p1, p2, p3, p4, p5, p6, p7, p8, p9⟩ := h
  obtain ⟨q1, q2⟩ := p7 hs
  obtain ⟨cf, hcf⟩ : ∃ cf, rd M 140 (199 + rd M 136 1) = cf := ⟨_, rfl⟩
  have v3 := ar_140 hV (199 + rd M 136 1)
  have eD : Dv1 M = dp M (900 + cf) (n - cf).toNat := by unfold Dv1; rw [hcf, hn]
  rw [hcf, hn] at q1 q2
  rw [hcf] at v3
  obtain ⟨m, hm⟩ : ∃ m : Nat, (n - cf).toNat = m := ⟨_, rfl⟩
  have hm1 : (n + 1 - cf).toNat = m + 1 := by omega
  have em : 900 + cf + (m : Int) = 900 + n := by omega
  rw [hm] at eD q2
  have dpm : dp (wr M1 120 36 (n + 1)) (900 + cf) m = dp M (900 + cf) m := dp_ag fun i i0 i1 => n3 i (by omega)
  have hD2 : Dv1 (wr M1 120 36 (n + 1)) = Dv1 M + dl a := by
    unfold Dv1
    rw [n1 136 _ (by decide) (by decide) (by decide), n1 140 _ (by decide) (by decide) (by decide), n5, hcf, hm1, dp, em, n4, dpm, hn, hm]
  refine ⟨⟨?_, ?_⟩, hD2⟩
  · exact p0.ag hV (n1 _ _ (by decide) (by decide) (by decide)) (n1 _ _ (by decide) (by decide) (by decide)) (n1 _ _ (by decide) (by decide) (by decide)) (n1 _ _ (by decide) (by decide) (by decide)) (fun j _ _ => n1 _ _ (by decide) (by decide) (by decide)) (fun j _ _ => ⟨n1 _ _ (by decide) (by decide) (by decide), n1 _ _ (by decide) (by decide) (by decide), n1 _ _ (by decide) (by decide) (by decide), n1 _ _ (by decide) (by decide) (by decide), n1 _ _ (by decide) (by decide) (by decide), n1 _ _ (by decide) (by decide) (by decide)⟩) (fun j _ _ => n3 j (by omega))
  · simp only [n1 126 _ (by decide) (by decide) (by decide), n1 131 _ (by decide) (by decide) (by decide), n1 136 _ (by decide) (by decide) (by decide), n1 137 _ (by decide) (by decide) (by decide), n1 142 _ (by decide) (by decide) (by decide), n1 139 _ (by decide) (by decide) (by decide), n1 138 _ (by decide) (by decide) (by decide), n1 124 _ (by decide) (by decide) (by decide), n1 123 _ (by decide) (by decide) (by decide), n1 141 _ (by decide) (by decide) (by decide), n1 140 _ (by decide) (by decide) (by decide), n1 152 _ (by decide) (by decide) (by decide), n1 151 _ (by decide) (by decide) (by decide), n2 8 (by decide), n2 50 (by decide), n5]
    refine ⟨p1, p2, p3, p4, p5, fun k k0 k1 => ?_, fun _ => ?_, p8, p9⟩
    · have z := p6 k k0 k1
      rw [hn] at z
      have v4 := ar_140 hV (200 + k)
      exact ⟨by omega, z.2.ag fun i i0 i1 => n3 i (by omega)⟩
    · rw [hcf, hm1]
      refine ⟨by omega, fun i hi => ?_⟩
      by_cases c : i = m
      · subst c
        rw [em, n4, dpm, ← eD]
        exact ⟨h1, h2⟩
      · rw [n3 _ (by omega), dp_ag (M := M) (fun j j0 j1 => n3 j (by omega))]
        exact q2 i (by omega)
