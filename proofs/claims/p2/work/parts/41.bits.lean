/-! Long.bitCount, Integer.bitCount: what they work out is how many bits there are -/
theorem and_by (a c : Nat) {b d : Nat} (hb : b < 256) (hd : d < 256) : (256 * a + b) &&& (256 * c + d) = 256 * (a &&& c) + (b &&& d) := by
  have h1 : ((256 * a + b) &&& (256 * c + d)) / 2 ^ 8 = (256 * a + b) / 2 ^ 8 &&& (256 * c + d) / 2 ^ 8 := Nat.and_div_two_pow
  have h2 : ((256 * a + b) &&& (256 * c + d)) % 2 ^ 8 = (256 * a + b) % 2 ^ 8 &&& (256 * c + d) % 2 ^ 8 := Nat.and_mod_two_pow
  rw [show (256 * a + b) / 2 ^ 8 = a by omega, show (256 * c + d) / 2 ^ 8 = c by omega] at h1
  rw [show (256 * a + b) % 2 ^ 8 = b by omega, show (256 * c + d) % 2 ^ 8 = d by omega] at h2
  obtain ⟨X, hX⟩ : ∃ X, (256 * a + b) &&& (256 * c + d) = X := ⟨_, rfl⟩
  obtain ⟨A, hA⟩ : ∃ A, a &&& c = A := ⟨_, rfl⟩
  obtain ⟨B, hB⟩ : ∃ B, b &&& d = B := ⟨_, rfl⟩
  rw [hX, hA] at h1
  rw [hX, hB] at h2
  rw [hX, hA, hB]
  omega
def mk5 : Nat → Nat
  | 0 => 0
  | n + 1 => 256 * mk5 n + 85
def mk3 : Nat → Nat
  | 0 => 0
  | n + 1 => 256 * mk3 n + 51
def mkf : Nat → Nat
  | 0 => 0
  | n + 1 => 256 * mkf n + 15
def sw1 (n u : Nat) : Nat := u - ((u / 2) &&& mk5 n)
def sw2 (n u : Nat) : Nat := (u &&& mk3 n) + ((u / 4) &&& mk3 n)
def sw3 (n u : Nat) : Nat := (u + u / 16) &&& mkf n
theorem tb_1 : ∀ e : Fin 2, ∀ y : Fin 128, (128 * e.val + y.val) &&& 85 = y.val &&& 85 := by decide +kernel
theorem tb_2 : ∀ e : Fin 4, ∀ y : Fin 64, (64 * e.val + y.val) &&& 51 = y.val &&& 51 := by decide +kernel
def tf1 (r : Nat) : Nat := r - (r / 2 &&& 85)
def tf2 (r : Nat) : Nat := (r &&& 51) + (r / 4 &&& 51)
theorem tb_3 : ∀ r : Fin 256, tf1 r.val < 256 ∧ tf2 (tf1 r.val) < 256 ∧ tf2 (tf1 r.val) % 16 ≤ 4 ∧ tf2 (tf1 r.val) / 16 ≤ 4 ∧ tf2 (tf1 r.val) % 16 + tf2 (tf1 r.val) / 16 = popN 8 r.val := by decide +kernel
theorem sw1_s (n q : Nat) {r : Nat} (hr : r < 256) : sw1 (n + 1) (256 * q + r) = 256 * sw1 n q + tf1 r := by
  show (256 * q + r) - (((256 * q + r) / 2) &&& (256 * mk5 n + 85)) = 256 * (q - (q / 2 &&& mk5 n)) + (r - (r / 2 &&& 85))
  have e1 : (256 * q + r) / 2 = 256 * (q / 2) + (128 * (q % 2) + r / 2) := by omega
  rw [e1, and_by (q / 2) (mk5 n) (b := 128 * (q % 2) + r / 2) (d := 85) (by omega) (by omega)]
  have e2 : (128 * (q % 2) + r / 2) &&& 85 = r / 2 &&& 85 := tb_1 ⟨q % 2, by omega⟩ ⟨r / 2, by omega⟩
  have h1 : q / 2 &&& mk5 n ≤ q / 2 := Nat.and_le_left
  have h2 : r / 2 &&& 85 ≤ r / 2 := Nat.and_le_left
  rw [e2]
  obtain ⟨A, hA⟩ : ∃ A, q / 2 &&& mk5 n = A := ⟨_, rfl⟩
  obtain ⟨B, hB⟩ : ∃ B, r / 2 &&& 85 = B := ⟨_, rfl⟩
  rw [hA] at h1
  rw [hB] at h2
  rw [hA, hB]
  omega
theorem sw2_s (n q : Nat) {r : Nat} (hr : r < 256) : sw2 (n + 1) (256 * q + r) = 256 * sw2 n q + tf2 r := by
  show ((256 * q + r) &&& (256 * mk3 n + 51)) + (((256 * q + r) / 4) &&& (256 * mk3 n + 51)) = 256 * ((q &&& mk3 n) + (q / 4 &&& mk3 n)) + ((r &&& 51) + (r / 4 &&& 51))
  have e1 : (256 * q + r) / 4 = 256 * (q / 4) + (64 * (q % 4) + r / 4) := by omega
  rw [e1, and_by (q / 4) (mk3 n) (b := 64 * (q % 4) + r / 4) (d := 51) (by omega) (by omega), and_by q (mk3 n) (b := r) (d := 51) hr (by omega)]
  have e2 : (64 * (q % 4) + r / 4) &&& 51 = r / 4 &&& 51 := tb_2 ⟨q % 4, by omega⟩ ⟨r / 4, by omega⟩
  rw [e2]
  omega
theorem sw3_s (n q : Nat) {r : Nat} (hq : q % 16 ≤ 4) (h1 : r % 16 ≤ 4) (h2 : r / 16 ≤ 4) : sw3 (n + 1) (256 * q + r) = 256 * sw3 n q + (r % 16 + r / 16) := by
  show (256 * q + r + (256 * q + r) / 16) &&& (256 * mkf n + 15) = 256 * ((q + q / 16) &&& mkf n) + (r % 16 + r / 16)
  have e1 : 256 * q + r + (256 * q + r) / 16 = 256 * (q + q / 16) + (r + 16 * (q % 16) + r / 16) := by omega
  rw [e1, and_by (q + q / 16) (mkf n) (b := r + 16 * (q % 16) + r / 16) (d := 15) (by omega) (by omega)]
  have e2 : (r + 16 * (q % 16) + r / 16) &&& 15 = (r + 16 * (q % 16) + r / 16) % 16 := Nat.and_two_pow_sub_one_eq_mod _ 4
  rw [e2]
  omega
theorem sw_low (n u : Nat) : sw2 n (sw1 n u) % 16 ≤ 4 := by
  cases n with
  | zero =>
    unfold sw2 mk3
    rw [Nat.and_zero, Nat.and_zero]
    omega
  | succ n =>
    have h := tb_3 ⟨u % 256, by omega⟩
    have e : u = 256 * (u / 256) + u % 256 := by omega
    rw [e, sw1_s n _ (by omega), sw2_s n _ h.1]
    have h3 := h.2.2.1
    simp only at h3
    omega
def csv : Nat → Nat → Nat
  | 0, _ => 0
  | n + 1, u => 256 * csv n (u / 256) + popN 8 (u % 256)
theorem sw_all (n : Nat) : ∀ u, sw3 n (sw2 n (sw1 n u)) = csv n u := by
  induction n with
  | zero =>
    intro u
    unfold sw3 mkf csv
    exact Nat.and_zero _
  | succ n ih =>
    intro u
    have h := tb_3 ⟨u % 256, by omega⟩
    have e : u = 256 * (u / 256) + u % 256 := by omega
    have e2 : sw3 (n + 1) (sw2 (n + 1) (sw1 (n + 1) u)) = 256 * sw3 n (sw2 n (sw1 n (u / 256))) + (tf2 (tf1 (u % 256)) % 16 + tf2 (tf1 (u % 256)) / 16) := by
      rw [e, sw1_s n _ (by omega), sw2_s n _ h.1, sw3_s n _ (sw_low n _) h.2.2.1 h.2.2.2.1]
      rw [show (256 * (u / 256) + u % 256) / 256 = u / 256 by omega, show (256 * (u / 256) + u % 256) % 256 = u % 256 by omega]
    rw [e2, ih, h.2.2.2.2]
    rfl
theorem popN_split (a b : Nat) : ∀ u, popN (a + b) u = popN a u + popN b (u / 2 ^ a) := by
  induction a with
  | zero => intro u; rw [Nat.zero_add, Nat.pow_zero, Nat.div_one]; exact (Nat.zero_add _).symm
  | succ a ih =>
    intro u
    rw [show a + 1 + b = (a + b) + 1 by omega]
    show u % 2 + popN (a + b) (u / 2) = u % 2 + popN a (u / 2) + popN b (u / 2 ^ (a + 1))
    rw [ih, Nat.div_div_eq_div_mul, show 2 * 2 ^ a = 2 ^ (a + 1) by rw [Nat.pow_succ]; omega]
    omega
theorem popN_mod (a : Nat) : ∀ u, popN a (u % 2 ^ a) = popN a u := by
  induction a with
  | zero => intro u; rfl
  | succ a ih =>
    intro u
    show u % 2 ^ (a + 1) % 2 + popN a (u % 2 ^ (a + 1) / 2) = u % 2 + popN a (u / 2)
    have e : 2 ^ (a + 1) = 2 * 2 ^ a := by rw [Nat.pow_succ]; omega
    rw [e, Nat.mod_mul_right_div_self, ih, Nat.mod_mul_right_mod]
