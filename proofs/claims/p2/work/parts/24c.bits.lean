/-! Long.bitCount, Integer.bitCount: what they work out is how many bits there are -/
theorem and_by (a c : Nat) {b d : Nat} (hb : b < 256) (hd : d < 256) : (256 * a + b) &&& (256 * c + d) = 256 * (a &&& c) + (b &&& d) := by
  have h1 : ((256 * a + b) &&& (256 * c + d)) / 2 ^ 8 = (256 * a + b) / 2 ^ 8 &&& (256 * c + d) / 2 ^ 8 := Nat.and_div_two_pow
  have h2 : ((256 * a + b) &&& (256 * c + d)) % 2 ^ 8 = (256 * a + b) % 2 ^ 8 &&& (256 * c + d) % 2 ^ 8 := Nat.and_mod_two_pow
  rw [show (256 * a + b) / 2 ^ 8 = a by omega, show (256 * c + d) / 2 ^ 8 = c by omega] at h1
  rw [show (256 * a + b) % 2 ^ 8 = b by omega, show (256 * c + d) % 2 ^ 8 = d by omega] at h2
  obtain ⟨X, hX⟩ : ∃ X, (256 * a + b) &&& (256 * c + d) = X := ⟨_, rfl⟩
  obtain ⟨A, hA⟩ : ∃ A, a &&& c = A := ⟨_, rfl⟩
  obtain ⟨B, hB⟩ : ∃ B, b &&& d = B := ⟨_, rfl⟩
  rw [hX, hA] at h1
  rw [hX, hB] at h2
  rw [hX, hA, hB]
  omega
def mk5 : Nat → Nat
  | 0 => 0
  | n + 1 => 256 * mk5 n + 85
def mk3 : Nat → Nat
  | 0 => 0
  | n + 1 => 256 * mk3 n + 51
def mkf : Nat → Nat
  | 0 => 0
  | n + 1 => 256 * mkf n + 15
def sw1 (n u : Nat) : Nat := u - ((u / 2) &&& mk5 n)
def sw2 (n u : Nat) : Nat := (u &&& mk3 n) + ((u / 4) &&& mk3 n)
def sw3 (n u : Nat) : Nat := (u + u / 16) &&& mkf n
theorem tb_1 : ∀ e : Fin 2, ∀ y : Fin 128, (128 * e.val + y.val) &&& 85 = y.val &&& 85 := by decide +kernel
theorem tb_2 : ∀ e : Fin 4, ∀ y : Fin 64, (64 * e.val + y.val) &&& 51 = y.val &&& 51 := by decide +kernel
def tf1 (r : Nat) : Nat := r - (r / 2 &&& 85)
def tf2 (r : Nat) : Nat := (r &&& 51) + (r / 4 &&& 51)
theorem tb_3 : ∀ r : Fin 256, tf1 r.val < 256 ∧ tf2 (tf1 r.val) < 256 ∧ tf2 (tf1 r.val) % 16 ≤ 4 ∧ tf2 (tf1 r.val) / 16 ≤ 4 ∧ tf2 (tf1 r.val) % 16 + tf2 (tf1 r.val) / 16 = popN 8 r.val := by decide +kernel
theorem sw1_s (n q : Nat) {r : Nat} (hr : r < 256) : sw1 (n + 1) (256 * q + r) = 256 * sw1 n q + tf1 r := by
  show (256 * q + r) - (((256 * q + r) / 2) &&& (256 * mk5 n + 85)) = 256 * (q - (q / 2 &&& mk5 n)) + (r - (r / 2 &&& 85))
  have e1 : (256 * q + r) / 2 = 256 * (q / 2) + (128 * (q % 2) + r / 2) := by omega
  rw [e1, and_by (q / 2) (mk5 n) (b := 128 * (q % 2) + r / 2) (d := 85) (by omega) (by omega)]
  have e2 : (128 * (q % 2) + r / 2) &&& 85 = r / 2 &&& 85 := tb_1 ⟨q % 2, by omega⟩ ⟨r / 2, by omega⟩
  have h1 : q / 2 &&& mk5 n ≤ q / 2 := Nat.and_le_left
  have h2 : r / 2 &&& 85 ≤ r / 2 := Nat.and_le_left
  rw [e2]
  obtain ⟨A, hA⟩ : ∃ A, q / 2 &&& mk5 n = A := ⟨_, rfl⟩
  obtain ⟨B, hB⟩ : ∃ B, r / 2 &&& 85 = B := ⟨_, rfl⟩
  rw [hA] at h1
  rw [hB] at h2
  rw [hA, hB]
  omega
theorem sw2_s (n q : Nat) {r : Nat} (hr : r < 256) : sw2 (n + 1) (256 * q + r) = 256 * sw2 n q + tf2 r := by
  show ((256 * q + r) &&& (256 * mk3 n + 51)) + (((256 * q + r) / 4) &&& (256 * mk3 n + 51)) = 256 * ((q &&& mk3 n) + (q / 4 &&& mk3 n)) + ((r &&& 51) + (r / 4 &&& 51))
  have e1 : (256 * q + r) / 4 = 256 * (q / 4) + (64 * (q % 4) + r / 4) := by omega
  rw [e1, and_by (q / 4) (mk3 n) (b := 64 * (q % 4) + r / 4) (d := 51) (by omega) (by omega), and_by q (mk3 n) (b := r) (d := 51) hr (by omega)]
  have e2 : (64 * (q % 4) + r / 4) &&& 51 = r / 4 &&& 51 := tb_2 ⟨q % 4, by omega⟩ ⟨r / 4, by omega⟩
  rw [e2]
  omega
theorem sw3_s (n q : Nat) {r : Nat} (hq : q % 16 ≤ 4) (h1 : r % 16 ≤ 4) (h2 : r / 16 ≤ 4) : sw3 (n + 1) (256 * q + r) = 256 * sw3 n q + (r % 16 + r / 16) := by
  show (256 * q + r + (256 * q + r) / 16) &&& (256 * mkf n + 15) = 256 * ((q + q / 16) &&& mkf n) + (r % 16 + r / 16)
  have e1 : 256 * q + r + (256 * q + r) / 16 = 256 * (q + q / 16) + (r + 16 * (q % 16) + r / 16) := by omega
  rw [e1, and_by (q + q / 16) (mkf n) (b := r + 16 * (q % 16) + r / 16) (d := 15) (by omega) (by omega)]
  have e2 : (r + 16 * (q % 16) + r / 16) &&& 15 = (r + 16 * (q % 16) + r / 16) % 16 := Nat.and_two_pow_sub_one_eq_mod _ 4
  rw [e2]
  omega
theorem sw_low (n u : Nat) : sw2 n (sw1 n u) % 16 ≤ 4 := by
  cases n with
  | zero =>
    unfold sw2 mk3
    rw [Nat.and_zero, Nat.and_zero]
    omega
  | succ n =>
    have h := tb_3 ⟨u % 256, by omega⟩
    have e : u = 256 * (u / 256) + u % 256 := by omega
    rw [e, sw1_s n _ (by omega), sw2_s n _ h.1]
    have h3 := h.2.2.1
    simp only at h3
    omega
def csv : Nat → Nat → Nat
  | 0, _ => 0
  | n + 1, u => 256 * csv n (u / 256) + popN 8 (u % 256)
theorem sw_all (n : Nat) : ∀ u, sw3 n (sw2 n (sw1 n u)) = csv n u := by
  induction n with
  | zero =>
    intro u
    unfold sw3 mkf csv
    exact Nat.and_zero _
  | succ n ih =>
    intro u
    have h := tb_3 ⟨u % 256, by omega⟩
    have e : u = 256 * (u / 256) + u % 256 := by omega
    have e2 : sw3 (n + 1) (sw2 (n + 1) (sw1 (n + 1) u)) = 256 * sw3 n (sw2 n (sw1 n (u / 256))) + (tf2 (tf1 (u % 256)) % 16 + tf2 (tf1 (u % 256)) / 16) := by
      rw [e, sw1_s n _ (by omega), sw2_s n _ h.1, sw3_s n _ (sw_low n _) h.2.2.1 h.2.2.2.1]
      rw [show (256 * (u / 256) + u % 256) / 256 = u / 256 by omega, show (256 * (u / 256) + u % 256) % 256 = u % 256 by omega]
    rw [e2, ih, h.2.2.2.2]
    rfl
theorem popN_split (a b : Nat) : ∀ u, popN (a + b) u = popN a u + popN b (u / 2 ^ a) := by
  induction a with
  | zero => intro u; rw [Nat.zero_add, Nat.pow_zero, Nat.div_one]; exact (Nat.zero_add _).symm
  | succ a ih =>
    intro u
    rw [show a + 1 + b = (a + b) + 1 by omega]
    show u % 2 + popN (a + b) (u / 2) = u % 2 + popN a (u / 2) + popN b (u / 2 ^ (a + 1))
    rw [ih, Nat.div_div_eq_div_mul, show 2 * 2 ^ a = 2 ^ (a + 1) by rw [Nat.pow_succ]; omega]
    omega
theorem popN_mod (a : Nat) : ∀ u, popN a (u % 2 ^ a) = popN a u := by
  induction a with
  | zero => intro u; rfl
  | succ a ih =>
    intro u
    show u % 2 ^ (a + 1) % 2 + popN a (u % 2 ^ (a + 1) / 2) = u % 2 + popN a (u / 2)
    have e : 2 ^ (a + 1) = 2 * 2 ^ a := by rw [Nat.pow_succ]; omega
    rw [e, Nat.mod_mul_right_div_self, ih, Nat.mod_mul_right_mod]
theorem csv_d (n u : Nat) : ∃ c v : Nat, c ≤ 8 ∧ csv (n + 1) u = 256 * csv n v + c ∧ popN (8 * n + 8) u = c + popN (8 * n) v := by
  refine ⟨popN 8 (u % 256), u / 256, popN_le 8 _, rfl, ?_⟩
  rw [show 8 * n + 8 = 8 + 8 * n by omega, popN_split, show u % 256 = u % 2 ^ 8 from rfl, popN_mod]
theorem csv_8 (u : Nat) : ∃ c0 c1 c2 c3 c4 c5 c6 c7 : Nat, (c0 ≤ 8 ∧ c1 ≤ 8 ∧ c2 ≤ 8 ∧ c3 ≤ 8 ∧ c4 ≤ 8 ∧ c5 ≤ 8 ∧ c6 ≤ 8 ∧ c7 ≤ 8) ∧ csv 8 u = c0 + 256 * (c1 + 256 * (c2 + 256 * (c3 + 256 * (c4 + 256 * (c5 + 256 * (c6 + 256 * c7)))))) ∧ popN 64 u = c0 + c1 + c2 + c3 + c4 + c5 + c6 + c7 := by
  obtain ⟨c0, u1, b0, e0, p0⟩ := csv_d 7 u
  obtain ⟨c1, u2, b1, e1, p1⟩ := csv_d 6 u1
  obtain ⟨c2, u3, b2, e2, p2⟩ := csv_d 5 u2
  obtain ⟨c3, u4, b3, e3, p3⟩ := csv_d 4 u3
  obtain ⟨c4, u5, b4, e4, p4⟩ := csv_d 3 u4
  obtain ⟨c5, u6, b5, e5, p5⟩ := csv_d 2 u5
  obtain ⟨c6, u7, b6, e6, p6⟩ := csv_d 1 u6
  obtain ⟨c7, u8, b7, e7, p7⟩ := csv_d 0 u7
  have z : csv 0 u8 = 0 := rfl
  have zp : popN (8 * 0) u8 = 0 := rfl
  refine ⟨c0, c1, c2, c3, c4, c5, c6, c7, ⟨b0, b1, b2, b3, b4, b5, b6, b7⟩, ?_, ?_⟩
  · rw [e0, e1, e2, e3, e4, e5, e6, e7, z]; omega
  · have q0 : popN 64 u = c0 + popN (8 * 7) u1 := p0
    rw [q0, show popN (8 * 7) u1 = c1 + popN (8 * 6) u2 from p1, show popN (8 * 6) u2 = c2 + popN (8 * 5) u3 from p2, show popN (8 * 5) u3 = c3 + popN (8 * 4) u4 from p3, show popN (8 * 4) u4 = c4 + popN (8 * 3) u5 from p4, show popN (8 * 3) u5 = c5 + popN (8 * 2) u6 from p5, show popN (8 * 2) u6 = c6 + popN (8 * 1) u7 from p6, show popN (8 * 1) u7 = c7 + popN (8 * 0) u8 from p7, zp]
    omega
theorem div_c {c k y : Nat} (h : c < k) : (c + k * y) / k = y := by
  rw [Nat.add_mul_div_left _ _ (by omega), Nat.div_eq_of_lt h]
  omega
theorem al_v (c0 c1 c2 c3 c4 c5 c6 c7 : Nat) : c0 + 256 * (c1 + 256 * (c2 + 256 * (c3 + 256 * (c4 + 256 * (c5 + 256 * (c6 + 256 * c7)))))) + (c1 + 256 * (c2 + 256 * (c3 + 256 * (c4 + 256 * (c5 + 256 * (c6 + 256 * c7)))))) = ((c0 + c1) + 256 * (c1 + c2)) + 65536 * ((c2 + c3) + 256 * ((c3 + c4) + 256 * ((c4 + c5) + 256 * ((c5 + c6) + 256 * (c6 + c7 + 256 * c7))))) := by omega
theorem al_w (c0 c1 c2 c3 c4 c5 c6 c7 : Nat) : ((c0 + c1) + 256 * (c1 + c2)) + 65536 * ((c2 + c3) + 256 * ((c3 + c4) + 256 * ((c4 + c5) + 256 * ((c5 + c6) + 256 * (c6 + c7 + 256 * c7))))) + ((c2 + c3) + 256 * ((c3 + c4) + 256 * ((c4 + c5) + 256 * ((c5 + c6) + 256 * (c6 + c7 + 256 * c7))))) = ((c0 + c1 + c2 + c3) + 256 * (c1 + c2 + c3 + c4) + 65536 * (c2 + c3 + c4 + c5) + 16777216 * (c3 + c4 + c5 + c6)) + 4294967296 * ((c4 + c5 + c6 + c7) + 256 * ((c5 + c6 + c7) + 256 * (c6 + c7 + 256 * c7))) := by omega
theorem al_x (c0 c1 c2 c3 c4 c5 c6 c7 : Nat) : ((c0 + c1 + c2 + c3) + 256 * (c1 + c2 + c3 + c4) + 65536 * (c2 + c3 + c4 + c5) + 16777216 * (c3 + c4 + c5 + c6)) + 4294967296 * ((c4 + c5 + c6 + c7) + 256 * ((c5 + c6 + c7) + 256 * (c6 + c7 + 256 * c7))) + ((c4 + c5 + c6 + c7) + 256 * ((c5 + c6 + c7) + 256 * (c6 + c7 + 256 * c7))) = (c0 + c1 + c2 + c3 + c4 + c5 + c6 + c7) + 128 * (2 * ((c1 + c2 + c3 + c4 + c5 + c6 + c7) + 256 * (c2 + c3 + c4 + c5 + c6 + c7) + 65536 * (c3 + c4 + c5 + c6 + c7) + 16777216 * (c4 + c5 + c6 + c7) + 4294967296 * (c5 + c6 + c7) + 1099511627776 * (c6 + c7) + 281474976710656 * c7)) := by omega
theorem al_b {c0 c1 c2 c3 c4 c5 c6 c7 : Nat} (h : c0 ≤ 8 ∧ c1 ≤ 8 ∧ c2 ≤ 8 ∧ c3 ≤ 8 ∧ c4 ≤ 8 ∧ c5 ≤ 8 ∧ c6 ≤ 8 ∧ c7 ≤ 8) : (c0 + c1 + c2 + c3 + c4 + c5 + c6 + c7) + 128 * (2 * ((c1 + c2 + c3 + c4 + c5 + c6 + c7) + 256 * (c2 + c3 + c4 + c5 + c6 + c7) + 65536 * (c3 + c4 + c5 + c6 + c7) + 16777216 * (c4 + c5 + c6 + c7) + 4294967296 * (c5 + c6 + c7) + 1099511627776 * (c6 + c7) + 281474976710656 * c7)) < 9223372036854775808 := by omega
theorem al_m {x z : Nat} (h : x ≤ 64) : (x + 128 * (2 * z)) % 128 = x := by omega
/-- what the last steps add up -/
theorem csv_f {u U V W X : Nat} (hU : U = csv 8 u) (hV : V = U + U / 256) (hW : W = V + V / 65536) (hX : X = W + W / 4294967296) : X % 128 = popN 64 u ∧ U < 9223372036854775808 ∧ V < 9223372036854775808 ∧ W < 9223372036854775808 ∧ X < 9223372036854775808 := by
  have uv : U ≤ V := by rw [hV]; exact Nat.le_add_right _ _
  have vw : V ≤ W := by rw [hW]; exact Nat.le_add_right _ _
  have wx : W ≤ X := by rw [hX]; exact Nat.le_add_right _ _
  obtain ⟨c0, c1, c2, c3, c4, c5, c6, c7, hb, hc, hp⟩ := csv_8 u
  rw [hc] at hU
  rw [hp]
  have d1 : U / 256 = c1 + 256 * (c2 + 256 * (c3 + 256 * (c4 + 256 * (c5 + 256 * (c6 + 256 * c7))))) := by rw [hU]; exact div_c (Nat.lt_of_le_of_lt hb.1 (by decide))
  rw [d1, hU, al_v] at hV
  have d2 : V / 65536 = (c2 + c3) + 256 * ((c3 + c4) + 256 * ((c4 + c5) + 256 * ((c5 + c6) + 256 * (c6 + c7 + 256 * c7)))) := by rw [hV]; exact div_c (by clear hU hV hW hX d1 uv vw wx hc hp; omega)
  rw [d2, hV, al_w] at hW
  have d3 : W / 4294967296 = (c4 + c5 + c6 + c7) + 256 * ((c5 + c6 + c7) + 256 * (c6 + c7 + 256 * c7)) := by rw [hW]; exact div_c (by clear hU hV hW hX d1 d2 uv vw wx hc hp; omega)
  rw [d3, hW, al_x] at hX
  have bx : X < 9223372036854775808 := by rw [hX]; exact al_b hb
  refine ⟨?_, Nat.lt_of_le_of_lt uv (Nat.lt_of_le_of_lt vw (Nat.lt_of_le_of_lt wx bx)), Nat.lt_of_le_of_lt vw (Nat.lt_of_le_of_lt wx bx), Nat.lt_of_le_of_lt wx bx, bx⟩
  rw [hX]
  exact al_m (by clear hU hV hW hX d1 d2 d3 uv vw wx hc hp bx; omega)
theorem u64_land (a b : Int) : u64 (f_land a b) = u64 a &&& u64 b := by
  rw [← i64_nat, ← i64_nat, ← i64_nat]
  unfold f_land
  rw [Int64.ofInt_toInt, Int64.toBitVec_and, BitVec.toNat_and]
theorem u64_w (x : Int) : u64 (w64 x) = u64 x := by
  unfold u64 w64
  omega
theorem u64_c {n : Nat} (h : n < 18446744073709551616) : u64 (n : Int) = n := by
  unfold u64
  omega
theorem u64_sub {a y : Int} (h : u64 y ≤ u64 a) : u64 (a - y) = u64 a - u64 y := by
  unfold u64 at *
  omega
theorem u64_add {a y : Int} (h : u64 a + u64 y < 18446744073709551616) : u64 (a + y) = u64 a + u64 y := by
  unfold u64 at *
  omega
theorem u64_sr (a : Int) (s : Nat) (s0 : 1 ≤ s) (s1 : s < 64) (hy : ((Int32.ofInt (s : Int)).toInt64.toUInt64 &&& Int64.toUInt64 63).toNat = s) : u64 (f_lushr a (s : Int)) = u64 a / 2 ^ s := by
  rw [lushr_k a s s0 s1 hy]
  exact u64_c (Nat.lt_of_le_of_lt (Nat.div_le_self _ _) (u64_lt a))
theorem bc_J {a e1 e2 e3 e4 e5 e6 : Int} (h1 : w64 (a - f_land (f_lushr a 1) 6148914691236517205) = e1) (h2 : w64 (f_land e1 3689348814741910323 + f_land (f_lushr e1 2) 3689348814741910323) = e2) (h3 : f_land (w64 (e2 + f_lushr e2 4)) 1085102592571150095 = e3) (h4 : w64 (e3 + f_lushr e3 8) = e4) (h5 : w64 (e4 + f_lushr e4 16) = e5) (h6 : w64 (e5 + f_lushr e5 32) = e6) : u64 e6 % 128 = popN 64 (u64 a) := by
  have r1 : ∀ x : Int, u64 (f_lushr x 1) = u64 x / 2 := fun x => u64_sr x 1 (by decide) (by decide) (by decide +kernel)
  have r2 : ∀ x : Int, u64 (f_lushr x 2) = u64 x / 4 := fun x => u64_sr x 2 (by decide) (by decide) (by decide +kernel)
  have r4 : ∀ x : Int, u64 (f_lushr x 4) = u64 x / 16 := fun x => u64_sr x 4 (by decide) (by decide) (by decide +kernel)
  have r8 : ∀ x : Int, u64 (f_lushr x 8) = u64 x / 256 := fun x => u64_sr x 8 (by decide) (by decide) (by decide +kernel)
  have r16 : ∀ x : Int, u64 (f_lushr x 16) = u64 x / 65536 := fun x => u64_sr x 16 (by decide) (by decide) (by decide +kernel)
  have r32 : ∀ x : Int, u64 (f_lushr x 32) = u64 x / 4294967296 := fun x => u64_sr x 32 (by decide) (by decide) (by decide +kernel)
  have m1 : u64 6148914691236517205 = mk5 8 := by decide +kernel
  have m2 : u64 3689348814741910323 = mk3 8 := by decide +kernel
  have m3 : u64 1085102592571150095 = mkf 8 := by decide +kernel
  have n2 : mk3 8 = 3689348814741910323 := by decide +kernel
  have k1 : u64 e1 = sw1 8 (u64 a) := by
    have q : u64 (f_land (f_lushr a 1) 6148914691236517205) = u64 a / 2 &&& mk5 8 := by rw [u64_land, r1, m1]
    have q2 : u64 a / 2 &&& mk5 8 ≤ u64 a / 2 := Nat.and_le_left
    rw [← h1, u64_w, u64_sub (by rw [q]; exact Nat.le_trans q2 (Nat.div_le_self _ _)), q]
    rfl
  have k2 : u64 e2 = sw2 8 (u64 e1) := by
    have q : u64 (f_land e1 3689348814741910323) = u64 e1 &&& mk3 8 := by rw [u64_land, m2]
    have q2 : u64 (f_land (f_lushr e1 2) 3689348814741910323) = u64 e1 / 4 &&& mk3 8 := by rw [u64_land, r2, m2]
    have b1 : u64 e1 &&& mk3 8 ≤ mk3 8 := Nat.and_le_right
    have b2 : u64 e1 / 4 &&& mk3 8 ≤ mk3 8 := Nat.and_le_right
    rw [← h2, u64_w, u64_add (by rw [q, q2]; omega), q, q2]
    rfl
  have b3 : u64 e2 ≤ 7378697629483820646 := by
    have b1 : u64 e1 &&& mk3 8 ≤ mk3 8 := Nat.and_le_right
    have b2 : u64 e1 / 4 &&& mk3 8 ≤ mk3 8 := Nat.and_le_right
    rw [k2]
    unfold sw2
    omega
  have k3 : u64 e3 = csv 8 (u64 a) := by
    rw [← h3, u64_land, u64_w, u64_add (by rw [r4]; omega), r4, m3]
    show sw3 8 (u64 e2) = _
    rw [k2, k1]
    exact sw_all 8 _
  have f := csv_f (u := u64 a) k3 (V := u64 e3 + u64 e3 / 256) rfl rfl rfl
  have k4 : u64 e4 = u64 e3 + u64 e3 / 256 := by rw [← h4, u64_w, u64_add (by rw [r8]; omega), r8]
  rw [← k4] at f
  have k5 : u64 e5 = u64 e4 + u64 e4 / 65536 := by rw [← h5, u64_w, u64_add (by rw [r16]; omega), r16]
  rw [← k5] at f
  have k6 : u64 e6 = u64 e5 + u64 e5 / 4294967296 := by rw [← h6, u64_w, u64_add (by rw [r32]; omega), r32]
  rw [← k6] at f
  exact f.1
theorem bc_fin {x : Int} {n : Nat} (h : u64 x % 128 = n) : f_iand (w32 x) 127 = n := by
  unfold f_iand
  rw [pk_and (Int32.ofInt (w32 x)) 7 (by decide +kernel)]
  have e : (Int32.ofInt (w32 x)).toBitVec.toNat % 2 ^ 7 = n := by
    show (BitVec.ofInt 32 (w32 x)).toNat % 2 ^ 7 = n
    rw [BitVec.toNat_ofInt]
    unfold u64 at h
    unfold w32
    omega
  rw [e, nI_toInt (by omega)]
/-! ints -/
section
variable {l : Launch} {K : EC} {d : Nat} {m : MD} {pc : Nat} {ls ls2 : List (Nat × PV)} {st : List PV} {M : Mem} {Q : Mem → Option PV → Prop}
def f_iushr (a b : Int) : Int := ((Int32.ofInt a).toUInt32 >>> ((Int32.ofInt b).toUInt32 &&& Int32.toUInt32 31)).toInt32.toInt
theorem Tr.iushr {a b : Int} (hd : decode m.2.2.1 pc = .ok (.iushr, 1)) (k : Tr l K d m (pc + 1) ls ((0, f_iushr a b) :: st) M Q) : Tr l K d m pc ls ((0, b) :: (0, a) :: st) M Q :=
  Tr.up (fun _ _ => Ends.sk (fun hM hst hls => oks_c (ok0 (i32_b _)) (oks_t (oks_t hst))) (fun p e R s mid args below meth c H locs cells slots lsA Q hX hf hg hR hM hst hls hS hlv k => lv_iushr (x := Int32.ofInt a) (y := Int32.ofInt b) (v := Int32.ofInt (f_iushr a b)) hX.1 hX.2.1 hd (Int32.ofInt_toInt _).symm k)) k
end
def bcI (a : Int) : Int :=
  let e1 := w32 (a - f_iand (f_iushr a 1) 1431655765)
  let e2 := w32 (f_iand e1 858993459 + f_iand (f_iushr e1 2) 858993459)
  let e3 := f_iand (w32 (e2 + f_iushr e2 4)) 252645135
  let e4 := w32 (e3 + f_iushr e3 8)
  let e5 := w32 (e4 + f_iushr e4 16)
  f_iand e5 63
theorem bcI_t : ∀ k : Fin 256, bcI ((k.val : Nat) : Int) = pop ((k.val : Nat) : Int) ∧ pop ((k.val : Nat) : Int) ≤ 8 := by decide +kernel
theorem bcI_p {a : Int} (h : 0 ≤ a ∧ a ≤ 255) : bcI a = pop a ∧ pop a ≤ 8 := by
  obtain ⟨k, rfl⟩ : ∃ k : Nat, a = k := ⟨a.toNat, by omega⟩
  exact bcI_t ⟨k, by omega⟩
